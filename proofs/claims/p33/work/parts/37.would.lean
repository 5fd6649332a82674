/-! ===== the law: what would be ===== -/
theorem zgA {G : va_G} {T : Nat → ClassId} {b n : Nat} {q : Nat} (h : gA (zE G T b n) q) : zA b q := by
  obtain ⟨k, -, rfl⟩ := h
  exact Nat.le_add_right b k
theorem zgH {G : va_G} {T : Nat → ClassId} {b n : Nat} {g : Mem} {H : Heap} (h : gP (zE G T b (n + 1)) g H) : b ≤ H.size := by
  have h1 : b + 0 < H.size := (h 0 _ (gW_at (show 0 < eK (zE G T b (n + 1)) from Nat.succ_pos n))).lt
  omega
/-- one row more, two rows more, behind the law's own -/
def zX1 (G : va_G) (T : Nat → ClassId) (b a : Nat) : gE := (G, T, fun k => if k = 104 then a else b + k, 105)
def zX2 (G : va_G) (T : Nat → ClassId) (b a a2 : Nat) : gE := (G, T, fun k => if k = 105 then a2 else if k = 104 then a else b + k, 106)
theorem zX1_add (G : va_G) (T : Nat → ClassId) (b a : Nat) : (zX1 G T b a).1 = (zE G T b 104).1 ∧ (zX1 G T b a).2.1 = (zE G T b 104).2.1 ∧ eK (zX1 G T b a) = eK (zE G T b 104) + 1 ∧ eA (zX1 G T b a) (eK (zE G T b 104)) = a ∧ ∀ k, k < eK (zE G T b 104) → eA (zX1 G T b a) k = eA (zE G T b 104) k :=
  ⟨rfl, rfl, rfl, rfl, fun k hk => if_neg (by have hk' : k < 104 := hk; omega)⟩
theorem zX2_add (G : va_G) (T : Nat → ClassId) (b a a2 : Nat) : (zX2 G T b a a2).1 = (zX1 G T b a).1 ∧ (zX2 G T b a a2).2.1 = (zX1 G T b a).2.1 ∧ eK (zX2 G T b a a2) = eK (zX1 G T b a) + 1 ∧ eA (zX2 G T b a a2) (eK (zX1 G T b a)) = a2 ∧ ∀ k, k < eK (zX1 G T b a) → eA (zX2 G T b a a2) k = eA (zX1 G T b a) k :=
  ⟨rfl, rfl, rfl, rfl, fun k hk => if_neg (by have hk' : k < 105 := hk; omega)⟩
theorem zs1 (G : va_G) (T : Nat → ClassId) (b : Nat) : eSub (zE G T b 100) (zE G T b 104) := ⟨rfl, rfl, (by decide : 100 ≤ 104), fun _ _ => rfl⟩
theorem zs2 (G : va_G) (T : Nat → ClassId) (b a : Nat) : eSub (zE G T b 100) (zX1 G T b a) := ⟨rfl, rfl, (by decide : 100 ≤ 105), fun k hk => (if_neg (by have hk' : k < 100 := hk; omega)).symm⟩
theorem zs3 (G : va_G) (T : Nat → ClassId) (b a a2 : Nat) : eSub (zE G T b 100) (zX2 G T b a a2) := ⟨rfl, rfl, (by decide : 100 ≤ 106), fun k hk => by
  have hk' : k < 100 := hk
  show b + k = if k = 105 then a2 else if k = 104 then a else b + k
  rw [if_neg (by omega), if_neg (by omega)]⟩
section LWQ
variable {Ec E E2 : gE} {g g2 : Mem} {S : AS} {c r h p : Nat → Int32}
theorem LWP.of (q : LWP Ec E g S c r h p) (e : ∀ j, j < 104 → g2 j = g j) : LWP Ec E g2 S c r h p := by
  obtain ⟨h1, h2, h3, h4, h5, h6, h7, h8⟩ := q
  exact ⟨h1, h2, h3, h4.keep (fun k hk => e k (by omega)), (e _ (by decide)).trans h5, (e _ (by decide)).trans h6, (e _ (by decide)).trans h7, (e _ (by decide)).trans h8⟩
theorem LWP.to (q : LWP Ec E g S c r h p) (hs : eSub Ec E2) (hk : 104 ≤ eK E2) (ht : E2.2.1 = E.2.1) : LWP Ec E2 g S c r h p := by
  obtain ⟨h1, h2, h3, h4, h5, h6, h7, h8⟩ := q
  have e : ∀ n f, aI E2 0 n f = aI E 0 n f := fun n f => by unfold aI eT; rw [ht]
  exact ⟨hs, h2, hk, h4, by rw [e]; exact h5, by rw [e]; exact h6, by rw [e]; exact h7, by rw [e]; exact h8⟩
end LWQ
theorem RgL.cg {ρ : Row} {B : Nat} {r r2 : Nat → Int32} {a K : Nat → Nat} {M : Nat} (hv : Vr ρ B) (q : RgL ρ r a K M) (e : ∀ j, j < 56 → r2 j = r j) : RgL ρ r2 a K M := by
  have h6 := hv.1.2
  refine ⟨(e 0 (by decide)).trans q.n, fun k hk => ?_⟩
  exact ⟨(e _ (by omega)).trans (q.f0 hk), (e _ (by omega)).trans (q.f1 hk), (e _ (by omega)).trans (q.f2 hk), (e _ (by omega)).trans (q.f3 hk), (e _ (by omega)).trans (q.f4 hk), (e _ (by omega)).trans (q.f5 hk), (e _ (by omega)).trans (q.f6 hk), q.md hk, q.dv hk, q.le hk⟩
theorem GlL.cg {ρ : Row} {B : Nat} {h h2 : Nat → Int32} (hv : Vr ρ B) (q : GlL ρ h) (e : ∀ j, j < 20 → h2 j = h j) : GlL ρ h2 := by
  have h4 := hv.2.1.2
  exact ⟨(e 0 (by decide)).trans q.n, (e 1 (by decide)).trans q.t, (e 2 (by decide)).trans q.s, fun k hk => ⟨(e _ (by omega)).trans (q.f0 hk), (e _ (by omega)).trans (q.f1 hk), (e _ (by omega)).trans (q.f2 hk), (e _ (by omega)).trans (q.f3 hk)⟩⟩
theorem co_tk {ρ : Row} {c : Nat → Int32} {t : Nat} (q : CoL ρ c) : CoL (tkR ρ t) c := fun k hk => (q k hk).trans (tkR_lo (by omega)).symm
theorem vc_tk {ρ : Row} {B t : Nat} (hv : Vr ρ B) (q : VC ρ) : VC (tkR ρ t) := by
  have hrc := hv.1.2
  refine ⟨fun k hk => by rw [tkR_lo (by omega)]; exact q.1 k hk, fun i hi => ?_⟩
  rw [tkR_gc hrc] at hi
  rw [(tk_gl (a := t) hv hi).2.2.2]
  exact q.2 i hi
/-- the nearest place, looked for from the last one on -/
def nrD (sh : Nat → Int32) (c : Int32) : Nat → Nat
  | 0 => 0
  | d + 1 => if cDist (sh (31 - d)) c ≤ cDist (sh (nrD sh c d)) c then 31 - d else nrD sh c d
theorem nrD_i (sh : Nat → Int32) (c : Int32) : ∀ d, d ≤ 32 → (nrD sh c d = 0 ∨ 32 - d ≤ nrD sh c d) ∧ nrD sh c d ≤ 31 ∧ (∀ i, 32 - d ≤ i → i ≤ 31 → cDist (sh (nrD sh c d)) c ≤ cDist (sh i) c) ∧ ∀ i, 32 - d ≤ i → i < nrD sh c d → cDist (sh (nrD sh c d)) c < cDist (sh i) c
  | 0, _ => ⟨Or.inl rfl, Nat.zero_le 31, fun i h1 h2 => by omega, fun i h1 h2 => absurd h2 (Nat.not_lt_zero i)⟩
  | d + 1, hd => by
    obtain ⟨h1, h2, h3, h4⟩ := nrD_i sh c d (by omega)
    rw [nrD]
    simp only [Int32.le_iff_toInt_le, Int32.lt_iff_toInt_lt] at *
    split
    · rename_i q
      refine ⟨Or.inr (by omega), by omega, fun i a1 a2 => ?_, fun i a1 a2 => by omega⟩
      by_cases e : i = 31 - d
      · rw [e]; exact Int.le_refl _
      · exact Int.le_trans q (h3 i (by omega) a2)
    · rename_i q
      refine ⟨by omega, h2, fun i a1 a2 => ?_, fun i a1 a2 => ?_⟩
      · by_cases e : i = 31 - d
        · rw [e]; omega
        · exact h3 i (by omega) a2
      · by_cases e : i = 31 - d
        · rw [e]; omega
        · exact h4 i (by omega) a2
theorem nrN_i (sh : Nat → Int32) (c : Int32) : ∀ k, (∀ i, i ≤ k → cDist (sh (nrN sh c k)) c ≤ cDist (sh i) c) ∧ ∀ i, i < nrN sh c k → cDist (sh (nrN sh c k)) c < cDist (sh i) c
  | 0 => by
    refine ⟨fun i hi => ?_, fun i hi => absurd hi (Nat.not_lt_zero i)⟩
    obtain rfl : i = 0 := by omega
    exact Int32.le_refl _
  | k + 1 => by
    obtain ⟨h1, h2⟩ := nrN_i sh c k
    have hl := nrN_le sh c k
    rw [nrN]
    simp only [Int32.le_iff_toInt_le, Int32.lt_iff_toInt_lt] at *
    split
    · rename_i q
      refine ⟨fun i hi => ?_, fun i hi => ?_⟩
      · by_cases e : i = k + 1
        · rw [e]; exact Int.le_refl _
        · have := h1 i (by omega); omega
      · have := h1 i (by omega); omega
    · rename_i q
      refine ⟨fun i hi => ?_, h2⟩
      by_cases e : i = k + 1
      · rw [e]; omega
      · exact h1 i (by omega)
theorem nr_eq (sh : Nat → Int32) (c : Int32) : nrD sh c 32 = nrN sh c 31 := by
  obtain ⟨-, h2, h3, h4⟩ := nrD_i sh c 32 (Nat.le_refl _)
  obtain ⟨k1, k2⟩ := nrN_i sh c 31
  have hl := nrN_le sh c 31
  simp only [Int32.le_iff_toInt_le, Int32.lt_iff_toInt_lt] at *
  rcases Nat.lt_trichotomy (nrD sh c 32) (nrN sh c 31) with h | h | h
  · have := k2 _ h
    have := h3 (nrN sh c 31) (by omega) hl
    omega
  · exact h
  · have := h4 _ (by omega) h
    have := k1 (nrD sh c 32) h2
    omega
theorem chN_s {ρ : Row} {t k : Nat} : cn (k + 1) (fun p => decide (¬ shd ρ (px ρ p) 0 = shd ρ (px ρ p) t)) = cn k (fun p => decide (¬ shd ρ (px ρ p) 0 = shd ρ (px ρ p) t)) + if shd ρ (px ρ k) 0 = shd ρ (px ρ k) t then 0 else 1 := by
  rw [cn_s]
  by_cases e : shd ρ (px ρ k) 0 = shd ρ (px ρ k) t <;> simp [e]
theorem qSi {S : AS} {k t : Nat} (hk : k < 32) (ht : t ≤ 1000) : qShownIn S (nI k) (nI t) = shd S.r k t := by
  unfold qShownIn
  rw [if_pos (by rw [tI (by omega)]; omega), if_pos (by rw [tI (by omega)]; omega), nn_I (by omega), nn_I (by omega)]
theorem qCh {S : AS} {t : Nat} (ht : t ≤ 1000) : qChanges S (nI t) = nI (chC S.r t) := by
  unfold qChanges
  rw [if_pos (by rw [tI (by omega)]; omega), nn_I (by omega)]
theorem qNr {S : AS} {z : Nat} (hz : z < 262144) : nrQ S (nI z) = nI (nrN (shS S.r) (nI z) 31) := by
  unfold nrQ
  rw [if_pos (by rw [tI (by omega)]; omega)]
theorem dL_would_0 : decode cL_would 0 = .ok (.iload 5, 2) := by decide +kernel
theorem dL_would_2 : decode cL_would 2 = .ok (.iload 5, 2) := by decide +kernel
theorem dL_would_4 : decode cL_would 4 = .ok (.iconst 3, 1) := by decide +kernel
theorem dL_would_5 : decode cL_would 5 = .ok (.ishr, 1) := by decide +kernel
theorem dL_would_6 : decode cL_would 6 = .ok (.iconst 3, 1) := by decide +kernel
theorem dL_would_7 : decode cL_would 7 = .ok (.invokestatic 64, 3) := by decide +kernel
theorem dL_would_10 : decode cL_would 10 = .ok (.ifCond .ne 9, 3) := by decide +kernel
theorem dL_would_13 : decode cL_would 13 = .ok (.sipush 1001, 3) := by decide +kernel
theorem dL_would_16 : decode cL_would 16 = .ok (.goto 5, 3) := by decide +kernel
theorem dL_would_19 : decode cL_would 19 = .ok (.bipush 40, 2) := by decide +kernel
theorem dL_would_21 : decode cL_would 21 = .ok (.invokestatic 64, 3) := by decide +kernel
theorem dL_would_24 : decode cL_would 24 = .ok (.istore 6, 2) := by decide +kernel
theorem dL_would_26 : decode cL_would 26 = .ok (.iload 5, 2) := by decide +kernel
theorem dL_would_28 : decode cL_would 28 = .ok (.iconst 5, 1) := by decide +kernel
theorem dL_would_29 : decode cL_would 29 = .ok (.ishr, 1) := by decide +kernel
theorem dL_would_30 : decode cL_would 30 = .ok (.bipush 32, 2) := by decide +kernel
theorem dL_would_32 : decode cL_would 32 = .ok (.invokestatic 64, 3) := by decide +kernel
theorem dL_would_35 : decode cL_would 35 = .ok (.istore 7, 2) := by decide +kernel
theorem dL_would_37 : decode cL_would 37 = .ok (.iload 5, 2) := by decide +kernel
theorem dL_would_39 : decode cL_would 39 = .ok (.iconst 2, 1) := by decide +kernel
theorem dL_would_40 : decode cL_would 40 = .ok (.ishr, 1) := by decide +kernel
theorem dL_would_41 : decode cL_would 41 = .ok (.ldc 67, 2) := by decide +kernel
theorem dL_would_43 : decode cL_would 43 = .ok (.invokestatic 64, 3) := by decide +kernel
theorem dL_would_46 : decode cL_would 46 = .ok (.istore 8, 2) := by decide +kernel
theorem dL_would_48 : decode cL_would 48 = .ok (.bipush 56, 2) := by decide +kernel
theorem dL_would_50 : decode cL_would 50 = .ok (.newarray .int, 2) := by decide +kernel
theorem dL_would_52 : decode cL_would 52 = .ok (.astore 9, 2) := by decide +kernel
theorem dL_would_54 : decode cL_would 54 = .ok (.bipush 20, 2) := by decide +kernel
theorem dL_would_56 : decode cL_would 56 = .ok (.newarray .int, 2) := by decide +kernel
theorem dL_would_58 : decode cL_would 58 = .ok (.astore 10, 2) := by decide +kernel
theorem dL_would_60 : decode cL_would 60 = .ok (.aload_n 2, 1) := by decide +kernel
theorem dL_would_61 : decode cL_would 61 = .ok (.aload 9, 2) := by decide +kernel
theorem dL_would_63 : decode cL_would 63 = .ok (.bipush 56, 2) := by decide +kernel
theorem dL_would_65 : decode cL_would 65 = .ok (.invokestatic 68, 3) := by decide +kernel
theorem dL_would_68 : decode cL_would 68 = .ok (.aload_n 3, 1) := by decide +kernel
theorem dL_would_69 : decode cL_would 69 = .ok (.aload 10, 2) := by decide +kernel
theorem dL_would_71 : decode cL_would 71 = .ok (.bipush 20, 2) := by decide +kernel
theorem dL_would_73 : decode cL_would 73 = .ok (.invokestatic 68, 3) := by decide +kernel
theorem dL_would_76 : decode cL_would 76 = .ok (.aload 9, 2) := by decide +kernel
theorem dL_would_78 : decode cL_would 78 = .ok (.aload 10, 2) := by decide +kernel
theorem dL_would_80 : decode cL_would 80 = .ok (.iload 6, 2) := by decide +kernel
theorem dL_would_82 : decode cL_would 82 = .ok (.invokestatic 72, 3) := by decide +kernel
theorem dL_would_85 : decode cL_would 85 = .ok (.istore 11, 2) := by decide +kernel
theorem dL_would_87 : decode cL_would 87 = .ok (.iconst 0, 1) := by decide +kernel
theorem dL_would_88 : decode cL_would 88 = .ok (.istore 12, 2) := by decide +kernel
theorem dL_would_90 : decode cL_would 90 = .ok (.iconst 0, 1) := by decide +kernel
theorem dL_would_91 : decode cL_would 91 = .ok (.istore 13, 2) := by decide +kernel
theorem dL_would_93 : decode cL_would 93 = .ok (.iconst 0, 1) := by decide +kernel
theorem dL_would_94 : decode cL_would 94 = .ok (.istore 14, 2) := by decide +kernel
theorem dL_would_96 : decode cL_would 96 = .ok (.iload 14, 2) := by decide +kernel
theorem dL_would_98 : decode cL_would 98 = .ok (.bipush 64, 2) := by decide +kernel
theorem dL_would_100 : decode cL_would 100 = .ok (.if_icmp .ge 46, 3) := by decide +kernel
theorem dL_would_103 : decode cL_would 103 = .ok (.iload 12, 2) := by decide +kernel
theorem dL_would_105 : decode cL_would 105 = .ok (.aload_n 1, 1) := by decide +kernel
theorem dL_would_106 : decode cL_would 106 = .ok (.aload_n 2, 1) := by decide +kernel
theorem dL_would_107 : decode cL_would 107 = .ok (.aload_n 3, 1) := by decide +kernel
theorem dL_would_108 : decode cL_would 108 = .ok (.aload 4, 2) := by decide +kernel
theorem dL_would_110 : decode cL_would 110 = .ok (.iload 14, 2) := by decide +kernel
theorem dL_would_112 : decode cL_would 112 = .ok (.iaload, 1) := by decide +kernel
theorem dL_would_113 : decode cL_would 113 = .ok (.invokestatic 50, 3) := by decide +kernel
theorem dL_would_116 : decode cL_would 116 = .ok (.aload_n 1, 1) := by decide +kernel
theorem dL_would_117 : decode cL_would 117 = .ok (.aload 9, 2) := by decide +kernel
theorem dL_would_119 : decode cL_would 119 = .ok (.aload 10, 2) := by decide +kernel
theorem dL_would_121 : decode cL_would 121 = .ok (.aload 4, 2) := by decide +kernel
theorem dL_would_123 : decode cL_would 123 = .ok (.iload 14, 2) := by decide +kernel
theorem dL_would_125 : decode cL_would 125 = .ok (.iaload, 1) := by decide +kernel
theorem dL_would_126 : decode cL_would 126 = .ok (.invokestatic 50, 3) := by decide +kernel
theorem dL_would_129 : decode cL_would 129 = .ok (.if_icmp .ne 7, 3) := by decide +kernel
theorem dL_would_132 : decode cL_would 132 = .ok (.iconst 0, 1) := by decide +kernel
theorem dL_would_133 : decode cL_would 133 = .ok (.goto 4, 3) := by decide +kernel
theorem dL_would_136 : decode cL_would 136 = .ok (.iconst 1, 1) := by decide +kernel
theorem dL_would_137 : decode cL_would 137 = .ok (.iadd, 1) := by decide +kernel
theorem dL_would_138 : decode cL_would 138 = .ok (.istore 12, 2) := by decide +kernel
theorem dL_would_140 : decode cL_would 140 = .ok (.iinc 14 1, 3) := by decide +kernel
theorem dL_would_143 : decode cL_would 143 = .ok (.goto (-47), 3) := by decide +kernel
theorem dL_would_146 : decode cL_would 146 = .ok (.bipush 31, 2) := by decide +kernel
theorem dL_would_148 : decode cL_would 148 = .ok (.istore 14, 2) := by decide +kernel
theorem dL_would_150 : decode cL_would 150 = .ok (.iload 14, 2) := by decide +kernel
theorem dL_would_152 : decode cL_would 152 = .ok (.ifCond .lt 47, 3) := by decide +kernel
theorem dL_would_155 : decode cL_would 155 = .ok (.aload_n 1, 1) := by decide +kernel
theorem dL_would_156 : decode cL_would 156 = .ok (.aload_n 2, 1) := by decide +kernel
theorem dL_would_157 : decode cL_would 157 = .ok (.aload_n 3, 1) := by decide +kernel
theorem dL_would_158 : decode cL_would 158 = .ok (.iload 14, 2) := by decide +kernel
theorem dL_would_160 : decode cL_would 160 = .ok (.invokestatic 50, 3) := by decide +kernel
theorem dL_would_163 : decode cL_would 163 = .ok (.iload 8, 2) := by decide +kernel
theorem dL_would_165 : decode cL_would 165 = .ok (.invokestatic 53, 3) := by decide +kernel
theorem dL_would_168 : decode cL_would 168 = .ok (.aload_n 1, 1) := by decide +kernel
theorem dL_would_169 : decode cL_would 169 = .ok (.aload_n 2, 1) := by decide +kernel
theorem dL_would_170 : decode cL_would 170 = .ok (.aload_n 3, 1) := by decide +kernel
theorem dL_would_171 : decode cL_would 171 = .ok (.iload 13, 2) := by decide +kernel
theorem dL_would_173 : decode cL_would 173 = .ok (.invokestatic 50, 3) := by decide +kernel
theorem dL_would_176 : decode cL_would 176 = .ok (.iload 8, 2) := by decide +kernel
theorem dL_would_178 : decode cL_would 178 = .ok (.invokestatic 53, 3) := by decide +kernel
theorem dL_would_181 : decode cL_would 181 = .ok (.if_icmp .gt 8, 3) := by decide +kernel
theorem dL_would_184 : decode cL_would 184 = .ok (.iload 14, 2) := by decide +kernel
theorem dL_would_186 : decode cL_would 186 = .ok (.goto 5, 3) := by decide +kernel
theorem dL_would_189 : decode cL_would 189 = .ok (.iload 13, 2) := by decide +kernel
theorem dL_would_191 : decode cL_would 191 = .ok (.istore 13, 2) := by decide +kernel
theorem dL_would_193 : decode cL_would 193 = .ok (.iinc 14 (-1), 3) := by decide +kernel
theorem dL_would_196 : decode cL_would 196 = .ok (.goto (-46), 3) := by decide +kernel
theorem dL_would_199 : decode cL_would 199 = .ok (.iload 11, 2) := by decide +kernel
theorem dL_would_201 : decode cL_would 201 = .ok (.ifCond .lt 50, 3) := by decide +kernel
theorem dL_would_204 : decode cL_would 204 = .ok (.aload_n 0, 1) := by decide +kernel
theorem dL_would_205 : decode cL_would 205 = .ok (.iload 7, 2) := by decide +kernel
theorem dL_would_207 : decode cL_would 207 = .ok (.iload 6, 2) := by decide +kernel
theorem dL_would_209 : decode cL_would 209 = .ok (.invokevirtual 76, 3) := by decide +kernel
theorem dL_would_212 : decode cL_would 212 = .ok (.aload_n 1, 1) := by decide +kernel
theorem dL_would_213 : decode cL_would 213 = .ok (.aload 9, 2) := by decide +kernel
theorem dL_would_215 : decode cL_would 215 = .ok (.aload 10, 2) := by decide +kernel
theorem dL_would_217 : decode cL_would 217 = .ok (.iload 7, 2) := by decide +kernel
theorem dL_would_219 : decode cL_would 219 = .ok (.invokestatic 50, 3) := by decide +kernel
theorem dL_would_222 : decode cL_would 222 = .ok (.if_icmp .ne 29, 3) := by decide +kernel
theorem dL_would_225 : decode cL_would 225 = .ok (.aload_n 0, 1) := by decide +kernel
theorem dL_would_226 : decode cL_would 226 = .ok (.iload 6, 2) := by decide +kernel
theorem dL_would_228 : decode cL_would 228 = .ok (.invokevirtual 79, 3) := by decide +kernel
theorem dL_would_231 : decode cL_would 231 = .ok (.iload 12, 2) := by decide +kernel
theorem dL_would_233 : decode cL_would 233 = .ok (.if_icmp .ne 18, 3) := by decide +kernel
theorem dL_would_236 : decode cL_would 236 = .ok (.aload_n 0, 1) := by decide +kernel
theorem dL_would_237 : decode cL_would 237 = .ok (.iload 8, 2) := by decide +kernel
theorem dL_would_239 : decode cL_would 239 = .ok (.invokevirtual 82, 3) := by decide +kernel
theorem dL_would_242 : decode cL_would 242 = .ok (.iload 13, 2) := by decide +kernel
theorem dL_would_244 : decode cL_would 244 = .ok (.if_icmp .ne 7, 3) := by decide +kernel
theorem dL_would_247 : decode cL_would 247 = .ok (.iconst 1, 1) := by decide +kernel
theorem dL_would_248 : decode cL_would 248 = .ok (.goto 4, 3) := by decide +kernel
theorem dL_would_251 : decode cL_would 251 = .ok (.iconst 0, 1) := by decide +kernel
theorem dL_would_252 : decode cL_would 252 = .ok (.ireturn, 1) := by decide +kernel
set_option maxHeartbeats 4000000 in
set_option maxRecDepth 100000 in
theorem w_would2 (l : Launch) (E : gE) (X : gX) (Ec E1 : gE) (g : Mem) (S : AS) (c r h p : Nat → Int32) (hL : LWP Ec E g S c r h p) (hk6 : eK E = 106) (hs1 : eSub Ec E1) (hk1 : 104 ≤ eK E1) (ht1 : E1.2.1 = E.2.1) (B M : Nat) (hB : B ≤ 9000000) (hM : M ≤ 90000000) (ho : OK S B) (a K : Nat → Nat) (hq : RgL S.r r a K M) (hg : GlL S.r h) (hcl : CoL S.r c) (hvc : VC S.r) (hpi : PiL S.r p) (x : Int32) (t q z : Nat) (ht : t ≤ 1000) (hq32 : q < 32) (hz : z < 262144) (z104 z105 : Nat → Int32) (h104 : g 104 = aI E 0 56 z104) (h105 : g 105 = aI E 0 20 z105) (hC : yC l E X RXL cL_would 15 (some .boolean) 6 140) : Y l E X (pI (fun z g' => z = nI 1 ∧ LWP Ec E1 g' S c r h p)) 60 [some (rf E (0)), some (rf E (100)), some (rf E (101)), some (rf E (102)), some (rf E (103)), some (.int (x)), some (.int (nI (t))), some (.int (nI (q))), some (.int (nI (z))), some (rf E (104)), some (rf E (105)), none, none, none, none] [] g := by
  replace hB : B ≤ 9000000 := hB
  have hB2 : B ≤ 10000000 := by omega
  have hM2 : M ≤ 100000000 := by omega
  have hv := ho.v
  have hrc : rc S.r ≤ 6 := hv.1.2
  have hgc : gc S.r ≤ 4 := hv.2.1.2
  have hml0 := sm_mle (t := t) hv (rc S.r) (Nat.le_refl _)
  rw [← made_S] at hml0
  have hchb : chC S.r t ≤ 64 := cn_le _ _
  have hnb1 := nrN_le (shS S.r) (nI z) 31
  have hnb2 := (nrD_i (shS S.r) (nI z) 32 (Nat.le_refl _)).2.1
  have hsq := sN_l hv hvc hq32
  refine y_aload_n hC dL_would_60 (i := 2) rfl rfl ?_
  refine y_aload hC dL_would_61 rfl ?_
  refine y_bipush (v := nI 56) hC dL_would_63 (by decide) ?_
  refine y_callS hC mL_copy kXL_68 dL_would_65 (As := [rf E (101), rf E (104), .int (nI (56))]) (rest := []) (c_L_copy l E g 101 104 56 56 (by omega) (by omega) (by decide) r z104 hL.a101 h104 (by decide) (by decide)) rfl rfl rfl (Nat.le_of_ble_eq_true rfl) ⟨Nat.le_of_ble_eq_true rfl, Nat.le_of_ble_eq_true rfl⟩ (pk_v ?_)
  rintro g_65 ⟨h9_65, ho_65⟩
  have hL_65 := hL.of (g2 := g_65) (fun j hj => ho_65 j (by omega))
  have hx_65 := (ho_65 105 (by decide)).trans (h105)
  refine y_aload_n hC dL_would_68 (i := 3) rfl rfl ?_
  refine y_aload hC dL_would_69 rfl ?_
  refine y_bipush (v := nI 20) hC dL_would_71 (by decide) ?_
  refine y_callS hC mL_copy kXL_68 dL_would_73 (As := [rf E (102), rf E (105), .int (nI (20))]) (rest := []) (c_L_copy l E g_65 102 105 20 20 (by omega) (by omega) (by decide) h z105 hL_65.a102 hx_65 (by decide) (by decide)) rfl rfl rfl (Nat.le_of_ble_eq_true rfl) ⟨Nat.le_of_ble_eq_true rfl, Nat.le_of_ble_eq_true rfl⟩ (pk_v ?_)
  rintro g_73 ⟨h9_73, ho_73⟩
  have hL_73 := hL_65.of (g2 := g_73) (fun j hj => ho_73 j (by omega))
  have hx_73 := (ho_73 104 (by decide)).trans (h9_65)
  refine y_aload hC dL_would_76 rfl ?_
  refine y_aload hC dL_would_78 rfl ?_
  refine y_iload hC dL_would_80 rfl ?_
  refine y_callS hC mL_passes kXL_72 dL_would_82 (As := [rf E (104), rf E (105), .int (nI (t))]) (rest := []) (c_L_passes l E g_73 104 105 (by omega) (by omega) (by decide) (cpF r z104 56) (cpF h z105 20) hx_73 h9_73 S.r B M hv hB2 hM2 a K (hq.cg hv (fun j hj => if_pos hj)) (hg.cg hv (fun j hj => if_pos hj)) t ht) rfl rfl rfl (Nat.le_of_ble_eq_true rfl) ⟨Nat.le_of_ble_eq_true rfl, Nat.le_of_ble_eq_true rfl⟩ (pk_i ?_)
  rintro r_82 g_82 ⟨hr_82, r9, h9, a9, h104_82, h105_82, ho_82, hq9, hg9⟩
  rw [hr_82]
  clear hr_82 r_82
  have hL_82 := hL_73.of (g2 := g_82) (fun j hj => ho_82 j (by omega) (by omega))
  refine y_istore hC dL_would_85 (Nat.le_of_ble_eq_true rfl) rfl (lo' := [some (rf E (0)), some (rf E (100)), some (rf E (101)), some (rf E (102)), some (rf E (103)), some (.int (x)), some (.int (nI (t))), some (.int (nI (q))), some (.int (nI (z))), some (rf E (104)), some (rf E (105)), some (.int (nI (made S.r t))), none, none, none]) rfl ?_
  refine y_iconst (v := nI 0) hC dL_would_87 (by decide) ?_
  refine y_istore hC dL_would_88 (Nat.le_of_ble_eq_true rfl) rfl (lo' := [some (rf E (0)), some (rf E (100)), some (rf E (101)), some (rf E (102)), some (rf E (103)), some (.int (x)), some (.int (nI (t))), some (.int (nI (q))), some (.int (nI (z))), some (rf E (104)), some (rf E (105)), some (.int (nI (made S.r t))), some (.int (nI (0))), none, none]) rfl ?_
  refine y_iconst (v := nI 0) hC dL_would_90 (by decide) ?_
  refine y_istore hC dL_would_91 (Nat.le_of_ble_eq_true rfl) rfl (lo' := [some (rf E (0)), some (rf E (100)), some (rf E (101)), some (rf E (102)), some (rf E (103)), some (.int (x)), some (.int (nI (t))), some (.int (nI (q))), some (.int (nI (z))), some (rf E (104)), some (rf E (105)), some (.int (nI (made S.r t))), some (.int (nI (0))), some (.int (nI (0))), none]) rfl ?_
  refine y_iconst (v := nI 0) hC dL_would_93 (by decide) ?_
  refine y_istore hC dL_would_94 (Nat.le_of_ble_eq_true rfl) rfl (lo' := [some (rf E (0)), some (rf E (100)), some (rf E (101)), some (rf E (102)), some (rf E (103)), some (.int (x)), some (.int (nI (t))), some (.int (nI (q))), some (.int (nI (z))), some (rf E (104)), some (rf E (105)), some (.int (nI (made S.r t))), some (.int (nI (0))), some (.int (nI (0))), some (.int (nI (0)))]) rfl ?_
  have L_96 : ∀ (m : Nat) (k : Nat), (hm : 64 - k < m) → (hk : k ≤ 64) → Y l E X (pI (fun z g' => z = nI 1 ∧ LWP Ec E1 g' S c r h p)) 96 [some (rf E (0)), some (rf E (100)), some (rf E (101)), some (rf E (102)), some (rf E (103)), some (.int (x)), some (.int (nI (t))), some (.int (nI (q))), some (.int (nI (z))), some (rf E (104)), some (rf E (105)), some (.int (nI (made S.r t))), some (.int (nI (cn k (fun p => decide (¬ shd S.r (px S.r p) 0 = shd S.r (px S.r p) t))))), some (.int (nI (0))), some (.int (nI (k)))] [] g_82 := by
    intro m
    induction m with
    | zero => intro k hm hk; exact absurd hm (Nat.not_lt_zero _)
    | succ m ih_96 =>
      intro k hm hk
      refine y_iload hC dL_would_96 rfl ?_
      refine y_bipush (v := nI 64) hC dL_would_98 (by decide) ?_
      refine y_icmp_ge_n (tgt := 146) hC dL_would_100 (by decide) (by omega) (by omega) (fun c_100 => ?_) (fun c_100 => ?_)
      · obtain rfl : k = 64 := by omega
        refine y_lo (lo' := [some (rf E (0)), some (rf E (100)), some (rf E (101)), some (rf E (102)), some (rf E (103)), some (.int (x)), some (.int (nI (t))), some (.int (nI (q))), some (.int (nI (z))), some (rf E (104)), some (rf E (105)), some (.int (nI (made S.r t))), some (.int (nI (chC S.r t))), some (.int (nI (0))), some (.int (nI (64)))]) rfl ?_
        refine y_bipush (v := nI 31) hC dL_would_146 (by decide) ?_
        refine y_istore hC dL_would_148 (Nat.le_of_ble_eq_true rfl) rfl (lo' := [some (rf E (0)), some (rf E (100)), some (rf E (101)), some (rf E (102)), some (rf E (103)), some (.int (x)), some (.int (nI (t))), some (.int (nI (q))), some (.int (nI (z))), some (rf E (104)), some (rf E (105)), some (.int (nI (made S.r t))), some (.int (nI (chC S.r t))), some (.int (nI (0))), some (.int (nI (31)))]) rfl ?_
        refine y_lo (lo' := [some (rf E (0)), some (rf E (100)), some (rf E (101)), some (rf E (102)), some (rf E (103)), some (.int (x)), some (.int (nI (t))), some (.int (nI (q))), some (.int (nI (z))), some (rf E (104)), some (rf E (105)), some (.int (nI (made S.r t))), some (.int (nI (chC S.r t))), some (.int (nI (nrD (shS S.r) (nI z) (0)))), some (.int (nI (32 - 0) - nI 1))]) (by rw [show nI (32 - 0) - nI 1 = nI 31 from by decide]; rfl) ?_
        have L_150 : ∀ (m : Nat) (d : Nat), (hm : 32 - d < m) → (hd : d ≤ 32) → Y l E X (pI (fun z g' => z = nI 1 ∧ LWP Ec E1 g' S c r h p)) 150 [some (rf E (0)), some (rf E (100)), some (rf E (101)), some (rf E (102)), some (rf E (103)), some (.int (x)), some (.int (nI (t))), some (.int (nI (q))), some (.int (nI (z))), some (rf E (104)), some (rf E (105)), some (.int (nI (made S.r t))), some (.int (nI (chC S.r t))), some (.int (nI (nrD (shS S.r) (nI z) (d)))), some (.int (nI (32 - d) - nI 1))] [] g_82 := by
          intro m
          induction m with
          | zero => intro d hm hd; exact absurd hm (Nat.not_lt_zero _)
          | succ m ih_150 =>
            intro d hm hd
            refine y_iload hC dL_would_150 rfl ?_
            refine y_if_lt (tgt := 199) hC dL_would_152 (by decide) (fun c_152 => ?_) (fun c_152 => ?_)
            · obtain rfl : d = 32 := by
                by_cases e : d = 32
                · exact e
                · exfalso
                  rw [show nI (32 - d) - nI 1 = nI (32 - d - 1) from pk_sub (by omega)] at c_152
                  exact absurd c_152 (nI_pos (by omega))
              refine y_iload hC dL_would_199 rfl ?_
              refine y_if_lt_n (tgt := 251) hC dL_would_201 (by decide) (by omega) (fun c_201 => ?_) (fun c_201 => ?_)
              · exfalso
                omega
              · refine y_aload_n hC dL_would_204 (i := 0) rfl rfl ?_
                refine y_iload hC dL_would_205 rfl ?_
                refine y_iload hC dL_would_207 rfl ?_
                refine y_callVF hC hL_82.s mX5_shownIn kXL_76 dL_would_209 (b := 0) (As := [.int (nI (q)), .int (nI (t))]) (rest := []) (CPm hL_82.cp (fun sh mk wa hcq => c_X5_shownIn l Ec g_82 S B (by omega) ho sh mk wa hcq (nI (q)) (nI (t)))) hL_82.k0 hL_82.a0 rfl rfl rfl (Nat.le_of_ble_eq_true rfl) ⟨Nat.le_of_ble_eq_true rfl, Nat.le_of_ble_eq_true rfl⟩ (pkf_i ?_)
                rintro r_209 g_209 ⟨hr_209, hc_209⟩
                rw [hr_209]
                clear hr_209 r_209
                have hL_209 := hL_82.call hc_209
                have hx104_209 := (mrg_hi (n := eK Ec) (g1 := g_209) (g := g_82) (k := 104) (by rw [hL_82.kc]; decide)).trans (h104_82)
                have hx105_209 := (mrg_hi (n := eK Ec) (g1 := g_209) (g := g_82) (k := 105) (by rw [hL_82.kc]; decide)).trans (h105_82)
                generalize mrg (eK Ec) g_209 g_82 = G_209 at hL_209 hx104_209 hx105_209 ⊢
                refine y_top (y := (shd S.r (q) t)) (qSi hq32 ht) ?_
                refine y_aload_n hC dL_would_212 (i := 1) rfl rfl ?_
                refine y_aload hC dL_would_213 rfl ?_
                refine y_aload hC dL_would_215 rfl ?_
                refine y_iload hC dL_would_217 rfl ?_
                refine y_callS hC mL_shown kXL_50 dL_would_219 (As := [rf E (100), rf E (104), rf E (105), .int (nI (q))]) (rest := [.int (shd S.r (q) t)]) (c_L_shown l E G_209 100 104 105 (by omega) (by omega) (by omega) c r9 h9 hL_209.a100 hx104_209 hx105_209 (tkR S.r t) (B + t) (M + t) (vr_tk hv (by omega) (by omega)) (by omega) (by omega) a9 K hq9 hg9 (co_tk hcl) (vc_tk hv hvc) (q) (by omega)) rfl rfl rfl (Nat.le_of_ble_eq_true rfl) ⟨Nat.le_of_ble_eq_true rfl, Nat.le_of_ble_eq_true rfl⟩ (pk_i ?_)
                rintro r_219 g_219 ⟨hr_219, hq_219⟩
                obtain rfl := hq_219.symm
                rw [hr_219]
                clear hr_219 r_219
                refine y_top (y := (shd S.r (q) t)) (shd_tk hv (by omega) (by omega) (show q < 32 by omega)) ?_
                refine y_icmp_ne (tgt := 251) hC dL_would_222 (by decide) (fun c_222 => ?_) (fun c_222 => ?_)
                · exact absurd rfl c_222
                · refine y_aload_n hC dL_would_225 (i := 0) rfl rfl ?_
                  refine y_iload hC dL_would_226 rfl ?_
                  refine y_callVF hC hL_209.s mX5_changes kXL_79 dL_would_228 (b := 0) (As := [.int (nI (t))]) (rest := []) (CPm hL_209.cp (fun sh mk wa hcq => c_X5_changes l Ec G_209 S B (by omega) ho sh mk wa hcq (nI (t)))) hL_209.k0 hL_209.a0 rfl rfl rfl (Nat.le_of_ble_eq_true rfl) ⟨Nat.le_of_ble_eq_true rfl, Nat.le_of_ble_eq_true rfl⟩ (pkf_i ?_)
                  rintro r_228 g_228 ⟨hr_228, hc_228⟩
                  rw [hr_228]
                  clear hr_228 r_228
                  have hL_228 := hL_209.call hc_228
                  have hx104_228 := (mrg_hi (n := eK Ec) (g1 := g_228) (g := G_209) (k := 104) (by rw [hL_209.kc]; decide)).trans (hx104_209)
                  have hx105_228 := (mrg_hi (n := eK Ec) (g1 := g_228) (g := G_209) (k := 105) (by rw [hL_209.kc]; decide)).trans (hx105_209)
                  generalize mrg (eK Ec) g_228 G_209 = G_228 at hL_228 hx104_228 hx105_228 ⊢
                  refine y_top (y := nI (chC S.r t)) (qCh ht) ?_
                  refine y_iload hC dL_would_231 rfl ?_
                  refine y_icmp_ne_n (tgt := 251) hC dL_would_233 (by decide) (by omega) (by omega) (fun c_233 => ?_) (fun c_233 => ?_)
                  · exact absurd rfl c_233
                  · refine y_aload_n hC dL_would_236 (i := 0) rfl rfl ?_
                    refine y_iload hC dL_would_237 rfl ?_
                    refine y_callVF hC hL_228.s mX5_nearest kXL_82 dL_would_239 (b := 0) (As := [.int (nI (z))]) (rest := []) (CPm hL_228.cp (fun sh mk wa hcq => c_X5_nearest l Ec G_228 S B (by omega) ho sh mk wa hcq (nI (z)))) hL_228.k0 hL_228.a0 rfl rfl rfl (Nat.le_of_ble_eq_true rfl) ⟨Nat.le_of_ble_eq_true rfl, Nat.le_of_ble_eq_true rfl⟩ (pkf_i ?_)
                    rintro r_239 g_239 ⟨hr_239, hc_239⟩
                    rw [hr_239]
                    clear hr_239 r_239
                    have hL_239 := hL_228.call hc_239
                    have hx104_239 := (mrg_hi (n := eK Ec) (g1 := g_239) (g := G_228) (k := 104) (by rw [hL_228.kc]; decide)).trans (hx104_228)
                    have hx105_239 := (mrg_hi (n := eK Ec) (g1 := g_239) (g := G_228) (k := 105) (by rw [hL_228.kc]; decide)).trans (hx105_228)
                    generalize mrg (eK Ec) g_239 G_228 = G_239 at hL_239 hx104_239 hx105_239 ⊢
                    refine y_top (y := nI (nrN (shS S.r) (nI z) 31)) (qNr hz) ?_
                    refine y_iload hC dL_would_242 rfl ?_
                    refine y_icmp_ne_n (tgt := 251) hC dL_would_244 (by decide) (by omega) (by omega) (fun c_244 => ?_) (fun c_244 => ?_)
                    · exact absurd (nr_eq _ _).symm c_244
                    · refine y_iconst (v := nI 1) hC dL_would_247 (by decide) ?_
                      refine y_goto (tgt := 252) hC dL_would_248 (by decide) ?_
                      refine y_zret (hrt := rfl) (hn := rfl) (hC := hC) (hd := dL_would_252) (hq := ?_)
                      exact ⟨rfl, hL_239.to hs1 hk1 ht1⟩
            · have hd1 : d < 32 := by
                by_cases e : d = 32
                · exfalso
                  rw [e] at c_152
                  exact c_152 (by decide)
                · omega
              have hnl := (nrD_i (shS S.r) (nI z) d (by omega)).2.1
              have hsn1 := sN_l hv hvc (show 31 - d < 32 by omega)
              refine y_lo (lo' := [some (rf E (0)), some (rf E (100)), some (rf E (101)), some (rf E (102)), some (rf E (103)), some (.int (x)), some (.int (nI (t))), some (.int (nI (q))), some (.int (nI (z))), some (rf E (104)), some (rf E (105)), some (.int (nI (made S.r t))), some (.int (nI (chC S.r t))), some (.int (nI (nrD (shS S.r) (nI z) (d)))), some (.int (nI (31 - d)))]) (by rw [show nI (32 - d) - nI 1 = nI (31 - d) from by rw [pk_sub (by omega), show 32 - d - 1 = 31 - d by omega]]) ?_
              refine y_aload_n hC dL_would_155 (i := 1) rfl rfl ?_
              refine y_aload_n hC dL_would_156 (i := 2) rfl rfl ?_
              refine y_aload_n hC dL_would_157 (i := 3) rfl rfl ?_
              refine y_iload hC dL_would_158 rfl ?_
              refine y_callS hC mL_shown kXL_50 dL_would_160 (As := [rf E (100), rf E (101), rf E (102), .int (nI (31 - d))]) (rest := []) (c_L_shown l E g_82 100 101 102 (by omega) (by omega) (by omega) c r h hL_82.a100 hL_82.a101 hL_82.a102 S.r B M hv (by omega) (by omega) a K hq hg hcl hvc (31 - d) (by omega)) rfl rfl rfl (Nat.le_of_ble_eq_true rfl) ⟨Nat.le_of_ble_eq_true rfl, Nat.le_of_ble_eq_true rfl⟩ (pk_i ?_)
              rintro r_160 g_160 ⟨hr_160, hq_160⟩
              obtain rfl := hq_160.symm
              rw [hr_160]
              clear hr_160 r_160
              refine y_top (y := nI (sN S.r (31 - d))) (sN_e hv hvc (show 31 - d < 32 by omega)) ?_
              refine y_iload hC dL_would_163 rfl ?_
              refine y_callS hC mL_apart kXL_53 dL_would_165 (As := [.int (nI (sN S.r (31 - d))), .int (nI (z))]) (rest := []) (c_L_apart l E g_82 (sN S.r (31 - d)) (z) (sN_l hv hvc (by omega)) hz) rfl rfl rfl (Nat.le_of_ble_eq_true rfl) ⟨Nat.le_of_ble_eq_true rfl, Nat.le_of_ble_eq_true rfl⟩ (pk_i ?_)
              rintro r_165 g_165 ⟨hr_165, hq_165⟩
              obtain rfl := hq_165.symm
              rw [hr_165]
              clear hr_165 r_165
              refine y_top (y := (cDist (shS S.r (31 - d)) (nI z))) (congrArg (fun y => cDist y (nI z)) (sN_e hv hvc (show 31 - d < 32 by omega)).symm) ?_
              refine y_aload_n hC dL_would_168 (i := 1) rfl rfl ?_
              refine y_aload_n hC dL_would_169 (i := 2) rfl rfl ?_
              refine y_aload_n hC dL_would_170 (i := 3) rfl rfl ?_
              refine y_iload hC dL_would_171 rfl ?_
              refine y_callS hC mL_shown kXL_50 dL_would_173 (As := [rf E (100), rf E (101), rf E (102), .int (nI (nrD (shS S.r) (nI z) (d)))]) (rest := [.int (cDist (shS S.r (31 - d)) (nI z))]) (c_L_shown l E g_82 100 101 102 (by omega) (by omega) (by omega) c r h hL_82.a100 hL_82.a101 hL_82.a102 S.r B M hv (by omega) (by omega) a K hq hg hcl hvc (nrD (shS S.r) (nI z) (d)) (by omega)) rfl rfl rfl (Nat.le_of_ble_eq_true rfl) ⟨Nat.le_of_ble_eq_true rfl, Nat.le_of_ble_eq_true rfl⟩ (pk_i ?_)
              rintro r_173 g_173 ⟨hr_173, hq_173⟩
              obtain rfl := hq_173.symm
              rw [hr_173]
              clear hr_173 r_173
              refine y_top (y := nI (sN S.r (nrD (shS S.r) (nI z) (d)))) (sN_e hv hvc (show nrD (shS S.r) (nI z) (d) < 32 by omega)) ?_
              refine y_iload hC dL_would_176 rfl ?_
              refine y_callS hC mL_apart kXL_53 dL_would_178 (As := [.int (nI (sN S.r (nrD (shS S.r) (nI z) (d)))), .int (nI (z))]) (rest := [.int (cDist (shS S.r (31 - d)) (nI z))]) (c_L_apart l E g_82 (sN S.r (nrD (shS S.r) (nI z) (d))) (z) (sN_l hv hvc (by omega)) hz) rfl rfl rfl (Nat.le_of_ble_eq_true rfl) ⟨Nat.le_of_ble_eq_true rfl, Nat.le_of_ble_eq_true rfl⟩ (pk_i ?_)
              rintro r_178 g_178 ⟨hr_178, hq_178⟩
              obtain rfl := hq_178.symm
              rw [hr_178]
              clear hr_178 r_178
              refine y_top (y := (cDist (shS S.r (nrD (shS S.r) (nI z) (d))) (nI z))) (congrArg (fun y => cDist y (nI z)) (sN_e hv hvc (show nrD (shS S.r) (nI z) (d) < 32 by omega)).symm) ?_
              refine y_icmp_gt (tgt := 189) hC dL_would_181 (by decide) (fun c_181 => ?_) (fun c_181 => ?_)
              · have c_181x : ¬ cDist (shS S.r (31 - d)) (nI z) ≤ cDist (shS S.r (nrD (shS S.r) (nI z) (d))) (nI z) := fun q => by
                  rw [Int32.le_iff_toInt_le] at q
                  rw [Int32.lt_iff_toInt_lt] at c_181
                  omega
                refine y_iload hC dL_would_189 rfl ?_
                refine y_top (y := nI (nrD (shS S.r) (nI z) (d + 1))) (by rw [nrD]; first | rw [if_neg c_181x] | rw [if_pos c_181x]) ?_
                refine y_istore hC dL_would_191 (Nat.le_of_ble_eq_true rfl) rfl (lo' := [some (rf E (0)), some (rf E (100)), some (rf E (101)), some (rf E (102)), some (rf E (103)), some (.int (x)), some (.int (nI (t))), some (.int (nI (q))), some (.int (nI (z))), some (rf E (104)), some (rf E (105)), some (.int (nI (made S.r t))), some (.int (nI (chC S.r t))), some (.int (nI (nrD (shS S.r) (nI z) (d + 1)))), some (.int (nI (31 - d)))]) rfl ?_
                refine y_iinc hC dL_would_193 rfl (v := (nI (31 - d)) + Int32.ofInt (-1)) rfl (Nat.le_of_ble_eq_true rfl) rfl (lo' := [some (rf E (0)), some (rf E (100)), some (rf E (101)), some (rf E (102)), some (rf E (103)), some (.int (x)), some (.int (nI (t))), some (.int (nI (q))), some (.int (nI (z))), some (rf E (104)), some (rf E (105)), some (.int (nI (made S.r t))), some (.int (nI (chC S.r t))), some (.int (nI (nrD (shS S.r) (nI z) (d + 1)))), some (.int ((nI (31 - d)) + Int32.ofInt (-1)))]) rfl ?_
                refine y_goto (tgt := 150) hC dL_would_196 (by decide) ?_
                refine y_lo (lo' := [some (rf E (0)), some (rf E (100)), some (rf E (101)), some (rf E (102)), some (rf E (103)), some (.int (x)), some (.int (nI (t))), some (.int (nI (q))), some (.int (nI (z))), some (rf E (104)), some (rf E (105)), some (.int (nI (made S.r t))), some (.int (nI (chC S.r t))), some (.int (nI (nrD (shS S.r) (nI z) (d + 1)))), some (.int (nI (32 - (d + 1)) - nI 1))]) (by rw [show nI (31 - d) + Int32.ofInt (-1) = nI (32 - (d + 1)) - nI 1 from by rw [show 32 - (d + 1) = 31 - d by omega, show Int32.ofInt (-1) = -nI 1 from by decide, ← Int32.sub_eq_add_neg]]) ?_
                exact ih_150 (d + 1) (by omega) (by omega)
              · have c_181x : cDist (shS S.r (31 - d)) (nI z) ≤ cDist (shS S.r (nrD (shS S.r) (nI z) (d))) (nI z) := by
                  rw [Int32.le_iff_toInt_le]
                  rw [Int32.lt_iff_toInt_lt] at c_181
                  omega
                refine y_iload hC dL_would_184 rfl ?_
                refine y_goto (tgt := 191) hC dL_would_186 (by decide) ?_
                refine y_top (y := nI (nrD (shS S.r) (nI z) (d + 1))) (by rw [nrD]; first | rw [if_neg c_181x] | rw [if_pos c_181x]) ?_
                refine y_istore hC dL_would_191 (Nat.le_of_ble_eq_true rfl) rfl (lo' := [some (rf E (0)), some (rf E (100)), some (rf E (101)), some (rf E (102)), some (rf E (103)), some (.int (x)), some (.int (nI (t))), some (.int (nI (q))), some (.int (nI (z))), some (rf E (104)), some (rf E (105)), some (.int (nI (made S.r t))), some (.int (nI (chC S.r t))), some (.int (nI (nrD (shS S.r) (nI z) (d + 1)))), some (.int (nI (31 - d)))]) rfl ?_
                refine y_iinc hC dL_would_193 rfl (v := (nI (31 - d)) + Int32.ofInt (-1)) rfl (Nat.le_of_ble_eq_true rfl) rfl (lo' := [some (rf E (0)), some (rf E (100)), some (rf E (101)), some (rf E (102)), some (rf E (103)), some (.int (x)), some (.int (nI (t))), some (.int (nI (q))), some (.int (nI (z))), some (rf E (104)), some (rf E (105)), some (.int (nI (made S.r t))), some (.int (nI (chC S.r t))), some (.int (nI (nrD (shS S.r) (nI z) (d + 1)))), some (.int ((nI (31 - d)) + Int32.ofInt (-1)))]) rfl ?_
                refine y_goto (tgt := 150) hC dL_would_196 (by decide) ?_
                refine y_lo (lo' := [some (rf E (0)), some (rf E (100)), some (rf E (101)), some (rf E (102)), some (rf E (103)), some (.int (x)), some (.int (nI (t))), some (.int (nI (q))), some (.int (nI (z))), some (rf E (104)), some (rf E (105)), some (.int (nI (made S.r t))), some (.int (nI (chC S.r t))), some (.int (nI (nrD (shS S.r) (nI z) (d + 1)))), some (.int (nI (32 - (d + 1)) - nI 1))]) (by rw [show nI (31 - d) + Int32.ofInt (-1) = nI (32 - (d + 1)) - nI 1 from by rw [show 32 - (d + 1) = 31 - d by omega, show Int32.ofInt (-1) = -nI 1 from by decide, ← Int32.sub_eq_add_neg]]) ?_
                exact ih_150 (d + 1) (by omega) (by omega)
        exact L_150 33 0 (by omega) (by omega)
      · have hkk : k < 64 := by omega
        have hpk := (hv.2.2.2.2.2.2.1 k hkk).2
        have hcb := cn_le k (fun p => decide (¬ shd S.r (px S.r p) 0 = shd S.r (px S.r p) t))
        refine y_iload hC dL_would_103 rfl ?_
        refine y_aload_n hC dL_would_105 (i := 1) rfl rfl ?_
        refine y_aload_n hC dL_would_106 (i := 2) rfl rfl ?_
        refine y_aload_n hC dL_would_107 (i := 3) rfl rfl ?_
        refine y_aload hC dL_would_108 rfl ?_
        refine y_iload hC dL_would_110 rfl ?_
        refine y_iald hC dL_would_112 (k := 103) (j := k) (by have := hL_82.k; omega) hL_82.a103 (rfl) (by omega) (by decide) ?_
        refine y_top (y := nI (px S.r k)) (hpi _ (by omega)) ?_
        refine y_callS hC mL_shown kXL_50 dL_would_113 (As := [rf E (100), rf E (101), rf E (102), .int (nI (px S.r k))]) (rest := [.int (nI (cn k (fun p => decide (¬ shd S.r (px S.r p) 0 = shd S.r (px S.r p) t))))]) (c_L_shown l E g_82 100 101 102 (by omega) (by omega) (by omega) c r h hL_82.a100 hL_82.a101 hL_82.a102 S.r B M hv (by omega) (by omega) a K hq hg hcl hvc (px S.r k) (by omega)) rfl rfl rfl (Nat.le_of_ble_eq_true rfl) ⟨Nat.le_of_ble_eq_true rfl, Nat.le_of_ble_eq_true rfl⟩ (pk_i ?_)
        rintro r_113 g_113 ⟨hr_113, hq_113⟩
        obtain rfl := hq_113.symm
        rw [hr_113]
        clear hr_113 r_113
        refine y_aload_n hC dL_would_116 (i := 1) rfl rfl ?_
        refine y_aload hC dL_would_117 rfl ?_
        refine y_aload hC dL_would_119 rfl ?_
        refine y_aload hC dL_would_121 rfl ?_
        refine y_iload hC dL_would_123 rfl ?_
        refine y_iald hC dL_would_125 (k := 103) (j := k) (by have := hL_82.k; omega) hL_82.a103 (rfl) (by omega) (by decide) ?_
        refine y_top (y := nI (px S.r k)) (hpi _ (by omega)) ?_
        refine y_callS hC mL_shown kXL_50 dL_would_126 (As := [rf E (100), rf E (104), rf E (105), .int (nI (px S.r k))]) (rest := [.int (shd S.r (px S.r k) 0), .int (nI (cn k (fun p => decide (¬ shd S.r (px S.r p) 0 = shd S.r (px S.r p) t))))]) (c_L_shown l E g_82 100 104 105 (by omega) (by omega) (by omega) c r9 h9 hL_82.a100 h104_82 h105_82 (tkR S.r t) (B + t) (M + t) (vr_tk hv (by omega) (by omega)) (by omega) (by omega) a9 K hq9 hg9 (co_tk hcl) (vc_tk hv hvc) (px S.r k) (by omega)) rfl rfl rfl (Nat.le_of_ble_eq_true rfl) ⟨Nat.le_of_ble_eq_true rfl, Nat.le_of_ble_eq_true rfl⟩ (pk_i ?_)
        rintro r_126 g_126 ⟨hr_126, hq_126⟩
        obtain rfl := hq_126.symm
        rw [hr_126]
        clear hr_126 r_126
        refine y_top (y := (shd S.r (px S.r k) t)) (shd_tk hv (by omega) (by omega) (show px S.r k < 32 by omega)) ?_
        refine y_icmp_ne (tgt := 136) hC dL_would_129 (by decide) (fun c_129 => ?_) (fun c_129 => ?_)
        · refine y_iconst (v := nI 1) hC dL_would_136 (by decide) ?_
          refine y_iadd_n hC dL_would_137 ?_
          refine y_top (y := nI (cn (k + 1) (fun p => decide (¬ shd S.r (px S.r p) 0 = shd S.r (px S.r p) t)))) (congrArg nI (by rw [chN_s]; first | rw [if_pos c_129] | rw [if_neg c_129])) ?_
          refine y_istore hC dL_would_138 (Nat.le_of_ble_eq_true rfl) rfl (lo' := [some (rf E (0)), some (rf E (100)), some (rf E (101)), some (rf E (102)), some (rf E (103)), some (.int (x)), some (.int (nI (t))), some (.int (nI (q))), some (.int (nI (z))), some (rf E (104)), some (rf E (105)), some (.int (nI (made S.r t))), some (.int (nI (cn (k + 1) (fun p => decide (¬ shd S.r (px S.r p) 0 = shd S.r (px S.r p) t))))), some (.int (nI (0))), some (.int (nI (k)))]) rfl ?_
          refine y_iinc_n hC dL_would_140 (a := k) (k := 1) rfl (by decide) (Nat.le_of_ble_eq_true rfl) rfl (lo' := [some (rf E (0)), some (rf E (100)), some (rf E (101)), some (rf E (102)), some (rf E (103)), some (.int (x)), some (.int (nI (t))), some (.int (nI (q))), some (.int (nI (z))), some (rf E (104)), some (rf E (105)), some (.int (nI (made S.r t))), some (.int (nI (cn (k + 1) (fun p => decide (¬ shd S.r (px S.r p) 0 = shd S.r (px S.r p) t))))), some (.int (nI (0))), some (.int (nI (k + 1)))]) rfl ?_
          refine y_goto (tgt := 96) hC dL_would_143 (by decide) ?_
          exact ih_96 (k + 1) (by omega) (by omega)
        · refine y_iconst (v := nI 0) hC dL_would_132 (by decide) ?_
          refine y_goto (tgt := 137) hC dL_would_133 (by decide) ?_
          refine y_iadd_n hC dL_would_137 ?_
          refine y_top (y := nI (cn (k + 1) (fun p => decide (¬ shd S.r (px S.r p) 0 = shd S.r (px S.r p) t)))) (congrArg nI (by rw [chN_s]; first | rw [if_pos c_129] | rw [if_neg c_129])) ?_
          refine y_istore hC dL_would_138 (Nat.le_of_ble_eq_true rfl) rfl (lo' := [some (rf E (0)), some (rf E (100)), some (rf E (101)), some (rf E (102)), some (rf E (103)), some (.int (x)), some (.int (nI (t))), some (.int (nI (q))), some (.int (nI (z))), some (rf E (104)), some (rf E (105)), some (.int (nI (made S.r t))), some (.int (nI (cn (k + 1) (fun p => decide (¬ shd S.r (px S.r p) 0 = shd S.r (px S.r p) t))))), some (.int (nI (0))), some (.int (nI (k)))]) rfl ?_
          refine y_iinc_n hC dL_would_140 (a := k) (k := 1) rfl (by decide) (Nat.le_of_ble_eq_true rfl) rfl (lo' := [some (rf E (0)), some (rf E (100)), some (rf E (101)), some (rf E (102)), some (rf E (103)), some (.int (x)), some (.int (nI (t))), some (.int (nI (q))), some (.int (nI (z))), some (rf E (104)), some (rf E (105)), some (.int (nI (made S.r t))), some (.int (nI (cn (k + 1) (fun p => decide (¬ shd S.r (px S.r p) 0 = shd S.r (px S.r p) t))))), some (.int (nI (0))), some (.int (nI (k + 1)))]) rfl ?_
          refine y_goto (tgt := 96) hC dL_would_143 (by decide) ?_
          exact ih_96 (k + 1) (by omega) (by omega)
  exact L_96 65 0 (by omega) (by omega)

set_option maxHeartbeats 4000000 in
set_option maxRecDepth 100000 in
theorem c_L_would (l : Launch) (G : va_G) (T : Nat → ClassId) (b : Nat) (g : Mem) (S : AS) (c r h p : Nat → Int32) (hL : LWP (zE G T b 100) (zE G T b 104) g S c r h p) (B M : Nat) (hB : B ≤ 9000000) (hM : M ≤ 90000000) (ho : OK S B) (a K : Nat → Nat) (hq : RgL S.r r a K M) (hg : GlL S.r h) (hcl : CoL S.r c) (hvc : VC S.r) (hpi : PiL S.r p) (x : Int32) : Mta l (zE G T b 104) (zA b) yL_would cL_would 15 (some .boolean) 6 140 2 76 [rf (zE G T b 104) (0), rf (zE G T b 104) (100), rf (zE G T b 104) (101), rf (zE G T b 104) (102), rf (zE G T b 104) (103), .int (x)] g (pI (fun z g' => z = nI 1 ∧ LWP (zE G T b 100) (zE G T b 104) g' S c r h p)) := by
  refine mta_go (own := RXL) (by decide) rfl (fun q hq => zgA hq) (lo := [some (rf (zE G T b 104) (0)), some (rf (zE G T b 104) (100)), some (rf (zE G T b 104) (101)), some (rf (zE G T b 104) (102)), some (rf (zE G T b 104) (103)), some (.int (x)), none, none, none, none, none, none, none, none, none]) rfl (Nat.le_of_ble_eq_true rfl) (fun p_ e_ R_ s_ m_ args_ below_ meth_ cd_ H_ hP_ hH_ hC => ?_)
  have hnew : ∀ q, s_.heap.size ≤ q → zA b q := fun q hq => Nat.le_trans (by rw [← hH_]; exact zgH hP_) hq
  refine y_iload hC dL_would_0 rfl ?_
  refine y_iload hC dL_would_2 rfl ?_
  refine y_iconst (v := nI 3) hC dL_would_4 (by decide) ?_
  refine y_ishr hC dL_would_5 ?_
  refine y_iconst (v := nI 3) hC dL_would_6 (by decide) ?_
  refine y_callS hC mL_low kXL_64 dL_would_7 (As := [.int ((x) >>> (nI (3) &&& 31)), .int (nI (3))]) (rest := [.int (x)]) (c_L_low l (zE G T b 104) g (((x) >>> (nI (3) &&& 31))) (3) (by decide) (by decide)) rfl rfl rfl (Nat.le_of_ble_eq_true rfl) ⟨Nat.le_of_ble_eq_true rfl, Nat.le_of_ble_eq_true rfl⟩ (pk_i ?_)
  rintro r_7 g_7 ⟨hr_7, hq_7⟩
  obtain rfl := hq_7.symm
  rw [hr_7]
  clear hr_7 r_7
  have hb3 := lw_lt (x := (x) >>> (nI (3) &&& 31)) (n := 3) (by decide)
  refine y_if_ne_n (tgt := 19) hC dL_would_10 (by decide) (by omega) (fun c_10 => ?_) (fun c_10 => ?_)
  · have hb3 := lw_lt (x := x >>> (nI 3 &&& 31)) (n := 3) (by decide)
    refine y_bipush (v := nI 40) hC dL_would_19 (by decide) ?_
    refine y_callS hC mL_low kXL_64 dL_would_21 (As := [.int (x), .int (nI (40))]) (rest := []) (c_L_low l (zE G T b 104) g ((x)) (40) (by decide) (by decide)) rfl rfl rfl (Nat.le_of_ble_eq_true rfl) ⟨Nat.le_of_ble_eq_true rfl, Nat.le_of_ble_eq_true rfl⟩ (pk_i ?_)
    rintro r_21 g_21 ⟨hr_21, hq_21⟩
    obtain rfl := hq_21.symm
    rw [hr_21]
    clear hr_21 r_21
    refine y_istore hC dL_would_24 (Nat.le_of_ble_eq_true rfl) rfl (lo' := [some (rf (zE G T b 104) (0)), some (rf (zE G T b 104) (100)), some (rf (zE G T b 104) (101)), some (rf (zE G T b 104) (102)), some (rf (zE G T b 104) (103)), some (.int (x)), some (.int (nI (lw ((x)) (40)))), none, none, none, none, none, none, none, none]) rfl ?_
    refine y_iload hC dL_would_26 rfl ?_
    refine y_iconst (v := nI 5) hC dL_would_28 (by decide) ?_
    refine y_ishr hC dL_would_29 ?_
    refine y_bipush (v := nI 32) hC dL_would_30 (by decide) ?_
    refine y_callS hC mL_low kXL_64 dL_would_32 (As := [.int ((x) >>> (nI (5) &&& 31)), .int (nI (32))]) (rest := []) (c_L_low l (zE G T b 104) g (((x) >>> (nI (5) &&& 31))) (32) (by decide) (by decide)) rfl rfl rfl (Nat.le_of_ble_eq_true rfl) ⟨Nat.le_of_ble_eq_true rfl, Nat.le_of_ble_eq_true rfl⟩ (pk_i ?_)
    rintro r_32 g_32 ⟨hr_32, hq_32⟩
    obtain rfl := hq_32.symm
    rw [hr_32]
    clear hr_32 r_32
    refine y_istore hC dL_would_35 (Nat.le_of_ble_eq_true rfl) rfl (lo' := [some (rf (zE G T b 104) (0)), some (rf (zE G T b 104) (100)), some (rf (zE G T b 104) (101)), some (rf (zE G T b 104) (102)), some (rf (zE G T b 104) (103)), some (.int (x)), some (.int (nI (lw ((x)) (40)))), some (.int (nI (lw (((x) >>> (nI (5) &&& 31))) (32)))), none, none, none, none, none, none, none]) rfl ?_
    refine y_iload hC dL_would_37 rfl ?_
    refine y_iconst (v := nI 2) hC dL_would_39 (by decide) ?_
    refine y_ishr hC dL_would_40 ?_
    refine y_ldc hC cnXL_67 dL_would_41 ?_
    refine y_top (show (262144 : Int32) = nI 262144 from by decide) ?_
    refine y_callS hC mL_low kXL_64 dL_would_43 (As := [.int ((x) >>> (nI (2) &&& 31)), .int (nI (262144))]) (rest := []) (c_L_low l (zE G T b 104) g (((x) >>> (nI (2) &&& 31))) (262144) (by decide) (by decide)) rfl rfl rfl (Nat.le_of_ble_eq_true rfl) ⟨Nat.le_of_ble_eq_true rfl, Nat.le_of_ble_eq_true rfl⟩ (pk_i ?_)
    rintro r_43 g_43 ⟨hr_43, hq_43⟩
    obtain rfl := hq_43.symm
    rw [hr_43]
    clear hr_43 r_43
    refine y_istore hC dL_would_46 (Nat.le_of_ble_eq_true rfl) rfl (lo' := [some (rf (zE G T b 104) (0)), some (rf (zE G T b 104) (100)), some (rf (zE G T b 104) (101)), some (rf (zE G T b 104) (102)), some (rf (zE G T b 104) (103)), some (.int (x)), some (.int (nI (lw ((x)) (40)))), some (.int (nI (lw (((x) >>> (nI (5) &&& 31))) (32)))), some (.int (nI (lw (((x) >>> (nI (2) &&& 31))) (262144)))), none, none, none, none, none, none]) rfl ?_
    refine y_bipush (v := nI 56) hC dL_would_48 (by decide) ?_
    refine y_newa hC dL_would_50 (N := 56) (E' := fun a => zX1 G T b a) rfl (by decide) ⟨Nat.le_of_ble_eq_true rfl, Nat.le_of_ble_eq_true rfl⟩ (fun a => zX1_add G T b a) hnew (fun a1 hC1 => ?_)
    refine y_astore hC1 (o := some 104) dL_would_52 (i := 9) (Nat.le_of_ble_eq_true rfl) rfl (lo' := [some (rf (zX1 G T b a1) 0), some (rf (zX1 G T b a1) 100), some (rf (zX1 G T b a1) 101), some (rf (zX1 G T b a1) 102), some (rf (zX1 G T b a1) 103), some (.int x), some (.int (nI (lw ((x)) (40)))), some (.int (nI (lw (((x) >>> (nI (5) &&& 31))) (32)))), some (.int (nI (lw (((x) >>> (nI (2) &&& 31))) (262144)))), some (rf (zX1 G T b a1) 104), none, none, none, none, none]) rfl ?_
    refine y_bipush (v := nI 20) hC1 dL_would_54 (by decide) ?_
    refine y_newa hC1 dL_would_56 (N := 20) (E' := fun a => zX2 G T b a1 a) rfl (by decide) ⟨Nat.le_of_ble_eq_true rfl, Nat.le_of_ble_eq_true rfl⟩ (fun a => zX2_add G T b a1 a) hnew (fun a2 hC2 => ?_)
    refine y_astore hC2 (o := some 105) dL_would_58 (i := 10) (Nat.le_of_ble_eq_true rfl) rfl (lo' := [some (rf (zX2 G T b a1 a2) 0), some (rf (zX2 G T b a1 a2) 100), some (rf (zX2 G T b a1 a2) 101), some (rf (zX2 G T b a1 a2) 102), some (rf (zX2 G T b a1 a2) 103), some (.int x), some (.int (nI (lw ((x)) (40)))), some (.int (nI (lw (((x) >>> (nI (5) &&& 31))) (32)))), some (.int (nI (lw (((x) >>> (nI (2) &&& 31))) (262144)))), some (rf (zX2 G T b a1 a2) 104), some (rf (zX2 G T b a1 a2) 105), none, none, none, none]) rfl ?_
    exact w_would2 l (zX2 G T b a1 a2) _ (zE G T b 100) (zE G T b 104) _ S c r h p (((hL.ut (k := 104) (by decide) _).ut (k := 105) (by decide) _).to (zs3 G T b a1 a2) (by decide : 104 ≤ 106) rfl) rfl (zs1 G T b) (by decide : 104 ≤ 104) rfl B M hB hM ho a K hq hg hcl hvc hpi x (lw ((x)) (40)) (lw (((x) >>> (nI (5) &&& 31))) (32)) (lw (((x) >>> (nI (2) &&& 31))) (262144)) (by have := lw_lt (x := x) (n := 1001) (by decide); have := lw_lt (x := x) (n := 40) (by decide); omega) (lw_lt (by decide)) (lw_lt (by decide)) (fun _ => 0) (fun _ => 0) ((va_up_ne _ _ (by decide)).trans (va_up_self _ _ _)) (va_up_self _ _ _) hC2
  · refine y_sipush (v := nI 1001) hC dL_would_13 (by decide) ?_
    refine y_goto (tgt := 21) hC dL_would_16 (by decide) ?_
    refine y_callS hC mL_low kXL_64 dL_would_21 (As := [.int (x), .int (nI (1001))]) (rest := []) (c_L_low l (zE G T b 104) g ((x)) (1001) (by decide) (by decide)) rfl rfl rfl (Nat.le_of_ble_eq_true rfl) ⟨Nat.le_of_ble_eq_true rfl, Nat.le_of_ble_eq_true rfl⟩ (pk_i ?_)
    rintro r_21 g_21 ⟨hr_21, hq_21⟩
    obtain rfl := hq_21.symm
    rw [hr_21]
    clear hr_21 r_21
    refine y_istore hC dL_would_24 (Nat.le_of_ble_eq_true rfl) rfl (lo' := [some (rf (zE G T b 104) (0)), some (rf (zE G T b 104) (100)), some (rf (zE G T b 104) (101)), some (rf (zE G T b 104) (102)), some (rf (zE G T b 104) (103)), some (.int (x)), some (.int (nI (lw ((x)) (1001)))), none, none, none, none, none, none, none, none]) rfl ?_
    refine y_iload hC dL_would_26 rfl ?_
    refine y_iconst (v := nI 5) hC dL_would_28 (by decide) ?_
    refine y_ishr hC dL_would_29 ?_
    refine y_bipush (v := nI 32) hC dL_would_30 (by decide) ?_
    refine y_callS hC mL_low kXL_64 dL_would_32 (As := [.int ((x) >>> (nI (5) &&& 31)), .int (nI (32))]) (rest := []) (c_L_low l (zE G T b 104) g (((x) >>> (nI (5) &&& 31))) (32) (by decide) (by decide)) rfl rfl rfl (Nat.le_of_ble_eq_true rfl) ⟨Nat.le_of_ble_eq_true rfl, Nat.le_of_ble_eq_true rfl⟩ (pk_i ?_)
    rintro r_32 g_32 ⟨hr_32, hq_32⟩
    obtain rfl := hq_32.symm
    rw [hr_32]
    clear hr_32 r_32
    refine y_istore hC dL_would_35 (Nat.le_of_ble_eq_true rfl) rfl (lo' := [some (rf (zE G T b 104) (0)), some (rf (zE G T b 104) (100)), some (rf (zE G T b 104) (101)), some (rf (zE G T b 104) (102)), some (rf (zE G T b 104) (103)), some (.int (x)), some (.int (nI (lw ((x)) (1001)))), some (.int (nI (lw (((x) >>> (nI (5) &&& 31))) (32)))), none, none, none, none, none, none, none]) rfl ?_
    refine y_iload hC dL_would_37 rfl ?_
    refine y_iconst (v := nI 2) hC dL_would_39 (by decide) ?_
    refine y_ishr hC dL_would_40 ?_
    refine y_ldc hC cnXL_67 dL_would_41 ?_
    refine y_top (show (262144 : Int32) = nI 262144 from by decide) ?_
    refine y_callS hC mL_low kXL_64 dL_would_43 (As := [.int ((x) >>> (nI (2) &&& 31)), .int (nI (262144))]) (rest := []) (c_L_low l (zE G T b 104) g (((x) >>> (nI (2) &&& 31))) (262144) (by decide) (by decide)) rfl rfl rfl (Nat.le_of_ble_eq_true rfl) ⟨Nat.le_of_ble_eq_true rfl, Nat.le_of_ble_eq_true rfl⟩ (pk_i ?_)
    rintro r_43 g_43 ⟨hr_43, hq_43⟩
    obtain rfl := hq_43.symm
    rw [hr_43]
    clear hr_43 r_43
    refine y_istore hC dL_would_46 (Nat.le_of_ble_eq_true rfl) rfl (lo' := [some (rf (zE G T b 104) (0)), some (rf (zE G T b 104) (100)), some (rf (zE G T b 104) (101)), some (rf (zE G T b 104) (102)), some (rf (zE G T b 104) (103)), some (.int (x)), some (.int (nI (lw ((x)) (1001)))), some (.int (nI (lw (((x) >>> (nI (5) &&& 31))) (32)))), some (.int (nI (lw (((x) >>> (nI (2) &&& 31))) (262144)))), none, none, none, none, none, none]) rfl ?_
    refine y_bipush (v := nI 56) hC dL_would_48 (by decide) ?_
    refine y_newa hC dL_would_50 (N := 56) (E' := fun a => zX1 G T b a) rfl (by decide) ⟨Nat.le_of_ble_eq_true rfl, Nat.le_of_ble_eq_true rfl⟩ (fun a => zX1_add G T b a) hnew (fun a1 hC1 => ?_)
    refine y_astore hC1 (o := some 104) dL_would_52 (i := 9) (Nat.le_of_ble_eq_true rfl) rfl (lo' := [some (rf (zX1 G T b a1) 0), some (rf (zX1 G T b a1) 100), some (rf (zX1 G T b a1) 101), some (rf (zX1 G T b a1) 102), some (rf (zX1 G T b a1) 103), some (.int x), some (.int (nI (lw ((x)) (1001)))), some (.int (nI (lw (((x) >>> (nI (5) &&& 31))) (32)))), some (.int (nI (lw (((x) >>> (nI (2) &&& 31))) (262144)))), some (rf (zX1 G T b a1) 104), none, none, none, none, none]) rfl ?_
    refine y_bipush (v := nI 20) hC1 dL_would_54 (by decide) ?_
    refine y_newa hC1 dL_would_56 (N := 20) (E' := fun a => zX2 G T b a1 a) rfl (by decide) ⟨Nat.le_of_ble_eq_true rfl, Nat.le_of_ble_eq_true rfl⟩ (fun a => zX2_add G T b a1 a) hnew (fun a2 hC2 => ?_)
    refine y_astore hC2 (o := some 105) dL_would_58 (i := 10) (Nat.le_of_ble_eq_true rfl) rfl (lo' := [some (rf (zX2 G T b a1 a2) 0), some (rf (zX2 G T b a1 a2) 100), some (rf (zX2 G T b a1 a2) 101), some (rf (zX2 G T b a1 a2) 102), some (rf (zX2 G T b a1 a2) 103), some (.int x), some (.int (nI (lw ((x)) (1001)))), some (.int (nI (lw (((x) >>> (nI (5) &&& 31))) (32)))), some (.int (nI (lw (((x) >>> (nI (2) &&& 31))) (262144)))), some (rf (zX2 G T b a1 a2) 104), some (rf (zX2 G T b a1 a2) 105), none, none, none, none]) rfl ?_
    exact w_would2 l (zX2 G T b a1 a2) _ (zE G T b 100) (zE G T b 104) _ S c r h p (((hL.ut (k := 104) (by decide) _).ut (k := 105) (by decide) _).to (zs3 G T b a1 a2) (by decide : 104 ≤ 106) rfl) rfl (zs1 G T b) (by decide : 104 ≤ 104) rfl B M hB hM ho a K hq hg hcl hvc hpi x (lw ((x)) (1001)) (lw (((x) >>> (nI (5) &&& 31))) (32)) (lw (((x) >>> (nI (2) &&& 31))) (262144)) (by have := lw_lt (x := x) (n := 1001) (by decide); have := lw_lt (x := x) (n := 40) (by decide); omega) (lw_lt (by decide)) (lw_lt (by decide)) (fun _ => 0) (fun _ => 0) ((va_up_ne _ _ (by decide)).trans (va_up_self _ _ _)) (va_up_self _ _ _) hC2

