/-! ===== the law: freeze ===== -/
theorem LWP.wc {Ec E : gE} {g g2 : Mem} {S : AS} {c r h p c2 : Nat → Int32} (q : LWP Ec E g S c r h p) (e1 : g2 100 = aI E 0 32 c2) (e : ∀ j, j ≠ 100 → g2 j = g j) : LWP Ec E g2 S c2 r h p := by
  obtain ⟨h1, h2, h3, h4, h5, h6, h7, h8⟩ := q
  exact ⟨h1, h2, h3, h4.keep (fun k hk => e k (by omega)), e1, (e _ (by decide)).trans h6, (e _ (by decide)).trans h7, (e _ (by decide)).trans h8⟩
/-- rows whose ticks are taken back -/
def rzF (r : Nat → Int32) (k : Nat) : Nat → Int32 := fun j => if 8 ≤ j ∧ j < 8 + 8 * k ∧ ((j - 8) % 8 = 5 ∨ (j - 8) % 8 = 6) then nI 0 else r j
def hzF (h : Nat → Int32) (k : Nat) : Nat → Int32 := fun j => if 4 ≤ j ∧ j < 4 + 4 * k ∧ (j - 4) % 4 = 3 then nI 0 else h j
theorem rzF_0 {r : Nat → Int32} : rzF r 0 = r := funext fun j => if_neg (by omega)
theorem hzF_0 {h : Nat → Int32} : hzF h 0 = h := funext fun j => if_neg (by omega)
theorem rzF_o {r : Nat → Int32} {k j : Nat} (q : ¬ (8 ≤ j ∧ j < 8 + 8 * k ∧ ((j - 8) % 8 = 5 ∨ (j - 8) % 8 = 6))) : rzF r k j = r j := if_neg q
theorem rzF_i {r : Nat → Int32} {k j : Nat} (q : 8 ≤ j ∧ j < 8 + 8 * k ∧ ((j - 8) % 8 = 5 ∨ (j - 8) % 8 = 6)) : rzF r k j = nI 0 := if_pos q
theorem hzF_o {h : Nat → Int32} {k j : Nat} (q : ¬ (4 ≤ j ∧ j < 4 + 4 * k ∧ (j - 4) % 4 = 3)) : hzF h k j = h j := if_neg q
theorem hzF_i {h : Nat → Int32} {k j : Nat} (q : 4 ≤ j ∧ j < 4 + 4 * k ∧ (j - 4) % 4 = 3) : hzF h k j = nI 0 := if_pos q
theorem rzF_s {r : Nat → Int32} {k : Nat} : upd (upd (rzF r k) (8 + 8 * k + 5) (nI 0)) (8 + 8 * k + 6) (nI 0) = rzF r (k + 1) := by
  funext j
  by_cases e : j = 8 + 8 * k + 6
  · rw [e, pk_us, rzF_i (by omega)]
  · rw [pk_un e]
    by_cases e2 : j = 8 + 8 * k + 5
    · rw [e2, pk_us, rzF_i (by omega)]
    · rw [pk_un e2]
      by_cases q : 8 ≤ j ∧ j < 8 + 8 * k ∧ ((j - 8) % 8 = 5 ∨ (j - 8) % 8 = 6)
      · rw [rzF_i q, rzF_i (by omega)]
      · rw [rzF_o q, rzF_o (by omega)]
theorem hzF_s {h : Nat → Int32} {k : Nat} : upd (hzF h k) (4 + 4 * k + 3) (nI 0) = hzF h (k + 1) := by
  funext j
  by_cases e : j = 4 + 4 * k + 3
  · rw [e, pk_us, hzF_i (by omega)]
  · rw [pk_un e]
    by_cases q : 4 ≤ j ∧ j < 4 + 4 * k ∧ (j - 4) % 4 = 3
    · rw [hzF_i q, hzF_i (by omega)]
    · rw [hzF_o q, hzF_o (by omega)]
/-- the state behind a freeze -/
theorem fz_all {S : AS} {c r h p c2 : Nat → Int32} {B M : Nat} (hI : IV S c r h p B M) (hB : B ≤ 9000000) (hc : ∀ k, k < 32 → c2 k = shS S.r k) :
    IV (S.rec.row (begR (putR S.r 0 31 (shS S.r)))) c2 (rzF r (rc S.r)) (hzF h (gc S.r)) p (B + 10000) M := by
  obtain ⟨ho, ⟨a, K, hq⟩, hg, hcl, hvc, hpi⟩ := id hI
  have hv := ho.v
  have h6 := hv.1.2
  have h4 := hv.2.1.2
  have hvr : OK (S.rec.row (begR (putR S.r 0 31 (shS S.r)))) (B + 10000) := ok_freeze ho (by omega)
  have pO : ∀ k, 32 ≤ k → putR S.r 0 31 (shS S.r) k = S.r k := fun k hk => if_neg (by omega)
  have erc : rc (putR S.r 0 31 (shS S.r)) = rc S.r := rc_of (pO _ (by decide))
  have egc : gc (putR S.r 0 31 (shS S.r)) = gc S.r := gc_of (pO _ (by decide))
  have bO : ∀ k, ¬ (33 ≤ k ∧ k < 33 + 7 * rc S.r ∧ 5 ≤ (k - 33) % 7) → ¬ (76 ≤ k ∧ k < 76 + 4 * gc S.r ∧ (k - 76) % 4 = 3) → begR (putR S.r 0 31 (shS S.r)) k = putR S.r 0 31 (shS S.r) k := fun k h1 h2 => by
    unfold begR
    rw [erc, egc, if_neg h1, if_neg h2]
  have bR : ∀ k, (33 ≤ k ∧ k < 33 + 7 * rc S.r ∧ 5 ≤ (k - 33) % 7) → begR (putR S.r 0 31 (shS S.r)) k = nI 0 := fun k h1 => by
    unfold begR
    rw [erc, if_pos h1]
  have bG : ∀ k, (76 ≤ k ∧ k < 76 + 4 * gc S.r ∧ (k - 76) % 4 = 3) → begR (putR S.r 0 31 (shS S.r)) k = nI 0 := fun k h1 => by
    unfold begR
    rw [erc, egc, if_neg (by omega), if_pos h1]
  have eO : ∀ k, 32 ≤ k → ¬ (33 ≤ k ∧ k < 33 + 7 * rc S.r ∧ 5 ≤ (k - 33) % 7) → ¬ (76 ≤ k ∧ k < 76 + 4 * gc S.r ∧ (k - 76) % 4 = 3) → begR (putR S.r 0 31 (shS S.r)) k = S.r k := fun k h0 h1 h2 => (bO k h1 h2).trans (pO k h0)
  have er : rc (begR (putR S.r 0 31 (shS S.r))) = rc S.r := rc_of (eO _ (by decide) (by omega) (by omega))
  have eg : gc (begR (putR S.r 0 31 (shS S.r))) = gc S.r := gc_of (eO _ (by decide) (by omega) (by omega))
  have eC : ∀ k, k < 32 → begR (putR S.r 0 31 (shS S.r)) k = shS S.r k := fun k hk => (bO k (by omega) (by omega)).trans (if_pos (by omega))
  refine ⟨hvr, ⟨fun _ => 0, fun _ => 0, ?_⟩, ?_, fun k hk => (hc k hk).trans (eC k hk).symm, ⟨fun k hk => ?_, fun i hi => ?_⟩, pi_cg hpi (fun k h1 h2 => eO k (by omega) (by omega) (by omega))⟩
  · refine ⟨by rw [rzF_o (by omega)]; exact hq.n.trans (congrArg nI er.symm), fun k hk => ?_⟩
    have hk2 : k < rc S.r := by rw [← er]; exact hk
    have hR : ∀ j, j < 5 → rg (begR (putR S.r 0 31 (shS S.r))) k j = rg S.r k j := fun j hj => rg_of (eO _ (by omega) (by omega) (by omega))
    have hZ : ∀ j, 5 ≤ j → j < 7 → rg (begR (putR S.r 0 31 (shS S.r))) k j = 0 := fun j h1 h2 => by
      unfold rg
      rw [bR _ (by omega)]
      exact nn_I (by omega)
    have hn : nP (begR (putR S.r 0 31 (shS S.r))) k = nP S.r k := by unfold nP; rw [hR 0 (by decide), hR 1 (by decide)]
    show rzF r (rc S.r) (8 + 8 * k) = nI (rg (begR (putR S.r 0 31 (shS S.r))) k 0) ∧ rzF r (rc S.r) (8 + 8 * k + 1) = nI (nP (begR (putR S.r 0 31 (shS S.r))) k) ∧ rzF r (rc S.r) (8 + 8 * k + 2) = nI (rg (begR (putR S.r 0 31 (shS S.r))) k 2) ∧ rzF r (rc S.r) (8 + 8 * k + 3) = nI (rg (begR (putR S.r 0 31 (shS S.r))) k 3) ∧ rzF r (rc S.r) (8 + 8 * k + 4) = nI (rg (begR (putR S.r 0 31 (shS S.r))) k 4) ∧ rzF r (rc S.r) (8 + 8 * k + 5) = nI 0 ∧ rzF r (rc S.r) (8 + 8 * k + 6) = nI 0 ∧ 0 % rg (begR (putR S.r 0 31 (shS S.r))) k 2 = rg (begR (putR S.r 0 31 (shS S.r))) k 5 ∧ 0 / rg (begR (putR S.r 0 31 (shS S.r))) k 2 + 0 = rg (begR (putR S.r 0 31 (shS S.r))) k 6 ∧ 0 ≤ M
    rw [hR 0 (by decide), hn, hR 2 (by decide), hR 3 (by decide), hR 4 (by decide), hZ 5 (by decide) (by decide), hZ 6 (by decide) (by decide)]
    exact ⟨(rzF_o (by omega)).trans (hq.f0 hk2), (rzF_o (by omega)).trans (hq.f1 hk2), (rzF_o (by omega)).trans (hq.f2 hk2), (rzF_o (by omega)).trans (hq.f3 hk2), (rzF_o (by omega)).trans (hq.f4 hk2), rzF_i (by omega), rzF_i (by omega), Nat.zero_mod _, by rw [Nat.zero_div], Nat.zero_le _⟩
  · refine ⟨by rw [hzF_o (by omega)]; exact hg.n.trans (congrArg nI eg.symm), by rw [hzF_o (by omega)]; exact hg.t.trans (eO _ (by decide) (by omega) (by omega)).symm, by rw [hzF_o (by omega)]; exact hg.s.trans (eO _ (by decide) (by omega) (by omega)).symm, fun k hk => ?_⟩
    have hk2 : k < gc S.r := by rw [← eg]; exact hk
    have hG : ∀ j, j < 3 → begR (putR S.r 0 31 (shS S.r)) (76 + 4 * k + j) = S.r (76 + 4 * k + j) := fun j hj => eO _ (by omega) (by omega) (by omega)
    have hZ : gl (begR (putR S.r 0 31 (shS S.r))) k 3 = 0 := by
      unfold gl
      rw [bG _ (by omega)]
      exact nn_I (by omega)
    show hzF h (gc S.r) (4 + 4 * k) = nI (gl (begR (putR S.r 0 31 (shS S.r))) k 0) ∧ hzF h (gc S.r) (4 + 4 * k + 1) = begR (putR S.r 0 31 (shS S.r)) (76 + 4 * k + 1) ∧ hzF h (gc S.r) (4 + 4 * k + 2) = nI (gl (begR (putR S.r 0 31 (shS S.r))) k 2) ∧ hzF h (gc S.r) (4 + 4 * k + 3) = nI (gl (begR (putR S.r 0 31 (shS S.r))) k 3)
    rw [gl_of (hG 0 (by decide)), gl_of (hG 2 (by decide)), hG 1 (by decide), hZ]
    exact ⟨(hzF_o (by omega)).trans (hg.f0 hk2), (hzF_o (by omega)).trans (hg.f1 hk2), (hzF_o (by omega)).trans (hg.f2 hk2), hzF_i (by omega)⟩
  · show isC (begR (putR S.r 0 31 (shS S.r)) k)
    rw [eC k hk]
    exact shd_C hv hvc hk
  · have hi2 : i < gc S.r := by rw [← eg]; exact hi
    show isC (begR (putR S.r 0 31 (shS S.r)) (76 + 4 * i + 1))
    rw [eO _ (by omega) (by omega) (by omega)]
    exact hvc.2 i hi2
theorem dL_freezes_0 : decode cL_freezes 0 = .ok (.bipush 32, 2) := by decide +kernel
theorem dL_freezes_2 : decode cL_freezes 2 = .ok (.newarray .int, 2) := by decide +kernel
theorem dL_freezes_4 : decode cL_freezes 4 = .ok (.astore 4, 2) := by decide +kernel
theorem dL_freezes_6 : decode cL_freezes 6 = .ok (.iconst 0, 1) := by decide +kernel
theorem dL_freezes_7 : decode cL_freezes 7 = .ok (.istore 5, 2) := by decide +kernel
theorem dL_freezes_9 : decode cL_freezes 9 = .ok (.iconst 0, 1) := by decide +kernel
theorem dL_freezes_10 : decode cL_freezes 10 = .ok (.istore 6, 2) := by decide +kernel
theorem dL_freezes_12 : decode cL_freezes 12 = .ok (.iload 6, 2) := by decide +kernel
theorem dL_freezes_14 : decode cL_freezes 14 = .ok (.bipush 32, 2) := by decide +kernel
theorem dL_freezes_16 : decode cL_freezes 16 = .ok (.if_icmp .ge 44, 3) := by decide +kernel
theorem dL_freezes_19 : decode cL_freezes 19 = .ok (.aload 4, 2) := by decide +kernel
theorem dL_freezes_21 : decode cL_freezes 21 = .ok (.iload 6, 2) := by decide +kernel
theorem dL_freezes_23 : decode cL_freezes 23 = .ok (.aload_n 1, 1) := by decide +kernel
theorem dL_freezes_24 : decode cL_freezes 24 = .ok (.aload_n 2, 1) := by decide +kernel
theorem dL_freezes_25 : decode cL_freezes 25 = .ok (.aload_n 3, 1) := by decide +kernel
theorem dL_freezes_26 : decode cL_freezes 26 = .ok (.iload 6, 2) := by decide +kernel
theorem dL_freezes_28 : decode cL_freezes 28 = .ok (.invokestatic 50, 3) := by decide +kernel
theorem dL_freezes_31 : decode cL_freezes 31 = .ok (.iastore, 1) := by decide +kernel
theorem dL_freezes_32 : decode cL_freezes 32 = .ok (.iload 5, 2) := by decide +kernel
theorem dL_freezes_34 : decode cL_freezes 34 = .ok (.aload 4, 2) := by decide +kernel
theorem dL_freezes_36 : decode cL_freezes 36 = .ok (.iload 6, 2) := by decide +kernel
theorem dL_freezes_38 : decode cL_freezes 38 = .ok (.iaload, 1) := by decide +kernel
theorem dL_freezes_39 : decode cL_freezes 39 = .ok (.aload_n 1, 1) := by decide +kernel
theorem dL_freezes_40 : decode cL_freezes 40 = .ok (.iload 6, 2) := by decide +kernel
theorem dL_freezes_42 : decode cL_freezes 42 = .ok (.iaload, 1) := by decide +kernel
theorem dL_freezes_43 : decode cL_freezes 43 = .ok (.if_icmp .ne 7, 3) := by decide +kernel
theorem dL_freezes_46 : decode cL_freezes 46 = .ok (.iconst 0, 1) := by decide +kernel
theorem dL_freezes_47 : decode cL_freezes 47 = .ok (.goto 4, 3) := by decide +kernel
theorem dL_freezes_50 : decode cL_freezes 50 = .ok (.iconst 1, 1) := by decide +kernel
theorem dL_freezes_51 : decode cL_freezes 51 = .ok (.iadd, 1) := by decide +kernel
theorem dL_freezes_52 : decode cL_freezes 52 = .ok (.istore 5, 2) := by decide +kernel
theorem dL_freezes_54 : decode cL_freezes 54 = .ok (.iinc 6 1, 3) := by decide +kernel
theorem dL_freezes_57 : decode cL_freezes 57 = .ok (.goto (-45), 3) := by decide +kernel
theorem dL_freezes_60 : decode cL_freezes 60 = .ok (.aload 4, 2) := by decide +kernel
theorem dL_freezes_62 : decode cL_freezes 62 = .ok (.aload_n 1, 1) := by decide +kernel
theorem dL_freezes_63 : decode cL_freezes 63 = .ok (.bipush 32, 2) := by decide +kernel
theorem dL_freezes_65 : decode cL_freezes 65 = .ok (.invokestatic 68, 3) := by decide +kernel
theorem dL_freezes_68 : decode cL_freezes 68 = .ok (.bipush 8, 2) := by decide +kernel
theorem dL_freezes_70 : decode cL_freezes 70 = .ok (.istore 6, 2) := by decide +kernel
theorem dL_freezes_72 : decode cL_freezes 72 = .ok (.iload 6, 2) := by decide +kernel
theorem dL_freezes_74 : decode cL_freezes 74 = .ok (.bipush 8, 2) := by decide +kernel
theorem dL_freezes_76 : decode cL_freezes 76 = .ok (.bipush 8, 2) := by decide +kernel
theorem dL_freezes_78 : decode cL_freezes 78 = .ok (.aload_n 2, 1) := by decide +kernel
theorem dL_freezes_79 : decode cL_freezes 79 = .ok (.iconst 0, 1) := by decide +kernel
theorem dL_freezes_80 : decode cL_freezes 80 = .ok (.iaload, 1) := by decide +kernel
theorem dL_freezes_81 : decode cL_freezes 81 = .ok (.imul, 1) := by decide +kernel
theorem dL_freezes_82 : decode cL_freezes 82 = .ok (.iadd, 1) := by decide +kernel
theorem dL_freezes_83 : decode cL_freezes 83 = .ok (.if_icmp .ge 24, 3) := by decide +kernel
theorem dL_freezes_86 : decode cL_freezes 86 = .ok (.aload_n 2, 1) := by decide +kernel
theorem dL_freezes_87 : decode cL_freezes 87 = .ok (.iload 6, 2) := by decide +kernel
theorem dL_freezes_89 : decode cL_freezes 89 = .ok (.iconst 5, 1) := by decide +kernel
theorem dL_freezes_90 : decode cL_freezes 90 = .ok (.iadd, 1) := by decide +kernel
theorem dL_freezes_91 : decode cL_freezes 91 = .ok (.iconst 0, 1) := by decide +kernel
theorem dL_freezes_92 : decode cL_freezes 92 = .ok (.iastore, 1) := by decide +kernel
theorem dL_freezes_93 : decode cL_freezes 93 = .ok (.aload_n 2, 1) := by decide +kernel
theorem dL_freezes_94 : decode cL_freezes 94 = .ok (.iload 6, 2) := by decide +kernel
theorem dL_freezes_96 : decode cL_freezes 96 = .ok (.bipush 6, 2) := by decide +kernel
theorem dL_freezes_98 : decode cL_freezes 98 = .ok (.iadd, 1) := by decide +kernel
theorem dL_freezes_99 : decode cL_freezes 99 = .ok (.iconst 0, 1) := by decide +kernel
theorem dL_freezes_100 : decode cL_freezes 100 = .ok (.iastore, 1) := by decide +kernel
theorem dL_freezes_101 : decode cL_freezes 101 = .ok (.iinc 6 8, 3) := by decide +kernel
theorem dL_freezes_104 : decode cL_freezes 104 = .ok (.goto (-32), 3) := by decide +kernel
theorem dL_freezes_107 : decode cL_freezes 107 = .ok (.iconst 4, 1) := by decide +kernel
theorem dL_freezes_108 : decode cL_freezes 108 = .ok (.istore 6, 2) := by decide +kernel
theorem dL_freezes_110 : decode cL_freezes 110 = .ok (.iload 6, 2) := by decide +kernel
theorem dL_freezes_112 : decode cL_freezes 112 = .ok (.iconst 4, 1) := by decide +kernel
theorem dL_freezes_113 : decode cL_freezes 113 = .ok (.iconst 4, 1) := by decide +kernel
theorem dL_freezes_114 : decode cL_freezes 114 = .ok (.aload_n 3, 1) := by decide +kernel
theorem dL_freezes_115 : decode cL_freezes 115 = .ok (.iconst 0, 1) := by decide +kernel
theorem dL_freezes_116 : decode cL_freezes 116 = .ok (.iaload, 1) := by decide +kernel
theorem dL_freezes_117 : decode cL_freezes 117 = .ok (.imul, 1) := by decide +kernel
theorem dL_freezes_118 : decode cL_freezes 118 = .ok (.iadd, 1) := by decide +kernel
theorem dL_freezes_119 : decode cL_freezes 119 = .ok (.if_icmp .ge 16, 3) := by decide +kernel
theorem dL_freezes_122 : decode cL_freezes 122 = .ok (.aload_n 3, 1) := by decide +kernel
theorem dL_freezes_123 : decode cL_freezes 123 = .ok (.iload 6, 2) := by decide +kernel
theorem dL_freezes_125 : decode cL_freezes 125 = .ok (.iconst 3, 1) := by decide +kernel
theorem dL_freezes_126 : decode cL_freezes 126 = .ok (.iadd, 1) := by decide +kernel
theorem dL_freezes_127 : decode cL_freezes 127 = .ok (.iconst 0, 1) := by decide +kernel
theorem dL_freezes_128 : decode cL_freezes 128 = .ok (.iastore, 1) := by decide +kernel
theorem dL_freezes_129 : decode cL_freezes 129 = .ok (.iinc 6 4, 3) := by decide +kernel
theorem dL_freezes_132 : decode cL_freezes 132 = .ok (.goto (-22), 3) := by decide +kernel
theorem dL_freezes_135 : decode cL_freezes 135 = .ok (.aload_n 0, 1) := by decide +kernel
theorem dL_freezes_136 : decode cL_freezes 136 = .ok (.invokevirtual 118, 3) := by decide +kernel
theorem dL_freezes_139 : decode cL_freezes 139 = .ok (.iload 5, 2) := by decide +kernel
theorem dL_freezes_141 : decode cL_freezes 141 = .ok (.if_icmp .ne 7, 3) := by decide +kernel
theorem dL_freezes_144 : decode cL_freezes 144 = .ok (.iconst 1, 1) := by decide +kernel
theorem dL_freezes_145 : decode cL_freezes 145 = .ok (.goto 4, 3) := by decide +kernel
theorem dL_freezes_148 : decode cL_freezes 148 = .ok (.iconst 0, 1) := by decide +kernel
theorem dL_freezes_149 : decode cL_freezes 149 = .ok (.ireturn, 1) := by decide +kernel
set_option maxHeartbeats 4000000 in
set_option maxRecDepth 100000 in
theorem w_freezes2 (l : Launch) (E : gE) (X : gX) (Ec E1 : gE) (g : Mem) (S : AS) (c r h p : Nat → Int32) (hL : LWP Ec E g S c r h p) (hk5 : eK E = 105) (hs1 : eSub Ec E1) (hk1 : 104 ≤ eK E1) (ht1 : E1.2.1 = E.2.1) (B M : Nat) (hB : B ≤ 9000000) (hM : M ≤ 90000000) (hI : IV S c r h p B M) (z104 : Nat → Int32) (h104 : g 104 = aI E 0 32 z104) (hC : yC l E X RXL cL_freezes 7 (some .boolean) 6 138) : Y l E X (pI (fun z g' => z = nI 1 ∧ ∃ (S' : AS) (c' r' h' p' : Nat → Int32), LWP Ec E1 g' S' c' r' h' p' ∧ IV S' c' r' h' p' (B + 100000) (M + 1000))) 6 [some (rf E (0)), some (rf E (100)), some (rf E (101)), some (rf E (102)), some (rf E (104)), none, none] [] g := by
  obtain ⟨ho, ⟨a, K, hq⟩, hg, hcl, hvc, hpi⟩ := id hI
  have hv := ho.v
  have hrc : rc S.r ≤ 6 := hv.1.2
  have hgc : gc S.r ≤ 4 := hv.2.1.2
  have hob : oth (shS S.r) S.r 0 31 ≤ 32 := cn_le _ _
  refine y_iconst (v := nI 0) hC dL_freezes_6 (by decide) ?_
  refine y_istore hC dL_freezes_7 (Nat.le_of_ble_eq_true rfl) rfl (lo' := [some (rf E (0)), some (rf E (100)), some (rf E (101)), some (rf E (102)), some (rf E (104)), some (.int (nI (0))), none]) rfl ?_
  refine y_iconst (v := nI 0) hC dL_freezes_9 (by decide) ?_
  refine y_istore hC dL_freezes_10 (Nat.le_of_ble_eq_true rfl) rfl (lo' := [some (rf E (0)), some (rf E (100)), some (rf E (101)), some (rf E (102)), some (rf E (104)), some (.int (nI (0))), some (.int (nI (0)))]) rfl ?_
  refine y_lo (lo' := [some (rf E (0)), some (rf E (100)), some (rf E (101)), some (rf E (102)), some (rf E (104)), some (.int (nI (cn 0 (fun i => decide (¬ shS S.r (0 + i) = S.r (0 + i)))))), some (.int (nI (0)))]) rfl ?_
  have L_12 : ∀ (m : Nat) (k : Nat) (gg : Mem), (hm : 32 - k < m) → (hk : k ≤ 32) → (hL : LWP Ec E gg S c r h p) → (h104 : gg 104 = aI E 0 32 (cpF (shS S.r) z104 k)) → Y l E X (pI (fun z g' => z = nI 1 ∧ ∃ (S' : AS) (c' r' h' p' : Nat → Int32), LWP Ec E1 g' S' c' r' h' p' ∧ IV S' c' r' h' p' (B + 100000) (M + 1000))) 12 [some (rf E (0)), some (rf E (100)), some (rf E (101)), some (rf E (102)), some (rf E (104)), some (.int (nI (cn k (fun i => decide (¬ shS S.r (0 + i) = S.r (0 + i)))))), some (.int (nI (k)))] [] gg := by
    intro m
    induction m with
    | zero => intro k gg hm hk hL h104; exact absurd hm (Nat.not_lt_zero _)
    | succ m ih_12 =>
      intro k gg hm hk hL h104
      refine y_iload hC dL_freezes_12 rfl ?_
      refine y_bipush (v := nI 32) hC dL_freezes_14 (by decide) ?_
      refine y_icmp_ge_n (tgt := 60) hC dL_freezes_16 (by decide) (by omega) (by omega) (fun c_16 => ?_) (fun c_16 => ?_)
      · obtain rfl : k = 32 := by omega
        refine y_lo (lo' := [some (rf E (0)), some (rf E (100)), some (rf E (101)), some (rf E (102)), some (rf E (104)), some (.int (nI (oth (shS S.r) S.r 0 31))), some (.int (nI (32)))]) rfl ?_
        refine y_aload hC dL_freezes_60 rfl ?_
        refine y_aload_n hC dL_freezes_62 (i := 1) rfl rfl ?_
        refine y_bipush (v := nI 32) hC dL_freezes_63 (by decide) ?_
        refine y_callS hC mL_copy kXL_68 dL_freezes_65 (As := [rf E (104), rf E (100), .int (nI (32))]) (rest := []) (c_L_copy l E gg 104 100 32 32 (by omega) (by omega) (by decide) (cpF (shS S.r) z104 32) c h104 hL.a100 (by decide) (by decide)) rfl rfl rfl (Nat.le_of_ble_eq_true rfl) ⟨Nat.le_of_ble_eq_true rfl, Nat.le_of_ble_eq_true rfl⟩ (pk_v ?_)
        rintro g_65 ⟨h9_65, ho_65⟩
        have hL_65 := hL.wc h9_65 ho_65
        have hx_65 := (ho_65 104 (by decide)).trans (h104)
        refine y_bipush (v := nI 8) hC dL_freezes_68 (by decide) ?_
        refine y_istore hC dL_freezes_70 (Nat.le_of_ble_eq_true rfl) rfl (lo' := [some (rf E (0)), some (rf E (100)), some (rf E (101)), some (rf E (102)), some (rf E (104)), some (.int (nI (oth (shS S.r) S.r 0 31))), some (.int (nI (8)))]) rfl ?_
        have L_72 : ∀ (m : Nat) (k : Nat) (gg : Mem), (hm : rc S.r - k < m) → (hk : k ≤ rc S.r) → (hL : LWP Ec E gg S (cpF (cpF (shS S.r) z104 32) c 32) (rzF r k) h p) → Y l E X (pI (fun z g' => z = nI 1 ∧ ∃ (S' : AS) (c' r' h' p' : Nat → Int32), LWP Ec E1 g' S' c' r' h' p' ∧ IV S' c' r' h' p' (B + 100000) (M + 1000))) 72 [some (rf E (0)), some (rf E (100)), some (rf E (101)), some (rf E (102)), none, some (.int (nI (oth (shS S.r) S.r 0 31))), some (.int (nI (8 + 8 * k)))] [] gg := by
          intro m
          induction m with
          | zero => intro k gg hm hk hL; exact absurd hm (Nat.not_lt_zero _)
          | succ m ih_72 =>
            intro k gg hm hk hL
            refine y_iload hC dL_freezes_72 rfl ?_
            refine y_bipush (v := nI 8) hC dL_freezes_74 (by decide) ?_
            refine y_bipush (v := nI 8) hC dL_freezes_76 (by decide) ?_
            refine y_aload_n hC dL_freezes_78 (i := 2) rfl rfl ?_
            refine y_iconst (v := nI 0) hC dL_freezes_79 (by decide) ?_
            refine y_iald hC dL_freezes_80 (k := 101) (j := 0) (by have := hL.k; omega) hL.a101 (rfl) (by omega) (by decide) ?_
            refine y_top (y := nI (rc S.r)) ((rzF_o (by omega)).trans hq.n) ?_
            refine y_imul_n hC dL_freezes_81 ?_
            refine y_iadd_n hC dL_freezes_82 ?_
            refine y_icmp_ge_n (tgt := 107) hC dL_freezes_83 (by decide) (by omega) (by omega) (fun c_83 => ?_) (fun c_83 => ?_)
            · obtain rfl : k = rc S.r := by omega
              refine y_iconst (v := nI 4) hC dL_freezes_107 (by decide) ?_
              refine y_istore hC dL_freezes_108 (Nat.le_of_ble_eq_true rfl) rfl (lo' := [some (rf E (0)), some (rf E (100)), some (rf E (101)), some (rf E (102)), none, some (.int (nI (oth (shS S.r) S.r 0 31))), some (.int (nI (4)))]) rfl ?_
              have L_110 : ∀ (m : Nat) (k : Nat) (gg : Mem), (hm : gc S.r - k < m) → (hk : k ≤ gc S.r) → (hL : LWP Ec E gg S (cpF (cpF (shS S.r) z104 32) c 32) (rzF r (rc S.r)) (hzF h k) p) → Y l E X (pI (fun z g' => z = nI 1 ∧ ∃ (S' : AS) (c' r' h' p' : Nat → Int32), LWP Ec E1 g' S' c' r' h' p' ∧ IV S' c' r' h' p' (B + 100000) (M + 1000))) 110 [some (rf E (0)), some (rf E (100)), some (rf E (101)), some (rf E (102)), none, some (.int (nI (oth (shS S.r) S.r 0 31))), some (.int (nI (4 + 4 * k)))] [] gg := by
                intro m
                induction m with
                | zero => intro k gg hm hk hL; exact absurd hm (Nat.not_lt_zero _)
                | succ m ih_110 =>
                  intro k gg hm hk hL
                  refine y_iload hC dL_freezes_110 rfl ?_
                  refine y_iconst (v := nI 4) hC dL_freezes_112 (by decide) ?_
                  refine y_iconst (v := nI 4) hC dL_freezes_113 (by decide) ?_
                  refine y_aload_n hC dL_freezes_114 (i := 3) rfl rfl ?_
                  refine y_iconst (v := nI 0) hC dL_freezes_115 (by decide) ?_
                  refine y_iald hC dL_freezes_116 (k := 102) (j := 0) (by have := hL.k; omega) hL.a102 (rfl) (by omega) (by decide) ?_
                  refine y_top (y := nI (gc S.r)) ((hzF_o (by omega)).trans hg.n) ?_
                  refine y_imul_n hC dL_freezes_117 ?_
                  refine y_iadd_n hC dL_freezes_118 ?_
                  refine y_icmp_ge_n (tgt := 135) hC dL_freezes_119 (by decide) (by omega) (by omega) (fun c_119 => ?_) (fun c_119 => ?_)
                  · obtain rfl : k = gc S.r := by omega
                    refine y_aload_n hC dL_freezes_135 (i := 0) rfl rfl ?_
                    refine y_callVF hC hL.s mX5_freeze kXL_118 dL_freezes_136 (b := 0) (As := []) (rest := []) (CPm hL.cp (fun sh mk wa hcq => c_X5_freeze l Ec gg S B (by omega) ho sh mk wa hcq)) hL.k0 hL.a0 rfl rfl rfl (Nat.le_of_ble_eq_true rfl) ⟨Nat.le_of_ble_eq_true rfl, Nat.le_of_ble_eq_true rfl⟩ (pkf_i ?_)
                    rintro r_136 g_136 ⟨hr_136, hc_136⟩
                    have he_136 := (rfl : qFreeze S = _)
                    rw [he_136] at hr_136 hc_136
                    replace hr_136 : r_136 = nI (oth (shS S.r) S.r 0 31) := hr_136
                    replace hc_136 : CP Ec g_136 (S.rec.row (begR (putR S.r 0 31 (shS S.r)))) := hc_136
                    rw [hr_136]
                    clear hr_136 r_136
                    have hL_136 := hL.call hc_136
                    generalize mrg (eK Ec) g_136 gg = G_136 at hL_136  ⊢
                    refine y_iload hC dL_freezes_139 rfl ?_
                    refine y_icmp_ne_n (tgt := 148) hC dL_freezes_141 (by decide) (by omega) (by omega) (fun c_141 => ?_) (fun c_141 => ?_)
                    · exact absurd rfl c_141
                    · refine y_iconst (v := nI 1) hC dL_freezes_144 (by decide) ?_
                      refine y_goto (tgt := 149) hC dL_freezes_145 (by decide) ?_
                      refine y_zret (hrt := rfl) (hn := rfl) (hC := hC) (hd := dL_freezes_149) (hq := ?_)
                      exact ⟨rfl, _, _, _, _, _, hL_136.to hs1 hk1 ht1, (fz_all hI hB (fun k hk => (if_pos hk).trans (if_pos hk))).le (by omega) (by omega)⟩
                  · refine y_aload_n hC dL_freezes_122 (i := 3) rfl rfl ?_
                    refine y_iload hC dL_freezes_123 rfl ?_
                    refine y_iconst (v := nI 3) hC dL_freezes_125 (by decide) ?_
                    refine y_iadd_n hC dL_freezes_126 ?_
                    refine y_iconst (v := nI 0) hC dL_freezes_127 (by decide) ?_
                    refine y_iast hC dL_freezes_128 (k := 102) (j := (4 + 4 * k) + 3) (by have := hL.k; omega) hL.a102 (rfl) (by omega) (by decide) ?_
                    have hL_128 := hL.uh (upd (hzF h k) ((4 + 4 * k) + 3) (nI (0)))
                    generalize (va_up gg (102) (aI E 0 20 (upd (hzF h k) ((4 + 4 * k) + 3) (nI (0))))) = G_128 at hL_128  ⊢
                    rw [hzF_s] at hL_128
                    refine y_iinc_n hC dL_freezes_129 (a := 4 + 4 * k) (k := 4) rfl (by decide) (Nat.le_of_ble_eq_true rfl) rfl (lo' := [some (rf E (0)), some (rf E (100)), some (rf E (101)), some (rf E (102)), none, some (.int (nI (oth (shS S.r) S.r 0 31))), some (.int (nI (4 + 4 * k + 4)))]) rfl ?_
                    refine y_goto (tgt := 110) hC dL_freezes_132 (by decide) ?_
                    rw [show 4 + 4 * k + 4 = 4 + 4 * (k + 1) from by omega]
                    exact ih_110 (k + 1) G_128 (by omega) (by omega) hL_128
              exact L_110 (gc S.r + 1) 0 gg (by omega) (by omega) (by rw [hzF_0]; exact hL)
            · refine y_aload_n hC dL_freezes_86 (i := 2) rfl rfl ?_
              refine y_iload hC dL_freezes_87 rfl ?_
              refine y_iconst (v := nI 5) hC dL_freezes_89 (by decide) ?_
              refine y_iadd_n hC dL_freezes_90 ?_
              refine y_iconst (v := nI 0) hC dL_freezes_91 (by decide) ?_
              refine y_iast hC dL_freezes_92 (k := 101) (j := (8 + 8 * k) + 5) (by have := hL.k; omega) hL.a101 (rfl) (by omega) (by decide) ?_
              have hL_92 := hL.ur (upd (rzF r k) ((8 + 8 * k) + 5) (nI (0)))
              generalize (va_up gg (101) (aI E 0 56 (upd (rzF r k) ((8 + 8 * k) + 5) (nI (0))))) = G_92 at hL_92  ⊢
              refine y_aload_n hC dL_freezes_93 (i := 2) rfl rfl ?_
              refine y_iload hC dL_freezes_94 rfl ?_
              refine y_bipush (v := nI 6) hC dL_freezes_96 (by decide) ?_
              refine y_iadd_n hC dL_freezes_98 ?_
              refine y_iconst (v := nI 0) hC dL_freezes_99 (by decide) ?_
              refine y_iast hC dL_freezes_100 (k := 101) (j := (8 + 8 * k) + 6) (by have := hL_92.k; omega) hL_92.a101 (rfl) (by omega) (by decide) ?_
              have hL_100 := hL_92.ur (upd (upd (rzF r k) ((8 + 8 * k) + 5) (nI (0))) ((8 + 8 * k) + 6) (nI (0)))
              generalize (va_up G_92 (101) (aI E 0 56 (upd (upd (rzF r k) ((8 + 8 * k) + 5) (nI (0))) ((8 + 8 * k) + 6) (nI (0))))) = G_100 at hL_100  ⊢
              rw [rzF_s] at hL_100
              refine y_iinc_n hC dL_freezes_101 (a := 8 + 8 * k) (k := 8) rfl (by decide) (Nat.le_of_ble_eq_true rfl) rfl (lo' := [some (rf E (0)), some (rf E (100)), some (rf E (101)), some (rf E (102)), none, some (.int (nI (oth (shS S.r) S.r 0 31))), some (.int (nI (8 + 8 * k + 8)))]) rfl ?_
              refine y_goto (tgt := 72) hC dL_freezes_104 (by decide) ?_
              rw [show 8 + 8 * k + 8 = 8 + 8 * (k + 1) from by omega]
              exact ih_72 (k + 1) G_100 (by omega) (by omega) hL_100
        refine y_fg 4 (lo' := [some (rf E (0)), some (rf E (100)), some (rf E (101)), some (rf E (102)), none, some (.int (nI (oth (shS S.r) S.r 0 31))), some (.int (nI (8)))]) rfl ?_
        exact L_72 (rc S.r + 1) 0 g_65 (by omega) (by omega) (by rw [rzF_0]; exact hL_65)
      · have hcb := cn_le k (fun i => decide (¬ shS S.r (0 + i) = S.r (0 + i)))
        refine y_aload hC dL_freezes_19 rfl ?_
        refine y_iload hC dL_freezes_21 rfl ?_
        refine y_aload_n hC dL_freezes_23 (i := 1) rfl rfl ?_
        refine y_aload_n hC dL_freezes_24 (i := 2) rfl rfl ?_
        refine y_aload_n hC dL_freezes_25 (i := 3) rfl rfl ?_
        refine y_iload hC dL_freezes_26 rfl ?_
        refine y_callS hC mL_shown kXL_50 dL_freezes_28 (As := [rf E (100), rf E (101), rf E (102), .int (nI (k))]) (rest := [.int (nI (k)), rf E (104)]) (c_L_shown l E gg 100 101 102 (by omega) (by omega) (by omega) c r h hL.a100 hL.a101 hL.a102 S.r B M hv (by omega) (by omega) a K hq hg hcl hvc (k) (by omega)) rfl rfl rfl (Nat.le_of_ble_eq_true rfl) ⟨Nat.le_of_ble_eq_true rfl, Nat.le_of_ble_eq_true rfl⟩ (pk_i ?_)
        rintro r_28 g_28 ⟨hr_28, hq_28⟩
        obtain rfl := hq_28.symm
        rw [hr_28]
        clear hr_28 r_28
        refine y_top (y := (shS S.r (k))) (rfl) ?_
        refine y_iast hC dL_freezes_31 (k := 104) (j := k) (by omega) h104 (rfl) (by omega) (by decide) ?_
        have hL_31 := hL.ut (k := 104) (by decide) (aI E 0 32 (upd (cpF (shS S.r) z104 k) (k) ((shS S.r (k)))))
        have hx104_31 : (va_up gg (104) (aI E 0 32 (upd (cpF (shS S.r) z104 k) (k) ((shS S.r (k)))))) 104 = _ := va_up_self _ _ _
        generalize (va_up gg (104) (aI E 0 32 (upd (cpF (shS S.r) z104 k) (k) ((shS S.r (k)))))) = G_31 at hL_31 hx104_31 ⊢
        rw [cpF_s] at hx104_31
        refine y_iload hC dL_freezes_32 rfl ?_
        refine y_aload hC dL_freezes_34 rfl ?_
        refine y_iload hC dL_freezes_36 rfl ?_
        refine y_iald hC dL_freezes_38 (k := 104) (j := k) (by omega) hx104_31 (rfl) (by omega) (by decide) ?_
        refine y_top (y := (shS S.r (k))) (if_pos (by omega)) ?_
        refine y_aload_n hC dL_freezes_39 (i := 1) rfl rfl ?_
        refine y_iload hC dL_freezes_40 rfl ?_
        refine y_iald hC dL_freezes_42 (k := 100) (j := k) (by have := hL_31.k; omega) hL_31.a100 (rfl) (by omega) (by decide) ?_
        refine y_top (y := (S.r (k))) (hcl _ (by omega)) ?_
        refine y_icmp_ne (tgt := 50) hC dL_freezes_43 (by decide) (fun c_43 => ?_) (fun c_43 => ?_)
        · refine y_iconst (v := nI 1) hC dL_freezes_50 (by decide) ?_
          refine y_iadd_n hC dL_freezes_51 ?_
          refine y_top (y := nI (cn (k + 1) (fun i => decide (¬ shS S.r (0 + i) = S.r (0 + i))))) (congrArg nI (by rw [cn_s, show 0 + k = k by omega]; first | rw [if_pos (decide_eq_true c_43)] | simp [c_43])) ?_
          refine y_istore hC dL_freezes_52 (Nat.le_of_ble_eq_true rfl) rfl (lo' := [some (rf E (0)), some (rf E (100)), some (rf E (101)), some (rf E (102)), some (rf E (104)), some (.int (nI (cn (k + 1) (fun i => decide (¬ shS S.r (0 + i) = S.r (0 + i)))))), some (.int (nI (k)))]) rfl ?_
          refine y_iinc_n hC dL_freezes_54 (a := k) (k := 1) rfl (by decide) (Nat.le_of_ble_eq_true rfl) rfl (lo' := [some (rf E (0)), some (rf E (100)), some (rf E (101)), some (rf E (102)), some (rf E (104)), some (.int (nI (cn (k + 1) (fun i => decide (¬ shS S.r (0 + i) = S.r (0 + i)))))), some (.int (nI (k + 1)))]) rfl ?_
          refine y_goto (tgt := 12) hC dL_freezes_57 (by decide) ?_
          exact ih_12 (k + 1) G_31 (by omega) (by omega) hL_31 hx104_31
        · refine y_iconst (v := nI 0) hC dL_freezes_46 (by decide) ?_
          refine y_goto (tgt := 51) hC dL_freezes_47 (by decide) ?_
          refine y_iadd_n hC dL_freezes_51 ?_
          refine y_top (y := nI (cn (k + 1) (fun i => decide (¬ shS S.r (0 + i) = S.r (0 + i))))) (congrArg nI (by rw [cn_s, show 0 + k = k by omega]; first | rw [if_pos (decide_eq_true c_43)] | simp [c_43])) ?_
          refine y_istore hC dL_freezes_52 (Nat.le_of_ble_eq_true rfl) rfl (lo' := [some (rf E (0)), some (rf E (100)), some (rf E (101)), some (rf E (102)), some (rf E (104)), some (.int (nI (cn (k + 1) (fun i => decide (¬ shS S.r (0 + i) = S.r (0 + i)))))), some (.int (nI (k)))]) rfl ?_
          refine y_iinc_n hC dL_freezes_54 (a := k) (k := 1) rfl (by decide) (Nat.le_of_ble_eq_true rfl) rfl (lo' := [some (rf E (0)), some (rf E (100)), some (rf E (101)), some (rf E (102)), some (rf E (104)), some (.int (nI (cn (k + 1) (fun i => decide (¬ shS S.r (0 + i) = S.r (0 + i)))))), some (.int (nI (k + 1)))]) rfl ?_
          refine y_goto (tgt := 12) hC dL_freezes_57 (by decide) ?_
          exact ih_12 (k + 1) G_31 (by omega) (by omega) hL_31 hx104_31
  exact L_12 33 0 g (by omega) (by omega) hL (by rw [cpF_0]; exact h104)

set_option maxHeartbeats 4000000 in
set_option maxRecDepth 100000 in
theorem c_L_freezes (l : Launch) (G : va_G) (T : Nat → ClassId) (b : Nat) (g : Mem) (S : AS) (c r h p : Nat → Int32) (hL : LWP (zE G T b 100) (zE G T b 104) g S c r h p) (B M : Nat) (hB : B ≤ 9000000) (hM : M ≤ 90000000) (hI : IV S c r h p B M) : Mta l (zE G T b 104) (zA b) yL_freezes cL_freezes 7 (some .boolean) 6 138 1 64 [rf (zE G T b 104) (0), rf (zE G T b 104) (100), rf (zE G T b 104) (101), rf (zE G T b 104) (102)] g (pI (fun z g' => z = nI 1 ∧ ∃ (S' : AS) (c' r' h' p' : Nat → Int32), LWP (zE G T b 100) (zE G T b 104) g' S' c' r' h' p' ∧ IV S' c' r' h' p' (B + 100000) (M + 1000))) := by
  refine mta_go (own := RXL) (by decide) rfl (fun q hq => zgA hq) (lo := [some (rf (zE G T b 104) (0)), some (rf (zE G T b 104) (100)), some (rf (zE G T b 104) (101)), some (rf (zE G T b 104) (102)), none, none, none]) rfl (Nat.le_of_ble_eq_true rfl) (fun p_ e_ R_ s_ m_ args_ below_ meth_ cd_ H_ hP_ hH_ hC => ?_)
  have hnew : ∀ q, s_.heap.size ≤ q → zA b q := fun q hq => Nat.le_trans (by rw [← hH_]; exact zgH hP_) hq
  refine y_bipush (v := nI 32) hC dL_freezes_0 (by decide) ?_
  refine y_newa hC dL_freezes_2 (N := 32) (E' := fun a => zX1 G T b a) rfl (by decide) ⟨Nat.le_of_ble_eq_true rfl, Nat.le_of_ble_eq_true rfl⟩ (fun a => zX1_add G T b a) hnew (fun a1 hC1 => ?_)
  refine y_astore hC1 (o := some 104) dL_freezes_4 (i := 4) (Nat.le_of_ble_eq_true rfl) rfl (lo' := [some (rf (zX1 G T b a1) 0), some (rf (zX1 G T b a1) 100), some (rf (zX1 G T b a1) 101), some (rf (zX1 G T b a1) 102), some (rf (zX1 G T b a1) 104), none, none]) rfl ?_
  exact w_freezes2 l (zX1 G T b a1) _ (zE G T b 100) (zE G T b 104) _ S c r h p ((hL.ut (k := 104) (by decide) _).to (zs2 G T b a1) (by decide : 104 ≤ 105) rfl) rfl (zs1 G T b) (by decide : 104 ≤ 104) rfl B M hB hM hI (fun _ => 0) (va_up_self _ _ _) hC1

