/-! ===== the law: ranges are removed, set anew, paused ===== -/
/-- a row whose part from lo on has moved by n, up to t -/
def rsh (r : Nat → Int32) (n lo t : Nat) : Nat → Int32 := fun j => if lo ≤ j ∧ j < t then r (j + n) else r j
theorem rsh_0 {r : Nat → Int32} {n lo : Nat} : rsh r n lo lo = r := funext fun j => if_neg (by omega)
theorem rsh_s {r : Nat → Int32} {n lo t : Nat} (h : lo ≤ t) : upd (rsh r n lo t) t (r (t + n)) = rsh r n lo (t + 1) := by
  funext j
  by_cases e : j = t
  · rw [e, pk_us]; exact (if_pos (by omega)).symm
  · rw [pk_un e]
    unfold rsh
    by_cases c : lo ≤ j ∧ j < t
    · rw [if_pos c, if_pos (by omega)]
    · rw [if_neg c, if_neg (by omega)]
theorem rsh_o {r : Nat → Int32} {n lo t j : Nat} (h : ¬ (lo ≤ j ∧ j < t)) : rsh r n lo t j = r j := if_neg h
theorem rsh_i {r : Nat → Int32} {n lo t j : Nat} (h : lo ≤ j ∧ j < t) : rsh r n lo t j = r (j + n) := if_pos h
theorem qr_n {S : AS} {k : Nat} (h : rc S.r ≤ k) (hk : k < 1000) : qRemoveRange S (nI k) = (-1, S) := by
  unfold qRemoveRange
  rw [if_neg (by rw [tI (by omega)]; omega)]
theorem qr_0 {S : AS} {k : Nat} (h : k < rc S.r) (hk : k < 1000) : qRemoveRange S (nI k) = (nI (rc S.r - 1), S.rec.row (remR S.r k)) := by
  unfold qRemoveRange
  rw [if_pos (by rw [tI (by omega)]; omega), nn_I (by omega)]
theorem rg_rem {ρ : Row} {B M k : Nat} {r r2 : Nat → Int32} {a K : Nat → Nat} (hv : Vr ρ B) (hq : RgL ρ r a K M) (hk : k < rc ρ)
    (e0 : r2 0 = nI (rc ρ - 1)) (e1 : ∀ i j, i < k → j < 8 → r2 (8 + 8 * i + j) = r (8 + 8 * i + j)) (e2 : ∀ i j, k ≤ i → i + 1 < rc ρ → j < 8 → r2 (8 + 8 * i + j) = r (8 + 8 * (i + 1) + j)) :
    RgL (remR ρ k) r2 (fun i => if i < k then a i else a (i + 1)) (fun i => if i < k then K i else K (i + 1)) M := by
  have h6 := hv.1.2
  have er : rc (remR ρ k) = rc ρ - 1 := by
    show nn (remR ρ k 32) = _
    rw [show remR ρ k 32 = nI (rc ρ - 1) from if_pos rfl]
    exact nn_I (by omega)
  refine ⟨by rw [er]; exact e0, fun i hi => ?_⟩
  rw [er] at hi
  dsimp only
  by_cases c : i < k
  · have eo : ∀ j, j < 7 → rg (remR ρ k) i j = rg ρ i j := fun j hj => rg_of ((if_neg (by omega)).trans (if_neg (by omega)))
    have hn : nP (remR ρ k) i = nP ρ i := by unfold nP; rw [eo 0 (by decide), eo 1 (by decide)]
    have hi2 : i < rc ρ := by omega
    have z := e1 i
    rw [eo 0 (by decide), hn, eo 2 (by decide), eo 3 (by decide), eo 4 (by decide), eo 5 (by decide), eo 6 (by decide), if_pos c, if_pos c]
    exact ⟨(z 0 c (by decide)).trans (hq.f0 hi2), (z 1 c (by decide)).trans (hq.f1 hi2), (z 2 c (by decide)).trans (hq.f2 hi2), (z 3 c (by decide)).trans (hq.f3 hi2), (z 4 c (by decide)).trans (hq.f4 hi2), (z 5 c (by decide)).trans (hq.f5 hi2), (z 6 c (by decide)).trans (hq.f6 hi2), hq.md hi2, hq.dv hi2, hq.le hi2⟩
  · have eo : ∀ j, j < 7 → rg (remR ρ k) i j = rg ρ (i + 1) j := fun j hj => by
      unfold rg remR
      rw [if_neg (by omega), if_pos (by omega), show 33 + 7 * i + j + 7 = 33 + 7 * (i + 1) + j by omega]
    have hn : nP (remR ρ k) i = nP ρ (i + 1) := by unfold nP; rw [eo 0 (by decide), eo 1 (by decide)]
    have hi2 : i + 1 < rc ρ := by omega
    have z := e2 i
    rw [eo 0 (by decide), hn, eo 2 (by decide), eo 3 (by decide), eo 4 (by decide), eo 5 (by decide), eo 6 (by decide), if_neg c, if_neg c]
    have c2 : k ≤ i := by omega
    exact ⟨(z 0 c2 hi2 (by decide)).trans (hq.f0 hi2), (z 1 c2 hi2 (by decide)).trans (hq.f1 hi2), (z 2 c2 hi2 (by decide)).trans (hq.f2 hi2), (z 3 c2 hi2 (by decide)).trans (hq.f3 hi2), (z 4 c2 hi2 (by decide)).trans (hq.f4 hi2), (z 5 c2 hi2 (by decide)).trans (hq.f5 hi2), (z 6 c2 hi2 (by decide)).trans (hq.f6 hi2), hq.md hi2, hq.dv hi2, hq.le hi2⟩
/-- one range's words are others -/
theorem rg_set {ρ ρ2 : Row} {B M k ak Kk : Nat} {r r2 : Nat → Int32} {a K : Nat → Nat} (hv : Vr ρ B) (hq : RgL ρ r a K M) (hk : k < rc ρ) (er : rc ρ2 = rc ρ)
    (eo : ∀ i j, i < rc ρ → i ≠ k → j < 7 → rg ρ2 i j = rg ρ i j) (e : ∀ i, ¬ (8 + 8 * k ≤ i ∧ i < 16 + 8 * k) → r2 i = r i)
    (en : r2 (8 + 8 * k) = nI (rg ρ2 k 0) ∧ r2 (8 + 8 * k + 1) = nI (nP ρ2 k) ∧ r2 (8 + 8 * k + 2) = nI (rg ρ2 k 2) ∧ r2 (8 + 8 * k + 3) = nI (rg ρ2 k 3) ∧ r2 (8 + 8 * k + 4) = nI (rg ρ2 k 4) ∧
      r2 (8 + 8 * k + 5) = nI ak ∧ r2 (8 + 8 * k + 6) = nI Kk ∧ ak % rg ρ2 k 2 = rg ρ2 k 5 ∧ ak / rg ρ2 k 2 + Kk = rg ρ2 k 6 ∧ ak ≤ M) :
    RgL ρ2 r2 (fun i => if i = k then ak else a i) (fun i => if i = k then Kk else K i) M := by
  refine ⟨by rw [er, e 0 (by omega)]; exact hq.n, fun i hi => ?_⟩
  rw [er] at hi
  dsimp only
  by_cases c : i = k
  · subst c
    rw [if_pos rfl, if_pos rfl]
    exact en
  · have hn : nP ρ2 i = nP ρ i := by unfold nP; rw [eo i 0 hi c (by decide), eo i 1 hi c (by decide)]
    rw [if_neg c, if_neg c, eo i 0 hi c (by decide), hn, eo i 2 hi c (by decide), eo i 3 hi c (by decide), eo i 4 hi c (by decide), eo i 5 hi c (by decide), eo i 6 hi c (by decide), e _ (by omega), e _ (by omega), e _ (by omega), e _ (by omega), e _ (by omega), e _ (by omega), e _ (by omega)]
    exact ⟨hq.f0 hi, hq.f1 hi, hq.f2 hi, hq.f3 hi, hq.f4 hi, hq.f5 hi, hq.f6 hi, hq.md hi, hq.dv hi, hq.le hi⟩
theorem qs_n {S : AS} {k : Nat} (h : rc S.r ≤ k) (hk : k < 1000) (y z : Int32) : qSetSpeed S (nI k) y z = (-1, S) := by
  unfold qSetSpeed
  rw [if_neg (by rw [tI (by omega)]; omega)]
theorem qs_3 {S : AS} {k : Nat} (h : k < rc S.r) (hk : k < 1000) (y : Int32) : qSetSpeed S (nI k) y (nI 3) = (-2, S) := by
  unfold qSetSpeed
  rw [if_pos (by rw [tI (by omega)]; omega), if_neg (fun q => absurd q.2.2 (by decide))]
theorem qs_0 {S : AS} {k s w : Nat} (h : k < rc S.r) (hk : k < 1000) (h1 : 1 ≤ s) (h2 : s ≤ 30) (hw : w ≤ 2) : qSetSpeed S (nI k) (nI s) (nI w) = (nI (rg S.r k 2), S.rec.row (spdR S.r k (nI s) (nI w))) := by
  unfold qSetSpeed
  rw [if_pos (by rw [tI (by omega)]; omega), if_pos (by rw [tI (by omega), tI (by omega)]; omega), nn_I (by omega)]
theorem rg_spd {ρ : Row} {B M k s w : Nat} {r r2 : Nat → Int32} {a K : Nat → Nat} (hv : Vr ρ B) (hq : RgL ρ r a K M) (hk : k < rc ρ) (hs : 1 ≤ s) (hs2 : s ≤ 30) (hw : w ≤ 2)
    (e : ∀ i, i ≠ 8 + 8 * k + 2 → i ≠ 8 + 8 * k + 3 → i ≠ 8 + 8 * k + 5 → i ≠ 8 + 8 * k + 6 → r2 i = r i) (n2 : r2 (8 + 8 * k + 2) = nI s) (n3 : r2 (8 + 8 * k + 3) = nI w) (n5 : r2 (8 + 8 * k + 5) = nI 0) (n6 : r2 (8 + 8 * k + 6) = nI 0) :
    RgL (spdR ρ k (nI s) (nI w)) r2 (fun i => if i = k then 0 else a i) (fun i => if i = k then 0 else K i) M := by
  have h6 := hv.1.2
  have hf : ∀ i, i ≠ 35 + 7 * k → i ≠ 36 + 7 * k → i ≠ 38 + 7 * k → i ≠ 39 + 7 * k → spdR ρ k (nI s) (nI w) i = ρ i := fun i h1 h2 h3 h4 => by unfold spdR; rw [if_neg h1, if_neg h2, if_neg h3, if_neg h4]
  have g0 : rg (spdR ρ k (nI s) (nI w)) k 0 = rg ρ k 0 := rg_of (hf _ (by omega) (by omega) (by omega) (by omega))
  have g1 : rg (spdR ρ k (nI s) (nI w)) k 1 = rg ρ k 1 := rg_of (hf _ (by omega) (by omega) (by omega) (by omega))
  have g4 : rg (spdR ρ k (nI s) (nI w)) k 4 = rg ρ k 4 := rg_of (hf _ (by omega) (by omega) (by omega) (by omega))
  have g2 : rg (spdR ρ k (nI s) (nI w)) k 2 = s := by
    unfold rg spdR
    rw [if_pos (by omega)]
    exact nn_I (by omega)
  have g3 : rg (spdR ρ k (nI s) (nI w)) k 3 = w := by
    unfold rg spdR
    rw [if_neg (by omega), if_pos (by omega)]
    exact nn_I (by omega)
  have g5 : rg (spdR ρ k (nI s) (nI w)) k 5 = 0 := by
    unfold rg spdR
    rw [if_neg (by omega), if_neg (by omega), if_pos (by omega)]
    exact nn_I (by omega)
  have g6 : rg (spdR ρ k (nI s) (nI w)) k 6 = 0 := by
    unfold rg spdR
    rw [if_neg (by omega), if_neg (by omega), if_neg (by omega), if_pos (by omega)]
    exact nn_I (by omega)
  have hn : nP (spdR ρ k (nI s) (nI w)) k = nP ρ k := by unfold nP; rw [g0, g1]
  refine rg_set hv hq hk (rc_of (hf _ (by omega) (by omega) (by omega) (by omega))) (fun i j hi hc hj => rg_of (hf _ (by omega) (by omega) (by omega) (by omega))) (fun i hi => e i (by omega) (by omega) (by omega) (by omega)) ?_
  rw [g0, hn, g2, g3, g4, g5, g6]
  exact ⟨(e _ (by omega) (by omega) (by omega) (by omega)).trans (hq.f0 hk), (e _ (by omega) (by omega) (by omega) (by omega)).trans (hq.f1 hk), n2, n3, (e _ (by omega) (by omega) (by omega) (by omega)).trans (hq.f4 hk), n5, n6, Nat.zero_mod _, by rw [Nat.zero_div], Nat.zero_le _⟩
theorem qn_n {S : AS} {k z : Nat} (h : rc S.r ≤ k) (hk : k < 1000) : qRun S (nI k) z = (-1, S) := by
  unfold qRun
  rw [if_neg (by rw [tI (by omega)]; omega)]
theorem qn_5 {S : AS} {k z : Nat} (h : k < rc S.r) (hk : k < 1000) (e : rg S.r k 4 = z) : qRun S (nI k) z = (-5, S) := by
  unfold qRun
  rw [if_pos (by rw [tI (by omega)]; omega), nn_I (by omega), if_pos e]
theorem qn_0 {S : AS} {k z : Nat} (h : k < rc S.r) (hk : k < 1000) (e : ¬ rg S.r k 4 = z) : qRun S (nI k) z = (nI (rnC (upd S.r (37 + 7 * k) (nI z))), S.rec.row (upd S.r (37 + 7 * k) (nI z))) := by
  unfold qRun
  rw [if_pos (by rw [tI (by omega)]; omega), nn_I (by omega), if_neg e]
theorem rg_run {ρ : Row} {B M k z : Nat} {r r2 : Nat → Int32} {a K : Nat → Nat} (hv : Vr ρ B) (hq : RgL ρ r a K M) (hk : k < rc ρ) (hz : z ≤ 1)
    (e : ∀ i, i ≠ 8 + 8 * k + 4 → r2 i = r i) (n4 : r2 (8 + 8 * k + 4) = nI z) :
    RgL (upd ρ (37 + 7 * k) (nI z)) r2 (fun i => if i = k then a k else a i) (fun i => if i = k then K k else K i) M := by
  have h6 := hv.1.2
  have hf : ∀ i, i ≠ 37 + 7 * k → upd ρ (37 + 7 * k) (nI z) i = ρ i := fun i h => pk_un h
  have g : ∀ j, j < 7 → j ≠ 4 → rg (upd ρ (37 + 7 * k) (nI z)) k j = rg ρ k j := fun j h1 h2 => rg_of (hf _ (by omega))
  have g4 : rg (upd ρ (37 + 7 * k) (nI z)) k 4 = z := by
    unfold rg
    rw [show 33 + 7 * k + 4 = 37 + 7 * k by omega, pk_us]
    exact nn_I (by omega)
  have hn : nP (upd ρ (37 + 7 * k) (nI z)) k = nP ρ k := by unfold nP; rw [g 0 (by decide) (by decide), g 1 (by decide) (by decide)]
  refine rg_set hv hq hk (rc_of (hf _ (by omega))) (fun i j hi hc hj => rg_of (hf _ (by omega))) (fun i hi => e i (by omega)) ?_
  rw [g 0 (by decide) (by decide), hn, g 2 (by decide) (by decide), g 3 (by decide) (by decide), g4, g 5 (by decide) (by decide), g 6 (by decide) (by decide)]
  exact ⟨(e _ (by omega)).trans (hq.f0 hk), (e _ (by omega)).trans (hq.f1 hk), (e _ (by omega)).trans (hq.f2 hk), (e _ (by omega)).trans (hq.f3 hk), n4, (e _ (by omega)).trans (hq.f5 hk), (e _ (by omega)).trans (hq.f6 hk), hq.md hk, hq.dv hk, hq.le hk⟩
theorem dL_removes_0 : decode cL_removes 0 = .ok (.iload_n 2, 1) := by decide +kernel
theorem dL_removes_1 : decode cL_removes 1 = .ok (.aload_n 1, 1) := by decide +kernel
theorem dL_removes_2 : decode cL_removes 2 = .ok (.iconst 0, 1) := by decide +kernel
theorem dL_removes_3 : decode cL_removes 3 = .ok (.iaload, 1) := by decide +kernel
theorem dL_removes_4 : decode cL_removes 4 = .ok (.if_icmp .lt 18, 3) := by decide +kernel
theorem dL_removes_7 : decode cL_removes 7 = .ok (.aload_n 0, 1) := by decide +kernel
theorem dL_removes_8 : decode cL_removes 8 = .ok (.iload_n 2, 1) := by decide +kernel
theorem dL_removes_9 : decode cL_removes 9 = .ok (.invokevirtual 98, 3) := by decide +kernel
theorem dL_removes_12 : decode cL_removes 12 = .ok (.iconst (-1), 1) := by decide +kernel
theorem dL_removes_13 : decode cL_removes 13 = .ok (.if_icmp .ne 7, 3) := by decide +kernel
theorem dL_removes_16 : decode cL_removes 16 = .ok (.iconst 1, 1) := by decide +kernel
theorem dL_removes_17 : decode cL_removes 17 = .ok (.goto 4, 3) := by decide +kernel
theorem dL_removes_20 : decode cL_removes 20 = .ok (.iconst 0, 1) := by decide +kernel
theorem dL_removes_21 : decode cL_removes 21 = .ok (.ireturn, 1) := by decide +kernel
theorem dL_removes_22 : decode cL_removes 22 = .ok (.aload_n 1, 1) := by decide +kernel
theorem dL_removes_23 : decode cL_removes 23 = .ok (.iconst 0, 1) := by decide +kernel
theorem dL_removes_24 : decode cL_removes 24 = .ok (.dup2, 1) := by decide +kernel
theorem dL_removes_25 : decode cL_removes 25 = .ok (.iaload, 1) := by decide +kernel
theorem dL_removes_26 : decode cL_removes 26 = .ok (.iconst 1, 1) := by decide +kernel
theorem dL_removes_27 : decode cL_removes 27 = .ok (.isub, 1) := by decide +kernel
theorem dL_removes_28 : decode cL_removes 28 = .ok (.iastore, 1) := by decide +kernel
theorem dL_removes_29 : decode cL_removes 29 = .ok (.bipush 8, 2) := by decide +kernel
theorem dL_removes_31 : decode cL_removes 31 = .ok (.bipush 8, 2) := by decide +kernel
theorem dL_removes_33 : decode cL_removes 33 = .ok (.iload_n 2, 1) := by decide +kernel
theorem dL_removes_34 : decode cL_removes 34 = .ok (.imul, 1) := by decide +kernel
theorem dL_removes_35 : decode cL_removes 35 = .ok (.iadd, 1) := by decide +kernel
theorem dL_removes_36 : decode cL_removes 36 = .ok (.istore_n 3, 1) := by decide +kernel
theorem dL_removes_37 : decode cL_removes 37 = .ok (.iload_n 3, 1) := by decide +kernel
theorem dL_removes_38 : decode cL_removes 38 = .ok (.bipush 8, 2) := by decide +kernel
theorem dL_removes_40 : decode cL_removes 40 = .ok (.bipush 8, 2) := by decide +kernel
theorem dL_removes_42 : decode cL_removes 42 = .ok (.aload_n 1, 1) := by decide +kernel
theorem dL_removes_43 : decode cL_removes 43 = .ok (.iconst 0, 1) := by decide +kernel
theorem dL_removes_44 : decode cL_removes 44 = .ok (.iaload, 1) := by decide +kernel
theorem dL_removes_45 : decode cL_removes 45 = .ok (.imul, 1) := by decide +kernel
theorem dL_removes_46 : decode cL_removes 46 = .ok (.iadd, 1) := by decide +kernel
theorem dL_removes_47 : decode cL_removes 47 = .ok (.if_icmp .ge 18, 3) := by decide +kernel
theorem dL_removes_50 : decode cL_removes 50 = .ok (.aload_n 1, 1) := by decide +kernel
theorem dL_removes_51 : decode cL_removes 51 = .ok (.iload_n 3, 1) := by decide +kernel
theorem dL_removes_52 : decode cL_removes 52 = .ok (.aload_n 1, 1) := by decide +kernel
theorem dL_removes_53 : decode cL_removes 53 = .ok (.iload_n 3, 1) := by decide +kernel
theorem dL_removes_54 : decode cL_removes 54 = .ok (.bipush 8, 2) := by decide +kernel
theorem dL_removes_56 : decode cL_removes 56 = .ok (.iadd, 1) := by decide +kernel
theorem dL_removes_57 : decode cL_removes 57 = .ok (.iaload, 1) := by decide +kernel
theorem dL_removes_58 : decode cL_removes 58 = .ok (.iastore, 1) := by decide +kernel
theorem dL_removes_59 : decode cL_removes 59 = .ok (.iinc 3 1, 3) := by decide +kernel
theorem dL_removes_62 : decode cL_removes 62 = .ok (.goto (-25), 3) := by decide +kernel
theorem dL_removes_65 : decode cL_removes 65 = .ok (.aload_n 0, 1) := by decide +kernel
theorem dL_removes_66 : decode cL_removes 66 = .ok (.iload_n 2, 1) := by decide +kernel
theorem dL_removes_67 : decode cL_removes 67 = .ok (.invokevirtual 98, 3) := by decide +kernel
theorem dL_removes_70 : decode cL_removes 70 = .ok (.aload_n 1, 1) := by decide +kernel
theorem dL_removes_71 : decode cL_removes 71 = .ok (.iconst 0, 1) := by decide +kernel
theorem dL_removes_72 : decode cL_removes 72 = .ok (.iaload, 1) := by decide +kernel
theorem dL_removes_73 : decode cL_removes 73 = .ok (.if_icmp .ne 7, 3) := by decide +kernel
theorem dL_removes_76 : decode cL_removes 76 = .ok (.iconst 1, 1) := by decide +kernel
theorem dL_removes_77 : decode cL_removes 77 = .ok (.goto 4, 3) := by decide +kernel
theorem dL_removes_80 : decode cL_removes 80 = .ok (.iconst 0, 1) := by decide +kernel
theorem dL_removes_81 : decode cL_removes 81 = .ok (.ireturn, 1) := by decide +kernel
set_option maxHeartbeats 4000000 in
set_option maxRecDepth 100000 in
theorem c_L_removes (l : Launch) (E : gE) (g : Mem) (Ec : gE) (S : AS) (c r h p : Nat → Int32) (hL : LWP Ec E g S c r h p) (B M : Nat) (hB : B ≤ 9000000) (hM : M ≤ 90000000) (hI : IV S c r h p B M) (k : Nat) (hk : k ≤ 6) : Mt l E yL_removes cL_removes 4 (some .boolean) 4 90 [rf E (0), rf E (101), .int (nI (k))] g (pI (fun z g' => z = nI 1 ∧ ∃ (S' : AS) (c' r' h' p' : Nat → Int32), LWP Ec E g' S' c' r' h' p' ∧ IV S' c' r' h' p' (B + 100000) (M + 1000))) := by
  obtain ⟨ho, ⟨a, K, hq⟩, hg, hcl, hvc, hpi⟩ := id hI
  have hv := ho.v
  have hrc : rc S.r ≤ 6 := hv.1.2
  have hgc : gc S.r ≤ 4 := hv.2.1.2
  refine mt_go (own := RXL) (by decide) rfl (lo := [some (rf E (0)), some (rf E (101)), some (.int (nI (k))), none]) rfl (Nat.le_of_ble_eq_true rfl) (fun X hC => ?_)
  refine y_iload_n hC dL_removes_0 (i := 2) rfl rfl ?_
  refine y_aload_n hC dL_removes_1 (i := 1) rfl rfl ?_
  refine y_iconst (v := nI 0) hC dL_removes_2 (by decide) ?_
  refine y_iald hC dL_removes_3 (k := 101) (j := 0) (by have := hL.k; omega) hL.a101 (rfl) (by omega) (by decide) ?_
  refine y_top (y := nI (rc S.r)) (hq.n) ?_
  refine y_icmp_lt_n (tgt := 22) hC dL_removes_4 (by decide) (by omega) (by omega) (fun c_4 => ?_) (fun c_4 => ?_)
  · have hkk : k < rc S.r := by omega
    obtain ⟨q1, q2, q3, q4, q5, q6, q7, q8, q9⟩ := hv.rg hkk
    refine y_aload_n hC dL_removes_22 (i := 1) rfl rfl ?_
    refine y_iconst (v := nI 0) hC dL_removes_23 (by decide) ?_
    refine y_dup2 hC dL_removes_24 rfl rfl ?_
    refine y_iald hC dL_removes_25 (k := 101) (j := 0) (by have := hL.k; omega) hL.a101 (rfl) (by omega) (by decide) ?_
    refine y_top (y := nI (rc S.r)) (hq.n) ?_
    refine y_iconst (v := nI 1) hC dL_removes_26 (by decide) ?_
    refine y_isub_n hC dL_removes_27 (by omega) ?_
    refine y_iast hC dL_removes_28 (k := 101) (j := 0) (by have := hL.k; omega) hL.a101 (rfl) (by omega) (by decide) ?_
    have hL_28 := hL.ur (upd r (0) (nI ((rc S.r) - (1))))
    generalize (va_up g (101) (aI E 0 56 (upd r (0) (nI ((rc S.r) - (1)))))) = G_28 at hL_28  ⊢
    refine y_bipush (v := nI 8) hC dL_removes_29 (by decide) ?_
    refine y_bipush (v := nI 8) hC dL_removes_31 (by decide) ?_
    refine y_iload_n hC dL_removes_33 (i := 2) rfl rfl ?_
    refine y_imul_n hC dL_removes_34 ?_
    refine y_iadd_n hC dL_removes_35 ?_
    refine y_istore_n hC dL_removes_36 (i := 3) rfl (Nat.le_of_ble_eq_true rfl) rfl (lo' := [some (rf E (0)), some (rf E (101)), some (.int (nI (k))), some (.int (nI (8 + (8 * k))))]) rfl ?_
    have L_37 : ∀ (m : Nat) (t : Nat) (gg : Mem), (hm : 56 - t < m) → (ht1 : 8 + 8 * k ≤ t) → (ht2 : t ≤ 8 + 8 * (rc S.r - 1)) → (hL : LWP Ec E gg S c (rsh (upd r (0) (nI (rc S.r - (1)))) 8 (8 + 8 * k) t) h p) → Y l E X (pI (fun z g' => z = nI 1 ∧ ∃ (S' : AS) (c' r' h' p' : Nat → Int32), LWP Ec E g' S' c' r' h' p' ∧ IV S' c' r' h' p' (B + 100000) (M + 1000))) 37 [some (rf E (0)), some (rf E (101)), some (.int (nI (k))), some (.int (nI (t)))] [] gg := by
      intro m
      induction m with
      | zero => intro t gg hm ht1 ht2 hL; exact absurd hm (Nat.not_lt_zero _)
      | succ m ih_37 =>
        intro t gg hm ht1 ht2 hL
        refine y_iload_n hC dL_removes_37 (i := 3) rfl rfl ?_
        refine y_bipush (v := nI 8) hC dL_removes_38 (by decide) ?_
        refine y_bipush (v := nI 8) hC dL_removes_40 (by decide) ?_
        refine y_aload_n hC dL_removes_42 (i := 1) rfl rfl ?_
        refine y_iconst (v := nI 0) hC dL_removes_43 (by decide) ?_
        refine y_iald hC dL_removes_44 (k := 101) (j := 0) (by have := hL.k; omega) hL.a101 (rfl) (by omega) (by decide) ?_
        refine y_top (y := nI (rc S.r - 1)) ((rsh_o (by omega)).trans pk_us) ?_
        refine y_imul_n hC dL_removes_45 ?_
        refine y_iadd_n hC dL_removes_46 ?_
        refine y_icmp_ge_n (tgt := 65) hC dL_removes_47 (by decide) (by omega) (by omega) (fun c_47 => ?_) (fun c_47 => ?_)
        · obtain rfl : t = 8 + 8 * (rc S.r - 1) := by omega
          refine y_aload_n hC dL_removes_65 (i := 0) rfl rfl ?_
          refine y_iload_n hC dL_removes_66 (i := 2) rfl rfl ?_
          refine y_callVF hC hL.s mX5_removeRange kXL_98 dL_removes_67 (b := 0) (As := [.int (nI (k))]) (rest := []) (CPm hL.cp (fun sh mk wa hcq => c_X5_removeRange l Ec gg S B (by omega) ho sh mk wa hcq (nI k))) hL.k0 hL.a0 rfl rfl rfl (Nat.le_of_ble_eq_true rfl) ⟨Nat.le_of_ble_eq_true rfl, Nat.le_of_ble_eq_true rfl⟩ (pkf_i ?_)
          rintro r_67 g_67 ⟨hr_67, hc_67⟩
          have he_67 := qr_0 (S := S) (k := k) hkk (by omega)
          rw [he_67] at hr_67 hc_67
          replace hr_67 : r_67 = nI (rc S.r - 1) := hr_67
          replace hc_67 : CP Ec g_67 (S.rec.row (remR S.r k)) := hc_67
          rw [hr_67]
          clear hr_67 r_67
          have hL_67 := hL.call hc_67
          generalize mrg (eK Ec) g_67 gg = G_67 at hL_67  ⊢
          refine y_aload_n hC dL_removes_70 (i := 1) rfl rfl ?_
          refine y_iconst (v := nI 0) hC dL_removes_71 (by decide) ?_
          refine y_iald hC dL_removes_72 (k := 101) (j := 0) (by have := hL_67.k; omega) hL_67.a101 (rfl) (by omega) (by decide) ?_
          refine y_top (y := nI (rc S.r - 1)) ((rsh_o (by omega)).trans pk_us) ?_
          refine y_icmp_ne_n (tgt := 80) hC dL_removes_73 (by decide) (by omega) (by omega) (fun c_73 => ?_) (fun c_73 => ?_)
          · exact absurd rfl c_73
          · refine y_iconst (v := nI 1) hC dL_removes_76 (by decide) ?_
            refine y_goto (tgt := 81) hC dL_removes_77 (by decide) ?_
            refine y_zret (hrt := rfl) (hn := rfl) (hC := hC) (hd := dL_removes_81) (hq := ?_)
            have hvr : OK (S.rec.row (remR S.r k)) (B + 10000) := by
              have := ok_removeRange ho (nI k)
              rw [he_67] at this
              exact this
            refine ⟨rfl, _, _, _, _, _, hL_67, (hI.rg hvr (rg_rem hv hq hkk ((rsh_o (by omega)).trans pk_us) (fun i j h1 h2 => (rsh_o (by omega)).trans (pk_un (by omega))) (fun i j h1 h2 h3 => (rsh_i (by omega)).trans ((pk_un (by omega)).trans (congrArg r (by omega))))) (fun i hi => (if_neg (by omega)).trans (if_neg (by omega)))).le (by omega) (by omega)⟩
        · refine y_aload_n hC dL_removes_50 (i := 1) rfl rfl ?_
          refine y_iload_n hC dL_removes_51 (i := 3) rfl rfl ?_
          refine y_aload_n hC dL_removes_52 (i := 1) rfl rfl ?_
          refine y_iload_n hC dL_removes_53 (i := 3) rfl rfl ?_
          refine y_bipush (v := nI 8) hC dL_removes_54 (by decide) ?_
          refine y_iadd_n hC dL_removes_56 ?_
          refine y_iald hC dL_removes_57 (k := 101) (j := t + 8) (by have := hL.k; omega) hL.a101 (rfl) (by omega) (by decide) ?_
          refine y_top (y := ((upd r (0) (nI (rc S.r - (1)))) (t + 8))) (rsh_o (by omega)) ?_
          refine y_iast hC dL_removes_58 (k := 101) (j := t) (by have := hL.k; omega) hL.a101 (rfl) (by omega) (by decide) ?_
          have hL_58 := hL.ur (upd (rsh (upd r (0) (nI (rc S.r - (1)))) 8 (8 + 8 * k) t) (t) (((upd r (0) (nI (rc S.r - (1)))) (t + 8))))
          generalize (va_up gg (101) (aI E 0 56 (upd (rsh (upd r (0) (nI (rc S.r - (1)))) 8 (8 + 8 * k) t) (t) (((upd r (0) (nI (rc S.r - (1)))) (t + 8)))))) = G_58 at hL_58  ⊢
          rw [rsh_s (show 8 + 8 * k ≤ t by omega)] at hL_58
          refine y_iinc_n hC dL_removes_59 (a := t) (k := 1) rfl (by decide) (Nat.le_of_ble_eq_true rfl) rfl (lo' := [some (rf E (0)), some (rf E (101)), some (.int (nI (k))), some (.int (nI (t + 1)))]) rfl ?_
          refine y_goto (tgt := 37) hC dL_removes_62 (by decide) ?_
          exact ih_37 (t + 1) G_58 (by omega) (by omega) (by omega) hL_58
    exact L_37 57 (8 + 8 * k) G_28 (by omega) (by omega) (by omega) (by rw [rsh_0]; exact hL_28)
  · refine y_aload_n hC dL_removes_7 (i := 0) rfl rfl ?_
    refine y_iload_n hC dL_removes_8 (i := 2) rfl rfl ?_
    refine y_callVF hC hL.s mX5_removeRange kXL_98 dL_removes_9 (b := 0) (As := [.int (nI (k))]) (rest := []) (CPm hL.cp (fun sh mk wa hcq => c_X5_removeRange l Ec g S B (by omega) ho sh mk wa hcq (nI k))) hL.k0 hL.a0 rfl rfl rfl (Nat.le_of_ble_eq_true rfl) ⟨Nat.le_of_ble_eq_true rfl, Nat.le_of_ble_eq_true rfl⟩ (pkf_i ?_)
    rintro r_9 g_9 ⟨hr_9, hc_9⟩
    have he_9 := qr_n (S := S) (k := k) (by omega) (by omega)
    rw [he_9] at hr_9 hc_9
    replace hr_9 : r_9 = ((-1)) := hr_9
    replace hc_9 : CP Ec g_9 (S) := hc_9
    rw [hr_9]
    clear hr_9 r_9
    have hL_9 := hL.call hc_9
    generalize mrg (eK Ec) g_9 g = G_9 at hL_9  ⊢
    refine y_iconst (v := (-1)) hC dL_removes_12 (by decide) ?_
    refine y_icmp_ne (tgt := 20) hC dL_removes_13 (by decide) (fun c_13 => ?_) (fun c_13 => ?_)
    · exact absurd rfl c_13
    · refine y_iconst (v := nI 1) hC dL_removes_16 (by decide) ?_
      refine y_goto (tgt := 21) hC dL_removes_17 (by decide) ?_
      refine y_zret (hrt := rfl) (hn := rfl) (hC := hC) (hd := dL_removes_21) (hq := ?_)
      exact ⟨rfl, S, c, r, h, p, hL_9, hI.le (by omega) (by omega)⟩

theorem dL_speeds_0 : decode cL_speeds 0 = .ok (.iconst 1, 1) := by decide +kernel
theorem dL_speeds_1 : decode cL_speeds 1 = .ok (.iload_n 3, 1) := by decide +kernel
theorem dL_speeds_2 : decode cL_speeds 2 = .ok (.iconst 4, 1) := by decide +kernel
theorem dL_speeds_3 : decode cL_speeds 3 = .ok (.ishr, 1) := by decide +kernel
theorem dL_speeds_4 : decode cL_speeds 4 = .ok (.bipush 30, 2) := by decide +kernel
theorem dL_speeds_6 : decode cL_speeds 6 = .ok (.invokestatic 64, 3) := by decide +kernel
theorem dL_speeds_9 : decode cL_speeds 9 = .ok (.iadd, 1) := by decide +kernel
theorem dL_speeds_10 : decode cL_speeds 10 = .ok (.istore 4, 2) := by decide +kernel
theorem dL_speeds_12 : decode cL_speeds 12 = .ok (.iload_n 2, 1) := by decide +kernel
theorem dL_speeds_13 : decode cL_speeds 13 = .ok (.aload_n 1, 1) := by decide +kernel
theorem dL_speeds_14 : decode cL_speeds 14 = .ok (.iconst 0, 1) := by decide +kernel
theorem dL_speeds_15 : decode cL_speeds 15 = .ok (.iaload, 1) := by decide +kernel
theorem dL_speeds_16 : decode cL_speeds 16 = .ok (.if_icmp .lt 20, 3) := by decide +kernel
theorem dL_speeds_19 : decode cL_speeds 19 = .ok (.aload_n 0, 1) := by decide +kernel
theorem dL_speeds_20 : decode cL_speeds 20 = .ok (.iload_n 2, 1) := by decide +kernel
theorem dL_speeds_21 : decode cL_speeds 21 = .ok (.iconst 0, 1) := by decide +kernel
theorem dL_speeds_22 : decode cL_speeds 22 = .ok (.iconst 0, 1) := by decide +kernel
theorem dL_speeds_23 : decode cL_speeds 23 = .ok (.invokevirtual 101, 3) := by decide +kernel
theorem dL_speeds_26 : decode cL_speeds 26 = .ok (.iconst (-1), 1) := by decide +kernel
theorem dL_speeds_27 : decode cL_speeds 27 = .ok (.if_icmp .ne 7, 3) := by decide +kernel
theorem dL_speeds_30 : decode cL_speeds 30 = .ok (.iconst 1, 1) := by decide +kernel
theorem dL_speeds_31 : decode cL_speeds 31 = .ok (.goto 4, 3) := by decide +kernel
theorem dL_speeds_34 : decode cL_speeds 34 = .ok (.iconst 0, 1) := by decide +kernel
theorem dL_speeds_35 : decode cL_speeds 35 = .ok (.ireturn, 1) := by decide +kernel
theorem dL_speeds_36 : decode cL_speeds 36 = .ok (.bipush 8, 2) := by decide +kernel
theorem dL_speeds_38 : decode cL_speeds 38 = .ok (.bipush 8, 2) := by decide +kernel
theorem dL_speeds_40 : decode cL_speeds 40 = .ok (.iload_n 2, 1) := by decide +kernel
theorem dL_speeds_41 : decode cL_speeds 41 = .ok (.imul, 1) := by decide +kernel
theorem dL_speeds_42 : decode cL_speeds 42 = .ok (.iadd, 1) := by decide +kernel
theorem dL_speeds_43 : decode cL_speeds 43 = .ok (.istore 5, 2) := by decide +kernel
theorem dL_speeds_45 : decode cL_speeds 45 = .ok (.aload_n 1, 1) := by decide +kernel
theorem dL_speeds_46 : decode cL_speeds 46 = .ok (.iload 5, 2) := by decide +kernel
theorem dL_speeds_48 : decode cL_speeds 48 = .ok (.iconst 2, 1) := by decide +kernel
theorem dL_speeds_49 : decode cL_speeds 49 = .ok (.iadd, 1) := by decide +kernel
theorem dL_speeds_50 : decode cL_speeds 50 = .ok (.iaload, 1) := by decide +kernel
theorem dL_speeds_51 : decode cL_speeds 51 = .ok (.istore 6, 2) := by decide +kernel
theorem dL_speeds_53 : decode cL_speeds 53 = .ok (.aload_n 1, 1) := by decide +kernel
theorem dL_speeds_54 : decode cL_speeds 54 = .ok (.iload 5, 2) := by decide +kernel
theorem dL_speeds_56 : decode cL_speeds 56 = .ok (.iconst 2, 1) := by decide +kernel
theorem dL_speeds_57 : decode cL_speeds 57 = .ok (.iadd, 1) := by decide +kernel
theorem dL_speeds_58 : decode cL_speeds 58 = .ok (.iload 4, 2) := by decide +kernel
theorem dL_speeds_60 : decode cL_speeds 60 = .ok (.iastore, 1) := by decide +kernel
theorem dL_speeds_61 : decode cL_speeds 61 = .ok (.aload_n 1, 1) := by decide +kernel
theorem dL_speeds_62 : decode cL_speeds 62 = .ok (.iload 5, 2) := by decide +kernel
theorem dL_speeds_64 : decode cL_speeds 64 = .ok (.iconst 3, 1) := by decide +kernel
theorem dL_speeds_65 : decode cL_speeds 65 = .ok (.iadd, 1) := by decide +kernel
theorem dL_speeds_66 : decode cL_speeds 66 = .ok (.iload_n 3, 1) := by decide +kernel
theorem dL_speeds_67 : decode cL_speeds 67 = .ok (.bipush 9, 2) := by decide +kernel
theorem dL_speeds_69 : decode cL_speeds 69 = .ok (.ishr, 1) := by decide +kernel
theorem dL_speeds_70 : decode cL_speeds 70 = .ok (.iconst 3, 1) := by decide +kernel
theorem dL_speeds_71 : decode cL_speeds 71 = .ok (.invokestatic 64, 3) := by decide +kernel
theorem dL_speeds_74 : decode cL_speeds 74 = .ok (.iastore, 1) := by decide +kernel
theorem dL_speeds_75 : decode cL_speeds 75 = .ok (.aload_n 1, 1) := by decide +kernel
theorem dL_speeds_76 : decode cL_speeds 76 = .ok (.iload 5, 2) := by decide +kernel
theorem dL_speeds_78 : decode cL_speeds 78 = .ok (.iconst 5, 1) := by decide +kernel
theorem dL_speeds_79 : decode cL_speeds 79 = .ok (.iadd, 1) := by decide +kernel
theorem dL_speeds_80 : decode cL_speeds 80 = .ok (.iconst 0, 1) := by decide +kernel
theorem dL_speeds_81 : decode cL_speeds 81 = .ok (.iastore, 1) := by decide +kernel
theorem dL_speeds_82 : decode cL_speeds 82 = .ok (.aload_n 1, 1) := by decide +kernel
theorem dL_speeds_83 : decode cL_speeds 83 = .ok (.iload 5, 2) := by decide +kernel
theorem dL_speeds_85 : decode cL_speeds 85 = .ok (.bipush 6, 2) := by decide +kernel
theorem dL_speeds_87 : decode cL_speeds 87 = .ok (.iadd, 1) := by decide +kernel
theorem dL_speeds_88 : decode cL_speeds 88 = .ok (.iconst 0, 1) := by decide +kernel
theorem dL_speeds_89 : decode cL_speeds 89 = .ok (.iastore, 1) := by decide +kernel
theorem dL_speeds_90 : decode cL_speeds 90 = .ok (.aload_n 0, 1) := by decide +kernel
theorem dL_speeds_91 : decode cL_speeds 91 = .ok (.iload_n 2, 1) := by decide +kernel
theorem dL_speeds_92 : decode cL_speeds 92 = .ok (.iload 4, 2) := by decide +kernel
theorem dL_speeds_94 : decode cL_speeds 94 = .ok (.iconst 3, 1) := by decide +kernel
theorem dL_speeds_95 : decode cL_speeds 95 = .ok (.invokevirtual 101, 3) := by decide +kernel
theorem dL_speeds_98 : decode cL_speeds 98 = .ok (.bipush (-2), 2) := by decide +kernel
theorem dL_speeds_100 : decode cL_speeds 100 = .ok (.if_icmp .ne 25, 3) := by decide +kernel
theorem dL_speeds_103 : decode cL_speeds 103 = .ok (.aload_n 0, 1) := by decide +kernel
theorem dL_speeds_104 : decode cL_speeds 104 = .ok (.iload_n 2, 1) := by decide +kernel
theorem dL_speeds_105 : decode cL_speeds 105 = .ok (.iload 4, 2) := by decide +kernel
theorem dL_speeds_107 : decode cL_speeds 107 = .ok (.aload_n 1, 1) := by decide +kernel
theorem dL_speeds_108 : decode cL_speeds 108 = .ok (.iload 5, 2) := by decide +kernel
theorem dL_speeds_110 : decode cL_speeds 110 = .ok (.iconst 3, 1) := by decide +kernel
theorem dL_speeds_111 : decode cL_speeds 111 = .ok (.iadd, 1) := by decide +kernel
theorem dL_speeds_112 : decode cL_speeds 112 = .ok (.iaload, 1) := by decide +kernel
theorem dL_speeds_113 : decode cL_speeds 113 = .ok (.invokevirtual 101, 3) := by decide +kernel
theorem dL_speeds_116 : decode cL_speeds 116 = .ok (.iload 6, 2) := by decide +kernel
theorem dL_speeds_118 : decode cL_speeds 118 = .ok (.if_icmp .ne 7, 3) := by decide +kernel
theorem dL_speeds_121 : decode cL_speeds 121 = .ok (.iconst 1, 1) := by decide +kernel
theorem dL_speeds_122 : decode cL_speeds 122 = .ok (.goto 4, 3) := by decide +kernel
theorem dL_speeds_125 : decode cL_speeds 125 = .ok (.iconst 0, 1) := by decide +kernel
theorem dL_speeds_126 : decode cL_speeds 126 = .ok (.ireturn, 1) := by decide +kernel
set_option maxHeartbeats 4000000 in
set_option maxRecDepth 100000 in
theorem c_L_speeds (l : Launch) (E : gE) (g : Mem) (Ec : gE) (S : AS) (c r h p : Nat → Int32) (hL : LWP Ec E g S c r h p) (B M : Nat) (hB : B ≤ 9000000) (hM : M ≤ 90000000) (hI : IV S c r h p B M) (k : Nat) (hk : k ≤ 5) (x : Int32) : Mt l E yL_speeds cL_speeds 7 (some .boolean) 4 93 [rf E (0), rf E (101), .int (nI (k)), .int (x)] g (pI (fun z g' => z = nI 1 ∧ ∃ (S' : AS) (c' r' h' p' : Nat → Int32), LWP Ec E g' S' c' r' h' p' ∧ IV S' c' r' h' p' (B + 100000) (M + 1000))) := by
  obtain ⟨ho, ⟨a, K, hq⟩, hg, hcl, hvc, hpi⟩ := id hI
  have hv := ho.v
  have hrc : rc S.r ≤ 6 := hv.1.2
  have hgc : gc S.r ≤ 4 := hv.2.1.2
  obtain ⟨s, hse⟩ : ∃ s, s = 1 + lw ((x) >>> (nI (4) &&& 31)) (30) := ⟨_, rfl⟩
  have hsl := lw_lt (x := (x) >>> (nI (4) &&& 31)) (n := 30) (by decide)
  have hs1 : 1 ≤ s := by omega
  have hs : s ≤ 30 := by omega
  obtain ⟨w, hwe⟩ : ∃ w, w = lw ((x) >>> (nI (9) &&& 31)) (3) := ⟨_, rfl⟩
  have hwl := lw_lt (x := (x) >>> (nI (9) &&& 31)) (n := 3) (by decide)
  have hw : w ≤ 2 := by omega
  refine mt_go (own := RXL) (by decide) rfl (lo := [some (rf E (0)), some (rf E (101)), some (.int (nI (k))), some (.int (x)), none, none, none]) rfl (Nat.le_of_ble_eq_true rfl) (fun X hC => ?_)
  refine y_iconst (v := nI 1) hC dL_speeds_0 (by decide) ?_
  refine y_iload_n hC dL_speeds_1 (i := 3) rfl rfl ?_
  refine y_iconst (v := nI 4) hC dL_speeds_2 (by decide) ?_
  refine y_ishr hC dL_speeds_3 ?_
  refine y_bipush (v := nI 30) hC dL_speeds_4 (by decide) ?_
  refine y_callS hC mL_low kXL_64 dL_speeds_6 (As := [.int ((x) >>> (nI (4) &&& 31)), .int (nI (30))]) (rest := [.int (nI (1))]) (c_L_low l E g (((x) >>> (nI (4) &&& 31))) (30) (by omega) (by omega)) rfl rfl rfl (Nat.le_of_ble_eq_true rfl) ⟨Nat.le_of_ble_eq_true rfl, Nat.le_of_ble_eq_true rfl⟩ (pk_i ?_)
  rintro r_6 g_6 ⟨hr_6, hq_6⟩
  obtain rfl := hq_6.symm
  rw [hr_6]
  clear hr_6 r_6
  refine y_iadd_n hC dL_speeds_9 ?_
  refine y_top (y := nI (s)) (congrArg nI hse.symm) ?_
  refine y_istore hC dL_speeds_10 (Nat.le_of_ble_eq_true rfl) rfl (lo' := [some (rf E (0)), some (rf E (101)), some (.int (nI (k))), some (.int (x)), some (.int (nI (s))), none, none]) rfl ?_
  refine y_iload_n hC dL_speeds_12 (i := 2) rfl rfl ?_
  refine y_aload_n hC dL_speeds_13 (i := 1) rfl rfl ?_
  refine y_iconst (v := nI 0) hC dL_speeds_14 (by decide) ?_
  refine y_iald hC dL_speeds_15 (k := 101) (j := 0) (by have := hL.k; omega) hL.a101 (rfl) (by omega) (by decide) ?_
  refine y_top (y := nI (rc S.r)) (hq.n) ?_
  refine y_icmp_lt_n (tgt := 36) hC dL_speeds_16 (by decide) (by omega) (by omega) (fun c_16 => ?_) (fun c_16 => ?_)
  · have hkk : k < rc S.r := by omega
    obtain ⟨q1, q2, q3, q4, q5, q6, q7, q8, q9⟩ := hv.rg hkk
    refine y_bipush (v := nI 8) hC dL_speeds_36 (by decide) ?_
    refine y_bipush (v := nI 8) hC dL_speeds_38 (by decide) ?_
    refine y_iload_n hC dL_speeds_40 (i := 2) rfl rfl ?_
    refine y_imul_n hC dL_speeds_41 ?_
    refine y_iadd_n hC dL_speeds_42 ?_
    refine y_istore hC dL_speeds_43 (Nat.le_of_ble_eq_true rfl) rfl (lo' := [some (rf E (0)), some (rf E (101)), some (.int (nI (k))), some (.int (x)), some (.int (nI (s))), some (.int (nI (8 + (8 * k)))), none]) rfl ?_
    refine y_aload_n hC dL_speeds_45 (i := 1) rfl rfl ?_
    refine y_iload hC dL_speeds_46 rfl ?_
    refine y_iconst (v := nI 2) hC dL_speeds_48 (by decide) ?_
    refine y_iadd_n hC dL_speeds_49 ?_
    refine y_iald hC dL_speeds_50 (k := 101) (j := (8 + (8 * k)) + 2) (by have := hL.k; omega) hL.a101 (rfl) (by omega) (by decide) ?_
    refine y_top (y := nI (rg S.r k 2)) (hq.f2 hkk) ?_
    refine y_istore hC dL_speeds_51 (Nat.le_of_ble_eq_true rfl) rfl (lo' := [some (rf E (0)), some (rf E (101)), some (.int (nI (k))), some (.int (x)), some (.int (nI (s))), some (.int (nI (8 + (8 * k)))), some (.int (nI (rg S.r k 2)))]) rfl ?_
    refine y_aload_n hC dL_speeds_53 (i := 1) rfl rfl ?_
    refine y_iload hC dL_speeds_54 rfl ?_
    refine y_iconst (v := nI 2) hC dL_speeds_56 (by decide) ?_
    refine y_iadd_n hC dL_speeds_57 ?_
    refine y_iload hC dL_speeds_58 rfl ?_
    refine y_iast hC dL_speeds_60 (k := 101) (j := (8 + (8 * k)) + 2) (by have := hL.k; omega) hL.a101 (rfl) (by omega) (by decide) ?_
    have hL_60 := hL.ur (upd r ((8 + (8 * k)) + 2) (nI (s)))
    generalize (va_up g (101) (aI E 0 56 (upd r ((8 + (8 * k)) + 2) (nI (s))))) = G_60 at hL_60  ⊢
    refine y_aload_n hC dL_speeds_61 (i := 1) rfl rfl ?_
    refine y_iload hC dL_speeds_62 rfl ?_
    refine y_iconst (v := nI 3) hC dL_speeds_64 (by decide) ?_
    refine y_iadd_n hC dL_speeds_65 ?_
    refine y_iload_n hC dL_speeds_66 (i := 3) rfl rfl ?_
    refine y_bipush (v := nI 9) hC dL_speeds_67 (by decide) ?_
    refine y_ishr hC dL_speeds_69 ?_
    refine y_iconst (v := nI 3) hC dL_speeds_70 (by decide) ?_
    refine y_callS hC mL_low kXL_64 dL_speeds_71 (As := [.int ((x) >>> (nI (9) &&& 31)), .int (nI (3))]) (rest := [.int (nI ((8 + (8 * k)) + 3)), rf E (101)]) (c_L_low l E G_60 (((x) >>> (nI (9) &&& 31))) (3) (by omega) (by omega)) rfl rfl rfl (Nat.le_of_ble_eq_true rfl) ⟨Nat.le_of_ble_eq_true rfl, Nat.le_of_ble_eq_true rfl⟩ (pk_i ?_)
    rintro r_71 g_71 ⟨hr_71, hq_71⟩
    obtain rfl := hq_71.symm
    rw [hr_71]
    clear hr_71 r_71
    refine y_top (y := nI (w)) (congrArg nI hwe.symm) ?_
    refine y_iast hC dL_speeds_74 (k := 101) (j := (8 + (8 * k)) + 3) (by have := hL_60.k; omega) hL_60.a101 (rfl) (by omega) (by decide) ?_
    have hL_74 := hL_60.ur (upd (upd r ((8 + (8 * k)) + 2) (nI (s))) ((8 + (8 * k)) + 3) (nI (w)))
    generalize (va_up G_60 (101) (aI E 0 56 (upd (upd r ((8 + (8 * k)) + 2) (nI (s))) ((8 + (8 * k)) + 3) (nI (w))))) = G_74 at hL_74  ⊢
    refine y_aload_n hC dL_speeds_75 (i := 1) rfl rfl ?_
    refine y_iload hC dL_speeds_76 rfl ?_
    refine y_iconst (v := nI 5) hC dL_speeds_78 (by decide) ?_
    refine y_iadd_n hC dL_speeds_79 ?_
    refine y_iconst (v := nI 0) hC dL_speeds_80 (by decide) ?_
    refine y_iast hC dL_speeds_81 (k := 101) (j := (8 + (8 * k)) + 5) (by have := hL_74.k; omega) hL_74.a101 (rfl) (by omega) (by decide) ?_
    have hL_81 := hL_74.ur (upd (upd (upd r ((8 + (8 * k)) + 2) (nI (s))) ((8 + (8 * k)) + 3) (nI (w))) ((8 + (8 * k)) + 5) (nI (0)))
    generalize (va_up G_74 (101) (aI E 0 56 (upd (upd (upd r ((8 + (8 * k)) + 2) (nI (s))) ((8 + (8 * k)) + 3) (nI (w))) ((8 + (8 * k)) + 5) (nI (0))))) = G_81 at hL_81  ⊢
    refine y_aload_n hC dL_speeds_82 (i := 1) rfl rfl ?_
    refine y_iload hC dL_speeds_83 rfl ?_
    refine y_bipush (v := nI 6) hC dL_speeds_85 (by decide) ?_
    refine y_iadd_n hC dL_speeds_87 ?_
    refine y_iconst (v := nI 0) hC dL_speeds_88 (by decide) ?_
    refine y_iast hC dL_speeds_89 (k := 101) (j := (8 + (8 * k)) + 6) (by have := hL_81.k; omega) hL_81.a101 (rfl) (by omega) (by decide) ?_
    have hL_89 := hL_81.ur (upd (upd (upd (upd r ((8 + (8 * k)) + 2) (nI (s))) ((8 + (8 * k)) + 3) (nI (w))) ((8 + (8 * k)) + 5) (nI (0))) ((8 + (8 * k)) + 6) (nI (0)))
    generalize (va_up G_81 (101) (aI E 0 56 (upd (upd (upd (upd r ((8 + (8 * k)) + 2) (nI (s))) ((8 + (8 * k)) + 3) (nI (w))) ((8 + (8 * k)) + 5) (nI (0))) ((8 + (8 * k)) + 6) (nI (0))))) = G_89 at hL_89  ⊢
    refine y_aload_n hC dL_speeds_90 (i := 0) rfl rfl ?_
    refine y_iload_n hC dL_speeds_91 (i := 2) rfl rfl ?_
    refine y_iload hC dL_speeds_92 rfl ?_
    refine y_iconst (v := nI 3) hC dL_speeds_94 (by decide) ?_
    refine y_callVF hC hL_89.s mX5_setSpeed kXL_101 dL_speeds_95 (b := 0) (As := [.int (nI (k)), .int (nI (s)), .int (nI (3))]) (rest := []) (CPm hL_89.cp (fun sh mk wa hcq => c_X5_setSpeed l Ec G_89 S B (by omega) ho sh mk wa hcq (nI (k)) (nI (s)) (nI (3)))) hL_89.k0 hL_89.a0 rfl rfl rfl (Nat.le_of_ble_eq_true rfl) ⟨Nat.le_of_ble_eq_true rfl, Nat.le_of_ble_eq_true rfl⟩ (pkf_i ?_)
    rintro r_95 g_95 ⟨hr_95, hc_95⟩
    have he_95 := qs_3 (S := S) (k := k) hkk (by omega) (nI s)
    rw [he_95] at hr_95 hc_95
    replace hr_95 : r_95 = ((-2)) := hr_95
    replace hc_95 : CP Ec g_95 (S) := hc_95
    rw [hr_95]
    clear hr_95 r_95
    have hL_95 := hL_89.call hc_95
    generalize mrg (eK Ec) g_95 G_89 = G_95 at hL_95  ⊢
    refine y_bipush (v := (-2)) hC dL_speeds_98 (by decide) ?_
    refine y_icmp_ne (tgt := 125) hC dL_speeds_100 (by decide) (fun c_100 => ?_) (fun c_100 => ?_)
    · exact absurd rfl c_100
    · refine y_aload_n hC dL_speeds_103 (i := 0) rfl rfl ?_
      refine y_iload_n hC dL_speeds_104 (i := 2) rfl rfl ?_
      refine y_iload hC dL_speeds_105 rfl ?_
      refine y_aload_n hC dL_speeds_107 (i := 1) rfl rfl ?_
      refine y_iload hC dL_speeds_108 rfl ?_
      refine y_iconst (v := nI 3) hC dL_speeds_110 (by decide) ?_
      refine y_iadd_n hC dL_speeds_111 ?_
      refine y_iald hC dL_speeds_112 (k := 101) (j := (8 + (8 * k)) + 3) (by have := hL_95.k; omega) hL_95.a101 (rfl) (by omega) (by decide) ?_
      refine y_top (y := nI (w)) ((pk_un (by omega)).trans ((pk_un (by omega)).trans (pk_us))) ?_
      refine y_callVF hC hL_95.s mX5_setSpeed kXL_101 dL_speeds_113 (b := 0) (As := [.int (nI (k)), .int (nI (s)), .int (nI (w))]) (rest := []) (CPm hL_95.cp (fun sh mk wa hcq => c_X5_setSpeed l Ec G_95 S B (by omega) ho sh mk wa hcq (nI (k)) (nI (s)) (nI (w)))) hL_95.k0 hL_95.a0 rfl rfl rfl (Nat.le_of_ble_eq_true rfl) ⟨Nat.le_of_ble_eq_true rfl, Nat.le_of_ble_eq_true rfl⟩ (pkf_i ?_)
      rintro r_113 g_113 ⟨hr_113, hc_113⟩
      have he_113 := qs_0 (S := S) (k := k) (s := s) (w := w) hkk (by omega) hs1 hs hw
      rw [he_113] at hr_113 hc_113
      replace hr_113 : r_113 = nI (rg S.r k 2) := hr_113
      replace hc_113 : CP Ec g_113 (S.rec.row (spdR S.r k (nI s) (nI w))) := hc_113
      rw [hr_113]
      clear hr_113 r_113
      have hL_113 := hL_95.call hc_113
      generalize mrg (eK Ec) g_113 G_95 = G_113 at hL_113  ⊢
      refine y_iload hC dL_speeds_116 rfl ?_
      refine y_icmp_ne_n (tgt := 125) hC dL_speeds_118 (by decide) (by omega) (by omega) (fun c_118 => ?_) (fun c_118 => ?_)
      · exact absurd rfl c_118
      · refine y_iconst (v := nI 1) hC dL_speeds_121 (by decide) ?_
        refine y_goto (tgt := 126) hC dL_speeds_122 (by decide) ?_
        refine y_zret (hrt := rfl) (hn := rfl) (hC := hC) (hd := dL_speeds_126) (hq := ?_)
        have hvr : OK (S.rec.row (spdR S.r k (nI s) (nI w))) (B + 10000) := by
          have := ok_setSpeed ho (by omega) (nI k) (nI s) (nI w)
          rw [he_113] at this
          exact this
        refine ⟨rfl, _, _, _, _, _, hL_113, (hI.rg hvr (rg_spd hv hq hkk hs1 hs hw (fun i h2 h3 h5 h6 => (pk_un h6).trans ((pk_un h5).trans ((pk_un h3).trans (pk_un h2)))) ((pk_un (by omega)).trans ((pk_un (by omega)).trans ((pk_un (by omega)).trans (pk_us)))) ((pk_un (by omega)).trans ((pk_un (by omega)).trans (pk_us))) ((pk_un (by omega)).trans (pk_us)) (pk_us)) (fun i hi => (if_neg (by omega)).trans ((if_neg (by omega)).trans ((if_neg (by omega)).trans (if_neg (by omega)))))).le (by omega) (by omega)⟩
  · refine y_aload_n hC dL_speeds_19 (i := 0) rfl rfl ?_
    refine y_iload_n hC dL_speeds_20 (i := 2) rfl rfl ?_
    refine y_iconst (v := nI 0) hC dL_speeds_21 (by decide) ?_
    refine y_iconst (v := nI 0) hC dL_speeds_22 (by decide) ?_
    refine y_callVF hC hL.s mX5_setSpeed kXL_101 dL_speeds_23 (b := 0) (As := [.int (nI (k)), .int (nI (0)), .int (nI (0))]) (rest := []) (CPm hL.cp (fun sh mk wa hcq => c_X5_setSpeed l Ec g S B (by omega) ho sh mk wa hcq (nI (k)) (nI (0)) (nI (0)))) hL.k0 hL.a0 rfl rfl rfl (Nat.le_of_ble_eq_true rfl) ⟨Nat.le_of_ble_eq_true rfl, Nat.le_of_ble_eq_true rfl⟩ (pkf_i ?_)
    rintro r_23 g_23 ⟨hr_23, hc_23⟩
    have he_23 := qs_n (S := S) (k := k) (by omega) (by omega) (nI 0) (nI 0)
    rw [he_23] at hr_23 hc_23
    replace hr_23 : r_23 = ((-1)) := hr_23
    replace hc_23 : CP Ec g_23 (S) := hc_23
    rw [hr_23]
    clear hr_23 r_23
    have hL_23 := hL.call hc_23
    generalize mrg (eK Ec) g_23 g = G_23 at hL_23  ⊢
    refine y_iconst (v := (-1)) hC dL_speeds_26 (by decide) ?_
    refine y_icmp_ne (tgt := 34) hC dL_speeds_27 (by decide) (fun c_27 => ?_) (fun c_27 => ?_)
    · exact absurd rfl c_27
    · refine y_iconst (v := nI 1) hC dL_speeds_30 (by decide) ?_
      refine y_goto (tgt := 35) hC dL_speeds_31 (by decide) ?_
      refine y_zret (hrt := rfl) (hn := rfl) (hC := hC) (hd := dL_speeds_35) (hq := ?_)
      exact ⟨rfl, S, c, r, h, p, hL_23, hI.le (by omega) (by omega)⟩

def rn4 (ρ : Row) (k w i : Nat) : Nat := if i = k then w else rg ρ i 4
theorem dL_runs_0 : decode cL_runs 0 = .ok (.iload_n 3, 1) := by decide +kernel
theorem dL_runs_1 : decode cL_runs 1 = .ok (.iconst 4, 1) := by decide +kernel
theorem dL_runs_2 : decode cL_runs 2 = .ok (.ishr, 1) := by decide +kernel
theorem dL_runs_3 : decode cL_runs 3 = .ok (.iconst 2, 1) := by decide +kernel
theorem dL_runs_4 : decode cL_runs 4 = .ok (.invokestatic 64, 3) := by decide +kernel
theorem dL_runs_7 : decode cL_runs 7 = .ok (.istore 4, 2) := by decide +kernel
theorem dL_runs_9 : decode cL_runs 9 = .ok (.iload_n 2, 1) := by decide +kernel
theorem dL_runs_10 : decode cL_runs 10 = .ok (.aload_n 1, 1) := by decide +kernel
theorem dL_runs_11 : decode cL_runs 11 = .ok (.iconst 0, 1) := by decide +kernel
theorem dL_runs_12 : decode cL_runs 12 = .ok (.iaload, 1) := by decide +kernel
theorem dL_runs_13 : decode cL_runs 13 = .ok (.if_icmp .lt 29, 3) := by decide +kernel
theorem dL_runs_16 : decode cL_runs 16 = .ok (.aload_n 0, 1) := by decide +kernel
theorem dL_runs_17 : decode cL_runs 17 = .ok (.iload_n 2, 1) := by decide +kernel
theorem dL_runs_18 : decode cL_runs 18 = .ok (.iload 4, 2) := by decide +kernel
theorem dL_runs_20 : decode cL_runs 20 = .ok (.iconst 1, 1) := by decide +kernel
theorem dL_runs_21 : decode cL_runs 21 = .ok (.if_icmp .ne 7, 3) := by decide +kernel
theorem dL_runs_24 : decode cL_runs 24 = .ok (.iconst 1, 1) := by decide +kernel
theorem dL_runs_25 : decode cL_runs 25 = .ok (.goto 4, 3) := by decide +kernel
theorem dL_runs_28 : decode cL_runs 28 = .ok (.iconst 0, 1) := by decide +kernel
theorem dL_runs_29 : decode cL_runs 29 = .ok (.invokevirtual 105, 3) := by decide +kernel
theorem dL_runs_32 : decode cL_runs 32 = .ok (.iconst (-1), 1) := by decide +kernel
theorem dL_runs_33 : decode cL_runs 33 = .ok (.if_icmp .ne 7, 3) := by decide +kernel
theorem dL_runs_36 : decode cL_runs 36 = .ok (.iconst 1, 1) := by decide +kernel
theorem dL_runs_37 : decode cL_runs 37 = .ok (.goto 4, 3) := by decide +kernel
theorem dL_runs_40 : decode cL_runs 40 = .ok (.iconst 0, 1) := by decide +kernel
theorem dL_runs_41 : decode cL_runs 41 = .ok (.ireturn, 1) := by decide +kernel
theorem dL_runs_42 : decode cL_runs 42 = .ok (.aload_n 1, 1) := by decide +kernel
theorem dL_runs_43 : decode cL_runs 43 = .ok (.bipush 12, 2) := by decide +kernel
theorem dL_runs_45 : decode cL_runs 45 = .ok (.bipush 8, 2) := by decide +kernel
theorem dL_runs_47 : decode cL_runs 47 = .ok (.iload_n 2, 1) := by decide +kernel
theorem dL_runs_48 : decode cL_runs 48 = .ok (.imul, 1) := by decide +kernel
theorem dL_runs_49 : decode cL_runs 49 = .ok (.iadd, 1) := by decide +kernel
theorem dL_runs_50 : decode cL_runs 50 = .ok (.iaload, 1) := by decide +kernel
theorem dL_runs_51 : decode cL_runs 51 = .ok (.iload 4, 2) := by decide +kernel
theorem dL_runs_53 : decode cL_runs 53 = .ok (.if_icmp .ne 30, 3) := by decide +kernel
theorem dL_runs_56 : decode cL_runs 56 = .ok (.aload_n 0, 1) := by decide +kernel
theorem dL_runs_57 : decode cL_runs 57 = .ok (.iload_n 2, 1) := by decide +kernel
theorem dL_runs_58 : decode cL_runs 58 = .ok (.iload 4, 2) := by decide +kernel
theorem dL_runs_60 : decode cL_runs 60 = .ok (.iconst 1, 1) := by decide +kernel
theorem dL_runs_61 : decode cL_runs 61 = .ok (.if_icmp .ne 7, 3) := by decide +kernel
theorem dL_runs_64 : decode cL_runs 64 = .ok (.iconst 1, 1) := by decide +kernel
theorem dL_runs_65 : decode cL_runs 65 = .ok (.goto 4, 3) := by decide +kernel
theorem dL_runs_68 : decode cL_runs 68 = .ok (.iconst 0, 1) := by decide +kernel
theorem dL_runs_69 : decode cL_runs 69 = .ok (.invokevirtual 105, 3) := by decide +kernel
theorem dL_runs_72 : decode cL_runs 72 = .ok (.bipush (-5), 2) := by decide +kernel
theorem dL_runs_74 : decode cL_runs 74 = .ok (.if_icmp .ne 7, 3) := by decide +kernel
theorem dL_runs_77 : decode cL_runs 77 = .ok (.iconst 1, 1) := by decide +kernel
theorem dL_runs_78 : decode cL_runs 78 = .ok (.goto 4, 3) := by decide +kernel
theorem dL_runs_81 : decode cL_runs 81 = .ok (.iconst 0, 1) := by decide +kernel
theorem dL_runs_82 : decode cL_runs 82 = .ok (.ireturn, 1) := by decide +kernel
theorem dL_runs_83 : decode cL_runs 83 = .ok (.aload_n 1, 1) := by decide +kernel
theorem dL_runs_84 : decode cL_runs 84 = .ok (.bipush 12, 2) := by decide +kernel
theorem dL_runs_86 : decode cL_runs 86 = .ok (.bipush 8, 2) := by decide +kernel
theorem dL_runs_88 : decode cL_runs 88 = .ok (.iload_n 2, 1) := by decide +kernel
theorem dL_runs_89 : decode cL_runs 89 = .ok (.imul, 1) := by decide +kernel
theorem dL_runs_90 : decode cL_runs 90 = .ok (.iadd, 1) := by decide +kernel
theorem dL_runs_91 : decode cL_runs 91 = .ok (.iload 4, 2) := by decide +kernel
theorem dL_runs_93 : decode cL_runs 93 = .ok (.iastore, 1) := by decide +kernel
theorem dL_runs_94 : decode cL_runs 94 = .ok (.iconst 0, 1) := by decide +kernel
theorem dL_runs_95 : decode cL_runs 95 = .ok (.istore 5, 2) := by decide +kernel
theorem dL_runs_97 : decode cL_runs 97 = .ok (.iconst 0, 1) := by decide +kernel
theorem dL_runs_98 : decode cL_runs 98 = .ok (.istore 6, 2) := by decide +kernel
theorem dL_runs_100 : decode cL_runs 100 = .ok (.iload 6, 2) := by decide +kernel
theorem dL_runs_102 : decode cL_runs 102 = .ok (.aload_n 1, 1) := by decide +kernel
theorem dL_runs_103 : decode cL_runs 103 = .ok (.iconst 0, 1) := by decide +kernel
theorem dL_runs_104 : decode cL_runs 104 = .ok (.iaload, 1) := by decide +kernel
theorem dL_runs_105 : decode cL_runs 105 = .ok (.if_icmp .ge 24, 3) := by decide +kernel
theorem dL_runs_108 : decode cL_runs 108 = .ok (.iload 5, 2) := by decide +kernel
theorem dL_runs_110 : decode cL_runs 110 = .ok (.aload_n 1, 1) := by decide +kernel
theorem dL_runs_111 : decode cL_runs 111 = .ok (.bipush 12, 2) := by decide +kernel
theorem dL_runs_113 : decode cL_runs 113 = .ok (.bipush 8, 2) := by decide +kernel
theorem dL_runs_115 : decode cL_runs 115 = .ok (.iload 6, 2) := by decide +kernel
theorem dL_runs_117 : decode cL_runs 117 = .ok (.imul, 1) := by decide +kernel
theorem dL_runs_118 : decode cL_runs 118 = .ok (.iadd, 1) := by decide +kernel
theorem dL_runs_119 : decode cL_runs 119 = .ok (.iaload, 1) := by decide +kernel
theorem dL_runs_120 : decode cL_runs 120 = .ok (.iadd, 1) := by decide +kernel
theorem dL_runs_121 : decode cL_runs 121 = .ok (.istore 5, 2) := by decide +kernel
theorem dL_runs_123 : decode cL_runs 123 = .ok (.iinc 6 1, 3) := by decide +kernel
theorem dL_runs_126 : decode cL_runs 126 = .ok (.goto (-26), 3) := by decide +kernel
theorem dL_runs_129 : decode cL_runs 129 = .ok (.aload_n 0, 1) := by decide +kernel
theorem dL_runs_130 : decode cL_runs 130 = .ok (.iload_n 2, 1) := by decide +kernel
theorem dL_runs_131 : decode cL_runs 131 = .ok (.iload 4, 2) := by decide +kernel
theorem dL_runs_133 : decode cL_runs 133 = .ok (.iconst 1, 1) := by decide +kernel
theorem dL_runs_134 : decode cL_runs 134 = .ok (.if_icmp .ne 7, 3) := by decide +kernel
theorem dL_runs_137 : decode cL_runs 137 = .ok (.iconst 1, 1) := by decide +kernel
theorem dL_runs_138 : decode cL_runs 138 = .ok (.goto 4, 3) := by decide +kernel
theorem dL_runs_141 : decode cL_runs 141 = .ok (.iconst 0, 1) := by decide +kernel
theorem dL_runs_142 : decode cL_runs 142 = .ok (.invokevirtual 105, 3) := by decide +kernel
theorem dL_runs_145 : decode cL_runs 145 = .ok (.iload 5, 2) := by decide +kernel
theorem dL_runs_147 : decode cL_runs 147 = .ok (.if_icmp .ne 7, 3) := by decide +kernel
theorem dL_runs_150 : decode cL_runs 150 = .ok (.iconst 1, 1) := by decide +kernel
theorem dL_runs_151 : decode cL_runs 151 = .ok (.goto 4, 3) := by decide +kernel
theorem dL_runs_154 : decode cL_runs 154 = .ok (.iconst 0, 1) := by decide +kernel
theorem dL_runs_155 : decode cL_runs 155 = .ok (.ireturn, 1) := by decide +kernel
set_option maxHeartbeats 4000000 in
set_option maxRecDepth 100000 in
theorem w_runs2 (l : Launch) (E : gE) (X : gX) (g : Mem) (Ec : gE) (S : AS) (c r h p : Nat → Int32) (hL : LWP Ec E g S c r h p) (B M : Nat) (hB : B ≤ 9000000) (hM : M ≤ 90000000) (hI : IV S c r h p B M) (k : Nat) (hk : k ≤ 5) (x : Int32) (w : Nat) (hw : w ≤ 1) (hC : yC l E X RXL cL_runs 7 (some .boolean) 4 91) : Y l E X (pI (fun z g' => z = nI 1 ∧ ∃ (S' : AS) (c' r' h' p' : Nat → Int32), LWP Ec E g' S' c' r' h' p' ∧ IV S' c' r' h' p' (B + 100000) (M + 1000))) 9 [some (rf E (0)), some (rf E (101)), some (.int (nI (k))), some (.int (x)), some (.int (nI (w))), none, none] [] g := by
  obtain ⟨ho, ⟨a, K, hq⟩, hg, hcl, hvc, hpi⟩ := id hI
  have hv := ho.v
  have hrc : rc S.r ≤ 6 := hv.1.2
  have hgc : gc S.r ≤ 4 := hv.2.1.2
  have hcnb := cn_le (rc S.r) (fun i => decide (rn4 S.r k w i = 1))
  refine y_iload_n hC dL_runs_9 (i := 2) rfl rfl ?_
  refine y_aload_n hC dL_runs_10 (i := 1) rfl rfl ?_
  refine y_iconst (v := nI 0) hC dL_runs_11 (by decide) ?_
  refine y_iald hC dL_runs_12 (k := 101) (j := 0) (by have := hL.k; omega) hL.a101 (rfl) (by omega) (by decide) ?_
  refine y_top (y := nI (rc S.r)) (hq.n) ?_
  refine y_icmp_lt_n (tgt := 42) hC dL_runs_13 (by decide) (by omega) (by omega) (fun c_13 => ?_) (fun c_13 => ?_)
  · have hkk : k < rc S.r := by omega
    obtain ⟨q1, q2, q3, q4, q5, q6, q7, q8, q9⟩ := hv.rg hkk
    refine y_aload_n hC dL_runs_42 (i := 1) rfl rfl ?_
    refine y_bipush (v := nI 12) hC dL_runs_43 (by decide) ?_
    refine y_bipush (v := nI 8) hC dL_runs_45 (by decide) ?_
    refine y_iload_n hC dL_runs_47 (i := 2) rfl rfl ?_
    refine y_imul_n hC dL_runs_48 ?_
    refine y_iadd_n hC dL_runs_49 ?_
    refine y_iald hC dL_runs_50 (k := 101) (j := 12 + (8 * k)) (by have := hL.k; omega) hL.a101 (rfl) (by omega) (by decide) ?_
    refine y_top (y := nI (rg S.r k 4)) (by have := hq.f4 hkk; rwa [show 8 + 8 * k + 4 = 12 + 8 * k by omega] at this) ?_
    refine y_iload hC dL_runs_51 rfl ?_
    refine y_icmp_ne_n (tgt := 83) hC dL_runs_53 (by decide) (by omega) (by omega) (fun c_53 => ?_) (fun c_53 => ?_)
    · refine y_aload_n hC dL_runs_83 (i := 1) rfl rfl ?_
      refine y_bipush (v := nI 12) hC dL_runs_84 (by decide) ?_
      refine y_bipush (v := nI 8) hC dL_runs_86 (by decide) ?_
      refine y_iload_n hC dL_runs_88 (i := 2) rfl rfl ?_
      refine y_imul_n hC dL_runs_89 ?_
      refine y_iadd_n hC dL_runs_90 ?_
      refine y_iload hC dL_runs_91 rfl ?_
      refine y_iast hC dL_runs_93 (k := 101) (j := 12 + (8 * k)) (by have := hL.k; omega) hL.a101 (rfl) (by omega) (by decide) ?_
      have hL_93 := hL.ur (upd r (12 + (8 * k)) (nI (w)))
      generalize (va_up g (101) (aI E 0 56 (upd r (12 + (8 * k)) (nI (w))))) = G_93 at hL_93  ⊢
      have hrd : ∀ i, i < rc S.r → (upd r (12 + (8 * k)) (nI (w))) (12 + (8 * i)) = nI (rn4 S.r k w i) := fun i hi => by
        unfold rn4
        by_cases e : i = k
        · rw [e, if_pos rfl]; exact pk_us
        · rw [if_neg e]
          refine (pk_un (by omega)).trans ?_
          have := hq.f4 hi
          rwa [show 8 + 8 * i + 4 = 12 + 8 * i by omega] at this
      have hle1 : ∀ i, i < rc S.r → rn4 S.r k w i ≤ 1 := fun i hi => by
        have := (hv.rg hi).2.2.2.2.2.2.1
        unfold rn4
        split <;> omega
      refine y_iconst (v := nI 0) hC dL_runs_94 (by decide) ?_
      refine y_istore hC dL_runs_95 (Nat.le_of_ble_eq_true rfl) rfl (lo' := [some (rf E (0)), some (rf E (101)), some (.int (nI (k))), some (.int (x)), some (.int (nI (w))), some (.int (nI (0))), none]) rfl ?_
      refine y_iconst (v := nI 0) hC dL_runs_97 (by decide) ?_
      refine y_istore hC dL_runs_98 (Nat.le_of_ble_eq_true rfl) rfl (lo' := [some (rf E (0)), some (rf E (101)), some (.int (nI (k))), some (.int (x)), some (.int (nI (w))), some (.int (nI (0))), some (.int (nI (0)))]) rfl ?_
      have L_100 : ∀ (m : Nat) (i : Nat), (hm : rc S.r - i < m) → (hi : i ≤ rc S.r) → Y l E X (pI (fun z g' => z = nI 1 ∧ ∃ (S' : AS) (c' r' h' p' : Nat → Int32), LWP Ec E g' S' c' r' h' p' ∧ IV S' c' r' h' p' (B + 100000) (M + 1000))) 100 [some (rf E (0)), some (rf E (101)), some (.int (nI (k))), some (.int (x)), some (.int (nI (w))), some (.int (nI (cn i (fun i => decide (rn4 S.r k w i = 1))))), some (.int (nI (i)))] [] G_93 := by
        intro m
        induction m with
        | zero => intro i hm hi; exact absurd hm (Nat.not_lt_zero _)
        | succ m ih_100 =>
          intro i hm hi
          refine y_iload hC dL_runs_100 rfl ?_
          refine y_aload_n hC dL_runs_102 (i := 1) rfl rfl ?_
          refine y_iconst (v := nI 0) hC dL_runs_103 (by decide) ?_
          refine y_iald hC dL_runs_104 (k := 101) (j := 0) (by have := hL_93.k; omega) hL_93.a101 (rfl) (by omega) (by decide) ?_
          refine y_top (y := nI (rc S.r)) ((pk_un (by omega)).trans hq.n) ?_
          refine y_icmp_ge_n (tgt := 129) hC dL_runs_105 (by decide) (by omega) (by omega) (fun c_105 => ?_) (fun c_105 => ?_)
          · obtain rfl : i = rc S.r := by omega
            refine y_aload_n hC dL_runs_129 (i := 0) rfl rfl ?_
            refine y_iload_n hC dL_runs_130 (i := 2) rfl rfl ?_
            refine y_iload hC dL_runs_131 rfl ?_
            refine y_iconst (v := nI 1) hC dL_runs_133 (by decide) ?_
            refine y_icmp_ne_n (tgt := 141) hC dL_runs_134 (by decide) (by omega) (by omega) (fun c_134 => ?_) (fun c_134 => ?_)
            · refine y_iconst (v := nI 0) hC dL_runs_141 (by decide) ?_
              refine y_callVF hC hL_93.s mX5_run kXL_105 dL_runs_142 (b := 0) (As := [.int (nI (k)), .int (nI (0))]) (rest := []) (CPm hL_93.cp (fun sh mk wa hcq => c_X5_run l Ec G_93 S B (by omega) ho sh mk wa hcq (nI k) (0) (by decide))) hL_93.k0 hL_93.a0 rfl rfl rfl (Nat.le_of_ble_eq_true rfl) ⟨Nat.le_of_ble_eq_true rfl, Nat.le_of_ble_eq_true rfl⟩ (pkf_i ?_)
              rintro r_142 g_142 ⟨hr_142, hc_142⟩
              have he_142 := qn_0 (S := S) (k := k) (z := 0) hkk (by omega) (by omega)
              rw [he_142] at hr_142 hc_142
              replace hr_142 : r_142 = nI (rnC (upd S.r (37 + 7 * k) (nI 0))) := hr_142
              replace hc_142 : CP Ec g_142 (S.rec.row (upd S.r (37 + 7 * k) (nI 0))) := hc_142
              rw [hr_142]
              clear hr_142 r_142
              have hL_142 := hL_93.call hc_142
              generalize mrg (eK Ec) g_142 G_93 = G_142 at hL_142  ⊢
              refine y_top (y := nI (cn (rc S.r) (fun i => decide (rn4 S.r k w i = 1)))) (congrArg nI (by
                unfold rnC
                rw [rc_of (pk_un (by omega))]
                refine cn_cg (fun i hi => ?_)
                have e9 : rg (upd S.r (37 + 7 * k) (nI 0)) i 4 = rn4 S.r k w i := by
                  unfold rn4
                  by_cases e : i = k
                  · rw [e, if_pos rfl]
                    unfold rg
                    rw [show 33 + 7 * k + 4 = 37 + 7 * k by omega, pk_us, nn_I (by decide)]
                    omega
                  · rw [if_neg e]
                    exact rg_of (pk_un (by omega))
                rw [e9])) ?_
              refine y_iload hC dL_runs_145 rfl ?_
              refine y_icmp_ne_n (tgt := 154) hC dL_runs_147 (by decide) (by omega) (by omega) (fun c_147 => ?_) (fun c_147 => ?_)
              · exact absurd rfl c_147
              · refine y_iconst (v := nI 1) hC dL_runs_150 (by decide) ?_
                refine y_goto (tgt := 155) hC dL_runs_151 (by decide) ?_
                refine y_zret (hrt := rfl) (hn := rfl) (hC := hC) (hd := dL_runs_155) (hq := ?_)
                have hvr : OK (S.rec.row (upd S.r (37 + 7 * k) (nI 0))) (B + 10000) := by
                  have := ok_run ho (by omega) (nI k) 0 (by decide)
                  rw [he_142] at this
                  exact this
                refine ⟨rfl, _, _, _, _, _, hL_142, (hI.rg hvr (rg_run hv hq hkk (by decide) (fun i h4 => pk_un (by omega)) ((congrArg (upd r (12 + (8 * k)) (nI (w))) (show 8 + 8 * k + 4 = 12 + 8 * k by omega)).trans (pk_us.trans (congrArg nI (by omega))))) (fun i hi => pk_un (by omega))).le (by omega) (by omega)⟩
            · refine y_iconst (v := nI 1) hC dL_runs_137 (by decide) ?_
              refine y_goto (tgt := 142) hC dL_runs_138 (by decide) ?_
              refine y_callVF hC hL_93.s mX5_run kXL_105 dL_runs_142 (b := 0) (As := [.int (nI (k)), .int (nI (1))]) (rest := []) (CPm hL_93.cp (fun sh mk wa hcq => c_X5_run l Ec G_93 S B (by omega) ho sh mk wa hcq (nI k) (1) (by decide))) hL_93.k0 hL_93.a0 rfl rfl rfl (Nat.le_of_ble_eq_true rfl) ⟨Nat.le_of_ble_eq_true rfl, Nat.le_of_ble_eq_true rfl⟩ (pkf_i ?_)
              rintro r_142 g_142 ⟨hr_142, hc_142⟩
              have he_142 := qn_0 (S := S) (k := k) (z := 1) hkk (by omega) (by omega)
              rw [he_142] at hr_142 hc_142
              replace hr_142 : r_142 = nI (rnC (upd S.r (37 + 7 * k) (nI 1))) := hr_142
              replace hc_142 : CP Ec g_142 (S.rec.row (upd S.r (37 + 7 * k) (nI 1))) := hc_142
              rw [hr_142]
              clear hr_142 r_142
              have hL_142 := hL_93.call hc_142
              generalize mrg (eK Ec) g_142 G_93 = G_142 at hL_142  ⊢
              refine y_top (y := nI (cn (rc S.r) (fun i => decide (rn4 S.r k w i = 1)))) (congrArg nI (by
                unfold rnC
                rw [rc_of (pk_un (by omega))]
                refine cn_cg (fun i hi => ?_)
                have e9 : rg (upd S.r (37 + 7 * k) (nI 1)) i 4 = rn4 S.r k w i := by
                  unfold rn4
                  by_cases e : i = k
                  · rw [e, if_pos rfl]
                    unfold rg
                    rw [show 33 + 7 * k + 4 = 37 + 7 * k by omega, pk_us, nn_I (by decide)]
                    omega
                  · rw [if_neg e]
                    exact rg_of (pk_un (by omega))
                rw [e9])) ?_
              refine y_iload hC dL_runs_145 rfl ?_
              refine y_icmp_ne_n (tgt := 154) hC dL_runs_147 (by decide) (by omega) (by omega) (fun c_147 => ?_) (fun c_147 => ?_)
              · exact absurd rfl c_147
              · refine y_iconst (v := nI 1) hC dL_runs_150 (by decide) ?_
                refine y_goto (tgt := 155) hC dL_runs_151 (by decide) ?_
                refine y_zret (hrt := rfl) (hn := rfl) (hC := hC) (hd := dL_runs_155) (hq := ?_)
                have hvr : OK (S.rec.row (upd S.r (37 + 7 * k) (nI 1))) (B + 10000) := by
                  have := ok_run ho (by omega) (nI k) 1 (by decide)
                  rw [he_142] at this
                  exact this
                refine ⟨rfl, _, _, _, _, _, hL_142, (hI.rg hvr (rg_run hv hq hkk (by decide) (fun i h4 => pk_un (by omega)) ((congrArg (upd r (12 + (8 * k)) (nI (w))) (show 8 + 8 * k + 4 = 12 + 8 * k by omega)).trans (pk_us.trans (congrArg nI (by omega))))) (fun i hi => pk_un (by omega))).le (by omega) (by omega)⟩
          · have hik : i < rc S.r := by omega
            have hl1 := hle1 i hik
            refine y_iload hC dL_runs_108 rfl ?_
            refine y_aload_n hC dL_runs_110 (i := 1) rfl rfl ?_
            refine y_bipush (v := nI 12) hC dL_runs_111 (by decide) ?_
            refine y_bipush (v := nI 8) hC dL_runs_113 (by decide) ?_
            refine y_iload hC dL_runs_115 rfl ?_
            refine y_imul_n hC dL_runs_117 ?_
            refine y_iadd_n hC dL_runs_118 ?_
            refine y_iald hC dL_runs_119 (k := 101) (j := 12 + (8 * i)) (by have := hL_93.k; omega) hL_93.a101 (rfl) (by omega) (by decide) ?_
            refine y_top (y := nI (rn4 S.r k w i)) (hrd i hik) ?_
            refine y_iadd_n hC dL_runs_120 ?_
            refine y_top (y := nI (cn (i + 1) (fun i => decide (rn4 S.r k w i = 1)))) (congrArg nI (by rw [cn_s]; by_cases e : rn4 S.r k w i = 1; (rw [if_pos (by simpa using e), e]); (rw [if_neg (by simpa using e)]; omega))) ?_
            refine y_istore hC dL_runs_121 (Nat.le_of_ble_eq_true rfl) rfl (lo' := [some (rf E (0)), some (rf E (101)), some (.int (nI (k))), some (.int (x)), some (.int (nI (w))), some (.int (nI (cn (i + 1) (fun i => decide (rn4 S.r k w i = 1))))), some (.int (nI (i)))]) rfl ?_
            refine y_iinc_n hC dL_runs_123 (a := i) (k := 1) rfl (by decide) (Nat.le_of_ble_eq_true rfl) rfl (lo' := [some (rf E (0)), some (rf E (101)), some (.int (nI (k))), some (.int (x)), some (.int (nI (w))), some (.int (nI (cn (i + 1) (fun i => decide (rn4 S.r k w i = 1))))), some (.int (nI (i + 1)))]) rfl ?_
            refine y_goto (tgt := 100) hC dL_runs_126 (by decide) ?_
            exact ih_100 (i + 1) (by omega) (by omega)
      exact L_100 (rc S.r + 1) 0 (by omega) (by omega)
    · refine y_aload_n hC dL_runs_56 (i := 0) rfl rfl ?_
      refine y_iload_n hC dL_runs_57 (i := 2) rfl rfl ?_
      refine y_iload hC dL_runs_58 rfl ?_
      refine y_iconst (v := nI 1) hC dL_runs_60 (by decide) ?_
      refine y_icmp_ne_n (tgt := 68) hC dL_runs_61 (by decide) (by omega) (by omega) (fun c_61 => ?_) (fun c_61 => ?_)
      · refine y_iconst (v := nI 0) hC dL_runs_68 (by decide) ?_
        refine y_callVF hC hL.s mX5_run kXL_105 dL_runs_69 (b := 0) (As := [.int (nI (k)), .int (nI (0))]) (rest := []) (CPm hL.cp (fun sh mk wa hcq => c_X5_run l Ec g S B (by omega) ho sh mk wa hcq (nI k) (0) (by decide))) hL.k0 hL.a0 rfl rfl rfl (Nat.le_of_ble_eq_true rfl) ⟨Nat.le_of_ble_eq_true rfl, Nat.le_of_ble_eq_true rfl⟩ (pkf_i ?_)
        rintro r_69 g_69 ⟨hr_69, hc_69⟩
        have he_69 := qn_5 (S := S) (k := k) (z := 0) hkk (by omega) (by omega)
        rw [he_69] at hr_69 hc_69
        replace hr_69 : r_69 = ((-5)) := hr_69
        replace hc_69 : CP Ec g_69 (S) := hc_69
        rw [hr_69]
        clear hr_69 r_69
        have hL_69 := hL.call hc_69
        generalize mrg (eK Ec) g_69 g = G_69 at hL_69  ⊢
        refine y_bipush (v := (-5)) hC dL_runs_72 (by decide) ?_
        refine y_icmp_ne (tgt := 81) hC dL_runs_74 (by decide) (fun c_74 => ?_) (fun c_74 => ?_)
        · exact absurd rfl c_74
        · refine y_iconst (v := nI 1) hC dL_runs_77 (by decide) ?_
          refine y_goto (tgt := 82) hC dL_runs_78 (by decide) ?_
          refine y_zret (hrt := rfl) (hn := rfl) (hC := hC) (hd := dL_runs_82) (hq := ?_)
          exact ⟨rfl, S, c, r, h, p, hL_69, hI.le (by omega) (by omega)⟩
      · refine y_iconst (v := nI 1) hC dL_runs_64 (by decide) ?_
        refine y_goto (tgt := 69) hC dL_runs_65 (by decide) ?_
        refine y_callVF hC hL.s mX5_run kXL_105 dL_runs_69 (b := 0) (As := [.int (nI (k)), .int (nI (1))]) (rest := []) (CPm hL.cp (fun sh mk wa hcq => c_X5_run l Ec g S B (by omega) ho sh mk wa hcq (nI k) (1) (by decide))) hL.k0 hL.a0 rfl rfl rfl (Nat.le_of_ble_eq_true rfl) ⟨Nat.le_of_ble_eq_true rfl, Nat.le_of_ble_eq_true rfl⟩ (pkf_i ?_)
        rintro r_69 g_69 ⟨hr_69, hc_69⟩
        have he_69 := qn_5 (S := S) (k := k) (z := 1) hkk (by omega) (by omega)
        rw [he_69] at hr_69 hc_69
        replace hr_69 : r_69 = ((-5)) := hr_69
        replace hc_69 : CP Ec g_69 (S) := hc_69
        rw [hr_69]
        clear hr_69 r_69
        have hL_69 := hL.call hc_69
        generalize mrg (eK Ec) g_69 g = G_69 at hL_69  ⊢
        refine y_bipush (v := (-5)) hC dL_runs_72 (by decide) ?_
        refine y_icmp_ne (tgt := 81) hC dL_runs_74 (by decide) (fun c_74 => ?_) (fun c_74 => ?_)
        · exact absurd rfl c_74
        · refine y_iconst (v := nI 1) hC dL_runs_77 (by decide) ?_
          refine y_goto (tgt := 82) hC dL_runs_78 (by decide) ?_
          refine y_zret (hrt := rfl) (hn := rfl) (hC := hC) (hd := dL_runs_82) (hq := ?_)
          exact ⟨rfl, S, c, r, h, p, hL_69, hI.le (by omega) (by omega)⟩
  · refine y_aload_n hC dL_runs_16 (i := 0) rfl rfl ?_
    refine y_iload_n hC dL_runs_17 (i := 2) rfl rfl ?_
    refine y_iload hC dL_runs_18 rfl ?_
    refine y_iconst (v := nI 1) hC dL_runs_20 (by decide) ?_
    refine y_icmp_ne_n (tgt := 28) hC dL_runs_21 (by decide) (by omega) (by omega) (fun c_21 => ?_) (fun c_21 => ?_)
    · refine y_iconst (v := nI 0) hC dL_runs_28 (by decide) ?_
      refine y_callVF hC hL.s mX5_run kXL_105 dL_runs_29 (b := 0) (As := [.int (nI (k)), .int (nI (0))]) (rest := []) (CPm hL.cp (fun sh mk wa hcq => c_X5_run l Ec g S B (by omega) ho sh mk wa hcq (nI k) (0) (by decide))) hL.k0 hL.a0 rfl rfl rfl (Nat.le_of_ble_eq_true rfl) ⟨Nat.le_of_ble_eq_true rfl, Nat.le_of_ble_eq_true rfl⟩ (pkf_i ?_)
      rintro r_29 g_29 ⟨hr_29, hc_29⟩
      have he_29 := qn_n (S := S) (k := k) (z := 0) (by omega) (by omega)
      rw [he_29] at hr_29 hc_29
      replace hr_29 : r_29 = ((-1)) := hr_29
      replace hc_29 : CP Ec g_29 (S) := hc_29
      rw [hr_29]
      clear hr_29 r_29
      have hL_29 := hL.call hc_29
      generalize mrg (eK Ec) g_29 g = G_29 at hL_29  ⊢
      refine y_iconst (v := (-1)) hC dL_runs_32 (by decide) ?_
      refine y_icmp_ne (tgt := 40) hC dL_runs_33 (by decide) (fun c_33 => ?_) (fun c_33 => ?_)
      · exact absurd rfl c_33
      · refine y_iconst (v := nI 1) hC dL_runs_36 (by decide) ?_
        refine y_goto (tgt := 41) hC dL_runs_37 (by decide) ?_
        refine y_zret (hrt := rfl) (hn := rfl) (hC := hC) (hd := dL_runs_41) (hq := ?_)
        exact ⟨rfl, S, c, r, h, p, hL_29, hI.le (by omega) (by omega)⟩
    · refine y_iconst (v := nI 1) hC dL_runs_24 (by decide) ?_
      refine y_goto (tgt := 29) hC dL_runs_25 (by decide) ?_
      refine y_callVF hC hL.s mX5_run kXL_105 dL_runs_29 (b := 0) (As := [.int (nI (k)), .int (nI (1))]) (rest := []) (CPm hL.cp (fun sh mk wa hcq => c_X5_run l Ec g S B (by omega) ho sh mk wa hcq (nI k) (1) (by decide))) hL.k0 hL.a0 rfl rfl rfl (Nat.le_of_ble_eq_true rfl) ⟨Nat.le_of_ble_eq_true rfl, Nat.le_of_ble_eq_true rfl⟩ (pkf_i ?_)
      rintro r_29 g_29 ⟨hr_29, hc_29⟩
      have he_29 := qn_n (S := S) (k := k) (z := 1) (by omega) (by omega)
      rw [he_29] at hr_29 hc_29
      replace hr_29 : r_29 = ((-1)) := hr_29
      replace hc_29 : CP Ec g_29 (S) := hc_29
      rw [hr_29]
      clear hr_29 r_29
      have hL_29 := hL.call hc_29
      generalize mrg (eK Ec) g_29 g = G_29 at hL_29  ⊢
      refine y_iconst (v := (-1)) hC dL_runs_32 (by decide) ?_
      refine y_icmp_ne (tgt := 40) hC dL_runs_33 (by decide) (fun c_33 => ?_) (fun c_33 => ?_)
      · exact absurd rfl c_33
      · refine y_iconst (v := nI 1) hC dL_runs_36 (by decide) ?_
        refine y_goto (tgt := 41) hC dL_runs_37 (by decide) ?_
        refine y_zret (hrt := rfl) (hn := rfl) (hC := hC) (hd := dL_runs_41) (hq := ?_)
        exact ⟨rfl, S, c, r, h, p, hL_29, hI.le (by omega) (by omega)⟩

set_option maxHeartbeats 4000000 in
set_option maxRecDepth 100000 in
theorem c_L_runs (l : Launch) (E : gE) (g : Mem) (Ec : gE) (S : AS) (c r h p : Nat → Int32) (hL : LWP Ec E g S c r h p) (B M : Nat) (hB : B ≤ 9000000) (hM : M ≤ 90000000) (hI : IV S c r h p B M) (k : Nat) (hk : k ≤ 5) (x : Int32) : Mt l E yL_runs cL_runs 7 (some .boolean) 4 91 [rf E (0), rf E (101), .int (nI (k)), .int (x)] g (pI (fun z g' => z = nI 1 ∧ ∃ (S' : AS) (c' r' h' p' : Nat → Int32), LWP Ec E g' S' c' r' h' p' ∧ IV S' c' r' h' p' (B + 100000) (M + 1000))) := by
  have l1 := lw_lt (x := (x) >>> (nI (4) &&& 31)) (n := 2) (by decide)
  refine mt_go (own := RXL) (by decide) rfl (lo := [some (rf E (0)), some (rf E (101)), some (.int (nI (k))), some (.int (x)), none, none, none]) rfl (Nat.le_of_ble_eq_true rfl) (fun X hC => ?_)
  refine y_iload_n hC dL_runs_0 (i := 3) rfl rfl ?_
  refine y_iconst (v := nI 4) hC dL_runs_1 (by decide) ?_
  refine y_ishr hC dL_runs_2 ?_
  refine y_iconst (v := nI 2) hC dL_runs_3 (by decide) ?_
  refine y_callS hC mL_low kXL_64 dL_runs_4 (As := [.int ((x) >>> (nI (4) &&& 31)), .int (nI (2))]) (rest := []) (c_L_low l E g (((x) >>> (nI (4) &&& 31))) (2) (by omega) (by omega)) rfl rfl rfl (Nat.le_of_ble_eq_true rfl) ⟨Nat.le_of_ble_eq_true rfl, Nat.le_of_ble_eq_true rfl⟩ (pk_i ?_)
  rintro r_4 g_4 ⟨hr_4, hq_4⟩
  obtain rfl := hq_4.symm
  rw [hr_4]
  clear hr_4 r_4
  refine y_istore hC dL_runs_7 (Nat.le_of_ble_eq_true rfl) rfl (lo' := [some (rf E (0)), some (rf E (101)), some (.int (nI (k))), some (.int (x)), some (.int (nI (lw (((x) >>> (nI (4) &&& 31))) (2)))), none, none]) rfl ?_
  exact w_runs2 l E X g Ec S c r h p hL B M hB hM hI k hk x (lw (((x) >>> (nI (4) &&& 31))) (2)) (by omega) hC

