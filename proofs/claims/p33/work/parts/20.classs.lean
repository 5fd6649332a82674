/-! ===== the class itself: what it reckons in its scratch rows ===== -/
/-- is a place one of the first n pixels' -/
def inU (r : Row) : Nat → Nat → Bool
  | 0, _ => false
  | n + 1, k => inU r n k || decide (px r n = k)
theorem inU_iff {r : Row} {k : Nat} : ∀ {n : Nat}, inU r n k = true ↔ ∃ p, p < n ∧ px r p = k
  | 0 => by simp [inU]
  | n + 1 => by
    rw [inU, Bool.or_eq_true, decide_eq_true_eq, inU_iff]
    constructor
    · rintro (⟨p, h1, h2⟩ | h)
      · exact ⟨p, by omega, h2⟩
      · exact ⟨n, by omega, h⟩
    · rintro ⟨p, h1, h2⟩
      by_cases e : p = n
      · exact Or.inr (e ▸ h2)
      · exact Or.inl ⟨p, by omega, h2⟩
def aSh (r : Row) (sh : Nat → Int32) (M : Nat → Bool) (t : Nat) : Nat → Bool
  | 0 => true
  | k + 1 => aSh r sh M t k && (!M k || decide (shd r k t = sh k))
theorem aSh_iff {r : Row} {sh : Nat → Int32} {M : Nat → Bool} {t : Nat} : ∀ {n : Nat}, aSh r sh M t n = true ↔ ∀ k, k < n → M k = true → shd r k t = sh k
  | 0 => by simp [aSh]
  | n + 1 => by
    rw [aSh, Bool.and_eq_true, aSh_iff]
    constructor
    · rintro ⟨h1, h2⟩ k hk hm
      by_cases e : k = n
      · subst e
        simpa [hm] using h2
      · exact h1 k (by omega) hm
    · intro h
      refine ⟨fun k hk => h k (by omega), ?_⟩
      by_cases hm : M n = true
      · simp [hm, h n (by omega) hm]
      · simp [hm]
def mbB (M : Nat → Bool) (sh : Nat → Int32) (p : Nat) : Nat → Bool
  | 0 => false
  | n + 1 => mbB M sh p n || (M n && decide (sh n = sh p))
theorem mbB_iff {M : Nat → Bool} {sh : Nat → Int32} {p : Nat} : ∀ {n : Nat}, mbB M sh p n = true ↔ ∃ e, e < n ∧ M e = true ∧ sh e = sh p
  | 0 => by simp [mbB]
  | n + 1 => by
    rw [mbB, Bool.or_eq_true, Bool.and_eq_true, decide_eq_true_eq, mbB_iff]
    constructor
    · rintro (⟨e, h1, h2⟩ | h)
      · exact ⟨e, by omega, h2⟩
      · exact ⟨n, by omega, h⟩
    · rintro ⟨e, h1, h2⟩
      by_cases q : e = n
      · exact Or.inr (q ▸ h2)
      · exact Or.inl ⟨e, by omega, h2⟩
/-- the nearest of the first places -/
def nrN (sh : Nat → Int32) (c : Int32) : Nat → Nat
  | 0 => 0
  | k + 1 => if cDist (sh (k + 1)) c < cDist (sh (nrN sh c k)) c then k + 1 else nrN sh c k
theorem nrN_le (sh : Nat → Int32) (c : Int32) : ∀ k, nrN sh c k ≤ k
  | 0 => Nat.le_refl _
  | k + 1 => by
    have := nrN_le sh c k
    rw [nrN]
    split <;> omega
theorem nrN_cg {sh sh2 : Nat → Int32} {c : Int32} : ∀ {n : Nat}, (∀ k, k ≤ n → sh k = sh2 k) → nrN sh c n = nrN sh2 c n
  | 0, _ => rfl
  | n + 1, h => by
    have h1 := nrN_cg (c := c) (n := n) (fun k hk => h k (by omega))
    have h2 := nrN_le sh2 c n
    rw [nrN, nrN, h1, h (n + 1) (by omega), h (nrN sh2 c n) (by omega)]
/-- the greatest distance beside the first pixels -/
def mxI (a b : Int32) : Int32 := if a < b then b else a
def ctN (D : Nat → Nat → Int32) : Nat → Int32
  | 0 => nI 0
  | k + 1 => (fun g1 => if k + 8 < 64 then mxI g1 (D k (k + 8)) else g1) (if k % 8 + 1 < 8 then mxI (ctN D k) (D k (k + 1)) else ctN D k)
theorem ctN_cg {D D2 : Nat → Nat → Int32} : ∀ {n : Nat}, n ≤ 64 → (∀ a b, a < 64 → b < 64 → D a b = D2 a b) → ctN D n = ctN D2 n
  | 0, _, _ => rfl
  | n + 1, hn, h => by
    have h1 := ctN_cg (n := n) (by omega) h
    have h2 : (if n % 8 + 1 < 8 then mxI (ctN D n) (D n (n + 1)) else ctN D n) = if n % 8 + 1 < 8 then mxI (ctN D2 n) (D2 n (n + 1)) else ctN D2 n := by
      rw [h1]
      split
      · rw [h _ _ (by omega) (by omega)]
      · rfl
    rw [ctN, ctN, h2]
    show (if n + 8 < 64 then _ else _) = if n + 8 < 64 then _ else _
    split
    · rw [h _ _ (by omega) (by omega)]
    · rfl
def pxD (r : Row) (a b : Nat) : Int32 := cDist (shd r (px r a) 0) (shd r (px r b) 0)
def ctQ (r : Row) : Int32 := ctN (pxD r) 64
def nrQ (S : AS) (x : Int32) : Int32 := if 0 ≤ x.toInt ∧ x.toInt ≤ 262143 then nI (nrN (shS S.r) x 31) else -2
def qContrast (S : AS) : Int32 := ctQ S.r
def chC (r : Row) (t : Nat) : Nat := cn 64 (fun p => decide (¬ shd r (px r p) 0 = shd r (px r p) t))
def qChanges (S : AS) (x : Int32) : Int32 := if 0 ≤ x.toInt ∧ x.toInt ≤ 1000 then nI (chC S.r (nn x)) else -2
def mvC (r : Row) : Nat := cn 64 (fun p => mvs r (px r p))
/-- as the class counts the colours that are shown -/
def dcK (r : Row) : Nat := cn 32 (fun p => inU r 64 p && !mbB (inU r 64) (shS r) p p)
def pbP (r : Row) (k : Nat) : Bool := (List.range 64).all (fun p => decide (shd r (px r p) (k + 1) = shd r (px r p) 0))
theorem pbP_iff {r : Row} {k : Nat} : pbP r k = true ↔ ∀ p, p < 64 → shd r (px r p) (k + 1) = shd r (px r p) 0 := by
  unfold pbP
  rw [List.all_eq_true]
  exact ⟨fun h p hp => of_decide_eq_true (h p (List.mem_range.mpr hp)), fun h p hp => decide_eq_true (h p (List.mem_range.mp hp))⟩
def pbI (o : Option Nat) : Int32 := match o with
  | some k => nI (k + 1)
  | none => -5
def qPictureBack (S : AS) : Int32 := pbI (fst 2000 (pbP S.r))
def rgT (S : AS) (w : Nat) : Int32 := match w with
  | 0 => nI (rc S.r)
  | 1 => nI (rnC S.r)
  | 2 => nI (gc S.r)
  | 3 => S.r 156
  | 4 => S.r 157
  | 5 => nI (sm (rc S.r) (fun i => nP S.r i))
  | 6 => nI (dcK S.r)
  | 7 => nI (mvC S.r)
  | 8 => nI S.c
  | _ => nI S.ln
def qTotal (S : AS) (x : Int32) : Int32 := if 0 ≤ x.toInt ∧ x.toInt ≤ 9 then rgT S (nn x) else -2
/-- what does not move is shown as it is -/
theorem shd_still {r : Row} {k t : Nat} (h : mvs r k = false) : shd r k t = shd r k 0 := by
  unfold mvs at h
  rw [Bool.or_eq_false_iff] at h
  obtain ⟨h1, h2⟩ := h
  unfold shd
  cases hg : gAt r k with
  | some i => rw [hg] at h2; cases h2
  | none =>
    show tnd r k t = tnd r k 0
    unfold tnd
    cases hr : rAt r k with
    | none => rfl
    | some i =>
      rw [hr] at h1
      have h3 : ¬ rg r i 4 = 1 := by simpa using h1
      have h4 : tuN r i t = tuN r i 0 := by
        unfold tuN mdN
        rw [if_neg h3, if_neg h3]
      show r (srN _ _ _ _) = r (srN _ _ _ _)
      rw [h4]
theorem dX5_markPlacesOfPicture_0 : decode cX5_markPlacesOfPicture 0 = .ok (.iconst 0, 1) := by decide +kernel
theorem dX5_markPlacesOfPicture_1 : decode cX5_markPlacesOfPicture 1 = .ok (.istore_n 1, 1) := by decide +kernel
theorem dX5_markPlacesOfPicture_2 : decode cX5_markPlacesOfPicture 2 = .ok (.iload_n 1, 1) := by decide +kernel
theorem dX5_markPlacesOfPicture_3 : decode cX5_markPlacesOfPicture 3 = .ok (.bipush 32, 2) := by decide +kernel
theorem dX5_markPlacesOfPicture_5 : decode cX5_markPlacesOfPicture 5 = .ok (.if_icmp .ge 16, 3) := by decide +kernel
theorem dX5_markPlacesOfPicture_8 : decode cX5_markPlacesOfPicture 8 = .ok (.aload_n 0, 1) := by decide +kernel
theorem dX5_markPlacesOfPicture_9 : decode cX5_markPlacesOfPicture 9 = .ok (.getfield 34, 3) := by decide +kernel
theorem dX5_markPlacesOfPicture_12 : decode cX5_markPlacesOfPicture 12 = .ok (.iload_n 1, 1) := by decide +kernel
theorem dX5_markPlacesOfPicture_13 : decode cX5_markPlacesOfPicture 13 = .ok (.iconst 0, 1) := by decide +kernel
theorem dX5_markPlacesOfPicture_14 : decode cX5_markPlacesOfPicture 14 = .ok (.bastore, 1) := by decide +kernel
theorem dX5_markPlacesOfPicture_15 : decode cX5_markPlacesOfPicture 15 = .ok (.iinc 1 1, 3) := by decide +kernel
theorem dX5_markPlacesOfPicture_18 : decode cX5_markPlacesOfPicture 18 = .ok (.goto (-16), 3) := by decide +kernel
theorem dX5_markPlacesOfPicture_21 : decode cX5_markPlacesOfPicture 21 = .ok (.iconst 0, 1) := by decide +kernel
theorem dX5_markPlacesOfPicture_22 : decode cX5_markPlacesOfPicture 22 = .ok (.istore_n 1, 1) := by decide +kernel
theorem dX5_markPlacesOfPicture_23 : decode cX5_markPlacesOfPicture 23 = .ok (.iload_n 1, 1) := by decide +kernel
theorem dX5_markPlacesOfPicture_24 : decode cX5_markPlacesOfPicture 24 = .ok (.bipush 64, 2) := by decide +kernel
theorem dX5_markPlacesOfPicture_26 : decode cX5_markPlacesOfPicture 26 = .ok (.if_icmp .ge 24, 3) := by decide +kernel
theorem dX5_markPlacesOfPicture_29 : decode cX5_markPlacesOfPicture 29 = .ok (.aload_n 0, 1) := by decide +kernel
theorem dX5_markPlacesOfPicture_30 : decode cX5_markPlacesOfPicture 30 = .ok (.getfield 34, 3) := by decide +kernel
theorem dX5_markPlacesOfPicture_33 : decode cX5_markPlacesOfPicture 33 = .ok (.aload_n 0, 1) := by decide +kernel
theorem dX5_markPlacesOfPicture_34 : decode cX5_markPlacesOfPicture 34 = .ok (.getfield 12, 3) := by decide +kernel
theorem dX5_markPlacesOfPicture_37 : decode cX5_markPlacesOfPicture 37 = .ok (.getfield 166, 3) := by decide +kernel
theorem dX5_markPlacesOfPicture_40 : decode cX5_markPlacesOfPicture 40 = .ok (.iload_n 1, 1) := by decide +kernel
theorem dX5_markPlacesOfPicture_41 : decode cX5_markPlacesOfPicture 41 = .ok (.iaload, 1) := by decide +kernel
theorem dX5_markPlacesOfPicture_42 : decode cX5_markPlacesOfPicture 42 = .ok (.iconst 1, 1) := by decide +kernel
theorem dX5_markPlacesOfPicture_43 : decode cX5_markPlacesOfPicture 43 = .ok (.bastore, 1) := by decide +kernel
theorem dX5_markPlacesOfPicture_44 : decode cX5_markPlacesOfPicture 44 = .ok (.iinc 1 1, 3) := by decide +kernel
theorem dX5_markPlacesOfPicture_47 : decode cX5_markPlacesOfPicture 47 = .ok (.goto (-24), 3) := by decide +kernel
theorem dX5_markPlacesOfPicture_50 : decode cX5_markPlacesOfPicture 50 = .ok (.return_, 1) := by decide +kernel
set_option maxHeartbeats 4000000 in
set_option maxRecDepth 100000 in
theorem c_X5_markPlacesOfPicture (l : Launch) (E : gE) (g : Mem) (S : AS) (B : Nat) (hB : B < 90000000) (ho : OK S B) (sh mk wa : Nat → Int32) (h : CQ E g S sh mk wa) : Mt l E yX5_markPlacesOfPicture cX5_markPlacesOfPicture 2 none 0 0 [rf E (0)] g (pV (fun g' => ∃ mk2, (∀ k, k < 32 → mk2 k = bI (inU S.r 64 k = true)) ∧ CQ E g' S sh mk2 wa)) := by
  have hK := h.k
  have hv := ho.v
  have hrc : rc S.r ≤ 6 := hv.1.2
  have hgc : gc S.r ≤ 4 := hv.2.1.2
  have hc4 := ho.c4
  refine mt_go (own := RX5) (by decide) rfl (lo := [some (rf E (0)), none]) rfl (Nat.le_of_ble_eq_true rfl) (fun X hC => ?_)
  refine y_iconst (v := nI 0) hC dX5_markPlacesOfPicture_0 (by decide) ?_
  refine y_istore_n hC dX5_markPlacesOfPicture_1 (i := 1) rfl (Nat.le_of_ble_eq_true rfl) rfl (lo' := [some (rf E (0)), some (.int (nI (0)))]) rfl ?_
  have L_2 : ∀ (m : Nat) (i : Nat) (g1 : Mem) (mk1 : Nat → Int32), (hm : 32 - i < m) → (hi : i ≤ 32) → (hq : CQ E g1 S sh mk1 wa) → (hk : ∀ k, k < i → mk1 k = nI 0) → Y l E X (pV (fun g' => ∃ mk2, (∀ k, k < 32 → mk2 k = bI (inU S.r 64 k = true)) ∧ CQ E g' S sh mk2 wa)) 2 [some (rf E (0)), some (.int (nI (i)))] [] g1 := by
    intro m
    induction m with
    | zero => intro i g1 mk1 hm hi hq hk; exact absurd hm (Nat.not_lt_zero _)
    | succ m ih_2 =>
      intro i g1 mk1 hm hi hq hk
      refine y_iload_n hC dX5_markPlacesOfPicture_2 (i := 1) rfl rfl ?_
      refine y_bipush (v := nI 32) hC dX5_markPlacesOfPicture_3 (by decide) ?_
      refine y_icmp_ge_n (tgt := 21) hC dX5_markPlacesOfPicture_5 (by decide) (by omega) (by omega) (fun c_5 => ?_) (fun c_5 => ?_)
      · refine y_iconst (v := nI 0) hC dX5_markPlacesOfPicture_21 (by decide) ?_
        refine y_istore_n hC dX5_markPlacesOfPicture_22 (i := 1) rfl (Nat.le_of_ble_eq_true rfl) rfl (lo' := [some (rf E (0)), some (.int (nI (0)))]) rfl ?_
        have hk0 : ∀ k, k < 32 → mk1 k = bI (inU S.r 0 k = true) := fun k hk2 => by rw [hk k (by omega)]; exact (bI_f (by unfold inU; decide)).symm
        clear hk ih_2 hi
        have L_23 : ∀ (m : Nat) (i : Nat) (g2 : Mem) (mk2 : Nat → Int32), (hm : 64 - i < m) → (hi : i ≤ 64) → (hq : CQ E g2 S sh mk2 wa) → (hk : ∀ k, k < 32 → mk2 k = bI (inU S.r i k = true)) → Y l E X (pV (fun g' => ∃ mk2, (∀ k, k < 32 → mk2 k = bI (inU S.r 64 k = true)) ∧ CQ E g' S sh mk2 wa)) 23 [some (rf E (0)), some (.int (nI (i)))] [] g2 := by
          intro m
          induction m with
          | zero => intro i g2 mk2 hm hi hq hk; exact absurd hm (Nat.not_lt_zero _)
          | succ m ih_23 =>
            intro i g2 mk2 hm hi hq hk
            obtain ⟨co_l, pi_l, π_l, ρ_l, V_l, U_l, hX_l, e1_l, e2_l, e3_l, e4_l⟩ := zStF (r := S.r) (B := B) hq.sta hv
            refine y_iload_n hC dX5_markPlacesOfPicture_23 (i := 1) rfl rfl ?_
            refine y_bipush (v := nI 64) hC dX5_markPlacesOfPicture_24 (by decide) ?_
            refine y_icmp_ge_n (tgt := 50) hC dX5_markPlacesOfPicture_26 (by decide) (by omega) (by omega) (fun c_26 => ?_) (fun c_26 => ?_)
            · refine y_vret (hC := hC) (hd := dX5_markPlacesOfPicture_50) (hq := ?_)
              exact ⟨mk2, fun k hk2 => by rw [hk k hk2, show i = 64 by omega], hq⟩
            · refine y_aload_n hC dX5_markPlacesOfPicture_29 (i := 0) rfl rfl ?_
              refine y_get hC fX5_34 dX5_markPlacesOfPicture_30 (k := 0) (by omega) hq.a0 rfl ?_
              refine y_aload_n hC dX5_markPlacesOfPicture_33 (i := 0) rfl rfl ?_
              refine y_get hC fX5_12 dX5_markPlacesOfPicture_34 (k := 0) (by omega) hq.a0 rfl ?_
              refine y_get hC fX5_166 dX5_markPlacesOfPicture_37 (k := 1) (hX_l.k (k := 0) (by decide)) hX_l.s0 rfl ?_
              refine y_iload_n hC dX5_markPlacesOfPicture_40 (i := 1) rfl rfl ?_
              refine y_iald hC dX5_markPlacesOfPicture_41 (k := 1 + 2) (j := i) (hX_l.k (k := 2) (by decide)) hX_l.s2 (rfl) (by omega) (by decide) ?_
              have hpb_42 := (hv.2.2.2.2.2.2.1 (i) (by omega)).2
              refine y_top (y := nI (px S.r (i))) ((e2_l (i) (by omega)).trans (hv.2.2.2.2.2.2.1 (i) (by omega)).1) ?_
              refine y_iconst (v := nI 1) hC dX5_markPlacesOfPicture_42 (by decide) ?_
              refine y_zast hC dX5_markPlacesOfPicture_43 (k := 98) (j := px S.r (i)) (by omega) hq.a98 (rfl) (by omega) (by decide) (by decide) ?_
              have hq_43 : CQ E (va_up g2 (98) (aI E 2 32 (upd mk2 (px S.r (i)) (nI (1))))) S sh (upd mk2 (px S.r (i)) (nI (1))) wa := hq.up98 _
              have hX_43 : SF E (va_up g2 (98) (aI E 2 32 (upd mk2 (px S.r (i)) (nI (1))))) (va_up g2 (98) (aI E 2 32 (upd mk2 (px S.r (i)) (nI (1))))) 1 co_l pi_l π_l ρ_l V_l U_l (v4 (nI (rc S.r)) (nI (gc S.r)) (nI (nn (S.r 156))) (nI (nn (S.r 157)))) := hX_l.on (b2 := 97) (fun k hk => va_up_ne _ _ (by omega)) (by omega)
              generalize (va_up g2 (98) (aI E 2 32 (upd mk2 (px S.r (i)) (nI (1))))) = g_43 at hq_43 hX_43 ⊢
              refine y_iinc_n hC dX5_markPlacesOfPicture_44 (a := i) (k := 1) rfl (by decide) (Nat.le_of_ble_eq_true rfl) rfl (lo' := [some (rf E (0)), some (.int (nI (i + 1)))]) rfl ?_
              refine y_goto (tgt := 23) hC dX5_markPlacesOfPicture_47 (by decide) ?_
              exact ih_23 (i + 1) g_43 _ (by omega) (by omega) hq_43 (fun k hk2 => by
                  by_cases e : k = px S.r i
                  · rw [e, pk_us]; exact (bI_t (by rw [inU]; simp)).symm
                  · rw [pk_un e, hk k hk2]; exact bI_cg (by rw [inU, Bool.or_eq_true, decide_eq_true_eq]; exact ⟨fun q => Or.inl q, fun q => q.elim id (fun q => absurd q.symm e)⟩))
        exact L_23 65 0 g1 mk1 (by omega) (by omega) hq hk0
      · refine y_aload_n hC dX5_markPlacesOfPicture_8 (i := 0) rfl rfl ?_
        refine y_get hC fX5_34 dX5_markPlacesOfPicture_9 (k := 0) (by omega) hq.a0 rfl ?_
        refine y_iload_n hC dX5_markPlacesOfPicture_12 (i := 1) rfl rfl ?_
        refine y_iconst (v := nI 0) hC dX5_markPlacesOfPicture_13 (by decide) ?_
        refine y_zast hC dX5_markPlacesOfPicture_14 (k := 98) (j := i) (by omega) hq.a98 (rfl) (by omega) (by decide) (by decide) ?_
        have hq_14 : CQ E (va_up g1 (98) (aI E 2 32 (upd mk1 (i) (nI (0))))) S sh (upd mk1 (i) (nI (0))) wa := hq.up98 _
        generalize (va_up g1 (98) (aI E 2 32 (upd mk1 (i) (nI (0))))) = g_14 at hq_14 ⊢
        refine y_iinc_n hC dX5_markPlacesOfPicture_15 (a := i) (k := 1) rfl (by decide) (Nat.le_of_ble_eq_true rfl) rfl (lo' := [some (rf E (0)), some (.int (nI (i + 1)))]) rfl ?_
        refine y_goto (tgt := 2) hC dX5_markPlacesOfPicture_18 (by decide) ?_
        exact ih_2 (i + 1) g_14 _ (by omega) (by omega) hq_14 (fun k hk2 => by
            by_cases e : k = i
            · rw [e, pk_us]
            · rw [pk_un e]; exact hk k (by omega))
  exact L_2 33 0 g mk (by omega) (by omega) h (fun k hk => absurd hk (Nat.not_lt_zero k))

theorem dX5_markedPixels_0 : decode cX5_markedPixels 0 = .ok (.iconst 0, 1) := by decide +kernel
theorem dX5_markedPixels_1 : decode cX5_markedPixels 1 = .ok (.istore_n 1, 1) := by decide +kernel
theorem dX5_markedPixels_2 : decode cX5_markedPixels 2 = .ok (.iconst 0, 1) := by decide +kernel
theorem dX5_markedPixels_3 : decode cX5_markedPixels 3 = .ok (.istore_n 2, 1) := by decide +kernel
theorem dX5_markedPixels_4 : decode cX5_markedPixels 4 = .ok (.iload_n 2, 1) := by decide +kernel
theorem dX5_markedPixels_5 : decode cX5_markedPixels 5 = .ok (.bipush 64, 2) := by decide +kernel
theorem dX5_markedPixels_7 : decode cX5_markedPixels 7 = .ok (.if_icmp .ge 29, 3) := by decide +kernel
theorem dX5_markedPixels_10 : decode cX5_markedPixels 10 = .ok (.aload_n 0, 1) := by decide +kernel
theorem dX5_markedPixels_11 : decode cX5_markedPixels 11 = .ok (.getfield 34, 3) := by decide +kernel
theorem dX5_markedPixels_14 : decode cX5_markedPixels 14 = .ok (.aload_n 0, 1) := by decide +kernel
theorem dX5_markedPixels_15 : decode cX5_markedPixels 15 = .ok (.getfield 12, 3) := by decide +kernel
theorem dX5_markedPixels_18 : decode cX5_markedPixels 18 = .ok (.getfield 166, 3) := by decide +kernel
theorem dX5_markedPixels_21 : decode cX5_markedPixels 21 = .ok (.iload_n 2, 1) := by decide +kernel
theorem dX5_markedPixels_22 : decode cX5_markedPixels 22 = .ok (.iaload, 1) := by decide +kernel
theorem dX5_markedPixels_23 : decode cX5_markedPixels 23 = .ok (.baload, 1) := by decide +kernel
theorem dX5_markedPixels_24 : decode cX5_markedPixels 24 = .ok (.ifCond .eq 6, 3) := by decide +kernel
theorem dX5_markedPixels_27 : decode cX5_markedPixels 27 = .ok (.iinc 1 1, 3) := by decide +kernel
theorem dX5_markedPixels_30 : decode cX5_markedPixels 30 = .ok (.iinc 2 1, 3) := by decide +kernel
theorem dX5_markedPixels_33 : decode cX5_markedPixels 33 = .ok (.goto (-29), 3) := by decide +kernel
theorem dX5_markedPixels_36 : decode cX5_markedPixels 36 = .ok (.iload_n 1, 1) := by decide +kernel
theorem dX5_markedPixels_37 : decode cX5_markedPixels 37 = .ok (.ireturn, 1) := by decide +kernel
set_option maxHeartbeats 4000000 in
set_option maxRecDepth 100000 in
theorem c_X5_markedPixels (l : Launch) (E : gE) (g : Mem) (S : AS) (B : Nat) (hB : B < 90000000) (ho : OK S B) (sh mk wa : Nat → Int32) (h : CQ E g S sh mk wa) (M : Nat → Bool) (hM : ∀ k, k < 32 → mk k = bI (M k = true)) : Mt l E yX5_markedPixels cX5_markedPixels 3 (some .int) 0 0 [rf E (0)] g (pI (fun z g' => z = nI (cn 64 (fun p => M (px S.r p))) ∧ g' = g)) := by
  have hK := h.k
  have hv := ho.v
  have hrc : rc S.r ≤ 6 := hv.1.2
  have hgc : gc S.r ≤ 4 := hv.2.1.2
  have hc4 := ho.c4
  refine mt_go (own := RX5) (by decide) rfl (lo := [some (rf E (0)), none, none]) rfl (Nat.le_of_ble_eq_true rfl) (fun X hC => ?_)
  obtain ⟨co, pi, π, ρ, V, U, hX, e1, e2, e3, e4⟩ := zStF (r := S.r) (B := B) h.sta hv
  refine y_iconst (v := nI 0) hC dX5_markedPixels_0 (by decide) ?_
  refine y_istore_n hC dX5_markedPixels_1 (i := 1) rfl (Nat.le_of_ble_eq_true rfl) rfl (lo' := [some (rf E (0)), some (.int (nI (0))), none]) rfl ?_
  refine y_iconst (v := nI 0) hC dX5_markedPixels_2 (by decide) ?_
  refine y_istore_n hC dX5_markedPixels_3 (i := 2) rfl (Nat.le_of_ble_eq_true rfl) rfl (lo' := [some (rf E (0)), some (.int (nI (0))), some (.int (nI (0)))]) rfl ?_
  have L_4 : ∀ (m : Nat) (i c : Nat), (hm : 64 - i < m) → (hi : i ≤ 64) → (hc : c = cn i (fun p => M (px S.r p))) → Y l E X (pI (fun z g' => z = nI (cn 64 (fun p => M (px S.r p))) ∧ g' = g)) 4 [some (rf E (0)), some (.int (nI (c))), some (.int (nI (i)))] [] g := by
    intro m
    induction m with
    | zero => intro i c hm hi hc; exact absurd hm (Nat.not_lt_zero _)
    | succ m ih_4 =>
      intro i c hm hi hc
      refine y_iload_n hC dX5_markedPixels_4 (i := 2) rfl rfl ?_
      refine y_bipush (v := nI 64) hC dX5_markedPixels_5 (by decide) ?_
      refine y_icmp_ge_n (tgt := 36) hC dX5_markedPixels_7 (by decide) (by omega) (by omega) (fun c_7 => ?_) (fun c_7 => ?_)
      · refine y_iload_n hC dX5_markedPixels_36 (i := 1) rfl rfl ?_
        refine y_iret (hC := hC) (hd := dX5_markedPixels_37) (hq := ?_)
        exact ⟨congrArg nI (by rw [hc, show i = 64 by omega]), rfl⟩
      · have hcl := cn_le i (fun p => M (px S.r p))
        refine y_aload_n hC dX5_markedPixels_10 (i := 0) rfl rfl ?_
        refine y_get hC fX5_34 dX5_markedPixels_11 (k := 0) (by omega) h.a0 rfl ?_
        refine y_aload_n hC dX5_markedPixels_14 (i := 0) rfl rfl ?_
        refine y_get hC fX5_12 dX5_markedPixels_15 (k := 0) (by omega) h.a0 rfl ?_
        refine y_get hC fX5_166 dX5_markedPixels_18 (k := 1) (hX.k (k := 0) (by decide)) hX.s0 rfl ?_
        refine y_iload_n hC dX5_markedPixels_21 (i := 2) rfl rfl ?_
        refine y_iald hC dX5_markedPixels_22 (k := 1 + 2) (j := i) (hX.k (k := 2) (by decide)) hX.s2 (rfl) (by omega) (by decide) ?_
        have hpb_23 := (hv.2.2.2.2.2.2.1 (i) (by omega)).2
        refine y_top (y := nI (px S.r (i))) ((e2 (i) (by omega)).trans (hv.2.2.2.2.2.2.1 (i) (by omega)).1) ?_
        refine y_zald hC dX5_markedPixels_23 (k := 98) (j := px S.r (i)) (by omega) h.a98 (rfl) (by omega) (by decide) ?_
        refine y_top (y := bI (M (px S.r (i)) = true)) (hM (px S.r (i)) (by omega)) ?_
        refine y_if_eq_b (tgt := 30) hC dX5_markedPixels_24 (by decide) (fun c_24 => ?_) (fun c_24 => ?_)
        · refine y_iinc_n hC dX5_markedPixels_30 (a := i) (k := 1) rfl (by decide) (Nat.le_of_ble_eq_true rfl) rfl (lo' := [some (rf E (0)), some (.int (nI (c))), some (.int (nI (i + 1)))]) rfl ?_
          refine y_goto (tgt := 4) hC dX5_markedPixels_33 (by decide) ?_
          exact ih_4 (i + 1) _ (by omega) (by omega) (by rw [cn_s, ← hc]; first | rw [if_pos c_24] | (rw [if_neg c_24]; rfl))
        · refine y_iinc_n hC dX5_markedPixels_27 (a := c) (k := 1) rfl (by decide) (Nat.le_of_ble_eq_true rfl) rfl (lo' := [some (rf E (0)), some (.int (nI (c + 1))), some (.int (nI (i)))]) rfl ?_
          refine y_iinc_n hC dX5_markedPixels_30 (a := i) (k := 1) rfl (by decide) (Nat.le_of_ble_eq_true rfl) rfl (lo' := [some (rf E (0)), some (.int (nI (c + 1))), some (.int (nI (i + 1)))]) rfl ?_
          refine y_goto (tgt := 4) hC dX5_markedPixels_33 (by decide) ?_
          exact ih_4 (i + 1) _ (by omega) (by omega) (by rw [cn_s, ← hc]; first | rw [if_pos c_24] | (rw [if_neg c_24]; rfl))
  exact L_4 65 0 0 (by omega) (by omega) rfl

theorem dX5_movingPixels_0 : decode cX5_movingPixels 0 = .ok (.iconst 0, 1) := by decide +kernel
theorem dX5_movingPixels_1 : decode cX5_movingPixels 1 = .ok (.istore_n 1, 1) := by decide +kernel
theorem dX5_movingPixels_2 : decode cX5_movingPixels 2 = .ok (.iload_n 1, 1) := by decide +kernel
theorem dX5_movingPixels_3 : decode cX5_movingPixels 3 = .ok (.bipush 32, 2) := by decide +kernel
theorem dX5_movingPixels_5 : decode cX5_movingPixels 5 = .ok (.if_icmp .ge 23, 3) := by decide +kernel
theorem dX5_movingPixels_8 : decode cX5_movingPixels 8 = .ok (.aload_n 0, 1) := by decide +kernel
theorem dX5_movingPixels_9 : decode cX5_movingPixels 9 = .ok (.getfield 34, 3) := by decide +kernel
theorem dX5_movingPixels_12 : decode cX5_movingPixels 12 = .ok (.iload_n 1, 1) := by decide +kernel
theorem dX5_movingPixels_13 : decode cX5_movingPixels 13 = .ok (.aload_n 0, 1) := by decide +kernel
theorem dX5_movingPixels_14 : decode cX5_movingPixels 14 = .ok (.getfield 12, 3) := by decide +kernel
theorem dX5_movingPixels_17 : decode cX5_movingPixels 17 = .ok (.iload_n 1, 1) := by decide +kernel
theorem dX5_movingPixels_18 : decode cX5_movingPixels 18 = .ok (.invokevirtual 277, 3) := by decide +kernel
theorem dX5_movingPixels_21 : decode cX5_movingPixels 21 = .ok (.bastore, 1) := by decide +kernel
theorem dX5_movingPixels_22 : decode cX5_movingPixels 22 = .ok (.iinc 1 1, 3) := by decide +kernel
theorem dX5_movingPixels_25 : decode cX5_movingPixels 25 = .ok (.goto (-23), 3) := by decide +kernel
theorem dX5_movingPixels_28 : decode cX5_movingPixels 28 = .ok (.aload_n 0, 1) := by decide +kernel
theorem dX5_movingPixels_29 : decode cX5_movingPixels 29 = .ok (.invokevirtual 247, 3) := by decide +kernel
theorem dX5_movingPixels_32 : decode cX5_movingPixels 32 = .ok (.ireturn, 1) := by decide +kernel
set_option maxHeartbeats 4000000 in
set_option maxRecDepth 100000 in
theorem c_X5_movingPixels (l : Launch) (E : gE) (g : Mem) (S : AS) (B : Nat) (hB : B < 90000000) (ho : OK S B) (sh mk wa : Nat → Int32) (h : CQ E g S sh mk wa) : Mt l E yX5_movingPixels cX5_movingPixels 2 (some .int) 3 65 [rf E (0)] g (pI (fun z g' => z = nI (mvC S.r) ∧ CP E g' S)) := by
  have hK := h.k
  have hv := ho.v
  have hrc : rc S.r ≤ 6 := hv.1.2
  have hgc : gc S.r ≤ 4 := hv.2.1.2
  have hc4 := ho.c4
  refine mt_go (own := RX5) (by decide) rfl (lo := [some (rf E (0)), none]) rfl (Nat.le_of_ble_eq_true rfl) (fun X hC => ?_)
  refine y_iconst (v := nI 0) hC dX5_movingPixels_0 (by decide) ?_
  refine y_istore_n hC dX5_movingPixels_1 (i := 1) rfl (Nat.le_of_ble_eq_true rfl) rfl (lo' := [some (rf E (0)), some (.int (nI (0)))]) rfl ?_
  have L_2 : ∀ (m : Nat) (i : Nat) (g1 : Mem) (mk1 : Nat → Int32), (hm : 32 - i < m) → (hi : i ≤ 32) → (hq : CQ E g1 S sh mk1 wa) → (hk : ∀ k, k < i → mk1 k = bI (mvs S.r k = true)) → Y l E X (pI (fun z g' => z = nI (mvC S.r) ∧ CP E g' S)) 2 [some (rf E (0)), some (.int (nI (i)))] [] g1 := by
    intro m
    induction m with
    | zero => intro i g1 mk1 hm hi hq hk; exact absurd hm (Nat.not_lt_zero _)
    | succ m ih_2 =>
      intro i g1 mk1 hm hi hq hk
      refine y_iload_n hC dX5_movingPixels_2 (i := 1) rfl rfl ?_
      refine y_bipush (v := nI 32) hC dX5_movingPixels_3 (by decide) ?_
      refine y_icmp_ge_n (tgt := 28) hC dX5_movingPixels_5 (by decide) (by omega) (by omega) (fun c_5 => ?_) (fun c_5 => ?_)
      · refine y_aload_n hC dX5_movingPixels_28 (i := 0) rfl rfl ?_
        refine y_callV hC mX5_markedPixels kX5_247 dX5_movingPixels_29 (b := 0) (As := []) (rest := []) (c_X5_markedPixels l E g1 S B hB ho sh mk1 wa hq (mvs S.r) (fun k hk2 => hk k (by omega))) (by omega) hq.a0 rfl rfl rfl (Nat.le_of_ble_eq_true rfl) ⟨Nat.le_of_ble_eq_true rfl, Nat.le_of_ble_eq_true rfl⟩ (pk_i ?_)
        rintro r_29 g_29 ⟨hr_29, hq_29⟩
        obtain rfl := hq_29.symm
        rw [hr_29]
        clear hr_29 r_29
        refine y_iret (hC := hC) (hd := dX5_movingPixels_32) (hq := ?_)
        exact ⟨rfl, hq.cp⟩
      · refine y_aload_n hC dX5_movingPixels_8 (i := 0) rfl rfl ?_
        refine y_get hC fX5_34 dX5_movingPixels_9 (k := 0) (by omega) hq.a0 rfl ?_
        refine y_iload_n hC dX5_movingPixels_12 (i := 1) rfl rfl ?_
        refine y_aload_n hC dX5_movingPixels_13 (i := 0) rfl rfl ?_
        refine y_get hC fX5_12 dX5_movingPixels_14 (k := 0) (by omega) hq.a0 rfl ?_
        refine y_iload_n hC dX5_movingPixels_17 (i := 1) rfl rfl ?_
        refine y_callV hC mX4_moves kX5_277 dX5_movingPixels_18 (b := 1) (As := [.int (nI (i))]) (rest := [.int (nI (i)), rf E (98)]) (c_X4_moves l E g1 1 S.r B (by omega) hq.sta hv i (by omega)) (by omega) hq.sta.f1 rfl rfl rfl (Nat.le_of_ble_eq_true rfl) ⟨Nat.le_of_ble_eq_true rfl, Nat.le_of_ble_eq_true rfl⟩ (pk_i ?_)
        rintro r_18 g_18 ⟨hr_18, hq_18⟩
        obtain rfl := hq_18.symm
        rw [hr_18]
        clear hr_18 r_18
        refine y_zast hC dX5_movingPixels_21 (k := 98) (j := i) (by omega) hq.a98 (rfl) (by omega) (by decide) (bI_vp _) ?_
        have hq_21 : CQ E (va_up g1 (98) (aI E 2 32 (upd mk1 (i) (bI (mvs S.r i = true))))) S sh (upd mk1 (i) (bI (mvs S.r i = true))) wa := hq.up98 _
        generalize (va_up g1 (98) (aI E 2 32 (upd mk1 (i) (bI (mvs S.r i = true))))) = g_21 at hq_21 ⊢
        refine y_iinc_n hC dX5_movingPixels_22 (a := i) (k := 1) rfl (by decide) (Nat.le_of_ble_eq_true rfl) rfl (lo' := [some (rf E (0)), some (.int (nI (i + 1)))]) rfl ?_
        refine y_goto (tgt := 2) hC dX5_movingPixels_25 (by decide) ?_
        exact ih_2 (i + 1) g_21 _ (by omega) (by omega) hq_21 (fun k hk2 => by
            by_cases e : k = i
            · rw [e, pk_us]
            · rw [pk_un e]; exact hk k (by omega))
  exact L_2 33 0 g mk (by omega) (by omega) h (fun k hk => absurd hk (Nat.not_lt_zero k))

theorem dX5_changes_0 : decode cX5_changes 0 = .ok (.iload_n 1, 1) := by decide +kernel
theorem dX5_changes_1 : decode cX5_changes 1 = .ok (.invokestatic 233, 3) := by decide +kernel
theorem dX5_changes_4 : decode cX5_changes 4 = .ok (.ifCond .ne 6, 3) := by decide +kernel
theorem dX5_changes_7 : decode cX5_changes 7 = .ok (.bipush (-2), 2) := by decide +kernel
theorem dX5_changes_9 : decode cX5_changes 9 = .ok (.ireturn, 1) := by decide +kernel
theorem dX5_changes_10 : decode cX5_changes 10 = .ok (.iconst 0, 1) := by decide +kernel
theorem dX5_changes_11 : decode cX5_changes 11 = .ok (.istore_n 2, 1) := by decide +kernel
theorem dX5_changes_12 : decode cX5_changes 12 = .ok (.iload_n 2, 1) := by decide +kernel
theorem dX5_changes_13 : decode cX5_changes 13 = .ok (.bipush 32, 2) := by decide +kernel
theorem dX5_changes_15 : decode cX5_changes 15 = .ok (.if_icmp .ge 41, 3) := by decide +kernel
theorem dX5_changes_18 : decode cX5_changes 18 = .ok (.aload_n 0, 1) := by decide +kernel
theorem dX5_changes_19 : decode cX5_changes 19 = .ok (.getfield 34, 3) := by decide +kernel
theorem dX5_changes_22 : decode cX5_changes 22 = .ok (.iload_n 2, 1) := by decide +kernel
theorem dX5_changes_23 : decode cX5_changes 23 = .ok (.aload_n 0, 1) := by decide +kernel
theorem dX5_changes_24 : decode cX5_changes 24 = .ok (.getfield 12, 3) := by decide +kernel
theorem dX5_changes_27 : decode cX5_changes 27 = .ok (.iload_n 2, 1) := by decide +kernel
theorem dX5_changes_28 : decode cX5_changes 28 = .ok (.iconst 0, 1) := by decide +kernel
theorem dX5_changes_29 : decode cX5_changes 29 = .ok (.invokevirtual 186, 3) := by decide +kernel
theorem dX5_changes_32 : decode cX5_changes 32 = .ok (.aload_n 0, 1) := by decide +kernel
theorem dX5_changes_33 : decode cX5_changes 33 = .ok (.getfield 12, 3) := by decide +kernel
theorem dX5_changes_36 : decode cX5_changes 36 = .ok (.iload_n 2, 1) := by decide +kernel
theorem dX5_changes_37 : decode cX5_changes 37 = .ok (.iload_n 1, 1) := by decide +kernel
theorem dX5_changes_38 : decode cX5_changes 38 = .ok (.invokevirtual 186, 3) := by decide +kernel
theorem dX5_changes_41 : decode cX5_changes 41 = .ok (.if_icmp .eq 7, 3) := by decide +kernel
theorem dX5_changes_44 : decode cX5_changes 44 = .ok (.iconst 1, 1) := by decide +kernel
theorem dX5_changes_45 : decode cX5_changes 45 = .ok (.goto 4, 3) := by decide +kernel
theorem dX5_changes_48 : decode cX5_changes 48 = .ok (.iconst 0, 1) := by decide +kernel
theorem dX5_changes_49 : decode cX5_changes 49 = .ok (.bastore, 1) := by decide +kernel
theorem dX5_changes_50 : decode cX5_changes 50 = .ok (.iinc 2 1, 3) := by decide +kernel
theorem dX5_changes_53 : decode cX5_changes 53 = .ok (.goto (-41), 3) := by decide +kernel
theorem dX5_changes_56 : decode cX5_changes 56 = .ok (.aload_n 0, 1) := by decide +kernel
theorem dX5_changes_57 : decode cX5_changes 57 = .ok (.invokevirtual 247, 3) := by decide +kernel
theorem dX5_changes_60 : decode cX5_changes 60 = .ok (.ireturn, 1) := by decide +kernel
set_option maxHeartbeats 4000000 in
set_option maxRecDepth 100000 in
theorem c_X5_changes (l : Launch) (E : gE) (g : Mem) (S : AS) (B : Nat) (hB : B < 90000000) (ho : OK S B) (sh mk wa : Nat → Int32) (h : CQ E g S sh mk wa) (xa : Int32) : Mt l E yX5_changes cX5_changes 3 (some .int) 4 96 [rf E (0), .int (xa)] g (pI (fun zz g' => zz = qChanges S xa ∧ CP E g' S)) := by
  have hK := h.k
  have hv := ho.v
  have hrc : rc S.r ≤ 6 := hv.1.2
  have hgc : gc S.r ≤ 4 := hv.2.1.2
  have hc4 := ho.c4
  refine mt_go (own := RX5) (by decide) rfl (lo := [some (rf E (0)), some (.int (xa)), none]) rfl (Nat.le_of_ble_eq_true rfl) (fun X hC => ?_)
  obtain ⟨co, pi, π, ρ, V, U, hX, e1, e2, e3, e4⟩ := zStF (r := S.r) (B := B) h.sta hv
  refine y_iload_n hC dX5_changes_0 (i := 1) rfl rfl ?_
  refine y_callS hC mX5_isLater kX5_233 dX5_changes_1 (As := [.int (xa)]) (rest := []) (c_X5_isLater l E g ((xa))) rfl rfl rfl (Nat.le_of_ble_eq_true rfl) ⟨Nat.le_of_ble_eq_true rfl, Nat.le_of_ble_eq_true rfl⟩ (pk_i ?_)
  rintro r_1 g_1 ⟨hr_1, hq_1⟩
  obtain rfl := hq_1.symm
  rw [hr_1]
  clear hr_1 r_1
  refine y_if_ne_b (tgt := 10) hC dX5_changes_4 (by decide) (fun c_4 => ?_) (fun c_4 => ?_)
  · obtain ⟨t, ht, htx⟩ := zN (m := 1000) c_4
    subst htx
    refine y_iconst (v := nI 0) hC dX5_changes_10 (by decide) ?_
    refine y_istore_n hC dX5_changes_11 (i := 2) rfl (Nat.le_of_ble_eq_true rfl) rfl (lo' := [some (rf E (0)), some (.int (nI (t))), some (.int (nI (0)))]) rfl ?_
    have L_12 : ∀ (m : Nat) (i : Nat) (g1 : Mem) (mk1 : Nat → Int32), (hm : 32 - i < m) → (hi : i ≤ 32) → (hq : CQ E g1 S sh mk1 wa) → (hk : ∀ k, k < i → mk1 k = bI (decide (¬ shd S.r k 0 = shd S.r k t) = true)) → Y l E X (pI (fun zz g' => zz = qChanges S (nI t) ∧ CP E g' S)) 12 [some (rf E (0)), some (.int (nI (t))), some (.int (nI (i)))] [] g1 := by
      intro m
      induction m with
      | zero => intro i g1 mk1 hm hi hq hk; exact absurd hm (Nat.not_lt_zero _)
      | succ m ih_12 =>
        intro i g1 mk1 hm hi hq hk
        refine y_iload_n hC dX5_changes_12 (i := 2) rfl rfl ?_
        refine y_bipush (v := nI 32) hC dX5_changes_13 (by decide) ?_
        refine y_icmp_ge_n (tgt := 56) hC dX5_changes_15 (by decide) (by omega) (by omega) (fun c_15 => ?_) (fun c_15 => ?_)
        · refine y_aload_n hC dX5_changes_56 (i := 0) rfl rfl ?_
          refine y_callV hC mX5_markedPixels kX5_247 dX5_changes_57 (b := 0) (As := []) (rest := []) (c_X5_markedPixels l E g1 S B hB ho sh mk1 wa hq (fun k => decide (¬ shd S.r k 0 = shd S.r k t)) (fun k hk2 => hk k (by omega))) (by omega) hq.a0 rfl rfl rfl (Nat.le_of_ble_eq_true rfl) ⟨Nat.le_of_ble_eq_true rfl, Nat.le_of_ble_eq_true rfl⟩ (pk_i ?_)
          rintro r_57 g_57 ⟨hr_57, hq_57⟩
          obtain rfl := hq_57.symm
          rw [hr_57]
          clear hr_57 r_57
          refine y_iret (hC := hC) (hd := dX5_changes_60) (hq := ?_)
          have hqq : qChanges S (nI t) = nI (chC S.r t) := by simp only [qChanges, nn_I (show t < 2147483648 by omega), if_pos c_4]
          rw [hqq]
          exact ⟨rfl, hq.cp⟩
        · refine y_aload_n hC dX5_changes_18 (i := 0) rfl rfl ?_
          refine y_get hC fX5_34 dX5_changes_19 (k := 0) (by omega) hq.a0 rfl ?_
          refine y_iload_n hC dX5_changes_22 (i := 2) rfl rfl ?_
          refine y_aload_n hC dX5_changes_23 (i := 0) rfl rfl ?_
          refine y_get hC fX5_12 dX5_changes_24 (k := 0) (by omega) hq.a0 rfl ?_
          refine y_iload_n hC dX5_changes_27 (i := 2) rfl rfl ?_
          refine y_iconst (v := nI 0) hC dX5_changes_28 (by decide) ?_
          refine y_callV hC mX4_shade kX5_186 dX5_changes_29 (b := 1) (As := [.int (nI (i)), .int (nI (0))]) (rest := [.int (nI (i)), rf E (98)]) (c_X4_shade l E g1 1 S.r B (by omega) hq.sta hv i 0 (by omega) (by omega)) (by omega) hq.sta.f1 rfl rfl rfl (Nat.le_of_ble_eq_true rfl) ⟨Nat.le_of_ble_eq_true rfl, Nat.le_of_ble_eq_true rfl⟩ (pk_i ?_)
          rintro r_29 g_29 ⟨hr_29, hq_29⟩
          obtain rfl := hq_29.symm
          rw [hr_29]
          clear hr_29 r_29
          refine y_aload_n hC dX5_changes_32 (i := 0) rfl rfl ?_
          refine y_get hC fX5_12 dX5_changes_33 (k := 0) (by omega) hq.a0 rfl ?_
          refine y_iload_n hC dX5_changes_36 (i := 2) rfl rfl ?_
          refine y_iload_n hC dX5_changes_37 (i := 1) rfl rfl ?_
          refine y_callV hC mX4_shade kX5_186 dX5_changes_38 (b := 1) (As := [.int (nI (i)), .int (nI (t))]) (rest := [.int (shd S.r i 0), .int (nI (i)), rf E (98)]) (c_X4_shade l E g1 1 S.r B (by omega) hq.sta hv i t (by omega) (by omega)) (by omega) hq.sta.f1 rfl rfl rfl (Nat.le_of_ble_eq_true rfl) ⟨Nat.le_of_ble_eq_true rfl, Nat.le_of_ble_eq_true rfl⟩ (pk_i ?_)
          rintro r_38 g_38 ⟨hr_38, hq_38⟩
          obtain rfl := hq_38.symm
          rw [hr_38]
          clear hr_38 r_38
          refine y_icmp_eq (tgt := 48) hC dX5_changes_41 (by decide) (fun c_41 => ?_) (fun c_41 => ?_)
          · refine y_iconst (v := nI 0) hC dX5_changes_48 (by decide) ?_
            refine y_zast hC dX5_changes_49 (k := 98) (j := i) (by omega) hq.a98 (rfl) (by omega) (by decide) (by decide) ?_
            have hq_49 : CQ E (va_up g1 (98) (aI E 2 32 (upd mk1 (i) (nI (0))))) S sh (upd mk1 (i) (nI (0))) wa := hq.up98 _
            generalize (va_up g1 (98) (aI E 2 32 (upd mk1 (i) (nI (0))))) = g_49 at hq_49 ⊢
            refine y_iinc_n hC dX5_changes_50 (a := i) (k := 1) rfl (by decide) (Nat.le_of_ble_eq_true rfl) rfl (lo' := [some (rf E (0)), some (.int (nI (t))), some (.int (nI (i + 1)))]) rfl ?_
            refine y_goto (tgt := 12) hC dX5_changes_53 (by decide) ?_
            exact ih_12 (i + 1) g_49 _ (by omega) (by omega) hq_49 (fun k hk2 => by
                by_cases e : k = i
                · subst e; rw [pk_us]; first | exact (bI_t (decide_eq_true c_41)).symm | exact (bI_f (by rw [decide_eq_true_eq]; exact fun q => q c_41)).symm
                · rw [pk_un e]; exact hk k (by omega))
          · refine y_iconst (v := nI 1) hC dX5_changes_44 (by decide) ?_
            refine y_goto (tgt := 49) hC dX5_changes_45 (by decide) ?_
            refine y_zast hC dX5_changes_49 (k := 98) (j := i) (by omega) hq.a98 (rfl) (by omega) (by decide) (by decide) ?_
            have hq_49 : CQ E (va_up g1 (98) (aI E 2 32 (upd mk1 (i) (nI (1))))) S sh (upd mk1 (i) (nI (1))) wa := hq.up98 _
            generalize (va_up g1 (98) (aI E 2 32 (upd mk1 (i) (nI (1))))) = g_49 at hq_49 ⊢
            refine y_iinc_n hC dX5_changes_50 (a := i) (k := 1) rfl (by decide) (Nat.le_of_ble_eq_true rfl) rfl (lo' := [some (rf E (0)), some (.int (nI (t))), some (.int (nI (i + 1)))]) rfl ?_
            refine y_goto (tgt := 12) hC dX5_changes_53 (by decide) ?_
            exact ih_12 (i + 1) g_49 _ (by omega) (by omega) hq_49 (fun k hk2 => by
                by_cases e : k = i
                · subst e; rw [pk_us]; first | exact (bI_t (decide_eq_true c_41)).symm | exact (bI_f (by rw [decide_eq_true_eq]; exact fun q => q c_41)).symm
                · rw [pk_un e]; exact hk k (by omega))
    exact L_12 33 0 g mk (by omega) (by omega) h (fun k hk => absurd hk (Nat.not_lt_zero k))
  · refine y_bipush (v := (-2)) hC dX5_changes_7 (by decide) ?_
    refine y_iret (hC := hC) (hd := dX5_changes_9) (hq := ?_)
    have hqq : qChanges S xa = -2 := by simp only [qChanges, if_neg c_4]
    rw [hqq]
    exact ⟨rfl, h.cp⟩

theorem dX5_isMarkedBefore_0 : decode cX5_isMarkedBefore 0 = .ok (.iconst 0, 1) := by decide +kernel
theorem dX5_isMarkedBefore_1 : decode cX5_isMarkedBefore 1 = .ok (.istore_n 2, 1) := by decide +kernel
theorem dX5_isMarkedBefore_2 : decode cX5_isMarkedBefore 2 = .ok (.iload_n 2, 1) := by decide +kernel
theorem dX5_isMarkedBefore_3 : decode cX5_isMarkedBefore 3 = .ok (.iload_n 1, 1) := by decide +kernel
theorem dX5_isMarkedBefore_4 : decode cX5_isMarkedBefore 4 = .ok (.if_icmp .ge 35, 3) := by decide +kernel
theorem dX5_isMarkedBefore_7 : decode cX5_isMarkedBefore 7 = .ok (.aload_n 0, 1) := by decide +kernel
theorem dX5_isMarkedBefore_8 : decode cX5_isMarkedBefore 8 = .ok (.getfield 34, 3) := by decide +kernel
theorem dX5_isMarkedBefore_11 : decode cX5_isMarkedBefore 11 = .ok (.iload_n 2, 1) := by decide +kernel
theorem dX5_isMarkedBefore_12 : decode cX5_isMarkedBefore 12 = .ok (.baload, 1) := by decide +kernel
theorem dX5_isMarkedBefore_13 : decode cX5_isMarkedBefore 13 = .ok (.ifCond .eq 20, 3) := by decide +kernel
theorem dX5_isMarkedBefore_16 : decode cX5_isMarkedBefore 16 = .ok (.aload_n 0, 1) := by decide +kernel
theorem dX5_isMarkedBefore_17 : decode cX5_isMarkedBefore 17 = .ok (.getfield 30, 3) := by decide +kernel
theorem dX5_isMarkedBefore_20 : decode cX5_isMarkedBefore 20 = .ok (.iload_n 2, 1) := by decide +kernel
theorem dX5_isMarkedBefore_21 : decode cX5_isMarkedBefore 21 = .ok (.iaload, 1) := by decide +kernel
theorem dX5_isMarkedBefore_22 : decode cX5_isMarkedBefore 22 = .ok (.aload_n 0, 1) := by decide +kernel
theorem dX5_isMarkedBefore_23 : decode cX5_isMarkedBefore 23 = .ok (.getfield 30, 3) := by decide +kernel
theorem dX5_isMarkedBefore_26 : decode cX5_isMarkedBefore 26 = .ok (.iload_n 1, 1) := by decide +kernel
theorem dX5_isMarkedBefore_27 : decode cX5_isMarkedBefore 27 = .ok (.iaload, 1) := by decide +kernel
theorem dX5_isMarkedBefore_28 : decode cX5_isMarkedBefore 28 = .ok (.if_icmp .ne 5, 3) := by decide +kernel
theorem dX5_isMarkedBefore_31 : decode cX5_isMarkedBefore 31 = .ok (.iconst 1, 1) := by decide +kernel
theorem dX5_isMarkedBefore_32 : decode cX5_isMarkedBefore 32 = .ok (.ireturn, 1) := by decide +kernel
theorem dX5_isMarkedBefore_33 : decode cX5_isMarkedBefore 33 = .ok (.iinc 2 1, 3) := by decide +kernel
theorem dX5_isMarkedBefore_36 : decode cX5_isMarkedBefore 36 = .ok (.goto (-34), 3) := by decide +kernel
theorem dX5_isMarkedBefore_39 : decode cX5_isMarkedBefore 39 = .ok (.iconst 0, 1) := by decide +kernel
theorem dX5_isMarkedBefore_40 : decode cX5_isMarkedBefore 40 = .ok (.ireturn, 1) := by decide +kernel
set_option maxHeartbeats 4000000 in
set_option maxRecDepth 100000 in
theorem c_X5_isMarkedBefore (l : Launch) (E : gE) (g : Mem) (S : AS) (B : Nat) (hB : B < 90000000) (ho : OK S B) (sh mk wa : Nat → Int32) (h : CQ E g S sh mk wa) (M : Nat → Bool) (hM : ∀ k, k < 32 → mk k = bI (M k = true)) (p : Nat) (hp : p < 32) : Mt l E yX5_isMarkedBefore cX5_isMarkedBefore 3 (some .boolean) 0 0 [rf E (0), .int (nI (p))] g (pI (fun z g' => z = bI (mbB M sh p p = true) ∧ g' = g)) := by
  have hK := h.k
  have hv := ho.v
  have hrc : rc S.r ≤ 6 := hv.1.2
  have hgc : gc S.r ≤ 4 := hv.2.1.2
  have hc4 := ho.c4
  refine mt_go (own := RX5) (by decide) rfl (lo := [some (rf E (0)), some (.int (nI (p))), none]) rfl (Nat.le_of_ble_eq_true rfl) (fun X hC => ?_)
  refine y_iconst (v := nI 0) hC dX5_isMarkedBefore_0 (by decide) ?_
  refine y_istore_n hC dX5_isMarkedBefore_1 (i := 2) rfl (Nat.le_of_ble_eq_true rfl) rfl (lo' := [some (rf E (0)), some (.int (nI (p))), some (.int (nI (0)))]) rfl ?_
  have L_2 : ∀ (m : Nat) (i : Nat), (hm : p - i < m) → (hi : i ≤ p) → (hk : ∀ e, e < i → ¬ (M e = true ∧ sh e = sh p)) → Y l E X (pI (fun z g' => z = bI (mbB M sh p p = true) ∧ g' = g)) 2 [some (rf E (0)), some (.int (nI (p))), some (.int (nI (i)))] [] g := by
    intro m
    induction m with
    | zero => intro i hm hi hk; exact absurd hm (Nat.not_lt_zero _)
    | succ m ih_2 =>
      intro i hm hi hk
      refine y_iload_n hC dX5_isMarkedBefore_2 (i := 2) rfl rfl ?_
      refine y_iload_n hC dX5_isMarkedBefore_3 (i := 1) rfl rfl ?_
      refine y_icmp_ge_n (tgt := 39) hC dX5_isMarkedBefore_4 (by decide) (by omega) (by omega) (fun c_4 => ?_) (fun c_4 => ?_)
      · refine y_iconst (v := nI 0) hC dX5_isMarkedBefore_39 (by decide) ?_
        refine y_zret (hrt := rfl) (hn := rfl) (hC := hC) (hd := dX5_isMarkedBefore_40) (hq := ?_)
        exact ⟨(bI_f (fun q => by obtain ⟨e, h1, h2⟩ := mbB_iff.mp q; exact hk e (by omega) h2)).symm, rfl⟩
      · refine y_aload_n hC dX5_isMarkedBefore_7 (i := 0) rfl rfl ?_
        refine y_get hC fX5_34 dX5_isMarkedBefore_8 (k := 0) (by omega) h.a0 rfl ?_
        refine y_iload_n hC dX5_isMarkedBefore_11 (i := 2) rfl rfl ?_
        refine y_zald hC dX5_isMarkedBefore_12 (k := 98) (j := i) (by omega) h.a98 (rfl) (by omega) (by decide) ?_
        refine y_top (y := bI (M (i) = true)) (hM (i) (by omega)) ?_
        refine y_if_eq_b (tgt := 33) hC dX5_isMarkedBefore_13 (by decide) (fun c_13 => ?_) (fun c_13 => ?_)
        · refine y_iinc_n hC dX5_isMarkedBefore_33 (a := i) (k := 1) rfl (by decide) (Nat.le_of_ble_eq_true rfl) rfl (lo' := [some (rf E (0)), some (.int (nI (p))), some (.int (nI (i + 1)))]) rfl ?_
          refine y_goto (tgt := 2) hC dX5_isMarkedBefore_36 (by decide) ?_
          exact ih_2 (i + 1) (by omega) (by omega) (fun k hk2 q => by
              by_cases e : k = i
              · subst e; first | exact c_13 q.1 | exact c_28 q.2
              · exact hk k (by omega) q)
        · refine y_aload_n hC dX5_isMarkedBefore_16 (i := 0) rfl rfl ?_
          refine y_get hC fX5_30 dX5_isMarkedBefore_17 (k := 0) (by omega) h.a0 rfl ?_
          refine y_iload_n hC dX5_isMarkedBefore_20 (i := 2) rfl rfl ?_
          refine y_iald hC dX5_isMarkedBefore_21 (k := 97) (j := i) (by omega) h.a97 (rfl) (by omega) (by decide) ?_
          refine y_aload_n hC dX5_isMarkedBefore_22 (i := 0) rfl rfl ?_
          refine y_get hC fX5_30 dX5_isMarkedBefore_23 (k := 0) (by omega) h.a0 rfl ?_
          refine y_iload_n hC dX5_isMarkedBefore_26 (i := 1) rfl rfl ?_
          refine y_iald hC dX5_isMarkedBefore_27 (k := 97) (j := p) (by omega) h.a97 (rfl) (by omega) (by decide) ?_
          refine y_icmp_ne (tgt := 33) hC dX5_isMarkedBefore_28 (by decide) (fun c_28 => ?_) (fun c_28 => ?_)
          · refine y_iinc_n hC dX5_isMarkedBefore_33 (a := i) (k := 1) rfl (by decide) (Nat.le_of_ble_eq_true rfl) rfl (lo' := [some (rf E (0)), some (.int (nI (p))), some (.int (nI (i + 1)))]) rfl ?_
            refine y_goto (tgt := 2) hC dX5_isMarkedBefore_36 (by decide) ?_
            exact ih_2 (i + 1) (by omega) (by omega) (fun k hk2 q => by
                by_cases e : k = i
                · subst e; first | exact c_13 q.1 | exact c_28 q.2
                · exact hk k (by omega) q)
          · refine y_iconst (v := nI 1) hC dX5_isMarkedBefore_31 (by decide) ?_
            refine y_zret (hrt := rfl) (hn := rfl) (hC := hC) (hd := dX5_isMarkedBefore_32) (hq := ?_)
            exact ⟨(bI_t (mbB_iff.mpr ⟨i, by omega, c_13, c_28⟩)).symm, rfl⟩
  exact L_2 (p + 1) 0 (by omega) (by omega) (fun k hk => absurd hk (Nat.not_lt_zero k))

theorem mbB_cg {M : Nat → Bool} {sh sh2 : Nat → Int32} {p : Nat} (hp : sh p = sh2 p) : ∀ {n : Nat}, (∀ k, k < n → sh k = sh2 k) → mbB M sh p n = mbB M sh2 p n
  | 0, _ => rfl
  | n + 1, h => by rw [mbB, mbB, mbB_cg hp (fun k hk => h k (by omega)), h n (by omega), hp]
theorem dX5_differentColours_0 : decode cX5_differentColours 0 = .ok (.aload_n 0, 1) := by decide +kernel
theorem dX5_differentColours_1 : decode cX5_differentColours 1 = .ok (.invokevirtual 67, 3) := by decide +kernel
theorem dX5_differentColours_4 : decode cX5_differentColours 4 = .ok (.aload_n 0, 1) := by decide +kernel
theorem dX5_differentColours_5 : decode cX5_differentColours 5 = .ok (.invokevirtual 274, 3) := by decide +kernel
theorem dX5_differentColours_8 : decode cX5_differentColours 8 = .ok (.iconst 0, 1) := by decide +kernel
theorem dX5_differentColours_9 : decode cX5_differentColours 9 = .ok (.istore_n 1, 1) := by decide +kernel
theorem dX5_differentColours_10 : decode cX5_differentColours 10 = .ok (.iconst 0, 1) := by decide +kernel
theorem dX5_differentColours_11 : decode cX5_differentColours 11 = .ok (.istore_n 2, 1) := by decide +kernel
theorem dX5_differentColours_12 : decode cX5_differentColours 12 = .ok (.iload_n 2, 1) := by decide +kernel
theorem dX5_differentColours_13 : decode cX5_differentColours 13 = .ok (.bipush 32, 2) := by decide +kernel
theorem dX5_differentColours_15 : decode cX5_differentColours 15 = .ok (.if_icmp .ge 29, 3) := by decide +kernel
theorem dX5_differentColours_18 : decode cX5_differentColours 18 = .ok (.aload_n 0, 1) := by decide +kernel
theorem dX5_differentColours_19 : decode cX5_differentColours 19 = .ok (.getfield 34, 3) := by decide +kernel
theorem dX5_differentColours_22 : decode cX5_differentColours 22 = .ok (.iload_n 2, 1) := by decide +kernel
theorem dX5_differentColours_23 : decode cX5_differentColours 23 = .ok (.baload, 1) := by decide +kernel
theorem dX5_differentColours_24 : decode cX5_differentColours 24 = .ok (.ifCond .eq 14, 3) := by decide +kernel
theorem dX5_differentColours_27 : decode cX5_differentColours 27 = .ok (.aload_n 0, 1) := by decide +kernel
theorem dX5_differentColours_28 : decode cX5_differentColours 28 = .ok (.iload_n 2, 1) := by decide +kernel
theorem dX5_differentColours_29 : decode cX5_differentColours 29 = .ok (.invokevirtual 280, 3) := by decide +kernel
theorem dX5_differentColours_32 : decode cX5_differentColours 32 = .ok (.ifCond .ne 6, 3) := by decide +kernel
theorem dX5_differentColours_35 : decode cX5_differentColours 35 = .ok (.iinc 1 1, 3) := by decide +kernel
theorem dX5_differentColours_38 : decode cX5_differentColours 38 = .ok (.iinc 2 1, 3) := by decide +kernel
theorem dX5_differentColours_41 : decode cX5_differentColours 41 = .ok (.goto (-29), 3) := by decide +kernel
theorem dX5_differentColours_44 : decode cX5_differentColours 44 = .ok (.iload_n 1, 1) := by decide +kernel
theorem dX5_differentColours_45 : decode cX5_differentColours 45 = .ok (.ireturn, 1) := by decide +kernel
set_option maxHeartbeats 4000000 in
set_option maxRecDepth 100000 in
theorem c_X5_differentColours (l : Launch) (E : gE) (g : Mem) (S : AS) (B : Nat) (hB : B < 90000000) (ho : OK S B) (sh mk wa : Nat → Int32) (h : CQ E g S sh mk wa) : Mt l E yX5_differentColours cX5_differentColours 3 (some .int) 5 117 [rf E (0)] g (pI (fun z g' => z = nI (dcK S.r) ∧ CP E g' S)) := by
  have hK := h.k
  have hv := ho.v
  have hrc : rc S.r ≤ 6 := hv.1.2
  have hgc : gc S.r ≤ 4 := hv.2.1.2
  have hc4 := ho.c4
  refine mt_go (own := RX5) (by decide) rfl (lo := [some (rf E (0)), none, none]) rfl (Nat.le_of_ble_eq_true rfl) (fun X hC => ?_)
  refine y_aload_n hC dX5_differentColours_0 (i := 0) rfl rfl ?_
  refine y_callV hC mX5_findShades kX5_67 dX5_differentColours_1 (b := 0) (As := []) (rest := []) (c_X5_findShades l E g S B hB ho sh mk wa h) (by omega) h.a0 rfl rfl rfl (Nat.le_of_ble_eq_true rfl) ⟨Nat.le_of_ble_eq_true rfl, Nat.le_of_ble_eq_true rfl⟩ (pk_v ?_)
  rintro g_1 ⟨sh2, hs2, hq_1⟩
  refine y_aload_n hC dX5_differentColours_4 (i := 0) rfl rfl ?_
  refine y_callV hC mX5_markPlacesOfPicture kX5_274 dX5_differentColours_5 (b := 0) (As := []) (rest := []) (c_X5_markPlacesOfPicture l E g_1 S B hB ho sh2 mk wa hq_1) (by omega) hq_1.a0 rfl rfl rfl (Nat.le_of_ble_eq_true rfl) ⟨Nat.le_of_ble_eq_true rfl, Nat.le_of_ble_eq_true rfl⟩ (pk_v ?_)
  rintro g_5 ⟨mk2, hm2, hq_5⟩
  refine y_iconst (v := nI 0) hC dX5_differentColours_8 (by decide) ?_
  refine y_istore_n hC dX5_differentColours_9 (i := 1) rfl (Nat.le_of_ble_eq_true rfl) rfl (lo' := [some (rf E (0)), some (.int (nI (0))), none]) rfl ?_
  refine y_iconst (v := nI 0) hC dX5_differentColours_10 (by decide) ?_
  refine y_istore_n hC dX5_differentColours_11 (i := 2) rfl (Nat.le_of_ble_eq_true rfl) rfl (lo' := [some (rf E (0)), some (.int (nI (0))), some (.int (nI (0)))]) rfl ?_
  have L_12 : ∀ (m : Nat) (i c : Nat), (hm : 32 - i < m) → (hi : i ≤ 32) → (hc : c = cn i (fun p => inU S.r 64 p && !mbB (inU S.r 64) (shS S.r) p p)) → Y l E X (pI (fun z g' => z = nI (dcK S.r) ∧ CP E g' S)) 12 [some (rf E (0)), some (.int (nI (c))), some (.int (nI (i)))] [] g_5 := by
    intro m
    induction m with
    | zero => intro i c hm hi hc; exact absurd hm (Nat.not_lt_zero _)
    | succ m ih_12 =>
      intro i c hm hi hc
      refine y_iload_n hC dX5_differentColours_12 (i := 2) rfl rfl ?_
      refine y_bipush (v := nI 32) hC dX5_differentColours_13 (by decide) ?_
      refine y_icmp_ge_n (tgt := 44) hC dX5_differentColours_15 (by decide) (by omega) (by omega) (fun c_15 => ?_) (fun c_15 => ?_)
      · refine y_iload_n hC dX5_differentColours_44 (i := 1) rfl rfl ?_
        refine y_iret (hC := hC) (hd := dX5_differentColours_45) (hq := ?_)
        exact ⟨congrArg nI (by rw [hc, show i = 32 by omega]; rfl), hq_5.cp⟩
      · have hcl := cn_le i (fun p => inU S.r 64 p && !mbB (inU S.r 64) (shS S.r) p p)
        have hmb : mbB (inU S.r 64) sh2 i i = mbB (inU S.r 64) (shS S.r) i i := mbB_cg (hs2 i (by omega)) (fun k hk => hs2 k (by omega))
        refine y_aload_n hC dX5_differentColours_18 (i := 0) rfl rfl ?_
        refine y_get hC fX5_34 dX5_differentColours_19 (k := 0) (by omega) hq_5.a0 rfl ?_
        refine y_iload_n hC dX5_differentColours_22 (i := 2) rfl rfl ?_
        refine y_zald hC dX5_differentColours_23 (k := 98) (j := i) (by omega) hq_5.a98 (rfl) (by omega) (by decide) ?_
        refine y_top (y := bI (inU S.r 64 (i) = true)) (hm2 (i) (by omega)) ?_
        refine y_if_eq_b (tgt := 38) hC dX5_differentColours_24 (by decide) (fun c_24 => ?_) (fun c_24 => ?_)
        · refine y_iinc_n hC dX5_differentColours_38 (a := i) (k := 1) rfl (by decide) (Nat.le_of_ble_eq_true rfl) rfl (lo' := [some (rf E (0)), some (.int (nI (c))), some (.int (nI (i + 1)))]) rfl ?_
          refine y_goto (tgt := 12) hC dX5_differentColours_41 (by decide) ?_
          exact ih_12 (i + 1) _ (by omega) (by omega) (by rw [cn_s, ← hc]; first | (rw [if_pos (by rw [hmb] at c_32; simp [c_24, c_32])]; done) | (rw [if_neg (by rw [hmb] at c_32; simp [c_24, c_32])]; rfl) | (rw [if_neg (by simp [c_24])]; rfl))
        · refine y_aload_n hC dX5_differentColours_27 (i := 0) rfl rfl ?_
          refine y_iload_n hC dX5_differentColours_28 (i := 2) rfl rfl ?_
          refine y_callV hC mX5_isMarkedBefore kX5_280 dX5_differentColours_29 (b := 0) (As := [.int (nI (i))]) (rest := []) (c_X5_isMarkedBefore l E g_5 S B hB ho sh2 mk2 wa hq_5 (inU S.r 64) hm2 i (by omega)) (by omega) hq_5.a0 rfl rfl rfl (Nat.le_of_ble_eq_true rfl) ⟨Nat.le_of_ble_eq_true rfl, Nat.le_of_ble_eq_true rfl⟩ (pk_i ?_)
          rintro r_29 g_29 ⟨hr_29, hq_29⟩
          obtain rfl := hq_29.symm
          rw [hr_29]
          clear hr_29 r_29
          refine y_if_ne_b (tgt := 38) hC dX5_differentColours_32 (by decide) (fun c_32 => ?_) (fun c_32 => ?_)
          · refine y_iinc_n hC dX5_differentColours_38 (a := i) (k := 1) rfl (by decide) (Nat.le_of_ble_eq_true rfl) rfl (lo' := [some (rf E (0)), some (.int (nI (c))), some (.int (nI (i + 1)))]) rfl ?_
            refine y_goto (tgt := 12) hC dX5_differentColours_41 (by decide) ?_
            exact ih_12 (i + 1) _ (by omega) (by omega) (by rw [cn_s, ← hc]; first | (rw [if_pos (by rw [hmb] at c_32; simp [c_24, c_32])]; done) | (rw [if_neg (by rw [hmb] at c_32; simp [c_24, c_32])]; rfl) | (rw [if_neg (by simp [c_24])]; rfl))
          · refine y_iinc_n hC dX5_differentColours_35 (a := c) (k := 1) rfl (by decide) (Nat.le_of_ble_eq_true rfl) rfl (lo' := [some (rf E (0)), some (.int (nI (c + 1))), some (.int (nI (i)))]) rfl ?_
            refine y_iinc_n hC dX5_differentColours_38 (a := i) (k := 1) rfl (by decide) (Nat.le_of_ble_eq_true rfl) rfl (lo' := [some (rf E (0)), some (.int (nI (c + 1))), some (.int (nI (i + 1)))]) rfl ?_
            refine y_goto (tgt := 12) hC dX5_differentColours_41 (by decide) ?_
            exact ih_12 (i + 1) _ (by omega) (by omega) (by rw [cn_s, ← hc]; first | (rw [if_pos (by rw [hmb] at c_32; simp [c_24, c_32])]; done) | (rw [if_neg (by rw [hmb] at c_32; simp [c_24, c_32])]; rfl) | (rw [if_neg (by simp [c_24])]; rfl))
  exact L_12 33 0 0 (by omega) (by omega) rfl

theorem dX5_pixelDistance_0 : decode cX5_pixelDistance 0 = .ok (.aload_n 0, 1) := by decide +kernel
theorem dX5_pixelDistance_1 : decode cX5_pixelDistance 1 = .ok (.getfield 30, 3) := by decide +kernel
theorem dX5_pixelDistance_4 : decode cX5_pixelDistance 4 = .ok (.aload_n 0, 1) := by decide +kernel
theorem dX5_pixelDistance_5 : decode cX5_pixelDistance 5 = .ok (.getfield 12, 3) := by decide +kernel
theorem dX5_pixelDistance_8 : decode cX5_pixelDistance 8 = .ok (.getfield 166, 3) := by decide +kernel
theorem dX5_pixelDistance_11 : decode cX5_pixelDistance 11 = .ok (.iload_n 1, 1) := by decide +kernel
theorem dX5_pixelDistance_12 : decode cX5_pixelDistance 12 = .ok (.iaload, 1) := by decide +kernel
theorem dX5_pixelDistance_13 : decode cX5_pixelDistance 13 = .ok (.iaload, 1) := by decide +kernel
theorem dX5_pixelDistance_14 : decode cX5_pixelDistance 14 = .ok (.aload_n 0, 1) := by decide +kernel
theorem dX5_pixelDistance_15 : decode cX5_pixelDistance 15 = .ok (.getfield 30, 3) := by decide +kernel
theorem dX5_pixelDistance_18 : decode cX5_pixelDistance 18 = .ok (.aload_n 0, 1) := by decide +kernel
theorem dX5_pixelDistance_19 : decode cX5_pixelDistance 19 = .ok (.getfield 12, 3) := by decide +kernel
theorem dX5_pixelDistance_22 : decode cX5_pixelDistance 22 = .ok (.getfield 166, 3) := by decide +kernel
theorem dX5_pixelDistance_25 : decode cX5_pixelDistance 25 = .ok (.iload_n 2, 1) := by decide +kernel
theorem dX5_pixelDistance_26 : decode cX5_pixelDistance 26 = .ok (.iaload, 1) := by decide +kernel
theorem dX5_pixelDistance_27 : decode cX5_pixelDistance 27 = .ok (.iaload, 1) := by decide +kernel
theorem dX5_pixelDistance_28 : decode cX5_pixelDistance 28 = .ok (.invokestatic 244, 3) := by decide +kernel
theorem dX5_pixelDistance_31 : decode cX5_pixelDistance 31 = .ok (.ireturn, 1) := by decide +kernel
set_option maxHeartbeats 4000000 in
set_option maxRecDepth 100000 in
theorem c_X5_pixelDistance (l : Launch) (E : gE) (g : Mem) (S : AS) (B : Nat) (hB : B < 90000000) (ho : OK S B) (sh mk wa : Nat → Int32) (h : CQ E g S sh mk wa) (a b : Nat) (ha : a < 64) (hb : b < 64) : Mt l E yX5_pixelDistance cX5_pixelDistance 3 (some .int) 2 45 [rf E (0), .int (nI (a)), .int (nI (b))] g (pI (fun z g' => z = cDist (sh (px S.r a)) (sh (px S.r b)) ∧ g' = g)) := by
  have hK := h.k
  have hv := ho.v
  have hrc : rc S.r ≤ 6 := hv.1.2
  have hgc : gc S.r ≤ 4 := hv.2.1.2
  have hc4 := ho.c4
  refine mt_go (own := RX5) (by decide) rfl (lo := [some (rf E (0)), some (.int (nI (a))), some (.int (nI (b)))]) rfl (Nat.le_of_ble_eq_true rfl) (fun X hC => ?_)
  obtain ⟨co, pi, π, ρ, V, U, hX, e1, e2, e3, e4⟩ := zStF (r := S.r) (B := B) h.sta hv
  refine y_aload_n hC dX5_pixelDistance_0 (i := 0) rfl rfl ?_
  refine y_get hC fX5_30 dX5_pixelDistance_1 (k := 0) (by omega) h.a0 rfl ?_
  refine y_aload_n hC dX5_pixelDistance_4 (i := 0) rfl rfl ?_
  refine y_get hC fX5_12 dX5_pixelDistance_5 (k := 0) (by omega) h.a0 rfl ?_
  refine y_get hC fX5_166 dX5_pixelDistance_8 (k := 1) (hX.k (k := 0) (by decide)) hX.s0 rfl ?_
  refine y_iload_n hC dX5_pixelDistance_11 (i := 1) rfl rfl ?_
  refine y_iald hC dX5_pixelDistance_12 (k := 1 + 2) (j := a) (hX.k (k := 2) (by decide)) hX.s2 (rfl) (by omega) (by decide) ?_
  have hpb_13 := (hv.2.2.2.2.2.2.1 (a) (by omega)).2
  refine y_top (y := nI (px S.r (a))) ((e2 (a) (by omega)).trans (hv.2.2.2.2.2.2.1 (a) (by omega)).1) ?_
  refine y_iald hC dX5_pixelDistance_13 (k := 97) (j := px S.r (a)) (by omega) h.a97 (rfl) (by omega) (by decide) ?_
  refine y_aload_n hC dX5_pixelDistance_14 (i := 0) rfl rfl ?_
  refine y_get hC fX5_30 dX5_pixelDistance_15 (k := 0) (by omega) h.a0 rfl ?_
  refine y_aload_n hC dX5_pixelDistance_18 (i := 0) rfl rfl ?_
  refine y_get hC fX5_12 dX5_pixelDistance_19 (k := 0) (by omega) h.a0 rfl ?_
  refine y_get hC fX5_166 dX5_pixelDistance_22 (k := 1) (hX.k (k := 0) (by decide)) hX.s0 rfl ?_
  refine y_iload_n hC dX5_pixelDistance_25 (i := 2) rfl rfl ?_
  refine y_iald hC dX5_pixelDistance_26 (k := 1 + 2) (j := b) (hX.k (k := 2) (by decide)) hX.s2 (rfl) (by omega) (by decide) ?_
  have hpb_27 := (hv.2.2.2.2.2.2.1 (b) (by omega)).2
  refine y_top (y := nI (px S.r (b))) ((e2 (b) (by omega)).trans (hv.2.2.2.2.2.2.1 (b) (by omega)).1) ?_
  refine y_iald hC dX5_pixelDistance_27 (k := 97) (j := px S.r (b)) (by omega) h.a97 (rfl) (by omega) (by decide) ?_
  refine y_callS hC mX5_distance kX5_244 dX5_pixelDistance_28 (As := [.int (sh (px S.r (a))), .int (sh (px S.r (b)))]) (rest := []) (c_X5_distance l E g (sh (px S.r (a))) (sh (px S.r (b)))) rfl rfl rfl (Nat.le_of_ble_eq_true rfl) ⟨Nat.le_of_ble_eq_true rfl, Nat.le_of_ble_eq_true rfl⟩ (pk_i ?_)
  rintro r_28 g_28 ⟨hr_28, hq_28⟩
  obtain rfl := hq_28.symm
  rw [hr_28]
  clear hr_28 r_28
  refine y_iret (hC := hC) (hd := dX5_pixelDistance_31) (hq := ?_)
  exact ⟨rfl, rfl⟩

theorem dX5_nearest_0 : decode cX5_nearest 0 = .ok (.iload_n 1, 1) := by decide +kernel
theorem dX5_nearest_1 : decode cX5_nearest 1 = .ok (.invokestatic 45, 3) := by decide +kernel
theorem dX5_nearest_4 : decode cX5_nearest 4 = .ok (.ifCond .ne 6, 3) := by decide +kernel
theorem dX5_nearest_7 : decode cX5_nearest 7 = .ok (.bipush (-2), 2) := by decide +kernel
theorem dX5_nearest_9 : decode cX5_nearest 9 = .ok (.ireturn, 1) := by decide +kernel
theorem dX5_nearest_10 : decode cX5_nearest 10 = .ok (.aload_n 0, 1) := by decide +kernel
theorem dX5_nearest_11 : decode cX5_nearest 11 = .ok (.invokevirtual 67, 3) := by decide +kernel
theorem dX5_nearest_14 : decode cX5_nearest 14 = .ok (.iconst 0, 1) := by decide +kernel
theorem dX5_nearest_15 : decode cX5_nearest 15 = .ok (.istore_n 2, 1) := by decide +kernel
theorem dX5_nearest_16 : decode cX5_nearest 16 = .ok (.iconst 1, 1) := by decide +kernel
theorem dX5_nearest_17 : decode cX5_nearest 17 = .ok (.istore_n 3, 1) := by decide +kernel
theorem dX5_nearest_18 : decode cX5_nearest 18 = .ok (.iload_n 3, 1) := by decide +kernel
theorem dX5_nearest_19 : decode cX5_nearest 19 = .ok (.bipush 32, 2) := by decide +kernel
theorem dX5_nearest_21 : decode cX5_nearest 21 = .ok (.if_icmp .ge 34, 3) := by decide +kernel
theorem dX5_nearest_24 : decode cX5_nearest 24 = .ok (.aload_n 0, 1) := by decide +kernel
theorem dX5_nearest_25 : decode cX5_nearest 25 = .ok (.getfield 30, 3) := by decide +kernel
theorem dX5_nearest_28 : decode cX5_nearest 28 = .ok (.iload_n 3, 1) := by decide +kernel
theorem dX5_nearest_29 : decode cX5_nearest 29 = .ok (.iaload, 1) := by decide +kernel
theorem dX5_nearest_30 : decode cX5_nearest 30 = .ok (.iload_n 1, 1) := by decide +kernel
theorem dX5_nearest_31 : decode cX5_nearest 31 = .ok (.invokestatic 244, 3) := by decide +kernel
theorem dX5_nearest_34 : decode cX5_nearest 34 = .ok (.aload_n 0, 1) := by decide +kernel
theorem dX5_nearest_35 : decode cX5_nearest 35 = .ok (.getfield 30, 3) := by decide +kernel
theorem dX5_nearest_38 : decode cX5_nearest 38 = .ok (.iload_n 2, 1) := by decide +kernel
theorem dX5_nearest_39 : decode cX5_nearest 39 = .ok (.iaload, 1) := by decide +kernel
theorem dX5_nearest_40 : decode cX5_nearest 40 = .ok (.iload_n 1, 1) := by decide +kernel
theorem dX5_nearest_41 : decode cX5_nearest 41 = .ok (.invokestatic 244, 3) := by decide +kernel
theorem dX5_nearest_44 : decode cX5_nearest 44 = .ok (.if_icmp .ge 5, 3) := by decide +kernel
theorem dX5_nearest_47 : decode cX5_nearest 47 = .ok (.iload_n 3, 1) := by decide +kernel
theorem dX5_nearest_48 : decode cX5_nearest 48 = .ok (.istore_n 2, 1) := by decide +kernel
theorem dX5_nearest_49 : decode cX5_nearest 49 = .ok (.iinc 3 1, 3) := by decide +kernel
theorem dX5_nearest_52 : decode cX5_nearest 52 = .ok (.goto (-34), 3) := by decide +kernel
theorem dX5_nearest_55 : decode cX5_nearest 55 = .ok (.iload_n 2, 1) := by decide +kernel
theorem dX5_nearest_56 : decode cX5_nearest 56 = .ok (.ireturn, 1) := by decide +kernel
set_option maxHeartbeats 4000000 in
set_option maxRecDepth 100000 in
theorem c_X5_nearest (l : Launch) (E : gE) (g : Mem) (S : AS) (B : Nat) (hB : B < 90000000) (ho : OK S B) (sh mk wa : Nat → Int32) (h : CQ E g S sh mk wa) (xa : Int32) : Mt l E yX5_nearest cX5_nearest 4 (some .int) 5 117 [rf E (0), .int (xa)] g (pI (fun zz g' => zz = nrQ S xa ∧ CP E g' S)) := by
  have hK := h.k
  have hv := ho.v
  have hrc : rc S.r ≤ 6 := hv.1.2
  have hgc : gc S.r ≤ 4 := hv.2.1.2
  have hc4 := ho.c4
  refine mt_go (own := RX5) (by decide) rfl (lo := [some (rf E (0)), some (.int (xa)), none, none]) rfl (Nat.le_of_ble_eq_true rfl) (fun X hC => ?_)
  obtain ⟨co, pi, π, ρ, V, U, hX, e1, e2, e3, e4⟩ := zStF (r := S.r) (B := B) h.sta hv
  refine y_iload_n hC dX5_nearest_0 (i := 1) rfl rfl ?_
  refine y_callS hC mX5_isColour kX5_45 dX5_nearest_1 (As := [.int (xa)]) (rest := []) (c_X5_isColour l E g ((xa))) rfl rfl rfl (Nat.le_of_ble_eq_true rfl) ⟨Nat.le_of_ble_eq_true rfl, Nat.le_of_ble_eq_true rfl⟩ (pk_i ?_)
  rintro r_1 g_1 ⟨hr_1, hq_1⟩
  obtain rfl := hq_1.symm
  rw [hr_1]
  clear hr_1 r_1
  refine y_if_ne_b (tgt := 10) hC dX5_nearest_4 (by decide) (fun c_4 => ?_) (fun c_4 => ?_)
  · refine y_aload_n hC dX5_nearest_10 (i := 0) rfl rfl ?_
    refine y_callV hC mX5_findShades kX5_67 dX5_nearest_11 (b := 0) (As := []) (rest := []) (c_X5_findShades l E g S B hB ho sh mk wa h) (by omega) h.a0 rfl rfl rfl (Nat.le_of_ble_eq_true rfl) ⟨Nat.le_of_ble_eq_true rfl, Nat.le_of_ble_eq_true rfl⟩ (pk_v ?_)
    rintro g_11 ⟨sh2, hs2, hq_11⟩
    refine y_iconst (v := nI 0) hC dX5_nearest_14 (by decide) ?_
    refine y_istore_n hC dX5_nearest_15 (i := 2) rfl (Nat.le_of_ble_eq_true rfl) rfl (lo' := [some (rf E (0)), some (.int (xa)), some (.int (nI (0))), none]) rfl ?_
    refine y_iconst (v := nI 1) hC dX5_nearest_16 (by decide) ?_
    refine y_istore_n hC dX5_nearest_17 (i := 3) rfl (Nat.le_of_ble_eq_true rfl) rfl (lo' := [some (rf E (0)), some (.int (xa)), some (.int (nI (0))), some (.int (nI (1)))]) rfl ?_
    have L_18 : ∀ (m : Nat) (i b : Nat), (hm : 31 - i < m) → (hi : i ≤ 31) → (hb : b = nrN sh2 xa i) → Y l E X (pI (fun zz g' => zz = nrQ S xa ∧ CP E g' S)) 18 [some (rf E (0)), some (.int (xa)), some (.int (nI (b))), some (.int (nI (i + 1)))] [] g_11 := by
      intro m
      induction m with
      | zero => intro i b hm hi hb; exact absurd hm (Nat.not_lt_zero _)
      | succ m ih_18 =>
        intro i b hm hi hb
        refine y_iload_n hC dX5_nearest_18 (i := 3) rfl rfl ?_
        refine y_bipush (v := nI 32) hC dX5_nearest_19 (by decide) ?_
        refine y_icmp_ge_n (tgt := 55) hC dX5_nearest_21 (by decide) (by omega) (by omega) (fun c_21 => ?_) (fun c_21 => ?_)
        · refine y_iload_n hC dX5_nearest_55 (i := 2) rfl rfl ?_
          refine y_iret (hC := hC) (hd := dX5_nearest_56) (hq := ?_)
          have hqq : nrQ S xa = nI (nrN (shS S.r) xa 31) := by simp only [nrQ, if_pos c_4]
          rw [hqq]
          exact ⟨congrArg nI (by rw [hb, show i = 31 by omega]; exact nrN_cg (fun k hk => hs2 k (by omega))), hq_11.cp⟩
        · have hbl := nrN_le sh2 xa i
          refine y_aload_n hC dX5_nearest_24 (i := 0) rfl rfl ?_
          refine y_get hC fX5_30 dX5_nearest_25 (k := 0) (by omega) hq_11.a0 rfl ?_
          refine y_iload_n hC dX5_nearest_28 (i := 3) rfl rfl ?_
          refine y_iald hC dX5_nearest_29 (k := 97) (j := i + 1) (by omega) hq_11.a97 (rfl) (by omega) (by decide) ?_
          refine y_iload_n hC dX5_nearest_30 (i := 1) rfl rfl ?_
          refine y_callS hC mX5_distance kX5_244 dX5_nearest_31 (As := [.int (sh2 (i + 1)), .int (xa)]) (rest := []) (c_X5_distance l E g_11 ((sh2 (i + 1))) ((xa))) rfl rfl rfl (Nat.le_of_ble_eq_true rfl) ⟨Nat.le_of_ble_eq_true rfl, Nat.le_of_ble_eq_true rfl⟩ (pk_i ?_)
          rintro r_31 g_31 ⟨hr_31, hq_31⟩
          obtain rfl := hq_31.symm
          rw [hr_31]
          clear hr_31 r_31
          refine y_aload_n hC dX5_nearest_34 (i := 0) rfl rfl ?_
          refine y_get hC fX5_30 dX5_nearest_35 (k := 0) (by omega) hq_11.a0 rfl ?_
          refine y_iload_n hC dX5_nearest_38 (i := 2) rfl rfl ?_
          refine y_iald hC dX5_nearest_39 (k := 97) (j := b) (by omega) hq_11.a97 (rfl) (by omega) (by decide) ?_
          refine y_iload_n hC dX5_nearest_40 (i := 1) rfl rfl ?_
          refine y_callS hC mX5_distance kX5_244 dX5_nearest_41 (As := [.int (sh2 (b)), .int (xa)]) (rest := [.int (cDist ((sh2 (i + 1))) ((xa)))]) (c_X5_distance l E g_11 ((sh2 (b))) ((xa))) rfl rfl rfl (Nat.le_of_ble_eq_true rfl) ⟨Nat.le_of_ble_eq_true rfl, Nat.le_of_ble_eq_true rfl⟩ (pk_i ?_)
          rintro r_41 g_41 ⟨hr_41, hq_41⟩
          obtain rfl := hq_41.symm
          rw [hr_41]
          clear hr_41 r_41
          refine y_icmp_ge (tgt := 49) hC dX5_nearest_44 (by decide) (fun c_44 => ?_) (fun c_44 => ?_)
          · refine y_iinc_n hC dX5_nearest_49 (a := i + 1) (k := 1) rfl (by decide) (Nat.le_of_ble_eq_true rfl) rfl (lo' := [some (rf E (0)), some (.int (xa)), some (.int (nI (b))), some (.int (nI (i + 1 + 1)))]) rfl ?_
            refine y_goto (tgt := 18) hC dX5_nearest_52 (by decide) ?_
            exact ih_18 (i + 1) _ (by omega) (by omega) (by rw [nrN, ← hb]; first | rw [if_pos (by exact Int32.not_le.mp c_44)] | rw [if_neg (by exact Int32.not_lt.mpr c_44)])
          · refine y_iload_n hC dX5_nearest_47 (i := 3) rfl rfl ?_
            refine y_istore_n hC dX5_nearest_48 (i := 2) rfl (Nat.le_of_ble_eq_true rfl) rfl (lo' := [some (rf E (0)), some (.int (xa)), some (.int (nI (i + 1))), some (.int (nI (i + 1)))]) rfl ?_
            refine y_iinc_n hC dX5_nearest_49 (a := i + 1) (k := 1) rfl (by decide) (Nat.le_of_ble_eq_true rfl) rfl (lo' := [some (rf E (0)), some (.int (xa)), some (.int (nI (i + 1))), some (.int (nI (i + 1 + 1)))]) rfl ?_
            refine y_goto (tgt := 18) hC dX5_nearest_52 (by decide) ?_
            exact ih_18 (i + 1) _ (by omega) (by omega) (by rw [nrN, ← hb]; first | rw [if_pos (by exact Int32.not_le.mp c_44)] | rw [if_neg (by exact Int32.not_lt.mpr c_44)])
    exact L_18 32 0 0 (by omega) (by omega) rfl
  · refine y_bipush (v := (-2)) hC dX5_nearest_7 (by decide) ?_
    refine y_iret (hC := hC) (hd := dX5_nearest_9) (hq := ?_)
    have hqq : nrQ S xa = -2 := by simp only [nrQ, if_neg c_4]
    rw [hqq]
    exact ⟨rfl, h.cp⟩

theorem dX5_contrast_0 : decode cX5_contrast 0 = .ok (.aload_n 0, 1) := by decide +kernel
theorem dX5_contrast_1 : decode cX5_contrast 1 = .ok (.invokevirtual 67, 3) := by decide +kernel
theorem dX5_contrast_4 : decode cX5_contrast 4 = .ok (.iconst 0, 1) := by decide +kernel
theorem dX5_contrast_5 : decode cX5_contrast 5 = .ok (.istore_n 1, 1) := by decide +kernel
theorem dX5_contrast_6 : decode cX5_contrast 6 = .ok (.iconst 0, 1) := by decide +kernel
theorem dX5_contrast_7 : decode cX5_contrast 7 = .ok (.istore_n 2, 1) := by decide +kernel
theorem dX5_contrast_8 : decode cX5_contrast 8 = .ok (.iload_n 2, 1) := by decide +kernel
theorem dX5_contrast_9 : decode cX5_contrast 9 = .ok (.bipush 64, 2) := by decide +kernel
theorem dX5_contrast_11 : decode cX5_contrast 11 = .ok (.if_icmp .ge 56, 3) := by decide +kernel
theorem dX5_contrast_14 : decode cX5_contrast 14 = .ok (.iload_n 2, 1) := by decide +kernel
theorem dX5_contrast_15 : decode cX5_contrast 15 = .ok (.bipush 8, 2) := by decide +kernel
theorem dX5_contrast_17 : decode cX5_contrast 17 = .ok (.irem, 1) := by decide +kernel
theorem dX5_contrast_18 : decode cX5_contrast 18 = .ok (.iconst 1, 1) := by decide +kernel
theorem dX5_contrast_19 : decode cX5_contrast 19 = .ok (.iadd, 1) := by decide +kernel
theorem dX5_contrast_20 : decode cX5_contrast 20 = .ok (.bipush 8, 2) := by decide +kernel
theorem dX5_contrast_22 : decode cX5_contrast 22 = .ok (.if_icmp .ge 16, 3) := by decide +kernel
theorem dX5_contrast_25 : decode cX5_contrast 25 = .ok (.iload_n 1, 1) := by decide +kernel
theorem dX5_contrast_26 : decode cX5_contrast 26 = .ok (.aload_n 0, 1) := by decide +kernel
theorem dX5_contrast_27 : decode cX5_contrast 27 = .ok (.iload_n 2, 1) := by decide +kernel
theorem dX5_contrast_28 : decode cX5_contrast 28 = .ok (.iload_n 2, 1) := by decide +kernel
theorem dX5_contrast_29 : decode cX5_contrast 29 = .ok (.iconst 1, 1) := by decide +kernel
theorem dX5_contrast_30 : decode cX5_contrast 30 = .ok (.iadd, 1) := by decide +kernel
theorem dX5_contrast_31 : decode cX5_contrast 31 = .ok (.invokevirtual 256, 3) := by decide +kernel
theorem dX5_contrast_34 : decode cX5_contrast 34 = .ok (.invokestatic 259, 3) := by decide +kernel
theorem dX5_contrast_37 : decode cX5_contrast 37 = .ok (.istore_n 1, 1) := by decide +kernel
theorem dX5_contrast_38 : decode cX5_contrast 38 = .ok (.iload_n 2, 1) := by decide +kernel
theorem dX5_contrast_39 : decode cX5_contrast 39 = .ok (.bipush 8, 2) := by decide +kernel
theorem dX5_contrast_41 : decode cX5_contrast 41 = .ok (.iadd, 1) := by decide +kernel
theorem dX5_contrast_42 : decode cX5_contrast 42 = .ok (.bipush 64, 2) := by decide +kernel
theorem dX5_contrast_44 : decode cX5_contrast 44 = .ok (.if_icmp .ge 17, 3) := by decide +kernel
theorem dX5_contrast_47 : decode cX5_contrast 47 = .ok (.iload_n 1, 1) := by decide +kernel
theorem dX5_contrast_48 : decode cX5_contrast 48 = .ok (.aload_n 0, 1) := by decide +kernel
theorem dX5_contrast_49 : decode cX5_contrast 49 = .ok (.iload_n 2, 1) := by decide +kernel
theorem dX5_contrast_50 : decode cX5_contrast 50 = .ok (.iload_n 2, 1) := by decide +kernel
theorem dX5_contrast_51 : decode cX5_contrast 51 = .ok (.bipush 8, 2) := by decide +kernel
theorem dX5_contrast_53 : decode cX5_contrast 53 = .ok (.iadd, 1) := by decide +kernel
theorem dX5_contrast_54 : decode cX5_contrast 54 = .ok (.invokevirtual 256, 3) := by decide +kernel
theorem dX5_contrast_57 : decode cX5_contrast 57 = .ok (.invokestatic 259, 3) := by decide +kernel
theorem dX5_contrast_60 : decode cX5_contrast 60 = .ok (.istore_n 1, 1) := by decide +kernel
theorem dX5_contrast_61 : decode cX5_contrast 61 = .ok (.iinc 2 1, 3) := by decide +kernel
theorem dX5_contrast_64 : decode cX5_contrast 64 = .ok (.goto (-56), 3) := by decide +kernel
theorem dX5_contrast_67 : decode cX5_contrast 67 = .ok (.iload_n 1, 1) := by decide +kernel
theorem dX5_contrast_68 : decode cX5_contrast 68 = .ok (.ireturn, 1) := by decide +kernel
set_option maxHeartbeats 4000000 in
set_option maxRecDepth 100000 in
theorem c_X5_contrast (l : Launch) (E : gE) (g : Mem) (S : AS) (B : Nat) (hB : B < 90000000) (ho : OK S B) (sh mk wa : Nat → Int32) (h : CQ E g S sh mk wa) : Mt l E yX5_contrast cX5_contrast 3 (some .int) 5 117 [rf E (0)] g (pI (fun z g' => z = qContrast S ∧ CP E g' S)) := by
  have hK := h.k
  have hv := ho.v
  have hrc : rc S.r ≤ 6 := hv.1.2
  have hgc : gc S.r ≤ 4 := hv.2.1.2
  have hc4 := ho.c4
  refine mt_go (own := RX5) (by decide) rfl (lo := [some (rf E (0)), none, none]) rfl (Nat.le_of_ble_eq_true rfl) (fun X hC => ?_)
  refine y_aload_n hC dX5_contrast_0 (i := 0) rfl rfl ?_
  refine y_callV hC mX5_findShades kX5_67 dX5_contrast_1 (b := 0) (As := []) (rest := []) (c_X5_findShades l E g S B hB ho sh mk wa h) (by omega) h.a0 rfl rfl rfl (Nat.le_of_ble_eq_true rfl) ⟨Nat.le_of_ble_eq_true rfl, Nat.le_of_ble_eq_true rfl⟩ (pk_v ?_)
  rintro g_1 ⟨sh2, hs2, hq_1⟩
  refine y_iconst (v := nI 0) hC dX5_contrast_4 (by decide) ?_
  refine y_istore_n hC dX5_contrast_5 (i := 1) rfl (Nat.le_of_ble_eq_true rfl) rfl (lo' := [some (rf E (0)), some (.int (nI (0))), none]) rfl ?_
  refine y_iconst (v := nI 0) hC dX5_contrast_6 (by decide) ?_
  refine y_istore_n hC dX5_contrast_7 (i := 2) rfl (Nat.le_of_ble_eq_true rfl) rfl (lo' := [some (rf E (0)), some (.int (nI (0))), some (.int (nI (0)))]) rfl ?_
  have L_8 : ∀ (m : Nat) (i : Nat) (D : Nat → Nat → Int32), (hm : 64 - i < m) → (hi : i ≤ 64) → (hD : D = fun a b => cDist (sh2 (px S.r a)) (sh2 (px S.r b))) → Y l E X (pI (fun z g' => z = qContrast S ∧ CP E g' S)) 8 [some (rf E (0)), some (.int (ctN D i)), some (.int (nI (i)))] [] g_1 := by
    intro m
    induction m with
    | zero => intro i D hm hi hD; exact absurd hm (Nat.not_lt_zero _)
    | succ m ih_8 =>
      intro i D hm hi hD
      refine y_iload_n hC dX5_contrast_8 (i := 2) rfl rfl ?_
      refine y_bipush (v := nI 64) hC dX5_contrast_9 (by decide) ?_
      refine y_icmp_ge_n (tgt := 67) hC dX5_contrast_11 (by decide) (by omega) (by omega) (fun c_11 => ?_) (fun c_11 => ?_)
      · refine y_iload_n hC dX5_contrast_67 (i := 1) rfl rfl ?_
        refine y_iret (hC := hC) (hd := dX5_contrast_68) (hq := ?_)
        refine ⟨?_, hq_1.cp⟩
        rw [show i = 64 by omega]
        unfold qContrast ctQ
        refine ctN_cg (Nat.le_refl _) (fun a b ha hb => ?_)
        rw [hD]
        unfold pxD
        have h1 := (hv.2.2.2.2.2.2.1 a ha).2
        have h2 := (hv.2.2.2.2.2.2.1 b hb).2
        show cDist (sh2 (px S.r a)) (sh2 (px S.r b)) = _
        rw [hs2 _ h1, hs2 _ h2]
      · refine y_iload_n hC dX5_contrast_14 (i := 2) rfl rfl ?_
        refine y_bipush (v := nI 8) hC dX5_contrast_15 (by decide) ?_
        refine y_irem_n hC dX5_contrast_17 (by omega) (by omega) (by omega) ?_
        refine y_iconst (v := nI 1) hC dX5_contrast_18 (by decide) ?_
        refine y_iadd_n hC dX5_contrast_19 ?_
        refine y_bipush (v := nI 8) hC dX5_contrast_20 (by decide) ?_
        refine y_icmp_ge_n (tgt := 38) hC dX5_contrast_22 (by decide) (by omega) (by omega) (fun c_22 => ?_) (fun c_22 => ?_)
        · have c_22n : ¬ i % 8 + 1 < 8 := by omega
          refine y_iload_n hC dX5_contrast_38 (i := 2) rfl rfl ?_
          refine y_bipush (v := nI 8) hC dX5_contrast_39 (by decide) ?_
          refine y_iadd_n hC dX5_contrast_41 ?_
          refine y_bipush (v := nI 64) hC dX5_contrast_42 (by decide) ?_
          refine y_icmp_ge_n (tgt := 61) hC dX5_contrast_44 (by decide) (by omega) (by omega) (fun c_44 => ?_) (fun c_44 => ?_)
          · have c_44n : ¬ i + 8 < 64 := by omega
            refine y_iinc_n hC dX5_contrast_61 (a := i) (k := 1) rfl (by decide) (Nat.le_of_ble_eq_true rfl) rfl (lo' := [some (rf E (0)), some (.int (ctN D i)), some (.int (nI (i + 1)))]) rfl ?_
            refine y_goto (tgt := 8) hC dX5_contrast_64 (by decide) ?_
            have hst : ctN D (i + 1) = (ctN D i) := by
              rw [ctN]
              first | rw [if_pos c_22n] | rw [if_neg c_22n]
              first | exact if_pos c_44n | exact if_neg c_44n
            rw [← hst]
            exact ih_8 (i + 1) D (by omega) (by omega) hD
          · have c_44n : i + 8 < 64 := by omega
            refine y_iload_n hC dX5_contrast_47 (i := 1) rfl rfl ?_
            refine y_aload_n hC dX5_contrast_48 (i := 0) rfl rfl ?_
            refine y_iload_n hC dX5_contrast_49 (i := 2) rfl rfl ?_
            refine y_iload_n hC dX5_contrast_50 (i := 2) rfl rfl ?_
            refine y_bipush (v := nI 8) hC dX5_contrast_51 (by decide) ?_
            refine y_iadd_n hC dX5_contrast_53 ?_
            refine y_callV hC mX5_pixelDistance kX5_256 dX5_contrast_54 (b := 0) (As := [.int (nI (i)), .int (nI (i + 8))]) (rest := [.int (ctN D i)]) (c_X5_pixelDistance l E g_1 S B hB ho sh2 mk wa hq_1 (i) (i + 8) (by omega) (by omega)) (by omega) hq_1.a0 rfl rfl rfl (Nat.le_of_ble_eq_true rfl) ⟨Nat.le_of_ble_eq_true rfl, Nat.le_of_ble_eq_true rfl⟩ (pk_i ?_)
            rintro r_54 g_54 ⟨hr_54, hq_54⟩
            obtain rfl := hq_54.symm
            rw [hr_54, show cDist (sh2 (px S.r i)) (sh2 (px S.r (i + 8))) = D i (i + 8) from by rw [hD]]
            clear hr_54 r_54
            refine y_mmax hC rfl kX5_259 wmax_s wmath wmax_c dX5_contrast_57 (by decide) (Nat.le_of_ble_eq_true rfl) ?_
            refine y_istore_n hC dX5_contrast_60 (i := 1) rfl (Nat.le_of_ble_eq_true rfl) rfl (lo' := [some (rf E (0)), some (.int (if (ctN D i) < (D i (i + 8)) then (D i (i + 8)) else (ctN D i))), some (.int (nI (i)))]) rfl ?_
            refine y_iinc_n hC dX5_contrast_61 (a := i) (k := 1) rfl (by decide) (Nat.le_of_ble_eq_true rfl) rfl (lo' := [some (rf E (0)), some (.int (if (ctN D i) < (D i (i + 8)) then (D i (i + 8)) else (ctN D i))), some (.int (nI (i + 1)))]) rfl ?_
            refine y_goto (tgt := 8) hC dX5_contrast_64 (by decide) ?_
            have hst : ctN D (i + 1) = (if (ctN D i) < (D i (i + 8)) then (D i (i + 8)) else (ctN D i)) := by
              rw [ctN]
              first | rw [if_pos c_22n] | rw [if_neg c_22n]
              first | exact if_pos c_44n | exact if_neg c_44n
            rw [← hst]
            exact ih_8 (i + 1) D (by omega) (by omega) hD
        · have c_22n : i % 8 + 1 < 8 := by omega
          refine y_iload_n hC dX5_contrast_25 (i := 1) rfl rfl ?_
          refine y_aload_n hC dX5_contrast_26 (i := 0) rfl rfl ?_
          refine y_iload_n hC dX5_contrast_27 (i := 2) rfl rfl ?_
          refine y_iload_n hC dX5_contrast_28 (i := 2) rfl rfl ?_
          refine y_iconst (v := nI 1) hC dX5_contrast_29 (by decide) ?_
          refine y_iadd_n hC dX5_contrast_30 ?_
          refine y_callV hC mX5_pixelDistance kX5_256 dX5_contrast_31 (b := 0) (As := [.int (nI (i)), .int (nI (i + 1))]) (rest := [.int (ctN D i)]) (c_X5_pixelDistance l E g_1 S B hB ho sh2 mk wa hq_1 (i) (i + 1) (by omega) (by omega)) (by omega) hq_1.a0 rfl rfl rfl (Nat.le_of_ble_eq_true rfl) ⟨Nat.le_of_ble_eq_true rfl, Nat.le_of_ble_eq_true rfl⟩ (pk_i ?_)
          rintro r_31 g_31 ⟨hr_31, hq_31⟩
          obtain rfl := hq_31.symm
          rw [hr_31, show cDist (sh2 (px S.r i)) (sh2 (px S.r (i + 1))) = D i (i + 1) from by rw [hD]]
          clear hr_31 r_31
          refine y_mmax hC rfl kX5_259 wmax_s wmath wmax_c dX5_contrast_34 (by decide) (Nat.le_of_ble_eq_true rfl) ?_
          refine y_istore_n hC dX5_contrast_37 (i := 1) rfl (Nat.le_of_ble_eq_true rfl) rfl (lo' := [some (rf E (0)), some (.int (if (ctN D i) < (D i (i + 1)) then (D i (i + 1)) else (ctN D i))), some (.int (nI (i)))]) rfl ?_
          refine y_iload_n hC dX5_contrast_38 (i := 2) rfl rfl ?_
          refine y_bipush (v := nI 8) hC dX5_contrast_39 (by decide) ?_
          refine y_iadd_n hC dX5_contrast_41 ?_
          refine y_bipush (v := nI 64) hC dX5_contrast_42 (by decide) ?_
          refine y_icmp_ge_n (tgt := 61) hC dX5_contrast_44 (by decide) (by omega) (by omega) (fun c_44 => ?_) (fun c_44 => ?_)
          · have c_44n : ¬ i + 8 < 64 := by omega
            refine y_iinc_n hC dX5_contrast_61 (a := i) (k := 1) rfl (by decide) (Nat.le_of_ble_eq_true rfl) rfl (lo' := [some (rf E (0)), some (.int (if (ctN D i) < (D i (i + 1)) then (D i (i + 1)) else (ctN D i))), some (.int (nI (i + 1)))]) rfl ?_
            refine y_goto (tgt := 8) hC dX5_contrast_64 (by decide) ?_
            have hst : ctN D (i + 1) = (if (ctN D i) < (D i (i + 1)) then (D i (i + 1)) else (ctN D i)) := by
              rw [ctN]
              first | rw [if_pos c_22n] | rw [if_neg c_22n]
              first | exact if_pos c_44n | exact if_neg c_44n
            rw [← hst]
            exact ih_8 (i + 1) D (by omega) (by omega) hD
          · have c_44n : i + 8 < 64 := by omega
            refine y_iload_n hC dX5_contrast_47 (i := 1) rfl rfl ?_
            refine y_aload_n hC dX5_contrast_48 (i := 0) rfl rfl ?_
            refine y_iload_n hC dX5_contrast_49 (i := 2) rfl rfl ?_
            refine y_iload_n hC dX5_contrast_50 (i := 2) rfl rfl ?_
            refine y_bipush (v := nI 8) hC dX5_contrast_51 (by decide) ?_
            refine y_iadd_n hC dX5_contrast_53 ?_
            refine y_callV hC mX5_pixelDistance kX5_256 dX5_contrast_54 (b := 0) (As := [.int (nI (i)), .int (nI (i + 8))]) (rest := [.int (if (ctN D i) < (D i (i + 1)) then (D i (i + 1)) else (ctN D i))]) (c_X5_pixelDistance l E g_1 S B hB ho sh2 mk wa hq_1 (i) (i + 8) (by omega) (by omega)) (by omega) hq_1.a0 rfl rfl rfl (Nat.le_of_ble_eq_true rfl) ⟨Nat.le_of_ble_eq_true rfl, Nat.le_of_ble_eq_true rfl⟩ (pk_i ?_)
            rintro r_54 g_54 ⟨hr_54, hq_54⟩
            obtain rfl := hq_54.symm
            rw [hr_54, show cDist (sh2 (px S.r i)) (sh2 (px S.r (i + 8))) = D i (i + 8) from by rw [hD]]
            clear hr_54 r_54
            refine y_mmax hC rfl kX5_259 wmax_s wmath wmax_c dX5_contrast_57 (by decide) (Nat.le_of_ble_eq_true rfl) ?_
            refine y_istore_n hC dX5_contrast_60 (i := 1) rfl (Nat.le_of_ble_eq_true rfl) rfl (lo' := [some (rf E (0)), some (.int (if (if (ctN D i) < (D i (i + 1)) then (D i (i + 1)) else (ctN D i)) < (D i (i + 8)) then (D i (i + 8)) else (if (ctN D i) < (D i (i + 1)) then (D i (i + 1)) else (ctN D i)))), some (.int (nI (i)))]) rfl ?_
            refine y_iinc_n hC dX5_contrast_61 (a := i) (k := 1) rfl (by decide) (Nat.le_of_ble_eq_true rfl) rfl (lo' := [some (rf E (0)), some (.int (if (if (ctN D i) < (D i (i + 1)) then (D i (i + 1)) else (ctN D i)) < (D i (i + 8)) then (D i (i + 8)) else (if (ctN D i) < (D i (i + 1)) then (D i (i + 1)) else (ctN D i)))), some (.int (nI (i + 1)))]) rfl ?_
            refine y_goto (tgt := 8) hC dX5_contrast_64 (by decide) ?_
            have hst : ctN D (i + 1) = (if (if (ctN D i) < (D i (i + 1)) then (D i (i + 1)) else (ctN D i)) < (D i (i + 8)) then (D i (i + 8)) else (if (ctN D i) < (D i (i + 1)) then (D i (i + 1)) else (ctN D i))) := by
              rw [ctN]
              first | rw [if_pos c_22n] | rw [if_neg c_22n]
              first | exact if_pos c_44n | exact if_neg c_44n
            rw [← hst]
            exact ih_8 (i + 1) D (by omega) (by omega) hD
  exact L_8 65 0 _ (by omega) (by omega) rfl

theorem pbP_eq {r : Row} {B k : Nat} {sh : Nat → Int32} (hv : Vr r B) (hs : ∀ k, k < 32 → sh k = shd r k 0) : aSh r sh (fun k => inU r 64 k && mvs r k) (k + 1) 32 = true ↔ pbP r k = true := by
  rw [aSh_iff, pbP_iff]
  constructor
  · intro h p hp
    have h1 := (hv.2.2.2.2.2.2.1 p hp).2
    by_cases q : mvs r (px r p) = true
    · rw [← hs _ h1]
      exact h _ h1 (by rw [Bool.and_eq_true]; exact ⟨inU_iff.mpr ⟨p, hp, rfl⟩, q⟩)
    · exact shd_still (by simpa using q)
  · intro h q hq hm
    rw [Bool.and_eq_true] at hm
    obtain ⟨p, h1, h2⟩ := inU_iff.mp hm.1
    rw [hs q hq, ← h2]
    exact h p h1
theorem dX5_total_0 : decode cX5_total 0 = .ok (.iload_n 1, 1) := by decide +kernel
theorem dX5_total_1 : decode cX5_total 1 = .ok (.tableswitch 129 0 9 #[55, 63, 71, 79, 87, 95, 103, 108, 113, 121], 55) := by decide +kernel
theorem dX5_total_56 : decode cX5_total 56 = .ok (.aload_n 0, 1) := by decide +kernel
theorem dX5_total_57 : decode cX5_total 57 = .ok (.getfield 12, 3) := by decide +kernel
theorem dX5_total_60 : decode cX5_total 60 = .ok (.getfield 83, 3) := by decide +kernel
theorem dX5_total_63 : decode cX5_total 63 = .ok (.ireturn, 1) := by decide +kernel
theorem dX5_total_64 : decode cX5_total 64 = .ok (.aload_n 0, 1) := by decide +kernel
theorem dX5_total_65 : decode cX5_total 65 = .ok (.getfield 12, 3) := by decide +kernel
theorem dX5_total_68 : decode cX5_total 68 = .ok (.invokevirtual 113, 3) := by decide +kernel
theorem dX5_total_71 : decode cX5_total 71 = .ok (.ireturn, 1) := by decide +kernel
theorem dX5_total_72 : decode cX5_total 72 = .ok (.aload_n 0, 1) := by decide +kernel
theorem dX5_total_73 : decode cX5_total 73 = .ok (.getfield 12, 3) := by decide +kernel
theorem dX5_total_76 : decode cX5_total 76 = .ok (.getfield 121, 3) := by decide +kernel
theorem dX5_total_79 : decode cX5_total 79 = .ok (.ireturn, 1) := by decide +kernel
theorem dX5_total_80 : decode cX5_total 80 = .ok (.aload_n 0, 1) := by decide +kernel
theorem dX5_total_81 : decode cX5_total 81 = .ok (.getfield 12, 3) := by decide +kernel
theorem dX5_total_84 : decode cX5_total 84 = .ok (.getfield 222, 3) := by decide +kernel
theorem dX5_total_87 : decode cX5_total 87 = .ok (.ireturn, 1) := by decide +kernel
theorem dX5_total_88 : decode cX5_total 88 = .ok (.aload_n 0, 1) := by decide +kernel
theorem dX5_total_89 : decode cX5_total 89 = .ok (.getfield 12, 3) := by decide +kernel
theorem dX5_total_92 : decode cX5_total 92 = .ok (.getfield 223, 3) := by decide +kernel
theorem dX5_total_95 : decode cX5_total 95 = .ok (.ireturn, 1) := by decide +kernel
theorem dX5_total_96 : decode cX5_total 96 = .ok (.aload_n 0, 1) := by decide +kernel
theorem dX5_total_97 : decode cX5_total 97 = .ok (.getfield 12, 3) := by decide +kernel
theorem dX5_total_100 : decode cX5_total 100 = .ok (.invokevirtual 224, 3) := by decide +kernel
theorem dX5_total_103 : decode cX5_total 103 = .ok (.ireturn, 1) := by decide +kernel
theorem dX5_total_104 : decode cX5_total 104 = .ok (.aload_n 0, 1) := by decide +kernel
theorem dX5_total_105 : decode cX5_total 105 = .ok (.invokevirtual 227, 3) := by decide +kernel
theorem dX5_total_108 : decode cX5_total 108 = .ok (.ireturn, 1) := by decide +kernel
theorem dX5_total_109 : decode cX5_total 109 = .ok (.aload_n 0, 1) := by decide +kernel
theorem dX5_total_110 : decode cX5_total 110 = .ok (.invokevirtual 230, 3) := by decide +kernel
theorem dX5_total_113 : decode cX5_total 113 = .ok (.ireturn, 1) := by decide +kernel
theorem dX5_total_114 : decode cX5_total 114 = .ok (.aload_n 0, 1) := by decide +kernel
theorem dX5_total_115 : decode cX5_total 115 = .ok (.getfield 19, 3) := by decide +kernel
theorem dX5_total_118 : decode cX5_total 118 = .ok (.getfield 172, 3) := by decide +kernel
theorem dX5_total_121 : decode cX5_total 121 = .ok (.ireturn, 1) := by decide +kernel
theorem dX5_total_122 : decode cX5_total 122 = .ok (.aload_n 0, 1) := by decide +kernel
theorem dX5_total_123 : decode cX5_total 123 = .ok (.getfield 26, 3) := by decide +kernel
theorem dX5_total_126 : decode cX5_total 126 = .ok (.getfield 156, 3) := by decide +kernel
theorem dX5_total_129 : decode cX5_total 129 = .ok (.ireturn, 1) := by decide +kernel
theorem dX5_total_130 : decode cX5_total 130 = .ok (.bipush (-2), 2) := by decide +kernel
theorem dX5_total_132 : decode cX5_total 132 = .ok (.ireturn, 1) := by decide +kernel
set_option maxHeartbeats 4000000 in
set_option maxRecDepth 100000 in
theorem c_X5_total (l : Launch) (E : gE) (g : Mem) (S : AS) (B : Nat) (hB : B < 90000000) (ho : OK S B) (sh mk wa : Nat → Int32) (h : CQ E g S sh mk wa) (xa : Int32) : Mt l E yX5_total cX5_total 2 (some .int) 6 139 [rf E (0), .int (xa)] g (pI (fun zz g' => zz = qTotal S xa ∧ CP E g' S)) := by
  have hK := h.k
  have hv := ho.v
  have hrc : rc S.r ≤ 6 := hv.1.2
  have hgc : gc S.r ≤ 4 := hv.2.1.2
  have hc4 := ho.c4
  refine mt_go (own := RX5) (by decide) rfl (lo := [some (rf E (0)), some (.int (xa))]) rfl (Nat.le_of_ble_eq_true rfl) (fun X hC => ?_)
  obtain ⟨co, pi, π, ρ, V, U, hX, e1, e2, e3, e4⟩ := zStF (r := S.r) (B := B) h.sta hv
  obtain ⟨fx, tk, it, stq, tiq, hP⟩ := h.pa
  refine y_iload_n hC dX5_total_0 (i := 1) rfl rfl ?_
  by_cases hw : 0 ≤ xa.toInt ∧ xa.toInt ≤ 9
  · obtain ⟨u, hu, hux⟩ := zN (m := 9) hw
    subst hux
    rcases (show u = 0 ∨ u = 1 ∨ u = 2 ∨ u = 3 ∨ u = 4 ∨ u = 5 ∨ u = 6 ∨ u = 7 ∨ u = 8 ∨ u = 9 by omega) with rfl | rfl | rfl | rfl | rfl | rfl | rfl | rfl | rfl | rfl
    · refine y_tabIn (off := 55) (tgt := 56) hC dX5_total_1 (by decide) (by decide) (by decide) (by decide) ?_
      refine y_aload_n hC dX5_total_56 (i := 0) rfl rfl ?_
      refine y_get hC fX5_12 dX5_total_57 (k := 0) (by omega) h.a0 rfl ?_
      refine y_get hC fX5_83 dX5_total_60 (k := 1) (hX.k (k := 0) (by decide)) hX.s0 rfl ?_
      refine y_iret (hC := hC) (hd := dX5_total_63) (hq := ?_)
      have hqq : qTotal S (nI 0) = rgT S 0 := by simp only [qTotal]; rw [if_pos (by decide)]; rfl
      rw [hqq]
      exact ⟨rfl, h.cp⟩
    · refine y_tabIn (off := 63) (tgt := 64) hC dX5_total_1 (by decide) (by decide) (by decide) (by decide) ?_
      refine y_aload_n hC dX5_total_64 (i := 0) rfl rfl ?_
      refine y_get hC fX5_12 dX5_total_65 (k := 0) (by omega) h.a0 rfl ?_
      refine y_callV hC mX4_runningRanges kX5_113 dX5_total_68 (b := 1) (As := []) (rest := []) (c_X4_runningRanges l E g 1 S.r B (by omega) h.sta hv) (hX.k (k := 0) (by decide)) hX.s0 rfl rfl rfl (Nat.le_of_ble_eq_true rfl) ⟨Nat.le_of_ble_eq_true rfl, Nat.le_of_ble_eq_true rfl⟩ (pk_i ?_)
      rintro r_68 g_68 ⟨hr_68, hq_68⟩
      obtain rfl := hq_68.symm
      rw [hr_68]
      clear hr_68 r_68
      refine y_iret (hC := hC) (hd := dX5_total_71) (hq := ?_)
      have hqq : qTotal S (nI 1) = rgT S 1 := by simp only [qTotal]; rw [if_pos (by decide)]; rfl
      rw [hqq]
      exact ⟨rfl, h.cp⟩
    · refine y_tabIn (off := 71) (tgt := 72) hC dX5_total_1 (by decide) (by decide) (by decide) (by decide) ?_
      refine y_aload_n hC dX5_total_72 (i := 0) rfl rfl ?_
      refine y_get hC fX5_12 dX5_total_73 (k := 0) (by omega) h.a0 rfl ?_
      refine y_get hC fX5_121 dX5_total_76 (k := 1) (hX.k (k := 0) (by decide)) hX.s0 rfl ?_
      refine y_iret (hC := hC) (hd := dX5_total_79) (hq := ?_)
      have hqq : qTotal S (nI 2) = rgT S 2 := by simp only [qTotal]; rw [if_pos (by decide)]; rfl
      rw [hqq]
      exact ⟨rfl, h.cp⟩
    · refine y_tabIn (off := 79) (tgt := 80) hC dX5_total_1 (by decide) (by decide) (by decide) (by decide) ?_
      refine y_aload_n hC dX5_total_80 (i := 0) rfl rfl ?_
      refine y_get hC fX5_12 dX5_total_81 (k := 0) (by omega) h.a0 rfl ?_
      refine y_get hC fX5_222 dX5_total_84 (k := 1) (hX.k (k := 0) (by decide)) hX.s0 rfl ?_
      refine y_iret (hC := hC) (hd := dX5_total_87) (hq := ?_)
      have hqq : qTotal S (nI 3) = rgT S 3 := by simp only [qTotal]; rw [if_pos (by decide)]; rfl
      rw [hqq]
      exact ⟨hv.2.2.2.2.2.2.2.1.1.symm, h.cp⟩
    · refine y_tabIn (off := 87) (tgt := 88) hC dX5_total_1 (by decide) (by decide) (by decide) (by decide) ?_
      refine y_aload_n hC dX5_total_88 (i := 0) rfl rfl ?_
      refine y_get hC fX5_12 dX5_total_89 (k := 0) (by omega) h.a0 rfl ?_
      refine y_get hC fX5_223 dX5_total_92 (k := 1) (hX.k (k := 0) (by decide)) hX.s0 rfl ?_
      refine y_iret (hC := hC) (hd := dX5_total_95) (hq := ?_)
      have hqq : qTotal S (nI 4) = rgT S 4 := by simp only [qTotal]; rw [if_pos (by decide)]; rfl
      rw [hqq]
      exact ⟨hv.2.2.2.2.2.2.2.2.1.symm, h.cp⟩
    · refine y_tabIn (off := 95) (tgt := 96) hC dX5_total_1 (by decide) (by decide) (by decide) (by decide) ?_
      refine y_aload_n hC dX5_total_96 (i := 0) rfl rfl ?_
      refine y_get hC fX5_12 dX5_total_97 (k := 0) (by omega) h.a0 rfl ?_
      refine y_callV hC mX4_placesInRanges kX5_224 dX5_total_100 (b := 1) (As := []) (rest := []) (c_X4_placesInRanges l E g 1 S.r B (by omega) h.sta hv) (hX.k (k := 0) (by decide)) hX.s0 rfl rfl rfl (Nat.le_of_ble_eq_true rfl) ⟨Nat.le_of_ble_eq_true rfl, Nat.le_of_ble_eq_true rfl⟩ (pk_i ?_)
      rintro r_100 g_100 ⟨hr_100, hq_100⟩
      obtain rfl := hq_100.symm
      rw [hr_100]
      clear hr_100 r_100
      refine y_iret (hC := hC) (hd := dX5_total_103) (hq := ?_)
      have hqq : qTotal S (nI 5) = rgT S 5 := by simp only [qTotal]; rw [if_pos (by decide)]; rfl
      rw [hqq]
      exact ⟨rfl, h.cp⟩
    · refine y_tabIn (off := 103) (tgt := 104) hC dX5_total_1 (by decide) (by decide) (by decide) (by decide) ?_
      refine y_aload_n hC dX5_total_104 (i := 0) rfl rfl ?_
      refine y_callV hC mX5_differentColours kX5_227 dX5_total_105 (b := 0) (As := []) (rest := []) (c_X5_differentColours l E g S B hB ho sh mk wa h) (by omega) h.a0 rfl rfl rfl (Nat.le_of_ble_eq_true rfl) ⟨Nat.le_of_ble_eq_true rfl, Nat.le_of_ble_eq_true rfl⟩ (pk_i ?_)
      rintro rz g_z ⟨hz, hcpz⟩
      rw [hz]
      refine y_iret (hC := hC) (hd := dX5_total_108) (hq := ?_)
      have hqq : qTotal S (nI 6) = rgT S 6 := by simp only [qTotal]; rw [if_pos (by decide)]; rfl
      rw [hqq]
      exact ⟨rfl, hcpz⟩
    · refine y_tabIn (off := 108) (tgt := 109) hC dX5_total_1 (by decide) (by decide) (by decide) (by decide) ?_
      refine y_aload_n hC dX5_total_109 (i := 0) rfl rfl ?_
      refine y_callV hC mX5_movingPixels kX5_230 dX5_total_110 (b := 0) (As := []) (rest := []) (c_X5_movingPixels l E g S B hB ho sh mk wa h) (by omega) h.a0 rfl rfl rfl (Nat.le_of_ble_eq_true rfl) ⟨Nat.le_of_ble_eq_true rfl, Nat.le_of_ble_eq_true rfl⟩ (pk_i ?_)
      rintro rz g_z ⟨hz, hcpz⟩
      rw [hz]
      refine y_iret (hC := hC) (hd := dX5_total_113) (hq := ?_)
      have hqq : qTotal S (nI 7) = rgT S 7 := by simp only [qTotal]; rw [if_pos (by decide)]; rfl
      rw [hqq]
      exact ⟨rfl, hcpz⟩
    · refine y_tabIn (off := 113) (tgt := 114) hC dX5_total_1 (by decide) (by decide) (by decide) (by decide) ?_
      refine y_aload_n hC dX5_total_114 (i := 0) rfl rfl ?_
      refine y_get hC fX5_19 dX5_total_115 (k := 0) (by omega) h.a0 rfl ?_
      refine y_get hC fX5_172 dX5_total_118 (k := 16) (by omega) h.a16 rfl ?_
      refine y_iret (hC := hC) (hd := dX5_total_121) (hq := ?_)
      have hqq : qTotal S (nI 8) = rgT S 8 := by simp only [qTotal]; rw [if_pos (by decide)]; rfl
      rw [hqq]
      exact ⟨rfl, h.cp⟩
    · refine y_tabIn (off := 121) (tgt := 122) hC dX5_total_1 (by decide) (by decide) (by decide) (by decide) ?_
      refine y_aload_n hC dX5_total_122 (i := 0) rfl rfl ?_
      refine y_get hC fX5_26 dX5_total_123 (k := 0) (by omega) h.a0 rfl ?_
      refine y_get hC fX5_156 dX5_total_126 (k := 93) (by omega) hP.a93 rfl ?_
      refine y_iret (hC := hC) (hd := dX5_total_129) (hq := ?_)
      have hqq : qTotal S (nI 9) = rgT S 9 := by simp only [qTotal]; rw [if_pos (by decide)]; rfl
      rw [hqq]
      exact ⟨rfl, h.cp⟩
  · refine y_tabOut (tgt := 130) hC dX5_total_1 (by omega) (by decide) ?_
    refine y_bipush (v := (-2)) hC dX5_total_130 (by decide) ?_
    refine y_iret (hC := hC) (hd := dX5_total_132) (hq := ?_)
    have hqq : qTotal S xa = -2 := by simp only [qTotal, if_neg hw]
    rw [hqq]
    exact ⟨rfl, h.cp⟩

