/-! ===== programs: what their text tells, what they take ===== -/
def exR (s : Nat → Nat) (ln : Nat) : Nat → Nat → Nat → (Nat → Nat) → (Nat → Nat) → Row → Row
  | 0, _, _, _, _, r => r
  | n + 1, i, d, sf, tf, r => if i < ln then (if 50 ≤ s i ∧ s i ≤ 57 then exR s ln n (bhd s i) (d + 1) (va_up sf d (bhd s i)) (va_up tf d (s i - 48)) r else if s i = 41 then (if 1 < tf (d - 1) then exR s ln n (sf (d - 1)) d sf (va_up tf (d - 1) (tf (d - 1) - 1)) r else exR s ln n (bhd s i) (d - 1) sf tf r) else exR s ln n (bhd s i) d sf tf (itR s r i)) else r
theorem Run_exR {s : Nat → Nat} {ln : Nat} : ∀ {n i d B : Nat} {sf tf : Nat → Nat} {r fin : Row}, Run s ln n i d sf tf r B fin → ∀ m, n ≤ m → exR s ln m i d sf tf r = fin
  | 0, i, d, B, sf, tf, r, fin, h, m, _ => by
    obtain ⟨h1, h2⟩ := h
    subst h1
    cases m with
    | zero => exact h2.symm
    | succ m => rw [exR, if_neg (by omega)]; exact h2.symm
  | n + 1, i, d, B, sf, tf, r, fin, h, m, hm => by
    obtain ⟨m, rfl⟩ : ∃ k, m = k + 1 := ⟨m - 1, by omega⟩
    obtain ⟨h1, -, -, h⟩ := h
    rw [exR, if_pos h1]
    rcases h with ⟨a1, a2, a3, a4, a5⟩ | ⟨a1, a2, a3, a4, a5, a6, a7⟩ | ⟨a1, a2⟩
    · rw [if_pos ⟨a1, a2⟩]
      exact Run_exR a5 m (by omega)
    · rw [if_neg (by omega), if_pos a1]
      rcases a7 with ⟨b1, b2⟩ | ⟨b1, b2⟩
      · rw [if_pos b1]
        exact Run_exR b2 m (by omega)
      · rw [if_neg (by omega)]
        exact Run_exR b2 m (by omega)
    · unfold itOk at a1
      rw [if_neg (by omega), if_neg (by omega)]
      exact Run_exR a2 m (by omega)
theorem ft_b {s : Nat → Nat} {ln : Nat} (hz : ∀ k, ln ≤ k → s k = 0) : ∀ {n i d k : Nat} {due : Bool}, i ≤ ln → ft s ln n i d due = some k → k ≤ ln
  | 0, i, d, k, due, _, h => by
    rw [ft] at h
    split at h
    · cases h; exact Nat.le_refl _
    · cases h
  | n + 1, i, d, k, due, hi, h => by
    rw [ft] at h
    split at h
    · rename_i hlt
      split at h
      · exact ft_b hz (by omega) h
      · split at h
        · cases h; omega
        · rename_i h1
          split at h
          · cases h; omega
          · rename_i h2
            have h3 := tok h1 h2
            have h4 := bhd_le hz hlt (Or.inr (by omega))
            exact ft_b hz h4.2.1 h
    · split at h
      · cases h; exact Nat.le_refl _
      · cases h
/-- the signs inside an item are no letters -/
theorem tok_in {s : Nat → Nat} {i k : Nat} (h1 : ¬ isBeg (s i) = false) (h2 : ¬ isAlw (s i) (s (i + 1)) = false) (hk : i < k) (hk2 : k < bhd s i) : isFor (s k) = false := by
  have h3 := tok h1 h2
  unfold isFor
  unfold bhd at hk2
  split at hk2
  · omega
  · split at hk2
    · rename_i q
      by_cases e : k = i + 1
      · subst e; exact decide_eq_false (by omega)
      · have e2 : k = i + 2 := by omega
        subst e2; exact decide_eq_false (by omega)
    · have e : k = i + 1 := by omega
      subst e; exact decide_eq_false (by omega)
theorem bhd_gt (s : Nat → Nat) (i : Nat) : i < bhd s i := by
  unfold bhd
  split
  · omega
  · split <;> omega
theorem ft_dig {s : Nat → Nat} {ln : Nat} : ∀ {n i d : Nat} {due : Bool}, ln - i ≤ n → ft s ln n i d due = none → ∀ k, i ≤ k → k < ln → isFor (s k) = true → 48 ≤ s (k + 1) ∧ s (k + 1) ≤ 53
  | 0, i, d, due, hn, _, k, h1, h2, _ => by omega
  | n + 1, i, d, due, hn, h, k, h1, h2, h3 => by
    rcases ft_inv (by omega) h with ⟨a1, a2, a3, a4⟩ | ⟨b1, b2, b3⟩
    · by_cases e : k = i
      · subst e
        rw [a1] at h3
        cases h3
      · exact ft_dig (by omega) a4 k (by omega) h2 h3
    · have hg := bhd_gt s i
      by_cases e : k = i
      · subst e
        have := tok b1 b2
        rcases this with ⟨-, -, -, -, c⟩ | ⟨-, c1, c2, -⟩ | ⟨-, -, -, -, c, -⟩
        · rw [c] at h3; cases h3
        · exact ⟨c1, c2⟩
        · rw [c] at h3; cases h3
      · by_cases e2 : k < bhd s i
        · rw [tok_in b1 b2 (by omega) e2] at h3
          cases h3
        · exact ft_dig (by omega) b3 k (by omega) h2 h3
theorem hiN_mono {s : Nat → Nat} {a : Nat} : ∀ d, hiN s a ≤ hiN s (a + d)
  | 0 => Nat.le_refl _
  | d + 1 => by
    have := hiN_mono (s := s) (a := a) d
    rw [← Nat.add_assoc, hiN]
    split
    · exact Nat.le_trans this (Nat.le_max_left _ _)
    · exact this
theorem hiN_ge {s : Nat → Nat} {ln k : Nat} (hk : k < ln) (h : isFor (s k) = true) : s (k + 1) - 48 + 1 ≤ hiN s ln := by
  have h1 : s (k + 1) - 48 + 1 ≤ hiN s (k + 1) := by
    rw [hiN, if_pos h]
    exact Nat.le_max_right _ _
  have h2 := hiN_mono (s := s) (a := k + 1) (ln - (k + 1))
  rw [show k + 1 + (ln - (k + 1)) = ln by omega] at h2
  omega
theorem hiN_bhd {s : Nat → Nat} {i : Nat} (h1 : ¬ isBeg (s i) = false) (h2 : ¬ isAlw (s i) (s (i + 1)) = false) : hiN s (bhd s i) = if isFor (s i) then max (hiN s i) (s (i + 1) - 48 + 1) else hiN s i := by
  have hg := bhd_gt s i
  have h3 : ∀ k, i < k → k ≤ bhd s i → hiN s k = hiN s (i + 1) := by
    intro k
    induction k with
    | zero => intro h; exact absurd h (Nat.not_lt_zero _)
    | succ k ih =>
      intro h4 h5
      by_cases e : k = i
      · rw [e]
      · rw [hiN, tok_in h1 h2 (by omega) (by omega)]
        exact ih (by omega) (by omega)
  rw [h3 _ hg (Nat.le_refl _), hiN]
theorem hiN_b1 {s : Nat → Nat} {i : Nat} (h : s i = 41) : hiN s (i + 1) = hiN s i := by
  rw [hiN, h]
  rfl
theorem cT_fuel {s : Nat → Nat} {ln : Nat} : ∀ {n m i d tk it : Nat} {tf : Nat → Nat}, ln - i ≤ n → ln - i ≤ m → cT s ln n i d tf tk it = cT s ln m i d tf tk it
  | 0, m, i, d, tk, it, tf, h, _ => by rw [cT_end (n := 0) (by omega), cT_end (n := m) (by omega)]
  | n + 1, 0, i, d, tk, it, tf, _, h => by rw [cT_end (n := 0) (by omega), cT_end (n := n + 1) (by omega)]
  | n + 1, m + 1, i, d, tk, it, tf, h1, h2 => by
    have hg := bhd_gt s i
    rw [cT, cT]
    split
    · split
      · exact cT_fuel (by omega) (by omega)
      · split
        · exact cT_fuel (by omega) (by omega)
        · exact cT_fuel (by omega) (by omega)
    · rfl
theorem cap1 {a b x c : Nat} (h : a = min (b + x) 5001) : min (a + c) 5001 = min (b + (x + c)) 5001 := by omega
theorem cap2 {m D T t T2 : Nat} : min (min (t + min (m * D) 5001 * T) 5001 + m * T2) 5001 = min (t + m * (D * T + T2)) 5001 := by
  have e : m * (D * T + T2) = m * D * T + m * T2 := by rw [Nat.mul_add, Nat.mul_assoc]
  rw [e]
  by_cases h : m * D ≤ 5001
  · rw [show min (m * D) 5001 = m * D from Nat.min_eq_left h]
    omega
  · rw [show min (m * D) 5001 = 5001 from Nat.min_eq_right (by omega)]
    by_cases h2 : T = 0
    · subst h2
      rw [Nat.mul_zero, Nat.mul_zero]
      omega
    · have h3 : 5001 * 1 ≤ 5001 * T := Nat.mul_le_mul_left _ (by omega)
      have h4 : m * D * 1 ≤ m * D * T := Nat.mul_le_mul_left _ (by omega)
      omega
def itF (F : Row → Row) : Nat → Row → Row
  | 0, r => r
  | t + 1, r => itF F t (F r)
/-- how a row goes on through a block: what it adds to ticks, steps, bounds -/
def FOk (R T X : Nat) (F : Row → Row) : Prop := ∀ r B, Vr r B → rc r = R → B + X < 90000000 → Vr (F r) (B + X) ∧ rc (F r) = R ∧ nn (F r 156) = nn (r 156) + T
def EXk (s : Nat → Nat) (ln R i d j C X : Nat) (F : Row → Row) : Prop := ∀ (sf tf : Nat → Nat) (r : Row) (B n2 : Nat) (fin : Row), Vr r B → rc r = R → B + X < 90000000 →
  (∀ sf' tf', (∀ k, k < d → sf' k = sf k ∧ tf' k = tf k) → Run s ln n2 j d sf' tf' (F r) (B + X) fin) → Run s ln (C + n2) i d sf tf r B fin
def CTk (s : Nat → Nat) (ln i d j T N : Nat) : Prop := ∀ (n3 : Nat) (tf : Nat → Nat) (tk it : Nat), ln - i ≤ n3 → 1 ≤ tf d → tf d ≤ 5001 → tk ≤ 5001 → it ≤ 5001 →
  ∃ tf' : Nat → Nat, (∀ k, k ≤ d → tf' k = tf k) ∧ ∀ n2, ln - j ≤ n2 → cT s ln n3 i d tf tk it = cT s ln n2 j d tf' (min (tk + tf d * T) 5001) (min (it + tf d * N) 5001)
theorem FOk.it {R T X : Nat} {F : Row → Row} (h : FOk R T X F) : ∀ t, FOk R (t * T) (t * X) (itF F t)
  | 0 => fun r B hv hr _ => by rw [Nat.zero_mul, Nat.zero_mul]; exact ⟨hv, hr, rfl⟩
  | t + 1 => fun r B hv hr hb => by
    rw [Nat.succ_mul] at hb
    obtain ⟨h1, h2, h3⟩ := h r B hv hr (by omega)
    obtain ⟨k1, k2, k3⟩ := FOk.it h t (F r) (B + X) h1 h2 (by omega)
    rw [Nat.succ_mul, Nat.succ_mul]
    exact ⟨by rw [show B + (t * X + X) = B + X + t * X by omega]; exact k1, k2, by rw [show nn (r 156) + (t * T + T) = nn (r 156) + T + t * T by omega, ← h3]; exact k3⟩
/-- a repeat: its body so often, then on behind its bracket -/
theorem rep_run {s : Nat → Nat} {ln R i d j C T X : Nat} {F : Row → Row} (hF : FOk R T X F) (hE : EXk s ln R i (d + 1) j C X F) (hj : j < ln) (h41 : s j = 41) (hd : d < 30) (hi : i ≤ 60) :
    ∀ t, 1 ≤ t → t ≤ 9 → ∀ (sf tf : Nat → Nat) (r : Row) (B n2 : Nat) (fin : Row), Vr r B → rc r = R → B + t * X < 90000000 → tf d = t → sf d = i →
      (∀ sf' tf', (∀ k, k < d → sf' k = sf k ∧ tf' k = tf k) → Run s ln n2 (j + 1) d sf' tf' (itF F t r) (B + t * X) fin) → Run s ln (t * (C + 1) + n2) i (d + 1) sf tf r B fin
  | 0, h, _ => absurd h (by decide)
  | t + 1, _, h9 => by
    intro sf tf r B n2 fin hv hr hb ht hs hk
    rw [Nat.succ_mul] at hb
    obtain ⟨k1, k2, -⟩ := hF r B hv hr (by omega)
    have e : (t + 1) * (C + 1) + n2 = C + ((t * (C + 1) + n2) + 1) := by rw [Nat.succ_mul]; omega
    rw [e]
    refine hE sf tf r B _ fin hv hr (by omega) (fun sf' tf' ha => ?_)
    have hd1 := (ha d (by omega)).1
    have hd2 := (ha d (by omega)).2
    refine ⟨hj, k1, by omega, Or.inr (Or.inl ⟨h41, by omega, by omega, ?_⟩)⟩
    rw [show d + 1 - 1 = d by omega, hd1, hd2, ht, hs]
    refine ⟨by omega, h9, hi, ?_⟩
    by_cases h0 : t = 0
    · refine Or.inr ⟨by omega, ?_⟩
      subst h0
      rw [Nat.zero_mul, Nat.zero_add, bhd_1 h41]
      have := hk sf' tf' (fun k hk2 => ha k (by omega))
      rw [Nat.zero_add, Nat.one_mul] at this
      exact this
    · refine Or.inl ⟨by omega, ?_⟩
      refine rep_run hF hE hj h41 hd hi t (by omega) (by omega) sf' _ (F r) (B + X) n2 fin k1 k2 (by omega) (by rw [va_up_self]; omega) (by rw [hd1, hs]) (fun sf2 tf2 ha2 => ?_)
      have := hk sf2 tf2 (fun k hk2 => by
        obtain ⟨q1, q2⟩ := ha2 k hk2
        rw [va_up_ne _ _ (by omega)] at q2
        obtain ⟨q3, q4⟩ := ha k (by omega)
        exact ⟨q1.trans q3, q2.trans q4⟩)
      rw [Nat.succ_mul] at this
      rw [show B + X + t * X = B + (t * X + X) by omega]
      exact this
theorem itR_ok {s : Nat → Nat} {R i : Nat} {r : Row} {B : Nat} (hv : Vr r B) (hr : rc r = R) (hb : B + itB s i < 90000000) (hit : itOk s r i) (h57 : s (i + 1) ≤ 57) : Vr (itR s r i) (B + itB s i) ∧ rc (itR s r i) = R ∧ nn (itR s r i 156) = nn (r 156) + if s i = 116 then nmb s (i + 1) else 0 := by
  have hrc := hv.1.2
  have hgc := hv.2.1.2
  have h6 := hv.2.2.2.2.2.2.2.1.2
  unfold itR itB
  unfold itB at hb
  have hnm := nmb_le h57
  by_cases e : s i = 116
  · rw [if_pos e, if_pos e, if_pos e]
    rw [if_pos e] at hb
    exact ⟨vr_tk hv (by omega) (by omega), tkR_rc.trans hr, by rw [tkR_156 hrc hgc, nn_I (by omega)]⟩
  · rw [if_neg e, if_neg e, if_neg e]
    rw [if_neg e] at hb
    have hlt : s (i + 1) - 48 < rc r := by
      rcases hit with h | h
      · exact absurd h.1 e
      · exact h.2.2.2
    by_cases e2 : s i = 112
    · rw [if_pos e2]
      have hf : ∀ k, k ≠ 37 + 7 * (s (i + 1) - 48) → flpR r (s (i + 1) - 48) k = r k := fun k hk => if_neg hk
      exact ⟨(vr_flp hv (by omega) hlt).le (by omega), (rc_of (hf _ (by omega))).trans hr, by rw [hf _ (by omega)]; rfl⟩
    · rw [if_neg e2]
      have hf : ∀ k, k ≠ 39 + 7 * (s (i + 1) - 48) → k ≠ 157 → stpR r (s (i + 1) - 48) k = r k := fun k hk hk2 => (if_neg hk).trans (if_neg hk2)
      exact ⟨vr_stp hv (by omega) hlt, (rc_of (hf _ (by omega) (by omega))).trans hr, by rw [hf _ (by omega) (by omega)]; rfl⟩
def zH (p : Prop) : Prop := p
/-- a text without a fault, read as a block from i on: where it ends, what it takes -/
theorem blk {s : Nat → Nat} {ln : Nat} (hz : ∀ k, ln ≤ k → s k = 0) (h60 : ln ≤ 60) {R : Nat} (hR : hiN s ln ≤ R) : ∀ (L n i d : Nat) (due : Bool), ln - i ≤ L → ft s ln n i d due = none → ln - i ≤ n → i ≤ ln → 2 * d ≤ i →
    ∃ (j C T N X : Nat) (F : Row → Row), i ≤ j ∧ j ≤ ln ∧ (d = 0 → j = ln) ∧ zH (0 < d → j < ln ∧ s j = 41 ∧ ∃ n', ln - j ≤ n' ∧ ft s ln n' j d false = none) ∧ (due = true → 1 ≤ N) ∧ C ≤ (ln - i + 1) * N ∧ X ≤ T + N ∧ FOk R T X F ∧ EXk s ln R i d j C X F ∧ CTk s ln i d j T N := by
  intro L
  induction L with
  | zero =>
    intro n i d due hL hft hn hi hd
    have e : i = ln := by omega
    rw [ft_end (by omega)] at hft
    have h0 : d = 0 ∧ due = false := by
      split at hft
      · cases hft
      · rename_i q
        cases due with
        | true => exact absurd (Or.inl rfl) q
        | false => exact ⟨by omega, rfl⟩
    refine ⟨i, 0, 0, 0, 0, fun r => r, Nat.le_refl _, hi, fun _ => e, fun h => absurd h0.1 (by omega), fun h => (by rw [h0.2] at h; cases h), Nat.zero_le _, Nat.le_refl _, fun r B hv hr _ => ⟨hv, hr, rfl⟩, fun sf tf r B n2 fin hv hr hb hk => ?_, fun n3 tf tk it h1 h2 h3 h4 h5 => ⟨tf, fun _ _ => rfl, fun n2 hn2 => ?_⟩⟩
    · rw [Nat.zero_add]
      exact hk sf tf (fun _ _ => ⟨rfl, rfl⟩)
    · rw [show min (tk + tf d * 0) 5001 = tk from Nat.min_eq_left h4, show min (it + tf d * 0) 5001 = it from Nat.min_eq_left h5]
      exact cT_fuel h1 hn2
  | succ L ih =>
    intro n i d due hL hft hn hi hd
    by_cases hlt : i < ln
    case neg => exact ih n i d due (by omega) hft hn hi hd
    obtain ⟨n, rfl⟩ : ∃ k, n = k + 1 := ⟨n - 1, by omega⟩
    have hg := bhd_gt s i
    rcases ft_inv hlt hft with ⟨a1, a2, a3, a4⟩ | ⟨b1, b2, b3⟩
    · -- the block ends here
      refine ⟨i, 0, 0, 0, 0, fun r => r, Nat.le_refl _, hi, fun h => absurd h (by omega), fun _ => ⟨hlt, a1, n + 1, hn, by rw [← a3]; exact hft⟩, fun h => (by rw [a3] at h; cases h), Nat.zero_le _, Nat.le_refl _, fun r B hv hr _ => ⟨hv, hr, rfl⟩, fun sf tf r B n2 fin hv hr hb hk => ?_, fun n3 tf tk it h1 h2 h3 h4 h5 => ⟨tf, fun _ _ => rfl, fun n2 hn2 => ?_⟩⟩
      · rw [Nat.zero_add]
        exact hk sf tf (fun _ _ => ⟨rfl, rfl⟩)
      · rw [show min (tk + tf d * 0) 5001 = tk from Nat.min_eq_left h4, show min (it + tf d * 0) 5001 = it from Nat.min_eq_left h5]
        exact cT_fuel h1 hn2
    · have ht := tok b1 b2
      have hbl := bhd_le hz hlt (Or.inr (by omega))
      by_cases hrep : isRep (s i) = true
      · -- a repeat
        rw [if_pos hrep, hrep] at b3
        obtain ⟨c1, c2, c3, c6⟩ : 50 ≤ s i ∧ s i ≤ 57 ∧ s (i + 1) = 40 ∧ bhd s i = i + 2 := by
          rcases ht with ⟨-, -, -, c, -⟩ | ⟨-, -, -, c, -⟩ | ⟨c1, c2, c3, -, -, c4⟩
          · rw [c] at hrep; cases hrep
          · rw [c] at hrep; cases hrep
          · exact ⟨c1, c2, c3, c4⟩
        rw [c6] at b3 hbl
        obtain ⟨j1, C1, T1, N1, X1, F1, p1, p2, -, p4, p5, p6, p7, p8, p9, p10⟩ := ih n (i + 2) (d + 1) true (by omega) b3 (by omega) (by omega) (by omega)
        obtain ⟨q1, q2, n', q3, q4⟩ : j1 < ln ∧ s j1 = 41 ∧ ∃ n', ln - j1 ≤ n' ∧ ft s ln n' j1 (d + 1) false = none := p4 (by omega)
        have hN1 := p5 rfl
        obtain ⟨n', rfl⟩ : ∃ k, n' = k + 1 := ⟨n' - 1, by omega⟩
        have q5 : ft s ln n' (j1 + 1) d false = none := by
          rcases ft_inv q1 q4 with ⟨-, -, -, r4⟩ | ⟨r1, -⟩
          · exact r4
          · exact absurd (by rw [q2]; rfl) r1
        obtain ⟨j, C2, T2, N2, X2, F2, u1, u2, u3, u4, -, u6, u7, u8, u9, u10⟩ := ih n' (j1 + 1) d false (by omega) q5 (by omega) (by omega) (by omega)
        have hD : 2 ≤ s i - 48 ∧ s i - 48 ≤ 9 := by omega
        generalize hDd : s i - 48 = D at hD
        refine ⟨j, 1 + D * (C1 + 1) + C2, D * T1 + T2, D * N1 + N2, D * X1 + X2, fun r => F2 (itF F1 D r), by omega, u2, u3, u4, fun _ => ?_, ?_, ?_, fun r B hv hr hb => ?_, fun sf tf r B n2 fin hv hr hb hk => ?_, fun n3 tf tk it h1 h2 h3 h4 h5 => ?_⟩
        · have : 1 * 1 ≤ D * N1 := Nat.mul_le_mul (by omega) hN1
          omega
        · -- the cost
          have w1 : C1 ≤ (ln - i - 1) * N1 := Nat.le_trans p6 (Nat.mul_le_mul_right _ (by omega))
          have w2 : C2 ≤ (ln - i + 1) * N2 := Nat.le_trans u6 (Nat.mul_le_mul_right _ (by omega))
          have w3 : D * C1 ≤ D * ((ln - i - 1) * N1) := Nat.mul_le_mul_left _ w1
          have w4 : D * 1 ≤ D * N1 := Nat.mul_le_mul_left _ hN1
          have e1 : (ln - i + 1) * (D * N1 + N2) = D * ((ln - i - 1) * N1) + 2 * (D * N1) + (ln - i + 1) * N2 := by
            rw [show ln - i + 1 = (ln - i - 1) + 2 by omega, Nat.mul_add, Nat.add_mul (ln - i - 1) 2 (D * N1)]
            rw [show (ln - i - 1) * (D * N1) = D * ((ln - i - 1) * N1) by rw [← Nat.mul_assoc, ← Nat.mul_assoc, Nat.mul_comm (ln - i - 1) D]]
          rw [e1, Nat.mul_succ]
          omega
        · have : D * X1 ≤ D * (T1 + N1) := Nat.mul_le_mul_left _ p7
          rw [Nat.mul_add] at this
          omega
        · obtain ⟨k1, k2, k3⟩ := p8.it D r B hv hr (by omega)
          obtain ⟨m1, m2, m3⟩ := u8 (itF F1 D r) (B + D * X1) k1 k2 (by omega)
          exact ⟨by rw [show B + (D * X1 + X2) = B + D * X1 + X2 by omega]; exact m1, m2, by rw [show nn (r 156) + (D * T1 + T2) = nn (r 156) + D * T1 + T2 by omega, ← k3]; exact m3⟩
        · obtain ⟨k1, k2, k3⟩ := p8.it D r B hv hr (by omega)
          have e : 1 + D * (C1 + 1) + C2 + n2 = (D * (C1 + 1) + (C2 + n2)) + 1 := by omega
          rw [e]
          refine ⟨hlt, hv, by omega, Or.inl ⟨c1, c2, c3, by omega, ?_⟩⟩
          rw [c6, hDd]
          refine rep_run p8 p9 q1 q2 (by omega) (by omega) D (by omega) (by omega) _ _ r B (C2 + n2) fin hv hr (by omega) (va_up_self _ _ _) (va_up_self _ _ _) (fun sf' tf' ha => ?_)
          refine u9 sf' tf' (itF F1 D r) (B + D * X1) n2 fin k1 k2 (by omega) (fun sf2 tf2 ha2 => ?_)
          rw [show B + D * X1 + X2 = B + (D * X1 + X2) by omega]
          refine hk sf2 tf2 (fun k hk2 => ?_)
          obtain ⟨v1, v2⟩ := ha k hk2
          obtain ⟨v3, v4⟩ := ha2 k hk2
          rw [va_up_ne _ _ (by omega)] at v1 v2
          exact ⟨v3.trans v1, v4.trans v2⟩
        · obtain ⟨n3, rfl⟩ : ∃ k, n3 = k + 1 := ⟨n3 - 1, by omega⟩
          have hm : 1 ≤ min (tf d * D) 5001 := by
            have : 1 * 1 ≤ tf d * D := Nat.mul_le_mul h2 (by omega)
            omega
          obtain ⟨tf1, t1, t2⟩ := p10 n3 (va_up tf (d + 1) (min (tf d * D) 5001)) tk it (by omega) (by rw [va_up_self]; exact hm) (by rw [va_up_self]; omega) h4 h5
          have t3 := t2 (ln - j1 + 1) (by omega)
          rw [va_up_self] at t3
          have hdd : tf1 d = tf d := (t1 d (by omega)).trans (va_up_ne _ _ (by omega))
          obtain ⟨tf2, x1, x2⟩ := u10 (ln - j1) tf1 (min (tk + min (tf d * D) 5001 * T1) 5001) (min (it + min (tf d * D) 5001 * N1) 5001) (by omega) (by omega) (by omega) (by omega) (by omega)
          refine ⟨tf2, fun k hk => (x1 k hk).trans ((t1 k (by omega)).trans (va_up_ne _ _ (by omega))), fun n2 hn2 => ?_⟩
          rw [cT, if_pos hlt, if_neg (by omega), if_pos hrep, c6, hDd, t3, cT, if_pos q1, if_pos q2, bhd_1 q2, show d + 1 - 1 = d by omega, x2 n2 hn2, hdd, cap2, cap2]
      · -- an item
        rw [if_neg hrep, show isRep (s i) = false from by simpa using hrep] at b3
        have hit : ∀ r, rc r = R → itOk s r i := by
          intro r hr
          rcases ht with ⟨c1, c2, c3, -⟩ | ⟨c1, c2, c3, -, c5, -⟩ | ⟨-, -, -, c, -⟩
          · exact Or.inl ⟨c1, c2, c3⟩
          · have := hiN_ge hlt c5
            exact Or.inr ⟨c1, c2, by omega, by omega⟩
          · exact absurd c hrep
        have h57 : s (i + 1) ≤ 57 := by
          rcases ht with ⟨c1, c2, c3, -⟩ | ⟨c1, c2, c3, -⟩ | ⟨-, -, c, -⟩ <;> omega
        have h41 : ¬ s i = 41 := by
          rcases ht with ⟨c1, -⟩ | ⟨c1, -⟩ | ⟨c1, c2, -⟩ <;> omega
        obtain ⟨j, C2, T2, N2, X2, F2, u1, u2, u3, u4, -, u6, u7, u8, u9, u10⟩ := ih n (bhd s i) d false (by omega) b3 (by omega) hbl.2.1 (by omega)
        have hX1 : itB s i ≤ (if s i = 116 then nmb s (i + 1) else 0) + 1 := by unfold itB; split <;> omega
        refine ⟨j, 1 + C2, (if s i = 116 then nmb s (i + 1) else 0) + T2, 1 + N2, itB s i + X2, fun r => F2 (itR s r i), by omega, u2, u3, u4, fun _ => by omega, ?_, by omega, fun r B hv hr hb => ?_, fun sf tf r B n2 fin hv hr hb hk => ?_, fun n3 tf tk it h1 h2 h3 h4 h5 => ?_⟩
        · have w2 : C2 ≤ (ln - i + 1) * N2 := Nat.le_trans u6 (Nat.mul_le_mul_right _ (by omega))
          rw [Nat.mul_add]
          omega
        · obtain ⟨k1, k2, k3⟩ := itR_ok hv hr (show B + itB s i < 90000000 by omega) (hit r hr) h57
          obtain ⟨m1, m2, m3⟩ := u8 (itR s r i) (B + itB s i) k1 k2 (by omega)
          refine ⟨by rw [← Nat.add_assoc]; exact m1, m2, ?_⟩
          rw [← Nat.add_assoc, ← k3]
          exact m3
        · obtain ⟨k1, k2, k3⟩ := itR_ok hv hr (show B + itB s i < 90000000 by omega) (hit r hr) h57
          rw [show 1 + C2 + n2 = (C2 + n2) + 1 by omega]
          refine ⟨hlt, hv, by omega, Or.inr (Or.inr ⟨hit r hr, ?_⟩)⟩
          refine u9 sf tf (itR s r i) (B + itB s i) n2 fin k1 k2 (by omega) (fun sf' tf' ha => ?_)
          rw [Nat.add_assoc]
          exact hk sf' tf' ha
        · obtain ⟨n3, rfl⟩ : ∃ k, n3 = k + 1 := ⟨n3 - 1, by omega⟩
          obtain ⟨tf2, x1, x2⟩ := u10 n3 tf (min (tk + tf d * (if s i = 116 then nmb s (i + 1) else 0)) 5001) (min (it + tf d) 5001) (by omega) h2 h3 (by omega) (by omega)
          refine ⟨tf2, x1, fun n2 hn2 => ?_⟩
          rw [cT, if_pos hlt, if_neg h41, if_neg hrep, x2 n2 hn2, Nat.mul_add, Nat.mul_add, Nat.mul_one]
          rw [cap1 rfl, cap1 rfl]
/-- a program that may be carried out: it ends in time, with this row -/
theorem prog {s : Nat → Nat} {ln : Nat} (hz : ∀ k, ln ≤ k → s k = 0) (h60 : ln ≤ 60) {r : Row} {B : Nat} (hv : Vr r B) (hB : B < 80000000) (hR : hiN s ln ≤ rc r) (hft : ft s ln 60 0 0 true = none)
    (h1 : (cT s ln 60 0 0 (fun _ => 1) 0 0).1 ≤ 5000) (h2 : (cT s ln 60 0 0 (fun _ => 1) 0 0).2 ≤ 5000) :
    ∃ n, n ≤ 999999 ∧ (∀ sf tf, Run s ln n 0 0 sf tf r B (exR s ln 1000000 0 0 (fun _ => 0) (fun _ => 0) r)) ∧ Vr (exR s ln 1000000 0 0 (fun _ => 0) (fun _ => 0) r) (B + 10000) ∧ nn (exR s ln 1000000 0 0 (fun _ => 0) (fun _ => 0) r 156) = nn (r 156) + (cT s ln 60 0 0 (fun _ => 1) 0 0).1 := by
  obtain ⟨j, C, T, N, X, F, p1, p2, p3, -, -, p6, p7, p8, p9, p10⟩ := blk hz h60 hR 60 60 0 0 true (by omega) hft (by omega) (by omega) (by omega)
  have hj := p3 rfl
  subst hj
  obtain ⟨tf', -, t2⟩ := p10 60 (fun _ => 1) 0 0 (by omega) (by decide) (by decide) (by decide) (by decide)
  have t3 := t2 0 (by omega)
  have t4 : cT s j 60 0 0 (fun _ => 1) 0 0 = (min (0 + 1 * T) 5001, min (0 + 1 * N) 5001) := t3
  rw [t4] at h1 h2 ⊢
  have e1 : min (0 + 1 * T) 5001 ≤ 5000 := h1
  have e2 : min (0 + 1 * N) 5001 ≤ 5000 := h2
  have hC : C ≤ 61 * 5000 := Nat.le_trans p6 (Nat.mul_le_mul (by omega) (by omega))
  obtain ⟨k1, k2, k3⟩ := p8 r B hv rfl (by omega)
  have hrun : ∀ sf tf, Run s j C 0 0 sf tf r B (F r) := fun sf tf => p9 sf tf r B 0 (F r) hv rfl (by omega) (fun sf' tf' _ => ⟨rfl, rfl⟩)
  have hfin : exR s j 1000000 0 0 (fun _ => 0) (fun _ => 0) r = F r := Run_exR (hrun _ _) _ (by omega)
  rw [hfin]
  refine ⟨C, by omega, hrun, k1.le (by omega), ?_⟩
  rw [k3]
  show nn (r 156) + T = nn (r 156) + min (0 + 1 * T) 5001
  omega
