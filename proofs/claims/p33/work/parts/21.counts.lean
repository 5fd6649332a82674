/-! ===== counts; places in ranges; the full turn's bound ===== -/
theorem cn_all (n : Nat) : cn n (fun _ => true) = n := by
  induction n with
  | zero => rfl
  | succ n ih => rw [cn_s, ih]; rfl
/-- without one that counts -/
theorem cn_rem {n j : Nat} {P : Nat → Bool} (hj : j < n) (hp : P j = true) : cn n P = cn n (fun k => P k && !decide (k = j)) + 1 := by
  induction n with
  | zero => exact absurd hj (Nat.not_lt_zero _)
  | succ n ih =>
    rw [cn_s, cn_s]
    by_cases e : j = n
    · subst e
      have : cn j (fun k => P k && !decide (k = j)) = cn j P := cn_cg (fun k hk => by simp [show k ≠ j by omega])
      rw [this, if_pos hp, if_neg (by simp)]
    · have h1 := ih (by omega)
      rw [h1]
      have h2 : (P n && !decide (n = j)) = P n := by simp [show n ≠ j by omega]
      rw [h2]
      omega
/-- what goes one to one into what counts is not more -/
theorem cn_inj {m : Nat} : ∀ {n : Nat} {P Q : Nat → Bool} (φ : Nat → Nat), (∀ i, i < n → P i = true → φ i < m ∧ Q (φ i) = true) → (∀ i j, i < n → j < n → P i = true → P j = true → φ i = φ j → i = j) → cn n P ≤ cn m Q
  | 0, _, _, _, _, _ => Nat.zero_le _
  | n + 1, P, Q, φ, h1, h2 => by
    by_cases hp : P n = true
    · obtain ⟨k1, k2⟩ := h1 n (by omega) hp
      rw [cn_rem k1 k2, cn_s, if_pos hp]
      have := cn_inj (m := m) (n := n) (P := P) (Q := fun k => Q k && !decide (k = φ n)) φ (fun i hi hpi => by
        obtain ⟨q1, q2⟩ := h1 i (by omega) hpi
        refine ⟨q1, ?_⟩
        have : φ i ≠ φ n := fun e => by
          have := h2 i n (by omega) (by omega) hpi hp e
          omega
        simp [q2, this]) (fun i j hi hj => h2 i j (by omega) (by omega))
      omega
    · rw [cn_s, if_neg hp]
      exact cn_inj φ (fun i hi => h1 i (by omega)) (fun i j hi hj => h2 i j (by omega) (by omega))
theorem cn_lt {n q : Nat} {P : Nat → Bool} (hq : q < n) (h : P q = false) : cn n P < n := by
  have h1 := cn_inj (n := n) (m := n) (P := P) (Q := fun k => true && !decide (k = q)) (fun i => i) (fun i hi hp => ⟨hi, by
    have : i ≠ q := fun e => by rw [e, h] at hp; cases hp
    simp [this]⟩) (fun i j _ _ _ _ e => e)
  have h2 := cn_rem (n := n) (j := q) (P := fun _ => true) hq rfl
  rw [cn_all] at h2
  omega
theorem cn_or {n : Nat} {P Q : Nat → Bool} (h : ∀ k, k < n → ¬ (P k = true ∧ Q k = true)) : cn n (fun k => P k || Q k) = cn n P + cn n Q := by
  induction n with
  | zero => rfl
  | succ n ih =>
    rw [cn_s, cn_s, cn_s, ih (fun k hk => h k (by omega))]
    have := h n (by omega)
    cases hp : P n <;> cases hq : Q n <;> simp_all <;> omega
theorem cn_seg {n a c : Nat} (hc : c < n) (hac : a ≤ c) : cn n (fun p => decide (a ≤ p ∧ p ≤ c)) = c - a + 1 := by
  have hz : ∀ m, m ≤ a → cn m (fun p => decide (a ≤ p ∧ p ≤ c)) = 0 := by
    intro m
    induction m with
    | zero => exact fun _ => rfl
    | succ m ih =>
      intro hm
      rw [cn_s, ih (by omega), if_neg (by rw [decide_eq_true_eq]; omega)]
  have h1 : ∀ m, a ≤ m → m ≤ c + 1 → cn m (fun p => decide (a ≤ p ∧ p ≤ c)) = m - a := by
    intro m
    induction m with
    | zero => intro h _; rw [hz 0 (by omega)]; omega
    | succ m ih =>
      intro h1 h2
      by_cases e : a = m + 1
      · rw [hz _ (by omega)]; omega
      · rw [cn_s, ih (by omega) (by omega), if_pos (by rw [decide_eq_true_eq]; omega)]
        omega
  have h2 : ∀ d, cn (c + 1 + d) (fun p => decide (a ≤ p ∧ p ≤ c)) = c + 1 - a := by
    intro d
    induction d with
    | zero => exact h1 _ (by omega) (by omega)
    | succ d ih => rw [← Nat.add_assoc, cn_s, ih, if_neg (by rw [decide_eq_true_eq]; omega), Nat.add_zero]
  have := h2 (n - (c + 1))
  rw [show c + 1 + (n - (c + 1)) = n by omega] at this
  omega
/-- one of the first k ranges holds the place -/
def hld (r : Row) (p : Nat) : Nat → Bool
  | 0 => false
  | k + 1 => hld r p k || decide (rg r k 0 ≤ p ∧ p ≤ rg r k 1)
theorem hld_iff {r : Row} {p : Nat} : ∀ {k : Nat}, hld r p k = true ↔ ∃ i, i < k ∧ rg r i 0 ≤ p ∧ p ≤ rg r i 1
  | 0 => by simp [hld]
  | k + 1 => by
    rw [hld, Bool.or_eq_true, decide_eq_true_eq, hld_iff]
    constructor
    · rintro (⟨i, h1, h2⟩ | h)
      · exact ⟨i, by omega, h2⟩
      · exact ⟨k, by omega, h⟩
    · rintro ⟨i, h1, h2⟩
      by_cases e : i = k
      · exact Or.inr (e ▸ h2)
      · exact Or.inl ⟨i, by omega, h2⟩
theorem pl_sum {r : Row} {B : Nat} (hv : Vr r B) : ∀ k, k ≤ rc r → cn 32 (fun p => hld r p k) = sm k (fun i => nP r i)
  | 0, _ => by
    have : cn 32 (fun p => hld r p 0) = cn 32 (fun _ => false) := rfl
    rw [this]
    rfl
  | k + 1, hk => by
    have q := hv.rg (i := k) (by omega)
    have h1 : cn 32 (fun p => hld r p (k + 1)) = cn 32 (fun p => hld r p k) + cn 32 (fun p => decide (rg r k 0 ≤ p ∧ p ≤ rg r k 1)) := cn_or (fun p hp => by
      rintro ⟨h1, h2⟩
      rw [decide_eq_true_eq] at h2
      obtain ⟨i, h3, h4⟩ := hld_iff.mp h1
      have := hv.2.2.2.1 i k h3 (by omega)
      omega)
    rw [h1, pl_sum hv k (by omega), cn_seg (by omega) (by omega)]
    rfl
theorem nP_sum {r : Row} {B : Nat} (hv : Vr r B) {k : Nat} (hk : k ≤ rc r) : sm k (fun i => nP r i) ≤ 32 := by
  rw [← pl_sum hv k hk]
  exact cn_le _ _
/-- a range's full turn, the full turn of all -/
def tN (r : Row) (i : Nat) : Nat := if rg r i 4 = 1 then rg r i 2 * fsN (nP r i) (rg r i 3) else 1
def lcR (r : Row) : Nat → Nat
  | 0 => 1
  | k + 1 => Nat.lcm (lcR r k) (tN r k)
def lcG (r : Row) : Nat → Nat
  | 0 => lcR r (rc r)
  | k + 1 => Nat.lcm (lcG r k) (2 * gl r k 2)
def pF (r : Row) : Nat → Nat
  | 0 => 1
  | k + 1 => pF r k * fsN (nP r k) (rg r k 3)
theorem dv30 : ∀ n, n < 31 → 0 < n → 2329089562800 % n = 0 := by decide
theorem dv30d {n : Nat} (h0 : 0 < n) (h : n ≤ 30) : n ∣ 2329089562800 := Nat.dvd_of_mod_eq_zero (dv30 n (by omega) h0)
theorem fs_b : ∀ n, n < 33 → 2 ≤ n → (2 * n - 2) * 3125 * 4 ^ n ≤ 8192 * 5 ^ n := by decide
theorem fsN_le {n w : Nat} (h : 2 ≤ n) : 0 < fsN n w ∧ fsN n w ≤ 2 * n - 2 ∧ fsN n w ≤ 2 * n := by
  unfold fsN
  split <;> omega
theorem pF_pos {r : Row} {B : Nat} (hv : Vr r B) : ∀ k, k ≤ rc r → 0 < pF r k
  | 0, _ => Nat.one_pos
  | k + 1, hk => by
    have q := hv.rg (i := k) (by omega)
    exact Nat.mul_pos (pF_pos hv k (by omega)) (fsN_le (by unfold nP; omega)).1
theorem pF_b {r : Row} {B : Nat} (hv : Vr r B) : ∀ k, k ≤ rc r → pF r k * (3125 ^ k * 4 ^ sm k (fun i => nP r i)) ≤ 8192 ^ k * 5 ^ sm k (fun i => nP r i)
  | 0, _ => Nat.le_refl _
  | k + 1, hk => by
    have q := hv.rg (i := k) (by omega)
    have hn : 2 ≤ nP r k ∧ nP r k < 33 := by unfold nP; omega
    have h1 := pF_b hv k (by omega)
    have h2 := fs_b (nP r k) hn.2 hn.1
    have h3 : fsN (nP r k) (rg r k 3) * 3125 * 4 ^ nP r k ≤ 8192 * 5 ^ nP r k := Nat.le_trans (Nat.mul_le_mul_right _ (Nat.mul_le_mul_right _ (fsN_le hn.1).2.1)) h2
    have h4 := Nat.mul_le_mul h1 h3
    have e1 : sm (k + 1) (fun i => nP r i) = sm k (fun i => nP r i) + nP r k := rfl
    rw [e1, Nat.pow_add 4, Nat.pow_add 5, Nat.pow_succ, Nat.pow_succ]
    have e2 : pF r (k + 1) = pF r k * fsN (nP r k) (rg r k 3) := rfl
    rw [e2]
    calc pF r k * fsN (nP r k) (rg r k 3) * (3125 ^ k * 3125 * (4 ^ sm k (fun i => nP r i) * 4 ^ nP r k))
        = pF r k * (3125 ^ k * 4 ^ sm k (fun i => nP r i)) * (fsN (nP r k) (rg r k 3) * 3125 * 4 ^ nP r k) := by ac_rfl
      _ ≤ 8192 ^ k * 5 ^ sm k (fun i => nP r i) * (8192 * 5 ^ nP r k) := h4
      _ = 8192 ^ k * 8192 * (5 ^ sm k (fun i => nP r i) * 5 ^ nP r k) := by ac_rfl
theorem pF_le {r : Row} {B : Nat} (hv : Vr r B) : pF r (rc r) ≤ 409600 := by
  have h1 := pF_b hv (rc r) (Nat.le_refl _)
  have h2 := nP_sum hv (Nat.le_refl (rc r))
  have h3 := hv.1.2
  have h4 : 3125 ^ (6 - rc r) ≤ 8192 ^ (6 - rc r) := Nat.pow_le_pow_left (by decide) _
  have h5 : 4 ^ (32 - sm (rc r) (fun i => nP r i)) ≤ 5 ^ (32 - sm (rc r) (fun i => nP r i)) := Nat.pow_le_pow_left (by decide) _
  have h6 := Nat.mul_le_mul h1 (Nat.mul_le_mul h4 h5)
  have e1 : 3125 ^ rc r * 3125 ^ (6 - rc r) = 3125 ^ 6 := by rw [← Nat.pow_add]; congr 1; omega
  have e2 : 8192 ^ rc r * 8192 ^ (6 - rc r) = 8192 ^ 6 := by rw [← Nat.pow_add]; congr 1; omega
  have e3 : 4 ^ sm (rc r) (fun i => nP r i) * 4 ^ (32 - sm (rc r) (fun i => nP r i)) = 4 ^ 32 := by rw [← Nat.pow_add]; congr 1; omega
  have e4 : 5 ^ sm (rc r) (fun i => nP r i) * 5 ^ (32 - sm (rc r) (fun i => nP r i)) = 5 ^ 32 := by rw [← Nat.pow_add]; congr 1; omega
  have e5 : pF r (rc r) * (3125 ^ rc r * 4 ^ sm (rc r) (fun i => nP r i)) * (3125 ^ (6 - rc r) * 4 ^ (32 - sm (rc r) (fun i => nP r i))) = pF r (rc r) * (3125 ^ 6 * 4 ^ 32) := by
    rw [← e1, ← e3]; ac_rfl
  have e6 : 8192 ^ rc r * 5 ^ sm (rc r) (fun i => nP r i) * (8192 ^ (6 - rc r) * 5 ^ (32 - sm (rc r) (fun i => nP r i))) = 409600 * (3125 ^ 6 * 4 ^ 32) := by
    have : (409600 : Nat) * (3125 ^ 6 * 4 ^ 32) = 8192 ^ 6 * 5 ^ 32 := by decide
    rw [this, ← e2, ← e4]; ac_rfl
  rw [e5, e6] at h6
  exact Nat.le_of_mul_le_mul_right h6 (by decide)
theorem lcR_dvd {r : Row} {B : Nat} (hv : Vr r B) : ∀ k, k ≤ rc r → lcR r k ∣ 4658179125600 * pF r k
  | 0, _ => Nat.one_dvd _
  | k + 1, hk => by
    have q := hv.rg (i := k) (by omega)
    have e : 4658179125600 * pF r (k + 1) = 4658179125600 * pF r k * fsN (nP r k) (rg r k 3) := by rw [pF]; ac_rfl
    rw [lcR]
    refine Nat.lcm_dvd ?_ ?_
    · rw [e]
      exact Nat.dvd_trans (lcR_dvd hv k (by omega)) (Nat.dvd_mul_right _ _)
    · unfold tN
      split
      · have h1 : rg r k 2 ∣ 4658179125600 := Nat.dvd_trans (dv30d q.2.2.2.1 q.2.2.2.2.1) ⟨2, by decide⟩
        have h2 : 4658179125600 * pF r (k + 1) = 4658179125600 * fsN (nP r k) (rg r k 3) * pF r k := by rw [pF]; ac_rfl
        rw [h2]
        exact Nat.dvd_trans (Nat.mul_dvd_mul h1 (Nat.dvd_refl _)) (Nat.dvd_mul_right _ _)
      · exact Nat.one_dvd _
theorem lcG_dvd {r : Row} {B : Nat} (hv : Vr r B) : ∀ k, k ≤ gc r → lcG r k ∣ 4658179125600 * pF r (rc r)
  | 0, _ => lcR_dvd hv _ (Nat.le_refl _)
  | k + 1, hk => by
    have q := hv.gl (i := k) (by omega)
    rw [lcG]
    refine Nat.lcm_dvd (lcG_dvd hv k (by omega)) ?_
    have h1 : 2 * gl r k 2 ∣ 2 * 2329089562800 := Nat.mul_dvd_mul (Nat.dvd_refl 2) (dv30d q.2.2.1 q.2.2.2.1)
    exact Nat.dvd_trans h1 (Nat.dvd_mul_right _ _)
theorem big_le {r : Row} {B : Nat} (hv : Vr r B) : 4658179125600 * pF r (rc r) ≤ 2000000000000000000 := by
  have := Nat.mul_le_mul_left 4658179125600 (pF_le hv)
  omega
theorem pF_mono {r : Row} {B : Nat} (hv : Vr r B) : ∀ d k, k + d ≤ rc r → pF r k ≤ pF r (k + d)
  | 0, _, _ => Nat.le_refl _
  | d + 1, k, h => by
    have q := hv.rg (i := k + d) (by omega)
    have h1 := pF_mono hv d k (by omega)
    have h2 : pF r (k + d) ≤ pF r (k + d) * fsN (nP r (k + d)) (rg r (k + d) 3) := Nat.le_mul_of_pos_right _ (fsN_le (by unfold nP; omega)).1
    exact Nat.le_trans h1 h2
theorem lcR_b {r : Row} {B : Nat} (hv : Vr r B) {k : Nat} (hk : k ≤ rc r) : lcR r k ≤ 2000000000000000000 := by
  have h1 := Nat.le_of_dvd (Nat.mul_pos (by decide) (pF_pos hv k hk)) (lcR_dvd hv k hk)
  have h2 := pF_mono hv (rc r - k) k (by omega)
  rw [show k + (rc r - k) = rc r by omega] at h2
  have h3 := Nat.mul_le_mul_left 4658179125600 h2
  have := big_le hv
  omega
theorem lcG_b {r : Row} {B : Nat} (hv : Vr r B) {k : Nat} (hk : k ≤ gc r) : lcG r k ≤ 2000000000000000000 :=
  Nat.le_trans (Nat.le_of_dvd (Nat.mul_pos (by decide) (pF_pos hv _ (Nat.le_refl _))) (lcG_dvd hv k hk)) (big_le hv)
theorem tN_b {r : Row} {B : Nat} (hv : Vr r B) {k : Nat} (hk : k < rc r) : 0 < tN r k ∧ tN r k ≤ 1860 := by
  have q := hv.rg hk
  have hn : 2 ≤ nP r k ∧ nP r k ≤ 32 := by unfold nP; omega
  have hf := fsN_le (w := rg r k 3) hn.1
  unfold tN
  split
  · have h1 : rg r k 2 * fsN (nP r k) (rg r k 3) ≤ 30 * 62 := Nat.mul_le_mul (by omega) (by omega)
    exact ⟨Nat.mul_pos q.2.2.2.1 hf.1, by omega⟩
  · omega
theorem lcR_pos {r : Row} {B : Nat} (hv : Vr r B) : ∀ k, k ≤ rc r → 0 < lcR r k
  | 0, _ => Nat.one_pos
  | k + 1, hk => Nat.lcm_pos (lcR_pos hv k (by omega)) (tN_b hv (by omega)).1
theorem lcG_pos {r : Row} {B : Nat} (hv : Vr r B) : ∀ k, k ≤ gc r → 0 < lcG r k
  | 0, _ => lcR_pos hv _ (Nat.le_refl _)
  | k + 1, hk => Nat.lcm_pos (lcG_pos hv k (by omega)) (by have := (hv.gl (i := k) (by omega)).2.2.1; omega)
theorem lcm_dm {a b : Nat} : a / Nat.gcd a b * b = Nat.lcm a b := by
  unfold Nat.lcm
  rw [Nat.mul_comm a b, Nat.mul_div_assoc b (Nat.gcd_dvd_left a b), Nat.mul_comm]
theorem mod_half {d e : Nat} (h0 : 0 < e) (h : e < d) : 2 * (d % e) < d := by
  have h1 := Nat.div_add_mod d e
  have h2 := Nat.mod_lt d h0
  have h3 : e ≤ e * (d / e) := Nat.le_mul_of_pos_right e (Nat.div_pos (by omega) h0)
  omega
theorem gcd_st (d e : Nat) : Nat.gcd e (d % e) = Nat.gcd d e := by
  rw [Nat.gcd_comm, ← Nat.gcd_rec, Nat.gcd_comm]
theorem zcmp0 {x y : Int64} : lg_cmp x y = 0 ↔ x = y := by
  unfold lg_cmp
  by_cases h : x > y
  · rw [if_pos h]
    refine ⟨fun q => absurd q (by decide), fun q => ?_⟩
    rw [q] at h
    exact absurd h (Int64.lt_irrefl)
  · rw [if_neg h]
    by_cases e : x = y
    · rw [if_pos e]
      exact ⟨fun _ => e, fun _ => rfl⟩
    · rw [if_neg e]
      exact ⟨fun q => absurd q (by decide), fun q => absurd q e⟩
