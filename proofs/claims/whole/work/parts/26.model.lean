/-! ===== the model: its cells, what it stands for ===== -/
abbrev GB : Type := (Nat → Int32) × Int32 × (Nat → Int32) × Int32
abbrev GC : Type := (Nat → Int32) × (Nat → Int32) × (Nat → Int32) × (Nat → Int32)
abbrev GD : Type := (Nat → Int32) × Int32
abbrev GP : Type := Int32 × Int32 × (Nat → Int32) × (Nat → Int32) × (Nat → Int32) × Int32 × Int32 × Int32
/-- the model's twelve cells: its row; history, states, snapshot, isKept; aside, colours, isMarked, before; text, length; place, depth, hasItem, times, begin, allTicks, allItems, greatest -/
def MX (E : gE) (g : Mem) (row : Nat → Int32) (B : GB) (C : GC) (D : GD) (P : GP) : Prop :=
  12 ≤ eK E ∧ g 0 = oB 6 [rf E 1, rf E 2, .int B.2.1, rf E 3, .int B.2.2.2, rf E 4, rf E 5, rf E 6, .int D.2, .int P.1, .int P.2.1, rf E 7, rf E 8, rf E 9, .int P.2.2.2.2.2.1, .int P.2.2.2.2.2.2.1, .int P.2.2.2.2.2.2.2, rf E 10, rf E 11] ∧
  g 1 = aI E 0 158 row ∧ g 2 = aI E 0 632 B.1 ∧ g 3 = aI E 0 158 B.2.2.1 ∧ g 4 = aI E 0 158 C.1 ∧ g 5 = aI E 0 32 C.2.1 ∧ g 6 = aI E 0 60 D.1 ∧ g 7 = aI E 2 32 P.2.2.1 ∧ g 8 = aI E 0 32 P.2.2.2.1 ∧ g 9 = aI E 0 32 P.2.2.2.2.1 ∧ g 10 = aI E 2 64 C.2.2.1 ∧ g 11 = aI E 0 64 C.2.2.2
section MXs
variable {E : gE} {g : Mem} {row : Nat → Int32} {B : GB} {C : GC} {D : GD} {P : GP}
theorem MX.k (h : MX E g row B C D P) : 12 ≤ eK E := h.1
theorem MX.a0 (h : MX E g row B C D P) : g 0 = oB 6 [rf E 1, rf E 2, .int B.2.1, rf E 3, .int B.2.2.2, rf E 4, rf E 5, rf E 6, .int D.2, .int P.1, .int P.2.1, rf E 7, rf E 8, rf E 9, .int P.2.2.2.2.2.1, .int P.2.2.2.2.2.2.1, .int P.2.2.2.2.2.2.2, rf E 10, rf E 11] := h.2.1
theorem MX.a1 (h : MX E g row B C D P) : g 1 = aI E 0 158 row := h.2.2.1
theorem MX.a2 (h : MX E g row B C D P) : g 2 = aI E 0 632 B.1 := h.2.2.2.1
theorem MX.a3 (h : MX E g row B C D P) : g 3 = aI E 0 158 B.2.2.1 := h.2.2.2.2.1
theorem MX.a4 (h : MX E g row B C D P) : g 4 = aI E 0 158 C.1 := h.2.2.2.2.2.1
theorem MX.a5 (h : MX E g row B C D P) : g 5 = aI E 0 32 C.2.1 := h.2.2.2.2.2.2.1
theorem MX.a6 (h : MX E g row B C D P) : g 6 = aI E 0 60 D.1 := h.2.2.2.2.2.2.2.1
theorem MX.a7 (h : MX E g row B C D P) : g 7 = aI E 2 32 P.2.2.1 := h.2.2.2.2.2.2.2.2.1
theorem MX.a8 (h : MX E g row B C D P) : g 8 = aI E 0 32 P.2.2.2.1 := h.2.2.2.2.2.2.2.2.2.1
theorem MX.a9 (h : MX E g row B C D P) : g 9 = aI E 0 32 P.2.2.2.2.1 := h.2.2.2.2.2.2.2.2.2.2.1
theorem MX.a10 (h : MX E g row B C D P) : g 10 = aI E 2 64 C.2.2.1 := h.2.2.2.2.2.2.2.2.2.2.2.1
theorem MX.a11 (h : MX E g row B C D P) : g 11 = aI E 0 64 C.2.2.2 := h.2.2.2.2.2.2.2.2.2.2.2.2
theorem MX.u0 (h : MX E g row B C D P) (st kp ln pl dp aT aI gr : Int32) : MX E (va_up g 0 (oB 6 [rf E 1, rf E 2, .int st, rf E 3, .int kp, rf E 4, rf E 5, rf E 6, .int ln, .int pl, .int dp, rf E 7, rf E 8, rf E 9, .int aT, .int aI, .int gr, rf E 10, rf E 11])) row (B.1, st, B.2.2.1, kp) C (D.1, ln) (pl, dp, P.2.2.1, P.2.2.2.1, P.2.2.2.2.1, aT, aI, gr) :=
  ⟨h.1, va_up_self _ _ _, (va_up_ne _ _ (by decide)).trans h.a1, (va_up_ne _ _ (by decide)).trans h.a2, (va_up_ne _ _ (by decide)).trans h.a3, (va_up_ne _ _ (by decide)).trans h.a4, (va_up_ne _ _ (by decide)).trans h.a5, (va_up_ne _ _ (by decide)).trans h.a6, (va_up_ne _ _ (by decide)).trans h.a7, (va_up_ne _ _ (by decide)).trans h.a8, (va_up_ne _ _ (by decide)).trans h.a9, (va_up_ne _ _ (by decide)).trans h.a10, (va_up_ne _ _ (by decide)).trans h.a11⟩
theorem MX.u1 (h : MX E g row B C D P) (x : Nat → Int32) : MX E (va_up g 1 (aI E 0 158 x)) x B C D P := ⟨h.1, (va_up_ne _ _ (by decide)).trans h.a0, va_up_self _ _ _, (va_up_ne _ _ (by decide)).trans h.a2, (va_up_ne _ _ (by decide)).trans h.a3, (va_up_ne _ _ (by decide)).trans h.a4, (va_up_ne _ _ (by decide)).trans h.a5, (va_up_ne _ _ (by decide)).trans h.a6, (va_up_ne _ _ (by decide)).trans h.a7, (va_up_ne _ _ (by decide)).trans h.a8, (va_up_ne _ _ (by decide)).trans h.a9, (va_up_ne _ _ (by decide)).trans h.a10, (va_up_ne _ _ (by decide)).trans h.a11⟩
theorem MX.u2 (h : MX E g row B C D P) (x : Nat → Int32) : MX E (va_up g 2 (aI E 0 632 x)) row (x, B.2) C D P := ⟨h.1, (va_up_ne _ _ (by decide)).trans h.a0, (va_up_ne _ _ (by decide)).trans h.a1, va_up_self _ _ _, (va_up_ne _ _ (by decide)).trans h.a3, (va_up_ne _ _ (by decide)).trans h.a4, (va_up_ne _ _ (by decide)).trans h.a5, (va_up_ne _ _ (by decide)).trans h.a6, (va_up_ne _ _ (by decide)).trans h.a7, (va_up_ne _ _ (by decide)).trans h.a8, (va_up_ne _ _ (by decide)).trans h.a9, (va_up_ne _ _ (by decide)).trans h.a10, (va_up_ne _ _ (by decide)).trans h.a11⟩
theorem MX.u3 (h : MX E g row B C D P) (x : Nat → Int32) : MX E (va_up g 3 (aI E 0 158 x)) row (B.1, B.2.1, x, B.2.2.2) C D P := ⟨h.1, (va_up_ne _ _ (by decide)).trans h.a0, (va_up_ne _ _ (by decide)).trans h.a1, (va_up_ne _ _ (by decide)).trans h.a2, va_up_self _ _ _, (va_up_ne _ _ (by decide)).trans h.a4, (va_up_ne _ _ (by decide)).trans h.a5, (va_up_ne _ _ (by decide)).trans h.a6, (va_up_ne _ _ (by decide)).trans h.a7, (va_up_ne _ _ (by decide)).trans h.a8, (va_up_ne _ _ (by decide)).trans h.a9, (va_up_ne _ _ (by decide)).trans h.a10, (va_up_ne _ _ (by decide)).trans h.a11⟩
theorem MX.u4 (h : MX E g row B C D P) (x : Nat → Int32) : MX E (va_up g 4 (aI E 0 158 x)) row B (x, C.2) D P := ⟨h.1, (va_up_ne _ _ (by decide)).trans h.a0, (va_up_ne _ _ (by decide)).trans h.a1, (va_up_ne _ _ (by decide)).trans h.a2, (va_up_ne _ _ (by decide)).trans h.a3, va_up_self _ _ _, (va_up_ne _ _ (by decide)).trans h.a5, (va_up_ne _ _ (by decide)).trans h.a6, (va_up_ne _ _ (by decide)).trans h.a7, (va_up_ne _ _ (by decide)).trans h.a8, (va_up_ne _ _ (by decide)).trans h.a9, (va_up_ne _ _ (by decide)).trans h.a10, (va_up_ne _ _ (by decide)).trans h.a11⟩
theorem MX.u5 (h : MX E g row B C D P) (x : Nat → Int32) : MX E (va_up g 5 (aI E 0 32 x)) row B (C.1, x, C.2.2) D P := ⟨h.1, (va_up_ne _ _ (by decide)).trans h.a0, (va_up_ne _ _ (by decide)).trans h.a1, (va_up_ne _ _ (by decide)).trans h.a2, (va_up_ne _ _ (by decide)).trans h.a3, (va_up_ne _ _ (by decide)).trans h.a4, va_up_self _ _ _, (va_up_ne _ _ (by decide)).trans h.a6, (va_up_ne _ _ (by decide)).trans h.a7, (va_up_ne _ _ (by decide)).trans h.a8, (va_up_ne _ _ (by decide)).trans h.a9, (va_up_ne _ _ (by decide)).trans h.a10, (va_up_ne _ _ (by decide)).trans h.a11⟩
theorem MX.u6 (h : MX E g row B C D P) (x : Nat → Int32) : MX E (va_up g 6 (aI E 0 60 x)) row B C (x, D.2) P := ⟨h.1, (va_up_ne _ _ (by decide)).trans h.a0, (va_up_ne _ _ (by decide)).trans h.a1, (va_up_ne _ _ (by decide)).trans h.a2, (va_up_ne _ _ (by decide)).trans h.a3, (va_up_ne _ _ (by decide)).trans h.a4, (va_up_ne _ _ (by decide)).trans h.a5, va_up_self _ _ _, (va_up_ne _ _ (by decide)).trans h.a7, (va_up_ne _ _ (by decide)).trans h.a8, (va_up_ne _ _ (by decide)).trans h.a9, (va_up_ne _ _ (by decide)).trans h.a10, (va_up_ne _ _ (by decide)).trans h.a11⟩
theorem MX.u7 (h : MX E g row B C D P) (x : Nat → Int32) : MX E (va_up g 7 (aI E 2 32 x)) row B C D (P.1, P.2.1, x, P.2.2.2) := ⟨h.1, (va_up_ne _ _ (by decide)).trans h.a0, (va_up_ne _ _ (by decide)).trans h.a1, (va_up_ne _ _ (by decide)).trans h.a2, (va_up_ne _ _ (by decide)).trans h.a3, (va_up_ne _ _ (by decide)).trans h.a4, (va_up_ne _ _ (by decide)).trans h.a5, (va_up_ne _ _ (by decide)).trans h.a6, va_up_self _ _ _, (va_up_ne _ _ (by decide)).trans h.a8, (va_up_ne _ _ (by decide)).trans h.a9, (va_up_ne _ _ (by decide)).trans h.a10, (va_up_ne _ _ (by decide)).trans h.a11⟩
theorem MX.u8 (h : MX E g row B C D P) (x : Nat → Int32) : MX E (va_up g 8 (aI E 0 32 x)) row B C D (P.1, P.2.1, P.2.2.1, x, P.2.2.2.2) := ⟨h.1, (va_up_ne _ _ (by decide)).trans h.a0, (va_up_ne _ _ (by decide)).trans h.a1, (va_up_ne _ _ (by decide)).trans h.a2, (va_up_ne _ _ (by decide)).trans h.a3, (va_up_ne _ _ (by decide)).trans h.a4, (va_up_ne _ _ (by decide)).trans h.a5, (va_up_ne _ _ (by decide)).trans h.a6, (va_up_ne _ _ (by decide)).trans h.a7, va_up_self _ _ _, (va_up_ne _ _ (by decide)).trans h.a9, (va_up_ne _ _ (by decide)).trans h.a10, (va_up_ne _ _ (by decide)).trans h.a11⟩
theorem MX.u9 (h : MX E g row B C D P) (x : Nat → Int32) : MX E (va_up g 9 (aI E 0 32 x)) row B C D (P.1, P.2.1, P.2.2.1, P.2.2.2.1, x, P.2.2.2.2.2) := ⟨h.1, (va_up_ne _ _ (by decide)).trans h.a0, (va_up_ne _ _ (by decide)).trans h.a1, (va_up_ne _ _ (by decide)).trans h.a2, (va_up_ne _ _ (by decide)).trans h.a3, (va_up_ne _ _ (by decide)).trans h.a4, (va_up_ne _ _ (by decide)).trans h.a5, (va_up_ne _ _ (by decide)).trans h.a6, (va_up_ne _ _ (by decide)).trans h.a7, (va_up_ne _ _ (by decide)).trans h.a8, va_up_self _ _ _, (va_up_ne _ _ (by decide)).trans h.a10, (va_up_ne _ _ (by decide)).trans h.a11⟩
theorem MX.u10 (h : MX E g row B C D P) (x : Nat → Int32) : MX E (va_up g 10 (aI E 2 64 x)) row B (C.1, C.2.1, x, C.2.2.2) D P := ⟨h.1, (va_up_ne _ _ (by decide)).trans h.a0, (va_up_ne _ _ (by decide)).trans h.a1, (va_up_ne _ _ (by decide)).trans h.a2, (va_up_ne _ _ (by decide)).trans h.a3, (va_up_ne _ _ (by decide)).trans h.a4, (va_up_ne _ _ (by decide)).trans h.a5, (va_up_ne _ _ (by decide)).trans h.a6, (va_up_ne _ _ (by decide)).trans h.a7, (va_up_ne _ _ (by decide)).trans h.a8, (va_up_ne _ _ (by decide)).trans h.a9, va_up_self _ _ _, (va_up_ne _ _ (by decide)).trans h.a11⟩
theorem MX.u11 (h : MX E g row B C D P) (x : Nat → Int32) : MX E (va_up g 11 (aI E 0 64 x)) row B (C.1, C.2.1, C.2.2.1, x) D P := ⟨h.1, (va_up_ne _ _ (by decide)).trans h.a0, (va_up_ne _ _ (by decide)).trans h.a1, (va_up_ne _ _ (by decide)).trans h.a2, (va_up_ne _ _ (by decide)).trans h.a3, (va_up_ne _ _ (by decide)).trans h.a4, (va_up_ne _ _ (by decide)).trans h.a5, (va_up_ne _ _ (by decide)).trans h.a6, (va_up_ne _ _ (by decide)).trans h.a7, (va_up_ne _ _ (by decide)).trans h.a8, (va_up_ne _ _ (by decide)).trans h.a9, (va_up_ne _ _ (by decide)).trans h.a10, va_up_self _ _ _⟩
end MXs
/-- the model stands for S -/
def MZ (E : gE) (g : Mem) (S : AS) : Prop := ∃ (row hi sn tx : Nat → Int32) (C : GC) (P : GP), MX E g row (hi, nI S.c, sn, nI S.kp) C (tx, nI S.ln) P ∧ (∀ k, k < 158 → row k = S.r k) ∧
  (∀ i, i < S.c → ∀ k, k < 158 → hi (158 * i + k) = S.hr i k) ∧ (S.kp = 1 → ∀ k, k < 158 → sn k = S.sn k) ∧ (∀ k, k < S.ln → tx k = nI (S.tx k))
theorem nI_m5 {i : Nat} (h : i < 2147483648) : ¬ nI i = -5 := fun q => by
  have h1 := congrArg Int32.toInt q
  rw [tI h] at h1
  have : (-5 : Int32).toInt = -5 := by decide
  omega
def oI (o : Option Nat) : Int32 := match o with
  | none => -5
  | some i => nI i
/-- the last of the first k for which it holds -/
def lst (P : Nat → Bool) : Nat → Option Nat
  | 0 => none
  | k + 1 => if P k then some k else lst P k
theorem lst_fst {P : Nat → Bool} : ∀ {n : Nat}, (∀ i j, i < j → j < n → ¬ (P i = true ∧ P j = true)) → lst P n = fst n P
  | 0, _ => (fst_none (fun k hk => absurd hk (Nat.not_lt_zero k))).symm
  | n + 1, h => by
    have ih := lst_fst (n := n) (fun i j hij hj => h i j hij (by omega))
    rw [lst]
    by_cases q : P n = true
    · rw [if_pos q]
      exact (fst_some (by omega) q (fun k hk => by
        cases e : P k with
        | false => rfl
        | true => exact absurd ⟨e, q⟩ (h k n hk (by omega)))).symm
    · rw [if_neg q, ih]
      cases e : fst n P with
      | none => exact (fst_none (fun k hk => by
          by_cases e2 : k = n
          · rw [e2]; simpa using q
          · exact fst_invn e k (by omega))).symm
      | some i =>
        obtain ⟨h1, h2, h3⟩ := fst_inv e
        exact (fst_some (by omega) h2 h3).symm
def hldP (r : Row) (p : Nat) (i : Nat) : Bool := decide (rg r i 0 ≤ p ∧ p ≤ rg r i 1)
def glwP (r : Row) (p : Nat) (i : Nat) : Bool := decide (gl r i 0 = p)
theorem rAt_lst {r : Row} {B p : Nat} (hv : Vr r B) : lst (hldP r p) (rc r) = rAt r p := lst_fst (fun i j hij hj => by
  unfold hldP
  rw [decide_eq_true_eq, decide_eq_true_eq]
  have := hv.2.2.2.1 i j hij hj
  omega)
theorem gAt_lst {r : Row} {B p : Nat} (hv : Vr r B) : lst (glwP r p) (gc r) = gAt r p := lst_fst (fun i j hij hj => by
  unfold glwP
  rw [decide_eq_true_eq, decide_eq_true_eq]
  have := hv.2.2.2.2.2.1 i j hij hj
  omega)
theorem rAt_in {r : Row} {p i : Nat} (h : rAt r p = some i) : i < rc r ∧ rg r i 0 ≤ p ∧ p ≤ rg r i 1 := by
  obtain ⟨h1, h2, -⟩ := fst_inv h
  exact ⟨h1, of_decide_eq_true h2⟩
theorem gAt_in {r : Row} {p i : Nat} (h : gAt r p = some i) : i < gc r ∧ gl r i 0 = p := by
  obtain ⟨h1, h2, -⟩ := fst_inv h
  exact ⟨h1, of_decide_eq_true h2⟩
/-- one of the first k overlaps -/
def ovN (r : Row) (f la : Nat) : Nat → Bool
  | 0 => false
  | k + 1 => ovN r f la k || decide (f ≤ rg r k 1 ∧ rg r k 0 ≤ la)
theorem ovN_iff {r : Row} {f la : Nat} : ∀ {k : Nat}, ovN r f la k = true ↔ ∃ i, i < k ∧ f ≤ rg r i 1 ∧ rg r i 0 ≤ la
  | 0 => by simp [ovN]
  | k + 1 => by
    rw [ovN, Bool.or_eq_true, decide_eq_true_eq, ovN_iff]
    constructor
    · rintro (⟨i, h1, h2⟩ | h)
      · exact ⟨i, by omega, h2⟩
      · exact ⟨k, by omega, h⟩
    · rintro ⟨i, h1, h2⟩
      by_cases e : i = k
      · exact Or.inr (e ▸ h2)
      · exact Or.inl ⟨i, by omega, h2⟩
theorem ovl_ovN {r : Row} {f la : Nat} : ovl r f la = true ↔ ovN r f la (rc r) = true := by
  rw [ovN_iff]
  unfold ovl
  cases e : fst (rc r) (fun i => decide (rg r i 0 ≤ la ∧ f ≤ rg r i 1)) with
  | none =>
    refine ⟨fun h => (by cases h), fun ⟨i, h1, h2, h3⟩ => ?_⟩
    have := fst_invn e i h1
    rw [decide_eq_false_iff_not] at this
    exact absurd ⟨h3, h2⟩ this
  | some i =>
    obtain ⟨h1, h2, -⟩ := fst_inv e
    have := of_decide_eq_true h2
    exact ⟨fun _ => ⟨i, h1, this.2, this.1⟩, fun _ => rfl⟩
theorem tuN_0 {r : Row} {B i : Nat} (hv : Vr r B) (hi : i < rc r) : tuN r i 0 = tnN (nP r i) (rg r i 3) (rg r i 6) := by
  obtain ⟨q1, q2, q3, q4, q5, q6, q7, q8, q9⟩ := hv.rg hi
  unfold tuN mdN
  rw [Nat.add_zero, Nat.div_eq_of_lt q8, Nat.add_zero]
  split <;> rfl
theorem stN_0 {len ti : Nat} (h : ti < 2 * len) : stN len ti 0 = if ti ≤ len then ti else 2 * len - ti := by
  unfold stN
  rw [Nat.add_zero, Nat.mod_eq_of_lt h]
theorem ishl0 (x : Int32) : x <<< (nI 0 &&& 31) = x := by
  rw [show (nI 0 &&& 31 : Int32) = 0 from by decide]
  exact Int32.shiftLeft_zero
