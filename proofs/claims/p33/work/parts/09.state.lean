/-! ===== a state of the class and the row that it stands for ===== -/
/-- the first of n for which it holds -/
def fst (n : Nat) (P : Nat → Bool) : Option Nat := (List.range n).find? P
theorem fst_some {n i : Nat} {P : Nat → Bool} (hi : i < n) (h : P i = true) (hk : ∀ k, k < i → P k = false) : fst n P = some i := by
  unfold fst
  rw [List.find?_range_eq_some]
  exact ⟨h, List.mem_range.mpr hi, fun j hj => by simp [hk j hj]⟩
theorem fst_none {n : Nat} {P : Nat → Bool} (hk : ∀ k, k < n → P k = false) : fst n P = none := by
  unfold fst
  rw [List.find?_range_eq_none]
  intro j hj
  simp [hk j hj]
theorem fst_inv {n i : Nat} {P : Nat → Bool} (h : fst n P = some i) : i < n ∧ P i = true ∧ ∀ k, k < i → P k = false := by
  unfold fst at h
  rw [List.find?_range_eq_some] at h
  exact ⟨List.mem_range.mp h.2.1, h.1, fun k hk => by simpa using h.2.2 k hk⟩
theorem fst_invn {n : Nat} {P : Nat → Bool} (h : fst n P = none) : ∀ k, k < n → P k = false := by
  unfold fst at h
  rw [List.find?_range_eq_none] at h
  intro k hk
  simpa using h k hk
/-- sums, counts -/
def sm : Nat → (Nat → Nat) → Nat
  | 0, _ => 0
  | n + 1, f => sm n f + f n
theorem sm_cg : ∀ {n : Nat} {f h : Nat → Nat}, (∀ k, k < n → f k = h k) → sm n f = sm n h
  | 0, _, _, _ => rfl
  | n + 1, f, h, e => by rw [sm, sm, sm_cg (fun k hk => e k (by omega)), e n (by omega)]
theorem sm_le : ∀ {n c : Nat} {f : Nat → Nat}, (∀ k, k < n → f k ≤ c) → sm n f ≤ n * c
  | 0, _, _, _ => by simp [sm]
  | n + 1, c, f, e => by
    have h1 := sm_le (n := n) (c := c) (f := f) (fun k hk => e k (by omega))
    have h2 := e n (by omega)
    rw [sm, Nat.succ_mul]
    omega
def cn (n : Nat) (P : Nat → Bool) : Nat := sm n (fun i => if P i then 1 else 0)
theorem cn_le (n : Nat) (P : Nat → Bool) : cn n P ≤ n := by
  have := sm_le (n := n) (c := 1) (f := fun i => if P i then 1 else 0) (fun k _ => by split <;> omega)
  unfold cn
  omega
theorem cn_s (n : Nat) (P : Nat → Bool) : cn (n + 1) P = cn n P + if P n then 1 else 0 := rfl
theorem cn_cg {n : Nat} {P Q : Nat → Bool} (h : ∀ k, k < n → P k = Q k) : cn n P = cn n Q := sm_cg (fun k hk => by rw [h k hk])
/-- what ranges, glows hold a place; what is turned to it, shown at it some ticks later -/
def rAt (r : Row) (p : Nat) : Option Nat := fst (rc r) (fun i => decide (rg r i 0 ≤ p ∧ p ≤ rg r i 1))
def gAt (r : Row) (p : Nat) : Option Nat := fst (gc r) (fun i => decide (gl r i 0 = p))
def nP (r : Row) (i : Nat) : Nat := rg r i 1 - rg r i 0 + 1
def tuN (r : Row) (i t : Nat) : Nat := tnN (nP r i) (rg r i 3) (mdN (rg r i 2) (rg r i 4) (rg r i 5) (rg r i 6) t)
def tnd (r : Row) (p t : Nat) : Int32 := match rAt r p with
  | none => r p
  | some i => r (srN (rg r i 0) (nP r i) p (tuN r i t))
def shd (r : Row) (p t : Nat) : Int32 := match gAt r p with
  | none => tnd r p t
  | some i => cMix (tnd r p t) (r (76 + 4 * i + 1)) (nI (stN (gl r i 2) (gl r i 3) t)) (nI (gl r i 2))
def ovl (r : Row) (f la : Nat) : Bool := (fst (rc r) (fun i => decide (rg r i 0 ≤ la ∧ f ≤ rg r i 1))).isSome
def mvs (r : Row) (p : Nat) : Bool := (match rAt r p with | none => false | some i => decide (rg r i 4 = 1)) || (gAt r p).isSome
def made (r : Row) (t : Nat) : Nat := sm (rc r) (fun i => if rg r i 4 = 1 then (rg r i 5 + t) / rg r i 2 else 0)
/-- a row as the document allows it, with steps and ticks up to B -/
def Vr (r : Row) (B : Nat) : Prop :=
  (r 32 = nI (rc r) ∧ rc r ≤ 6) ∧ (r 75 = nI (gc r) ∧ gc r ≤ 4) ∧
  (∀ i, i < rc r → (∀ j, j < 7 → r (33 + 7 * i + j) = nI (rg r i j)) ∧ rg r i 0 < rg r i 1 ∧ rg r i 1 < 32 ∧ 0 < rg r i 2 ∧ rg r i 2 ≤ 30 ∧ rg r i 3 ≤ 2 ∧ rg r i 4 ≤ 1 ∧ rg r i 5 < rg r i 2 ∧ rg r i 6 ≤ B) ∧
  (∀ i j, i < j → j < rc r → rg r i 1 < rg r j 0 ∨ rg r j 1 < rg r i 0) ∧
  (∀ i, i < gc r → (r (76 + 4 * i) = nI (gl r i 0) ∧ r (76 + 4 * i + 2) = nI (gl r i 2) ∧ r (76 + 4 * i + 3) = nI (gl r i 3)) ∧ gl r i 0 < 32 ∧ 0 < gl r i 2 ∧ gl r i 2 ≤ 30 ∧ gl r i 3 < 2 * gl r i 2) ∧
  (∀ i j, i < j → j < gc r → gl r i 0 ≠ gl r j 0) ∧
  (∀ p, p < 64 → r (92 + p) = nI (px r p) ∧ px r p < 32) ∧
  (r 156 = nI (nn (r 156)) ∧ nn (r 156) ≤ B) ∧ (r 157 = nI (nn (r 157)) ∧ nn (r 157) ≤ 7 * B)
theorem Vr.rg {r : Row} {B i : Nat} (h : Vr r B) (hi : i < rc r) : (∀ j, j < 7 → r (33 + 7 * i + j) = nI (rg r i j)) ∧ rg r i 0 < rg r i 1 ∧ rg r i 1 < 32 ∧ 0 < rg r i 2 ∧ rg r i 2 ≤ 30 ∧ rg r i 3 ≤ 2 ∧ rg r i 4 ≤ 1 ∧ rg r i 5 < rg r i 2 ∧ rg r i 6 ≤ B := h.2.2.1 i hi
theorem Vr.gl {r : Row} {B i : Nat} (h : Vr r B) (hi : i < gc r) : (r (76 + 4 * i) = nI (gl r i 0) ∧ r (76 + 4 * i + 2) = nI (gl r i 2) ∧ r (76 + 4 * i + 3) = nI (gl r i 3)) ∧ gl r i 0 < 32 ∧ 0 < gl r i 2 ∧ gl r i 2 ≤ 30 ∧ gl r i 3 < 2 * gl r i 2 := h.2.2.2.2.1 i hi
def rFs (v : Nat → Int32) : List Value := [.int (v 0), .int (v 1), .int (v 2), .int (v 3), .int (v 4), .int (v 5), .int (v 6)]
def gFs (v : Nat → Int32) : List Value := [.int (v 0), .int (v 1), .int (v 2), .int (v 3)]
def v7 (a0 a1 a2 a3 a4 a5 a6 : Int32) : Nat → Int32 := fun j => match j with
  | 0 => a0
  | 1 => a1
  | 2 => a2
  | 3 => a3
  | 4 => a4
  | 5 => a5
  | _ => a6
def v4 (a0 a1 a2 a3 : Int32) : Nat → Int32 := fun j => match j with
  | 0 => a0
  | 1 => a1
  | 2 => a2
  | _ => a3
/-- different places, each below n -/
def Pm (n : Nat) (π : Nat → Nat) : Prop := (∀ i, i < n → π i < n) ∧ ∀ i j, i < n → j < n → π i = π j → i = j
/-- the fifteen cells of a state at role b, by what they hold; outside them the memory is as g0 has it -/
def SF (E : gE) (g0 g : Mem) (b : Nat) (co pi : Nat → Int32) (π ρ : Nat → Nat) (V U : Nat → Nat → Int32) (n : Nat → Int32) : Prop :=
  b + 15 ≤ eK E ∧ (∀ k, k < b ∨ b + 15 ≤ k → g k = g0 k) ∧ g b = oB 4 [rf E (b + 1), rf E (b + 2), rf E (b + 3), rf E (b + 4), .int (n 0), .int (n 1), .int (n 2), .int (n 3)] ∧
  g (b + 1) = aI E 0 32 co ∧ g (b + 2) = aI E 0 64 pi ∧ g (b + 3) = aR E 3 6 (fun i => b + 5 + π i) ∧ g (b + 4) = aR E 4 4 (fun i => b + 11 + ρ i) ∧ Pm 6 π ∧ Pm 4 ρ ∧
  (∀ i, i < 6 → g (b + 5 + π i) = oB 3 (rFs (V i))) ∧ (∀ i, i < 4 → g (b + 11 + ρ i) = oB 0 (gFs (U i)))
/-- what the cells hold stands for the row r -/
def SR (co pi : Nat → Int32) (V U : Nat → Nat → Int32) (n : Nat → Int32) (r : Row) : Prop :=
  (∀ k, k < 32 → co k = r k) ∧ (∀ k, k < 64 → pi k = r (92 + k)) ∧ (n 0 = r 32 ∧ n 1 = r 75 ∧ n 2 = r 156 ∧ n 3 = r 157) ∧
  (∀ i, i < rc r → ∀ j, j < 7 → V i j = r (33 + 7 * i + j)) ∧ (∀ i, i < gc r → ∀ j, j < 4 → U i j = r (76 + 4 * i + j))
def StA (E : gE) (g : Mem) (b : Nat) (r : Row) : Prop := ∃ (co pi : Nat → Int32) (π ρ : Nat → Nat) (V U : Nat → Nat → Int32) (n : Nat → Int32), SF E g g b co pi π ρ V U n ∧ SR co pi V U n r
/-- outside the cells of the state at b nothing has changed -/
def Fr (b : Nat) (g0 g : Mem) : Prop := ∀ k, k < b ∨ b + 15 ≤ k → g k = g0 k
theorem SF.self {E : gE} {g0 g : Mem} {b : Nat} {co pi : Nat → Int32} {π ρ : Nat → Nat} {V U : Nat → Nat → Int32} {n : Nat → Int32} (h : SF E g0 g b co pi π ρ V U n) : SF E g g b co pi π ρ V U n := ⟨h.1, fun _ _ => rfl, h.2.2⟩
theorem SF.fr {E : gE} {g0 g : Mem} {b : Nat} {co pi : Nat → Int32} {π ρ : Nat → Nat} {V U : Nat → Nat → Int32} {n : Nat → Int32} (h : SF E g0 g b co pi π ρ V U n) : Fr b g0 g := h.2.1
theorem Fr.rf (b : Nat) (g : Mem) : Fr b g g := fun _ _ => rfl
theorem Fr.tr {b : Nat} {g0 g1 g2 : Mem} (h1 : Fr b g0 g1) (h2 : Fr b g1 g2) : Fr b g0 g2 := fun k hk => (h2 k hk).trans (h1 k hk)
theorem SF.on {E : gE} {g0 g g2 : Mem} {b b2 : Nat} {co pi : Nat → Int32} {π ρ : Nat → Nat} {V U : Nat → Nat → Int32} {n : Nat → Int32} (h : SF E g0 g b co pi π ρ V U n) (hf : Fr b2 g g2) (hd : b + 15 ≤ b2 ∨ b2 + 15 ≤ b) : SF E g2 g2 b co pi π ρ V U n := by
  obtain ⟨h0, -, h1, h2, h3, h4, h5, h6, h7, h8, h9⟩ := h
  have e : ∀ k, b ≤ k → k < b + 15 → g2 k = g k := fun k h1 h2 => hf k (by omega)
  refine ⟨h0, fun _ _ => rfl, (e _ (by omega) (by omega)).trans h1, (e _ (by omega) (by omega)).trans h2, (e _ (by omega) (by omega)).trans h3, (e _ (by omega) (by omega)).trans h4, (e _ (by omega) (by omega)).trans h5, h6, h7, fun i hi => ?_, fun i hi => ?_⟩
  · have := h6.1 i hi
    exact (e _ (by omega) (by omega)).trans (h8 i hi)
  · have := h7.1 i hi
    exact (e _ (by omega) (by omega)).trans (h9 i hi)
theorem StA.on {E : gE} {g g2 : Mem} {b b2 : Nat} {r : Row} (h : StA E g b r) (hf : Fr b2 g g2) (hd : b + 15 ≤ b2 ∨ b2 + 15 ≤ b) : StA E g2 b r := by
  obtain ⟨co, pi, π, ρ, V, U, n, h1, h2⟩ := h
  exact ⟨co, pi, π, ρ, V, U, n, h1.on hf hd, h2⟩
theorem StA.keep {E : gE} {g g2 : Mem} {b : Nat} {r : Row} (h : StA E g b r) (hf : ∀ k, b ≤ k → k < b + 15 → g2 k = g k) : StA E g2 b r := by
  obtain ⟨co, pi, π, ρ, V, U, n, ⟨h0, -, h1, h2, h3, h4, h5, h6, h7, h8, h9⟩, h10⟩ := h
  refine ⟨co, pi, π, ρ, V, U, n, ⟨h0, fun _ _ => rfl, (hf _ (by omega) (by omega)).trans h1, (hf _ (by omega) (by omega)).trans h2, (hf _ (by omega) (by omega)).trans h3, (hf _ (by omega) (by omega)).trans h4, (hf _ (by omega) (by omega)).trans h5, h6, h7, fun i hi => ?_, fun i hi => ?_⟩, h10⟩
  · have := h6.1 i hi
    exact (hf _ (by omega) (by omega)).trans (h8 i hi)
  · have := h7.1 i hi
    exact (hf _ (by omega) (by omega)).trans (h9 i hi)
theorem SR.cg {co pi : Nat → Int32} {V U : Nat → Nat → Int32} {n : Nat → Int32} {r r2 : Row} (h : SR co pi V U n r) (e : ∀ k, k < 158 → r2 k = r k) (hr : rc r ≤ 6) (hg : gc r ≤ 4) : SR co pi V U n r2 := by
  obtain ⟨h1, h2, ⟨h3, h4, h5, h6⟩, h7, h8⟩ := h
  have er : rc r2 = rc r := by unfold rc; rw [e 32 (by decide)]
  have eg : gc r2 = gc r := by unfold gc; rw [e 75 (by decide)]
  refine ⟨fun k hk => by rw [e k (by omega)]; exact h1 k hk, fun k hk => by rw [e _ (by omega)]; exact h2 k hk, ⟨by rw [e _ (by decide)]; exact h3, by rw [e _ (by decide)]; exact h4, by rw [e _ (by decide)]; exact h5, by rw [e _ (by decide)]; exact h6⟩, fun i hi j hj => ?_, fun i hi j hj => ?_⟩
  · rw [er] at hi
    rw [e _ (by omega)]
    exact h7 i hi j hj
  · rw [eg] at hi
    rw [e _ (by omega)]
    exact h8 i hi j hj
theorem StA.cg {E : gE} {g : Mem} {b : Nat} {r r2 : Row} (h : StA E g b r) (e : ∀ k, k < 158 → r2 k = r k) (hr : rc r ≤ 6) (hg : gc r ≤ 4) : StA E g b r2 := by
  obtain ⟨co, pi, π, ρ, V, U, n, h1, h2⟩ := h
  exact ⟨co, pi, π, ρ, V, U, n, h1, h2.cg e hr hg⟩
section SFu
variable {E : gE} {g0 g : Mem} {b : Nat} {co pi : Nat → Int32} {π ρ : Nat → Nat} {V U : Nat → Nat → Int32} {n : Nat → Int32}
theorem SF.upn (h : SF E g0 g b co pi π ρ V U n) (n2 : Nat → Int32) : SF E g0 (va_up g b (oB 4 [rf E (b + 1), rf E (b + 2), rf E (b + 3), rf E (b + 4), .int (n2 0), .int (n2 1), .int (n2 2), .int (n2 3)])) b co pi π ρ V U n2 := by
  obtain ⟨h0, hf, h1, h2, h3, h4, h5, h6, h7, h8, h9⟩ := h
  exact ⟨h0, fun k hk => (va_up_ne _ _ (by omega)).trans (hf k hk), va_up_self _ _ _, (va_up_ne _ _ (by omega)).trans h2, (va_up_ne _ _ (by omega)).trans h3, (va_up_ne _ _ (by omega)).trans h4, (va_up_ne _ _ (by omega)).trans h5, h6, h7, fun i hi => (va_up_ne _ _ (by omega)).trans (h8 i hi), fun i hi => (va_up_ne _ _ (by omega)).trans (h9 i hi)⟩
theorem SF.upco (h : SF E g0 g b co pi π ρ V U n) (co2 : Nat → Int32) : SF E g0 (va_up g (b + 1) (aI E 0 32 co2)) b co2 pi π ρ V U n := by
  obtain ⟨h0, hf, h1, h2, h3, h4, h5, h6, h7, h8, h9⟩ := h
  exact ⟨h0, fun k hk => (va_up_ne _ _ (by omega)).trans (hf k hk), (va_up_ne _ _ (by omega)).trans h1, va_up_self _ _ _, (va_up_ne _ _ (by omega)).trans h3, (va_up_ne _ _ (by omega)).trans h4, (va_up_ne _ _ (by omega)).trans h5, h6, h7, fun i hi => (va_up_ne _ _ (by omega)).trans (h8 i hi), fun i hi => (va_up_ne _ _ (by omega)).trans (h9 i hi)⟩
theorem SF.uppi (h : SF E g0 g b co pi π ρ V U n) (pi2 : Nat → Int32) : SF E g0 (va_up g (b + 2) (aI E 0 64 pi2)) b co pi2 π ρ V U n := by
  obtain ⟨h0, hf, h1, h2, h3, h4, h5, h6, h7, h8, h9⟩ := h
  exact ⟨h0, fun k hk => (va_up_ne _ _ (by omega)).trans (hf k hk), (va_up_ne _ _ (by omega)).trans h1, (va_up_ne _ _ (by omega)).trans h2, va_up_self _ _ _, (va_up_ne _ _ (by omega)).trans h4, (va_up_ne _ _ (by omega)).trans h5, h6, h7, fun i hi => (va_up_ne _ _ (by omega)).trans (h8 i hi), fun i hi => (va_up_ne _ _ (by omega)).trans (h9 i hi)⟩
theorem SF.upV (h : SF E g0 g b co pi π ρ V U n) {i : Nat} (hi : i < 6) (v : Nat → Int32) : SF E g0 (va_up g (b + 5 + π i) (oB 3 (rFs v))) b co pi π ρ (va_up V i v) U n := by
  obtain ⟨h0, hf, h1, h2, h3, h4, h5, h6, h7, h8, h9⟩ := h
  have hp := h6.1 i hi
  refine ⟨h0, fun k hk => (va_up_ne _ _ (by omega)).trans (hf k hk), (va_up_ne _ _ (by omega)).trans h1, (va_up_ne _ _ (by omega)).trans h2, (va_up_ne _ _ (by omega)).trans h3, (va_up_ne _ _ (by omega)).trans h4, (va_up_ne _ _ (by omega)).trans h5, h6, h7, fun j hj => ?_, fun j hj => (va_up_ne _ _ (by omega)).trans (h9 j hj)⟩
  by_cases e : j = i
  · subst e
    rw [va_up_self, va_up_self]
  · rw [va_up_ne _ _ (fun q => e (h6.2 j i hj hi (by omega))), va_up_ne _ _ e]
    exact h8 j hj
theorem SF.upU (h : SF E g0 g b co pi π ρ V U n) {i : Nat} (hi : i < 4) (v : Nat → Int32) : SF E g0 (va_up g (b + 11 + ρ i) (oB 0 (gFs v))) b co pi π ρ V (va_up U i v) n := by
  obtain ⟨h0, hf, h1, h2, h3, h4, h5, h6, h7, h8, h9⟩ := h
  have hp := h7.1 i hi
  have hq : ∀ j, j < 6 → b + 5 + π j ≠ b + 11 + ρ i := fun j hj => by have := h6.1 j hj; omega
  refine ⟨h0, fun k hk => (va_up_ne _ _ (by omega)).trans (hf k hk), (va_up_ne _ _ (by omega)).trans h1, (va_up_ne _ _ (by omega)).trans h2, (va_up_ne _ _ (by omega)).trans h3, (va_up_ne _ _ (by omega)).trans h4, (va_up_ne _ _ (by omega)).trans h5, h6, h7, fun j hj => (va_up_ne _ _ (hq j hj)).trans (h8 j hj), fun j hj => ?_⟩
  by_cases e : j = i
  · subst e
    rw [va_up_self, va_up_self]
  · rw [va_up_ne _ _ (fun q => e (h7.2 j i hj hi (by omega))), va_up_ne _ _ e]
    exact h9 j hj
theorem SF.kV (h : SF E g0 g b co pi π ρ V U n) {i : Nat} (hi : i < 6) : b + 5 + π i < eK E := by
  have := h.2.2.2.2.2.2.2.1.1 i hi
  have := h.1
  omega
theorem SF.kU (h : SF E g0 g b co pi π ρ V U n) {i : Nat} (hi : i < 4) : b + 11 + ρ i < eK E := by
  have := h.2.2.2.2.2.2.2.2.1.1 i hi
  have := h.1
  omega
theorem SF.k (h : SF E g0 g b co pi π ρ V U n) {k : Nat} (hk : k < 15) : b + k < eK E := by
  have := h.1
  omega
theorem SF.gV (h : SF E g0 g b co pi π ρ V U n) {i : Nat} (hi : i < 6) : g (b + 5 + π i) = oB 3 (rFs (V i)) := h.2.2.2.2.2.2.2.2.2.1 i hi
theorem SF.gU (h : SF E g0 g b co pi π ρ V U n) {i : Nat} (hi : i < 4) : g (b + 11 + ρ i) = oB 0 (gFs (U i)) := h.2.2.2.2.2.2.2.2.2.2 i hi
/-- a range, a glow that is there, by the row -/
theorem SF.rV {r : Row} {B : Nat} (h : SF E g0 g b co pi π ρ V U n) (hv : Vr r B) {i : Nat} (hi : i < rc r) (hV : ∀ j, j < 7 → V i j = r (33 + 7 * i + j)) : g (b + 5 + π i) = oB 3 [.int (nI (rg r i 0)), .int (nI (rg r i 1)), .int (nI (rg r i 2)), .int (nI (rg r i 3)), .int (nI (rg r i 4)), .int (nI (rg r i 5)), .int (nI (rg r i 6))] := by
  have h6 := hv.1.2
  rw [h.gV (show i < 6 by omega)]
  have e : ∀ j, j < 7 → V i j = nI (rg r i j) := fun j hj => (hV j hj).trans ((hv.rg hi).1 j hj)
  unfold rFs
  rw [e 0 (by decide), e 1 (by decide), e 2 (by decide), e 3 (by decide), e 4 (by decide), e 5 (by decide), e 6 (by decide)]
theorem SF.rU {r : Row} {B : Nat} (h : SF E g0 g b co pi π ρ V U n) (hv : Vr r B) {i : Nat} (hi : i < gc r) (hU : ∀ j, j < 4 → U i j = r (76 + 4 * i + j)) : g (b + 11 + ρ i) = oB 0 [.int (nI (gl r i 0)), .int (r (76 + 4 * i + 1)), .int (nI (gl r i 2)), .int (nI (gl r i 3))] := by
  have h4 := hv.2.1.2
  obtain ⟨⟨e0, e2, e3⟩, -⟩ := hv.gl hi
  rw [h.gU (show i < 4 by omega)]
  unfold gFs
  rw [hU 0 (by decide), hU 1 (by decide), hU 2 (by decide), hU 3 (by decide), e2, e3, show 76 + 4 * i + 0 = 76 + 4 * i from rfl, e0]
end SFu
