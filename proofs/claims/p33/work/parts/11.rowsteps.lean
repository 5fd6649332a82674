/-! ===== what the changes make of a row ===== -/
def addR (r : Row) (f la s w : Int32) : Row := fun k => if k = 32 then nI (rc r + 1) else if 33 + 7 * rc r ≤ k ∧ k < 40 + 7 * rc r then v7 f la s w (nI 1) (nI 0) (nI 0) (k - (33 + 7 * rc r)) else r k
def remR (r : Row) (a : Nat) : Row := fun k => if k = 32 then nI (rc r - 1) else if 33 + 7 * a ≤ k ∧ k < 33 + 7 * (rc r - 1) then r (k + 7) else r k
def addG (r : Row) (p c n : Int32) : Row := fun k => if k = 75 then nI (gc r + 1) else if 76 + 4 * gc r ≤ k ∧ k < 80 + 4 * gc r then v4 p c n (nI 0) (k - (76 + 4 * gc r)) else r k
def remG (r : Row) (a : Nat) : Row := fun k => if k = 75 then nI (gc r - 1) else if 76 + 4 * a ≤ k ∧ k < 76 + 4 * (gc r - 1) then r (k + 4) else r k
def begR (r : Row) : Row := fun k => if 33 ≤ k ∧ k < 33 + 7 * rc r ∧ 5 ≤ (k - 33) % 7 then nI 0 else if 76 ≤ k ∧ k < 76 + 4 * gc r ∧ (k - 76) % 4 = 3 then nI 0 else r k
def tkV (r : Row) (t i : Nat) : Nat → Int32 := v7 (r (33 + 7 * i)) (r (33 + 7 * i + 1)) (r (33 + 7 * i + 2)) (r (33 + 7 * i + 3)) (r (33 + 7 * i + 4)) (nI (if rg r i 4 = 1 then (rg r i 5 + t) % rg r i 2 else rg r i 5)) (nI (mdN (rg r i 2) (rg r i 4) (rg r i 5) (rg r i 6) t))
def tkU (r : Row) (t i : Nat) : Nat → Int32 := v4 (r (76 + 4 * i)) (r (76 + 4 * i + 1)) (r (76 + 4 * i + 2)) (nI ((gl r i 3 + t) % (2 * gl r i 2)))
def tkR (r : Row) (t : Nat) : Row := fun k => if 33 ≤ k ∧ k < 33 + 7 * rc r then tkV r t ((k - 33) / 7) ((k - 33) % 7) else if 76 ≤ k ∧ k < 76 + 4 * gc r then tkU r t ((k - 76) / 4) ((k - 76) % 4) else if k = 156 then nI (nn (r 156) + t) else if k = 157 then nI (nn (r 157) + made r t) else r k
def stpR (r : Row) (i : Nat) : Row := fun k => if k = 39 + 7 * i then nI (rg r i 6 + 1) else if k = 157 then nI (nn (r 157) + 1) else r k
def flpR (r : Row) (i : Nat) : Row := fun k => if k = 37 + 7 * i then nI (1 - rg r i 4) else r k
theorem v7_j {a0 a1 a2 a3 a4 a5 a6 : Int32} {f : Nat → Int32} (h0 : a0 = f 0) (h1 : a1 = f 1) (h2 : a2 = f 2) (h3 : a3 = f 3) (h4 : a4 = f 4) (h5 : a5 = f 5) (h6 : a6 = f 6) : ∀ j, j < 7 → v7 a0 a1 a2 a3 a4 a5 a6 j = f j := by
  intro j hj
  match j, hj with
  | 0, _ => exact h0
  | 1, _ => exact h1
  | 2, _ => exact h2
  | 3, _ => exact h3
  | 4, _ => exact h4
  | 5, _ => exact h5
  | 6, _ => exact h6
  | j + 7, h => exact absurd h (by omega)
theorem v4_j {a0 a1 a2 a3 : Int32} {f : Nat → Int32} (h0 : a0 = f 0) (h1 : a1 = f 1) (h2 : a2 = f 2) (h3 : a3 = f 3) : ∀ j, j < 4 → v4 a0 a1 a2 a3 j = f j := by
  intro j hj
  match j, hj with
  | 0, _ => exact h0
  | 1, _ => exact h1
  | 2, _ => exact h2
  | 3, _ => exact h3
  | j + 4, h => exact absurd h (by omega)
theorem rc_of {r r2 : Row} (h : r2 32 = r 32) : rc r2 = rc r := by unfold rc; rw [h]
theorem gc_of {r r2 : Row} (h : r2 75 = r 75) : gc r2 = gc r := by unfold gc; rw [h]
/-- a state's cells in two normal forms -/
theorem SF.eta {E : gE} {g0 g : Mem} {b : Nat} {co pi : Nat → Int32} {π ρ : Nat → Nat} {V U : Nat → Nat → Int32} {n : Nat → Int32} (h : SF E g0 g b co pi π ρ V U n) : SF E g0 g b co pi π ρ V U (v4 (n 0) (n 1) (n 2) (n 3)) := h
theorem zStF {E : gE} {g : Mem} {b : Nat} {r : Row} {B : Nat} (h : StA E g b r) (hv : Vr r B) : ∃ (co pi : Nat → Int32) (π ρ : Nat → Nat) (V U : Nat → Nat → Int32), SF E g g b co pi π ρ V U (v4 (nI (rc r)) (nI (gc r)) (nI (nn (r 156))) (nI (nn (r 157)))) ∧ (∀ k, k < 32 → co k = r k) ∧ (∀ k, k < 64 → pi k = r (92 + k)) ∧ (∀ i, i < rc r → ∀ j, j < 7 → V i j = r (33 + 7 * i + j)) ∧ (∀ i, i < gc r → ∀ j, j < 4 → U i j = r (76 + 4 * i + j)) := by
  obtain ⟨co, pi, π, ρ, V, U, n, h1, h2, h3, ⟨h4, h5, h6, h7⟩, h8, h9⟩ := h
  refine ⟨co, pi, π, ρ, V, U, ?_, h2, h3, h8, h9⟩
  have := h1.eta
  rw [h4, h5, h6, h7, hv.1.1, hv.2.1.1, hv.2.2.2.2.2.2.2.1.1, hv.2.2.2.2.2.2.2.2.1] at this
  exact this
theorem SF.s0 {E : gE} {g0 g : Mem} {b : Nat} {co pi : Nat → Int32} {π ρ : Nat → Nat} {V U : Nat → Nat → Int32} {x y z w : Int32} (h : SF E g0 g b co pi π ρ V U (v4 x y z w)) : g b = oB 4 [rf E (b + 1), rf E (b + 2), rf E (b + 3), rf E (b + 4), .int x, .int y, .int z, .int w] := h.2.2.1
section SFs
variable {E : gE} {g0 g : Mem} {b : Nat} {co pi : Nat → Int32} {π ρ : Nat → Nat} {V U : Nat → Nat → Int32} {n : Nat → Int32}
theorem SF.s1 (h : SF E g0 g b co pi π ρ V U n) : g (b + 1) = aI E 0 32 co := h.2.2.2.1
theorem SF.s2 (h : SF E g0 g b co pi π ρ V U n) : g (b + 2) = aI E 0 64 pi := h.2.2.2.2.1
theorem SF.s3 (h : SF E g0 g b co pi π ρ V U n) : g (b + 3) = aR E 3 6 (fun i => b + 5 + π i) := h.2.2.2.2.2.1
theorem SF.s4 (h : SF E g0 g b co pi π ρ V U n) : g (b + 4) = aR E 4 4 (fun i => b + 11 + ρ i) := h.2.2.2.2.2.2.1
theorem SF.vV (h : SF E g0 g b co pi π ρ V U n) {i : Nat} (hi : i < 6) : g (b + 5 + π i) = oB 3 [.int (V i 0), .int (V i 1), .int (V i 2), .int (V i 3), .int (V i 4), .int (V i 5), .int (V i 6)] := h.gV hi
theorem SF.vU (h : SF E g0 g b co pi π ρ V U n) {i : Nat} (hi : i < 4) : g (b + 11 + ρ i) = oB 0 [.int (U i 0), .int (U i 1), .int (U i 2), .int (U i 3)] := h.gU hi
/-- the references in another order -/
theorem SF.perm (h : SF E g0 g b co pi π ρ V U n) {cy : Nat → Nat} (hc : Pm 6 cy) : SF E g0 (va_up g (b + 3) (aR E 3 6 (fun i => b + 5 + π (cy i)))) b co pi (fun i => π (cy i)) ρ (fun i => V (cy i)) U n := by
  obtain ⟨h0, hf, h1, h2, h3, h4, h5, h6, h7, h8, h9⟩ := h
  exact ⟨h0, fun k hk => (va_up_ne _ _ (by omega)).trans (hf k hk), (va_up_ne _ _ (by omega)).trans h1, (va_up_ne _ _ (by omega)).trans h2, (va_up_ne _ _ (by omega)).trans h3, va_up_self _ _ _, (va_up_ne _ _ (by omega)).trans h5, ⟨fun i hi => h6.1 _ (hc.1 i hi), fun i j hi hj e => hc.2 i j hi hj (h6.2 _ _ (hc.1 i hi) (hc.1 j hj) e)⟩, h7, fun i hi => (va_up_ne _ _ (by omega)).trans (h8 _ (hc.1 i hi)), fun i hi => (va_up_ne _ _ (by omega)).trans (h9 i hi)⟩
theorem SF.permG (h : SF E g0 g b co pi π ρ V U n) {cy : Nat → Nat} (hc : Pm 4 cy) : SF E g0 (va_up g (b + 4) (aR E 4 4 (fun i => b + 11 + ρ (cy i)))) b co pi π (fun i => ρ (cy i)) V (fun i => U (cy i)) n := by
  obtain ⟨h0, hf, h1, h2, h3, h4, h5, h6, h7, h8, h9⟩ := h
  exact ⟨h0, fun k hk => (va_up_ne _ _ (by omega)).trans (hf k hk), (va_up_ne _ _ (by omega)).trans h1, (va_up_ne _ _ (by omega)).trans h2, (va_up_ne _ _ (by omega)).trans h3, (va_up_ne _ _ (by omega)).trans h4, va_up_self _ _ _, h6, ⟨fun i hi => h7.1 _ (hc.1 i hi), fun i j hi hj e => hc.2 i j hi hj (h7.2 _ _ (hc.1 i hi) (hc.1 j hj) e)⟩, fun i hi => (va_up_ne _ _ (by omega)).trans (h8 i hi), fun i hi => (va_up_ne _ _ (by omega)).trans (h9 _ (hc.1 i hi))⟩
/-- a state stands for a row once its cells do -/
theorem SF.st {r : Row} (h : SF E g0 g b co pi π ρ V U n) (hr : SR co pi V U n r) : StA E g b r ∧ Fr b g0 g := ⟨⟨co, pi, π, ρ, V, U, n, h.self, hr⟩, h.fr⟩
end SFs
/-- the places behind a dropped one move by one, the dropped one goes behind the others -/
def cyc (a m : Nat) : Nat → Nat := fun k => if a ≤ k ∧ k < m then k + 1 else if k = m then a else k
theorem cyc_pm {a m n : Nat} (h : a ≤ m) (hm : m < n) : Pm n (cyc a m) := by
  refine ⟨fun i hi => ?_, fun i j hi hj e => ?_⟩
  · unfold cyc; split <;> (try split) <;> omega
  · unfold cyc at e
    split at e <;> split at e <;> (try split at e) <;> (try split at e) <;> omega
/-- while they move -/
def sft (a i : Nat) : Nat → Nat := fun k => if a ≤ k ∧ k < i then k + 1 else k
section TK
variable {r : Row} {t : Nat}
theorem tkR_V {i j : Nat} (hi : i < rc r) (hj : j < 7) : tkR r t (33 + 7 * i + j) = tkV r t i j := by
  unfold tkR
  rw [if_pos ⟨by omega, by omega⟩, show (33 + 7 * i + j - 33) / 7 = i by omega, show (33 + 7 * i + j - 33) % 7 = j by omega]
theorem tkR_U {i j : Nat} (hr : rc r ≤ 6) (hi : i < gc r) (hj : j < 4) : tkR r t (76 + 4 * i + j) = tkU r t i j := by
  unfold tkR
  rw [if_neg (by omega), if_pos ⟨by omega, by omega⟩, show (76 + 4 * i + j - 76) / 4 = i by omega, show (76 + 4 * i + j - 76) % 4 = j by omega]
theorem tkR_lo {k : Nat} (hk : k < 33) : tkR r t k = r k := by
  unfold tkR
  rw [if_neg (by omega), if_neg (by omega), if_neg (by omega), if_neg (by omega)]
theorem tkR_75 (hr : rc r ≤ 6) : tkR r t 75 = r 75 := by
  unfold tkR
  rw [if_neg (by omega), if_neg (by omega), if_neg (by omega), if_neg (by omega)]
theorem tkR_px {k : Nat} (hr : rc r ≤ 6) (hg : gc r ≤ 4) (hk : k < 64) : tkR r t (92 + k) = r (92 + k) := by
  unfold tkR
  rw [if_neg (by omega), if_neg (by omega), if_neg (by omega), if_neg (by omega)]
theorem tkR_156 (hr : rc r ≤ 6) (hg : gc r ≤ 4) : tkR r t 156 = nI (nn (r 156) + t) := by
  unfold tkR
  rw [if_neg (by omega), if_neg (by omega), if_pos rfl]
theorem tkR_157 (hr : rc r ≤ 6) (hg : gc r ≤ 4) : tkR r t 157 = nI (nn (r 157) + made r t) := by
  unfold tkR
  rw [if_neg (by omega), if_neg (by omega), if_neg (by omega), if_pos rfl]
theorem tkR_rc : rc (tkR r t) = rc r := rc_of (tkR_lo (by decide))
theorem tkR_gc (hr : rc r ≤ 6) : gc (tkR r t) = gc r := gc_of (tkR_75 hr)
end TK
theorem made_le {r : Row} {B t : Nat} (hv : Vr r B) : made r t ≤ 6 * (30 + t) := by
  have h1 : made r t ≤ rc r * (30 + t) := sm_le (fun i hi => by
    have := hv.rg hi
    have h2 := Nat.div_le_self (rg r i 5 + t) (rg r i 2)
    split <;> omega)
  have h2 := Nat.mul_le_mul_right (30 + t) hv.1.2
  omega
theorem made_s {r : Row} (i t : Nat) : sm (i + 1) (fun i => if rg r i 4 = 1 then (rg r i 5 + t) / rg r i 2 else 0) = sm i (fun i => if rg r i 4 = 1 then (rg r i 5 + t) / rg r i 2 else 0) + (if rg r i 4 = 1 then (rg r i 5 + t) / rg r i 2 else 0) := rfl
