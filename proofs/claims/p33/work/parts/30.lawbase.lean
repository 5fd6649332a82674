/-! ===== the law's own world: the class's part of it, and the law's four rows ===== -/
section YL
variable {l : Launch} {E : gE} {X : gX} {own : String} {cc : ByteArray} {nL : Nat} {ret : Option FieldType} {fr ll : Nat} {post : Option Value → Mem → Prop} {pc : Nat} {lo lo' : List (Option Value)} {st : List Value} {g : Mem}
theorem y_ldc2w (hC : yC l E X own cc nL ret fr ll) {idx : Nat} {v : Int64} (hc : Cond.constantLong own idx v ∈ lw_gt) (hd : decode cc pc = .ok (.ldc2_w idx, 3)) (kk : Y l E X post (pc + 3) lo (.long v :: st) g) : Y l E X post pc lo st g := by
  obtain ⟨p, e, R, s, m, args, below, meth, c, E0, k0, s0, mc, ms, A⟩ := X
  obtain ⟨hx, hb, hml, hown, hts, hK, hE, hlk, hr, hfr, hll, hN, hA, hE0, hmc, hms, hk0, hs0⟩ := hC
  intro H locs ls hP hS hl
  exact lv_ldc2 hx hb hown (hts _ hc) hd (kk H locs ls hP hS hl)
theorem y_ineg (hC : yC l E X own cc nL ret fr ll) {x : Int32} (hd : decode cc pc = .ok (.ineg, 1)) (kk : Y l E X post (pc + 1) lo (.int (-x) :: st) g) : Y l E X post pc lo (.int x :: st) g := by
  obtain ⟨p, e, R, s, m, args, below, meth, c, E0, k0, s0, mc, ms, A⟩ := X
  obtain ⟨hx, hb, hml, hown, hts, hK, hE, hlk, hr, hfr, hll, hN, hA, hE0, hmc, hms, hk0, hs0⟩ := hC
  intro H locs ls hP hS hl
  exact lv_ineg hx hb hd (kk H locs ls hP hS hl)
theorem pkf_i {n : Nat} {g0 : Mem} {p : Int32 → Mem → Prop} {rest : List Value} (kk : ∀ (r : Int32) (g' : Mem), p r g' → Y l E X post pc lo (.int r :: rest) (mrg n g' g0)) : ∀ (v : Option Value) (g' : Mem), pI p v g' → Y l E X post pc lo (v.toList ++ rest) (mrg n g' g0) := fun v g' h => by
  obtain ⟨r, rfl, h⟩ := h
  exact kk r g' h
theorem pkf_l {n : Nat} {g0 : Mem} {p : Int64 → Mem → Prop} {rest : List Value} (kk : ∀ (r : Int64) (g' : Mem), p r g' → Y l E X post pc lo (.long r :: rest) (mrg n g' g0)) : ∀ (v : Option Value) (g' : Mem), pL p v g' → Y l E X post pc lo (v.toList ++ rest) (mrg n g' g0) := fun v g' h => by
  obtain ⟨r, rfl, h⟩ := h
  exact kk r g' h
end YL
theorem clXL_89 : Cond.constantLong RXL 89 2 ∈ lw_gt := lw_g (List.mem_append_right _ (List.mem_of_getElem? (i := 427) (by decide +kernel))) rfl
theorem CPm {E : gE} {g : Mem} {S : AS} {P : Prop} (h : CP E g S) (f : ∀ sh mk wa, CQ E g S sh mk wa → P) : P := by
  obtain ⟨sh, mk, wa, h⟩ := h
  exact f sh mk wa h
theorem CP.keep {E : gE} {g g2 : Mem} {S : AS} (h : CP E g S) (e : ∀ k, k < 100 → g2 k = g k) : CP E g2 S := by
  obtain ⟨sh, mk, wa, h0, h1, h2, h3, h4, h5, h6, h7⟩ := h
  exact ⟨sh, mk, wa, h0, (e _ (by decide)).trans h1, h2.keep (fun k _ _ => e k (by omega)), h3.keep (fun k _ _ => e k (by omega)), h4.keep (fun k _ _ => e k (by omega)), (e _ (by decide)).trans h5, (e _ (by decide)).trans h6, (e _ (by decide)).trans h7⟩
theorem mrg_lo {n k : Nat} {g1 g : Mem} (h : k < n) : mrg n g1 g k = g1 k := if_pos h
theorem mrg_hi {n k : Nat} {g1 g : Mem} (h : n ≤ k) : mrg n g1 g k = g k := if_neg (by omega)
/-- the law's world: the class in the first hundred roles, the rows of colours, ranges, glows, pixels behind them -/
def LWP (Ec E : gE) (g : Mem) (S : AS) (c r h p : Nat → Int32) : Prop :=
  eSub Ec E ∧ eK Ec = 100 ∧ 104 ≤ eK E ∧ CP Ec g S ∧ g 100 = aI E 0 32 c ∧ g 101 = aI E 0 56 r ∧ g 102 = aI E 0 20 h ∧ g 103 = aI E 0 64 p
section LWPs
variable {Ec E : gE} {g : Mem} {S : AS} {c r h p : Nat → Int32}
theorem LWP.s (q : LWP Ec E g S c r h p) : eSub Ec E := q.1
theorem LWP.kc (q : LWP Ec E g S c r h p) : eK Ec = 100 := q.2.1
theorem LWP.k (q : LWP Ec E g S c r h p) : 104 ≤ eK E := q.2.2.1
theorem LWP.cp (q : LWP Ec E g S c r h p) : CP Ec g S := q.2.2.2.1
theorem LWP.a100 (q : LWP Ec E g S c r h p) : g 100 = aI E 0 32 c := q.2.2.2.2.1
theorem LWP.a101 (q : LWP Ec E g S c r h p) : g 101 = aI E 0 56 r := q.2.2.2.2.2.1
theorem LWP.a102 (q : LWP Ec E g S c r h p) : g 102 = aI E 0 20 h := q.2.2.2.2.2.2.1
theorem LWP.a103 (q : LWP Ec E g S c r h p) : g 103 = aI E 0 64 p := q.2.2.2.2.2.2.2
theorem LWP.k0 (q : LWP Ec E g S c r h p) : 0 < eK Ec := by rw [q.kc]; decide
theorem LWP.a0 (q : LWP Ec E g S c r h p) : g 0 = oB 5 [rf Ec 1, rf Ec 16, rf Ec 93, rf Ec 97, rf Ec 98, rf Ec 99] := by
  obtain ⟨sh, mk, wa, hq⟩ := q.cp
  exact hq.a0
/-- a call of the class: its part of the world alone is another -/
theorem LWP.call (q : LWP Ec E g S c r h p) {g2 : Mem} {S2 : AS} (hc : CP Ec g2 S2) : LWP Ec E (mrg (eK Ec) g2 g) S2 c r h p := by
  obtain ⟨h1, h2, h3, h4, h5, h6, h7, h8⟩ := q
  rw [h2]
  exact ⟨h1, h2, h3, hc.keep (fun k hk => mrg_lo hk), (mrg_hi (by decide)).trans h5, (mrg_hi (by decide)).trans h6, (mrg_hi (by decide)).trans h7, (mrg_hi (by decide)).trans h8⟩
theorem LWP.uc (q : LWP Ec E g S c r h p) (c2 : Nat → Int32) : LWP Ec E (va_up g 100 (aI E 0 32 c2)) S c2 r h p := by
  obtain ⟨h1, h2, h3, h4, h5, h6, h7, h8⟩ := q
  exact ⟨h1, h2, h3, h4.keep (fun k hk => va_up_ne _ _ (by omega)), va_up_self _ _ _, (va_up_ne _ _ (by decide)).trans h6, (va_up_ne _ _ (by decide)).trans h7, (va_up_ne _ _ (by decide)).trans h8⟩
theorem LWP.ur (q : LWP Ec E g S c r h p) (r2 : Nat → Int32) : LWP Ec E (va_up g 101 (aI E 0 56 r2)) S c r2 h p := by
  obtain ⟨h1, h2, h3, h4, h5, h6, h7, h8⟩ := q
  exact ⟨h1, h2, h3, h4.keep (fun k hk => va_up_ne _ _ (by omega)), (va_up_ne _ _ (by decide)).trans h5, va_up_self _ _ _, (va_up_ne _ _ (by decide)).trans h7, (va_up_ne _ _ (by decide)).trans h8⟩
theorem LWP.uh (q : LWP Ec E g S c r h p) (h2' : Nat → Int32) : LWP Ec E (va_up g 102 (aI E 0 20 h2')) S c r h2' p := by
  obtain ⟨h1, h2, h3, h4, h5, h6, h7, h8⟩ := q
  exact ⟨h1, h2, h3, h4.keep (fun k hk => va_up_ne _ _ (by omega)), (va_up_ne _ _ (by decide)).trans h5, (va_up_ne _ _ (by decide)).trans h6, va_up_self _ _ _, (va_up_ne _ _ (by decide)).trans h8⟩
theorem LWP.up (q : LWP Ec E g S c r h p) (p2 : Nat → Int32) : LWP Ec E (va_up g 103 (aI E 0 64 p2)) S c r h p2 := by
  obtain ⟨h1, h2, h3, h4, h5, h6, h7, h8⟩ := q
  exact ⟨h1, h2, h3, h4.keep (fun k hk => va_up_ne _ _ (by omega)), (va_up_ne _ _ (by decide)).trans h5, (va_up_ne _ _ (by decide)).trans h6, (va_up_ne _ _ (by decide)).trans h7, va_up_self _ _ _⟩
/-- a row behind them is another -/
theorem LWP.ut (q : LWP Ec E g S c r h p) {k : Nat} (hk : 104 ≤ k) (e : va_E) : LWP Ec E (va_up g k e) S c r h p := by
  obtain ⟨h1, h2, h3, h4, h5, h6, h7, h8⟩ := q
  exact ⟨h1, h2, h3, h4.keep (fun j hj => va_up_ne _ _ (by omega)), (va_up_ne _ _ (by omega)).trans h5, (va_up_ne _ _ (by omega)).trans h6, (va_up_ne _ _ (by omega)).trans h7, (va_up_ne _ _ (by omega)).trans h8⟩
end LWPs
/-! ===== what the law's rows stand for ===== -/
/-- the law's row of ranges: by all ticks a that each had, and by K steps besides -/
def RgL (ρ : Row) (r : Nat → Int32) (a K : Nat → Nat) (M : Nat) : Prop :=
  r 0 = nI (rc ρ) ∧ ∀ k, k < rc ρ → r (8 + 8 * k) = nI (rg ρ k 0) ∧ r (8 + 8 * k + 1) = nI (nP ρ k) ∧ r (8 + 8 * k + 2) = nI (rg ρ k 2) ∧ r (8 + 8 * k + 3) = nI (rg ρ k 3) ∧ r (8 + 8 * k + 4) = nI (rg ρ k 4) ∧
    r (8 + 8 * k + 5) = nI (a k) ∧ r (8 + 8 * k + 6) = nI (K k) ∧ a k % rg ρ k 2 = rg ρ k 5 ∧ a k / rg ρ k 2 + K k = rg ρ k 6 ∧ a k ≤ M
/-- the law's row of glows; behind its count the ticks and the steps so far -/
def GlL (ρ : Row) (h : Nat → Int32) : Prop :=
  h 0 = nI (gc ρ) ∧ h 1 = ρ 156 ∧ h 2 = ρ 157 ∧ ∀ k, k < gc ρ → h (4 + 4 * k) = nI (gl ρ k 0) ∧ h (4 + 4 * k + 1) = ρ (76 + 4 * k + 1) ∧ h (4 + 4 * k + 2) = nI (gl ρ k 2) ∧ h (4 + 4 * k + 3) = nI (gl ρ k 3)
def CoL (ρ : Row) (c : Nat → Int32) : Prop := ∀ k, k < 32 → c k = ρ k
def PiL (ρ : Row) (p : Nat → Int32) : Prop := ∀ k, k < 64 → p k = nI (px ρ k)
/-- a colour; all colours are some -/
def isC (x : Int32) : Prop := ∃ n : Nat, n < 262144 ∧ x = nI n
def VC (ρ : Row) : Prop := (∀ k, k < 32 → isC (ρ k)) ∧ ∀ i, i < gc ρ → isC (ρ (76 + 4 * i + 1))
section RLs
variable {ρ : Row} {r h : Nat → Int32} {a K : Nat → Nat} {M k : Nat}
theorem RgL.n (q : RgL ρ r a K M) : r 0 = nI (rc ρ) := q.1
theorem RgL.f0 (q : RgL ρ r a K M) (hk : k < rc ρ) : r (8 + 8 * k) = nI (rg ρ k 0) := (q.2 k hk).1
theorem RgL.f1 (q : RgL ρ r a K M) (hk : k < rc ρ) : r (8 + 8 * k + 1) = nI (nP ρ k) := (q.2 k hk).2.1
theorem RgL.f2 (q : RgL ρ r a K M) (hk : k < rc ρ) : r (8 + 8 * k + 2) = nI (rg ρ k 2) := (q.2 k hk).2.2.1
theorem RgL.f3 (q : RgL ρ r a K M) (hk : k < rc ρ) : r (8 + 8 * k + 3) = nI (rg ρ k 3) := (q.2 k hk).2.2.2.1
theorem RgL.f4 (q : RgL ρ r a K M) (hk : k < rc ρ) : r (8 + 8 * k + 4) = nI (rg ρ k 4) := (q.2 k hk).2.2.2.2.1
theorem RgL.f5 (q : RgL ρ r a K M) (hk : k < rc ρ) : r (8 + 8 * k + 5) = nI (a k) := (q.2 k hk).2.2.2.2.2.1
theorem RgL.f6 (q : RgL ρ r a K M) (hk : k < rc ρ) : r (8 + 8 * k + 6) = nI (K k) := (q.2 k hk).2.2.2.2.2.2.1
theorem RgL.md (q : RgL ρ r a K M) (hk : k < rc ρ) : a k % rg ρ k 2 = rg ρ k 5 := (q.2 k hk).2.2.2.2.2.2.2.1
theorem RgL.dv (q : RgL ρ r a K M) (hk : k < rc ρ) : a k / rg ρ k 2 + K k = rg ρ k 6 := (q.2 k hk).2.2.2.2.2.2.2.2.1
theorem RgL.le (q : RgL ρ r a K M) (hk : k < rc ρ) : a k ≤ M := (q.2 k hk).2.2.2.2.2.2.2.2.2
theorem GlL.n (q : GlL ρ h) : h 0 = nI (gc ρ) := q.1
theorem GlL.t (q : GlL ρ h) : h 1 = ρ 156 := q.2.1
theorem GlL.s (q : GlL ρ h) : h 2 = ρ 157 := q.2.2.1
theorem GlL.f0 (q : GlL ρ h) (hk : k < gc ρ) : h (4 + 4 * k) = nI (gl ρ k 0) := (q.2.2.2 k hk).1
theorem GlL.f1 (q : GlL ρ h) (hk : k < gc ρ) : h (4 + 4 * k + 1) = ρ (76 + 4 * k + 1) := (q.2.2.2 k hk).2.1
theorem GlL.f2 (q : GlL ρ h) (hk : k < gc ρ) : h (4 + 4 * k + 2) = nI (gl ρ k 2) := (q.2.2.2 k hk).2.2.1
theorem GlL.f3 (q : GlL ρ h) (hk : k < gc ρ) : h (4 + 4 * k + 3) = nI (gl ρ k 3) := (q.2.2.2 k hk).2.2.2
end RLs
theorem nP_b {ρ : Row} {B k : Nat} (hv : Vr ρ B) (hk : k < rc ρ) : 2 ≤ nP ρ k ∧ rg ρ k 0 + nP ρ k ≤ 32 := by
  obtain ⟨q1, q2, q3, q4, q5, q6, q7, q8, q9⟩ := hv.rg hk
  unfold nP
  omega
theorem nP_l {ρ : Row} {B k : Nat} (hv : Vr ρ B) (hk : k < rc ρ) : rg ρ k 1 + 1 = rg ρ k 0 + nP ρ k := by
  obtain ⟨q1, q2, q3, q4, q5, q6, q7, q8, q9⟩ := hv.rg hk
  unfold nP
  omega
/-- the last of the first ranges that holds a place: where it begins in the law's row -/
def lsR (ρ : Row) (p : Nat) : Nat → Nat
  | 0 => 0
  | k + 1 => if rg ρ k 0 ≤ p ∧ p ≤ rg ρ k 1 then 8 + 8 * k else lsR ρ p k
def rzN (ρ : Row) (p : Nat) : Nat := match rAt ρ p with
  | none => 0
  | some i => 8 + 8 * i
theorem lsR_inv {ρ : Row} {p : Nat} : ∀ {k : Nat}, lsR ρ p k = 0 ∧ (∀ i, i < k → ¬ (rg ρ i 0 ≤ p ∧ p ≤ rg ρ i 1)) ∨ ∃ i, i < k ∧ lsR ρ p k = 8 + 8 * i ∧ rg ρ i 0 ≤ p ∧ p ≤ rg ρ i 1
  | 0 => Or.inl ⟨rfl, fun i hi => absurd hi (Nat.not_lt_zero i)⟩
  | k + 1 => by
    by_cases h : rg ρ k 0 ≤ p ∧ p ≤ rg ρ k 1
    · exact Or.inr ⟨k, by omega, if_pos h, h⟩
    · rw [show lsR ρ p (k + 1) = lsR ρ p k from if_neg h]
      rcases lsR_inv (ρ := ρ) (p := p) (k := k) with ⟨h1, h2⟩ | ⟨i, h1, h2⟩
      · refine Or.inl ⟨h1, fun i hi => ?_⟩
        by_cases e : i = k
        · rw [e]; exact h
        · exact h2 i (by omega)
      · exact Or.inr ⟨i, by omega, h2⟩
theorem rAt_one {ρ : Row} {B p i : Nat} (hv : Vr ρ B) (hi : i < rc ρ) (h : rg ρ i 0 ≤ p ∧ p ≤ rg ρ i 1) : rAt ρ p = some i := by
  unfold rAt
  refine fst_some hi (by simpa using h) (fun k hk => ?_)
  have := hv.2.2.2.1 k i hk hi
  simp only [decide_eq_false_iff_not]
  omega
theorem lsR_rz {ρ : Row} {B p : Nat} (hv : Vr ρ B) : lsR ρ p (rc ρ) = rzN ρ p := by
  unfold rzN
  rcases lsR_inv (ρ := ρ) (p := p) (k := rc ρ) with ⟨h1, h2⟩ | ⟨i, h1, h2, h3⟩
  · rw [h1, show rAt ρ p = none from fst_none (fun k hk => by simpa using h2 k hk)]
  · rw [h2, rAt_one hv h1 h3]
def lsG (ρ : Row) (p : Nat) : Nat → Nat
  | 0 => 0
  | k + 1 => if gl ρ k 0 = p then 4 + 4 * k else lsG ρ p k
def gzN (ρ : Row) (p : Nat) : Nat := match gAt ρ p with
  | none => 0
  | some i => 4 + 4 * i
theorem lsG_inv {ρ : Row} {p : Nat} : ∀ {k : Nat}, lsG ρ p k = 0 ∧ (∀ i, i < k → ¬ gl ρ i 0 = p) ∨ ∃ i, i < k ∧ lsG ρ p k = 4 + 4 * i ∧ gl ρ i 0 = p
  | 0 => Or.inl ⟨rfl, fun i hi => absurd hi (Nat.not_lt_zero i)⟩
  | k + 1 => by
    by_cases h : gl ρ k 0 = p
    · exact Or.inr ⟨k, by omega, if_pos h, h⟩
    · rw [show lsG ρ p (k + 1) = lsG ρ p k from if_neg h]
      rcases lsG_inv (ρ := ρ) (p := p) (k := k) with ⟨h1, h2⟩ | ⟨i, h1, h2⟩
      · refine Or.inl ⟨h1, fun i hi => ?_⟩
        by_cases e : i = k
        · rw [e]; exact h
        · exact h2 i (by omega)
      · exact Or.inr ⟨i, by omega, h2⟩
theorem gAt_one {ρ : Row} {B p i : Nat} (hv : Vr ρ B) (hi : i < gc ρ) (h : gl ρ i 0 = p) : gAt ρ p = some i := by
  unfold gAt
  refine fst_some hi (by simpa using h) (fun k hk => ?_)
  have := hv.2.2.2.2.2.1 k i hk hi
  simp only [decide_eq_false_iff_not]
  omega
theorem lsG_gz {ρ : Row} {B p : Nat} (hv : Vr ρ B) : lsG ρ p (gc ρ) = gzN ρ p := by
  unfold gzN
  rcases lsG_inv (ρ := ρ) (p := p) (k := gc ρ) with ⟨h1, h2⟩ | ⟨i, h1, h2, h3⟩
  · rw [h1, show gAt ρ p = none from fst_none (fun k hk => by simpa using h2 k hk)]
  · rw [h2, gAt_one hv h1 h3]
theorem rAt_in {ρ : Row} {p i : Nat} (h : rAt ρ p = some i) : i < rc ρ ∧ rg ρ i 0 ≤ p ∧ p ≤ rg ρ i 1 := by
  obtain ⟨h1, h2, -⟩ := fst_inv h
  exact ⟨h1, by simpa using h2⟩
theorem gAt_in {ρ : Row} {p i : Nat} (h : gAt ρ p = some i) : i < gc ρ ∧ gl ρ i 0 = p := by
  obtain ⟨h1, h2, -⟩ := fst_inv h
  exact ⟨h1, by simpa using h2⟩
/-! ===== numbers of the law ===== -/
/-- a cell's low part, below n -/
def lw (x : Int32) (n : Nat) : Nat := x.toBitVec.toNat % 2147483648 % n
theorem lw_lt {x : Int32} {n : Nat} (h : 0 < n) : lw x n < n := Nat.mod_lt _ h
theorem and_max (x : Int32) : x &&& nI 2147483647 = nI (x.toBitVec.toNat % 2147483648) := by
  apply Int32.toBitVec_inj.mp
  apply BitVec.eq_of_toNat_eq
  show (x.toBitVec &&& 2147483647#32).toNat = (x.toBitVec.toNat % 2147483648) % 2 ^ 32
  rw [BitVec.toNat_and]
  have h := Nat.and_two_pow_sub_one_eq_mod x.toBitVec.toNat 31
  have h2 : (2147483647#32).toNat = 2 ^ 31 - 1 := by decide
  rw [h2, h]
  omega
/-- the turn of the way down: one less a step -/
theorem dn_mod {n m : Nat} (hn : 0 < n) : (n - 1) * m % n = if m % n = 0 then 0 else n - m % n := by
  have h1 : (n - 1) * m + m = n * m := by
    obtain ⟨k, rfl⟩ : ∃ k, n = k + 1 := ⟨n - 1, by omega⟩
    rw [Nat.add_sub_cancel, Nat.add_mul, Nat.one_mul]
  have h2 : ((n - 1) * m + m) % n = 0 := by rw [h1]; exact Nat.mul_mod_right n m
  rw [Nat.add_mod] at h2
  have h3 := Nat.mod_lt ((n - 1) * m) hn
  have h4 := Nat.mod_lt m hn
  split
  · rename_i e
    rw [e, Nat.add_zero, Nat.mod_mod] at h2
    exact h2
  · rename_i e
    have h5 : n ∣ (n - 1) * m % n + m % n := Nat.dvd_of_mod_eq_zero h2
    obtain ⟨q, hq⟩ := h5
    have : q = 1 := by
      have a1 : q < 2 := by
        apply Nat.lt_of_mul_lt_mul_left (a := n)
        omega
      have a2 : q ≠ 0 := fun z => by rw [z, Nat.mul_zero] at hq; omega
      omega
    rw [this, Nat.mul_one] at hq
    omega
