/-! ===== the law's programs: one repeat ===== -/
def tyS (S : AS) (k : Nat) (tx : Nat → Nat) : AS := .mk S.r S.c S.kp S.hr S.sn k tx
def pch (t q d n : Nat) : Nat → Nat
  | 0 => 48 + t
  | 1 => 40
  | 2 => q
  | 3 => 48 + d
  | 4 => 116
  | 5 => 48 + n
  | _ => 41
def ptx (tx : Nat → Nat) (t q d n k : Nat) : Nat → Nat := fun j => if j < k then pch t q d n j else tx j
theorem ptx_0 {tx : Nat → Nat} {t q d n : Nat} : ptx tx t q d n 0 = tx := funext fun j => if_neg (Nat.not_lt_zero j)
theorem ptx_s {tx : Nat → Nat} {t q d n k : Nat} : va_up (ptx tx t q d n k) k (pch t q d n k) = ptx tx t q d n (k + 1) := by
  funext j
  by_cases e : j = k
  · rw [e, va_up_self]; exact (if_pos (by omega)).symm
  · rw [va_up_ne _ _ e]
    unfold ptx
    by_cases c : j < k
    · rw [if_pos c, if_pos (by omega)]
    · rw [if_neg c, if_neg (by omega)]
theorem pch_l {t q d n j : Nat} (ht : t ≤ 9) (hq : q = 112 ∨ q = 107) (hd : d ≤ 5) (hn : n ≤ 9) : pch t q d n j < 65536 := by
  unfold pch
  split <;> omega
theorem qcl (S : AS) : qClearText S = (nI S.ln, tyS S 0 S.tx) := rfl
theorem qty {S : AS} {tx : Nat → Nat} {t q d n k : Nat} (hk : k < 60) {c : Nat} (hc : c = pch t q d n k) : qType (tyS S k (ptx tx t q d n k)) c = (nI (k + 1), tyS S (k + 1) (ptx tx t q d n (k + 1))) := by
  subst hc
  unfold qType
  rw [if_pos (show (tyS S k (ptx tx t q d n k)).ln < 60 from hk), ← ptx_s]
  rfl
theorem ok_ty {S : AS} {B k : Nat} {tx : Nat → Nat} {t q d n : Nat} (ho : OK S B) (hk : k ≤ 7) (ht : t ≤ 9) (hq : q = 112 ∨ q = 107) (hd : d ≤ 5) (hn : n ≤ 9) : OK (tyS S k (ptx tx t q d n k)) B := by
  obtain ⟨h1, h2, h3, h4, h5, h6, h7⟩ := ho
  refine ⟨h1, h2, h3, h4, h5, (show k ≤ 60 by omega), fun j hj => ?_⟩
  have hj' : j < k := hj
  show ptx tx t q d n k j < 65536
  rw [show ptx tx t q d n k j = pch t q d n j from if_pos hj']
  exact pch_l ht hq hd hn
theorem ok_ty0 {S : AS} {B : Nat} (ho : OK S B) : OK (tyS S 0 S.tx) B := by
  obtain ⟨h1, h2, h3, h4, h5, h6, h7⟩ := ho
  exact ⟨h1, h2, h3, h4, h5, Nat.zero_le _, fun j hj => absurd hj (Nat.not_lt_zero j)⟩
/-- the signs of such a program -/
def PS (s : Nat → Nat) (t q d n : Nat) : Prop := s 0 = 48 + t ∧ s 1 = 40 ∧ s 2 = q ∧ s 3 = 48 + d ∧ s 4 = 116 ∧ s 5 = 48 + n ∧ s 6 = 41 ∧ (2 ≤ t ∧ t ≤ 9) ∧ (q = 112 ∨ q = 107) ∧ d ≤ 5 ∧ 1 ≤ n ∧ n ≤ 9
theorem PS.of {tx : Nat → Nat} {t q d n : Nat} (ht : 2 ≤ t ∧ t ≤ 9) (hq : q = 112 ∨ q = 107) (hd : d ≤ 5) (hn : 1 ≤ n ∧ n ≤ 9) : PS (sgn 7 (ptx tx t q d n 7)) t q d n := ⟨rfl, rfl, rfl, rfl, rfl, rfl, rfl, ht, hq, hd, hn.1, hn.2⟩
section PSs
variable {s : Nat → Nat} {t q d n : Nat}
theorem PS.f0 (h : PS s t q d n) : isBeg (s 0) = true ∧ isAlw (s 0) (s 1) = true ∧ isRep (s 0) = true ∧ isFor (s 0) = false ∧ bhd s 0 = 2 := by
  obtain ⟨h0, h1, h2, h3, h4, h5, h6, ht, hq, hd, hn⟩ := h
  have r : isRep (s 0) = true := by unfold isRep; exact decide_eq_true (by omega)
  have f : isFor (s 0) = false := by unfold isFor; exact decide_eq_false (by omega)
  refine ⟨?_, ?_, r, f, ?_⟩
  · unfold isBeg; rw [r]; simp
  · unfold isAlw; rw [if_neg (by omega), f]; simp [h1]
  · unfold bhd; rw [if_neg (by omega), if_neg (by omega)]
theorem PS.f2 (h : PS s t q d n) : isBeg (s 2) = true ∧ isAlw (s 2) (s 3) = true ∧ isRep (s 2) = false ∧ isFor (s 2) = true ∧ bhd s 2 = 4 := by
  obtain ⟨h0, h1, h2, h3, h4, h5, h6, ht, hq, hd, hn⟩ := h
  have r : isRep (s 2) = false := by unfold isRep; exact decide_eq_false (by omega)
  have f : isFor (s 2) = true := by unfold isFor; exact decide_eq_true (by omega)
  refine ⟨?_, ?_, r, f, ?_⟩
  · unfold isBeg; rw [f]; simp
  · unfold isAlw; rw [if_neg (by omega), f]; simp; omega
  · unfold bhd; rw [if_neg (by omega), if_neg (by omega)]
theorem PS.f4 (h : PS s t q d n) : isBeg (s 4) = true ∧ isAlw (s 4) (s 5) = true ∧ isRep (s 4) = false ∧ isFor (s 4) = false ∧ bhd s 4 = 6 ∧ nmb s 5 = n := by
  obtain ⟨h0, h1, h2, h3, h4, h5, h6, ht, hq, hd, hn⟩ := h
  have e6 : s (4 + 2) = 41 := h6
  have e61 : s (5 + 1) = 41 := h6
  have r : isRep (s 4) = false := by unfold isRep; exact decide_eq_false (by omega)
  have f : isFor (s 4) = false := by unfold isFor; exact decide_eq_false (by omega)
  refine ⟨?_, ?_, r, f, ?_, ?_⟩
  · unfold isBeg; rw [h4]; simp
  · unfold isAlw; rw [if_pos h4]; exact decide_eq_true (by omega)
  · unfold bhd; rw [if_neg (by omega), if_neg (by omega)]
  · unfold nmb; rw [if_neg (by omega)]; omega
theorem PS.f6 (h : PS s t q d n) : isFor (s 1) = false ∧ isFor (s 3) = false ∧ isFor (s 5) = false ∧ isFor (s 6) = false ∧ bhd s 6 = 7 := by
  obtain ⟨h0, h1, h2, h3, h4, h5, h6, ht, hq, hd, hn⟩ := h
  refine ⟨?_, ?_, ?_, ?_, ?_⟩
  · unfold isFor; exact decide_eq_false (by omega)
  · unfold isFor; exact decide_eq_false (by omega)
  · unfold isFor; exact decide_eq_false (by omega)
  · unfold isFor; exact decide_eq_false (by omega)
  · unfold bhd; rw [if_pos h6]
theorem PS.ftn (h : PS s t q d n) : ft s 7 60 0 0 true = none := by
  obtain ⟨a1, a2, a3, a4, a5⟩ := h.f0
  obtain ⟨b1, b2, b3, b4, b5⟩ := h.f2
  obtain ⟨c1, c2, c3, c4, c5, c6⟩ := h.f4
  obtain ⟨h0, h1, h2, h3, h4, h5, h6, ht, hq, hd, hn⟩ := h
  show ft s 7 (59 + 1) 0 0 true = none
  rw [ft, if_pos (by decide), if_neg (fun q => absurd q.2.1 (by decide)), if_neg (by rw [a1]; decide), if_neg (by rw [a2]; decide), a3, a5, if_pos rfl]
  show ft s 7 (58 + 1) 2 1 true = none
  rw [ft, if_pos (by decide), if_neg (fun q => absurd q.2.2 (by decide)), if_neg (by rw [b1]; decide), if_neg (by rw [b2]; decide), b3, b5, if_neg (by decide)]
  show ft s 7 (57 + 1) 4 1 false = none
  rw [ft, if_pos (by decide), if_neg (fun q => by omega), if_neg (by rw [c1]; decide), if_neg (by rw [c2]; decide), c3, c5, if_neg (by decide)]
  show ft s 7 (56 + 1) 6 1 false = none
  rw [ft, if_pos (by decide), if_pos ⟨h6, by decide, rfl⟩]
  show ft s 7 (55 + 1) 7 0 false = none
  rw [ft, if_neg (by decide), if_neg (by decide)]
theorem PS.hi (h : PS s t q d n) : hiN s 7 = d + 1 := by
  obtain ⟨-, -, -, a4, -⟩ := h.f0
  obtain ⟨-, -, -, b4, -⟩ := h.f2
  obtain ⟨-, -, -, c4, -⟩ := h.f4
  obtain ⟨d1, d3, d5, d6, -⟩ := h.f6
  obtain ⟨h0, h1, h2, h3, h4, h5, h6, ht, hq, hd, hn⟩ := h
  show hiN s (6 + 1) = _
  rw [hiN, d6, if_neg (by decide)]
  show hiN s (5 + 1) = _
  rw [hiN, d5, if_neg (by decide)]
  show hiN s (4 + 1) = _
  rw [hiN, c4, if_neg (by decide)]
  show hiN s (3 + 1) = _
  rw [hiN, d3, if_neg (by decide)]
  show hiN s (2 + 1) = _
  rw [hiN, b4, if_pos rfl]
  show max (hiN s (1 + 1)) (s 3 - 48 + 1) = _
  rw [hiN, d1, if_neg (by decide)]
  show max (hiN s (0 + 1)) (s 3 - 48 + 1) = _
  rw [hiN, a4, if_neg (by decide), hiN, h3]
  omega
theorem PS.ct (h : PS s t q d n) : cT s 7 60 0 0 (fun _ => 1) 0 0 = (t * n, 2 * t) := by
  obtain ⟨a1, a2, a3, a4, a5⟩ := h.f0
  obtain ⟨b1, b2, b3, b4, b5⟩ := h.f2
  obtain ⟨c1, c2, c3, c4, c5, c6⟩ := h.f4
  obtain ⟨-, -, -, -, d7⟩ := h.f6
  obtain ⟨h0, h1, h2, h3, h4, h5, h6, ht, hq, hd, hn⟩ := h
  have htn : t * n ≤ 9 * 9 := Nat.mul_le_mul ht.2 hn.2
  show cT s 7 (59 + 1) 0 0 (fun _ => 1) 0 0 = _
  rw [cT, if_pos (by decide), if_neg (by omega), if_pos a3, a5]
  show cT s 7 (58 + 1) 2 1 _ 0 0 = _
  rw [cT, if_pos (by decide), if_neg (by omega), if_neg (by rw [b3]; decide), b5, if_neg (by omega), va_up_self]
  show cT s 7 (57 + 1) 4 1 _ _ _ = _
  rw [cT, if_pos (by decide), if_neg (by omega), if_neg (by rw [c3]; decide), c5, if_pos h4, va_up_self]
  show cT s 7 (56 + 1) 6 1 _ _ _ = _
  rw [cT, if_pos (by decide), if_pos h6, d7]
  show cT s 7 (55 + 1) 7 0 _ _ _ = _
  rw [cT, if_neg (by decide), show 4 + 1 = 5 from rfl, c6, h0, show 1 * (48 + t - 48) = t by omega, show min t 5001 = t by omega, Nat.mul_zero]
  refine Prod.ext ?_ ?_
  · show min (min (0 + 0) 5001 + t * n) 5001 = t * n
    omega
  · show min (min (0 + t) 5001 + t) 5001 = 2 * t
    omega
/-- what one round of it does -/
def pbd (q d n : Nat) (ρ : Row) : Row := tkR (if q = 112 then flpR ρ d else stpR ρ d) n
theorem PS.it (h : PS s t q d n) (ρ : Row) : itR s (itR s ρ 2) 4 = pbd q d n ρ := by
  obtain ⟨-, -, -, -, -, c6⟩ := h.f4
  obtain ⟨h0, h1, h2, h3, h4, h5, h6, ht, hq, hd, hn⟩ := h
  have e2 : itR s ρ 2 = if q = 112 then flpR ρ d else stpR ρ d := by
    unfold itR
    rw [if_neg (by omega), show 2 + 1 = 3 from rfl, h3, h2, show 48 + d - 48 = d by omega]
  rw [e2]
  unfold itR pbd
  rw [if_pos h4, show 4 + 1 = 5 from rfl, c6]
theorem PS.ex (h : PS s t q d n) : ∀ (m F : Nat) (sf tf : Nat → Nat) (ρ : Row), 1 ≤ m → 3 * m + 2 ≤ F → sf 0 = 2 → tf 0 = m → exR s 7 F 2 1 sf tf ρ = itF (pbd q d n) m ρ
  | 0, _, _, _, _, h1, _, _, _ => absurd h1 (by decide)
  | m + 1, F, sf, tf, ρ, _, hF, hs, ht => by
    obtain ⟨F, rfl⟩ : ∃ k, F = k + 3 := ⟨F - 3, by omega⟩
    obtain ⟨-, -, b3, b4, b5⟩ := h.f2
    obtain ⟨-, -, c3, c4, c5, c6⟩ := h.f4
    obtain ⟨-, -, -, -, d7⟩ := h.f6
    obtain ⟨h0, h1, h2, h3, h4, h5, h6, ht2, hq, hd, hn⟩ := id h
    show exR s 7 ((F + 2) + 1) 2 1 sf tf ρ = _
    rw [exR, if_pos (by decide), if_neg (by omega), if_neg (by omega), b5]
    show exR s 7 ((F + 1) + 1) 4 1 sf tf _ = _
    rw [exR, if_pos (by decide), if_neg (by omega), if_neg (by omega), c5, h.it]
    show exR s 7 (F + 1) 6 1 sf tf _ = _
    rw [exR, if_pos (by decide), if_neg (by omega), if_pos h6, d7]
    show (if 1 < tf 0 then exR s 7 F (sf 0) 1 sf (va_up tf 0 (tf 0 - 1)) (pbd q d n ρ) else exR s 7 F 7 0 sf tf (pbd q d n ρ)) = _
    rw [ht, hs]
    by_cases c : m = 0
    · rw [if_neg (by omega)]
      subst c
      obtain ⟨F, rfl⟩ : ∃ k, F = k + 1 := ⟨F - 1, by omega⟩
      rw [exR, if_neg (by decide)]
      rfl
    · rw [if_pos (by omega)]
      exact PS.ex h m F sf _ (pbd q d n ρ) (by omega) (by omega) hs (by rw [va_up_self]; omega)
end PSs
theorem itF_s {F : Row → Row} : ∀ {i : Nat} {r : Row}, itF F (i + 1) r = F (itF F i r)
  | 0, _ => rfl
  | i + 1, r => by
    show itF F (i + 1) (F r) = _
    rw [itF_s]
    rfl
section QPF
variable {S : AS} {tx : Nat → Nat} {t q d n : Nat}
theorem qpf_ex (ht : 2 ≤ t ∧ t ≤ 9) (hq : q = 112 ∨ q = 107) (hd : d ≤ 5) (hn : 1 ≤ n ∧ n ≤ 9) : exS (tyS S 7 (ptx tx t q d n 7)) = itF (pbd q d n) t S.r := by
  have h : PS (sgn 7 (ptx tx t q d n 7)) t q d n := PS.of ht hq hd hn
  obtain ⟨a1, a2, a3, a4, a5⟩ := h.f0
  show exR (sgn 7 (ptx tx t q d n 7)) 7 (999999 + 1) 0 0 (fun _ => 0) (fun _ => 0) S.r = _
  rw [exR, if_pos (by decide), if_pos (show 50 ≤ sgn 7 (ptx tx t q d n 7) 0 ∧ sgn 7 (ptx tx t q d n 7) 0 ≤ 57 by have := h.1; omega), a5]
  refine h.ex t 999999 _ _ S.r (by omega) (by omega) (va_up_self _ _ _) ?_
  rw [va_up_self, h.1]
  omega
theorem qpf_1 (ht : 2 ≤ t ∧ t ≤ 9) (hq : q = 112 ∨ q = 107) (hd : d ≤ 5) (hn : 1 ≤ n ∧ n ≤ 9) (hr : rc S.r ≤ d) : qPerform (tyS S 7 (ptx tx t q d n 7)) = (-1, tyS S 7 (ptx tx t q d n 7)) := by
  have h : PS (sgn 7 (ptx tx t q d n 7)) t q d n := PS.of ht hq hd hn
  have e1 : ft (sgn (tyS S 7 (ptx tx t q d n 7)).ln (tyS S 7 (ptx tx t q d n 7)).tx) (tyS S 7 (ptx tx t q d n 7)).ln 60 0 0 true = none := h.ftn
  have e2 : hiN (sgn (tyS S 7 (ptx tx t q d n 7)).ln (tyS S 7 (ptx tx t q d n 7)).tx) (tyS S 7 (ptx tx t q d n 7)).ln = d + 1 := h.hi
  have e3 : rc (tyS S 7 (ptx tx t q d n 7)).r = rc S.r := rfl
  simp only [qPerform, e1, e2, e3]
  rw [if_pos (by omega)]
theorem qpf_0 (ht : 2 ≤ t ∧ t ≤ 9) (hq : q = 112 ∨ q = 107) (hd : d ≤ 5) (hn : 1 ≤ n ∧ n ≤ 9) (hr : d < rc S.r) : qPerform (tyS S 7 (ptx tx t q d n 7)) = (nI (t * n), (tyS S 7 (ptx tx t q d n 7)).rec.row (itF (pbd q d n) t S.r)) := by
  have h : PS (sgn 7 (ptx tx t q d n 7)) t q d n := PS.of ht hq hd hn
  have htn : t * n ≤ 9 * 9 := Nat.mul_le_mul ht.2 hn.2
  have e1 : ft (sgn (tyS S 7 (ptx tx t q d n 7)).ln (tyS S 7 (ptx tx t q d n 7)).tx) (tyS S 7 (ptx tx t q d n 7)).ln 60 0 0 true = none := h.ftn
  have e2 : hiN (sgn (tyS S 7 (ptx tx t q d n 7)).ln (tyS S 7 (ptx tx t q d n 7)).tx) (tyS S 7 (ptx tx t q d n 7)).ln = d + 1 := h.hi
  have e3 : rc (tyS S 7 (ptx tx t q d n 7)).r = rc S.r := rfl
  have e4 : ctS (tyS S 7 (ptx tx t q d n 7)) = (t * n, 2 * t) := h.ct
  have e5 := qpf_ex (S := S) (tx := tx) ht hq hd hn
  simp only [qPerform, e1, e2, e3, e4, e5]
  rw [if_neg (by omega), if_neg (by omega)]
end QPF
/-- what the rows stand for, by the class's row alone -/
def IR (ρ : Row) (c r h p : Nat → Int32) (B M : Nat) : Prop := Vr ρ B ∧ (∃ a K, RgL ρ r a K M) ∧ GlL ρ h ∧ CoL ρ c ∧ VC ρ ∧ PiL ρ p
theorem IV.ir {S : AS} {c r h p : Nat → Int32} {B M : Nat} (q : IV S c r h p B M) : IR S.r c r h p B M := ⟨q.1.v, q.2⟩
theorem IR.le {ρ : Row} {c r h p : Nat → Int32} {B M B2 M2 : Nat} (q : IR ρ c r h p B M) (hB : B ≤ B2) (hM : M ≤ M2) : IR ρ c r h p B2 M2 := by
  obtain ⟨h1, ⟨a, K, h2⟩, h3⟩ := q
  exact ⟨h1.le hB, ⟨a, K, h2.lm hM⟩, h3⟩
section IRs
variable {ρ : Row} {c r h p r2 : Nat → Int32} {B M d : Nat}
theorem IR.flp (q : IR ρ c r h p B M) (hB : B ≤ 10000000) (hd : d < rc ρ) (e : ∀ i, i ≠ 8 + 8 * d + 4 → r2 i = r i) (n4 : r2 (8 + 8 * d + 4) = nI (1 - rg ρ d 4)) : IR (flpR ρ d) c r2 h p B M := by
  obtain ⟨hv, ⟨a, K, hq⟩, hg, hcl, hvc, hpi⟩ := q
  have h6 := hv.1.2
  have hf : ∀ k, k < 33 ∨ 75 ≤ k → flpR ρ d k = ρ k := fun k hk => if_neg (by omega)
  refine ⟨vr_flp hv (by omega) hd, ⟨_, _, by rw [flpR_upd]; exact rg_run hv hq hd (by omega) e n4⟩, gl_cg hv hg (fun k h1 _ => hf k (by omega)), co_cg hcl (fun k hk => hf k (by omega)), vc_cg hv hvc (fun k hk => hf k (by omega)), pi_cg hpi (fun k h1 _ => hf k (by omega))⟩
theorem IR.stp {h2 : Nat → Int32} {kk : Nat} (q : IR ρ c r h p B M) (hB : B ≤ 10000000) (hd : d < rc ρ) (e : ∀ i, i ≠ 8 + 8 * d + 6 → r2 i = r i) (hk : r (8 + 8 * d + 6) = nI kk) (n6 : r2 (8 + 8 * d + 6) = nI (kk + 1)) (eh : ∀ i, i ≠ 2 → h2 i = h i) (nh : h2 2 = nI (nn (ρ 157) + 1)) (hkk : kk ≤ 60000000) : IR (stpR ρ d) c r2 h2 p (B + 1) M := by
  obtain ⟨hv, ⟨a, K, hq⟩, hg, hcl, hvc, hpi⟩ := q
  have h6 := hv.1.2
  have h4 := hv.2.1.2
  have hf : ∀ k, k ≠ 39 + 7 * d → k ≠ 157 → stpR ρ d k = ρ k := fun k h1 h2 => (if_neg h1).trans (if_neg h2)
  have g : ∀ j, j < 6 → rg (stpR ρ d) d j = rg ρ d j := fun j hj => rg_of (hf _ (by omega) (by omega))
  have g6 : rg (stpR ρ d) d 6 = rg ρ d 6 + 1 := by
    have := (hv.rg hd).2.2.2.2.2.2.2.2
    unfold rg
    rw [show stpR ρ d (33 + 7 * d + 6) = nI (rg ρ d 6 + 1) from if_pos (by omega)]
    exact nn_I (by omega)
  have hn : nP (stpR ρ d) d = nP ρ d := by unfold nP; rw [g 0 (by decide), g 1 (by decide)]
  have hKd : K d = kk := by
    have h1 := hq.f6 hd
    rw [hk] at h1
    have h2 := hq.dv hd
    have h3 := (hv.rg hd).2.2.2.2.2.2.2.2
    have h5 := Nat.le_add_left (K d) (a d / rg ρ d 2)
    exact ((nI_eq (by omega) (by omega)).mp h1).symm
  refine ⟨vr_stp hv (by omega) hd, ⟨_, _, rg_set (ak := a d) (Kk := K d + 1) hv hq hd (rc_of (hf _ (by omega) (by decide))) (fun i j hi hc hj => rg_of (hf _ (by omega) (by omega))) (fun i hi => e i (by omega)) ?_⟩, ?_, co_cg hcl (fun k hk => hf k (by omega) (by omega)), vc_cg hv hvc (fun k hk => hf k (by omega) (by omega)), pi_cg hpi (fun k h1 _ => hf k (by omega) (by omega))⟩
  · rw [g 0 (by decide), hn, g 2 (by decide), g 3 (by decide), g 4 (by decide), g 5 (by decide), g6, hKd]
    have h9 := hq.dv hd
    exact ⟨(e _ (by omega)).trans (hq.f0 hd), (e _ (by omega)).trans (hq.f1 hd), (e _ (by omega)).trans (hq.f2 hd), (e _ (by omega)).trans (hq.f3 hd), (e _ (by omega)).trans (hq.f4 hd), (e _ (by omega)).trans (hq.f5 hd), n6, hq.md hd, by omega, hq.le hd⟩
  · have eg : gc (stpR ρ d) = gc ρ := gc_of (hf _ (by omega) (by decide))
    refine ⟨by rw [eg, eh 0 (by decide)]; exact hg.n, by rw [eh 1 (by decide), hf 156 (by omega) (by decide)]; exact hg.t, by rw [nh]; exact ((if_neg (by omega)).trans (if_pos rfl)).symm, fun k hk => ?_⟩
    rw [eg] at hk
    rw [gl_of (hf _ (by omega) (by omega)), gl_of (hf _ (by omega) (by omega)), gl_of (hf _ (by omega) (by omega)), hf (76 + 4 * k + 1) (by omega) (by omega), eh _ (by omega), eh _ (by omega), eh _ (by omega), eh _ (by omega)]
    exact hg.2.2.2 k hk
theorem pi_tk {n : Nat} (hv : Vr ρ B) (q : PiL ρ p) : PiL (tkR ρ n) p := pi_cg q (fun k h1 h2 => by
  have := tkR_px (r := ρ) (t := n) hv.1.2 hv.2.1.2 (k := k - 92) (by omega)
  rwa [show 92 + (k - 92) = k by omega] at this)
theorem IR.tk {h2 : Nat → Int32} {a2 K2 : Nat → Nat} {n : Nat} (q : IR ρ c r h p B M) (hB : B ≤ 10000000) (hn : n ≤ 1000) (hq : RgL (tkR ρ n) r2 a2 K2 (M + n)) (hg : GlL (tkR ρ n) h2) : IR (tkR ρ n) c r2 h2 p (B + n) (M + n) :=
  ⟨vr_tk q.1 (by omega) (by omega), ⟨_, _, hq⟩, hg, co_tk q.2.2.2.1, vc_tk q.1 q.2.2.2.2.1, pi_tk q.1 q.2.2.2.2.2⟩
end IRs
theorem LWP.wrh {Ec E : gE} {g g2 : Mem} {S : AS} {c r h p r2 h2 : Nat → Int32} (q : LWP Ec E g S c r h p) (e1 : g2 101 = aI E 0 56 r2) (e2 : g2 102 = aI E 0 20 h2) (e : ∀ j, j ≠ 101 → j ≠ 102 → g2 j = g j) : LWP Ec E g2 S c r2 h2 p := by
  obtain ⟨h1, h2, h3, h4, h5, h6, h7, h8⟩ := q
  exact ⟨h1, h2, h3, h4.keep (fun k hk => e k (by omega) (by omega)), (e _ (by decide) (by decide)).trans h5, e1, e2, (e _ (by decide) (by decide)).trans h8⟩
theorem i2c_n {n : Nat} (h : n < 65536) : ((nI n).toUInt32 % 65536).toInt32 = nI n := by
  apply Int32.toBitVec_inj.mp
  show (nI n).toBitVec % 65536#32 = BitVec.ofNat 32 n
  apply BitVec.eq_of_toNat_eq
  rw [BitVec.toNat_umod]
  show (n % 2 ^ 32) % 65536 = n % 2 ^ 32
  omega
