/-! ===== the program of the class ===== -/
/-- the sign at an index; what signs are -/
def sgn (ln : Nat) (tx : Nat → Nat) (i : Nat) : Nat := if i < ln then tx i else 0
def isRep (a : Nat) : Bool := decide (50 ≤ a ∧ a ≤ 57)
def isFor (a : Nat) : Bool := decide (a = 112 ∨ a = 107)
def isBeg (a : Nat) : Bool := decide (a = 116) || (isFor a || isRep a)
def isAlw (a b : Nat) : Bool := if a = 116 then decide (49 ≤ b ∧ b ≤ 57) else if isFor a then decide (48 ≤ b ∧ b ≤ 53) else decide (b = 40)
def bhd (s : Nat → Nat) (i : Nat) : Nat := if s i = 41 then i + 1 else if s i = 116 ∧ 48 ≤ s (i + 2) ∧ s (i + 2) ≤ 57 then i + 3 else i + 2
def nmb (s : Nat → Nat) (i : Nat) : Nat := if 48 ≤ s (i + 1) ∧ s (i + 1) ≤ 57 then 10 * (s i - 48) + (s (i + 1) - 48) else s i - 48
/-- where the text has its fault, read on from i with so many open brackets -/
def ft (s : Nat → Nat) (ln : Nat) : Nat → Nat → Nat → Bool → Option Nat
  | 0, _, op, due => if due = true ∨ 0 < op then some ln else none
  | n + 1, i, op, due => if i < ln then (if s i = 41 ∧ 0 < op ∧ due = false then ft s ln n (i + 1) (op - 1) false else if isBeg (s i) = false then some i else if isAlw (s i) (s (i + 1)) = false then some (i + 1) else ft s ln n (bhd s i) (if isRep (s i) then op + 1 else op) (isRep (s i))) else (if due = true ∨ 0 < op then some ln else none)
/-- the counts of ticks and items, read on from i -/
def cT (s : Nat → Nat) (ln : Nat) : Nat → Nat → Nat → (Nat → Nat) → Nat → Nat → Nat × Nat
  | 0, _, _, _, tk, it => (tk, it)
  | n + 1, i, d, tf, tk, it => if i < ln then (if s i = 41 then cT s ln n (bhd s i) (d - 1) tf tk it else if isRep (s i) then cT s ln n (bhd s i) (d + 1) (va_up tf (d + 1) (min (tf d * (s i - 48)) 5001)) tk it else cT s ln n (bhd s i) d tf (min (tk + tf d * (if s i = 116 then nmb s (i + 1) else 0)) 5001) (min (it + tf d) 5001)) else (tk, it)
/-- the highest number of a range that is named ahead of i, and one more; 0 if none is -/
def hiN (s : Nat → Nat) : Nat → Nat
  | 0 => 0
  | i + 1 => if isFor (s i) then max (hiN s i) (s (i + 1) - 48 + 1) else hiN s i
/-- one item -/
def itR (s : Nat → Nat) (r : Row) (i : Nat) : Row := if s i = 116 then tkR r (nmb s (i + 1)) else if s i = 112 then flpR r (s (i + 1) - 48) else stpR r (s (i + 1) - 48)
def itB (s : Nat → Nat) (i : Nat) : Nat := if s i = 116 then nmb s (i + 1) else 1
def itOk (s : Nat → Nat) (r : Row) (i : Nat) : Prop := (s i = 116 ∧ 49 ≤ s (i + 1) ∧ s (i + 1) ≤ 57) ∨ ((s i = 112 ∨ s i = 107) ∧ 48 ≤ s (i + 1) ∧ s (i + 1) ≤ 57 ∧ s (i + 1) - 48 < rc r)
/-- the program runs on from i, with d repeats open, in so many rounds, and leaves the row fin -/
def Run (s : Nat → Nat) (ln : Nat) : Nat → Nat → Nat → (Nat → Nat) → (Nat → Nat) → Row → Nat → Row → Prop
  | 0, i, _, _, _, r, _, fin => i = ln ∧ fin = r
  | n + 1, i, d, sf, tf, r, B, fin => i < ln ∧ Vr r B ∧ B < 90000000 ∧
    ((50 ≤ s i ∧ s i ≤ 57 ∧ s (i + 1) = 40 ∧ d < 30 ∧ Run s ln n (bhd s i) (d + 1) (va_up sf d (bhd s i)) (va_up tf d (s i - 48)) r B fin) ∨
     (s i = 41 ∧ 0 < d ∧ d ≤ 30 ∧ 1 ≤ tf (d - 1) ∧ tf (d - 1) ≤ 9 ∧ sf (d - 1) ≤ 60 ∧ ((1 < tf (d - 1) ∧ Run s ln n (sf (d - 1)) d sf (va_up tf (d - 1) (tf (d - 1) - 1)) r B fin) ∨ (tf (d - 1) = 1 ∧ Run s ln n (bhd s i) (d - 1) sf tf r B fin))) ∨
     (itOk s r i ∧ Run s ln n (bhd s i) d sf tf (itR s r i) (B + itB s i) fin))
def PF (E : gE) (g0 g : Mem) (ln : Nat) (tx : Nat → Nat) (f : Nat → Int32) (tk it : Int32) (st ti : Nat → Int32) : Prop := PX E g ln tx f tk it st ti ∧ Fp g0 g
section PFs
variable {E : gE} {g0 g : Mem} {ln : Nat} {tx : Nat → Nat} {f : Nat → Int32} {tk it : Int32} {st ti : Nat → Int32}
theorem PX.k (h : PX E g ln tx f tk it st ti) : 100 ≤ eK E := h.1
theorem PX.l (h : PX E g ln tx f tk it st ti) : ln ≤ 60 := h.2.1
theorem PX.t (h : PX E g ln tx f tk it st ti) : ∀ k, k < ln → tx k < 65536 := h.2.2.1
theorem PX.fx (h : PX E g ln tx f tk it st ti) : ∀ k, k < ln → f k = nI (tx k) := h.2.2.2.1
theorem PX.a93 (h : PX E g ln tx f tk it st ti) : g 93 = oB 2 [rf E 94, rf E 95, rf E 96, .int (nI ln), .int tk, .int it] := h.2.2.2.2.1
theorem PX.a94 (h : PX E g ln tx f tk it st ti) : g 94 = aI E 1 60 f := h.2.2.2.2.2.1
theorem PX.a95 (h : PX E g ln tx f tk it st ti) : g 95 = aI E 0 60 st := h.2.2.2.2.2.2.1
theorem PX.a96 (h : PX E g ln tx f tk it st ti) : g 96 = aI E 0 60 ti := h.2.2.2.2.2.2.2
theorem PX.u93 (h : PX E g ln tx f tk it st ti) (tk2 it2 : Int32) : PX E (va_up g 93 (oB 2 [rf E 94, rf E 95, rf E 96, .int (nI ln), .int tk2, .int it2])) ln tx f tk2 it2 st ti := ⟨h.1, h.2.1, h.2.2.1, h.2.2.2.1, va_up_self _ _ _, (va_up_ne _ _ (by decide)).trans h.a94, (va_up_ne _ _ (by decide)).trans h.a95, (va_up_ne _ _ (by decide)).trans h.a96⟩
theorem PX.u95 (h : PX E g ln tx f tk it st ti) (st2 : Nat → Int32) : PX E (va_up g 95 (aI E 0 60 st2)) ln tx f tk it st2 ti := ⟨h.1, h.2.1, h.2.2.1, h.2.2.2.1, (va_up_ne _ _ (by decide)).trans h.a93, (va_up_ne _ _ (by decide)).trans h.a94, va_up_self _ _ _, (va_up_ne _ _ (by decide)).trans h.a96⟩
theorem PX.u96 (h : PX E g ln tx f tk it st ti) (ti2 : Nat → Int32) : PX E (va_up g 96 (aI E 0 60 ti2)) ln tx f tk it st ti2 := ⟨h.1, h.2.1, h.2.2.1, h.2.2.2.1, (va_up_ne _ _ (by decide)).trans h.a93, (va_up_ne _ _ (by decide)).trans h.a94, (va_up_ne _ _ (by decide)).trans h.a95, va_up_self _ _ _⟩
theorem Fp.up (h : Fp g0 g) {k : Nat} {e : va_E} (h1 : 93 ≤ k) (h2 : k < 97) : Fp g0 (va_up g k e) := fun j hj => (va_up_ne _ _ (by omega)).trans (h j hj)
theorem PF.u93 (h : PF E g0 g ln tx f tk it st ti) (tk2 it2 : Int32) : PF E g0 (va_up g 93 (oB 2 [rf E 94, rf E 95, rf E 96, .int (nI ln), .int tk2, .int it2])) ln tx f tk2 it2 st ti := ⟨h.1.u93 _ _, h.2.up (by decide) (by decide)⟩
theorem PF.u95 (h : PF E g0 g ln tx f tk it st ti) (st2 : Nat → Int32) : PF E g0 (va_up g 95 (aI E 0 60 st2)) ln tx f tk it st2 ti := ⟨h.1.u95 _, h.2.up (by decide) (by decide)⟩
theorem PF.u96 (h : PF E g0 g ln tx f tk it st ti) (ti2 : Nat → Int32) : PF E g0 (va_up g 96 (aI E 0 60 ti2)) ln tx f tk it st ti2 := ⟨h.1.u96 _, h.2.up (by decide) (by decide)⟩
theorem sgn_lt (h : PX E g ln tx f tk it st ti) (i : Nat) : sgn ln tx i < 65536 := by
  unfold sgn
  split
  · exact h.t _ (by assumption)
  · decide
end PFs
theorem z_vpc {c : Nat} (h : c < 65536) : vp_nar .char (nI c) = nI c := by
  unfold vp_nar
  rw [(pk_charN h).1]
theorem sgn_0 {ln : Nat} {tx : Nat → Nat} {i : Nat} (h : ln ≤ i) : sgn ln tx i = 0 := if_neg (by omega)
/-- what a sign that is allowed tells -/
theorem tok {s : Nat → Nat} {i : Nat} (h1 : ¬ isBeg (s i) = false) (h2 : ¬ isAlw (s i) (s (i + 1)) = false) :
    (s i = 116 ∧ 49 ≤ s (i + 1) ∧ s (i + 1) ≤ 57 ∧ isRep (s i) = false ∧ isFor (s i) = false) ∨ ((s i = 112 ∨ s i = 107) ∧ 48 ≤ s (i + 1) ∧ s (i + 1) ≤ 53 ∧ isRep (s i) = false ∧ isFor (s i) = true ∧ bhd s i = i + 2) ∨ (50 ≤ s i ∧ s i ≤ 57 ∧ s (i + 1) = 40 ∧ isRep (s i) = true ∧ isFor (s i) = false ∧ bhd s i = i + 2) := by
  have e2 : s i ≠ 116 → s i ≠ 41 → bhd s i = i + 2 := fun a b => by unfold bhd; rw [if_neg b, if_neg (fun q => a q.1)]
  unfold isBeg isFor isRep at h1
  unfold isAlw isFor at h2
  by_cases a : s i = 116
  · rw [if_pos a] at h2
    simp only [decide_eq_false_iff_not, Decidable.not_not] at h2
    exact Or.inl ⟨a, h2.1, h2.2, decide_eq_false (by omega), decide_eq_false (by omega)⟩
  rw [if_neg a] at h2
  by_cases b : s i = 112 ∨ s i = 107
  · rw [if_pos (decide_eq_true b)] at h2
    simp only [decide_eq_false_iff_not, Decidable.not_not] at h2
    exact Or.inr (Or.inl ⟨b, h2.1, h2.2, decide_eq_false (by omega), decide_eq_true b, e2 a (by omega)⟩)
  · rw [if_neg (by simpa using b)] at h2
    simp only [decide_eq_false_iff_not, Decidable.not_not] at h2
    have c : 50 ≤ s i ∧ s i ≤ 57 := by
      apply Decidable.byContradiction
      intro q
      exact h1 (by simp only [decide_eq_false a, decide_eq_false b, decide_eq_false q]; rfl)
    exact Or.inr (Or.inr ⟨c.1, c.2, h2, decide_eq_true c, decide_eq_false b, e2 a (by omega)⟩)
theorem bhd_le {s : Nat → Nat} {i ln : Nat} (h0 : ∀ k, ln ≤ k → s k = 0) (hi : i < ln) (h2 : s i = 41 ∨ s (i + 1) ≠ 0) : i < bhd s i ∧ bhd s i ≤ ln ∧ (s i ≠ 41 → i + 2 ≤ bhd s i) := by
  have e1 : s (i + 1) ≠ 0 → i + 1 < ln := fun q => by
    apply Decidable.byContradiction
    intro q2
    exact q (h0 _ (by omega))
  have e2 : s (i + 2) ≠ 0 → i + 2 < ln := fun q => by
    apply Decidable.byContradiction
    intro q2
    exact q (h0 _ (by omega))
  unfold bhd
  split
  · omega
  · split <;> omega
/-- a text without a fault, one sign on -/
theorem ft_inv {s : Nat → Nat} {ln n i d : Nat} {due : Bool} (hi : i < ln) (h : ft s ln (n + 1) i d due = none) :
    (s i = 41 ∧ 0 < d ∧ due = false ∧ ft s ln n (i + 1) (d - 1) false = none) ∨ (¬ isBeg (s i) = false ∧ ¬ isAlw (s i) (s (i + 1)) = false ∧ ft s ln n (bhd s i) (if isRep (s i) then d + 1 else d) (isRep (s i)) = none) := by
  rw [ft, if_pos hi] at h
  split at h
  · rename_i q
    exact Or.inl ⟨q.1, q.2.1, q.2.2, h⟩
  · split at h
    · cases h
    · split at h
      · cases h
      · rename_i q1 q2
        exact Or.inr ⟨q1, q2, h⟩
theorem dX2_append_0 : decode cX2_append 0 = .ok (.aload_n 0, 1) := by decide +kernel
theorem dX2_append_1 : decode cX2_append 1 = .ok (.getfield 9, 3) := by decide +kernel
theorem dX2_append_4 : decode cX2_append 4 = .ok (.aload_n 0, 1) := by decide +kernel
theorem dX2_append_5 : decode cX2_append 5 = .ok (.getfield 22, 3) := by decide +kernel
theorem dX2_append_8 : decode cX2_append 8 = .ok (.iload_n 1, 1) := by decide +kernel
theorem dX2_append_9 : decode cX2_append 9 = .ok (.castore, 1) := by decide +kernel
theorem dX2_append_10 : decode cX2_append 10 = .ok (.aload_n 0, 1) := by decide +kernel
theorem dX2_append_11 : decode cX2_append 11 = .ok (.dup, 1) := by decide +kernel
theorem dX2_append_12 : decode cX2_append 12 = .ok (.getfield 22, 3) := by decide +kernel
theorem dX2_append_15 : decode cX2_append 15 = .ok (.iconst 1, 1) := by decide +kernel
theorem dX2_append_16 : decode cX2_append 16 = .ok (.iadd, 1) := by decide +kernel
theorem dX2_append_17 : decode cX2_append 17 = .ok (.putfield 22, 3) := by decide +kernel
theorem dX2_append_20 : decode cX2_append 20 = .ok (.return_, 1) := by decide +kernel
set_option maxHeartbeats 4000000 in
set_option maxRecDepth 100000 in
theorem c_X2_append (l : Launch) (E : gE) (g : Mem) (ln : Nat) (tx : Nat → Nat) (f : Nat → Int32) (tk it : Int32) (st ti : Nat → Int32) (h : PX E g ln tx f tk it st ti) (c : Nat) (hc : c < 65536) (hl : ln < 60) : Mt l E yX2_append cX2_append 2 none 0 0 [rf E (93), .int (nI (c))] g (pV (fun g' => PA E g' (ln + 1) (va_up tx ln c) ∧ Fp g g')) := by
  have hK := h.k
  have hln := h.l
  refine mt_go (own := RX2) (by decide) rfl (lo := [some (rf E (93)), some (.int (nI (c)))]) rfl (Nat.le_of_ble_eq_true rfl) (fun X hC => ?_)
  refine y_aload_n hC dX2_append_0 (i := 0) rfl rfl ?_
  refine y_get hC fX2_9 dX2_append_1 (k := 93) (by omega) h.a93 rfl ?_
  refine y_aload_n hC dX2_append_4 (i := 0) rfl rfl ?_
  refine y_get hC fX2_22 dX2_append_5 (k := 93) (by omega) h.a93 rfl ?_
  refine y_iload_n hC dX2_append_8 (i := 1) rfl rfl ?_
  refine y_cast hC dX2_append_9 (k := 94) (j := ln) (by omega) h.a94 (rfl) (by omega) (by decide) (z_vpc hc) ?_
  refine y_aload_n hC dX2_append_10 (i := 0) rfl rfl ?_
  refine y_dup hC dX2_append_11 rfl ?_
  refine y_get hC fX2_22 dX2_append_12 (k := 93) (by omega) ((va_up_ne _ _ (by decide)).trans h.a93) rfl ?_
  refine y_iconst (v := nI 1) hC dX2_append_15 (by decide) ?_
  refine y_iadd_n hC dX2_append_16 ?_
  refine y_put hC fpX2_22 dX2_append_17 (k := 93) (by omega) ((va_up_ne _ _ (by decide)).trans h.a93) (Nat.le_of_ble_eq_true rfl) (rfl) (rfl) (fs' := [rf E (94), rf E (95), rf E (96), .int (nI (ln + 1)), .int (tk), .int (it)]) rfl ?_
  refine y_vret (hC := hC) (hd := dX2_append_20) (hq := ?_)
  refine ⟨⟨upd f ln (nI c), tk, it, st, ti, hK, by omega, fun k hk => ?_, fun k hk => ?_, va_up_self _ _ _, (va_up_ne _ _ (by decide)).trans (va_up_self _ _ _), (va_up_ne _ _ (by decide)).trans ((va_up_ne _ _ (by decide)).trans h.a95), (va_up_ne _ _ (by decide)).trans ((va_up_ne _ _ (by decide)).trans h.a96)⟩, fun k hk => (va_up_ne _ _ (by omega)).trans (va_up_ne _ _ (by omega))⟩
  · by_cases e : k = ln
    · rw [e, va_up_self]
      exact hc
    · rw [va_up_ne _ _ e]
      exact h.t k (by omega)
  · by_cases e : k = ln
    · rw [e, va_up_self, pk_us]
    · rw [va_up_ne _ _ e, pk_un e]
      exact h.fx k (by omega)

theorem dX2_signAt_0 : decode cX2_signAt 0 = .ok (.iload_n 1, 1) := by decide +kernel
theorem dX2_signAt_1 : decode cX2_signAt 1 = .ok (.aload_n 0, 1) := by decide +kernel
theorem dX2_signAt_2 : decode cX2_signAt 2 = .ok (.getfield 22, 3) := by decide +kernel
theorem dX2_signAt_5 : decode cX2_signAt 5 = .ok (.if_icmp .ge 12, 3) := by decide +kernel
theorem dX2_signAt_8 : decode cX2_signAt 8 = .ok (.aload_n 0, 1) := by decide +kernel
theorem dX2_signAt_9 : decode cX2_signAt 9 = .ok (.getfield 9, 3) := by decide +kernel
theorem dX2_signAt_12 : decode cX2_signAt 12 = .ok (.iload_n 1, 1) := by decide +kernel
theorem dX2_signAt_13 : decode cX2_signAt 13 = .ok (.caload, 1) := by decide +kernel
theorem dX2_signAt_14 : decode cX2_signAt 14 = .ok (.goto 4, 3) := by decide +kernel
theorem dX2_signAt_17 : decode cX2_signAt 17 = .ok (.iconst 0, 1) := by decide +kernel
theorem dX2_signAt_18 : decode cX2_signAt 18 = .ok (.ireturn, 1) := by decide +kernel
set_option maxHeartbeats 4000000 in
set_option maxRecDepth 100000 in
theorem c_X2_signAt (l : Launch) (E : gE) (g : Mem) (ln : Nat) (tx : Nat → Nat) (f : Nat → Int32) (tk it : Int32) (st ti : Nat → Int32) (h : PX E g ln tx f tk it st ti) (i : Nat) (hi : i < 2147483648) : Mt l E yX2_signAt cX2_signAt 2 (some .char) 0 0 [rf E (93), .int (nI (i))] g (pI (fun z g' => z = nI (sgn ln tx i) ∧ g' = g)) := by
  have hK := h.k
  have hln := h.l
  refine mt_go (own := RX2) (by decide) rfl (lo := [some (rf E (93)), some (.int (nI (i)))]) rfl (Nat.le_of_ble_eq_true rfl) (fun X hC => ?_)
  refine y_iload_n hC dX2_signAt_0 (i := 1) rfl rfl ?_
  refine y_aload_n hC dX2_signAt_1 (i := 0) rfl rfl ?_
  refine y_get hC fX2_22 dX2_signAt_2 (k := 93) (by omega) h.a93 rfl ?_
  refine y_icmp_ge_n (tgt := 17) hC dX2_signAt_5 (by decide) (by omega) (by omega) (fun c_5 => ?_) (fun c_5 => ?_)
  · refine y_iconst (v := nI 0) hC dX2_signAt_17 (by decide) ?_
    refine y_top (y := nI (sgn ln tx i)) (by rw [sgn_0 (by omega)]) ?_
    refine y_zret (hrt := rfl) (hn := (pk_charN (sgn_lt h i)).1) (hC := hC) (hd := dX2_signAt_18) (hq := ?_)
    exact ⟨rfl, rfl⟩
  · refine y_aload_n hC dX2_signAt_8 (i := 0) rfl rfl ?_
    refine y_get hC fX2_9 dX2_signAt_9 (k := 93) (by omega) h.a93 rfl ?_
    refine y_iload_n hC dX2_signAt_12 (i := 1) rfl rfl ?_
    refine y_cald hC dX2_signAt_13 (k := 94) (j := i) (by omega) h.a94 (rfl) (by omega) (by decide) ?_
    refine y_top (y := nI (sgn ln tx i)) ((h.fx i (by omega)).trans (by unfold sgn; rw [if_pos (by omega)])) ?_
    refine y_goto (tgt := 18) hC dX2_signAt_14 (by decide) ?_
    refine y_zret (hrt := rfl) (hn := (pk_charN (sgn_lt h i)).1) (hC := hC) (hd := dX2_signAt_18) (hq := ?_)
    exact ⟨rfl, rfl⟩

theorem dX2_isDigit_0 : decode cX2_isDigit 0 = .ok (.iload_n 0, 1) := by decide +kernel
theorem dX2_isDigit_1 : decode cX2_isDigit 1 = .ok (.iload_n 1, 1) := by decide +kernel
theorem dX2_isDigit_2 : decode cX2_isDigit 2 = .ok (.if_icmp .lt 12, 3) := by decide +kernel
theorem dX2_isDigit_5 : decode cX2_isDigit 5 = .ok (.iload_n 0, 1) := by decide +kernel
theorem dX2_isDigit_6 : decode cX2_isDigit 6 = .ok (.iload_n 2, 1) := by decide +kernel
theorem dX2_isDigit_7 : decode cX2_isDigit 7 = .ok (.if_icmp .gt 7, 3) := by decide +kernel
theorem dX2_isDigit_10 : decode cX2_isDigit 10 = .ok (.iconst 1, 1) := by decide +kernel
theorem dX2_isDigit_11 : decode cX2_isDigit 11 = .ok (.goto 4, 3) := by decide +kernel
theorem dX2_isDigit_14 : decode cX2_isDigit 14 = .ok (.iconst 0, 1) := by decide +kernel
theorem dX2_isDigit_15 : decode cX2_isDigit 15 = .ok (.ireturn, 1) := by decide +kernel
set_option maxHeartbeats 4000000 in
set_option maxRecDepth 100000 in
theorem c_X2_isDigit (l : Launch) (E : gE) (g : Mem) (a b c : Nat) (ha : a < 65536) (hb : b < 65536) (hc : c < 65536) : Mt l E yX2_isDigit cX2_isDigit 3 (some .boolean) 0 0 [.int (nI (a)), .int (nI (b)), .int (nI (c))] g (pI (fun z g' => z = bI (b ≤ a ∧ a ≤ c) ∧ g' = g)) := by
  refine mt_go (own := RX2) (by decide) rfl (lo := [some (.int (nI (a))), some (.int (nI (b))), some (.int (nI (c)))]) rfl (Nat.le_of_ble_eq_true rfl) (fun X hC => ?_)
  refine y_iload_n hC dX2_isDigit_0 (i := 0) rfl rfl ?_
  refine y_iload_n hC dX2_isDigit_1 (i := 1) rfl rfl ?_
  refine y_icmp_lt_n (tgt := 14) hC dX2_isDigit_2 (by decide) (by omega) (by omega) (fun c_2 => ?_) (fun c_2 => ?_)
  · refine y_iconst (v := nI 0) hC dX2_isDigit_14 (by decide) ?_
    refine y_zret (hrt := rfl) (hn := rfl) (hC := hC) (hd := dX2_isDigit_15) (hq := ?_)
    first | exact ⟨(bI_t (by omega)).symm, rfl⟩ | exact ⟨(bI_f (by omega)).symm, rfl⟩
  · refine y_iload_n hC dX2_isDigit_5 (i := 0) rfl rfl ?_
    refine y_iload_n hC dX2_isDigit_6 (i := 2) rfl rfl ?_
    refine y_icmp_gt_n (tgt := 14) hC dX2_isDigit_7 (by decide) (by omega) (by omega) (fun c_7 => ?_) (fun c_7 => ?_)
    · refine y_iconst (v := nI 0) hC dX2_isDigit_14 (by decide) ?_
      refine y_zret (hrt := rfl) (hn := rfl) (hC := hC) (hd := dX2_isDigit_15) (hq := ?_)
      first | exact ⟨(bI_t (by omega)).symm, rfl⟩ | exact ⟨(bI_f (by omega)).symm, rfl⟩
    · refine y_iconst (v := nI 1) hC dX2_isDigit_10 (by decide) ?_
      refine y_goto (tgt := 15) hC dX2_isDigit_11 (by decide) ?_
      refine y_zret (hrt := rfl) (hn := rfl) (hC := hC) (hd := dX2_isDigit_15) (hq := ?_)
      first | exact ⟨(bI_t (by omega)).symm, rfl⟩ | exact ⟨(bI_f (by omega)).symm, rfl⟩

theorem dX2_isRepeat_0 : decode cX2_isRepeat 0 = .ok (.iload_n 0, 1) := by decide +kernel
theorem dX2_isRepeat_1 : decode cX2_isRepeat 1 = .ok (.bipush 50, 2) := by decide +kernel
theorem dX2_isRepeat_3 : decode cX2_isRepeat 3 = .ok (.bipush 57, 2) := by decide +kernel
theorem dX2_isRepeat_5 : decode cX2_isRepeat 5 = .ok (.invokestatic 32, 3) := by decide +kernel
theorem dX2_isRepeat_8 : decode cX2_isRepeat 8 = .ok (.ireturn, 1) := by decide +kernel
set_option maxHeartbeats 4000000 in
set_option maxRecDepth 100000 in
theorem c_X2_isRepeat (l : Launch) (E : gE) (g : Mem) (a : Nat) (ha : a < 65536) : Mt l E yX2_isRepeat cX2_isRepeat 1 (some .boolean) 1 22 [.int (nI (a))] g (pI (fun z g' => z = bI (isRep a = true) ∧ g' = g)) := by
  refine mt_go (own := RX2) (by decide) rfl (lo := [some (.int (nI (a)))]) rfl (Nat.le_of_ble_eq_true rfl) (fun X hC => ?_)
  refine y_iload_n hC dX2_isRepeat_0 (i := 0) rfl rfl ?_
  refine y_bipush (v := nI 50) hC dX2_isRepeat_1 (by decide) ?_
  refine y_bipush (v := nI 57) hC dX2_isRepeat_3 (by decide) ?_
  refine y_callS hC mX2_isDigit kX2_32 dX2_isRepeat_5 (As := [.int (nI (a)), .int (nI (50)), .int (nI (57))]) (rest := []) (c_X2_isDigit l E g (a) 50 57 (by omega) (by decide) (by decide)) rfl rfl rfl (Nat.le_of_ble_eq_true rfl) ⟨Nat.le_of_ble_eq_true rfl, Nat.le_of_ble_eq_true rfl⟩ (pk_i ?_)
  rintro r_5 g_5 ⟨hr_5, hq_5⟩
  obtain rfl := hq_5.symm
  rw [hr_5]
  clear hr_5 r_5
  refine y_zretb (hC := hC) (hd := dX2_isRepeat_8) (hq := ?_)
  exact ⟨bI_cg (by unfold isRep; rw [decide_eq_true_eq]), rfl⟩

theorem dX2_isForRange_0 : decode cX2_isForRange 0 = .ok (.iload_n 0, 1) := by decide +kernel
theorem dX2_isForRange_1 : decode cX2_isForRange 1 = .ok (.bipush 112, 2) := by decide +kernel
theorem dX2_isForRange_3 : decode cX2_isForRange 3 = .ok (.if_icmp .eq 9, 3) := by decide +kernel
theorem dX2_isForRange_6 : decode cX2_isForRange 6 = .ok (.iload_n 0, 1) := by decide +kernel
theorem dX2_isForRange_7 : decode cX2_isForRange 7 = .ok (.bipush 107, 2) := by decide +kernel
theorem dX2_isForRange_9 : decode cX2_isForRange 9 = .ok (.if_icmp .ne 7, 3) := by decide +kernel
theorem dX2_isForRange_12 : decode cX2_isForRange 12 = .ok (.iconst 1, 1) := by decide +kernel
theorem dX2_isForRange_13 : decode cX2_isForRange 13 = .ok (.goto 4, 3) := by decide +kernel
theorem dX2_isForRange_16 : decode cX2_isForRange 16 = .ok (.iconst 0, 1) := by decide +kernel
theorem dX2_isForRange_17 : decode cX2_isForRange 17 = .ok (.ireturn, 1) := by decide +kernel
set_option maxHeartbeats 4000000 in
set_option maxRecDepth 100000 in
theorem c_X2_isForRange (l : Launch) (E : gE) (g : Mem) (a : Nat) (ha : a < 65536) : Mt l E yX2_isForRange cX2_isForRange 1 (some .boolean) 0 0 [.int (nI (a))] g (pI (fun z g' => z = bI (isFor a = true) ∧ g' = g)) := by
  refine mt_go (own := RX2) (by decide) rfl (lo := [some (.int (nI (a)))]) rfl (Nat.le_of_ble_eq_true rfl) (fun X hC => ?_)
  refine y_iload_n hC dX2_isForRange_0 (i := 0) rfl rfl ?_
  refine y_bipush (v := nI 112) hC dX2_isForRange_1 (by decide) ?_
  refine y_icmp_eq_n (tgt := 12) hC dX2_isForRange_3 (by decide) (by omega) (by omega) (fun c_3 => ?_) (fun c_3 => ?_)
  · refine y_iconst (v := nI 1) hC dX2_isForRange_12 (by decide) ?_
    refine y_goto (tgt := 17) hC dX2_isForRange_13 (by decide) ?_
    refine y_zret (hrt := rfl) (hn := rfl) (hC := hC) (hd := dX2_isForRange_17) (hq := ?_)
    first | exact ⟨(bI_t (decide_eq_true (by omega))).symm, rfl⟩ | exact ⟨(bI_f (by unfold isFor; rw [decide_eq_true_eq]; omega)).symm, rfl⟩
  · refine y_iload_n hC dX2_isForRange_6 (i := 0) rfl rfl ?_
    refine y_bipush (v := nI 107) hC dX2_isForRange_7 (by decide) ?_
    refine y_icmp_ne_n (tgt := 16) hC dX2_isForRange_9 (by decide) (by omega) (by omega) (fun c_9 => ?_) (fun c_9 => ?_)
    · refine y_iconst (v := nI 0) hC dX2_isForRange_16 (by decide) ?_
      refine y_zret (hrt := rfl) (hn := rfl) (hC := hC) (hd := dX2_isForRange_17) (hq := ?_)
      first | exact ⟨(bI_t (decide_eq_true (by omega))).symm, rfl⟩ | exact ⟨(bI_f (by unfold isFor; rw [decide_eq_true_eq]; omega)).symm, rfl⟩
    · refine y_iconst (v := nI 1) hC dX2_isForRange_12 (by decide) ?_
      refine y_goto (tgt := 17) hC dX2_isForRange_13 (by decide) ?_
      refine y_zret (hrt := rfl) (hn := rfl) (hC := hC) (hd := dX2_isForRange_17) (hq := ?_)
      first | exact ⟨(bI_t (decide_eq_true (by omega))).symm, rfl⟩ | exact ⟨(bI_f (by unfold isFor; rw [decide_eq_true_eq]; omega)).symm, rfl⟩

theorem dX2_isBeginning_0 : decode cX2_isBeginning 0 = .ok (.iload_n 0, 1) := by decide +kernel
theorem dX2_isBeginning_1 : decode cX2_isBeginning 1 = .ok (.bipush 116, 2) := by decide +kernel
theorem dX2_isBeginning_3 : decode cX2_isBeginning 3 = .ok (.if_icmp .eq 17, 3) := by decide +kernel
theorem dX2_isBeginning_6 : decode cX2_isBeginning 6 = .ok (.iload_n 0, 1) := by decide +kernel
theorem dX2_isBeginning_7 : decode cX2_isBeginning 7 = .ok (.invokestatic 36, 3) := by decide +kernel
theorem dX2_isBeginning_10 : decode cX2_isBeginning 10 = .ok (.ifCond .ne 10, 3) := by decide +kernel
theorem dX2_isBeginning_13 : decode cX2_isBeginning 13 = .ok (.iload_n 0, 1) := by decide +kernel
theorem dX2_isBeginning_14 : decode cX2_isBeginning 14 = .ok (.invokestatic 40, 3) := by decide +kernel
theorem dX2_isBeginning_17 : decode cX2_isBeginning 17 = .ok (.ifCond .eq 7, 3) := by decide +kernel
theorem dX2_isBeginning_20 : decode cX2_isBeginning 20 = .ok (.iconst 1, 1) := by decide +kernel
theorem dX2_isBeginning_21 : decode cX2_isBeginning 21 = .ok (.goto 4, 3) := by decide +kernel
theorem dX2_isBeginning_24 : decode cX2_isBeginning 24 = .ok (.iconst 0, 1) := by decide +kernel
theorem dX2_isBeginning_25 : decode cX2_isBeginning 25 = .ok (.ireturn, 1) := by decide +kernel
set_option maxHeartbeats 4000000 in
set_option maxRecDepth 100000 in
theorem c_X2_isBeginning (l : Launch) (E : gE) (g : Mem) (a : Nat) (ha : a < 65536) : Mt l E yX2_isBeginning cX2_isBeginning 1 (some .boolean) 2 42 [.int (nI (a))] g (pI (fun z g' => z = bI (isBeg a = true) ∧ g' = g)) := by
  refine mt_go (own := RX2) (by decide) rfl (lo := [some (.int (nI (a)))]) rfl (Nat.le_of_ble_eq_true rfl) (fun X hC => ?_)
  refine y_iload_n hC dX2_isBeginning_0 (i := 0) rfl rfl ?_
  refine y_bipush (v := nI 116) hC dX2_isBeginning_1 (by decide) ?_
  refine y_icmp_eq_n (tgt := 20) hC dX2_isBeginning_3 (by decide) (by omega) (by omega) (fun c_3 => ?_) (fun c_3 => ?_)
  · refine y_iconst (v := nI 1) hC dX2_isBeginning_20 (by decide) ?_
    refine y_goto (tgt := 25) hC dX2_isBeginning_21 (by decide) ?_
    refine y_zret (hrt := rfl) (hn := rfl) (hC := hC) (hd := dX2_isBeginning_25) (hq := ?_)
    first
      | (refine ⟨(bI_t ?_).symm, rfl⟩; unfold isBeg; simp [*]; done)
      | (refine ⟨(bI_f ?_).symm, rfl⟩; unfold isBeg; simp [*]; done)
  · refine y_iload_n hC dX2_isBeginning_6 (i := 0) rfl rfl ?_
    refine y_callS hC mX2_isForRange kX2_36 dX2_isBeginning_7 (As := [.int (nI (a))]) (rest := []) (c_X2_isForRange l E g a ha) rfl rfl rfl (Nat.le_of_ble_eq_true rfl) ⟨Nat.le_of_ble_eq_true rfl, Nat.le_of_ble_eq_true rfl⟩ (pk_i ?_)
    rintro r_7 g_7 ⟨hr_7, hq_7⟩
    obtain rfl := hq_7.symm
    rw [hr_7]
    clear hr_7 r_7
    refine y_if_ne_b (tgt := 20) hC dX2_isBeginning_10 (by decide) (fun c_10 => ?_) (fun c_10 => ?_)
    · refine y_iconst (v := nI 1) hC dX2_isBeginning_20 (by decide) ?_
      refine y_goto (tgt := 25) hC dX2_isBeginning_21 (by decide) ?_
      refine y_zret (hrt := rfl) (hn := rfl) (hC := hC) (hd := dX2_isBeginning_25) (hq := ?_)
      first
        | (refine ⟨(bI_t ?_).symm, rfl⟩; unfold isBeg; simp [*]; done)
        | (refine ⟨(bI_f ?_).symm, rfl⟩; unfold isBeg; simp [*]; done)
    · refine y_iload_n hC dX2_isBeginning_13 (i := 0) rfl rfl ?_
      refine y_callS hC mX2_isRepeat kX2_40 dX2_isBeginning_14 (As := [.int (nI (a))]) (rest := []) (c_X2_isRepeat l E g a ha) rfl rfl rfl (Nat.le_of_ble_eq_true rfl) ⟨Nat.le_of_ble_eq_true rfl, Nat.le_of_ble_eq_true rfl⟩ (pk_i ?_)
      rintro r_14 g_14 ⟨hr_14, hq_14⟩
      obtain rfl := hq_14.symm
      rw [hr_14]
      clear hr_14 r_14
      refine y_if_eq_b (tgt := 24) hC dX2_isBeginning_17 (by decide) (fun c_17 => ?_) (fun c_17 => ?_)
      · refine y_iconst (v := nI 0) hC dX2_isBeginning_24 (by decide) ?_
        refine y_zret (hrt := rfl) (hn := rfl) (hC := hC) (hd := dX2_isBeginning_25) (hq := ?_)
        first
          | (refine ⟨(bI_t ?_).symm, rfl⟩; unfold isBeg; simp [*]; done)
          | (refine ⟨(bI_f ?_).symm, rfl⟩; unfold isBeg; simp [*]; done)
      · refine y_iconst (v := nI 1) hC dX2_isBeginning_20 (by decide) ?_
        refine y_goto (tgt := 25) hC dX2_isBeginning_21 (by decide) ?_
        refine y_zret (hrt := rfl) (hn := rfl) (hC := hC) (hd := dX2_isBeginning_25) (hq := ?_)
        first
          | (refine ⟨(bI_t ?_).symm, rfl⟩; unfold isBeg; simp [*]; done)
          | (refine ⟨(bI_f ?_).symm, rfl⟩; unfold isBeg; simp [*]; done)

theorem dX2_isAllowedBehind_0 : decode cX2_isAllowedBehind 0 = .ok (.iload_n 0, 1) := by decide +kernel
theorem dX2_isAllowedBehind_1 : decode cX2_isAllowedBehind 1 = .ok (.bipush 116, 2) := by decide +kernel
theorem dX2_isAllowedBehind_3 : decode cX2_isAllowedBehind 3 = .ok (.if_icmp .ne 12, 3) := by decide +kernel
theorem dX2_isAllowedBehind_6 : decode cX2_isAllowedBehind 6 = .ok (.iload_n 1, 1) := by decide +kernel
theorem dX2_isAllowedBehind_7 : decode cX2_isAllowedBehind 7 = .ok (.bipush 49, 2) := by decide +kernel
theorem dX2_isAllowedBehind_9 : decode cX2_isAllowedBehind 9 = .ok (.bipush 57, 2) := by decide +kernel
theorem dX2_isAllowedBehind_11 : decode cX2_isAllowedBehind 11 = .ok (.invokestatic 32, 3) := by decide +kernel
theorem dX2_isAllowedBehind_14 : decode cX2_isAllowedBehind 14 = .ok (.ireturn, 1) := by decide +kernel
theorem dX2_isAllowedBehind_15 : decode cX2_isAllowedBehind 15 = .ok (.iload_n 0, 1) := by decide +kernel
theorem dX2_isAllowedBehind_16 : decode cX2_isAllowedBehind 16 = .ok (.invokestatic 36, 3) := by decide +kernel
theorem dX2_isAllowedBehind_19 : decode cX2_isAllowedBehind 19 = .ok (.ifCond .eq 14, 3) := by decide +kernel
theorem dX2_isAllowedBehind_22 : decode cX2_isAllowedBehind 22 = .ok (.iload_n 1, 1) := by decide +kernel
theorem dX2_isAllowedBehind_23 : decode cX2_isAllowedBehind 23 = .ok (.bipush 48, 2) := by decide +kernel
theorem dX2_isAllowedBehind_25 : decode cX2_isAllowedBehind 25 = .ok (.bipush 53, 2) := by decide +kernel
theorem dX2_isAllowedBehind_27 : decode cX2_isAllowedBehind 27 = .ok (.invokestatic 32, 3) := by decide +kernel
theorem dX2_isAllowedBehind_30 : decode cX2_isAllowedBehind 30 = .ok (.goto 14, 3) := by decide +kernel
theorem dX2_isAllowedBehind_33 : decode cX2_isAllowedBehind 33 = .ok (.iload_n 1, 1) := by decide +kernel
theorem dX2_isAllowedBehind_34 : decode cX2_isAllowedBehind 34 = .ok (.bipush 40, 2) := by decide +kernel
theorem dX2_isAllowedBehind_36 : decode cX2_isAllowedBehind 36 = .ok (.if_icmp .ne 7, 3) := by decide +kernel
theorem dX2_isAllowedBehind_39 : decode cX2_isAllowedBehind 39 = .ok (.iconst 1, 1) := by decide +kernel
theorem dX2_isAllowedBehind_40 : decode cX2_isAllowedBehind 40 = .ok (.goto 4, 3) := by decide +kernel
theorem dX2_isAllowedBehind_43 : decode cX2_isAllowedBehind 43 = .ok (.iconst 0, 1) := by decide +kernel
theorem dX2_isAllowedBehind_44 : decode cX2_isAllowedBehind 44 = .ok (.ireturn, 1) := by decide +kernel
set_option maxHeartbeats 4000000 in
set_option maxRecDepth 100000 in
theorem c_X2_isAllowedBehind (l : Launch) (E : gE) (g : Mem) (a b : Nat) (ha : a < 65536) (hb : b < 65536) : Mt l E yX2_isAllowedBehind cX2_isAllowedBehind 2 (some .boolean) 1 22 [.int (nI (a)), .int (nI (b))] g (pI (fun z g' => z = bI (isAlw a b = true) ∧ g' = g)) := by
  refine mt_go (own := RX2) (by decide) rfl (lo := [some (.int (nI (a))), some (.int (nI (b)))]) rfl (Nat.le_of_ble_eq_true rfl) (fun X hC => ?_)
  refine y_iload_n hC dX2_isAllowedBehind_0 (i := 0) rfl rfl ?_
  refine y_bipush (v := nI 116) hC dX2_isAllowedBehind_1 (by decide) ?_
  refine y_icmp_ne_n (tgt := 15) hC dX2_isAllowedBehind_3 (by decide) (by omega) (by omega) (fun c_3 => ?_) (fun c_3 => ?_)
  · refine y_iload_n hC dX2_isAllowedBehind_15 (i := 0) rfl rfl ?_
    refine y_callS hC mX2_isForRange kX2_36 dX2_isAllowedBehind_16 (As := [.int (nI (a))]) (rest := []) (c_X2_isForRange l E g a ha) rfl rfl rfl (Nat.le_of_ble_eq_true rfl) ⟨Nat.le_of_ble_eq_true rfl, Nat.le_of_ble_eq_true rfl⟩ (pk_i ?_)
    rintro r_16 g_16 ⟨hr_16, hq_16⟩
    obtain rfl := hq_16.symm
    rw [hr_16]
    clear hr_16 r_16
    refine y_if_eq_b (tgt := 33) hC dX2_isAllowedBehind_19 (by decide) (fun c_19 => ?_) (fun c_19 => ?_)
    · refine y_iload_n hC dX2_isAllowedBehind_33 (i := 1) rfl rfl ?_
      refine y_bipush (v := nI 40) hC dX2_isAllowedBehind_34 (by decide) ?_
      refine y_icmp_ne_n (tgt := 43) hC dX2_isAllowedBehind_36 (by decide) (by omega) (by omega) (fun c_36 => ?_) (fun c_36 => ?_)
      · refine y_iconst (v := nI 0) hC dX2_isAllowedBehind_43 (by decide) ?_
        refine y_zret (hrt := rfl) (hn := rfl) (hC := hC) (hd := dX2_isAllowedBehind_44) (hq := ?_)
        first
          | (refine ⟨bI_cg ?_, rfl⟩; unfold isAlw; simp [*]; done)
          | (refine ⟨(bI_t ?_).symm, rfl⟩; unfold isAlw; simp [*]; done)
          | (refine ⟨(bI_f ?_).symm, rfl⟩; unfold isAlw; simp [*]; done)
      · refine y_iconst (v := nI 1) hC dX2_isAllowedBehind_39 (by decide) ?_
        refine y_goto (tgt := 44) hC dX2_isAllowedBehind_40 (by decide) ?_
        refine y_zret (hrt := rfl) (hn := rfl) (hC := hC) (hd := dX2_isAllowedBehind_44) (hq := ?_)
        first
          | (refine ⟨bI_cg ?_, rfl⟩; unfold isAlw; simp [*]; done)
          | (refine ⟨(bI_t ?_).symm, rfl⟩; unfold isAlw; simp [*]; done)
          | (refine ⟨(bI_f ?_).symm, rfl⟩; unfold isAlw; simp [*]; done)
    · refine y_iload_n hC dX2_isAllowedBehind_22 (i := 1) rfl rfl ?_
      refine y_bipush (v := nI 48) hC dX2_isAllowedBehind_23 (by decide) ?_
      refine y_bipush (v := nI 53) hC dX2_isAllowedBehind_25 (by decide) ?_
      refine y_callS hC mX2_isDigit kX2_32 dX2_isAllowedBehind_27 (As := [.int (nI (b)), .int (nI (48)), .int (nI (53))]) (rest := []) (c_X2_isDigit l E g (b) 48 53 (by omega) (by decide) (by decide)) rfl rfl rfl (Nat.le_of_ble_eq_true rfl) ⟨Nat.le_of_ble_eq_true rfl, Nat.le_of_ble_eq_true rfl⟩ (pk_i ?_)
      rintro r_27 g_27 ⟨hr_27, hq_27⟩
      obtain rfl := hq_27.symm
      rw [hr_27]
      clear hr_27 r_27
      refine y_goto (tgt := 44) hC dX2_isAllowedBehind_30 (by decide) ?_
      refine y_zretb (hC := hC) (hd := dX2_isAllowedBehind_44) (hq := ?_)
      first
        | (refine ⟨bI_cg ?_, rfl⟩; unfold isAlw; simp [*]; done)
        | (refine ⟨(bI_t ?_).symm, rfl⟩; unfold isAlw; simp [*]; done)
        | (refine ⟨(bI_f ?_).symm, rfl⟩; unfold isAlw; simp [*]; done)
  · refine y_iload_n hC dX2_isAllowedBehind_6 (i := 1) rfl rfl ?_
    refine y_bipush (v := nI 49) hC dX2_isAllowedBehind_7 (by decide) ?_
    refine y_bipush (v := nI 57) hC dX2_isAllowedBehind_9 (by decide) ?_
    refine y_callS hC mX2_isDigit kX2_32 dX2_isAllowedBehind_11 (As := [.int (nI (b)), .int (nI (49)), .int (nI (57))]) (rest := []) (c_X2_isDigit l E g (b) 49 57 (by omega) (by decide) (by decide)) rfl rfl rfl (Nat.le_of_ble_eq_true rfl) ⟨Nat.le_of_ble_eq_true rfl, Nat.le_of_ble_eq_true rfl⟩ (pk_i ?_)
    rintro r_11 g_11 ⟨hr_11, hq_11⟩
    obtain rfl := hq_11.symm
    rw [hr_11]
    clear hr_11 r_11
    refine y_zretb (hC := hC) (hd := dX2_isAllowedBehind_14) (hq := ?_)
    first
      | (refine ⟨bI_cg ?_, rfl⟩; unfold isAlw; simp [*]; done)
      | (refine ⟨(bI_t ?_).symm, rfl⟩; unfold isAlw; simp [*]; done)
      | (refine ⟨(bI_f ?_).symm, rfl⟩; unfold isAlw; simp [*]; done)

theorem dX2_behind_0 : decode cX2_behind 0 = .ok (.aload_n 0, 1) := by decide +kernel
theorem dX2_behind_1 : decode cX2_behind 1 = .ok (.iload_n 1, 1) := by decide +kernel
theorem dX2_behind_2 : decode cX2_behind 2 = .ok (.invokevirtual 43, 3) := by decide +kernel
theorem dX2_behind_5 : decode cX2_behind 5 = .ok (.bipush 41, 2) := by decide +kernel
theorem dX2_behind_7 : decode cX2_behind 7 = .ok (.if_icmp .ne 7, 3) := by decide +kernel
theorem dX2_behind_10 : decode cX2_behind 10 = .ok (.iload_n 1, 1) := by decide +kernel
theorem dX2_behind_11 : decode cX2_behind 11 = .ok (.iconst 1, 1) := by decide +kernel
theorem dX2_behind_12 : decode cX2_behind 12 = .ok (.iadd, 1) := by decide +kernel
theorem dX2_behind_13 : decode cX2_behind 13 = .ok (.ireturn, 1) := by decide +kernel
theorem dX2_behind_14 : decode cX2_behind 14 = .ok (.aload_n 0, 1) := by decide +kernel
theorem dX2_behind_15 : decode cX2_behind 15 = .ok (.iload_n 1, 1) := by decide +kernel
theorem dX2_behind_16 : decode cX2_behind 16 = .ok (.invokevirtual 43, 3) := by decide +kernel
theorem dX2_behind_19 : decode cX2_behind 19 = .ok (.bipush 116, 2) := by decide +kernel
theorem dX2_behind_21 : decode cX2_behind 21 = .ok (.if_icmp .ne 24, 3) := by decide +kernel
theorem dX2_behind_24 : decode cX2_behind 24 = .ok (.aload_n 0, 1) := by decide +kernel
theorem dX2_behind_25 : decode cX2_behind 25 = .ok (.iload_n 1, 1) := by decide +kernel
theorem dX2_behind_26 : decode cX2_behind 26 = .ok (.iconst 2, 1) := by decide +kernel
theorem dX2_behind_27 : decode cX2_behind 27 = .ok (.iadd, 1) := by decide +kernel
theorem dX2_behind_28 : decode cX2_behind 28 = .ok (.invokevirtual 43, 3) := by decide +kernel
theorem dX2_behind_31 : decode cX2_behind 31 = .ok (.bipush 48, 2) := by decide +kernel
theorem dX2_behind_33 : decode cX2_behind 33 = .ok (.bipush 57, 2) := by decide +kernel
theorem dX2_behind_35 : decode cX2_behind 35 = .ok (.invokestatic 32, 3) := by decide +kernel
theorem dX2_behind_38 : decode cX2_behind 38 = .ok (.ifCond .eq 7, 3) := by decide +kernel
theorem dX2_behind_41 : decode cX2_behind 41 = .ok (.iconst 1, 1) := by decide +kernel
theorem dX2_behind_42 : decode cX2_behind 42 = .ok (.goto 4, 3) := by decide +kernel
theorem dX2_behind_45 : decode cX2_behind 45 = .ok (.iconst 0, 1) := by decide +kernel
theorem dX2_behind_46 : decode cX2_behind 46 = .ok (.istore_n 2, 1) := by decide +kernel
theorem dX2_behind_47 : decode cX2_behind 47 = .ok (.iload_n 1, 1) := by decide +kernel
theorem dX2_behind_48 : decode cX2_behind 48 = .ok (.iload_n 2, 1) := by decide +kernel
theorem dX2_behind_49 : decode cX2_behind 49 = .ok (.ifCond .eq 7, 3) := by decide +kernel
theorem dX2_behind_52 : decode cX2_behind 52 = .ok (.iconst 3, 1) := by decide +kernel
theorem dX2_behind_53 : decode cX2_behind 53 = .ok (.goto 4, 3) := by decide +kernel
theorem dX2_behind_56 : decode cX2_behind 56 = .ok (.iconst 2, 1) := by decide +kernel
theorem dX2_behind_57 : decode cX2_behind 57 = .ok (.iadd, 1) := by decide +kernel
theorem dX2_behind_58 : decode cX2_behind 58 = .ok (.ireturn, 1) := by decide +kernel
set_option maxHeartbeats 4000000 in
set_option maxRecDepth 100000 in
theorem c_X2_behind (l : Launch) (E : gE) (g : Mem) (ln : Nat) (tx : Nat → Nat) (f : Nat → Int32) (tk it : Int32) (st ti : Nat → Int32) (h : PX E g ln tx f tk it st ti) (i : Nat) (hi : i < 1000000) : Mt l E yX2_behind cX2_behind 3 (some .int) 1 22 [rf E (93), .int (nI (i))] g (pI (fun z g' => z = nI (bhd (sgn ln tx) i) ∧ g' = g)) := by
  have hK := h.k
  have hln := h.l
  refine mt_go (own := RX2) (by decide) rfl (lo := [some (rf E (93)), some (.int (nI (i))), none]) rfl (Nat.le_of_ble_eq_true rfl) (fun X hC => ?_)
  refine y_aload_n hC dX2_behind_0 (i := 0) rfl rfl ?_
  refine y_iload_n hC dX2_behind_1 (i := 1) rfl rfl ?_
  refine y_callV hC mX2_signAt kX2_43 dX2_behind_2 (b := 93) (As := [.int (nI (i))]) (rest := []) (c_X2_signAt l E g ln tx f tk it st ti h (i) (by omega)) (by omega) h.a93 rfl rfl rfl (Nat.le_of_ble_eq_true rfl) ⟨Nat.le_of_ble_eq_true rfl, Nat.le_of_ble_eq_true rfl⟩ (pk_i ?_)
  rintro r_2 g_2 ⟨hr_2, hq_2⟩
  obtain rfl := hq_2.symm
  rw [hr_2]
  clear hr_2 r_2
  have hs_2 := sgn_lt h (i)
  refine y_bipush (v := nI 41) hC dX2_behind_5 (by decide) ?_
  refine y_icmp_ne_n (tgt := 14) hC dX2_behind_7 (by decide) (by omega) (by omega) (fun c_7 => ?_) (fun c_7 => ?_)
  · refine y_aload_n hC dX2_behind_14 (i := 0) rfl rfl ?_
    refine y_iload_n hC dX2_behind_15 (i := 1) rfl rfl ?_
    refine y_callV hC mX2_signAt kX2_43 dX2_behind_16 (b := 93) (As := [.int (nI (i))]) (rest := []) (c_X2_signAt l E g ln tx f tk it st ti h (i) (by omega)) (by omega) h.a93 rfl rfl rfl (Nat.le_of_ble_eq_true rfl) ⟨Nat.le_of_ble_eq_true rfl, Nat.le_of_ble_eq_true rfl⟩ (pk_i ?_)
    rintro r_16 g_16 ⟨hr_16, hq_16⟩
    obtain rfl := hq_16.symm
    rw [hr_16]
    clear hr_16 r_16
    have hs_16 := sgn_lt h (i)
    refine y_bipush (v := nI 116) hC dX2_behind_19 (by decide) ?_
    refine y_icmp_ne_n (tgt := 45) hC dX2_behind_21 (by decide) (by omega) (by omega) (fun c_21 => ?_) (fun c_21 => ?_)
    · refine y_iconst (v := nI 0) hC dX2_behind_45 (by decide) ?_
      refine y_istore_n hC dX2_behind_46 (i := 2) rfl (Nat.le_of_ble_eq_true rfl) rfl (lo' := [some (rf E (93)), some (.int (nI (i))), some (.int (nI (0)))]) rfl ?_
      refine y_iload_n hC dX2_behind_47 (i := 1) rfl rfl ?_
      refine y_iload_n hC dX2_behind_48 (i := 2) rfl rfl ?_
      refine y_if_eq_n (tgt := 56) hC dX2_behind_49 (by decide) (by omega) (fun c_49 => ?_) (fun c_49 => ?_)
      · refine y_iconst (v := nI 2) hC dX2_behind_56 (by decide) ?_
        refine y_iadd_n hC dX2_behind_57 ?_
        refine y_top (y := nI (bhd (sgn ln tx) i)) (by unfold bhd; first | (exfalso; omega) | (rw [if_neg (by omega), if_pos (by omega)]) | (rw [if_neg (by omega), if_neg (by omega)])) ?_
        refine y_iret (hC := hC) (hd := dX2_behind_58) (hq := ?_)
        exact ⟨rfl, rfl⟩
      · refine y_iconst (v := nI 3) hC dX2_behind_52 (by decide) ?_
        refine y_goto (tgt := 57) hC dX2_behind_53 (by decide) ?_
        refine y_iadd_n hC dX2_behind_57 ?_
        refine y_top (y := nI (bhd (sgn ln tx) i)) (by unfold bhd; first | (exfalso; omega) | (rw [if_neg (by omega), if_pos (by omega)]) | (rw [if_neg (by omega), if_neg (by omega)])) ?_
        refine y_iret (hC := hC) (hd := dX2_behind_58) (hq := ?_)
        exact ⟨rfl, rfl⟩
    · refine y_aload_n hC dX2_behind_24 (i := 0) rfl rfl ?_
      refine y_iload_n hC dX2_behind_25 (i := 1) rfl rfl ?_
      refine y_iconst (v := nI 2) hC dX2_behind_26 (by decide) ?_
      refine y_iadd_n hC dX2_behind_27 ?_
      refine y_callV hC mX2_signAt kX2_43 dX2_behind_28 (b := 93) (As := [.int (nI (i + 2))]) (rest := []) (c_X2_signAt l E g ln tx f tk it st ti h (i + 2) (by omega)) (by omega) h.a93 rfl rfl rfl (Nat.le_of_ble_eq_true rfl) ⟨Nat.le_of_ble_eq_true rfl, Nat.le_of_ble_eq_true rfl⟩ (pk_i ?_)
      rintro r_28 g_28 ⟨hr_28, hq_28⟩
      obtain rfl := hq_28.symm
      rw [hr_28]
      clear hr_28 r_28
      have hs_28 := sgn_lt h (i + 2)
      refine y_bipush (v := nI 48) hC dX2_behind_31 (by decide) ?_
      refine y_bipush (v := nI 57) hC dX2_behind_33 (by decide) ?_
      refine y_callS hC mX2_isDigit kX2_32 dX2_behind_35 (As := [.int (nI (sgn ln tx (i + 2))), .int (nI (48)), .int (nI (57))]) (rest := []) (c_X2_isDigit l E g (sgn ln tx (i + 2)) 48 57 (by omega) (by decide) (by decide)) rfl rfl rfl (Nat.le_of_ble_eq_true rfl) ⟨Nat.le_of_ble_eq_true rfl, Nat.le_of_ble_eq_true rfl⟩ (pk_i ?_)
      rintro r_35 g_35 ⟨hr_35, hq_35⟩
      obtain rfl := hq_35.symm
      rw [hr_35]
      clear hr_35 r_35
      refine y_if_eq_b (tgt := 45) hC dX2_behind_38 (by decide) (fun c_38 => ?_) (fun c_38 => ?_)
      · refine y_iconst (v := nI 0) hC dX2_behind_45 (by decide) ?_
        refine y_istore_n hC dX2_behind_46 (i := 2) rfl (Nat.le_of_ble_eq_true rfl) rfl (lo' := [some (rf E (93)), some (.int (nI (i))), some (.int (nI (0)))]) rfl ?_
        refine y_iload_n hC dX2_behind_47 (i := 1) rfl rfl ?_
        refine y_iload_n hC dX2_behind_48 (i := 2) rfl rfl ?_
        refine y_if_eq_n (tgt := 56) hC dX2_behind_49 (by decide) (by omega) (fun c_49 => ?_) (fun c_49 => ?_)
        · refine y_iconst (v := nI 2) hC dX2_behind_56 (by decide) ?_
          refine y_iadd_n hC dX2_behind_57 ?_
          refine y_top (y := nI (bhd (sgn ln tx) i)) (by unfold bhd; first | (exfalso; omega) | (rw [if_neg (by omega), if_pos (by omega)]) | (rw [if_neg (by omega), if_neg (by omega)])) ?_
          refine y_iret (hC := hC) (hd := dX2_behind_58) (hq := ?_)
          exact ⟨rfl, rfl⟩
        · refine y_iconst (v := nI 3) hC dX2_behind_52 (by decide) ?_
          refine y_goto (tgt := 57) hC dX2_behind_53 (by decide) ?_
          refine y_iadd_n hC dX2_behind_57 ?_
          refine y_top (y := nI (bhd (sgn ln tx) i)) (by unfold bhd; first | (exfalso; omega) | (rw [if_neg (by omega), if_pos (by omega)]) | (rw [if_neg (by omega), if_neg (by omega)])) ?_
          refine y_iret (hC := hC) (hd := dX2_behind_58) (hq := ?_)
          exact ⟨rfl, rfl⟩
      · refine y_iconst (v := nI 1) hC dX2_behind_41 (by decide) ?_
        refine y_goto (tgt := 46) hC dX2_behind_42 (by decide) ?_
        refine y_istore_n hC dX2_behind_46 (i := 2) rfl (Nat.le_of_ble_eq_true rfl) rfl (lo' := [some (rf E (93)), some (.int (nI (i))), some (.int (nI (1)))]) rfl ?_
        refine y_iload_n hC dX2_behind_47 (i := 1) rfl rfl ?_
        refine y_iload_n hC dX2_behind_48 (i := 2) rfl rfl ?_
        refine y_if_eq_n (tgt := 56) hC dX2_behind_49 (by decide) (by omega) (fun c_49 => ?_) (fun c_49 => ?_)
        · refine y_iconst (v := nI 2) hC dX2_behind_56 (by decide) ?_
          refine y_iadd_n hC dX2_behind_57 ?_
          refine y_top (y := nI (bhd (sgn ln tx) i)) (by unfold bhd; first | (exfalso; omega) | (rw [if_neg (by omega), if_pos (by omega)]) | (rw [if_neg (by omega), if_neg (by omega)])) ?_
          refine y_iret (hC := hC) (hd := dX2_behind_58) (hq := ?_)
          exact ⟨rfl, rfl⟩
        · refine y_iconst (v := nI 3) hC dX2_behind_52 (by decide) ?_
          refine y_goto (tgt := 57) hC dX2_behind_53 (by decide) ?_
          refine y_iadd_n hC dX2_behind_57 ?_
          refine y_top (y := nI (bhd (sgn ln tx) i)) (by unfold bhd; first | (exfalso; omega) | (rw [if_neg (by omega), if_pos (by omega)]) | (rw [if_neg (by omega), if_neg (by omega)])) ?_
          refine y_iret (hC := hC) (hd := dX2_behind_58) (hq := ?_)
          exact ⟨rfl, rfl⟩
  · refine y_iload_n hC dX2_behind_10 (i := 1) rfl rfl ?_
    refine y_iconst (v := nI 1) hC dX2_behind_11 (by decide) ?_
    refine y_iadd_n hC dX2_behind_12 ?_
    refine y_top (y := nI (bhd (sgn ln tx) i)) (by unfold bhd; rw [if_pos (by omega)]) ?_
    refine y_iret (hC := hC) (hd := dX2_behind_13) (hq := ?_)
    exact ⟨rfl, rfl⟩

theorem dX2_digitAt_0 : decode cX2_digitAt 0 = .ok (.aload_n 0, 1) := by decide +kernel
theorem dX2_digitAt_1 : decode cX2_digitAt 1 = .ok (.iload_n 1, 1) := by decide +kernel
theorem dX2_digitAt_2 : decode cX2_digitAt 2 = .ok (.invokevirtual 43, 3) := by decide +kernel
theorem dX2_digitAt_5 : decode cX2_digitAt 5 = .ok (.bipush 48, 2) := by decide +kernel
theorem dX2_digitAt_7 : decode cX2_digitAt 7 = .ok (.isub, 1) := by decide +kernel
theorem dX2_digitAt_8 : decode cX2_digitAt 8 = .ok (.ireturn, 1) := by decide +kernel
set_option maxHeartbeats 4000000 in
set_option maxRecDepth 100000 in
theorem c_X2_digitAt (l : Launch) (E : gE) (g : Mem) (ln : Nat) (tx : Nat → Nat) (f : Nat → Int32) (tk it : Int32) (st ti : Nat → Int32) (h : PX E g ln tx f tk it st ti) (i : Nat) (hi : i < 1000000) : Mt l E yX2_digitAt cX2_digitAt 2 (some .int) 1 21 [rf E (93), .int (nI (i))] g (pI (fun z g' => z = nI (sgn ln tx i) - nI 48 ∧ g' = g)) := by
  have hK := h.k
  have hln := h.l
  refine mt_go (own := RX2) (by decide) rfl (lo := [some (rf E (93)), some (.int (nI (i)))]) rfl (Nat.le_of_ble_eq_true rfl) (fun X hC => ?_)
  refine y_aload_n hC dX2_digitAt_0 (i := 0) rfl rfl ?_
  refine y_iload_n hC dX2_digitAt_1 (i := 1) rfl rfl ?_
  refine y_callV hC mX2_signAt kX2_43 dX2_digitAt_2 (b := 93) (As := [.int (nI (i))]) (rest := []) (c_X2_signAt l E g ln tx f tk it st ti h (i) (by omega)) (by omega) h.a93 rfl rfl rfl (Nat.le_of_ble_eq_true rfl) ⟨Nat.le_of_ble_eq_true rfl, Nat.le_of_ble_eq_true rfl⟩ (pk_i ?_)
  rintro r_2 g_2 ⟨hr_2, hq_2⟩
  obtain rfl := hq_2.symm
  rw [hr_2]
  clear hr_2 r_2
  have hs_2 := sgn_lt h (i)
  refine y_bipush (v := nI 48) hC dX2_digitAt_5 (by decide) ?_
  refine y_isub hC dX2_digitAt_7 ?_
  refine y_iret (hC := hC) (hd := dX2_digitAt_8) (hq := ?_)
  exact ⟨rfl, rfl⟩

theorem dX2_numberAt_0 : decode cX2_numberAt 0 = .ok (.aload_n 0, 1) := by decide +kernel
theorem dX2_numberAt_1 : decode cX2_numberAt 1 = .ok (.iload_n 1, 1) := by decide +kernel
theorem dX2_numberAt_2 : decode cX2_numberAt 2 = .ok (.invokevirtual 47, 3) := by decide +kernel
theorem dX2_numberAt_5 : decode cX2_numberAt 5 = .ok (.istore_n 2, 1) := by decide +kernel
theorem dX2_numberAt_6 : decode cX2_numberAt 6 = .ok (.aload_n 0, 1) := by decide +kernel
theorem dX2_numberAt_7 : decode cX2_numberAt 7 = .ok (.iload_n 1, 1) := by decide +kernel
theorem dX2_numberAt_8 : decode cX2_numberAt 8 = .ok (.iconst 1, 1) := by decide +kernel
theorem dX2_numberAt_9 : decode cX2_numberAt 9 = .ok (.iadd, 1) := by decide +kernel
theorem dX2_numberAt_10 : decode cX2_numberAt 10 = .ok (.invokevirtual 43, 3) := by decide +kernel
theorem dX2_numberAt_13 : decode cX2_numberAt 13 = .ok (.bipush 48, 2) := by decide +kernel
theorem dX2_numberAt_15 : decode cX2_numberAt 15 = .ok (.bipush 57, 2) := by decide +kernel
theorem dX2_numberAt_17 : decode cX2_numberAt 17 = .ok (.invokestatic 32, 3) := by decide +kernel
theorem dX2_numberAt_20 : decode cX2_numberAt 20 = .ok (.ifCond .eq 18, 3) := by decide +kernel
theorem dX2_numberAt_23 : decode cX2_numberAt 23 = .ok (.bipush 10, 2) := by decide +kernel
theorem dX2_numberAt_25 : decode cX2_numberAt 25 = .ok (.iload_n 2, 1) := by decide +kernel
theorem dX2_numberAt_26 : decode cX2_numberAt 26 = .ok (.imul, 1) := by decide +kernel
theorem dX2_numberAt_27 : decode cX2_numberAt 27 = .ok (.aload_n 0, 1) := by decide +kernel
theorem dX2_numberAt_28 : decode cX2_numberAt 28 = .ok (.iload_n 1, 1) := by decide +kernel
theorem dX2_numberAt_29 : decode cX2_numberAt 29 = .ok (.iconst 1, 1) := by decide +kernel
theorem dX2_numberAt_30 : decode cX2_numberAt 30 = .ok (.iadd, 1) := by decide +kernel
theorem dX2_numberAt_31 : decode cX2_numberAt 31 = .ok (.invokevirtual 47, 3) := by decide +kernel
theorem dX2_numberAt_34 : decode cX2_numberAt 34 = .ok (.iadd, 1) := by decide +kernel
theorem dX2_numberAt_35 : decode cX2_numberAt 35 = .ok (.goto 4, 3) := by decide +kernel
theorem dX2_numberAt_38 : decode cX2_numberAt 38 = .ok (.iload_n 2, 1) := by decide +kernel
theorem dX2_numberAt_39 : decode cX2_numberAt 39 = .ok (.ireturn, 1) := by decide +kernel
set_option maxHeartbeats 4000000 in
set_option maxRecDepth 100000 in
theorem c_X2_numberAt (l : Launch) (E : gE) (g : Mem) (ln : Nat) (tx : Nat → Nat) (f : Nat → Int32) (tk it : Int32) (st ti : Nat → Int32) (h : PX E g ln tx f tk it st ti) (i : Nat) (hi : i < 100000) (h1 : 48 ≤ sgn ln tx i) (h2 : sgn ln tx i ≤ 57) : Mt l E yX2_numberAt cX2_numberAt 3 (some .int) 2 42 [rf E (93), .int (nI (i))] g (pI (fun z g' => z = nI (nmb (sgn ln tx) i) ∧ g' = g)) := by
  have hK := h.k
  have hln := h.l
  refine mt_go (own := RX2) (by decide) rfl (lo := [some (rf E (93)), some (.int (nI (i))), none]) rfl (Nat.le_of_ble_eq_true rfl) (fun X hC => ?_)
  refine y_aload_n hC dX2_numberAt_0 (i := 0) rfl rfl ?_
  refine y_iload_n hC dX2_numberAt_1 (i := 1) rfl rfl ?_
  refine y_callV hC mX2_digitAt kX2_47 dX2_numberAt_2 (b := 93) (As := [.int (nI (i))]) (rest := []) (c_X2_digitAt l E g ln tx f tk it st ti h (i) (by omega)) (by omega) h.a93 rfl rfl rfl (Nat.le_of_ble_eq_true rfl) ⟨Nat.le_of_ble_eq_true rfl, Nat.le_of_ble_eq_true rfl⟩ (pk_i ?_)
  rintro r_2 g_2 ⟨hr_2, hq_2⟩
  obtain rfl := hq_2.symm
  rw [hr_2]
  clear hr_2 r_2
  rw [pk_sub (a := sgn ln tx (i)) (b := 48) (by omega)]
  refine y_istore_n hC dX2_numberAt_5 (i := 2) rfl (Nat.le_of_ble_eq_true rfl) rfl (lo' := [some (rf E (93)), some (.int (nI (i))), some (.int (nI (sgn ln tx (i) - 48)))]) rfl ?_
  refine y_aload_n hC dX2_numberAt_6 (i := 0) rfl rfl ?_
  refine y_iload_n hC dX2_numberAt_7 (i := 1) rfl rfl ?_
  refine y_iconst (v := nI 1) hC dX2_numberAt_8 (by decide) ?_
  refine y_iadd_n hC dX2_numberAt_9 ?_
  refine y_callV hC mX2_signAt kX2_43 dX2_numberAt_10 (b := 93) (As := [.int (nI (i + 1))]) (rest := []) (c_X2_signAt l E g ln tx f tk it st ti h (i + 1) (by omega)) (by omega) h.a93 rfl rfl rfl (Nat.le_of_ble_eq_true rfl) ⟨Nat.le_of_ble_eq_true rfl, Nat.le_of_ble_eq_true rfl⟩ (pk_i ?_)
  rintro r_10 g_10 ⟨hr_10, hq_10⟩
  obtain rfl := hq_10.symm
  rw [hr_10]
  clear hr_10 r_10
  have hs_10 := sgn_lt h (i + 1)
  refine y_bipush (v := nI 48) hC dX2_numberAt_13 (by decide) ?_
  refine y_bipush (v := nI 57) hC dX2_numberAt_15 (by decide) ?_
  refine y_callS hC mX2_isDigit kX2_32 dX2_numberAt_17 (As := [.int (nI (sgn ln tx (i + 1))), .int (nI (48)), .int (nI (57))]) (rest := []) (c_X2_isDigit l E g (sgn ln tx (i + 1)) 48 57 (by omega) (by decide) (by decide)) rfl rfl rfl (Nat.le_of_ble_eq_true rfl) ⟨Nat.le_of_ble_eq_true rfl, Nat.le_of_ble_eq_true rfl⟩ (pk_i ?_)
  rintro r_17 g_17 ⟨hr_17, hq_17⟩
  obtain rfl := hq_17.symm
  rw [hr_17]
  clear hr_17 r_17
  refine y_if_eq_b (tgt := 38) hC dX2_numberAt_20 (by decide) (fun c_20 => ?_) (fun c_20 => ?_)
  · refine y_iload_n hC dX2_numberAt_38 (i := 2) rfl rfl ?_
    refine y_top (y := nI (nmb (sgn ln tx) i)) (by unfold nmb; first | rw [if_pos (by omega)] | rw [if_neg (by omega)]) ?_
    refine y_iret (hC := hC) (hd := dX2_numberAt_39) (hq := ?_)
    exact ⟨rfl, rfl⟩
  · refine y_bipush (v := nI 10) hC dX2_numberAt_23 (by decide) ?_
    refine y_iload_n hC dX2_numberAt_25 (i := 2) rfl rfl ?_
    refine y_imul_n hC dX2_numberAt_26 ?_
    refine y_aload_n hC dX2_numberAt_27 (i := 0) rfl rfl ?_
    refine y_iload_n hC dX2_numberAt_28 (i := 1) rfl rfl ?_
    refine y_iconst (v := nI 1) hC dX2_numberAt_29 (by decide) ?_
    refine y_iadd_n hC dX2_numberAt_30 ?_
    refine y_callV hC mX2_digitAt kX2_47 dX2_numberAt_31 (b := 93) (As := [.int (nI (i + 1))]) (rest := [.int (nI (10 * (sgn ln tx (i) - 48)))]) (c_X2_digitAt l E g ln tx f tk it st ti h (i + 1) (by omega)) (by omega) h.a93 rfl rfl rfl (Nat.le_of_ble_eq_true rfl) ⟨Nat.le_of_ble_eq_true rfl, Nat.le_of_ble_eq_true rfl⟩ (pk_i ?_)
    rintro r_31 g_31 ⟨hr_31, hq_31⟩
    obtain rfl := hq_31.symm
    rw [hr_31]
    clear hr_31 r_31
    rw [pk_sub (a := sgn ln tx (i + 1)) (b := 48) (by omega)]
    refine y_iadd_n hC dX2_numberAt_34 ?_
    refine y_goto (tgt := 39) hC dX2_numberAt_35 (by decide) ?_
    refine y_top (y := nI (nmb (sgn ln tx) i)) (by unfold nmb; first | rw [if_pos (by omega)] | rw [if_neg (by omega)]) ?_
    refine y_iret (hC := hC) (hd := dX2_numberAt_39) (hq := ?_)
    exact ⟨rfl, rfl⟩

theorem sz {ln : Nat} {tx : Nat → Nat} : ∀ k, ln ≤ k → sgn ln tx k = 0 := fun _ h => sgn_0 h
theorem beg_cp (a : Nat) : ¬ isBeg a = true ↔ isBeg a = false := by simp
theorem ft_step {s : Nat → Nat} {ln n i d : Nat} {due : Bool} (hi : i < ln) (h1 : ¬ (s i = 41 ∧ 0 < d ∧ due = false)) (h2 : isBeg (s i) = true) (h3 : isAlw (s i) (s (i + 1)) = true) : ft s ln (n + 1) i d due = ft s ln n (bhd s i) (if isRep (s i) then d + 1 else d) (isRep (s i)) := by
  rw [ft, if_pos hi, if_neg h1, if_neg (by simp [h2]), if_neg (by simp [h3])]
theorem ft_end {s : Nat → Nat} {ln n i d : Nat} {due : Bool} (hi : ¬ i < ln) : ft s ln n i d due = if due = true ∨ 0 < d then some ln else none := by
  cases n with
  | zero => rfl
  | succ n => rw [ft, if_neg hi]
def ftI (o : Option Nat) : Int32 := match o with
  | some k => nI k
  | none => -1
theorem dX2_fault_0 : decode cX2_fault 0 = .ok (.iconst 0, 1) := by decide +kernel
theorem dX2_fault_1 : decode cX2_fault 1 = .ok (.istore_n 1, 1) := by decide +kernel
theorem dX2_fault_2 : decode cX2_fault 2 = .ok (.iconst 1, 1) := by decide +kernel
theorem dX2_fault_3 : decode cX2_fault 3 = .ok (.istore_n 2, 1) := by decide +kernel
theorem dX2_fault_4 : decode cX2_fault 4 = .ok (.iconst 0, 1) := by decide +kernel
theorem dX2_fault_5 : decode cX2_fault 5 = .ok (.istore_n 3, 1) := by decide +kernel
theorem dX2_fault_6 : decode cX2_fault 6 = .ok (.iconst 0, 1) := by decide +kernel
theorem dX2_fault_7 : decode cX2_fault 7 = .ok (.istore 4, 2) := by decide +kernel
theorem dX2_fault_9 : decode cX2_fault 9 = .ok (.iload 4, 2) := by decide +kernel
theorem dX2_fault_11 : decode cX2_fault 11 = .ok (.bipush 60, 2) := by decide +kernel
theorem dX2_fault_13 : decode cX2_fault 13 = .ok (.if_icmp .ge 98, 3) := by decide +kernel
theorem dX2_fault_16 : decode cX2_fault 16 = .ok (.iload_n 3, 1) := by decide +kernel
theorem dX2_fault_17 : decode cX2_fault 17 = .ok (.aload_n 0, 1) := by decide +kernel
theorem dX2_fault_18 : decode cX2_fault 18 = .ok (.getfield 22, 3) := by decide +kernel
theorem dX2_fault_21 : decode cX2_fault 21 = .ok (.if_icmp .ge 90, 3) := by decide +kernel
theorem dX2_fault_24 : decode cX2_fault 24 = .ok (.aload_n 0, 1) := by decide +kernel
theorem dX2_fault_25 : decode cX2_fault 25 = .ok (.iload_n 3, 1) := by decide +kernel
theorem dX2_fault_26 : decode cX2_fault 26 = .ok (.invokevirtual 43, 3) := by decide +kernel
theorem dX2_fault_29 : decode cX2_fault 29 = .ok (.istore 5, 2) := by decide +kernel
theorem dX2_fault_31 : decode cX2_fault 31 = .ok (.iload 5, 2) := by decide +kernel
theorem dX2_fault_33 : decode cX2_fault 33 = .ok (.bipush 41, 2) := by decide +kernel
theorem dX2_fault_35 : decode cX2_fault 35 = .ok (.if_icmp .ne 17, 3) := by decide +kernel
theorem dX2_fault_38 : decode cX2_fault 38 = .ok (.iload_n 1, 1) := by decide +kernel
theorem dX2_fault_39 : decode cX2_fault 39 = .ok (.ifCond .le 13, 3) := by decide +kernel
theorem dX2_fault_42 : decode cX2_fault 42 = .ok (.iload_n 2, 1) := by decide +kernel
theorem dX2_fault_43 : decode cX2_fault 43 = .ok (.ifCond .ne 9, 3) := by decide +kernel
theorem dX2_fault_46 : decode cX2_fault 46 = .ok (.iinc 1 (-1), 3) := by decide +kernel
theorem dX2_fault_49 : decode cX2_fault 49 = .ok (.goto 50, 3) := by decide +kernel
theorem dX2_fault_52 : decode cX2_fault 52 = .ok (.iload 5, 2) := by decide +kernel
theorem dX2_fault_54 : decode cX2_fault 54 = .ok (.invokestatic 51, 3) := by decide +kernel
theorem dX2_fault_57 : decode cX2_fault 57 = .ok (.ifCond .ne 5, 3) := by decide +kernel
theorem dX2_fault_60 : decode cX2_fault 60 = .ok (.iload_n 3, 1) := by decide +kernel
theorem dX2_fault_61 : decode cX2_fault 61 = .ok (.ireturn, 1) := by decide +kernel
theorem dX2_fault_62 : decode cX2_fault 62 = .ok (.iload 5, 2) := by decide +kernel
theorem dX2_fault_64 : decode cX2_fault 64 = .ok (.aload_n 0, 1) := by decide +kernel
theorem dX2_fault_65 : decode cX2_fault 65 = .ok (.iload_n 3, 1) := by decide +kernel
theorem dX2_fault_66 : decode cX2_fault 66 = .ok (.iconst 1, 1) := by decide +kernel
theorem dX2_fault_67 : decode cX2_fault 67 = .ok (.iadd, 1) := by decide +kernel
theorem dX2_fault_68 : decode cX2_fault 68 = .ok (.invokevirtual 43, 3) := by decide +kernel
theorem dX2_fault_71 : decode cX2_fault 71 = .ok (.invokestatic 54, 3) := by decide +kernel
theorem dX2_fault_74 : decode cX2_fault 74 = .ok (.ifCond .ne 7, 3) := by decide +kernel
theorem dX2_fault_77 : decode cX2_fault 77 = .ok (.iload_n 3, 1) := by decide +kernel
theorem dX2_fault_78 : decode cX2_fault 78 = .ok (.iconst 1, 1) := by decide +kernel
theorem dX2_fault_79 : decode cX2_fault 79 = .ok (.iadd, 1) := by decide +kernel
theorem dX2_fault_80 : decode cX2_fault 80 = .ok (.ireturn, 1) := by decide +kernel
theorem dX2_fault_81 : decode cX2_fault 81 = .ok (.iload 5, 2) := by decide +kernel
theorem dX2_fault_83 : decode cX2_fault 83 = .ok (.invokestatic 40, 3) := by decide +kernel
theorem dX2_fault_86 : decode cX2_fault 86 = .ok (.istore_n 2, 1) := by decide +kernel
theorem dX2_fault_87 : decode cX2_fault 87 = .ok (.iload_n 1, 1) := by decide +kernel
theorem dX2_fault_88 : decode cX2_fault 88 = .ok (.iload_n 2, 1) := by decide +kernel
theorem dX2_fault_89 : decode cX2_fault 89 = .ok (.ifCond .eq 7, 3) := by decide +kernel
theorem dX2_fault_92 : decode cX2_fault 92 = .ok (.iconst 1, 1) := by decide +kernel
theorem dX2_fault_93 : decode cX2_fault 93 = .ok (.goto 4, 3) := by decide +kernel
theorem dX2_fault_96 : decode cX2_fault 96 = .ok (.iconst 0, 1) := by decide +kernel
theorem dX2_fault_97 : decode cX2_fault 97 = .ok (.iadd, 1) := by decide +kernel
theorem dX2_fault_98 : decode cX2_fault 98 = .ok (.istore_n 1, 1) := by decide +kernel
theorem dX2_fault_99 : decode cX2_fault 99 = .ok (.aload_n 0, 1) := by decide +kernel
theorem dX2_fault_100 : decode cX2_fault 100 = .ok (.iload_n 3, 1) := by decide +kernel
theorem dX2_fault_101 : decode cX2_fault 101 = .ok (.invokevirtual 58, 3) := by decide +kernel
theorem dX2_fault_104 : decode cX2_fault 104 = .ok (.istore_n 3, 1) := by decide +kernel
theorem dX2_fault_105 : decode cX2_fault 105 = .ok (.iinc 4 1, 3) := by decide +kernel
theorem dX2_fault_108 : decode cX2_fault 108 = .ok (.goto (-99), 3) := by decide +kernel
theorem dX2_fault_111 : decode cX2_fault 111 = .ok (.iload_n 2, 1) := by decide +kernel
theorem dX2_fault_112 : decode cX2_fault 112 = .ok (.ifCond .ne 7, 3) := by decide +kernel
theorem dX2_fault_115 : decode cX2_fault 115 = .ok (.iload_n 1, 1) := by decide +kernel
theorem dX2_fault_116 : decode cX2_fault 116 = .ok (.ifCond .le 10, 3) := by decide +kernel
theorem dX2_fault_119 : decode cX2_fault 119 = .ok (.aload_n 0, 1) := by decide +kernel
theorem dX2_fault_120 : decode cX2_fault 120 = .ok (.getfield 22, 3) := by decide +kernel
theorem dX2_fault_123 : decode cX2_fault 123 = .ok (.goto 4, 3) := by decide +kernel
theorem dX2_fault_126 : decode cX2_fault 126 = .ok (.iconst (-1), 1) := by decide +kernel
theorem dX2_fault_127 : decode cX2_fault 127 = .ok (.ireturn, 1) := by decide +kernel
set_option maxHeartbeats 4000000 in
set_option maxRecDepth 100000 in
theorem c_X2_fault (l : Launch) (E : gE) (g : Mem) (ln : Nat) (tx : Nat → Nat) (f : Nat → Int32) (tk it : Int32) (st ti : Nat → Int32) (h : PX E g ln tx f tk it st ti) : Mt l E yX2_fault cX2_fault 6 (some .int) 3 62 [rf E (93)] g (pI (fun z g' => z = ftI (ft (sgn ln tx) ln 60 0 0 true) ∧ g' = g)) := by
  have hK := h.k
  have hln := h.l
  refine mt_go (own := RX2) (by decide) rfl (lo := [some (rf E (93)), none, none, none, none, none]) rfl (Nat.le_of_ble_eq_true rfl) (fun X hC => ?_)
  refine y_iconst (v := nI 0) hC dX2_fault_0 (by decide) ?_
  refine y_istore_n hC dX2_fault_1 (i := 1) rfl (Nat.le_of_ble_eq_true rfl) rfl (lo' := [some (rf E (93)), some (.int (nI (0))), none, none, none, none]) rfl ?_
  refine y_iconst (v := nI 1) hC dX2_fault_2 (by decide) ?_
  refine y_top (y := bI (true = true)) (by decide) ?_
  refine y_istore_n hC dX2_fault_3 (i := 2) rfl (Nat.le_of_ble_eq_true rfl) rfl (lo' := [some (rf E (93)), some (.int (nI (0))), some (.int (bI (true = true))), none, none, none]) rfl ?_
  refine y_iconst (v := nI 0) hC dX2_fault_4 (by decide) ?_
  refine y_istore_n hC dX2_fault_5 (i := 3) rfl (Nat.le_of_ble_eq_true rfl) rfl (lo' := [some (rf E (93)), some (.int (nI (0))), some (.int (bI (true = true))), some (.int (nI (0))), none, none]) rfl ?_
  refine y_iconst (v := nI 0) hC dX2_fault_6 (by decide) ?_
  refine y_istore hC dX2_fault_7 (Nat.le_of_ble_eq_true rfl) rfl (lo' := [some (rf E (93)), some (.int (nI (0))), some (.int (bI (true = true))), some (.int (nI (0))), some (.int (nI (0))), none]) rfl ?_
  have L_9 : ∀ (m : Nat) (d : Nat) (due : Bool) (i c n : Nat), (hm : 60 - c < m) → (hci : c ≤ i) → (hil : i ≤ ln) → (hd : d ≤ i) → (hn : ln - i ≤ n) → (hft : ft (sgn ln tx) ln n i d due = ft (sgn ln tx) ln 60 0 0 true) → Y l E X (pI (fun z g' => z = ftI (ft (sgn ln tx) ln 60 0 0 true) ∧ g' = g)) 9 [some (rf E (93)), some (.int (nI (d))), some (.int (bI (due = true))), some (.int (nI (i))), some (.int (nI (c))), none] [] g := by
    intro m
    induction m with
    | zero => intro d due i c n hm hci hil hd hn hft; exact absurd hm (Nat.not_lt_zero _)
    | succ m ih_9 =>
      intro d due i c n hm hci hil hd hn hft
      refine y_iload hC dX2_fault_9 rfl ?_
      refine y_bipush (v := nI 60) hC dX2_fault_11 (by decide) ?_
      refine y_icmp_ge_n (tgt := 111) hC dX2_fault_13 (by decide) (by omega) (by omega) (fun c_13 => ?_) (fun c_13 => ?_)
      · refine y_iload_n hC dX2_fault_111 (i := 2) rfl rfl ?_
        refine y_if_ne_b (tgt := 119) hC dX2_fault_112 (by decide) (fun c_112 => ?_) (fun c_112 => ?_)
        · refine y_aload_n hC dX2_fault_119 (i := 0) rfl rfl ?_
          refine y_get hC fX2_22 dX2_fault_120 (k := 93) (by omega) h.a93 rfl ?_
          refine y_goto (tgt := 127) hC dX2_fault_123 (by decide) ?_
          refine y_top (y := ftI (ft (sgn ln tx) ln 60 0 0 true)) (by rw [← hft, ft_end (by omega)]; first | (rw [if_pos (Or.inl (by assumption))]; rfl) | (rw [if_pos (Or.inr (by omega))]; rfl) | (rw [if_neg (by rintro (q | q); exact absurd q (by assumption); omega)]; rfl)) ?_
          refine y_iret (hC := hC) (hd := dX2_fault_127) (hq := ?_)
          exact ⟨rfl, rfl⟩
        · refine y_iload_n hC dX2_fault_115 (i := 1) rfl rfl ?_
          refine y_if_le_n (tgt := 126) hC dX2_fault_116 (by decide) (by omega) (fun c_116 => ?_) (fun c_116 => ?_)
          · refine y_iconst (v := (-1)) hC dX2_fault_126 (by decide) ?_
            refine y_top (y := ftI (ft (sgn ln tx) ln 60 0 0 true)) (by rw [← hft, ft_end (by omega)]; first | (rw [if_pos (Or.inl (by assumption))]; rfl) | (rw [if_pos (Or.inr (by omega))]; rfl) | (rw [if_neg (by rintro (q | q); exact absurd q (by assumption); omega)]; rfl)) ?_
            refine y_iret (hC := hC) (hd := dX2_fault_127) (hq := ?_)
            exact ⟨rfl, rfl⟩
          · refine y_aload_n hC dX2_fault_119 (i := 0) rfl rfl ?_
            refine y_get hC fX2_22 dX2_fault_120 (k := 93) (by omega) h.a93 rfl ?_
            refine y_goto (tgt := 127) hC dX2_fault_123 (by decide) ?_
            refine y_top (y := ftI (ft (sgn ln tx) ln 60 0 0 true)) (by rw [← hft, ft_end (by omega)]; first | (rw [if_pos (Or.inl (by assumption))]; rfl) | (rw [if_pos (Or.inr (by omega))]; rfl) | (rw [if_neg (by rintro (q | q); exact absurd q (by assumption); omega)]; rfl)) ?_
            refine y_iret (hC := hC) (hd := dX2_fault_127) (hq := ?_)
            exact ⟨rfl, rfl⟩
      · refine y_iload_n hC dX2_fault_16 (i := 3) rfl rfl ?_
        refine y_aload_n hC dX2_fault_17 (i := 0) rfl rfl ?_
        refine y_get hC fX2_22 dX2_fault_18 (k := 93) (by omega) h.a93 rfl ?_
        refine y_icmp_ge_n (tgt := 111) hC dX2_fault_21 (by decide) (by omega) (by omega) (fun c_21 => ?_) (fun c_21 => ?_)
        · refine y_iload_n hC dX2_fault_111 (i := 2) rfl rfl ?_
          refine y_if_ne_b (tgt := 119) hC dX2_fault_112 (by decide) (fun c_112 => ?_) (fun c_112 => ?_)
          · refine y_aload_n hC dX2_fault_119 (i := 0) rfl rfl ?_
            refine y_get hC fX2_22 dX2_fault_120 (k := 93) (by omega) h.a93 rfl ?_
            refine y_goto (tgt := 127) hC dX2_fault_123 (by decide) ?_
            refine y_top (y := ftI (ft (sgn ln tx) ln 60 0 0 true)) (by rw [← hft, ft_end (by omega)]; first | (rw [if_pos (Or.inl (by assumption))]; rfl) | (rw [if_pos (Or.inr (by omega))]; rfl) | (rw [if_neg (by rintro (q | q); exact absurd q (by assumption); omega)]; rfl)) ?_
            refine y_iret (hC := hC) (hd := dX2_fault_127) (hq := ?_)
            exact ⟨rfl, rfl⟩
          · refine y_iload_n hC dX2_fault_115 (i := 1) rfl rfl ?_
            refine y_if_le_n (tgt := 126) hC dX2_fault_116 (by decide) (by omega) (fun c_116 => ?_) (fun c_116 => ?_)
            · refine y_iconst (v := (-1)) hC dX2_fault_126 (by decide) ?_
              refine y_top (y := ftI (ft (sgn ln tx) ln 60 0 0 true)) (by rw [← hft, ft_end (by omega)]; first | (rw [if_pos (Or.inl (by assumption))]; rfl) | (rw [if_pos (Or.inr (by omega))]; rfl) | (rw [if_neg (by rintro (q | q); exact absurd q (by assumption); omega)]; rfl)) ?_
              refine y_iret (hC := hC) (hd := dX2_fault_127) (hq := ?_)
              exact ⟨rfl, rfl⟩
            · refine y_aload_n hC dX2_fault_119 (i := 0) rfl rfl ?_
              refine y_get hC fX2_22 dX2_fault_120 (k := 93) (by omega) h.a93 rfl ?_
              refine y_goto (tgt := 127) hC dX2_fault_123 (by decide) ?_
              refine y_top (y := ftI (ft (sgn ln tx) ln 60 0 0 true)) (by rw [← hft, ft_end (by omega)]; first | (rw [if_pos (Or.inl (by assumption))]; rfl) | (rw [if_pos (Or.inr (by omega))]; rfl) | (rw [if_neg (by rintro (q | q); exact absurd q (by assumption); omega)]; rfl)) ?_
              refine y_iret (hC := hC) (hd := dX2_fault_127) (hq := ?_)
              exact ⟨rfl, rfl⟩
        · refine y_aload_n hC dX2_fault_24 (i := 0) rfl rfl ?_
          refine y_iload_n hC dX2_fault_25 (i := 3) rfl rfl ?_
          refine y_callV hC mX2_signAt kX2_43 dX2_fault_26 (b := 93) (As := [.int (nI (i))]) (rest := []) (c_X2_signAt l E g ln tx f tk it st ti h (i) (by omega)) (by omega) h.a93 rfl rfl rfl (Nat.le_of_ble_eq_true rfl) ⟨Nat.le_of_ble_eq_true rfl, Nat.le_of_ble_eq_true rfl⟩ (pk_i ?_)
          rintro r_26 g_26 ⟨hr_26, hq_26⟩
          obtain rfl := hq_26.symm
          rw [hr_26]
          clear hr_26 r_26
          have hs1 := sgn_lt h i
          have hlt : i < ln := by omega
          obtain ⟨n, rfl⟩ : ∃ m, n = m + 1 := ⟨n - 1, by omega⟩
          refine y_istore hC dX2_fault_29 (Nat.le_of_ble_eq_true rfl) rfl (lo' := [some (rf E (93)), some (.int (nI (d))), some (.int (bI (due = true))), some (.int (nI (i))), some (.int (nI (c))), some (.int (nI (sgn ln tx (i))))]) rfl ?_
          refine y_iload hC dX2_fault_31 rfl ?_
          refine y_bipush (v := nI 41) hC dX2_fault_33 (by decide) ?_
          refine y_icmp_ne_n (tgt := 52) hC dX2_fault_35 (by decide) (by omega) (by omega) (fun c_35 => ?_) (fun c_35 => ?_)
          · have h41 : ¬ (sgn ln tx i = 41 ∧ 0 < d ∧ due = false) := by first | (exact fun q => by omega) | (exact fun q => by simp [q.2.2] at c_43)
            refine y_iload hC dX2_fault_52 rfl ?_
            have hs5 : (sgn ln tx i) < 65536 := hs1
            refine y_callS hC mX2_isBeginning kX2_51 dX2_fault_54 (As := [.int (nI (sgn ln tx (i)))]) (rest := []) (c_X2_isBeginning l E g (sgn ln tx (i)) hs1) rfl rfl rfl (Nat.le_of_ble_eq_true rfl) ⟨Nat.le_of_ble_eq_true rfl, Nat.le_of_ble_eq_true rfl⟩ (pk_i ?_)
            rintro r_54 g_54 ⟨hr_54, hq_54⟩
            obtain rfl := hq_54.symm
            rw [hr_54]
            clear hr_54 r_54
            refine y_if_ne_b (tgt := 62) hC dX2_fault_57 (by decide) (fun c_57 => ?_) (fun c_57 => ?_)
            · refine y_iload hC dX2_fault_62 rfl ?_
              refine y_aload_n hC dX2_fault_64 (i := 0) rfl rfl ?_
              refine y_iload_n hC dX2_fault_65 (i := 3) rfl rfl ?_
              refine y_iconst (v := nI 1) hC dX2_fault_66 (by decide) ?_
              refine y_iadd_n hC dX2_fault_67 ?_
              refine y_callV hC mX2_signAt kX2_43 dX2_fault_68 (b := 93) (As := [.int (nI (i + 1))]) (rest := [.int (nI (sgn ln tx (i)))]) (c_X2_signAt l E g ln tx f tk it st ti h (i + 1) (by omega)) (by omega) h.a93 rfl rfl rfl (Nat.le_of_ble_eq_true rfl) ⟨Nat.le_of_ble_eq_true rfl, Nat.le_of_ble_eq_true rfl⟩ (pk_i ?_)
              rintro r_68 g_68 ⟨hr_68, hq_68⟩
              obtain rfl := hq_68.symm
              rw [hr_68]
              clear hr_68 r_68
              have hs_68 := sgn_lt h (i + 1)
              refine y_callS hC mX2_isAllowedBehind kX2_54 dX2_fault_71 (As := [.int (nI (sgn ln tx (i))), .int (nI (sgn ln tx (i + 1)))]) (rest := []) (c_X2_isAllowedBehind l E g (sgn ln tx (i)) (sgn ln tx (i + 1)) hs1 (sgn_lt h _)) rfl rfl rfl (Nat.le_of_ble_eq_true rfl) ⟨Nat.le_of_ble_eq_true rfl, Nat.le_of_ble_eq_true rfl⟩ (pk_i ?_)
              rintro r_71 g_71 ⟨hr_71, hq_71⟩
              obtain rfl := hq_71.symm
              rw [hr_71]
              clear hr_71 r_71
              refine y_if_ne_b (tgt := 81) hC dX2_fault_74 (by decide) (fun c_74 => ?_) (fun c_74 => ?_)
              · refine y_iload hC dX2_fault_81 rfl ?_
                refine y_callS hC mX2_isRepeat kX2_40 dX2_fault_83 (As := [.int (nI (sgn ln tx (i)))]) (rest := []) (c_X2_isRepeat l E g (sgn ln tx (i)) hs1) rfl rfl rfl (Nat.le_of_ble_eq_true rfl) ⟨Nat.le_of_ble_eq_true rfl, Nat.le_of_ble_eq_true rfl⟩ (pk_i ?_)
                rintro r_83 g_83 ⟨hr_83, hq_83⟩
                obtain rfl := hq_83.symm
                rw [hr_83]
                clear hr_83 r_83
                refine y_istore_n hC dX2_fault_86 (i := 2) rfl (Nat.le_of_ble_eq_true rfl) rfl (lo' := [some (rf E (93)), some (.int (nI (d))), some (.int (bI (isRep (sgn ln tx i) = true))), some (.int (nI (i))), some (.int (nI (c))), some (.int (nI (sgn ln tx (i))))]) rfl ?_
                refine y_iload_n hC dX2_fault_87 (i := 1) rfl rfl ?_
                refine y_iload_n hC dX2_fault_88 (i := 2) rfl rfl ?_
                refine y_if_eq_b (tgt := 96) hC dX2_fault_89 (by decide) (fun c_89 => ?_) (fun c_89 => ?_)
                · refine y_iconst (v := nI 0) hC dX2_fault_96 (by decide) ?_
                  refine y_iadd_n hC dX2_fault_97 ?_
                  refine y_istore_n hC dX2_fault_98 (i := 1) rfl (Nat.le_of_ble_eq_true rfl) rfl (lo' := [some (rf E (93)), some (.int (nI (d + 0))), some (.int (bI (isRep (sgn ln tx i) = true))), some (.int (nI (i))), some (.int (nI (c))), some (.int (nI (sgn ln tx (i))))]) rfl ?_
                  refine y_aload_n hC dX2_fault_99 (i := 0) rfl rfl ?_
                  refine y_iload_n hC dX2_fault_100 (i := 3) rfl rfl ?_
                  refine y_callV hC mX2_behind kX2_58 dX2_fault_101 (b := 93) (As := [.int (nI (i))]) (rest := []) (c_X2_behind l E g ln tx f tk it st ti h (i) (by omega)) (by omega) h.a93 rfl rfl rfl (Nat.le_of_ble_eq_true rfl) ⟨Nat.le_of_ble_eq_true rfl, Nat.le_of_ble_eq_true rfl⟩ (pk_i ?_)
                  rintro r_101 g_101 ⟨hr_101, hq_101⟩
                  obtain rfl := hq_101.symm
                  rw [hr_101]
                  clear hr_101 r_101
                  refine y_istore_n hC dX2_fault_104 (i := 3) rfl (Nat.le_of_ble_eq_true rfl) rfl (lo' := [some (rf E (93)), some (.int (nI (d + 0))), some (.int (bI (isRep (sgn ln tx i) = true))), some (.int (nI (bhd (sgn ln tx) i))), some (.int (nI (c))), some (.int (nI (sgn ln tx (i))))]) rfl ?_
                  refine y_iinc_n hC dX2_fault_105 (a := c) (k := 1) rfl (by decide) (Nat.le_of_ble_eq_true rfl) rfl (lo' := [some (rf E (93)), some (.int (nI (d + 0))), some (.int (bI (isRep (sgn ln tx i) = true))), some (.int (nI (bhd (sgn ln tx) i))), some (.int (nI (c + 1))), some (.int (nI (sgn ln tx (i))))]) rfl ?_
                  refine y_goto (tgt := 9) hC dX2_fault_108 (by decide) ?_
                  refine y_fg 5 (lo' := [some (rf E (93)), some (.int (nI (d + 0))), some (.int (bI (isRep (sgn ln tx i) = true))), some (.int (nI (bhd (sgn ln tx) i))), some (.int (nI (c + 1))), none]) rfl ?_
                  have hft2 : ft (sgn ln tx) ln n (bhd (sgn ln tx) i) (d + 0) (isRep (sgn ln tx i)) = ft (sgn ln tx) ln (n + 1) i d due := by
                    rw [ft_step hlt h41 (by simpa using c_57) (by simpa using c_74)]
                    refine congrArg (fun q => ft (sgn ln tx) ln n (bhd (sgn ln tx) i) q (isRep (sgn ln tx i))) ?_
                    first | (rw [if_pos c_89]; done) | (rw [if_neg c_89]; rfl)
                  have htk := tok (s := sgn ln tx) (i := i) (by simpa using c_57) (by simpa using c_74)
                  have hbl := bhd_le (s := sgn ln tx) (i := i) sz hlt (Or.inr (by omega))
                  exact ih_9 (d + 0) (isRep (sgn ln tx i)) (bhd (sgn ln tx) i) (c + 1) n (by omega) (by omega) (by omega) (by omega) (by omega) (hft2.trans hft)
                · refine y_iconst (v := nI 1) hC dX2_fault_92 (by decide) ?_
                  refine y_goto (tgt := 97) hC dX2_fault_93 (by decide) ?_
                  refine y_iadd_n hC dX2_fault_97 ?_
                  refine y_istore_n hC dX2_fault_98 (i := 1) rfl (Nat.le_of_ble_eq_true rfl) rfl (lo' := [some (rf E (93)), some (.int (nI (d + 1))), some (.int (bI (isRep (sgn ln tx i) = true))), some (.int (nI (i))), some (.int (nI (c))), some (.int (nI (sgn ln tx (i))))]) rfl ?_
                  refine y_aload_n hC dX2_fault_99 (i := 0) rfl rfl ?_
                  refine y_iload_n hC dX2_fault_100 (i := 3) rfl rfl ?_
                  refine y_callV hC mX2_behind kX2_58 dX2_fault_101 (b := 93) (As := [.int (nI (i))]) (rest := []) (c_X2_behind l E g ln tx f tk it st ti h (i) (by omega)) (by omega) h.a93 rfl rfl rfl (Nat.le_of_ble_eq_true rfl) ⟨Nat.le_of_ble_eq_true rfl, Nat.le_of_ble_eq_true rfl⟩ (pk_i ?_)
                  rintro r_101 g_101 ⟨hr_101, hq_101⟩
                  obtain rfl := hq_101.symm
                  rw [hr_101]
                  clear hr_101 r_101
                  refine y_istore_n hC dX2_fault_104 (i := 3) rfl (Nat.le_of_ble_eq_true rfl) rfl (lo' := [some (rf E (93)), some (.int (nI (d + 1))), some (.int (bI (isRep (sgn ln tx i) = true))), some (.int (nI (bhd (sgn ln tx) i))), some (.int (nI (c))), some (.int (nI (sgn ln tx (i))))]) rfl ?_
                  refine y_iinc_n hC dX2_fault_105 (a := c) (k := 1) rfl (by decide) (Nat.le_of_ble_eq_true rfl) rfl (lo' := [some (rf E (93)), some (.int (nI (d + 1))), some (.int (bI (isRep (sgn ln tx i) = true))), some (.int (nI (bhd (sgn ln tx) i))), some (.int (nI (c + 1))), some (.int (nI (sgn ln tx (i))))]) rfl ?_
                  refine y_goto (tgt := 9) hC dX2_fault_108 (by decide) ?_
                  refine y_fg 5 (lo' := [some (rf E (93)), some (.int (nI (d + 1))), some (.int (bI (isRep (sgn ln tx i) = true))), some (.int (nI (bhd (sgn ln tx) i))), some (.int (nI (c + 1))), none]) rfl ?_
                  have hft2 : ft (sgn ln tx) ln n (bhd (sgn ln tx) i) (d + 1) (isRep (sgn ln tx i)) = ft (sgn ln tx) ln (n + 1) i d due := by
                    rw [ft_step hlt h41 (by simpa using c_57) (by simpa using c_74)]
                    refine congrArg (fun q => ft (sgn ln tx) ln n (bhd (sgn ln tx) i) q (isRep (sgn ln tx i))) ?_
                    first | (rw [if_pos c_89]; done) | (rw [if_neg c_89]; rfl)
                  have htk := tok (s := sgn ln tx) (i := i) (by simpa using c_57) (by simpa using c_74)
                  have hbl := bhd_le (s := sgn ln tx) (i := i) sz hlt (Or.inr (by omega))
                  exact ih_9 (d + 1) (isRep (sgn ln tx i)) (bhd (sgn ln tx) i) (c + 1) n (by omega) (by omega) (by omega) (by omega) (by omega) (hft2.trans hft)
              · refine y_iload_n hC dX2_fault_77 (i := 3) rfl rfl ?_
                refine y_iconst (v := nI 1) hC dX2_fault_78 (by decide) ?_
                refine y_iadd_n hC dX2_fault_79 ?_
                refine y_top (y := ftI (ft (sgn ln tx) ln 60 0 0 true)) (by rw [← hft, ft, if_pos hlt, if_neg h41, if_neg (by simpa using c_57), if_pos (by simpa using c_74)]; rfl) ?_
                refine y_iret (hC := hC) (hd := dX2_fault_80) (hq := ?_)
                exact ⟨rfl, rfl⟩
            · refine y_iload_n hC dX2_fault_60 (i := 3) rfl rfl ?_
              refine y_top (y := ftI (ft (sgn ln tx) ln 60 0 0 true)) (by rw [← hft, ft, if_pos hlt, if_neg h41, if_pos (by simpa using c_57)]; rfl) ?_
              refine y_iret (hC := hC) (hd := dX2_fault_61) (hq := ?_)
              exact ⟨rfl, rfl⟩
          · refine y_iload_n hC dX2_fault_38 (i := 1) rfl rfl ?_
            refine y_if_le_n (tgt := 52) hC dX2_fault_39 (by decide) (by omega) (fun c_39 => ?_) (fun c_39 => ?_)
            · have h41 : ¬ (sgn ln tx i = 41 ∧ 0 < d ∧ due = false) := by first | (exact fun q => by omega) | (exact fun q => by simp [q.2.2] at c_43)
              refine y_iload hC dX2_fault_52 rfl ?_
              have hs5 : (sgn ln tx i) < 65536 := hs1
              refine y_callS hC mX2_isBeginning kX2_51 dX2_fault_54 (As := [.int (nI (sgn ln tx (i)))]) (rest := []) (c_X2_isBeginning l E g (sgn ln tx (i)) hs1) rfl rfl rfl (Nat.le_of_ble_eq_true rfl) ⟨Nat.le_of_ble_eq_true rfl, Nat.le_of_ble_eq_true rfl⟩ (pk_i ?_)
              rintro r_54 g_54 ⟨hr_54, hq_54⟩
              obtain rfl := hq_54.symm
              rw [hr_54]
              clear hr_54 r_54
              refine y_if_ne_b (tgt := 62) hC dX2_fault_57 (by decide) (fun c_57 => ?_) (fun c_57 => ?_)
              · refine y_iload hC dX2_fault_62 rfl ?_
                refine y_aload_n hC dX2_fault_64 (i := 0) rfl rfl ?_
                refine y_iload_n hC dX2_fault_65 (i := 3) rfl rfl ?_
                refine y_iconst (v := nI 1) hC dX2_fault_66 (by decide) ?_
                refine y_iadd_n hC dX2_fault_67 ?_
                refine y_callV hC mX2_signAt kX2_43 dX2_fault_68 (b := 93) (As := [.int (nI (i + 1))]) (rest := [.int (nI (sgn ln tx (i)))]) (c_X2_signAt l E g ln tx f tk it st ti h (i + 1) (by omega)) (by omega) h.a93 rfl rfl rfl (Nat.le_of_ble_eq_true rfl) ⟨Nat.le_of_ble_eq_true rfl, Nat.le_of_ble_eq_true rfl⟩ (pk_i ?_)
                rintro r_68 g_68 ⟨hr_68, hq_68⟩
                obtain rfl := hq_68.symm
                rw [hr_68]
                clear hr_68 r_68
                have hs_68 := sgn_lt h (i + 1)
                refine y_callS hC mX2_isAllowedBehind kX2_54 dX2_fault_71 (As := [.int (nI (sgn ln tx (i))), .int (nI (sgn ln tx (i + 1)))]) (rest := []) (c_X2_isAllowedBehind l E g (sgn ln tx (i)) (sgn ln tx (i + 1)) hs1 (sgn_lt h _)) rfl rfl rfl (Nat.le_of_ble_eq_true rfl) ⟨Nat.le_of_ble_eq_true rfl, Nat.le_of_ble_eq_true rfl⟩ (pk_i ?_)
                rintro r_71 g_71 ⟨hr_71, hq_71⟩
                obtain rfl := hq_71.symm
                rw [hr_71]
                clear hr_71 r_71
                refine y_if_ne_b (tgt := 81) hC dX2_fault_74 (by decide) (fun c_74 => ?_) (fun c_74 => ?_)
                · refine y_iload hC dX2_fault_81 rfl ?_
                  refine y_callS hC mX2_isRepeat kX2_40 dX2_fault_83 (As := [.int (nI (sgn ln tx (i)))]) (rest := []) (c_X2_isRepeat l E g (sgn ln tx (i)) hs1) rfl rfl rfl (Nat.le_of_ble_eq_true rfl) ⟨Nat.le_of_ble_eq_true rfl, Nat.le_of_ble_eq_true rfl⟩ (pk_i ?_)
                  rintro r_83 g_83 ⟨hr_83, hq_83⟩
                  obtain rfl := hq_83.symm
                  rw [hr_83]
                  clear hr_83 r_83
                  refine y_istore_n hC dX2_fault_86 (i := 2) rfl (Nat.le_of_ble_eq_true rfl) rfl (lo' := [some (rf E (93)), some (.int (nI (d))), some (.int (bI (isRep (sgn ln tx i) = true))), some (.int (nI (i))), some (.int (nI (c))), some (.int (nI (sgn ln tx (i))))]) rfl ?_
                  refine y_iload_n hC dX2_fault_87 (i := 1) rfl rfl ?_
                  refine y_iload_n hC dX2_fault_88 (i := 2) rfl rfl ?_
                  refine y_if_eq_b (tgt := 96) hC dX2_fault_89 (by decide) (fun c_89 => ?_) (fun c_89 => ?_)
                  · refine y_iconst (v := nI 0) hC dX2_fault_96 (by decide) ?_
                    refine y_iadd_n hC dX2_fault_97 ?_
                    refine y_istore_n hC dX2_fault_98 (i := 1) rfl (Nat.le_of_ble_eq_true rfl) rfl (lo' := [some (rf E (93)), some (.int (nI (d + 0))), some (.int (bI (isRep (sgn ln tx i) = true))), some (.int (nI (i))), some (.int (nI (c))), some (.int (nI (sgn ln tx (i))))]) rfl ?_
                    refine y_aload_n hC dX2_fault_99 (i := 0) rfl rfl ?_
                    refine y_iload_n hC dX2_fault_100 (i := 3) rfl rfl ?_
                    refine y_callV hC mX2_behind kX2_58 dX2_fault_101 (b := 93) (As := [.int (nI (i))]) (rest := []) (c_X2_behind l E g ln tx f tk it st ti h (i) (by omega)) (by omega) h.a93 rfl rfl rfl (Nat.le_of_ble_eq_true rfl) ⟨Nat.le_of_ble_eq_true rfl, Nat.le_of_ble_eq_true rfl⟩ (pk_i ?_)
                    rintro r_101 g_101 ⟨hr_101, hq_101⟩
                    obtain rfl := hq_101.symm
                    rw [hr_101]
                    clear hr_101 r_101
                    refine y_istore_n hC dX2_fault_104 (i := 3) rfl (Nat.le_of_ble_eq_true rfl) rfl (lo' := [some (rf E (93)), some (.int (nI (d + 0))), some (.int (bI (isRep (sgn ln tx i) = true))), some (.int (nI (bhd (sgn ln tx) i))), some (.int (nI (c))), some (.int (nI (sgn ln tx (i))))]) rfl ?_
                    refine y_iinc_n hC dX2_fault_105 (a := c) (k := 1) rfl (by decide) (Nat.le_of_ble_eq_true rfl) rfl (lo' := [some (rf E (93)), some (.int (nI (d + 0))), some (.int (bI (isRep (sgn ln tx i) = true))), some (.int (nI (bhd (sgn ln tx) i))), some (.int (nI (c + 1))), some (.int (nI (sgn ln tx (i))))]) rfl ?_
                    refine y_goto (tgt := 9) hC dX2_fault_108 (by decide) ?_
                    refine y_fg 5 (lo' := [some (rf E (93)), some (.int (nI (d + 0))), some (.int (bI (isRep (sgn ln tx i) = true))), some (.int (nI (bhd (sgn ln tx) i))), some (.int (nI (c + 1))), none]) rfl ?_
                    have hft2 : ft (sgn ln tx) ln n (bhd (sgn ln tx) i) (d + 0) (isRep (sgn ln tx i)) = ft (sgn ln tx) ln (n + 1) i d due := by
                      rw [ft_step hlt h41 (by simpa using c_57) (by simpa using c_74)]
                      refine congrArg (fun q => ft (sgn ln tx) ln n (bhd (sgn ln tx) i) q (isRep (sgn ln tx i))) ?_
                      first | (rw [if_pos c_89]; done) | (rw [if_neg c_89]; rfl)
                    have htk := tok (s := sgn ln tx) (i := i) (by simpa using c_57) (by simpa using c_74)
                    have hbl := bhd_le (s := sgn ln tx) (i := i) sz hlt (Or.inr (by omega))
                    exact ih_9 (d + 0) (isRep (sgn ln tx i)) (bhd (sgn ln tx) i) (c + 1) n (by omega) (by omega) (by omega) (by omega) (by omega) (hft2.trans hft)
                  · refine y_iconst (v := nI 1) hC dX2_fault_92 (by decide) ?_
                    refine y_goto (tgt := 97) hC dX2_fault_93 (by decide) ?_
                    refine y_iadd_n hC dX2_fault_97 ?_
                    refine y_istore_n hC dX2_fault_98 (i := 1) rfl (Nat.le_of_ble_eq_true rfl) rfl (lo' := [some (rf E (93)), some (.int (nI (d + 1))), some (.int (bI (isRep (sgn ln tx i) = true))), some (.int (nI (i))), some (.int (nI (c))), some (.int (nI (sgn ln tx (i))))]) rfl ?_
                    refine y_aload_n hC dX2_fault_99 (i := 0) rfl rfl ?_
                    refine y_iload_n hC dX2_fault_100 (i := 3) rfl rfl ?_
                    refine y_callV hC mX2_behind kX2_58 dX2_fault_101 (b := 93) (As := [.int (nI (i))]) (rest := []) (c_X2_behind l E g ln tx f tk it st ti h (i) (by omega)) (by omega) h.a93 rfl rfl rfl (Nat.le_of_ble_eq_true rfl) ⟨Nat.le_of_ble_eq_true rfl, Nat.le_of_ble_eq_true rfl⟩ (pk_i ?_)
                    rintro r_101 g_101 ⟨hr_101, hq_101⟩
                    obtain rfl := hq_101.symm
                    rw [hr_101]
                    clear hr_101 r_101
                    refine y_istore_n hC dX2_fault_104 (i := 3) rfl (Nat.le_of_ble_eq_true rfl) rfl (lo' := [some (rf E (93)), some (.int (nI (d + 1))), some (.int (bI (isRep (sgn ln tx i) = true))), some (.int (nI (bhd (sgn ln tx) i))), some (.int (nI (c))), some (.int (nI (sgn ln tx (i))))]) rfl ?_
                    refine y_iinc_n hC dX2_fault_105 (a := c) (k := 1) rfl (by decide) (Nat.le_of_ble_eq_true rfl) rfl (lo' := [some (rf E (93)), some (.int (nI (d + 1))), some (.int (bI (isRep (sgn ln tx i) = true))), some (.int (nI (bhd (sgn ln tx) i))), some (.int (nI (c + 1))), some (.int (nI (sgn ln tx (i))))]) rfl ?_
                    refine y_goto (tgt := 9) hC dX2_fault_108 (by decide) ?_
                    refine y_fg 5 (lo' := [some (rf E (93)), some (.int (nI (d + 1))), some (.int (bI (isRep (sgn ln tx i) = true))), some (.int (nI (bhd (sgn ln tx) i))), some (.int (nI (c + 1))), none]) rfl ?_
                    have hft2 : ft (sgn ln tx) ln n (bhd (sgn ln tx) i) (d + 1) (isRep (sgn ln tx i)) = ft (sgn ln tx) ln (n + 1) i d due := by
                      rw [ft_step hlt h41 (by simpa using c_57) (by simpa using c_74)]
                      refine congrArg (fun q => ft (sgn ln tx) ln n (bhd (sgn ln tx) i) q (isRep (sgn ln tx i))) ?_
                      first | (rw [if_pos c_89]; done) | (rw [if_neg c_89]; rfl)
                    have htk := tok (s := sgn ln tx) (i := i) (by simpa using c_57) (by simpa using c_74)
                    have hbl := bhd_le (s := sgn ln tx) (i := i) sz hlt (Or.inr (by omega))
                    exact ih_9 (d + 1) (isRep (sgn ln tx i)) (bhd (sgn ln tx) i) (c + 1) n (by omega) (by omega) (by omega) (by omega) (by omega) (hft2.trans hft)
                · refine y_iload_n hC dX2_fault_77 (i := 3) rfl rfl ?_
                  refine y_iconst (v := nI 1) hC dX2_fault_78 (by decide) ?_
                  refine y_iadd_n hC dX2_fault_79 ?_
                  refine y_top (y := ftI (ft (sgn ln tx) ln 60 0 0 true)) (by rw [← hft, ft, if_pos hlt, if_neg h41, if_neg (by simpa using c_57), if_pos (by simpa using c_74)]; rfl) ?_
                  refine y_iret (hC := hC) (hd := dX2_fault_80) (hq := ?_)
                  exact ⟨rfl, rfl⟩
              · refine y_iload_n hC dX2_fault_60 (i := 3) rfl rfl ?_
                refine y_top (y := ftI (ft (sgn ln tx) ln 60 0 0 true)) (by rw [← hft, ft, if_pos hlt, if_neg h41, if_pos (by simpa using c_57)]; rfl) ?_
                refine y_iret (hC := hC) (hd := dX2_fault_61) (hq := ?_)
                exact ⟨rfl, rfl⟩
            · refine y_iload_n hC dX2_fault_42 (i := 2) rfl rfl ?_
              refine y_if_ne_b (tgt := 52) hC dX2_fault_43 (by decide) (fun c_43 => ?_) (fun c_43 => ?_)
              · have h41 : ¬ (sgn ln tx i = 41 ∧ 0 < d ∧ due = false) := by first | (exact fun q => by omega) | (exact fun q => by simp [q.2.2] at c_43)
                refine y_iload hC dX2_fault_52 rfl ?_
                have hs5 : (sgn ln tx i) < 65536 := hs1
                refine y_callS hC mX2_isBeginning kX2_51 dX2_fault_54 (As := [.int (nI (sgn ln tx (i)))]) (rest := []) (c_X2_isBeginning l E g (sgn ln tx (i)) hs1) rfl rfl rfl (Nat.le_of_ble_eq_true rfl) ⟨Nat.le_of_ble_eq_true rfl, Nat.le_of_ble_eq_true rfl⟩ (pk_i ?_)
                rintro r_54 g_54 ⟨hr_54, hq_54⟩
                obtain rfl := hq_54.symm
                rw [hr_54]
                clear hr_54 r_54
                refine y_if_ne_b (tgt := 62) hC dX2_fault_57 (by decide) (fun c_57 => ?_) (fun c_57 => ?_)
                · refine y_iload hC dX2_fault_62 rfl ?_
                  refine y_aload_n hC dX2_fault_64 (i := 0) rfl rfl ?_
                  refine y_iload_n hC dX2_fault_65 (i := 3) rfl rfl ?_
                  refine y_iconst (v := nI 1) hC dX2_fault_66 (by decide) ?_
                  refine y_iadd_n hC dX2_fault_67 ?_
                  refine y_callV hC mX2_signAt kX2_43 dX2_fault_68 (b := 93) (As := [.int (nI (i + 1))]) (rest := [.int (nI (sgn ln tx (i)))]) (c_X2_signAt l E g ln tx f tk it st ti h (i + 1) (by omega)) (by omega) h.a93 rfl rfl rfl (Nat.le_of_ble_eq_true rfl) ⟨Nat.le_of_ble_eq_true rfl, Nat.le_of_ble_eq_true rfl⟩ (pk_i ?_)
                  rintro r_68 g_68 ⟨hr_68, hq_68⟩
                  obtain rfl := hq_68.symm
                  rw [hr_68]
                  clear hr_68 r_68
                  have hs_68 := sgn_lt h (i + 1)
                  refine y_callS hC mX2_isAllowedBehind kX2_54 dX2_fault_71 (As := [.int (nI (sgn ln tx (i))), .int (nI (sgn ln tx (i + 1)))]) (rest := []) (c_X2_isAllowedBehind l E g (sgn ln tx (i)) (sgn ln tx (i + 1)) hs1 (sgn_lt h _)) rfl rfl rfl (Nat.le_of_ble_eq_true rfl) ⟨Nat.le_of_ble_eq_true rfl, Nat.le_of_ble_eq_true rfl⟩ (pk_i ?_)
                  rintro r_71 g_71 ⟨hr_71, hq_71⟩
                  obtain rfl := hq_71.symm
                  rw [hr_71]
                  clear hr_71 r_71
                  refine y_if_ne_b (tgt := 81) hC dX2_fault_74 (by decide) (fun c_74 => ?_) (fun c_74 => ?_)
                  · refine y_iload hC dX2_fault_81 rfl ?_
                    refine y_callS hC mX2_isRepeat kX2_40 dX2_fault_83 (As := [.int (nI (sgn ln tx (i)))]) (rest := []) (c_X2_isRepeat l E g (sgn ln tx (i)) hs1) rfl rfl rfl (Nat.le_of_ble_eq_true rfl) ⟨Nat.le_of_ble_eq_true rfl, Nat.le_of_ble_eq_true rfl⟩ (pk_i ?_)
                    rintro r_83 g_83 ⟨hr_83, hq_83⟩
                    obtain rfl := hq_83.symm
                    rw [hr_83]
                    clear hr_83 r_83
                    refine y_istore_n hC dX2_fault_86 (i := 2) rfl (Nat.le_of_ble_eq_true rfl) rfl (lo' := [some (rf E (93)), some (.int (nI (d))), some (.int (bI (isRep (sgn ln tx i) = true))), some (.int (nI (i))), some (.int (nI (c))), some (.int (nI (sgn ln tx (i))))]) rfl ?_
                    refine y_iload_n hC dX2_fault_87 (i := 1) rfl rfl ?_
                    refine y_iload_n hC dX2_fault_88 (i := 2) rfl rfl ?_
                    refine y_if_eq_b (tgt := 96) hC dX2_fault_89 (by decide) (fun c_89 => ?_) (fun c_89 => ?_)
                    · refine y_iconst (v := nI 0) hC dX2_fault_96 (by decide) ?_
                      refine y_iadd_n hC dX2_fault_97 ?_
                      refine y_istore_n hC dX2_fault_98 (i := 1) rfl (Nat.le_of_ble_eq_true rfl) rfl (lo' := [some (rf E (93)), some (.int (nI (d + 0))), some (.int (bI (isRep (sgn ln tx i) = true))), some (.int (nI (i))), some (.int (nI (c))), some (.int (nI (sgn ln tx (i))))]) rfl ?_
                      refine y_aload_n hC dX2_fault_99 (i := 0) rfl rfl ?_
                      refine y_iload_n hC dX2_fault_100 (i := 3) rfl rfl ?_
                      refine y_callV hC mX2_behind kX2_58 dX2_fault_101 (b := 93) (As := [.int (nI (i))]) (rest := []) (c_X2_behind l E g ln tx f tk it st ti h (i) (by omega)) (by omega) h.a93 rfl rfl rfl (Nat.le_of_ble_eq_true rfl) ⟨Nat.le_of_ble_eq_true rfl, Nat.le_of_ble_eq_true rfl⟩ (pk_i ?_)
                      rintro r_101 g_101 ⟨hr_101, hq_101⟩
                      obtain rfl := hq_101.symm
                      rw [hr_101]
                      clear hr_101 r_101
                      refine y_istore_n hC dX2_fault_104 (i := 3) rfl (Nat.le_of_ble_eq_true rfl) rfl (lo' := [some (rf E (93)), some (.int (nI (d + 0))), some (.int (bI (isRep (sgn ln tx i) = true))), some (.int (nI (bhd (sgn ln tx) i))), some (.int (nI (c))), some (.int (nI (sgn ln tx (i))))]) rfl ?_
                      refine y_iinc_n hC dX2_fault_105 (a := c) (k := 1) rfl (by decide) (Nat.le_of_ble_eq_true rfl) rfl (lo' := [some (rf E (93)), some (.int (nI (d + 0))), some (.int (bI (isRep (sgn ln tx i) = true))), some (.int (nI (bhd (sgn ln tx) i))), some (.int (nI (c + 1))), some (.int (nI (sgn ln tx (i))))]) rfl ?_
                      refine y_goto (tgt := 9) hC dX2_fault_108 (by decide) ?_
                      refine y_fg 5 (lo' := [some (rf E (93)), some (.int (nI (d + 0))), some (.int (bI (isRep (sgn ln tx i) = true))), some (.int (nI (bhd (sgn ln tx) i))), some (.int (nI (c + 1))), none]) rfl ?_
                      have hft2 : ft (sgn ln tx) ln n (bhd (sgn ln tx) i) (d + 0) (isRep (sgn ln tx i)) = ft (sgn ln tx) ln (n + 1) i d due := by
                        rw [ft_step hlt h41 (by simpa using c_57) (by simpa using c_74)]
                        refine congrArg (fun q => ft (sgn ln tx) ln n (bhd (sgn ln tx) i) q (isRep (sgn ln tx i))) ?_
                        first | (rw [if_pos c_89]; done) | (rw [if_neg c_89]; rfl)
                      have htk := tok (s := sgn ln tx) (i := i) (by simpa using c_57) (by simpa using c_74)
                      have hbl := bhd_le (s := sgn ln tx) (i := i) sz hlt (Or.inr (by omega))
                      exact ih_9 (d + 0) (isRep (sgn ln tx i)) (bhd (sgn ln tx) i) (c + 1) n (by omega) (by omega) (by omega) (by omega) (by omega) (hft2.trans hft)
                    · refine y_iconst (v := nI 1) hC dX2_fault_92 (by decide) ?_
                      refine y_goto (tgt := 97) hC dX2_fault_93 (by decide) ?_
                      refine y_iadd_n hC dX2_fault_97 ?_
                      refine y_istore_n hC dX2_fault_98 (i := 1) rfl (Nat.le_of_ble_eq_true rfl) rfl (lo' := [some (rf E (93)), some (.int (nI (d + 1))), some (.int (bI (isRep (sgn ln tx i) = true))), some (.int (nI (i))), some (.int (nI (c))), some (.int (nI (sgn ln tx (i))))]) rfl ?_
                      refine y_aload_n hC dX2_fault_99 (i := 0) rfl rfl ?_
                      refine y_iload_n hC dX2_fault_100 (i := 3) rfl rfl ?_
                      refine y_callV hC mX2_behind kX2_58 dX2_fault_101 (b := 93) (As := [.int (nI (i))]) (rest := []) (c_X2_behind l E g ln tx f tk it st ti h (i) (by omega)) (by omega) h.a93 rfl rfl rfl (Nat.le_of_ble_eq_true rfl) ⟨Nat.le_of_ble_eq_true rfl, Nat.le_of_ble_eq_true rfl⟩ (pk_i ?_)
                      rintro r_101 g_101 ⟨hr_101, hq_101⟩
                      obtain rfl := hq_101.symm
                      rw [hr_101]
                      clear hr_101 r_101
                      refine y_istore_n hC dX2_fault_104 (i := 3) rfl (Nat.le_of_ble_eq_true rfl) rfl (lo' := [some (rf E (93)), some (.int (nI (d + 1))), some (.int (bI (isRep (sgn ln tx i) = true))), some (.int (nI (bhd (sgn ln tx) i))), some (.int (nI (c))), some (.int (nI (sgn ln tx (i))))]) rfl ?_
                      refine y_iinc_n hC dX2_fault_105 (a := c) (k := 1) rfl (by decide) (Nat.le_of_ble_eq_true rfl) rfl (lo' := [some (rf E (93)), some (.int (nI (d + 1))), some (.int (bI (isRep (sgn ln tx i) = true))), some (.int (nI (bhd (sgn ln tx) i))), some (.int (nI (c + 1))), some (.int (nI (sgn ln tx (i))))]) rfl ?_
                      refine y_goto (tgt := 9) hC dX2_fault_108 (by decide) ?_
                      refine y_fg 5 (lo' := [some (rf E (93)), some (.int (nI (d + 1))), some (.int (bI (isRep (sgn ln tx i) = true))), some (.int (nI (bhd (sgn ln tx) i))), some (.int (nI (c + 1))), none]) rfl ?_
                      have hft2 : ft (sgn ln tx) ln n (bhd (sgn ln tx) i) (d + 1) (isRep (sgn ln tx i)) = ft (sgn ln tx) ln (n + 1) i d due := by
                        rw [ft_step hlt h41 (by simpa using c_57) (by simpa using c_74)]
                        refine congrArg (fun q => ft (sgn ln tx) ln n (bhd (sgn ln tx) i) q (isRep (sgn ln tx i))) ?_
                        first | (rw [if_pos c_89]; done) | (rw [if_neg c_89]; rfl)
                      have htk := tok (s := sgn ln tx) (i := i) (by simpa using c_57) (by simpa using c_74)
                      have hbl := bhd_le (s := sgn ln tx) (i := i) sz hlt (Or.inr (by omega))
                      exact ih_9 (d + 1) (isRep (sgn ln tx i)) (bhd (sgn ln tx) i) (c + 1) n (by omega) (by omega) (by omega) (by omega) (by omega) (hft2.trans hft)
                  · refine y_iload_n hC dX2_fault_77 (i := 3) rfl rfl ?_
                    refine y_iconst (v := nI 1) hC dX2_fault_78 (by decide) ?_
                    refine y_iadd_n hC dX2_fault_79 ?_
                    refine y_top (y := ftI (ft (sgn ln tx) ln 60 0 0 true)) (by rw [← hft, ft, if_pos hlt, if_neg h41, if_neg (by simpa using c_57), if_pos (by simpa using c_74)]; rfl) ?_
                    refine y_iret (hC := hC) (hd := dX2_fault_80) (hq := ?_)
                    exact ⟨rfl, rfl⟩
                · refine y_iload_n hC dX2_fault_60 (i := 3) rfl rfl ?_
                  refine y_top (y := ftI (ft (sgn ln tx) ln 60 0 0 true)) (by rw [← hft, ft, if_pos hlt, if_neg h41, if_pos (by simpa using c_57)]; rfl) ?_
                  refine y_iret (hC := hC) (hd := dX2_fault_61) (hq := ?_)
                  exact ⟨rfl, rfl⟩
              · refine y_iinc hC dX2_fault_46 (x := nI (d)) (v := nI (d - 1)) rfl (by rw [show Int32.ofInt (-1) = -nI 1 from by decide, ← Int32.sub_eq_add_neg]; exact pk_sub (by omega)) (Nat.le_of_ble_eq_true rfl) rfl (lo' := [some (rf E (93)), some (.int (nI (d - 1))), some (.int (bI (due = true))), some (.int (nI (i))), some (.int (nI (c))), some (.int (nI (sgn ln tx (i))))]) rfl ?_
                refine y_goto (tgt := 99) hC dX2_fault_49 (by decide) ?_
                refine y_aload_n hC dX2_fault_99 (i := 0) rfl rfl ?_
                refine y_iload_n hC dX2_fault_100 (i := 3) rfl rfl ?_
                refine y_callV hC mX2_behind kX2_58 dX2_fault_101 (b := 93) (As := [.int (nI (i))]) (rest := []) (c_X2_behind l E g ln tx f tk it st ti h (i) (by omega)) (by omega) h.a93 rfl rfl rfl (Nat.le_of_ble_eq_true rfl) ⟨Nat.le_of_ble_eq_true rfl, Nat.le_of_ble_eq_true rfl⟩ (pk_i ?_)
                rintro r_101 g_101 ⟨hr_101, hq_101⟩
                obtain rfl := hq_101.symm
                rw [hr_101]
                clear hr_101 r_101
                refine y_istore_n hC dX2_fault_104 (i := 3) rfl (Nat.le_of_ble_eq_true rfl) rfl (lo' := [some (rf E (93)), some (.int (nI (d - 1))), some (.int (bI (due = true))), some (.int (nI (bhd (sgn ln tx) i))), some (.int (nI (c))), some (.int (nI (sgn ln tx (i))))]) rfl ?_
                refine y_iinc_n hC dX2_fault_105 (a := c) (k := 1) rfl (by decide) (Nat.le_of_ble_eq_true rfl) rfl (lo' := [some (rf E (93)), some (.int (nI (d - 1))), some (.int (bI (due = true))), some (.int (nI (bhd (sgn ln tx) i))), some (.int (nI (c + 1))), some (.int (nI (sgn ln tx (i))))]) rfl ?_
                refine y_goto (tgt := 9) hC dX2_fault_108 (by decide) ?_
                refine y_fg 5 (lo' := [some (rf E (93)), some (.int (nI (d - 1))), some (.int (bI (due = true))), some (.int (nI (bhd (sgn ln tx) i))), some (.int (nI (c + 1))), none]) rfl ?_
                have hft2 : ft (sgn ln tx) ln n (bhd (sgn ln tx) i) (d - 1) false = ft (sgn ln tx) ln (n + 1) i d due := by
                  rw [ft, if_pos hlt, if_pos ⟨by omega, by omega, by simpa using c_43⟩]
                  unfold bhd
                  rw [if_pos (by omega)]
                have hbl := bhd_le (s := sgn ln tx) (i := i) sz hlt (Or.inl (by omega))
                have hdu : due = false := by simpa using c_43
                subst hdu
                exact ih_9 (d - 1) false (bhd (sgn ln tx) i) (c + 1) n (by omega) (by omega) (by omega) (by omega) (by omega) (hft2.trans hft)
  exact L_9 61 0 true 0 0 60 (by omega) (by omega) (by omega) (by omega) (by omega) rfl

