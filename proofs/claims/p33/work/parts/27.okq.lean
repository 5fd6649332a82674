/-! ===== each call leaves what the document allows ===== -/
theorem vr_addR {r : Row} {B f la s w : Nat} (hv : Vr r B) (h6 : rc r < 6) (hf : f < la) (hl : la < 32) (hs : 1 ≤ s ∧ s ≤ 30) (hw : w ≤ 2) (ho : ¬ ovl r f la = true) : Vr (addR r (nI f) (nI la) (nI s) (nI w)) B := by
  have h4 := hv.2.1.2
  have e32 : addR r (nI f) (nI la) (nI s) (nI w) 32 = nI (rc r + 1) := if_pos rfl
  have eo : ∀ k, k ≠ 32 → (k < 33 + 7 * rc r ∨ 40 + 7 * rc r ≤ k) → addR r (nI f) (nI la) (nI s) (nI w) k = r k := fun k h1 h2 => by
    unfold addR
    rw [if_neg h1, if_neg (by omega)]
  have er : rc (addR r (nI f) (nI la) (nI s) (nI w)) = rc r + 1 := by
    unfold rc
    rw [e32]
    exact nn_I (by omega)
  have eg : gc (addR r (nI f) (nI la) (nI s) (nI w)) = gc r := gc_of (eo _ (by omega) (by omega))
  have hnew := rgW (r2 := addR r (nI f) (nI la) (nI s) (nI w)) (a := rc r) (n0 := f) (n1 := la) (n2 := s) (n3 := w) (n4 := 1) (n5 := 0) (n6 := 0) (by
    intro j hj
    unfold addR
    rw [if_neg (by omega), if_pos (by omega), show 33 + 7 * rc r + j - (33 + 7 * rc r) = j by omega]) (by omega)
  obtain ⟨⟨w0, w1, w2, w3, w4, w5, w6⟩, hw2⟩ := hnew
  have eold : ∀ i, i < rc r → ∀ j, j < 7 → rg (addR r (nI f) (nI la) (nI s) (nI w)) i j = rg r i j := fun i hi j hj => rg_of (eo _ (by omega) (by omega))
  refine ⟨by rw [er]; exact ⟨e32, by omega⟩, by rw [eg, eo 75 (by decide) (by omega)]; exact hv.2.1, fun i hi => ?_, fun i j hij hj => ?_, fun i hi => ?_, fun i j hij hj => ?_, fun p hp => ?_, ?_, ?_⟩
  · rw [er] at hi
    by_cases e : i = rc r
    · subst e
      exact ⟨hw2, by omega, by omega, by omega, by omega, by omega, by omega, by omega, by omega⟩
    · have hi' : i < rc r := by omega
      have q := hv.rg hi'
      rw [eold i hi' 0 (by decide), eold i hi' 1 (by decide), eold i hi' 2 (by decide), eold i hi' 3 (by decide), eold i hi' 4 (by decide), eold i hi' 5 (by decide), eold i hi' 6 (by decide)]
      exact ⟨fun j hj => by rw [eold i hi' j hj, eo _ (by omega) (by omega)]; exact q.1 j hj, q.2⟩
  · rw [er] at hj
    rw [eold i (by omega) 0 (by decide), eold i (by omega) 1 (by decide)]
    by_cases e : j = rc r
    · subst e
      rw [w0, w1]
      have := fst_invn (n := rc r) (P := fun i => decide (rg r i 0 ≤ la ∧ f ≤ rg r i 1)) (by
        unfold ovl at ho
        cases h : fst (rc r) (fun i => decide (rg r i 0 ≤ la ∧ f ≤ rg r i 1)) with
        | none => rfl
        | some k => rw [h] at ho; exact absurd rfl ho) i hij
      rw [decide_eq_false_iff_not] at this
      omega
    · rw [eold j (by omega) 0 (by decide), eold j (by omega) 1 (by decide)]
      exact hv.2.2.2.1 i j hij (by omega)
  · rw [eg] at hi
    have q := hv.gl hi
    have e2 : ∀ j, j < 4 → gl (addR r (nI f) (nI la) (nI s) (nI w)) i j = gl r i j := fun j hj => gl_of (eo _ (by omega) (by omega))
    rw [e2 0 (by decide), e2 2 (by decide), e2 3 (by decide), eo _ (by omega) (by omega), eo (76 + 4 * i + 2) (by omega) (by omega), eo (76 + 4 * i + 3) (by omega) (by omega)]
    exact q
  · rw [eg] at hj
    rw [gl_of (eo _ (by omega) (by omega)), gl_of (r2 := addR r (nI f) (nI la) (nI s) (nI w)) (i := j) (eo _ (by omega) (by omega))]
    exact hv.2.2.2.2.2.1 i j hij hj
  · rw [px_of (eo _ (by omega) (by omega)), eo _ (by omega) (by omega)]
    exact hv.2.2.2.2.2.2.1 p hp
  · rw [eo _ (by decide) (by omega)]
    exact hv.2.2.2.2.2.2.2.1
  · rw [eo _ (by decide) (by omega)]
    exact hv.2.2.2.2.2.2.2.2
theorem vr_remR {r : Row} {B a : Nat} (hv : Vr r B) (ha : a < rc r) : Vr (remR r a) B := by
  have h6 := hv.1.2
  have h4 := hv.2.1.2
  have e32 : remR r a 32 = nI (rc r - 1) := if_pos rfl
  have eo : ∀ k, k ≠ 32 → (k < 33 + 7 * a ∨ 33 + 7 * (rc r - 1) ≤ k) → remR r a k = r k := fun k h1 h2 => by
    unfold remR
    rw [if_neg h1, if_neg (by omega)]
  have ei : ∀ k, 33 + 7 * a ≤ k → k < 33 + 7 * (rc r - 1) → remR r a k = r (k + 7) := fun k h1 h2 => by
    unfold remR
    rw [if_neg (by omega), if_pos ⟨h1, h2⟩]
  have er : rc (remR r a) = rc r - 1 := by
    unfold rc
    rw [e32]
    exact nn_I (by have := h6; unfold rc at this; omega)
  have eg : gc (remR r a) = gc r := gc_of (eo _ (by omega) (by omega))
  have ew : ∀ i, i < rc r - 1 → ∀ j, j < 7 → remR r a (33 + 7 * i + j) = r (33 + 7 * (if i < a then i else i + 1) + j) := fun i hi j hj => by
    by_cases e : i < a
    · rw [if_pos e, eo _ (by omega) (by omega)]
    · rw [if_neg e, ei _ (by omega) (by omega)]
      exact congrArg r (by omega)
  have eg2 : ∀ i, i < rc r - 1 → ∀ j, j < 7 → rg (remR r a) i j = rg r (if i < a then i else i + 1) j := fun i hi j hj => by
    unfold rg
    rw [ew i hi j hj]
  refine ⟨by rw [er]; exact ⟨e32, by omega⟩, by rw [eg, eo 75 (by decide) (by omega)]; exact hv.2.1, fun i hi => ?_, fun i j hij hj => ?_, fun i hi => ?_, fun i j hij hj => ?_, fun p hp => ?_, ?_, ?_⟩
  · rw [er] at hi
    have hi2 : (if i < a then i else i + 1) < rc r := by split <;> omega
    have q := hv.rg hi2
    rw [eg2 i hi 0 (by decide), eg2 i hi 1 (by decide), eg2 i hi 2 (by decide), eg2 i hi 3 (by decide), eg2 i hi 4 (by decide), eg2 i hi 5 (by decide), eg2 i hi 6 (by decide)]
    exact ⟨fun j hj => by rw [eg2 i hi j hj, ew i hi j hj]; exact q.1 j hj, q.2⟩
  · rw [er] at hj
    rw [eg2 i (by omega) 0 (by decide), eg2 i (by omega) 1 (by decide), eg2 j hj 0 (by decide), eg2 j hj 1 (by decide)]
    exact hv.2.2.2.1 _ _ (by split <;> split <;> omega) (by split <;> omega)
  · rw [eg] at hi
    have q := hv.gl hi
    have e2 : ∀ j, j < 4 → gl (remR r a) i j = gl r i j := fun j hj => gl_of (eo _ (by omega) (by omega))
    rw [e2 0 (by decide), e2 2 (by decide), e2 3 (by decide), eo _ (by omega) (by omega), eo (76 + 4 * i + 2) (by omega) (by omega), eo (76 + 4 * i + 3) (by omega) (by omega)]
    exact q
  · rw [eg] at hj
    rw [gl_of (eo _ (by omega) (by omega)), gl_of (r2 := remR r a) (i := j) (eo _ (by omega) (by omega))]
    exact hv.2.2.2.2.2.1 i j hij hj
  · rw [px_of (eo _ (by omega) (by omega)), eo _ (by omega) (by omega)]
    exact hv.2.2.2.2.2.2.1 p hp
  · rw [eo _ (by decide) (by omega)]
    exact hv.2.2.2.2.2.2.2.1
  · rw [eo _ (by decide) (by omega)]
    exact hv.2.2.2.2.2.2.2.2
theorem vr_addG {r : Row} {B p s : Nat} {c : Int32} (hv : Vr r B) (h4 : gc r < 4) (hp : p < 32) (hs : 1 ≤ s ∧ s ≤ 30) (ho : ¬ (gAt r p).isSome = true) : Vr (addG r (nI p) c (nI s)) B := by
  have h6 := hv.1.2
  have e75 : addG r (nI p) c (nI s) 75 = nI (gc r + 1) := if_pos rfl
  have eo : ∀ k, k ≠ 75 → (k < 76 + 4 * gc r ∨ 80 + 4 * gc r ≤ k) → addG r (nI p) c (nI s) k = r k := fun k h1 h2 => by
    unfold addG
    rw [if_neg h1, if_neg (by omega)]
  have en : ∀ j, j < 4 → addG r (nI p) c (nI s) (76 + 4 * gc r + j) = v4 (nI p) c (nI s) (nI 0) j := fun j hj => by
    unfold addG
    rw [if_neg (by omega), if_pos (by omega), show 76 + 4 * gc r + j - (76 + 4 * gc r) = j by omega]
  have er : rc (addG r (nI p) c (nI s)) = rc r := rc_of (eo _ (by omega) (by omega))
  have eg : gc (addG r (nI p) c (nI s)) = gc r + 1 := by
    unfold gc
    rw [e75]
    exact nn_I (by omega)
  have eold : ∀ i, i < gc r → ∀ j, j < 4 → gl (addG r (nI p) c (nI s)) i j = gl r i j := fun i hi j hj => gl_of (eo _ (by omega) (by omega))
  have g0 : gl (addG r (nI p) c (nI s)) (gc r) 0 = p := by unfold gl; rw [en 0 (by decide)]; exact nn_I (by omega)
  have g2 : gl (addG r (nI p) c (nI s)) (gc r) 2 = s := by unfold gl; rw [en 2 (by decide)]; exact nn_I (by omega)
  have g3 : gl (addG r (nI p) c (nI s)) (gc r) 3 = 0 := by unfold gl; rw [en 3 (by decide)]; exact nn_I (by omega)
  refine ⟨by rw [er, eo 32 (by decide) (by omega)]; exact hv.1, by rw [eg]; exact ⟨e75, by omega⟩, fun i hi => ?_, fun i j hij hj => ?_, fun i hi => ?_, fun i j hij hj => ?_, fun q hq => ?_, ?_, ?_⟩
  · rw [er] at hi
    have q := hv.rg hi
    have e1 : ∀ j, j < 7 → rg (addG r (nI p) c (nI s)) i j = rg r i j := fun j hj => rg_of (eo _ (by omega) (by omega))
    rw [e1 0 (by decide), e1 1 (by decide), e1 2 (by decide), e1 3 (by decide), e1 4 (by decide), e1 5 (by decide), e1 6 (by decide)]
    exact ⟨fun j hj => by rw [e1 j hj, eo _ (by omega) (by omega)]; exact q.1 j hj, q.2⟩
  · rw [er] at hj
    have e1 : ∀ i, i < rc r → ∀ j, j < 7 → rg (addG r (nI p) c (nI s)) i j = rg r i j := fun i hi j hj => rg_of (eo _ (by omega) (by omega))
    rw [e1 i (by omega) 0 (by decide), e1 i (by omega) 1 (by decide), e1 j hj 0 (by decide), e1 j hj 1 (by decide)]
    exact hv.2.2.2.1 i j hij hj
  · rw [eg] at hi
    by_cases e : i = gc r
    · subst e
      rw [g0, g2, g3]
      exact ⟨⟨en 0 (by decide), en 2 (by decide), en 3 (by decide)⟩, hp, by omega, by omega, by omega⟩
    · have hi' : i < gc r := by omega
      have q := hv.gl hi'
      rw [eold i hi' 0 (by decide), eold i hi' 2 (by decide), eold i hi' 3 (by decide), eo _ (by omega) (by omega), eo (76 + 4 * i + 2) (by omega) (by omega), eo (76 + 4 * i + 3) (by omega) (by omega)]
      exact q
  · rw [eg] at hj
    rw [eold i (by omega) 0 (by decide)]
    by_cases e : j = gc r
    · subst e
      rw [g0]
      have := fst_invn (n := gc r) (P := fun i => decide (gl r i 0 = p)) (by
        unfold gAt at ho
        cases h : fst (gc r) (fun i => decide (gl r i 0 = p)) with
        | none => rfl
        | some k => rw [h] at ho; exact absurd rfl ho) i hij
      rw [decide_eq_false_iff_not] at this
      exact this
    · rw [eold j (by omega) 0 (by decide)]
      exact hv.2.2.2.2.2.1 i j hij (by omega)
  · rw [px_of (eo _ (by omega) (by omega)), eo _ (by omega) (by omega)]
    exact hv.2.2.2.2.2.2.1 q hq
  · rw [eo _ (by decide) (by omega)]
    exact hv.2.2.2.2.2.2.2.1
  · rw [eo _ (by decide) (by omega)]
    exact hv.2.2.2.2.2.2.2.2
theorem vr_remG {r : Row} {B a : Nat} (hv : Vr r B) (ha : a < gc r) : Vr (remG r a) B := by
  have h6 := hv.1.2
  have h4 := hv.2.1.2
  have e75 : remG r a 75 = nI (gc r - 1) := if_pos rfl
  have eo : ∀ k, k ≠ 75 → (k < 76 + 4 * a ∨ 76 + 4 * (gc r - 1) ≤ k) → remG r a k = r k := fun k h1 h2 => by
    unfold remG
    rw [if_neg h1, if_neg (by omega)]
  have ei : ∀ k, 76 + 4 * a ≤ k → k < 76 + 4 * (gc r - 1) → remG r a k = r (k + 4) := fun k h1 h2 => by
    unfold remG
    rw [if_neg (by omega), if_pos ⟨h1, h2⟩]
  have er : rc (remG r a) = rc r := rc_of (eo _ (by omega) (by omega))
  have eg : gc (remG r a) = gc r - 1 := by
    unfold gc
    rw [e75]
    exact nn_I (by have := h4; unfold gc at this; omega)
  have ew : ∀ i, i < gc r - 1 → ∀ j, j < 4 → remG r a (76 + 4 * i + j) = r (76 + 4 * (if i < a then i else i + 1) + j) := fun i hi j hj => by
    by_cases e : i < a
    · rw [if_pos e, eo _ (by omega) (by omega)]
    · rw [if_neg e, ei _ (by omega) (by omega)]
      exact congrArg r (by omega)
  have eg2 : ∀ i, i < gc r - 1 → ∀ j, j < 4 → gl (remG r a) i j = gl r (if i < a then i else i + 1) j := fun i hi j hj => by
    unfold gl
    rw [ew i hi j hj]
  refine ⟨by rw [er, eo 32 (by decide) (by omega)]; exact hv.1, by rw [eg]; exact ⟨e75, by omega⟩, fun i hi => ?_, fun i j hij hj => ?_, fun i hi => ?_, fun i j hij hj => ?_, fun p hp => ?_, ?_, ?_⟩
  · rw [er] at hi
    have q := hv.rg hi
    have e1 : ∀ j, j < 7 → rg (remG r a) i j = rg r i j := fun j hj => rg_of (eo _ (by omega) (by omega))
    rw [e1 0 (by decide), e1 1 (by decide), e1 2 (by decide), e1 3 (by decide), e1 4 (by decide), e1 5 (by decide), e1 6 (by decide)]
    exact ⟨fun j hj => by rw [e1 j hj, eo _ (by omega) (by omega)]; exact q.1 j hj, q.2⟩
  · rw [er] at hj
    have e1 : ∀ i, i < rc r → ∀ j, j < 7 → rg (remG r a) i j = rg r i j := fun i hi j hj => rg_of (eo _ (by omega) (by omega))
    rw [e1 i (by omega) 0 (by decide), e1 i (by omega) 1 (by decide), e1 j hj 0 (by decide), e1 j hj 1 (by decide)]
    exact hv.2.2.2.1 i j hij hj
  · rw [eg] at hi
    have hi2 : (if i < a then i else i + 1) < gc r := by split <;> omega
    have q := hv.gl hi2
    have w0 := ew i hi 0 (by decide)
    rw [Nat.add_zero, Nat.add_zero] at w0
    rw [eg2 i hi 0 (by decide), eg2 i hi 2 (by decide), eg2 i hi 3 (by decide), w0, ew i hi 2 (by decide), ew i hi 3 (by decide)]
    exact q
  · rw [eg] at hj
    rw [eg2 i (by omega) 0 (by decide), eg2 j hj 0 (by decide)]
    exact hv.2.2.2.2.2.1 _ _ (by split <;> split <;> omega) (by split <;> omega)
  · rw [px_of (eo _ (by omega) (by omega)), eo _ (by omega) (by omega)]
    exact hv.2.2.2.2.2.2.1 p hp
  · rw [eo _ (by decide) (by omega)]
    exact hv.2.2.2.2.2.2.2.1
  · rw [eo _ (by decide) (by omega)]
    exact hv.2.2.2.2.2.2.2.2
theorem OK.rw {S : AS} {B B2 : Nat} {r : Row} (h : OK S B) (hb : B ≤ B2) (hr : Vr r B2) : OK (S.rec.row r) B2 := (h.rec.le hb).row hr
section OKQ
variable {S : AS} {B : Nat}
theorem okq_same (ho : OK S B) : OK S (B + 10000) := ho.le (by omega)
theorem ok_blend (ho : OK S B) (x y u v : Int32) : OK (qBlend S x y u v).2 (B + 10000) := by
  unfold qBlend
  split
  · split
    · rename_i h
      split
      · exact okq_same ho
      · obtain ⟨q, hq, rfl⟩ := zN (m := 31) h.1.1
        rw [nn_I (show q < 2147483648 by omega)]
        exact ho.rw (by omega) ((vr_put ho.v (by omega)).le (by omega))
    · exact okq_same ho
  · exact okq_same ho
theorem ok_freeze (ho : OK S B) (hB : B < 80000000) : OK (qFreeze S).2 (B + 10000) := ho.rw (by omega) ((vr_beg (vr_put ho.v (by decide)) (by omega)).le (by omega))
theorem ok_addRange (ho : OK S B) (x y s w : Int32) : OK (qAddRange S x y s w).2 (B + 10000) := by
  unfold qAddRange
  split
  · rename_i h0
    split
    · rename_i h
      split
      · exact okq_same ho
      · rename_i hov
        split
        · rename_i h6
          obtain ⟨p, hp, rfl⟩ := zN (m := 31) h0
          obtain ⟨q, hq, rfl⟩ := zN (m := 31) h.1.1
          obtain ⟨s, hs1, hs2, rfl⟩ := zNg (a := 1) (m := 30) h.2.1
          obtain ⟨w, hw, rfl⟩ := zN (m := 2) h.2.2
          rw [nn_I (show p < 2147483648 by omega), nn_I (show q < 2147483648 by omega)] at hov
          have hpq := h.1.2
          rw [nn_I (show p < 2147483648 by omega), nn_I (show q < 2147483648 by omega)] at hpq
          exact ho.rw (by omega) ((vr_addR ho.v h6 hpq (by omega) ⟨hs1, hs2⟩ hw hov).le (by omega))
        · exact okq_same ho
    · exact okq_same ho
  · exact okq_same ho
theorem ok_removeRange (ho : OK S B) (x : Int32) : OK (qRemoveRange S x).2 (B + 10000) := by
  unfold qRemoveRange
  have h6 := ho.v.1.2
  split
  · rename_i h
    obtain ⟨a, ha, rfl⟩ := zNl h
    rw [nn_I (by omega)]
    exact ho.rw (by omega) ((vr_remR ho.v ha).le (by omega))
  · exact okq_same ho
theorem ok_setSpeed (ho : OK S B) (hB : B < 80000000) (x s w : Int32) : OK (qSetSpeed S x s w).2 (B + 10000) := by
  unfold qSetSpeed
  have h6 := ho.v.1.2
  split
  · rename_i h0
    split
    · rename_i h
      obtain ⟨a, ha, rfl⟩ := zNl h0
      obtain ⟨s, hs1, hs2, rfl⟩ := zNg (a := 1) (m := 30) h.1
      obtain ⟨w, hw, rfl⟩ := zN (m := 2) h.2
      rw [nn_I (by omega)]
      exact ho.rw (by omega) ((vr_spd ho.v (by omega) ha ⟨hs1, hs2⟩ hw).le (by omega))
    · exact okq_same ho
  · exact okq_same ho
theorem ok_run (ho : OK S B) (hB : B < 80000000) (x : Int32) (z : Nat) (hz : z ≤ 1) : OK (qRun S x z).2 (B + 10000) := by
  unfold qRun
  have h6 := ho.v.1.2
  split
  · rename_i h0
    split
    · exact okq_same ho
    · obtain ⟨a, ha, rfl⟩ := zNl h0
      rw [nn_I (by omega)]
      exact ho.rw (by omega) ((vr_runz ho.v (by omega) ha hz).le (by omega))
  · exact okq_same ho
theorem ok_addGlow (ho : OK S B) (x y s : Int32) : OK (qAddGlow S x y s).2 (B + 10000) := by
  unfold qAddGlow
  split
  · rename_i h0
    split
    · rename_i h
      split
      · exact okq_same ho
      · rename_i hg
        split
        · rename_i h4
          obtain ⟨p, hp, rfl⟩ := zN (m := 31) h0
          obtain ⟨s, hs1, hs2, rfl⟩ := zNg (a := 1) (m := 30) h.2
          rw [nn_I (by omega)] at hg
          exact ho.rw (by omega) ((vr_addG ho.v h4 (by omega) ⟨hs1, hs2⟩ hg).le (by omega))
        · exact okq_same ho
    · exact okq_same ho
  · exact okq_same ho
theorem ok_removeGlow (ho : OK S B) (x : Int32) : OK (qRemoveGlow S x).2 (B + 10000) := by
  unfold qRemoveGlow
  have h4 := ho.v.2.1.2
  split
  · rename_i h
    obtain ⟨a, ha, rfl⟩ := zNl h
    rw [nn_I (by omega)]
    exact ho.rw (by omega) ((vr_remG ho.v ha).le (by omega))
  · exact okq_same ho
theorem ok_pass (ho : OK S B) (hB : B < 80000000) (x : Int32) : OK (qPass S x).2 (B + 10000) := by
  unfold qPass
  split
  · rename_i h
    obtain ⟨t, ht1, ht, rfl⟩ := zNg (a := 1) (m := 1000) h
    rw [nn_I (by omega)]
    exact ho.rw (by omega) ((vr_tk ho.v (by omega) (by omega)).le (by omega))
  · exact okq_same ho
theorem ok_perform (ho : OK S B) (hB : B < 80000000) : OK (qPerform S).2 (B + 10000) := by
  unfold qPerform
  split
  · exact okq_same ho
  · rename_i hft
    split
    · exact okq_same ho
    · rename_i hrl
      split
      · exact okq_same ho
      · rename_i hc
        obtain ⟨n, hn, hrun, hvf, htk⟩ := prog (s := sgn S.ln S.tx) (ln := S.ln) sz ho.2.2.2.2.2.1 ho.v hB (by omega) hft (show (ctS S).1 ≤ 5000 by omega) (show (ctS S).2 ≤ 5000 by omega)
        exact ho.rw (by omega) hvf
theorem ok_type (ho : OK S B) (c : Nat) (hc : c < 65536) : OK (qType S c).2 (B + 10000) := by
  unfold qType
  split
  · rename_i h
    obtain ⟨h1, h2, h3, h4, h5, h6, h7⟩ := okq_same ho
    refine ⟨h1, h2, h3, h4, h5, h, fun k hk => ?_⟩
    have hk2 : k < S.ln + 1 := hk
    show va_up S.tx S.ln c k < 65536
    by_cases e : k = S.ln
    · rw [e, va_up_self]; exact hc
    · rw [va_up_ne _ _ e]; exact h7 k (by omega)
  · exact okq_same ho
theorem ok_clearText (ho : OK S B) : OK (qClearText S).2 (B + 10000) := by
  obtain ⟨h1, h2, h3, h4, h5, h6, h7⟩ := okq_same ho
  exact ⟨h1, h2, h3, h4, h5, Nat.zero_le _, fun k hk => absurd hk (Nat.not_lt_zero k)⟩
theorem ok_paint (ho : OK S B) (x y z : Int32) : OK (qPaint S x y z).2 (B + 10000) := by
  unfold qPaint
  split
  · rename_i h0
    split
    · rename_i h1
      split
      · exact okq_same ho
      · obtain ⟨p, hp, rfl⟩ := zN (m := 7) h0.1
        obtain ⟨q, hq, rfl⟩ := zN (m := 7) h0.2
        obtain ⟨c, hc, rfl⟩ := zN (m := 31) h1
        rw [nn_I (show p < 2147483648 by omega), nn_I (show q < 2147483648 by omega)]
        refine ho.rw (by omega) ((vr_pix ho.v (fun k hk => pk_un (by omega)) (fun j hj => ?_)).le (by omega))
        have hv := ho.v.2.2.2.2.2.2.1 j hj
        by_cases e : j = 8 * p + q
        · subst e
          have e1 : px (upd S.r (92 + (8 * p + q)) (nI c)) (8 * p + q) = c := by unfold px; rw [pk_us]; exact nn_I (by omega)
          rw [e1, pk_us]
          exact ⟨rfl, by omega⟩
        · rw [px_of (r := S.r) (pk_un (by omega)), pk_un (by omega)]
          exact hv
    · exact okq_same ho
  · exact okq_same ho
theorem ok_fill (ho : OK S B) (x y z : Int32) : OK (qFill S x y z).2 (B + 10000) := by
  unfold qFill
  split
  · split
    · rename_i h1
      split
      · exact okq_same ho
      · obtain ⟨c, hc, rfl⟩ := zN (m := 31) h1
        rw [nn_I (show c < 2147483648 by omega)]
        exact ho.rw (by omega) ((vr_fl ho.v (by omega)).le (by omega))
    · exact okq_same ho
  · exact okq_same ho
end OKQ
