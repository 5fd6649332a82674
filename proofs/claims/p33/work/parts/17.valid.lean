/-! ===== rows stay as the document allows them ===== -/
def putR (r : Row) (a c : Nat) (sh : Nat → Int32) : Row := fun k => if a ≤ k ∧ k ≤ c then sh k else r k
def spdR (r : Row) (i : Nat) (s w : Int32) : Row := fun k => if k = 35 + 7 * i then s else if k = 36 + 7 * i then w else if k = 38 + 7 * i then nI 0 else if k = 39 + 7 * i then nI 0 else r k
theorem zN {x : Int32} {m : Nat} (h : 0 ≤ x.toInt ∧ x.toInt ≤ (m : Int)) : ∃ p : Nat, p ≤ m ∧ x = nI p := by
  have h2 := (zrng x).2
  exact ⟨x.toInt.toNat, by omega, zI_of (by omega) (by omega)⟩
theorem zNl {x : Int32} {m : Nat} (h : 0 ≤ x.toInt ∧ x.toInt < (m : Int)) : ∃ p : Nat, p < m ∧ x = nI p := by
  have h2 := (zrng x).2
  exact ⟨x.toInt.toNat, by omega, zI_of (by omega) (by omega)⟩
theorem zNg {x : Int32} {a m : Nat} (h : (a : Int) ≤ x.toInt ∧ x.toInt ≤ (m : Int)) : ∃ p : Nat, a ≤ p ∧ p ≤ m ∧ x = nI p := by
  have h2 := (zrng x).2
  exact ⟨x.toInt.toNat, by omega, by omega, zI_of (by omega) (by omega)⟩
section VR
variable {r r2 : Row} {B : Nat}
theorem rg_of {i j : Nat} (h : r2 (33 + 7 * i + j) = r (33 + 7 * i + j)) : rg r2 i j = rg r i j := by unfold rg; rw [h]
theorem gl_of {i j : Nat} (h : r2 (76 + 4 * i + j) = r (76 + 4 * i + j)) : gl r2 i j = gl r i j := by unfold gl; rw [h]
theorem px_of {p : Nat} (h : r2 (92 + p) = r (92 + p)) : px r2 p = px r p := by unfold px; rw [h]
/-- what is not above 32 says nothing here -/
theorem vr_co (hv : Vr r B) (h : ∀ k, 32 ≤ k → k < 158 → r2 k = r k) : Vr r2 B := by
  have h6 := hv.1.2
  have h4 := hv.2.1.2
  have er : rc r2 = rc r := rc_of (h 32 (by decide) (by decide))
  have eg : gc r2 = gc r := gc_of (h 75 (by decide) (by decide))
  have e1 : ∀ i j, i < rc r → j < 7 → rg r2 i j = rg r i j := fun i j hi hj => rg_of (h _ (by omega) (by omega))
  have e2 : ∀ i j, i < gc r → j < 4 → gl r2 i j = gl r i j := fun i j hi hj => gl_of (h _ (by omega) (by omega))
  refine ⟨by rw [er, h 32 (by decide) (by decide)]; exact hv.1, by rw [eg, h 75 (by decide) (by decide)]; exact hv.2.1, fun i hi => ?_, fun i j hij hj => ?_, fun i hi => ?_, fun i j hij hj => ?_, fun p hp => ?_, by rw [h 156 (by decide) (by decide)]; exact hv.2.2.2.2.2.2.2.1, by rw [h 157 (by decide) (by decide)]; exact hv.2.2.2.2.2.2.2.2⟩
  · rw [er] at hi
    have q := hv.rg hi
    rw [e1 i 0 hi (by decide), e1 i 1 hi (by decide), e1 i 2 hi (by decide), e1 i 3 hi (by decide), e1 i 4 hi (by decide), e1 i 5 hi (by decide), e1 i 6 hi (by decide)]
    exact ⟨fun j hj => by rw [e1 i j hi hj, h _ (by omega) (by omega)]; exact q.1 j hj, q.2⟩
  · rw [er] at hj
    rw [e1 i 1 (by omega) (by decide), e1 j 0 hj (by decide), e1 j 1 hj (by decide), e1 i 0 (by omega) (by decide)]
    exact hv.2.2.2.1 i j hij hj
  · rw [eg] at hi
    have q := hv.gl hi
    rw [e2 i 0 hi (by decide), e2 i 2 hi (by decide), e2 i 3 hi (by decide), h _ (by omega) (by omega), h (76 + 4 * i + 2) (by omega) (by omega), h (76 + 4 * i + 3) (by omega) (by omega)]
    exact q
  · rw [eg] at hj
    rw [e2 i 0 (by omega) (by decide), e2 j 0 hj (by decide)]
    exact hv.2.2.2.2.2.1 i j hij hj
  · rw [px_of (h _ (by omega) (by omega)), h _ (by omega) (by omega)]
    exact hv.2.2.2.2.2.2.1 p hp
/-- the pixels alone are others -/
theorem vr_pix (hv : Vr r B) (h : ∀ k, k < 92 ∨ 156 ≤ k → r2 k = r k) (hp : ∀ p, p < 64 → r2 (92 + p) = nI (px r2 p) ∧ px r2 p < 32) : Vr r2 B := by
  have h6 := hv.1.2
  have h4 := hv.2.1.2
  have er : rc r2 = rc r := rc_of (h 32 (by decide))
  have eg : gc r2 = gc r := gc_of (h 75 (by decide))
  have e1 : ∀ i j, i < rc r → j < 7 → rg r2 i j = rg r i j := fun i j hi hj => rg_of (h _ (by omega))
  have e2 : ∀ i j, i < gc r → j < 4 → gl r2 i j = gl r i j := fun i j hi hj => gl_of (h _ (by omega))
  refine ⟨by rw [er, h 32 (by decide)]; exact hv.1, by rw [eg, h 75 (by decide)]; exact hv.2.1, fun i hi => ?_, fun i j hij hj => ?_, fun i hi => ?_, fun i j hij hj => ?_, hp, by rw [h 156 (by decide)]; exact hv.2.2.2.2.2.2.2.1, by rw [h 157 (by decide)]; exact hv.2.2.2.2.2.2.2.2⟩
  · rw [er] at hi
    have q := hv.rg hi
    rw [e1 i 0 hi (by decide), e1 i 1 hi (by decide), e1 i 2 hi (by decide), e1 i 3 hi (by decide), e1 i 4 hi (by decide), e1 i 5 hi (by decide), e1 i 6 hi (by decide)]
    exact ⟨fun j hj => by rw [e1 i j hi hj, h _ (by omega)]; exact q.1 j hj, q.2⟩
  · rw [er] at hj
    rw [e1 i 1 (by omega) (by decide), e1 j 0 hj (by decide), e1 j 1 hj (by decide), e1 i 0 (by omega) (by decide)]
    exact hv.2.2.2.1 i j hij hj
  · rw [eg] at hi
    have q := hv.gl hi
    rw [e2 i 0 hi (by decide), e2 i 2 hi (by decide), e2 i 3 hi (by decide), h _ (by omega), h (76 + 4 * i + 2) (by omega), h (76 + 4 * i + 3) (by omega)]
    exact q
  · rw [eg] at hj
    rw [e2 i 0 (by omega) (by decide), e2 j 0 hj (by decide)]
    exact hv.2.2.2.2.2.1 i j hij hj
/-- the ranges' words alone are others, and the steps -/
theorem vr_rgs {B2 : Nat} (hv : Vr r B) (hB : B ≤ B2) (h : ∀ k, k < 33 ∨ (75 ≤ k ∧ k ≠ 157) → r2 k = r k)
    (hw : ∀ i, i < rc r → (∀ j, j < 7 → r2 (33 + 7 * i + j) = nI (rg r2 i j)) ∧ rg r2 i 0 = rg r i 0 ∧ rg r2 i 1 = rg r i 1 ∧ 0 < rg r2 i 2 ∧ rg r2 i 2 ≤ 30 ∧ rg r2 i 3 ≤ 2 ∧ rg r2 i 4 ≤ 1 ∧ rg r2 i 5 < rg r2 i 2 ∧ rg r2 i 6 ≤ B2) (h7 : r2 157 = nI (nn (r2 157)) ∧ nn (r2 157) ≤ 7 * B2) : Vr r2 B2 := by
  have h6 := hv.1.2
  have h4 := hv.2.1.2
  have er : rc r2 = rc r := rc_of (h 32 (by decide))
  have eg : gc r2 = gc r := gc_of (h 75 (by decide))
  have e2 : ∀ i j, i < gc r → j < 4 → gl r2 i j = gl r i j := fun i j hi hj => gl_of (h _ (by omega))
  refine ⟨by rw [er, h 32 (by decide)]; exact hv.1, by rw [eg, h 75 (by decide)]; exact hv.2.1, fun i hi => ?_, fun i j hij hj => ?_, fun i hi => ?_, fun i j hij hj => ?_, fun p hp => ?_, ?_, h7⟩
  · rw [er] at hi
    have q := hv.rg hi
    obtain ⟨q1, q2, q3, q4, q5, q6, q7, q8, q9⟩ := hw i hi
    exact ⟨q1, by rw [q2, q3]; exact q.2.1, by rw [q3]; exact q.2.2.1, q4, q5, q6, q7, q8, q9⟩
  · rw [er] at hj
    have p1 := hw i (by omega)
    have p2 := hw j hj
    rw [p1.2.1, p1.2.2.1, p2.2.1, p2.2.2.1]
    exact hv.2.2.2.1 i j hij hj
  · rw [eg] at hi
    have q := hv.gl hi
    rw [e2 i 0 hi (by decide), e2 i 2 hi (by decide), e2 i 3 hi (by decide), h _ (by omega), h (76 + 4 * i + 2) (by omega), h (76 + 4 * i + 3) (by omega)]
    exact q
  · rw [eg] at hj
    rw [e2 i 0 (by omega) (by decide), e2 j 0 hj (by decide)]
    exact hv.2.2.2.2.2.1 i j hij hj
  · rw [px_of (h _ (by omega)), h _ (by omega)]
    exact hv.2.2.2.2.2.2.1 p hp
  · rw [h 156 (by decide)]
    have := hv.2.2.2.2.2.2.2.1
    exact ⟨this.1, by omega⟩
/-- one range's words alone are others -/
theorem vr_rg1 {B2 a : Nat} (hv : Vr r B) (hB : B ≤ B2) (h : ∀ k, k < 33 + 7 * a ∨ (40 + 7 * a ≤ k ∧ k ≠ 157) → r2 k = r k)
    (hw : a < rc r → (∀ j, j < 7 → r2 (33 + 7 * a + j) = nI (rg r2 a j)) ∧ rg r2 a 0 = rg r a 0 ∧ rg r2 a 1 = rg r a 1 ∧ 0 < rg r2 a 2 ∧ rg r2 a 2 ≤ 30 ∧ rg r2 a 3 ≤ 2 ∧ rg r2 a 4 ≤ 1 ∧ rg r2 a 5 < rg r2 a 2 ∧ rg r2 a 6 ≤ B2) (ha : a < rc r) (h7 : r2 157 = nI (nn (r2 157)) ∧ nn (r2 157) ≤ 7 * B2) : Vr r2 B2 := by
  have h6 := hv.1.2
  refine vr_rgs hv hB (fun k hk => h k (by omega)) (fun i hi => ?_) h7
  by_cases e : i = a
  · subst e
    exact hw hi
  · have q := hv.rg hi
    have e1 : ∀ j, j < 7 → r2 (33 + 7 * i + j) = r (33 + 7 * i + j) := fun j hj => h _ (by omega)
    have e2 : ∀ j, j < 7 → rg r2 i j = rg r i j := fun j hj => rg_of (e1 j hj)
    rw [e2 0 (by decide), e2 1 (by decide), e2 2 (by decide), e2 3 (by decide), e2 4 (by decide), e2 5 (by decide), e2 6 (by decide)]
    exact ⟨fun j hj => by rw [e1 j hj, e2 j hj]; exact q.1 j hj, rfl, rfl, q.2.2.2.1, q.2.2.2.2.1, q.2.2.2.2.2.1, q.2.2.2.2.2.2.1, q.2.2.2.2.2.2.2.1, by have := q.2.2.2.2.2.2.2.2; omega⟩
end VR
/-- a row whose words of range a are these numbers -/
theorem rgW {r2 : Row} {a : Nat} {n0 n1 n2 n3 n4 n5 n6 : Nat} (h : ∀ j, j < 7 → r2 (33 + 7 * a + j) = v7 (nI n0) (nI n1) (nI n2) (nI n3) (nI n4) (nI n5) (nI n6) j) (hb : n0 < 2147483648 ∧ n1 < 2147483648 ∧ n2 < 2147483648 ∧ n3 < 2147483648 ∧ n4 < 2147483648 ∧ n5 < 2147483648 ∧ n6 < 2147483648) :
    (rg r2 a 0 = n0 ∧ rg r2 a 1 = n1 ∧ rg r2 a 2 = n2 ∧ rg r2 a 3 = n3 ∧ rg r2 a 4 = n4 ∧ rg r2 a 5 = n5 ∧ rg r2 a 6 = n6) ∧ ∀ j, j < 7 → r2 (33 + 7 * a + j) = nI (rg r2 a j) := by
  have e0 : rg r2 a 0 = n0 := by unfold rg; rw [h 0 (by decide)]; exact nn_I hb.1
  have e1 : rg r2 a 1 = n1 := by unfold rg; rw [h 1 (by decide)]; exact nn_I hb.2.1
  have e2 : rg r2 a 2 = n2 := by unfold rg; rw [h 2 (by decide)]; exact nn_I hb.2.2.1
  have e3 : rg r2 a 3 = n3 := by unfold rg; rw [h 3 (by decide)]; exact nn_I hb.2.2.2.1
  have e4 : rg r2 a 4 = n4 := by unfold rg; rw [h 4 (by decide)]; exact nn_I hb.2.2.2.2.1
  have e5 : rg r2 a 5 = n5 := by unfold rg; rw [h 5 (by decide)]; exact nn_I hb.2.2.2.2.2.1
  have e6 : rg r2 a 6 = n6 := by unfold rg; rw [h 6 (by decide)]; exact nn_I hb.2.2.2.2.2.2
  refine ⟨⟨e0, e1, e2, e3, e4, e5, e6⟩, fun j hj => ?_⟩
  rw [h j hj]
  exact v7_j (f := fun j => nI (rg r2 a j)) (by rw [e0]) (by rw [e1]) (by rw [e2]) (by rw [e3]) (by rw [e4]) (by rw [e5]) (by rw [e6]) j hj
theorem dv_le {ti t sp : Nat} (h : ti < sp) : (ti + t) / sp ≤ t := by
  have h1 : t ≤ sp * t := Nat.le_mul_of_pos_left t (by omega)
  have h2 : sp * (t + 1) = sp * t + sp := Nat.mul_succ sp t
  have := Nat.div_lt_of_lt_mul (show ti + t < sp * (t + 1) by omega)
  omega
theorem vr_spd {r : Row} {B i : Nat} {s w : Nat} (hv : Vr r B) (hB : B < 90000000) (hi : i < rc r) (hs : 1 ≤ s ∧ s ≤ 30) (hw : w ≤ 2) : Vr (spdR r i (nI s) (nI w)) B := by
  have h6 := hv.1.2
  obtain ⟨q1, q2, q3, q4, q5, q6, q7, q8, q9⟩ := hv.rg hi
  have hf : ∀ k, k < 33 + 7 * i ∨ 40 + 7 * i ≤ k → spdR r i (nI s) (nI w) k = r k := fun k hk => by
    unfold spdR
    rw [if_neg (by omega), if_neg (by omega), if_neg (by omega), if_neg (by omega)]
  have hW := rgW (r2 := spdR r i (nI s) (nI w)) (a := i) (n0 := rg r i 0) (n1 := rg r i 1) (n2 := s) (n3 := w) (n4 := rg r i 4) (n5 := 0) (n6 := 0) (by
    have hr : ∀ k, k ≠ 35 + 7 * i → k ≠ 36 + 7 * i → k ≠ 38 + 7 * i → k ≠ 39 + 7 * i → spdR r i (nI s) (nI w) k = r k := fun k h1 h2 h3 h4 => by unfold spdR; rw [if_neg h1, if_neg h2, if_neg h3, if_neg h4]
    intro j hj
    refine (v7_j (f := fun j => spdR r i (nI s) (nI w) (33 + 7 * i + j)) ?_ ?_ ?_ ?_ ?_ ?_ ?_ j hj).symm
    · exact ((hr _ (by omega) (by omega) (by omega) (by omega)).trans (q1 0 (by decide))).symm
    · exact ((hr _ (by omega) (by omega) (by omega) (by omega)).trans (q1 1 (by decide))).symm
    · exact (if_pos (by omega)).symm
    · exact ((if_neg (by omega)).trans (if_pos (by omega))).symm
    · exact ((hr _ (by omega) (by omega) (by omega) (by omega)).trans (q1 4 (by decide))).symm
    · exact ((if_neg (by omega)).trans ((if_neg (by omega)).trans (if_pos (by omega)))).symm
    · exact ((if_neg (by omega)).trans ((if_neg (by omega)).trans ((if_neg (by omega)).trans (if_pos (by omega))))).symm) (by omega)
  obtain ⟨⟨w0, w1, w2, w3, w4, w5, w6⟩, hw2⟩ := hW
  refine vr_rg1 hv (a := i) (Nat.le_refl _) (fun k hk => hf k (by omega)) (fun _ => ⟨hw2, w0, w1, by omega, by omega, by omega, by omega, by omega, by omega⟩) hi ?_
  rw [hf 157 (by omega)]
  exact hv.2.2.2.2.2.2.2.2
theorem vr_runz {r : Row} {B i z : Nat} (hv : Vr r B) (hB : B < 90000000) (hi : i < rc r) (hz : z ≤ 1) : Vr (upd r (37 + 7 * i) (nI z)) B := by
  have h6 := hv.1.2
  obtain ⟨q1, q2, q3, q4, q5, q6, q7, q8, q9⟩ := hv.rg hi
  have hf : ∀ k, k ≠ 37 + 7 * i → upd r (37 + 7 * i) (nI z) k = r k := fun k hk => pk_un hk
  obtain ⟨⟨w0, w1, w2, w3, w4, w5, w6⟩, hw2⟩ := rgW (r2 := upd r (37 + 7 * i) (nI z)) (a := i) (n0 := rg r i 0) (n1 := rg r i 1) (n2 := rg r i 2) (n3 := rg r i 3) (n4 := z) (n5 := rg r i 5) (n6 := rg r i 6) (by
    intro j hj
    refine (v7_j (f := fun j => upd r (37 + 7 * i) (nI z) (33 + 7 * i + j)) ?_ ?_ ?_ ?_ ?_ ?_ ?_ j hj).symm
    · exact ((hf _ (by omega)).trans (q1 0 (by decide))).symm
    · exact ((hf _ (by omega)).trans (q1 1 (by decide))).symm
    · exact ((hf _ (by omega)).trans (q1 2 (by decide))).symm
    · exact ((hf _ (by omega)).trans (q1 3 (by decide))).symm
    · show nI z = upd r (37 + 7 * i) (nI z) (33 + 7 * i + 4)
      rw [show 33 + 7 * i + 4 = 37 + 7 * i by omega, pk_us]
    · exact ((hf _ (by omega)).trans (q1 5 (by decide))).symm
    · exact ((hf _ (by omega)).trans (q1 6 (by decide))).symm) (by omega)
  refine vr_rg1 hv (a := i) (Nat.le_refl _) (fun k hk => hf k (by omega)) (fun _ => ⟨hw2, w0, w1, by omega, by omega, by omega, by omega, by omega, by omega⟩) hi ?_
  rw [hf 157 (by omega)]
  exact hv.2.2.2.2.2.2.2.2
theorem flpR_upd (r : Row) (i : Nat) : flpR r i = upd r (37 + 7 * i) (nI (1 - rg r i 4)) := rfl
theorem vr_flp {r : Row} {B i : Nat} (hv : Vr r B) (hB : B < 90000000) (hi : i < rc r) : Vr (flpR r i) B := by
  rw [flpR_upd]
  exact vr_runz hv hB hi (by omega)
theorem vr_stp {r : Row} {B i : Nat} (hv : Vr r B) (hB : B < 90000000) (hi : i < rc r) : Vr (stpR r i) (B + 1) := by
  have h6 := hv.1.2
  have h157 := hv.2.2.2.2.2.2.2.2
  obtain ⟨q1, q2, q3, q4, q5, q6, q7, q8, q9⟩ := hv.rg hi
  have hf : ∀ k, k ≠ 39 + 7 * i → k ≠ 157 → stpR r i k = r k := fun k hk h2 => by unfold stpR; rw [if_neg hk, if_neg h2]
  obtain ⟨⟨w0, w1, w2, w3, w4, w5, w6⟩, hw2⟩ := rgW (r2 := stpR r i) (a := i) (n0 := rg r i 0) (n1 := rg r i 1) (n2 := rg r i 2) (n3 := rg r i 3) (n4 := rg r i 4) (n5 := rg r i 5) (n6 := rg r i 6 + 1) (by
    intro j hj
    refine (v7_j (f := fun j => stpR r i (33 + 7 * i + j)) ?_ ?_ ?_ ?_ ?_ ?_ ?_ j hj).symm
    · exact ((hf _ (by omega) (by omega)).trans (q1 0 (by decide))).symm
    · exact ((hf _ (by omega) (by omega)).trans (q1 1 (by decide))).symm
    · exact ((hf _ (by omega) (by omega)).trans (q1 2 (by decide))).symm
    · exact ((hf _ (by omega) (by omega)).trans (q1 3 (by decide))).symm
    · exact ((hf _ (by omega) (by omega)).trans (q1 4 (by decide))).symm
    · exact ((hf _ (by omega) (by omega)).trans (q1 5 (by decide))).symm
    · exact (if_pos (by omega)).symm) (by omega)
  have e7 : stpR r i 157 = nI (nn (r 157) + 1) := by unfold stpR; rw [if_neg (by omega), if_pos rfl]
  refine vr_rg1 hv (a := i) (by omega) (fun k hk => hf k (by omega) (by omega)) (fun _ => ⟨hw2, w0, w1, by omega, by omega, by omega, by omega, by omega, by omega⟩) hi ?_
  rw [e7, nn_I (by omega)]
  exact ⟨rfl, by omega⟩
theorem vr_tk {r : Row} {B t : Nat} (hv : Vr r B) (hB : B < 90000000) (ht : t ≤ 5000) : Vr (tkR r t) (B + t) := by
  have hrc := hv.1.2
  have hgc := hv.2.1.2
  have h156 := hv.2.2.2.2.2.2.2.1
  have h157 := hv.2.2.2.2.2.2.2.2
  have hm : made r t ≤ 6 * t := by
    have h1 : made r t ≤ rc r * t := sm_le (fun i hi => by
      obtain ⟨q1, q2, q3, q4, q5, q6, q7, q8, q9⟩ := hv.rg hi
      have := dv_le (t := t) q8
      split <;> omega)
    have h2 := Nat.mul_le_mul_right t hv.1.2
    omega
  refine ⟨by rw [tkR_rc, tkR_lo (by decide)]; exact hv.1, by rw [tkR_gc hrc, tkR_75 hrc]; exact hv.2.1, fun i hi => ?_, fun i j hij hj => ?_, fun i hi => ?_, fun i j hij hj => ?_, fun p hp => ?_, ?_, ?_⟩
  · rw [tkR_rc] at hi
    obtain ⟨q1, q2, q3, q4, q5, q6, q7, q8, q9⟩ := hv.rg hi
    have hd := dv_le (t := t) q8
    have hml := Nat.mod_lt (rg r i 5 + t) (show 0 < rg r i 2 by omega)
    have h5 : (if rg r i 4 = 1 then (rg r i 5 + t) % rg r i 2 else rg r i 5) < rg r i 2 := by split <;> omega
    have h6 : mdN (rg r i 2) (rg r i 4) (rg r i 5) (rg r i 6) t ≤ B + t := by unfold mdN; split <;> omega
    obtain ⟨⟨w0, w1, w2, w3, w4, w5, w6⟩, hw2⟩ := rgW (r2 := tkR r t) (a := i) (n0 := rg r i 0) (n1 := rg r i 1) (n2 := rg r i 2) (n3 := rg r i 3) (n4 := rg r i 4) (n5 := if rg r i 4 = 1 then (rg r i 5 + t) % rg r i 2 else rg r i 5) (n6 := mdN (rg r i 2) (rg r i 4) (rg r i 5) (rg r i 6) t) (by
      intro j hj
      rw [tkR_V hi hj]
      refine v7_j (f := v7 (nI (rg r i 0)) (nI (rg r i 1)) (nI (rg r i 2)) (nI (rg r i 3)) (nI (rg r i 4)) (nI (if rg r i 4 = 1 then (rg r i 5 + t) % rg r i 2 else rg r i 5)) (nI (mdN (rg r i 2) (rg r i 4) (rg r i 5) (rg r i 6) t))) (q1 0 (by decide)) (q1 1 (by decide)) (q1 2 (by decide)) (q1 3 (by decide)) (q1 4 (by decide)) rfl rfl j hj) (by omega)
    exact ⟨hw2, by omega, by omega, by omega, by omega, by omega, by omega, by omega, by omega⟩
  · rw [tkR_rc] at hj
    have e : ∀ k, k < rc r → rg (tkR r t) k 0 = rg r k 0 ∧ rg (tkR r t) k 1 = rg r k 1 := fun k hk => ⟨rg_of ((tkR_V hk (by decide)).trans rfl), rg_of ((tkR_V hk (by decide)).trans rfl)⟩
    rw [(e i (by omega)).1, (e i (by omega)).2, (e j hj).1, (e j hj).2]
    exact hv.2.2.2.1 i j hij hj
  · rw [tkR_gc hrc] at hi
    obtain ⟨⟨q1, q2, q3⟩, q4, q5, q6, q7⟩ := hv.gl hi
    have hml := Nat.mod_lt (gl r i 3 + t) (show 0 < 2 * gl r i 2 by omega)
    have e0 : tkR r t (76 + 4 * i + 0) = r (76 + 4 * i + 0) := (tkR_U hrc hi (by decide)).trans rfl
    have e2 : tkR r t (76 + 4 * i + 2) = r (76 + 4 * i + 2) := (tkR_U hrc hi (by decide)).trans rfl
    have e3 : tkR r t (76 + 4 * i + 3) = nI ((gl r i 3 + t) % (2 * gl r i 2)) := (tkR_U hrc hi (by decide)).trans rfl
    have f3 : gl (tkR r t) i 3 = (gl r i 3 + t) % (2 * gl r i 2) := by
      show nn (tkR r t (76 + 4 * i + 3)) = _
      rw [e3]
      exact nn_I (by omega)
    refine ⟨⟨?_, ?_, ?_⟩, ?_, ?_, ?_, ?_⟩
    · rw [gl_of e0]
      exact e0.trans q1
    · rw [gl_of e2]
      exact e2.trans q2
    · rw [f3]
      exact e3
    · rw [gl_of e0]
      exact q4
    · rw [gl_of e2]
      exact q5
    · rw [gl_of e2]
      exact q6
    · rw [f3, gl_of e2]
      exact hml
  · rw [tkR_gc hrc] at hj
    have e : ∀ k, k < gc r → gl (tkR r t) k 0 = gl r k 0 := fun k hk => gl_of ((tkR_U hrc hk (by decide)).trans rfl)
    rw [e i (by omega), e j hj]
    exact hv.2.2.2.2.2.1 i j hij hj
  · rw [px_of (tkR_px hrc hgc hp), tkR_px hrc hgc hp]
    exact hv.2.2.2.2.2.2.1 p hp
  · rw [tkR_156 hrc hgc, nn_I (by omega)]
    exact ⟨rfl, by omega⟩
  · rw [tkR_157 hrc hgc, nn_I (by omega)]
    exact ⟨rfl, by omega⟩
theorem vr_beg {r : Row} {B : Nat} (hv : Vr r B) (hB : B < 90000000) : Vr (begR r) B := by
  have hrc := hv.1.2
  have hgc := hv.2.1.2
  have hf : ∀ k, ¬ (33 ≤ k ∧ k < 33 + 7 * rc r ∧ 5 ≤ (k - 33) % 7) → ¬ (76 ≤ k ∧ k < 76 + 4 * gc r ∧ (k - 76) % 4 = 3) → begR r k = r k := fun k h1 h2 => by unfold begR; rw [if_neg h1, if_neg h2]
  have er : rc (begR r) = rc r := rc_of (hf _ (by omega) (by omega))
  have eg : gc (begR r) = gc r := gc_of (hf _ (by omega) (by omega))
  have z : ∀ k, (33 ≤ k ∧ k < 33 + 7 * rc r ∧ 5 ≤ (k - 33) % 7) → begR r k = nI 0 := fun k h => if_pos h
  have zg : ∀ k, ¬ (33 ≤ k ∧ k < 33 + 7 * rc r ∧ 5 ≤ (k - 33) % 7) → (76 ≤ k ∧ k < 76 + 4 * gc r ∧ (k - 76) % 4 = 3) → begR r k = nI 0 := fun k h1 h => (if_neg h1).trans (if_pos h)
  refine ⟨by rw [er, hf _ (by omega) (by omega)]; exact hv.1, by rw [eg, hf _ (by omega) (by omega)]; exact hv.2.1, fun i hi => ?_, fun i j hij hj => ?_, fun i hi => ?_, fun i j hij hj => ?_, fun p hp => ?_, ?_, ?_⟩
  · rw [er] at hi
    obtain ⟨q1, q2, q3, q4, q5, q6, q7, q8, q9⟩ := hv.rg hi
    obtain ⟨⟨w0, w1, w2, w3, w4, w5, w6⟩, hw2⟩ := rgW (r2 := begR r) (a := i) (n0 := rg r i 0) (n1 := rg r i 1) (n2 := rg r i 2) (n3 := rg r i 3) (n4 := rg r i 4) (n5 := 0) (n6 := 0) (by
      intro j hj
      refine (v7_j (f := fun j => begR r (33 + 7 * i + j)) ?_ ?_ ?_ ?_ ?_ ?_ ?_ j hj).symm
      · exact ((hf _ (by omega) (by omega)).trans (q1 0 (by decide))).symm
      · exact ((hf _ (by omega) (by omega)).trans (q1 1 (by decide))).symm
      · exact ((hf _ (by omega) (by omega)).trans (q1 2 (by decide))).symm
      · exact ((hf _ (by omega) (by omega)).trans (q1 3 (by decide))).symm
      · exact ((hf _ (by omega) (by omega)).trans (q1 4 (by decide))).symm
      · exact (z _ (by omega)).symm
      · exact (z _ (by omega)).symm) (by omega)
    exact ⟨hw2, by omega, by omega, by omega, by omega, by omega, by omega, by omega, by omega⟩
  · rw [er] at hj
    have e : ∀ k, k < rc r → rg (begR r) k 0 = rg r k 0 ∧ rg (begR r) k 1 = rg r k 1 := fun k hk => ⟨rg_of (hf _ (by omega) (by omega)), rg_of (hf _ (by omega) (by omega))⟩
    rw [(e i (by omega)).1, (e i (by omega)).2, (e j hj).1, (e j hj).2]
    exact hv.2.2.2.1 i j hij hj
  · rw [eg] at hi
    obtain ⟨⟨q1, q2, q3⟩, q4, q5, q6, q7⟩ := hv.gl hi
    have e0 : begR r (76 + 4 * i + 0) = r (76 + 4 * i + 0) := hf _ (by omega) (by omega)
    have e2 : begR r (76 + 4 * i + 2) = r (76 + 4 * i + 2) := hf _ (by omega) (by omega)
    have e3 : begR r (76 + 4 * i + 3) = nI 0 := zg _ (by omega) (by omega)
    have f3 : gl (begR r) i 3 = 0 := by
      show nn (begR r (76 + 4 * i + 3)) = _
      rw [e3]
      exact nn_I (by omega)
    refine ⟨⟨?_, ?_, ?_⟩, ?_, ?_, ?_, ?_⟩
    · rw [gl_of e0]
      exact e0.trans q1
    · rw [gl_of e2]
      exact e2.trans q2
    · rw [f3]
      exact e3
    · rw [gl_of e0]
      exact q4
    · rw [gl_of e2]
      exact q5
    · rw [gl_of e2]
      exact q6
    · rw [f3, gl_of e2]
      omega
  · rw [eg] at hj
    have e : ∀ k, k < gc r → gl (begR r) k 0 = gl r k 0 := fun k hk => gl_of (hf _ (by omega) (by omega))
    rw [e i (by omega), e j hj]
    exact hv.2.2.2.2.2.1 i j hij hj
  · rw [px_of (hf _ (by omega) (by omega)), hf _ (by omega) (by omega)]
    exact hv.2.2.2.2.2.2.1 p hp
  · rw [hf _ (by omega) (by omega)]
    exact hv.2.2.2.2.2.2.2.1
  · rw [hf _ (by omega) (by omega)]
    exact hv.2.2.2.2.2.2.2.2
