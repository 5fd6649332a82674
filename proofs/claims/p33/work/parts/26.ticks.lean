/-! ===== ticks, one after the other, and at once ===== -/
theorem dm1 {ti sp : Nat} (h : ti < sp) : (ti + 1) % sp = (if ti + 1 = sp then 0 else ti + 1) ∧ (ti + 1) / sp = if ti + 1 = sp then 1 else 0 := by
  by_cases e : ti + 1 = sp
  · rw [if_pos e, if_pos e, e]
    exact ⟨Nat.mod_self sp, Nat.div_self (by omega)⟩
  · rw [if_neg e, if_neg e]
    exact ⟨Nat.mod_eq_of_lt (by omega), Nat.div_eq_of_lt (by omega)⟩
theorem dv_add {x b sp : Nat} (h : 0 < sp) : (x + b) / sp = x / sp + (x % sp + b) / sp := by
  have h1 := Nat.div_add_mod x sp
  conv => lhs; rw [← h1]
  rw [Nat.add_assoc, Nat.mul_add_div h]
theorem md_add {x b sp : Nat} : (x % sp + b) % sp = (x + b) % sp := Nat.mod_add_mod _ _ _
theorem sm_add : ∀ {n : Nat} {f h : Nat → Nat}, sm n (fun i => f i + h i) = sm n f + sm n h
  | 0, _, _ => rfl
  | n + 1, f, h => by rw [sm, sm, sm, sm_add]; omega
/-- the row while a tick goes on: i ranges have ticked -/
def mdT (r : Row) (i : Nat) : Nat := if rg r i 4 = 1 then (rg r i 5 + 1) / rg r i 2 else 0
def tkA (r : Row) (i : Nat) : Row := fun k => if 33 ≤ k ∧ k < 33 + 7 * i then tkV r 1 ((k - 33) / 7) ((k - 33) % 7) else if k = 157 then nI (nn (r 157) + sm i (mdT r)) else r k
def tkB (r : Row) (i : Nat) : Row := fun k => if 76 ≤ k ∧ k < 76 + 4 * i then tkU r 1 ((k - 76) / 4) ((k - 76) % 4) else tkA r (rc r) k
theorem tkA_0 {r : Row} {B : Nat} (hv : Vr r B) (k : Nat) : tkA r 0 k = r k := by
  unfold tkA
  rw [if_neg (by omega)]
  by_cases e : k = 157
  · rw [if_pos e, e]
    exact hv.2.2.2.2.2.2.2.2.1.symm
  · rw [if_neg e]
theorem tkA_o {r : Row} {i k : Nat} (h : k < 33 ∨ 33 + 7 * i ≤ k) (h2 : k ≠ 157) : tkA r i k = r k := by
  unfold tkA
  rw [if_neg (by omega), if_neg h2]
theorem tkA_157 {r : Row} {i : Nat} (h : i ≤ 6) : tkA r i 157 = nI (nn (r 157) + sm i (mdT r)) := by
  unfold tkA
  rw [if_neg (by omega), if_pos rfl]
/-- one range more -/
theorem tkA_s {r : Row} {B i : Nat} (hv : Vr r B) (hi : i < rc r) {row row2 : Nat → Int32} (h : ∀ k, k < 158 → row k = tkA r i k)
    (h2 : ∀ k, row2 k = if rg r i 4 = 1 then (if rg r i 5 + 1 = rg r i 2 then (if k = 157 then nI (nn (r 157) + sm i (mdT r) + 1) else if k = 33 + 7 * i + 6 then nI (rg r i 6 + 1) else if k = 33 + 7 * i + 5 then nI 0 else row k) else (if k = 33 + 7 * i + 5 then nI (rg r i 5 + 1) else row k)) else row k) :
    ∀ k, k < 158 → row2 k = tkA r (i + 1) k := by
  have h6 := hv.1.2
  obtain ⟨q1, q2, q3, q4, q5, q6, q7, q8, q9⟩ := hv.rg hi
  obtain ⟨d1, d2⟩ := dm1 q8
  have hsm : sm (i + 1) (mdT r) = sm i (mdT r) + mdT r i := rfl
  intro k hk
  rw [h2 k]
  have e0 := h k hk
  by_cases c1 : k = 157
  · subst c1
    rw [tkA_157 (by omega), hsm]
    rw [tkA_157 (by omega)] at e0
    unfold mdT
    rw [d2]
    by_cases r1 : rg r i 4 = 1
    · rw [if_pos r1, if_pos r1]
      by_cases r2 : rg r i 5 + 1 = rg r i 2
      · rw [if_pos r2, if_pos r2, if_pos rfl]; rfl
      · rw [if_neg r2, if_neg r2, if_neg (by omega), e0]; rfl
    · rw [if_neg r1, if_neg r1, e0]; rfl
  by_cases c2 : 33 + 7 * i ≤ k ∧ k < 40 + 7 * i
  · obtain ⟨j, rfl⟩ : ∃ j, k = 33 + 7 * i + j := ⟨k - (33 + 7 * i), by omega⟩
    have eR : tkA r (i + 1) (33 + 7 * i + j) = tkV r 1 i j := by
      unfold tkA
      rw [if_pos (by omega), show (33 + 7 * i + j - 33) / 7 = i by omega, show (33 + 7 * i + j - 33) % 7 = j by omega]
    have eO : row (33 + 7 * i + j) = r (33 + 7 * i + j) := e0.trans (tkA_o (by omega) c1)
    rw [eR]
    have hj : j < 7 := by omega
    have eS : ∀ x, (j ≠ 5 ∧ j ≠ 6 → x = r (33 + 7 * i + j)) → (j = 5 → x = nI (if rg r i 4 = 1 then (rg r i 5 + 1) % rg r i 2 else rg r i 5)) → (j = 6 → x = nI (mdN (rg r i 2) (rg r i 4) (rg r i 5) (rg r i 6) 1)) → x = tkV r 1 i j := by
      intro x x1 x2 x3
      unfold tkV
      rcases (show j = 0 ∨ j = 1 ∨ j = 2 ∨ j = 3 ∨ j = 4 ∨ j = 5 ∨ j = 6 by omega) with rfl | rfl | rfl | rfl | rfl | rfl | rfl
      · exact x1 (by omega)
      · exact x1 (by omega)
      · exact x1 (by omega)
      · exact x1 (by omega)
      · exact x1 (by omega)
      · exact x2 rfl
      · exact x3 rfl
    apply eS
    · intro hj2
      by_cases r1 : rg r i 4 = 1
      · rw [if_pos r1]
        by_cases r2 : rg r i 5 + 1 = rg r i 2
        · rw [if_pos r2, if_neg c1, if_neg (by omega), if_neg (by omega)]; exact eO
        · rw [if_neg r2, if_neg (by omega)]; exact eO
      · rw [if_neg r1]; exact eO
    · intro hj2
      subst hj2
      by_cases r1 : rg r i 4 = 1
      · rw [if_pos r1, if_pos r1, d1]
        by_cases r2 : rg r i 5 + 1 = rg r i 2
        · rw [if_pos r2, if_pos r2, if_neg c1, if_neg (by omega), if_pos rfl]
        · rw [if_neg r2, if_neg r2, if_pos rfl]
      · rw [if_neg r1, if_neg r1]; exact eO.trans (q1 5 (by decide))
    · intro hj2
      subst hj2
      unfold mdN
      rw [d2]
      by_cases r1 : rg r i 4 = 1
      · rw [if_pos r1, if_pos r1]
        by_cases r2 : rg r i 5 + 1 = rg r i 2
        · rw [if_pos r2, if_pos r2, if_neg c1, if_pos rfl]
        · rw [if_neg r2, if_neg r2, if_neg (by omega)]; exact eO.trans (q1 6 (by decide))
      · rw [if_neg r1, if_neg r1]; exact eO.trans (q1 6 (by decide))
  · have eR : tkA r (i + 1) k = tkA r i k := by
      unfold tkA
      by_cases z : 33 ≤ k ∧ k < 33 + 7 * i
      · rw [if_pos z, if_pos (by omega)]
      · rw [if_neg z, if_neg (by omega), if_neg c1, if_neg c1]
    rw [eR, ← e0]
    by_cases r1 : rg r i 4 = 1
    · rw [if_pos r1]
      by_cases r2 : rg r i 5 + 1 = rg r i 2
      · rw [if_pos r2, if_neg c1, if_neg (by omega), if_neg (by omega)]
      · rw [if_neg r2, if_neg (by omega)]
    · rw [if_neg r1]
theorem tkB_0 (r : Row) (k : Nat) : tkB r 0 k = tkA r (rc r) k := if_neg (by omega)
theorem tkB_o {r : Row} {i k : Nat} (h : k < 76 ∨ 76 + 4 * i ≤ k) : tkB r i k = tkA r (rc r) k := if_neg (by omega)
theorem tkB_s {r : Row} {B i : Nat} (hv : Vr r B) (hi : i < gc r) {row : Nat → Int32} (h : ∀ k, k < 158 → row k = tkB r i k) :
    ∀ k, k < 158 → upd row (76 + 4 * i + 3) (nI (if gl r i 3 + 1 = 2 * gl r i 2 then 0 else gl r i 3 + 1)) k = tkB r (i + 1) k := by
  have h6 := hv.1.2
  have h4 := hv.2.1.2
  obtain ⟨⟨q1, q2, q3⟩, q4, q5, q6, q7⟩ := hv.gl hi
  obtain ⟨d1, -⟩ := dm1 q7
  intro k hk
  by_cases c2 : 76 + 4 * i ≤ k ∧ k < 80 + 4 * i
  · obtain ⟨j, rfl⟩ : ∃ j, k = 76 + 4 * i + j := ⟨k - (76 + 4 * i), by omega⟩
    have eR : tkB r (i + 1) (76 + 4 * i + j) = tkU r 1 i j := by
      unfold tkB
      rw [if_pos (by omega), show (76 + 4 * i + j - 76) / 4 = i by omega, show (76 + 4 * i + j - 76) % 4 = j by omega]
    rw [eR]
    by_cases e : j = 3
    · subst e
      rw [pk_us]
      unfold tkU
      show _ = nI ((gl r i 3 + 1) % (2 * gl r i 2))
      rw [d1]
    · rw [pk_un (by omega), h _ hk, tkB_o (by omega), tkA_o (by omega) (by omega)]
      unfold tkU
      rcases (show j = 0 ∨ j = 1 ∨ j = 2 by omega) with rfl | rfl | rfl <;> rfl
  · rw [pk_un (by omega), h k hk]
    unfold tkB
    by_cases z : 76 ≤ k ∧ k < 76 + 4 * i
    · rw [if_pos z, if_pos (by omega)]
    · rw [if_neg z, if_neg (by omega)]
theorem tkB_f {r : Row} {B : Nat} (hv : Vr r B) {row : Nat → Int32} (h : ∀ k, k < 158 → row k = tkB r (gc r) k) : ∀ k, k < 158 → upd row 156 (nI (nn (r 156) + 1)) k = tkR r 1 k := by
  have h6 := hv.1.2
  have h4 := hv.2.1.2
  intro k hk
  unfold tkR
  by_cases c0 : k = 156
  · rw [c0, pk_us, if_neg (by omega), if_neg (by omega), if_pos rfl]
  · rw [pk_un c0, h k hk]
    unfold tkB
    by_cases c1 : 33 ≤ k ∧ k < 33 + 7 * rc r
    · rw [if_neg (by omega), if_pos c1]
      unfold tkA
      rw [if_pos c1]
    · rw [if_neg c1]
      by_cases c2 : 76 ≤ k ∧ k < 76 + 4 * gc r
      · rw [if_pos c2, if_pos c2]
      · rw [if_neg c2, if_neg c2, if_neg c0]
        unfold tkA
        rw [if_neg c1]
        rfl
theorem fst_cg {n : Nat} {P Q : Nat → Bool} (h : ∀ k, k < n → P k = Q k) : fst n P = fst n Q := by
  cases e : fst n P with
  | none => exact (fst_none (fun k hk => (h k hk).symm.trans (fst_invn e k hk))).symm
  | some i =>
    obtain ⟨h1, h2, h3⟩ := fst_inv e
    exact (fst_some h1 ((h i h1).symm.trans h2) (fun k hk => (h k (by omega)).symm.trans (h3 k hk))).symm
section TKA
variable {r : Row} {B a b : Nat}
theorem tk_rg (hv : Vr r B) (hB : B < 90000000) (ha : a ≤ 5000) {i : Nat} (hi : i < rc r) : rg (tkR r a) i 0 = rg r i 0 ∧ rg (tkR r a) i 1 = rg r i 1 ∧ rg (tkR r a) i 2 = rg r i 2 ∧ rg (tkR r a) i 3 = rg r i 3 ∧ rg (tkR r a) i 4 = rg r i 4 ∧
    rg (tkR r a) i 5 = (if rg r i 4 = 1 then (rg r i 5 + a) % rg r i 2 else rg r i 5) ∧ rg (tkR r a) i 6 = mdN (rg r i 2) (rg r i 4) (rg r i 5) (rg r i 6) a := by
  obtain ⟨q1, q2, q3, q4, q5, q6, q7, q8, q9⟩ := hv.rg hi
  have hd := dv_le (t := a) q8
  have hml := Nat.mod_lt (rg r i 5 + a) (show 0 < rg r i 2 by omega)
  have hmd : mdN (rg r i 2) (rg r i 4) (rg r i 5) (rg r i 6) a ≤ B + a := by unfold mdN; split <;> omega
  refine ⟨rg_of ((tkR_V hi (by decide)).trans rfl), rg_of ((tkR_V hi (by decide)).trans rfl), rg_of ((tkR_V hi (by decide)).trans rfl), rg_of ((tkR_V hi (by decide)).trans rfl), rg_of ((tkR_V hi (by decide)).trans rfl), ?_, ?_⟩
  · show nn (tkR r a (33 + 7 * i + 5)) = _
    rw [tkR_V hi (by decide)]
    exact nn_I (by split <;> omega)
  · show nn (tkR r a (33 + 7 * i + 6)) = _
    rw [tkR_V hi (by decide)]
    exact nn_I (by omega)
theorem tk_gl (hv : Vr r B) {i : Nat} (hi : i < gc r) : gl (tkR r a) i 0 = gl r i 0 ∧ gl (tkR r a) i 2 = gl r i 2 ∧ gl (tkR r a) i 3 = (gl r i 3 + a) % (2 * gl r i 2) ∧ tkR r a (76 + 4 * i + 1) = r (76 + 4 * i + 1) := by
  have hrc := hv.1.2
  obtain ⟨⟨q1, q2, q3⟩, q4, q5, q6, q7⟩ := hv.gl hi
  have hml := Nat.mod_lt (gl r i 3 + a) (show 0 < 2 * gl r i 2 by omega)
  refine ⟨gl_of ((tkR_U hrc hi (by decide)).trans rfl), gl_of ((tkR_U hrc hi (by decide)).trans rfl), ?_, (tkR_U hrc hi (by decide)).trans rfl⟩
  show nn (tkR r a (76 + 4 * i + 3)) = _
  rw [tkR_U hrc hi (by decide)]
  exact nn_I (by omega)
theorem made_add (hv : Vr r B) (hB : B < 90000000) (ha : a ≤ 5000) : made (tkR r a) b + made r a = made r (a + b) := by
  unfold made
  rw [tkR_rc, Nat.add_comm, ← sm_add]
  refine sm_cg (fun i hi => ?_)
  obtain ⟨q1, q2, q3, q4, q5, q6, q7, q8, q9⟩ := hv.rg hi
  obtain ⟨-, -, t2, -, t4, t5, -⟩ := tk_rg hv hB ha hi
  rw [t2, t4, t5]
  by_cases e : rg r i 4 = 1
  · rw [if_pos e, if_pos e, if_pos e, if_pos e, ← Nat.add_assoc, dv_add (x := rg r i 5 + a) (b := b) q4]
  · rw [if_neg e, if_neg e, if_neg e]
theorem tk_add (hv : Vr r B) (hB : B < 90000000) (ha : a ≤ 5000) (hb : b ≤ 5000) (k : Nat) : tkR (tkR r a) b k = tkR r (a + b) k := by
  have hrc := hv.1.2
  have hgc := hv.2.1.2
  have h156 := hv.2.2.2.2.2.2.2.1.2
  have h157 := hv.2.2.2.2.2.2.2.2.2
  have hml := made_le (t := a) hv
  have e0 : ∀ r2 : Row, ∀ t k, tkR r2 t k = if 33 ≤ k ∧ k < 33 + 7 * rc r2 then tkV r2 t ((k - 33) / 7) ((k - 33) % 7) else if 76 ≤ k ∧ k < 76 + 4 * gc r2 then tkU r2 t ((k - 76) / 4) ((k - 76) % 4) else if k = 156 then nI (nn (r2 156) + t) else if k = 157 then nI (nn (r2 157) + made r2 t) else r2 k := fun _ _ _ => rfl
  rw [e0 (tkR r a) b k, e0 r (a + b) k, tkR_rc, tkR_gc hrc]
  by_cases c1 : 33 ≤ k ∧ k < 33 + 7 * rc r
  · rw [if_pos c1, if_pos c1]
    have hi : (k - 33) / 7 < rc r := by omega
    generalize (k - 33) / 7 = i at hi
    have hj : (k - 33) % 7 < 7 := Nat.mod_lt _ (by decide)
    generalize (k - 33) % 7 = j at hj
    obtain ⟨q1, q2, q3, q4, q5, q6, q7, q8, q9⟩ := hv.rg hi
    obtain ⟨-, -, t2, -, t4, t5, t6⟩ := tk_rg hv hB ha hi
    have w : ∀ j, j < 7 → j ≠ 5 → j ≠ 6 → tkR r a (33 + 7 * i + j) = r (33 + 7 * i + j) := fun j hj h5 h6 => by
      rw [tkR_V hi hj]
      rcases (show j = 0 ∨ j = 1 ∨ j = 2 ∨ j = 3 ∨ j = 4 by omega) with rfl | rfl | rfl | rfl | rfl <;> rfl
    refine v7_j (f := tkV r (a + b) i) (w 0 (by decide) (by decide) (by decide)) (w 1 (by decide) (by decide) (by decide)) (w 2 (by decide) (by decide) (by decide)) (w 3 (by decide) (by decide) (by decide)) (w 4 (by decide) (by decide) (by decide)) ?_ ?_ j hj
    · show nI _ = nI _
      rw [t2, t4, t5]
      by_cases e : rg r i 4 = 1
      · rw [if_pos e, if_pos e, if_pos e, md_add, Nat.add_assoc]
      · rw [if_neg e, if_neg e, if_neg e]
    · show nI _ = nI _
      rw [t2, t4, t5, t6]
      unfold mdN
      by_cases e : rg r i 4 = 1
      · rw [if_pos e, if_pos e, if_pos e, if_pos e, ← Nat.add_assoc (rg r i 5), dv_add (x := rg r i 5 + a) q4, Nat.add_assoc]
      · rw [if_neg e, if_neg e, if_neg e]
  · rw [if_neg c1, if_neg c1]
    by_cases c2 : 76 ≤ k ∧ k < 76 + 4 * gc r
    · rw [if_pos c2, if_pos c2]
      have hi : (k - 76) / 4 < gc r := by omega
      generalize (k - 76) / 4 = i at hi
      have hj : (k - 76) % 4 < 4 := Nat.mod_lt _ (by decide)
      generalize (k - 76) % 4 = j at hj
      obtain ⟨-, t2, t3, -⟩ := tk_gl (a := a) hv hi
      have w : ∀ j, j < 3 → tkR r a (76 + 4 * i + j) = r (76 + 4 * i + j) := fun j hj => by
        rw [tkR_U hrc hi (by omega)]
        rcases (show j = 0 ∨ j = 1 ∨ j = 2 by omega) with rfl | rfl | rfl <;> rfl
      refine v4_j (f := tkU r (a + b) i) (w 0 (by decide)) (w 1 (by decide)) (w 2 (by decide)) ?_ j hj
      show nI _ = nI _
      rw [t2, t3, md_add, Nat.add_assoc]
    · rw [if_neg c2, if_neg c2]
      by_cases c3 : k = 156
      · rw [if_pos c3, if_pos c3, tkR_156 hrc hgc, nn_I (by omega), Nat.add_assoc]
      · rw [if_neg c3, if_neg c3]
        by_cases c4 : k = 157
        · rw [if_pos c4, if_pos c4, tkR_157 hrc hgc, nn_I (by omega), Nat.add_assoc, Nat.add_comm (made r a), made_add hv hB ha]
        · rw [if_neg c4, if_neg c4, e0 r a k, if_neg c1, if_neg c2, if_neg c3, if_neg c4]
theorem tk_0 (hv : Vr r B) (k : Nat) : tkR r 0 k = r k := by
  have hrc := hv.1.2
  have hgc := hv.2.1.2
  unfold tkR
  by_cases c1 : 33 ≤ k ∧ k < 33 + 7 * rc r
  · rw [if_pos c1]
    have hi : (k - 33) / 7 < rc r := by omega
    have ek : k = 33 + 7 * ((k - 33) / 7) + (k - 33) % 7 := by omega
    have hj : (k - 33) % 7 < 7 := Nat.mod_lt _ (by decide)
    generalize (k - 33) / 7 = i at hi ek
    generalize (k - 33) % 7 = j at hj ek
    obtain ⟨q1, q2, q3, q4, q5, q6, q7, q8, q9⟩ := hv.rg hi
    rw [ek]
    refine v7_j (f := fun j => r (33 + 7 * i + j)) rfl rfl rfl rfl rfl ?_ ?_ j hj
    · rw [q1 5 (by decide)]
      refine congrArg nI ?_
      rw [Nat.add_zero, Nat.mod_eq_of_lt q8]
      split <;> rfl
    · rw [q1 6 (by decide)]
      refine congrArg nI ?_
      unfold mdN
      rw [Nat.add_zero, Nat.div_eq_of_lt q8, Nat.add_zero]
      split <;> rfl
  · rw [if_neg c1]
    by_cases c2 : 76 ≤ k ∧ k < 76 + 4 * gc r
    · rw [if_pos c2]
      have hi : (k - 76) / 4 < gc r := by omega
      have ek : k = 76 + 4 * ((k - 76) / 4) + (k - 76) % 4 := by omega
      have hj : (k - 76) % 4 < 4 := Nat.mod_lt _ (by decide)
      generalize (k - 76) / 4 = i at hi ek
      generalize (k - 76) % 4 = j at hj ek
      obtain ⟨⟨q1, q2, q3⟩, q4, q5, q6, q7⟩ := hv.gl hi
      rw [ek]
      refine v4_j (f := fun j => r (76 + 4 * i + j)) rfl rfl rfl ?_ j hj
      rw [q3]
      refine congrArg nI ?_
      rw [Nat.add_zero, Nat.mod_eq_of_lt q7]
    · rw [if_neg c2]
      by_cases c3 : k = 156
      · rw [if_pos c3, Nat.add_zero, c3]
        exact hv.2.2.2.2.2.2.2.1.1.symm
      · rw [if_neg c3]
        by_cases c4 : k = 157
        · rw [if_pos c4, c4]
          have : made r 0 = 0 := by
            have h1 : made r 0 ≤ rc r * 0 := sm_le (fun i hi => by
              have q8 := (hv.rg hi).2.2.2.2.2.2.2.1
              split
              · rw [Nat.add_zero, Nat.div_eq_of_lt q8]; exact Nat.le_refl _
              · exact Nat.le_refl _)
            omega
          rw [this, Nat.add_zero]
          exact hv.2.2.2.2.2.2.2.2.1.symm
        · rw [if_neg c4]
/-- what is shown after so many ticks is what will be shown by then -/
theorem rAt_tk (hv : Vr r B) (hB : B < 90000000) (ha : a ≤ 5000) (p : Nat) : rAt (tkR r a) p = rAt r p := by
  unfold rAt
  rw [tkR_rc]
  refine fst_cg (fun i hi => ?_)
  obtain ⟨t0, t1, -⟩ := tk_rg hv hB ha hi
  rw [t0, t1]
theorem gAt_tk (hv : Vr r B) (p : Nat) : gAt (tkR r a) p = gAt r p := by
  unfold gAt
  rw [tkR_gc hv.1.2]
  refine fst_cg (fun i hi => ?_)
  rw [(tk_gl (a := a) hv hi).1]
theorem shd_tk (hv : Vr r B) (hB : B < 90000000) (ha : a ≤ 5000) {p : Nat} (hp : p < 32) : shd (tkR r a) p 0 = shd r p a := by
  have ht : tnd (tkR r a) p 0 = tnd r p a := by
    unfold tnd
    rw [rAt_tk hv hB ha p]
    cases hr : rAt r p with
    | none => exact tkR_lo (by omega)
    | some i =>
      obtain ⟨h1, h2, -⟩ := fst_inv hr
      have h3 := of_decide_eq_true h2
      obtain ⟨q1, q2, q3, q4, q5, q6, q7, q8, q9⟩ := hv.rg h1
      obtain ⟨t0, t1, t2, t3, t4, t5, t6⟩ := tk_rg hv hB ha h1
      have en : nP (tkR r a) i = nP r i := by unfold nP; rw [t0, t1]
      have et : tuN (tkR r a) i 0 = tuN r i a := by
        unfold tuN
        rw [en, t2, t3, t4, t5, t6]
        refine congrArg (tnN (nP r i) (rg r i 3)) ?_
        unfold mdN
        by_cases e : rg r i 4 = 1
        · have hml := Nat.mod_lt (rg r i 5 + a) q4
          simp only [if_pos e, Nat.add_zero, Nat.div_eq_of_lt hml]
        · simp only [if_neg e]
      show tkR r a (srN (rg (tkR r a) i 0) (nP (tkR r a) i) p (tuN (tkR r a) i 0)) = r (srN (rg r i 0) (nP r i) p (tuN r i a))
      rw [t0, en, et]
      have := srN_in (f := rg r i 0) (n := nP r i) (p := p) (tn := tuN r i a) (by unfold nP; omega)
      have hn : nP r i = rg r i 1 - rg r i 0 + 1 := rfl
      exact tkR_lo (by omega)
  unfold shd
  rw [ht, gAt_tk hv]
  cases hg : gAt r p with
  | none => rfl
  | some i =>
    obtain ⟨h1, -, -⟩ := fst_inv hg
    obtain ⟨⟨q1, q2, q3⟩, q4, q5, q6, q7⟩ := hv.gl h1
    obtain ⟨t0, t2, t3, t1⟩ := tk_gl (a := a) hv h1
    show cMix (tnd r p a) (tkR r a (76 + 4 * i + 1)) (nI (stN (gl (tkR r a) i 2) (gl (tkR r a) i 3) 0)) (nI (gl (tkR r a) i 2)) = cMix (tnd r p a) (r (76 + 4 * i + 1)) (nI (stN (gl r i 2) (gl r i 3) a)) (nI (gl r i 2))
    rw [t1, t2, t3]
    have : stN (gl r i 2) ((gl r i 3 + a) % (2 * gl r i 2)) 0 = stN (gl r i 2) (gl r i 3) a := by
      unfold stN
      rw [Nat.add_zero, Nat.mod_mod]
    rw [this]
end TKA
