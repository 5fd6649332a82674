/-! ===== the class as a whole: what it stands for ===== -/
/-- a slot may be forgotten -/
theorem y_fg {l : Launch} {E : gE} {X : gX} {post : Option Value → Mem → Prop} {pc : Nat} {lo lo' : List (Option Value)} {st : List Value} {g : Mem} (i : Nat) (h : lo.set i none = lo') (kk : Y l E X post pc lo' st g) : Y l E X post pc lo st g := by
  intro H locs ls hP hS hl
  refine kk H locs ls hP hS ⟨by rw [← h, List.length_set]; exact hl.1, hl.2.1, fun j v hj => ?_⟩
  rw [← h] at hj
  by_cases e : i = j
  · subst e
    by_cases q : i < lo.length
    · rw [List.getElem?_set_self q] at hj
      cases hj
    · rw [List.getElem?_eq_none (by rw [List.length_set]; omega)] at hj
      cases hj
  · rw [List.getElem?_set_ne e] at hj
    exact hl.2.2 j v hj
/-- what a run stands at: the row, the history (how many, the rows), the snapshot (is there one, the row), the text -/
def AS : Type := Row × Nat × Nat × (Nat → Row) × Row × Nat × (Nat → Nat)
def AS.mk (r : Row) (c kp : Nat) (hr : Nat → Row) (sn : Row) (ln : Nat) (tx : Nat → Nat) : AS := (r, c, kp, hr, sn, ln, tx)
def AS.r (S : AS) : Row := S.1
def AS.c (S : AS) : Nat := S.2.1
def AS.kp (S : AS) : Nat := S.2.2.1
def AS.hr (S : AS) : Nat → Row := S.2.2.2.1
def AS.sn (S : AS) : Row := S.2.2.2.2.1
def AS.ln (S : AS) : Nat := S.2.2.2.2.2.1
def AS.tx (S : AS) : Nat → Nat := S.2.2.2.2.2.2
def AS.rec (S : AS) : AS := .mk S.r (recC S.c) S.kp (recH S.c S.hr S.r) S.sn S.ln S.tx
def AS.row (S : AS) (r : Row) : AS := .mk r S.c S.kp S.hr S.sn S.ln S.tx
/-- what the document allows -/
def OK (S : AS) (B : Nat) : Prop := Vr S.r B ∧ S.c ≤ 4 ∧ S.kp ≤ 1 ∧ (∀ i, i < S.c → Vr (S.hr i) B) ∧ (S.kp = 1 → Vr S.sn B) ∧ S.ln ≤ 60 ∧ ∀ k, k < S.ln → S.tx k < 65536
/-- the program's cells -/
def PX (E : gE) (g : Mem) (ln : Nat) (tx : Nat → Nat) (f : Nat → Int32) (tk it : Int32) (st ti : Nat → Int32) : Prop :=
  100 ≤ eK E ∧ ln ≤ 60 ∧ (∀ k, k < ln → tx k < 65536) ∧ (∀ k, k < ln → f k = nI (tx k)) ∧ g 93 = oB 2 [rf E 94, rf E 95, rf E 96, .int (nI ln), .int tk, .int it] ∧ g 94 = aI E 1 60 f ∧ g 95 = aI E 0 60 st ∧ g 96 = aI E 0 60 ti
def PA (E : gE) (g : Mem) (ln : Nat) (tx : Nat → Nat) : Prop := ∃ (f : Nat → Int32) (tk it : Int32) (st ti : Nat → Int32), PX E g ln tx f tk it st ti
/-- outside the program's cells nothing has changed -/
def Fp (g g2 : Mem) : Prop := ∀ k, k < 93 ∨ 97 ≤ k → g2 k = g k
/-- the class stands for S; its scratch rows hold sh, mk, wa -/
def CQ (E : gE) (g : Mem) (S : AS) (sh mk wa : Nat → Int32) : Prop :=
  100 ≤ eK E ∧ g 0 = oB 5 [rf E 1, rf E 16, rf E 93, rf E 97, rf E 98, rf E 99] ∧ StA E g 1 S.r ∧ HA E g S.c S.kp S.hr S.sn ∧ PA E g S.ln S.tx ∧ g 97 = aI E 0 32 sh ∧ g 98 = aI E 2 32 mk ∧ g 99 = aI E 0 64 wa
def CP (E : gE) (g : Mem) (S : AS) : Prop := ∃ sh mk wa, CQ E g S sh mk wa
theorem PX.keep {E : gE} {g g2 : Mem} {ln : Nat} {tx : Nat → Nat} {f : Nat → Int32} {tk it : Int32} {st ti : Nat → Int32} (h : PX E g ln tx f tk it st ti) (e : ∀ k, 93 ≤ k → k < 97 → g2 k = g k) : PX E g2 ln tx f tk it st ti := by
  obtain ⟨h0, h1, h2, h3, h4, h5, h6, h7⟩ := h
  exact ⟨h0, h1, h2, h3, (e _ (by decide) (by decide)).trans h4, (e _ (by decide) (by decide)).trans h5, (e _ (by decide) (by decide)).trans h6, (e _ (by decide) (by decide)).trans h7⟩
theorem PA.keep {E : gE} {g g2 : Mem} {ln : Nat} {tx : Nat → Nat} (h : PA E g ln tx) (e : ∀ k, 93 ≤ k → k < 97 → g2 k = g k) : PA E g2 ln tx := by
  obtain ⟨f, tk, it, st, ti, h⟩ := h
  exact ⟨f, tk, it, st, ti, h.keep e⟩
theorem HA.keep {E : gE} {g g2 : Mem} {c kp : Nat} {hr : Nat → Row} {sn : Row} (h : HA E g c kp hr sn) (e : ∀ k, 16 ≤ k → k < 93 → g2 k = g k) : HA E g2 c kp hr sn := by
  obtain ⟨h0, h1, h2, h3, ⟨π, hπ, h17, hs, hh⟩, hsn0, hsn⟩ := h
  refine ⟨h0, h1, h2, (e _ (by decide) (by decide)).trans h3, ⟨π, hπ, (e _ (by decide) (by decide)).trans h17, fun i hi => ?_, fun i hi => ?_⟩, ?_, fun q => ?_⟩
  · obtain ⟨r, hr⟩ := hs i hi
    have := hπ.1 i hi
    exact ⟨r, hr.keep (fun k _ _ => e k (by omega) (by omega))⟩
  · have := hπ.1 i (by omega)
    exact (hh i hi).keep (fun k _ _ => e k (by omega) (by omega))
  · obtain ⟨r, hr⟩ := hsn0
    exact ⟨r, hr.keep (fun k _ _ => e k (by omega) (by omega))⟩
  · exact (hsn q).keep (fun k _ _ => e k (by omega) (by omega))
section CQs
variable {E : gE} {g g2 : Mem} {S : AS} {sh mk wa : Nat → Int32}
theorem CQ.cp (h : CQ E g S sh mk wa) : CP E g S := ⟨sh, mk, wa, h⟩
theorem CQ.k (h : CQ E g S sh mk wa) : 100 ≤ eK E := h.1
theorem CQ.a0 (h : CQ E g S sh mk wa) : g 0 = oB 5 [rf E 1, rf E 16, rf E 93, rf E 97, rf E 98, rf E 99] := h.2.1
theorem CQ.sta (h : CQ E g S sh mk wa) : StA E g 1 S.r := h.2.2.1
theorem CQ.ha (h : CQ E g S sh mk wa) : HA E g S.c S.kp S.hr S.sn := h.2.2.2.1
theorem CQ.pa (h : CQ E g S sh mk wa) : PA E g S.ln S.tx := h.2.2.2.2.1
theorem CQ.a97 (h : CQ E g S sh mk wa) : g 97 = aI E 0 32 sh := h.2.2.2.2.2.1
theorem CQ.a98 (h : CQ E g S sh mk wa) : g 98 = aI E 2 32 mk := h.2.2.2.2.2.2.1
theorem CQ.a99 (h : CQ E g S sh mk wa) : g 99 = aI E 0 64 wa := h.2.2.2.2.2.2.2
theorem CQ.a16 (h : CQ E g S sh mk wa) : g 16 = oB 1 [rf E 17, rf E 18, .int (nI S.c), .int (nI S.kp)] := h.ha.2.2.2.1
/-- the state changes -/
theorem CQ.upst {r : Row} (h : CQ E g S sh mk wa) (hs : StA E g2 1 r) (hf : Fr 1 g g2) : CQ E g2 (S.row r) sh mk wa := by
  obtain ⟨h0, h1, h2, h3, h4, h5, h6, h7⟩ := h
  exact ⟨h0, (hf _ (by decide)).trans h1, hs, h3.keep (fun k _ _ => hf k (by omega)), h4.keep (fun k _ _ => hf k (by omega)), (hf _ (by decide)).trans h5, (hf _ (by decide)).trans h6, (hf _ (by decide)).trans h7⟩
/-- it is recorded -/
theorem CQ.uprec (h : CQ E g S sh mk wa) (hh : HA E g2 (recC S.c) S.kp (recH S.c S.hr S.r) S.sn ∧ StA E g2 1 S.r ∧ Fh g g2) : CQ E g2 S.rec sh mk wa := by
  obtain ⟨h0, h1, h2, h3, h4, h5, h6, h7⟩ := h
  obtain ⟨k1, k2, hf⟩ := hh
  exact ⟨h0, (hf _ (by decide)).trans h1, k2, k1, h4.keep (fun k _ _ => hf k (by omega)), (hf _ (by decide)).trans h5, (hf _ (by decide)).trans h6, (hf _ (by decide)).trans h7⟩
theorem CQ.up97 (h : CQ E g S sh mk wa) (sh2 : Nat → Int32) : CQ E (va_up g 97 (aI E 0 32 sh2)) S sh2 mk wa := by
  obtain ⟨h0, h1, h2, h3, h4, h5, h6, h7⟩ := h
  exact ⟨h0, (va_up_ne _ _ (by decide)).trans h1, h2.ne16 (by decide), h3.keep (fun k _ _ => va_up_ne _ _ (by omega)), h4.keep (fun k _ _ => va_up_ne _ _ (by omega)), va_up_self _ _ _, (va_up_ne _ _ (by decide)).trans h6, (va_up_ne _ _ (by decide)).trans h7⟩
theorem CQ.up98 (h : CQ E g S sh mk wa) (mk2 : Nat → Int32) : CQ E (va_up g 98 (aI E 2 32 mk2)) S sh mk2 wa := by
  obtain ⟨h0, h1, h2, h3, h4, h5, h6, h7⟩ := h
  exact ⟨h0, (va_up_ne _ _ (by decide)).trans h1, h2.ne16 (by decide), h3.keep (fun k _ _ => va_up_ne _ _ (by omega)), h4.keep (fun k _ _ => va_up_ne _ _ (by omega)), (va_up_ne _ _ (by decide)).trans h5, va_up_self _ _ _, (va_up_ne _ _ (by decide)).trans h7⟩
theorem CQ.up99 (h : CQ E g S sh mk wa) (wa2 : Nat → Int32) : CQ E (va_up g 99 (aI E 0 64 wa2)) S sh mk wa2 := by
  obtain ⟨h0, h1, h2, h3, h4, h5, h6, h7⟩ := h
  exact ⟨h0, (va_up_ne _ _ (by decide)).trans h1, h2.ne16 (by decide), h3.keep (fun k _ _ => va_up_ne _ _ (by omega)), h4.keep (fun k _ _ => va_up_ne _ _ (by omega)), (va_up_ne _ _ (by decide)).trans h5, (va_up_ne _ _ (by decide)).trans h6, va_up_self _ _ _⟩
/-- the program's cells change -/
theorem CQ.uppa {ln : Nat} {tx : Nat → Nat} (h : CQ E g S sh mk wa) (hp : PA E g2 ln tx) (hf : Fp g g2) : CQ E g2 (.mk S.r S.c S.kp S.hr S.sn ln tx) sh mk wa := by
  obtain ⟨h0, h1, h2, h3, h4, h5, h6, h7⟩ := h
  exact ⟨h0, (hf _ (by decide)).trans h1, h2.keep (fun k _ _ => hf k (by omega)), h3.keep (fun k _ _ => hf k (by omega)), hp, (hf _ (by decide)).trans h5, (hf _ (by decide)).trans h6, (hf _ (by decide)).trans h7⟩
end CQs
theorem OK.v {S : AS} {B : Nat} (h : OK S B) : Vr S.r B := h.1
theorem OK.c4 {S : AS} {B : Nat} (h : OK S B) : S.c ≤ 4 := h.2.1
theorem Vr.le {r : Row} {B B2 : Nat} (h : Vr r B) (hb : B ≤ B2) : Vr r B2 := by
  obtain ⟨h1, h2, h3, h4, h5, h6, h7, h8, h9⟩ := h
  exact ⟨h1, h2, fun i hi => by obtain ⟨q1, q2, q3, q4, q5, q6, q7, q8, q9⟩ := h3 i hi; exact ⟨q1, q2, q3, q4, q5, q6, q7, q8, by omega⟩, h4, h5, h6, h7, ⟨h8.1, by have := h8.2; omega⟩, h9.1, by have := h9.2; omega⟩
theorem OK.le {S : AS} {B B2 : Nat} (h : OK S B) (hb : B ≤ B2) : OK S B2 := ⟨h.1.le hb, h.2.1, h.2.2.1, fun i hi => (h.2.2.2.1 i hi).le hb, fun e => (h.2.2.2.2.1 e).le hb, h.2.2.2.2.2⟩
theorem OK.rec {S : AS} {B : Nat} (h : OK S B) : OK S.rec B := by
  obtain ⟨h1, h2, h3, h4, h5, h6, h7⟩ := h
  refine ⟨h1, ?_, h3, fun i hi => ?_, h5, h6, h7⟩
  · show recC S.c ≤ 4
    unfold recC
    split <;> omega
  · have hi' : i < recC S.c := hi
    show Vr (recH S.c S.hr S.r i) B
    unfold recC at hi'
    unfold recH
    split at hi'
    · rename_i e
      rw [if_pos e]
      split
      · exact h4 _ (by omega)
      · exact h1
    · rename_i e
      rw [if_neg e]
      split
      · exact h4 _ (by omega)
      · exact h1
theorem OK.row {S : AS} {B : Nat} {r : Row} (h : OK S B) (hr : Vr r B) : OK (S.row r) B := ⟨hr, h.2⟩
