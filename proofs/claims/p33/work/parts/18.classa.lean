/-! ===== the class itself: its own helpers, and what changes it ===== -/
section SRm
variable {r r2 : Row} {B : Nat} {co pi co2 pi2 : Nat → Int32} {V U : Nat → Nat → Int32}
theorem sr_c (hv : Vr r B) (e2 : ∀ k, k < 64 → pi k = r (92 + k)) (e3 : ∀ i, i < rc r → ∀ j, j < 7 → V i j = r (33 + 7 * i + j)) (e4 : ∀ i, i < gc r → ∀ j, j < 4 → U i j = r (76 + 4 * i + j)) (h1 : ∀ k, k < 32 → co2 k = r2 k) (h2 : ∀ k, 32 ≤ k → r2 k = r k) : SR co2 pi V U (v4 (nI (rc r)) (nI (gc r)) (nI (nn (r 156))) (nI (nn (r 157)))) r2 :=
  ⟨h1, fun k hk => by rw [h2 _ (by omega)]; exact e2 k hk, ⟨by rw [h2 _ (by decide)]; exact hv.1.1.symm, by rw [h2 _ (by decide)]; exact hv.2.1.1.symm, by rw [h2 _ (by decide)]; exact hv.2.2.2.2.2.2.2.1.1.symm, by rw [h2 _ (by decide)]; exact hv.2.2.2.2.2.2.2.2.1.symm⟩,
    fun i hi j hj => by rw [rc_of (h2 32 (by decide))] at hi; rw [h2 _ (by omega)]; exact e3 i hi j hj, fun i hi j hj => by rw [gc_of (h2 75 (by decide))] at hi; rw [h2 _ (by omega)]; exact e4 i hi j hj⟩
theorem sr_p (hv : Vr r B) (e1 : ∀ k, k < 32 → co k = r k) (e3 : ∀ i, i < rc r → ∀ j, j < 7 → V i j = r (33 + 7 * i + j)) (e4 : ∀ i, i < gc r → ∀ j, j < 4 → U i j = r (76 + 4 * i + j)) (h1 : ∀ k, k < 64 → pi2 k = r2 (92 + k)) (h2 : ∀ k, k < 92 ∨ 156 ≤ k → r2 k = r k) : SR co pi2 V U (v4 (nI (rc r)) (nI (gc r)) (nI (nn (r 156))) (nI (nn (r 157)))) r2 :=
  ⟨fun k hk => by rw [h2 _ (by omega)]; exact e1 k hk, h1, ⟨by rw [h2 _ (by decide)]; exact hv.1.1.symm, by rw [h2 _ (by decide)]; exact hv.2.1.1.symm, by rw [h2 _ (by decide)]; exact hv.2.2.2.2.2.2.2.1.1.symm, by rw [h2 _ (by decide)]; exact hv.2.2.2.2.2.2.2.2.1.symm⟩,
    fun i hi j hj => by have h6 := hv.1.2; rw [rc_of (h2 32 (by decide))] at hi; rw [h2 _ (by omega)]; exact e3 i hi j hj, fun i hi j hj => by have h4 := hv.2.1.2; rw [gc_of (h2 75 (by decide))] at hi; rw [h2 _ (by omega)]; exact e4 i hi j hj⟩
theorem sr_v {a : Nat} {v : Nat → Int32} (hv : Vr r B) (e1 : ∀ k, k < 32 → co k = r k) (e2 : ∀ k, k < 64 → pi k = r (92 + k)) (e3 : ∀ i, i < rc r → ∀ j, j < 7 → V i j = r (33 + 7 * i + j)) (e4 : ∀ i, i < gc r → ∀ j, j < 4 → U i j = r (76 + 4 * i + j)) (ha : a < rc r) (h1 : ∀ j, j < 7 → v j = r2 (33 + 7 * a + j)) (h2 : ∀ k, k < 33 + 7 * a ∨ 40 + 7 * a ≤ k → r2 k = r k) : SR co pi (va_up V a v) U (v4 (nI (rc r)) (nI (gc r)) (nI (nn (r 156))) (nI (nn (r 157)))) r2 := by
  have h6 := hv.1.2
  refine ⟨fun k hk => by rw [h2 _ (by omega)]; exact e1 k hk, fun k hk => by rw [h2 _ (by omega)]; exact e2 k hk, ⟨by rw [h2 _ (by omega)]; exact hv.1.1.symm, by rw [h2 _ (by omega)]; exact hv.2.1.1.symm, by rw [h2 _ (by omega)]; exact hv.2.2.2.2.2.2.2.1.1.symm, by rw [h2 _ (by omega)]; exact hv.2.2.2.2.2.2.2.2.1.symm⟩, fun i hi j hj => ?_, fun i hi j hj => ?_⟩
  · rw [rc_of (h2 32 (by omega))] at hi
    by_cases e : i = a
    · subst e
      rw [va_up_self]
      exact h1 j hj
    · rw [va_up_ne _ _ e, h2 _ (by omega)]
      exact e3 i hi j hj
  · rw [gc_of (h2 75 (by omega))] at hi
    rw [h2 _ (by omega)]
    exact e4 i hi j hj
end SRm
theorem StA.f1 {E : gE} {g : Mem} {b : Nat} {r : Row} (h : StA E g b r) : g b = oB 4 [rf E (b + 1), rf E (b + 2), rf E (b + 3), rf E (b + 4), .int (r 32), .int (r 75), .int (r 156), .int (r 157)] := by
  obtain ⟨co, pi, π, ρ, V, U, n, h1, -, -, ⟨q1, q2, q3, q4⟩, -⟩ := h
  rw [← q1, ← q2, ← q3, ← q4]
  exact h1.2.2.1
/-- how many colours of these places are others -/
def oth (sh : Nat → Int32) (r : Row) (a c : Nat) : Nat := cn (c + 1 - a) (fun i => decide (¬ sh (a + i) = r (a + i)))
theorem putR_lo {r : Row} {a c k : Nat} {sh : Nat → Int32} (hc : c < 32) (hk : 32 ≤ k) : putR r a c sh k = r k := if_neg (by omega)
theorem z01n {z : Int32} (h : z = 0 ∨ z = 1) : narrow .boolean (.int z) = .int z := by rcases h with rfl | rfl <;> rfl
theorem z01f {z : Int32} (h : z = 0 ∨ z = 1) : fits .boolean (.int z) = true := by rcases h with rfl | rfl <;> rfl
theorem HA.s18 {E : gE} {g : Mem} {c kp : Nat} {hr : Nat → Row} {sn : Row} (h : HA E g c kp hr sn) : ∃ r, StA E g 18 r := h.2.2.2.2.2.1
theorem HA.sn1 {E : gE} {g : Mem} {c kp : Nat} {hr : Nat → Row} {sn : Row} (h : HA E g c kp hr sn) (e : kp = 1) : StA E g 18 sn := h.2.2.2.2.2.2 e
theorem CQ.upkeep {E : gE} {g g2 : Mem} {S : AS} {sh mk wa : Nat → Int32} (h : CQ E g S sh mk wa) (hs : StA E g2 18 S.r) (hf : Fr 18 g g2) : CQ E (va_up g2 16 (oB 1 [rf E 17, rf E 18, .int (nI S.c), .int (nI 1)])) (.mk S.r S.c 1 S.hr S.r S.ln S.tx) sh mk wa := by
  obtain ⟨h0, h1, h2, h3, h4, h5, h6, h7⟩ := h
  obtain ⟨k0, k1, k2, k3, ⟨π, hπ, h17, hz, hh⟩, hsn0, hsn⟩ := h3
  have e : ∀ k, k < 16 ∨ k = 17 ∨ 33 ≤ k → va_up g2 16 (oB 1 [rf E 17, rf E 18, .int (nI S.c), .int (nI 1)]) k = g k := fun k hk => (va_up_ne _ _ (by omega)).trans (hf k (by omega))
  refine ⟨h0, (e _ (by decide)).trans h1, h2.keep (fun k _ _ => e k (by omega)), ⟨k0, k1, Nat.le_refl 1, va_up_self _ _ _, ⟨π, hπ, (e _ (by decide)).trans h17, fun i hi => ?_, fun i hi => ?_⟩, ⟨S.r, hs.ne16 (by decide)⟩, fun _ => hs.ne16 (by decide)⟩, h4.keep (fun k _ _ => e k (by omega)), (e _ (by decide)).trans h5, (e _ (by decide)).trans h6, (e _ (by decide)).trans h7⟩
  · obtain ⟨r, hr⟩ := hz i hi
    exact ⟨r, hr.keep (fun k _ _ => e k (by omega))⟩
  · exact (hh i hi).keep (fun k _ _ => e k (by omega))
theorem CQ.upund {E : gE} {g g2 : Mem} {S : AS} {sh mk wa : Nat → Int32} (h : CQ E g S sh mk wa) (hh : HA E g2 (S.c - 1) S.kp S.hr S.sn ∧ StA E g2 1 (S.hr (S.c - 1)) ∧ ∀ k, k < 1 ∨ 93 ≤ k → g2 k = g k) : CQ E g2 (.mk (S.hr (S.c - 1)) (S.c - 1) S.kp S.hr S.sn S.ln S.tx) sh mk wa := by
  obtain ⟨h0, h1, h2, h3, h4, h5, h6, h7⟩ := h
  obtain ⟨k1, k2, hf⟩ := hh
  exact ⟨h0, (hf _ (by decide)).trans h1, k2, k1, h4.keep (fun k _ _ => hf k (by omega)), (hf _ (by decide)).trans h5, (hf _ (by decide)).trans h6, (hf _ (by decide)).trans h7⟩
/-! what the calls answer, and what they leave -/
def qSetColour (S : AS) (x y : Int32) : Int32 × AS := if 0 ≤ x.toInt ∧ x.toInt ≤ 31 then (if 0 ≤ y.toInt ∧ y.toInt ≤ 262143 then (if S.r (nn x) = y then (-5, S) else (S.r (nn x), S.rec.row (upd S.r (nn x) y))) else (-2, S)) else (-1, S)
def blS (p q : Nat) (u v : Int32) : Nat → Int32 := fun k => cMix u v (nI (k - p)) (nI (q - p))
def qBlend (S : AS) (x y u v : Int32) : Int32 × AS := if 0 ≤ x.toInt ∧ x.toInt ≤ 31 then (if ((0 ≤ y.toInt ∧ y.toInt ≤ 31) ∧ nn x < nn y) ∧ (0 ≤ u.toInt ∧ u.toInt ≤ 262143) ∧ 0 ≤ v.toInt ∧ v.toInt ≤ 262143 then (if oth (blS (nn x) (nn y) u v) S.r (nn x) (nn y) = 0 then (-5, S) else (nI (oth (blS (nn x) (nn y) u v) S.r (nn x) (nn y)), S.rec.row (putR S.r (nn x) (nn y) (blS (nn x) (nn y) u v)))) else (-2, S)) else (-1, S)
def shS (r : Row) : Nat → Int32 := fun k => shd r k 0
def qFreeze (S : AS) : Int32 × AS := (nI (oth (shS S.r) S.r 0 31), S.rec.row (begR (putR S.r 0 31 (shS S.r))))
def qAddRange (S : AS) (x y s w : Int32) : Int32 × AS := if 0 ≤ x.toInt ∧ x.toInt ≤ 31 then (if ((0 ≤ y.toInt ∧ y.toInt ≤ 31) ∧ nn x < nn y) ∧ (1 ≤ s.toInt ∧ s.toInt ≤ 30) ∧ 0 ≤ w.toInt ∧ w.toInt ≤ 2 then (if ovl S.r (nn x) (nn y) = true then (-4, S) else (if rc S.r < 6 then (nI (rc S.r), S.rec.row (addR S.r x y s w)) else (-3, S))) else (-2, S)) else (-1, S)
def qRemoveRange (S : AS) (x : Int32) : Int32 × AS := if 0 ≤ x.toInt ∧ x.toInt < (rc S.r : Int) then (nI (rc S.r - 1), S.rec.row (remR S.r (nn x))) else (-1, S)
def qSetSpeed (S : AS) (x s w : Int32) : Int32 × AS := if 0 ≤ x.toInt ∧ x.toInt < (rc S.r : Int) then (if (1 ≤ s.toInt ∧ s.toInt ≤ 30) ∧ 0 ≤ w.toInt ∧ w.toInt ≤ 2 then (nI (rg S.r (nn x) 2), S.rec.row (spdR S.r (nn x) s w)) else (-2, S)) else (-1, S)
def rnC (r : Row) : Nat := cn (rc r) (fun i => decide (rg r i 4 = 1))
def qRun (S : AS) (x : Int32) (z : Nat) : Int32 × AS := if 0 ≤ x.toInt ∧ x.toInt < (rc S.r : Int) then (if rg S.r (nn x) 4 = z then (-5, S) else (nI (rnC (upd S.r (37 + 7 * nn x) (nI z))), S.rec.row (upd S.r (37 + 7 * nn x) (nI z)))) else (-1, S)
def qAddGlow (S : AS) (x y s : Int32) : Int32 × AS := if 0 ≤ x.toInt ∧ x.toInt ≤ 31 then (if (0 ≤ y.toInt ∧ y.toInt ≤ 262143) ∧ 1 ≤ s.toInt ∧ s.toInt ≤ 30 then (if (gAt S.r (nn x)).isSome = true then (-4, S) else (if gc S.r < 4 then (nI (gc S.r), S.rec.row (addG S.r x y s)) else (-3, S))) else (-2, S)) else (-1, S)
def qRemoveGlow (S : AS) (x : Int32) : Int32 × AS := if 0 ≤ x.toInt ∧ x.toInt < (gc S.r : Int) then (nI (gc S.r - 1), S.rec.row (remG S.r (nn x))) else (-1, S)
def qPass (S : AS) (x : Int32) : Int32 × AS := if 1 ≤ x.toInt ∧ x.toInt ≤ 1000 then (nI (made S.r (nn x)), S.rec.row (tkR S.r (nn x))) else (-2, S)
def qType (S : AS) (c : Nat) : Int32 × AS := if S.ln < 60 then (nI (S.ln + 1), .mk S.r S.c S.kp S.hr S.sn (S.ln + 1) (va_up S.tx S.ln c)) else (-3, S)
def qClearText (S : AS) : Int32 × AS := (nI S.ln, .mk S.r S.c S.kp S.hr S.sn 0 S.tx)
def qPaint (S : AS) (x y z : Int32) : Int32 × AS := if (0 ≤ x.toInt ∧ x.toInt ≤ 7) ∧ 0 ≤ y.toInt ∧ y.toInt ≤ 7 then (if 0 ≤ z.toInt ∧ z.toInt ≤ 31 then (if px S.r (8 * nn x + nn y) = nn z then (-5, S) else (nI (px S.r (8 * nn x + nn y)), S.rec.row (upd S.r (92 + (8 * nn x + nn y)) z))) else (-2, S)) else (-1, S)
def qUndo (S : AS) : Int32 × AS := if S.c = 0 then (-5, S) else (nI (S.c - 1), .mk (S.hr (S.c - 1)) (S.c - 1) S.kp S.hr S.sn S.ln S.tx)
def qKeep (S : AS) : Int32 × AS := (nI (rc S.r), .mk S.r S.c 1 S.hr S.r S.ln S.tx)
def qRestore (S : AS) : Int32 × AS := if S.kp = 0 then (-5, S) else (nI (rc S.sn), S.rec.row S.sn)
theorem dX5_isRange_0 : decode cX5_isRange 0 = .ok (.iload_n 1, 1) := by decide +kernel
theorem dX5_isRange_1 : decode cX5_isRange 1 = .ok (.ifCond .lt 18, 3) := by decide +kernel
theorem dX5_isRange_4 : decode cX5_isRange 4 = .ok (.iload_n 1, 1) := by decide +kernel
theorem dX5_isRange_5 : decode cX5_isRange 5 = .ok (.aload_n 0, 1) := by decide +kernel
theorem dX5_isRange_6 : decode cX5_isRange 6 = .ok (.getfield 12, 3) := by decide +kernel
theorem dX5_isRange_9 : decode cX5_isRange 9 = .ok (.getfield 83, 3) := by decide +kernel
theorem dX5_isRange_12 : decode cX5_isRange 12 = .ok (.if_icmp .ge 7, 3) := by decide +kernel
theorem dX5_isRange_15 : decode cX5_isRange 15 = .ok (.iconst 1, 1) := by decide +kernel
theorem dX5_isRange_16 : decode cX5_isRange 16 = .ok (.goto 4, 3) := by decide +kernel
theorem dX5_isRange_19 : decode cX5_isRange 19 = .ok (.iconst 0, 1) := by decide +kernel
theorem dX5_isRange_20 : decode cX5_isRange 20 = .ok (.ireturn, 1) := by decide +kernel
set_option maxHeartbeats 4000000 in
set_option maxRecDepth 100000 in
theorem c_X5_isRange (l : Launch) (E : gE) (g : Mem) (S : AS) (B : Nat) (hB : B < 90000000) (ho : OK S B) (sh mk wa : Nat → Int32) (h : CQ E g S sh mk wa) (x : Int32) : Mt l E yX5_isRange cX5_isRange 2 (some .boolean) 0 0 [rf E (0), .int (x)] g (pI (fun z g' => z = bI (0 ≤ x.toInt ∧ x.toInt < (rc S.r : Int)) ∧ g' = g)) := by
  have hK := h.k
  have hv := ho.v
  have hrc : rc S.r ≤ 6 := hv.1.2
  have hgc : gc S.r ≤ 4 := hv.2.1.2
  have hc4 := ho.c4
  have t1 : (nI (rc S.r)).toInt = (rc S.r : Int) := tI (by omega)
  refine mt_go (own := RX5) (by decide) rfl (lo := [some (rf E (0)), some (.int (x))]) rfl (Nat.le_of_ble_eq_true rfl) (fun X hC => ?_)
  refine y_iload_n hC dX5_isRange_0 (i := 1) rfl rfl ?_
  refine y_if_lt (tgt := 19) hC dX5_isRange_1 (by decide) (fun c_1 => ?_) (fun c_1 => ?_)
  · refine y_iconst (v := nI 0) hC dX5_isRange_19 (by decide) ?_
    refine y_zret (hrt := rfl) (hn := rfl) (hC := hC) (hd := dX5_isRange_20) (hq := ?_)
    refine ⟨?_, rfl⟩
    try simp only [Int32.lt_iff_toInt_lt, Int32.toInt_zero] at c_1
    try simp only [Int32.le_iff_toInt_le, t1] at c_12
    first | exact (bI_t (by omega)).symm | exact (bI_f (by omega)).symm
  · refine y_iload_n hC dX5_isRange_4 (i := 1) rfl rfl ?_
    refine y_aload_n hC dX5_isRange_5 (i := 0) rfl rfl ?_
    refine y_get hC fX5_12 dX5_isRange_6 (k := 0) (by omega) h.a0 rfl ?_
    refine y_get hC fX5_83 dX5_isRange_9 (k := 1) (by omega) h.sta.f1 rfl ?_
    refine y_top (y := nI (rc S.r)) hv.1.1 ?_
    refine y_icmp_ge (tgt := 19) hC dX5_isRange_12 (by decide) (fun c_12 => ?_) (fun c_12 => ?_)
    · refine y_iconst (v := nI 0) hC dX5_isRange_19 (by decide) ?_
      refine y_zret (hrt := rfl) (hn := rfl) (hC := hC) (hd := dX5_isRange_20) (hq := ?_)
      refine ⟨?_, rfl⟩
      try simp only [Int32.lt_iff_toInt_lt, Int32.toInt_zero] at c_1
      try simp only [Int32.le_iff_toInt_le, t1] at c_12
      first | exact (bI_t (by omega)).symm | exact (bI_f (by omega)).symm
    · refine y_iconst (v := nI 1) hC dX5_isRange_15 (by decide) ?_
      refine y_goto (tgt := 20) hC dX5_isRange_16 (by decide) ?_
      refine y_zret (hrt := rfl) (hn := rfl) (hC := hC) (hd := dX5_isRange_20) (hq := ?_)
      refine ⟨?_, rfl⟩
      try simp only [Int32.lt_iff_toInt_lt, Int32.toInt_zero] at c_1
      try simp only [Int32.le_iff_toInt_le, t1] at c_12
      first | exact (bI_t (by omega)).symm | exact (bI_f (by omega)).symm

theorem dX5_isGlow_0 : decode cX5_isGlow 0 = .ok (.iload_n 1, 1) := by decide +kernel
theorem dX5_isGlow_1 : decode cX5_isGlow 1 = .ok (.ifCond .lt 18, 3) := by decide +kernel
theorem dX5_isGlow_4 : decode cX5_isGlow 4 = .ok (.iload_n 1, 1) := by decide +kernel
theorem dX5_isGlow_5 : decode cX5_isGlow 5 = .ok (.aload_n 0, 1) := by decide +kernel
theorem dX5_isGlow_6 : decode cX5_isGlow 6 = .ok (.getfield 12, 3) := by decide +kernel
theorem dX5_isGlow_9 : decode cX5_isGlow 9 = .ok (.getfield 121, 3) := by decide +kernel
theorem dX5_isGlow_12 : decode cX5_isGlow 12 = .ok (.if_icmp .ge 7, 3) := by decide +kernel
theorem dX5_isGlow_15 : decode cX5_isGlow 15 = .ok (.iconst 1, 1) := by decide +kernel
theorem dX5_isGlow_16 : decode cX5_isGlow 16 = .ok (.goto 4, 3) := by decide +kernel
theorem dX5_isGlow_19 : decode cX5_isGlow 19 = .ok (.iconst 0, 1) := by decide +kernel
theorem dX5_isGlow_20 : decode cX5_isGlow 20 = .ok (.ireturn, 1) := by decide +kernel
set_option maxHeartbeats 4000000 in
set_option maxRecDepth 100000 in
theorem c_X5_isGlow (l : Launch) (E : gE) (g : Mem) (S : AS) (B : Nat) (hB : B < 90000000) (ho : OK S B) (sh mk wa : Nat → Int32) (h : CQ E g S sh mk wa) (x : Int32) : Mt l E yX5_isGlow cX5_isGlow 2 (some .boolean) 0 0 [rf E (0), .int (x)] g (pI (fun z g' => z = bI (0 ≤ x.toInt ∧ x.toInt < (gc S.r : Int)) ∧ g' = g)) := by
  have hK := h.k
  have hv := ho.v
  have hrc : rc S.r ≤ 6 := hv.1.2
  have hgc : gc S.r ≤ 4 := hv.2.1.2
  have hc4 := ho.c4
  have t1 : (nI (gc S.r)).toInt = (gc S.r : Int) := tI (by omega)
  refine mt_go (own := RX5) (by decide) rfl (lo := [some (rf E (0)), some (.int (x))]) rfl (Nat.le_of_ble_eq_true rfl) (fun X hC => ?_)
  refine y_iload_n hC dX5_isGlow_0 (i := 1) rfl rfl ?_
  refine y_if_lt (tgt := 19) hC dX5_isGlow_1 (by decide) (fun c_1 => ?_) (fun c_1 => ?_)
  · refine y_iconst (v := nI 0) hC dX5_isGlow_19 (by decide) ?_
    refine y_zret (hrt := rfl) (hn := rfl) (hC := hC) (hd := dX5_isGlow_20) (hq := ?_)
    refine ⟨?_, rfl⟩
    try simp only [Int32.lt_iff_toInt_lt, Int32.toInt_zero] at c_1
    try simp only [Int32.le_iff_toInt_le, t1] at c_12
    first | exact (bI_t (by omega)).symm | exact (bI_f (by omega)).symm
  · refine y_iload_n hC dX5_isGlow_4 (i := 1) rfl rfl ?_
    refine y_aload_n hC dX5_isGlow_5 (i := 0) rfl rfl ?_
    refine y_get hC fX5_12 dX5_isGlow_6 (k := 0) (by omega) h.a0 rfl ?_
    refine y_get hC fX5_121 dX5_isGlow_9 (k := 1) (by omega) h.sta.f1 rfl ?_
    refine y_top (y := nI (gc S.r)) hv.2.1.1 ?_
    refine y_icmp_ge (tgt := 19) hC dX5_isGlow_12 (by decide) (fun c_12 => ?_) (fun c_12 => ?_)
    · refine y_iconst (v := nI 0) hC dX5_isGlow_19 (by decide) ?_
      refine y_zret (hrt := rfl) (hn := rfl) (hC := hC) (hd := dX5_isGlow_20) (hq := ?_)
      refine ⟨?_, rfl⟩
      try simp only [Int32.lt_iff_toInt_lt, Int32.toInt_zero] at c_1
      try simp only [Int32.le_iff_toInt_le, t1] at c_12
      first | exact (bI_t (by omega)).symm | exact (bI_f (by omega)).symm
    · refine y_iconst (v := nI 1) hC dX5_isGlow_15 (by decide) ?_
      refine y_goto (tgt := 20) hC dX5_isGlow_16 (by decide) ?_
      refine y_zret (hrt := rfl) (hn := rfl) (hC := hC) (hd := dX5_isGlow_20) (hq := ?_)
      refine ⟨?_, rfl⟩
      try simp only [Int32.lt_iff_toInt_lt, Int32.toInt_zero] at c_1
      try simp only [Int32.le_iff_toInt_le, t1] at c_12
      first | exact (bI_t (by omega)).symm | exact (bI_f (by omega)).symm

theorem dX5_findShades_0 : decode cX5_findShades 0 = .ok (.iconst 0, 1) := by decide +kernel
theorem dX5_findShades_1 : decode cX5_findShades 1 = .ok (.istore_n 1, 1) := by decide +kernel
theorem dX5_findShades_2 : decode cX5_findShades 2 = .ok (.iload_n 1, 1) := by decide +kernel
theorem dX5_findShades_3 : decode cX5_findShades 3 = .ok (.bipush 32, 2) := by decide +kernel
theorem dX5_findShades_5 : decode cX5_findShades 5 = .ok (.if_icmp .ge 24, 3) := by decide +kernel
theorem dX5_findShades_8 : decode cX5_findShades 8 = .ok (.aload_n 0, 1) := by decide +kernel
theorem dX5_findShades_9 : decode cX5_findShades 9 = .ok (.getfield 30, 3) := by decide +kernel
theorem dX5_findShades_12 : decode cX5_findShades 12 = .ok (.iload_n 1, 1) := by decide +kernel
theorem dX5_findShades_13 : decode cX5_findShades 13 = .ok (.aload_n 0, 1) := by decide +kernel
theorem dX5_findShades_14 : decode cX5_findShades 14 = .ok (.getfield 12, 3) := by decide +kernel
theorem dX5_findShades_17 : decode cX5_findShades 17 = .ok (.iload_n 1, 1) := by decide +kernel
theorem dX5_findShades_18 : decode cX5_findShades 18 = .ok (.iconst 0, 1) := by decide +kernel
theorem dX5_findShades_19 : decode cX5_findShades 19 = .ok (.invokevirtual 186, 3) := by decide +kernel
theorem dX5_findShades_22 : decode cX5_findShades 22 = .ok (.iastore, 1) := by decide +kernel
theorem dX5_findShades_23 : decode cX5_findShades 23 = .ok (.iinc 1 1, 3) := by decide +kernel
theorem dX5_findShades_26 : decode cX5_findShades 26 = .ok (.goto (-24), 3) := by decide +kernel
theorem dX5_findShades_29 : decode cX5_findShades 29 = .ok (.return_, 1) := by decide +kernel
set_option maxHeartbeats 4000000 in
set_option maxRecDepth 100000 in
theorem c_X5_findShades (l : Launch) (E : gE) (g : Mem) (S : AS) (B : Nat) (hB : B < 90000000) (ho : OK S B) (sh mk wa : Nat → Int32) (h : CQ E g S sh mk wa) : Mt l E yX5_findShades cX5_findShades 2 none 4 96 [rf E (0)] g (pV (fun g' => ∃ sh2, (∀ k, k < 32 → sh2 k = shd S.r k 0) ∧ CQ E g' S sh2 mk wa)) := by
  have hK := h.k
  have hv := ho.v
  have hrc : rc S.r ≤ 6 := hv.1.2
  have hgc : gc S.r ≤ 4 := hv.2.1.2
  have hc4 := ho.c4
  refine mt_go (own := RX5) (by decide) rfl (lo := [some (rf E (0)), none]) rfl (Nat.le_of_ble_eq_true rfl) (fun X hC => ?_)
  refine y_iconst (v := nI 0) hC dX5_findShades_0 (by decide) ?_
  refine y_istore_n hC dX5_findShades_1 (i := 1) rfl (Nat.le_of_ble_eq_true rfl) rfl (lo' := [some (rf E (0)), some (.int (nI (0)))]) rfl ?_
  have L_2 : ∀ (m : Nat) (i : Nat) (g1 : Mem) (sh1 : Nat → Int32), (hm : 32 - i < m) → (hi : i ≤ 32) → (hq : CQ E g1 S sh1 mk wa) → (hk : ∀ k, k < i → sh1 k = shd S.r k 0) → Y l E X (pV (fun g' => ∃ sh2, (∀ k, k < 32 → sh2 k = shd S.r k 0) ∧ CQ E g' S sh2 mk wa)) 2 [some (rf E (0)), some (.int (nI (i)))] [] g1 := by
    intro m
    induction m with
    | zero => intro i g1 sh1 hm hi hq hk; exact absurd hm (Nat.not_lt_zero _)
    | succ m ih_2 =>
      intro i g1 sh1 hm hi hq hk
      refine y_iload_n hC dX5_findShades_2 (i := 1) rfl rfl ?_
      refine y_bipush (v := nI 32) hC dX5_findShades_3 (by decide) ?_
      refine y_icmp_ge_n (tgt := 29) hC dX5_findShades_5 (by decide) (by omega) (by omega) (fun c_5 => ?_) (fun c_5 => ?_)
      · refine y_vret (hC := hC) (hd := dX5_findShades_29) (hq := ?_)
        exact ⟨sh1, fun k hk2 => hk k (by omega), hq⟩
      · have hk0 := hk
        refine y_aload_n hC dX5_findShades_8 (i := 0) rfl rfl ?_
        refine y_get hC fX5_30 dX5_findShades_9 (k := 0) (by omega) hq.a0 rfl ?_
        refine y_iload_n hC dX5_findShades_12 (i := 1) rfl rfl ?_
        refine y_aload_n hC dX5_findShades_13 (i := 0) rfl rfl ?_
        refine y_get hC fX5_12 dX5_findShades_14 (k := 0) (by omega) hq.a0 rfl ?_
        refine y_iload_n hC dX5_findShades_17 (i := 1) rfl rfl ?_
        refine y_iconst (v := nI 0) hC dX5_findShades_18 (by decide) ?_
        refine y_callV hC mX4_shade kX5_186 dX5_findShades_19 (b := 1) (As := [.int (nI (i)), .int (nI (0))]) (rest := [.int (nI (i)), rf E (97)]) (c_X4_shade l E g1 1 S.r B (by omega) hq.sta hv i 0 (by omega) (by omega)) (by omega) hq.sta.f1 rfl rfl rfl (Nat.le_of_ble_eq_true rfl) ⟨Nat.le_of_ble_eq_true rfl, Nat.le_of_ble_eq_true rfl⟩ (pk_i ?_)
        rintro r_19 g_19 ⟨hr_19, hq_19⟩
        obtain rfl := hq_19.symm
        rw [hr_19]
        clear hr_19 r_19
        refine y_iast hC dX5_findShades_22 (k := 97) (j := i) (by omega) hq.a97 (rfl) (by omega) (by decide) ?_
        have hq_22 : CQ E (va_up g1 (97) (aI E 0 32 (upd sh1 (i) ((shd S.r i 0))))) S (upd sh1 (i) ((shd S.r i 0))) mk wa := hq.up97 _
        generalize (va_up g1 (97) (aI E 0 32 (upd sh1 (i) ((shd S.r i 0))))) = g_22 at hq_22 ⊢
        refine y_iinc_n hC dX5_findShades_23 (a := i) (k := 1) rfl (by decide) (Nat.le_of_ble_eq_true rfl) rfl (lo' := [some (rf E (0)), some (.int (nI (i + 1)))]) rfl ?_
        refine y_goto (tgt := 2) hC dX5_findShades_26 (by decide) ?_
        exact ih_2 (i + 1) g_22 (upd sh1 (i) ((shd S.r i 0))) (by omega) (by omega) hq_22 (fun k hk => by
            by_cases e : k = i
            · rw [e, pk_us]
            · rw [pk_un e]; exact hk0 k (by omega))
  exact L_2 33 0 g sh (by omega) (by omega) h (fun k hk => absurd hk (Nat.not_lt_zero k))

theorem dX5_otherShades_0 : decode cX5_otherShades 0 = .ok (.iconst 0, 1) := by decide +kernel
theorem dX5_otherShades_1 : decode cX5_otherShades 1 = .ok (.istore_n 3, 1) := by decide +kernel
theorem dX5_otherShades_2 : decode cX5_otherShades 2 = .ok (.iload_n 1, 1) := by decide +kernel
theorem dX5_otherShades_3 : decode cX5_otherShades 3 = .ok (.istore 4, 2) := by decide +kernel
theorem dX5_otherShades_5 : decode cX5_otherShades 5 = .ok (.iload 4, 2) := by decide +kernel
theorem dX5_otherShades_7 : decode cX5_otherShades 7 = .ok (.iload_n 2, 1) := by decide +kernel
theorem dX5_otherShades_8 : decode cX5_otherShades 8 = .ok (.if_icmp .gt 32, 3) := by decide +kernel
theorem dX5_otherShades_11 : decode cX5_otherShades 11 = .ok (.aload_n 0, 1) := by decide +kernel
theorem dX5_otherShades_12 : decode cX5_otherShades 12 = .ok (.getfield 30, 3) := by decide +kernel
theorem dX5_otherShades_15 : decode cX5_otherShades 15 = .ok (.iload 4, 2) := by decide +kernel
theorem dX5_otherShades_17 : decode cX5_otherShades 17 = .ok (.iaload, 1) := by decide +kernel
theorem dX5_otherShades_18 : decode cX5_otherShades 18 = .ok (.aload_n 0, 1) := by decide +kernel
theorem dX5_otherShades_19 : decode cX5_otherShades 19 = .ok (.getfield 12, 3) := by decide +kernel
theorem dX5_otherShades_22 : decode cX5_otherShades 22 = .ok (.getfield 48, 3) := by decide +kernel
theorem dX5_otherShades_25 : decode cX5_otherShades 25 = .ok (.iload 4, 2) := by decide +kernel
theorem dX5_otherShades_27 : decode cX5_otherShades 27 = .ok (.iaload, 1) := by decide +kernel
theorem dX5_otherShades_28 : decode cX5_otherShades 28 = .ok (.if_icmp .eq 6, 3) := by decide +kernel
theorem dX5_otherShades_31 : decode cX5_otherShades 31 = .ok (.iinc 3 1, 3) := by decide +kernel
theorem dX5_otherShades_34 : decode cX5_otherShades 34 = .ok (.iinc 4 1, 3) := by decide +kernel
theorem dX5_otherShades_37 : decode cX5_otherShades 37 = .ok (.goto (-32), 3) := by decide +kernel
theorem dX5_otherShades_40 : decode cX5_otherShades 40 = .ok (.iload_n 3, 1) := by decide +kernel
theorem dX5_otherShades_41 : decode cX5_otherShades 41 = .ok (.ireturn, 1) := by decide +kernel
set_option maxHeartbeats 4000000 in
set_option maxRecDepth 100000 in
theorem c_X5_otherShades (l : Launch) (E : gE) (g : Mem) (S : AS) (B : Nat) (hB : B < 90000000) (ho : OK S B) (sh mk wa : Nat → Int32) (h : CQ E g S sh mk wa) (a c : Nat) (hac : a ≤ c) (hc : c < 32) : Mt l E yX5_otherShades cX5_otherShades 5 (some .int) 0 0 [rf E (0), .int (nI (a)), .int (nI (c))] g (pI (fun z g' => z = nI (oth sh S.r a c) ∧ g' = g)) := by
  have hK := h.k
  have hv := ho.v
  have hrc : rc S.r ≤ 6 := hv.1.2
  have hgc : gc S.r ≤ 4 := hv.2.1.2
  have hc4 := ho.c4
  refine mt_go (own := RX5) (by decide) rfl (lo := [some (rf E (0)), some (.int (nI (a))), some (.int (nI (c))), none, none]) rfl (Nat.le_of_ble_eq_true rfl) (fun X hC => ?_)
  obtain ⟨co, pi, π, ρ, V, U, hX, e1, e2, e3, e4⟩ := zStF (r := S.r) (B := B) h.sta hv
  refine y_iconst (v := nI 0) hC dX5_otherShades_0 (by decide) ?_
  refine y_istore_n hC dX5_otherShades_1 (i := 3) rfl (Nat.le_of_ble_eq_true rfl) rfl (lo' := [some (rf E (0)), some (.int (nI (a))), some (.int (nI (c))), some (.int (nI (0))), none]) rfl ?_
  refine y_iload_n hC dX5_otherShades_2 (i := 1) rfl rfl ?_
  refine y_istore hC dX5_otherShades_3 (Nat.le_of_ble_eq_true rfl) rfl (lo' := [some (rf E (0)), some (.int (nI (a))), some (.int (nI (c))), some (.int (nI (0))), some (.int (nI (a)))]) rfl ?_
  have L_5 : ∀ (m : Nat) (i k : Nat), (hm : c + 1 - (a + i) < m) → (hi : a + i ≤ c + 1) → (hk : k = cn i (fun i => decide (¬ sh (a + i) = S.r (a + i)))) → Y l E X (pI (fun z g' => z = nI (oth sh S.r a c) ∧ g' = g)) 5 [some (rf E (0)), some (.int (nI (a))), some (.int (nI (c))), some (.int (nI (k))), some (.int (nI (a + i)))] [] g := by
    intro m
    induction m with
    | zero => intro i k hm hi hk; exact absurd hm (Nat.not_lt_zero _)
    | succ m ih_5 =>
      intro i k hm hi hk
      refine y_iload hC dX5_otherShades_5 rfl ?_
      refine y_iload_n hC dX5_otherShades_7 (i := 2) rfl rfl ?_
      refine y_icmp_gt_n (tgt := 40) hC dX5_otherShades_8 (by decide) (by omega) (by omega) (fun c_8 => ?_) (fun c_8 => ?_)
      · refine y_iload_n hC dX5_otherShades_40 (i := 3) rfl rfl ?_
        refine y_iret (hC := hC) (hd := dX5_otherShades_41) (hq := ?_)
        exact ⟨congrArg nI (by rw [hk]; unfold oth; rw [show i = c + 1 - a by omega]), rfl⟩
      · have hcl := cn_le i (fun i => decide (¬ sh (a + i) = S.r (a + i)))
        refine y_aload_n hC dX5_otherShades_11 (i := 0) rfl rfl ?_
        refine y_get hC fX5_30 dX5_otherShades_12 (k := 0) (by omega) h.a0 rfl ?_
        refine y_iload hC dX5_otherShades_15 rfl ?_
        refine y_iald hC dX5_otherShades_17 (k := 97) (j := a + i) (by omega) h.a97 (rfl) (by omega) (by decide) ?_
        refine y_aload_n hC dX5_otherShades_18 (i := 0) rfl rfl ?_
        refine y_get hC fX5_12 dX5_otherShades_19 (k := 0) (by omega) h.a0 rfl ?_
        refine y_get hC fX5_48 dX5_otherShades_22 (k := 1) (hX.k (k := 0) (by decide)) hX.s0 rfl ?_
        refine y_iload hC dX5_otherShades_25 rfl ?_
        refine y_iald hC dX5_otherShades_27 (k := 1 + 1) (j := a + i) (hX.k (k := 1) (by decide)) hX.s1 (rfl) (by omega) (by decide) ?_
        refine y_top (y := (S.r (a + i))) (e1 (a + i) (by omega)) ?_
        refine y_icmp_eq (tgt := 34) hC dX5_otherShades_28 (by decide) (fun c_28 => ?_) (fun c_28 => ?_)
        · refine y_iinc_n hC dX5_otherShades_34 (a := a + i) (k := 1) rfl (by decide) (Nat.le_of_ble_eq_true rfl) rfl (lo' := [some (rf E (0)), some (.int (nI (a))), some (.int (nI (c))), some (.int (nI (k))), some (.int (nI (a + i + 1)))]) rfl ?_
          refine y_goto (tgt := 5) hC dX5_otherShades_37 (by decide) ?_
          exact ih_5 (i + 1) _ (by omega) (by omega) (by rw [cn_s, ← hk]; simp only [decide_eq_true_eq]; first | rw [if_pos c_28] | rw [if_neg (fun q => q c_28), Nat.add_zero])
        · refine y_iinc_n hC dX5_otherShades_31 (a := k) (k := 1) rfl (by decide) (Nat.le_of_ble_eq_true rfl) rfl (lo' := [some (rf E (0)), some (.int (nI (a))), some (.int (nI (c))), some (.int (nI (k + 1))), some (.int (nI (a + i)))]) rfl ?_
          refine y_iinc_n hC dX5_otherShades_34 (a := a + i) (k := 1) rfl (by decide) (Nat.le_of_ble_eq_true rfl) rfl (lo' := [some (rf E (0)), some (.int (nI (a))), some (.int (nI (c))), some (.int (nI (k + 1))), some (.int (nI (a + i + 1)))]) rfl ?_
          refine y_goto (tgt := 5) hC dX5_otherShades_37 (by decide) ?_
          exact ih_5 (i + 1) _ (by omega) (by omega) (by rw [cn_s, ← hk]; simp only [decide_eq_true_eq]; first | rw [if_pos c_28] | rw [if_neg (fun q => q c_28), Nat.add_zero])
  exact L_5 (c + 2) 0 0 (by omega) (by omega) rfl

theorem dX5_setShades_0 : decode cX5_setShades 0 = .ok (.iload_n 1, 1) := by decide +kernel
theorem dX5_setShades_1 : decode cX5_setShades 1 = .ok (.istore_n 3, 1) := by decide +kernel
theorem dX5_setShades_2 : decode cX5_setShades 2 = .ok (.iload_n 3, 1) := by decide +kernel
theorem dX5_setShades_3 : decode cX5_setShades 3 = .ok (.iload_n 2, 1) := by decide +kernel
theorem dX5_setShades_4 : decode cX5_setShades 4 = .ok (.if_icmp .gt 24, 3) := by decide +kernel
theorem dX5_setShades_7 : decode cX5_setShades 7 = .ok (.aload_n 0, 1) := by decide +kernel
theorem dX5_setShades_8 : decode cX5_setShades 8 = .ok (.getfield 12, 3) := by decide +kernel
theorem dX5_setShades_11 : decode cX5_setShades 11 = .ok (.getfield 48, 3) := by decide +kernel
theorem dX5_setShades_14 : decode cX5_setShades 14 = .ok (.iload_n 3, 1) := by decide +kernel
theorem dX5_setShades_15 : decode cX5_setShades 15 = .ok (.aload_n 0, 1) := by decide +kernel
theorem dX5_setShades_16 : decode cX5_setShades 16 = .ok (.getfield 30, 3) := by decide +kernel
theorem dX5_setShades_19 : decode cX5_setShades 19 = .ok (.iload_n 3, 1) := by decide +kernel
theorem dX5_setShades_20 : decode cX5_setShades 20 = .ok (.iaload, 1) := by decide +kernel
theorem dX5_setShades_21 : decode cX5_setShades 21 = .ok (.iastore, 1) := by decide +kernel
theorem dX5_setShades_22 : decode cX5_setShades 22 = .ok (.iinc 3 1, 3) := by decide +kernel
theorem dX5_setShades_25 : decode cX5_setShades 25 = .ok (.goto (-23), 3) := by decide +kernel
theorem dX5_setShades_28 : decode cX5_setShades 28 = .ok (.return_, 1) := by decide +kernel
set_option maxHeartbeats 4000000 in
set_option maxRecDepth 100000 in
theorem c_X5_setShades (l : Launch) (E : gE) (g : Mem) (S : AS) (B : Nat) (hB : B < 90000000) (ho : OK S B) (sh mk wa : Nat → Int32) (h : CQ E g S sh mk wa) (a c : Nat) (hac : a ≤ c) (hc : c < 32) : Mt l E yX5_setShades cX5_setShades 4 none 0 0 [rf E (0), .int (nI (a)), .int (nI (c))] g (pV (fun g' => CQ E g' (S.row (putR S.r a c sh)) sh mk wa)) := by
  have hK := h.k
  have hv := ho.v
  have hrc : rc S.r ≤ 6 := hv.1.2
  have hgc : gc S.r ≤ 4 := hv.2.1.2
  have hc4 := ho.c4
  refine mt_go (own := RX5) (by decide) rfl (lo := [some (rf E (0)), some (.int (nI (a))), some (.int (nI (c))), none]) rfl (Nat.le_of_ble_eq_true rfl) (fun X hC => ?_)
  obtain ⟨co, pi, π, ρ, V, U, hX, e1, e2, e3, e4⟩ := zStF (r := S.r) (B := B) h.sta hv
  refine y_iload_n hC dX5_setShades_0 (i := 1) rfl rfl ?_
  refine y_istore_n hC dX5_setShades_1 (i := 3) rfl (Nat.le_of_ble_eq_true rfl) rfl (lo' := [some (rf E (0)), some (.int (nI (a))), some (.int (nI (c))), some (.int (nI (a)))]) rfl ?_
  have L_2 : ∀ (m : Nat) (i : Nat) (g1 : Mem) (co1 : Nat → Int32), (hm : c + 1 - (a + i) < m) → (hi : a + i ≤ c + 1) → (hX1 : SF E g g1 1 co1 pi π ρ V U (v4 (nI (rc S.r)) (nI (gc S.r)) (nI (nn (S.r 156))) (nI (nn (S.r 157))))) → (hk : ∀ k, k < 32 → co1 k = if a ≤ k ∧ k < a + i then sh k else S.r k) → Y l E X (pV (fun g' => CQ E g' (S.row (putR S.r a c sh)) sh mk wa)) 2 [some (rf E (0)), some (.int (nI (a))), some (.int (nI (c))), some (.int (nI (a + i)))] [] g1 := by
    intro m
    induction m with
    | zero => intro i g1 co1 hm hi hX1 hk; exact absurd hm (Nat.not_lt_zero _)
    | succ m ih_2 =>
      intro i g1 co1 hm hi hX1 hk
      refine y_iload_n hC dX5_setShades_2 (i := 3) rfl rfl ?_
      refine y_iload_n hC dX5_setShades_3 (i := 2) rfl rfl ?_
      refine y_icmp_gt_n (tgt := 28) hC dX5_setShades_4 (by decide) (by omega) (by omega) (fun c_4 => ?_) (fun c_4 => ?_)
      · refine y_vret (hC := hC) (hd := dX5_setShades_28) (hq := ?_)
        have hr := hX1.st (sr_c (r2 := putR S.r a c sh) hv e2 e3 e4 (fun k hk2 => by
          rw [hk k hk2]
          unfold putR
          by_cases q : a ≤ k ∧ k < a + i
          · rw [if_pos q, if_pos (by omega)]
          · rw [if_neg q, if_neg (by omega)]) (fun k hk2 => putR_lo hc hk2))
        exact h.upst hr.1 hr.2
      · have hk0 := hk
        refine y_aload_n hC dX5_setShades_7 (i := 0) rfl rfl ?_
        refine y_get hC fX5_12 dX5_setShades_8 (k := 0) (by omega) ((hX1.fr 0 (by omega)).trans h.a0) rfl ?_
        refine y_get hC fX5_48 dX5_setShades_11 (k := 1) (hX1.k (k := 0) (by decide)) hX1.s0 rfl ?_
        refine y_iload_n hC dX5_setShades_14 (i := 3) rfl rfl ?_
        refine y_aload_n hC dX5_setShades_15 (i := 0) rfl rfl ?_
        refine y_get hC fX5_30 dX5_setShades_16 (k := 0) (by omega) ((hX1.fr 0 (by omega)).trans h.a0) rfl ?_
        refine y_iload_n hC dX5_setShades_19 (i := 3) rfl rfl ?_
        refine y_iald hC dX5_setShades_20 (k := 97) (j := a + i) (by omega) ((hX1.fr 97 (by omega)).trans h.a97) (rfl) (by omega) (by decide) ?_
        refine y_iast hC dX5_setShades_21 (k := 1 + 1) (j := a + i) (hX1.k (k := 1) (by decide)) hX1.s1 (rfl) (by omega) (by decide) ?_
        have hX_21 : SF E g (va_up g1 (1 + 1) (aI E 0 32 (upd co1 (a + i) ((sh (a + i)))))) 1 (upd co1 (a + i) ((sh (a + i)))) pi π ρ V U (v4 (nI (rc S.r)) (nI (gc S.r)) (nI (nn (S.r 156))) (nI (nn (S.r 157)))) := hX1.upco _
        generalize (va_up g1 (1 + 1) (aI E 0 32 (upd co1 (a + i) ((sh (a + i)))))) = g_21 at hX_21 ⊢
        refine y_iinc_n hC dX5_setShades_22 (a := a + i) (k := 1) rfl (by decide) (Nat.le_of_ble_eq_true rfl) rfl (lo' := [some (rf E (0)), some (.int (nI (a))), some (.int (nI (c))), some (.int (nI (a + i + 1)))]) rfl ?_
        refine y_goto (tgt := 2) hC dX5_setShades_25 (by decide) ?_
        exact ih_2 (i + 1) g_21 _ (by omega) (by omega) hX_21 (fun k hk2 => by
            by_cases e : k = a + i
            · rw [e, pk_us, if_pos (by omega)]
            · rw [pk_un e, hk0 k hk2]
              by_cases q : a ≤ k ∧ k < a + i
              · rw [if_pos q, if_pos (by omega)]
              · rw [if_neg q, if_neg (by omega)])
  exact L_2 (c + 2) 0 g co (by omega) (by omega) hX (fun k hk => by rw [if_neg (by omega)]; exact e1 k hk)

theorem dX5_addRange_0 : decode cX5_addRange 0 = .ok (.iload_n 1, 1) := by decide +kernel
theorem dX5_addRange_1 : decode cX5_addRange 1 = .ok (.invokestatic 41, 3) := by decide +kernel
theorem dX5_addRange_4 : decode cX5_addRange 4 = .ok (.ifCond .ne 5, 3) := by decide +kernel
theorem dX5_addRange_7 : decode cX5_addRange 7 = .ok (.iconst (-1), 1) := by decide +kernel
theorem dX5_addRange_8 : decode cX5_addRange 8 = .ok (.ireturn, 1) := by decide +kernel
theorem dX5_addRange_9 : decode cX5_addRange 9 = .ok (.iload_n 2, 1) := by decide +kernel
theorem dX5_addRange_10 : decode cX5_addRange 10 = .ok (.invokestatic 41, 3) := by decide +kernel
theorem dX5_addRange_13 : decode cX5_addRange 13 = .ok (.ifCond .eq 23, 3) := by decide +kernel
theorem dX5_addRange_16 : decode cX5_addRange 16 = .ok (.iload_n 2, 1) := by decide +kernel
theorem dX5_addRange_17 : decode cX5_addRange 17 = .ok (.iload_n 1, 1) := by decide +kernel
theorem dX5_addRange_18 : decode cX5_addRange 18 = .ok (.if_icmp .le 18, 3) := by decide +kernel
theorem dX5_addRange_21 : decode cX5_addRange 21 = .ok (.iload_n 3, 1) := by decide +kernel
theorem dX5_addRange_22 : decode cX5_addRange 22 = .ok (.invokestatic 73, 3) := by decide +kernel
theorem dX5_addRange_25 : decode cX5_addRange 25 = .ok (.ifCond .eq 11, 3) := by decide +kernel
theorem dX5_addRange_28 : decode cX5_addRange 28 = .ok (.iload 4, 2) := by decide +kernel
theorem dX5_addRange_30 : decode cX5_addRange 30 = .ok (.invokestatic 76, 3) := by decide +kernel
theorem dX5_addRange_33 : decode cX5_addRange 33 = .ok (.ifCond .ne 6, 3) := by decide +kernel
theorem dX5_addRange_36 : decode cX5_addRange 36 = .ok (.bipush (-2), 2) := by decide +kernel
theorem dX5_addRange_38 : decode cX5_addRange 38 = .ok (.ireturn, 1) := by decide +kernel
theorem dX5_addRange_39 : decode cX5_addRange 39 = .ok (.aload_n 0, 1) := by decide +kernel
theorem dX5_addRange_40 : decode cX5_addRange 40 = .ok (.getfield 12, 3) := by decide +kernel
theorem dX5_addRange_43 : decode cX5_addRange 43 = .ok (.iload_n 1, 1) := by decide +kernel
theorem dX5_addRange_44 : decode cX5_addRange 44 = .ok (.iload_n 2, 1) := by decide +kernel
theorem dX5_addRange_45 : decode cX5_addRange 45 = .ok (.invokevirtual 79, 3) := by decide +kernel
theorem dX5_addRange_48 : decode cX5_addRange 48 = .ok (.ifCond .eq 6, 3) := by decide +kernel
theorem dX5_addRange_51 : decode cX5_addRange 51 = .ok (.bipush (-4), 2) := by decide +kernel
theorem dX5_addRange_53 : decode cX5_addRange 53 = .ok (.ireturn, 1) := by decide +kernel
theorem dX5_addRange_54 : decode cX5_addRange 54 = .ok (.aload_n 0, 1) := by decide +kernel
theorem dX5_addRange_55 : decode cX5_addRange 55 = .ok (.getfield 12, 3) := by decide +kernel
theorem dX5_addRange_58 : decode cX5_addRange 58 = .ok (.getfield 83, 3) := by decide +kernel
theorem dX5_addRange_61 : decode cX5_addRange 61 = .ok (.bipush 6, 2) := by decide +kernel
theorem dX5_addRange_63 : decode cX5_addRange 63 = .ok (.if_icmp .lt 6, 3) := by decide +kernel
theorem dX5_addRange_66 : decode cX5_addRange 66 = .ok (.bipush (-3), 2) := by decide +kernel
theorem dX5_addRange_68 : decode cX5_addRange 68 = .ok (.ireturn, 1) := by decide +kernel
theorem dX5_addRange_69 : decode cX5_addRange 69 = .ok (.aload_n 0, 1) := by decide +kernel
theorem dX5_addRange_70 : decode cX5_addRange 70 = .ok (.getfield 19, 3) := by decide +kernel
theorem dX5_addRange_73 : decode cX5_addRange 73 = .ok (.aload_n 0, 1) := by decide +kernel
theorem dX5_addRange_74 : decode cX5_addRange 74 = .ok (.getfield 12, 3) := by decide +kernel
theorem dX5_addRange_77 : decode cX5_addRange 77 = .ok (.invokevirtual 51, 3) := by decide +kernel
theorem dX5_addRange_80 : decode cX5_addRange 80 = .ok (.aload_n 0, 1) := by decide +kernel
theorem dX5_addRange_81 : decode cX5_addRange 81 = .ok (.getfield 12, 3) := by decide +kernel
theorem dX5_addRange_84 : decode cX5_addRange 84 = .ok (.iload_n 1, 1) := by decide +kernel
theorem dX5_addRange_85 : decode cX5_addRange 85 = .ok (.iload_n 2, 1) := by decide +kernel
theorem dX5_addRange_86 : decode cX5_addRange 86 = .ok (.iload_n 3, 1) := by decide +kernel
theorem dX5_addRange_87 : decode cX5_addRange 87 = .ok (.iload 4, 2) := by decide +kernel
theorem dX5_addRange_89 : decode cX5_addRange 89 = .ok (.invokevirtual 87, 3) := by decide +kernel
theorem dX5_addRange_92 : decode cX5_addRange 92 = .ok (.ireturn, 1) := by decide +kernel
set_option maxHeartbeats 4000000 in
set_option maxRecDepth 100000 in
theorem c_X5_addRange (l : Launch) (E : gE) (g : Mem) (S : AS) (B : Nat) (hB : B < 90000000) (ho : OK S B) (sh mk wa : Nat → Int32) (h : CQ E g S sh mk wa) (xa xb xs xw : Int32) : Mt l E yX5_addRange cX5_addRange 5 (some .int) 4 90 [rf E (0), .int (xa), .int (xb), .int (xs), .int (xw)] g (pI (fun z g' => z = (qAddRange S xa xb xs xw).1 ∧ CP E g' (qAddRange S xa xb xs xw).2)) := by
  have hK := h.k
  have hv := ho.v
  have hrc : rc S.r ≤ 6 := hv.1.2
  have hgc : gc S.r ≤ 4 := hv.2.1.2
  have hc4 := ho.c4
  refine mt_go (own := RX5) (by decide) rfl (lo := [some (rf E (0)), some (.int (xa)), some (.int (xb)), some (.int (xs)), some (.int (xw))]) rfl (Nat.le_of_ble_eq_true rfl) (fun X hC => ?_)
  obtain ⟨co, pi, π, ρ, V, U, hX, e1, e2, e3, e4⟩ := zStF (r := S.r) (B := B) h.sta hv
  refine y_iload_n hC dX5_addRange_0 (i := 1) rfl rfl ?_
  refine y_callS hC mX5_isPlace kX5_41 dX5_addRange_1 (As := [.int (xa)]) (rest := []) (c_X5_isPlace l E g ((xa))) rfl rfl rfl (Nat.le_of_ble_eq_true rfl) ⟨Nat.le_of_ble_eq_true rfl, Nat.le_of_ble_eq_true rfl⟩ (pk_i ?_)
  rintro r_1 g_1 ⟨hr_1, hq_1⟩
  obtain rfl := hq_1.symm
  rw [hr_1]
  clear hr_1 r_1
  refine y_if_ne_b (tgt := 9) hC dX5_addRange_4 (by decide) (fun c_4 => ?_) (fun c_4 => ?_)
  · obtain ⟨p, hp, hpx⟩ := zN (m := 31) c_4
    subst hpx
    refine y_iload_n hC dX5_addRange_9 (i := 2) rfl rfl ?_
    refine y_callS hC mX5_isPlace kX5_41 dX5_addRange_10 (As := [.int (xb)]) (rest := []) (c_X5_isPlace l E g ((xb))) rfl rfl rfl (Nat.le_of_ble_eq_true rfl) ⟨Nat.le_of_ble_eq_true rfl, Nat.le_of_ble_eq_true rfl⟩ (pk_i ?_)
    rintro r_10 g_10 ⟨hr_10, hq_10⟩
    obtain rfl := hq_10.symm
    rw [hr_10]
    clear hr_10 r_10
    refine y_if_eq_b (tgt := 36) hC dX5_addRange_13 (by decide) (fun c_13 => ?_) (fun c_13 => ?_)
    · refine y_bipush (v := (-2)) hC dX5_addRange_36 (by decide) ?_
      refine y_iret (hC := hC) (hd := dX5_addRange_38) (hq := ?_)
      have hqq : qAddRange S (nI p) xb xs xw = (-2, S) := by simp only [qAddRange, nn_I (show p < 2147483648 by omega), if_pos c_4]; exact if_neg (fun q => c_13 q.1.1)
      rw [hqq]
      exact ⟨rfl, h.cp⟩
    · obtain ⟨q, hq, hqx⟩ := zN (m := 31) c_13
      subst hqx
      refine y_iload_n hC dX5_addRange_16 (i := 2) rfl rfl ?_
      refine y_iload_n hC dX5_addRange_17 (i := 1) rfl rfl ?_
      refine y_icmp_le_n (tgt := 36) hC dX5_addRange_18 (by decide) (by omega) (by omega) (fun c_18 => ?_) (fun c_18 => ?_)
      · refine y_bipush (v := (-2)) hC dX5_addRange_36 (by decide) ?_
        refine y_iret (hC := hC) (hd := dX5_addRange_38) (hq := ?_)
        have hqq : qAddRange S (nI p) (nI q) xs xw = (-2, S) := by simp only [qAddRange, nn_I (show p < 2147483648 by omega), nn_I (show q < 2147483648 by omega), if_pos c_4]; exact if_neg (fun q => absurd q.1.2 (by omega))
        rw [hqq]
        exact ⟨rfl, h.cp⟩
      · refine y_iload_n hC dX5_addRange_21 (i := 3) rfl rfl ?_
        refine y_callS hC mX5_isLength kX5_73 dX5_addRange_22 (As := [.int (xs)]) (rest := []) (c_X5_isLength l E g ((xs))) rfl rfl rfl (Nat.le_of_ble_eq_true rfl) ⟨Nat.le_of_ble_eq_true rfl, Nat.le_of_ble_eq_true rfl⟩ (pk_i ?_)
        rintro r_22 g_22 ⟨hr_22, hq_22⟩
        obtain rfl := hq_22.symm
        rw [hr_22]
        clear hr_22 r_22
        refine y_if_eq_b (tgt := 36) hC dX5_addRange_25 (by decide) (fun c_25 => ?_) (fun c_25 => ?_)
        · refine y_bipush (v := (-2)) hC dX5_addRange_36 (by decide) ?_
          refine y_iret (hC := hC) (hd := dX5_addRange_38) (hq := ?_)
          have hqq : qAddRange S (nI p) (nI q) xs xw = (-2, S) := by simp only [qAddRange, nn_I (show p < 2147483648 by omega), nn_I (show q < 2147483648 by omega), if_pos c_4]; exact if_neg (fun q => c_25 q.2.1)
          rw [hqq]
          exact ⟨rfl, h.cp⟩
        · refine y_iload hC dX5_addRange_28 rfl ?_
          refine y_callS hC mX5_isWay kX5_76 dX5_addRange_30 (As := [.int (xw)]) (rest := []) (c_X5_isWay l E g ((xw))) rfl rfl rfl (Nat.le_of_ble_eq_true rfl) ⟨Nat.le_of_ble_eq_true rfl, Nat.le_of_ble_eq_true rfl⟩ (pk_i ?_)
          rintro r_30 g_30 ⟨hr_30, hq_30⟩
          obtain rfl := hq_30.symm
          rw [hr_30]
          clear hr_30 r_30
          refine y_if_ne_b (tgt := 39) hC dX5_addRange_33 (by decide) (fun c_33 => ?_) (fun c_33 => ?_)
          · refine y_aload_n hC dX5_addRange_39 (i := 0) rfl rfl ?_
            refine y_get hC fX5_12 dX5_addRange_40 (k := 0) (by omega) h.a0 rfl ?_
            refine y_iload_n hC dX5_addRange_43 (i := 1) rfl rfl ?_
            refine y_iload_n hC dX5_addRange_44 (i := 2) rfl rfl ?_
            refine y_callV hC mX4_hasRangeBetween kX5_79 dX5_addRange_45 (b := 1) (As := [.int (nI (p)), .int (nI (q))]) (rest := []) (c_X4_hasRangeBetween l E g 1 S.r B (by omega) h.sta hv p q (by omega) (by omega)) (hX.k (k := 0) (by decide)) hX.s0 rfl rfl rfl (Nat.le_of_ble_eq_true rfl) ⟨Nat.le_of_ble_eq_true rfl, Nat.le_of_ble_eq_true rfl⟩ (pk_i ?_)
            rintro r_45 g_45 ⟨hr_45, hq_45⟩
            obtain rfl := hq_45.symm
            rw [hr_45]
            clear hr_45 r_45
            refine y_if_eq_b (tgt := 54) hC dX5_addRange_48 (by decide) (fun c_48 => ?_) (fun c_48 => ?_)
            · refine y_aload_n hC dX5_addRange_54 (i := 0) rfl rfl ?_
              refine y_get hC fX5_12 dX5_addRange_55 (k := 0) (by omega) h.a0 rfl ?_
              refine y_get hC fX5_83 dX5_addRange_58 (k := 1) (hX.k (k := 0) (by decide)) hX.s0 rfl ?_
              refine y_bipush (v := nI 6) hC dX5_addRange_61 (by decide) ?_
              refine y_icmp_lt_n (tgt := 69) hC dX5_addRange_63 (by decide) (by omega) (by omega) (fun c_63 => ?_) (fun c_63 => ?_)
              · refine y_aload_n hC dX5_addRange_69 (i := 0) rfl rfl ?_
                refine y_get hC fX5_19 dX5_addRange_70 (k := 0) (by omega) h.a0 rfl ?_
                refine y_aload_n hC dX5_addRange_73 (i := 0) rfl rfl ?_
                refine y_get hC fX5_12 dX5_addRange_74 (k := 0) (by omega) h.a0 rfl ?_
                refine y_callV hC mX1_record kX5_51 dX5_addRange_77 (b := 16) (As := [rf E (1)]) (rest := []) (c_X1_record l E g S.c S.kp S.hr S.sn S.r B h.ha h.sta hv) (by omega) h.a16 rfl rfl rfl (Nat.le_of_ble_eq_true rfl) ⟨Nat.le_of_ble_eq_true rfl, Nat.le_of_ble_eq_true rfl⟩ (pk_v ?_)
                rintro g_77 hrec_77
                have hq_77 := h.uprec hrec_77
                obtain ⟨co_77, pi_77, π_77, ρ_77, V_77, U_77, hX_77, e1_77, e2_77, e3_77, e4_77⟩ := zStF (r := S.r) (B := B) hq_77.sta hv
                refine y_aload_n hC dX5_addRange_80 (i := 0) rfl rfl ?_
                refine y_get hC fX5_12 dX5_addRange_81 (k := 0) (by omega) hq_77.a0 rfl ?_
                refine y_iload_n hC dX5_addRange_84 (i := 1) rfl rfl ?_
                refine y_iload_n hC dX5_addRange_85 (i := 2) rfl rfl ?_
                refine y_iload_n hC dX5_addRange_86 (i := 3) rfl rfl ?_
                refine y_iload hC dX5_addRange_87 rfl ?_
                refine y_callV hC mX4_appendRange kX5_87 dX5_addRange_89 (b := 1) (As := [.int (nI (p)), .int (nI (q)), .int (xs), .int (xw)]) (rest := []) (c_X4_appendRange l E g_77 1 S.r B (by omega) hq_77.sta hv (nI p) (nI q) xs xw c_63) (hX_77.k (k := 0) (by decide)) hX_77.s0 rfl rfl rfl (Nat.le_of_ble_eq_true rfl) ⟨Nat.le_of_ble_eq_true rfl, Nat.le_of_ble_eq_true rfl⟩ (pk_i ?_)
                rintro rz g_89 ⟨hz, hst, hfr⟩
                rw [hz]
                refine y_iret (hC := hC) (hd := dX5_addRange_92) (hq := ?_)
                have hqq : qAddRange S (nI p) (nI q) xs xw = (nI (rc S.r), S.rec.row (addR S.r (nI p) (nI q) xs xw)) := by simp only [qAddRange, nn_I (show p < 2147483648 by omega), nn_I (show q < 2147483648 by omega), if_pos c_4, if_pos (show ((0 ≤ (nI q).toInt ∧ (nI q).toInt ≤ 31) ∧ p < q) ∧ (1 ≤ xs.toInt ∧ xs.toInt ≤ 30) ∧ 0 ≤ xw.toInt ∧ xw.toInt ≤ 2 from ⟨⟨c_13, by omega⟩, c_25, c_33⟩), if_neg c_48, if_pos c_63]
                rw [hqq]
                exact ⟨rfl, (hq_77.upst hst hfr).cp⟩
              · refine y_bipush (v := (-3)) hC dX5_addRange_66 (by decide) ?_
                refine y_iret (hC := hC) (hd := dX5_addRange_68) (hq := ?_)
                have hqq : qAddRange S (nI p) (nI q) xs xw = (-3, S) := by simp only [qAddRange, nn_I (show p < 2147483648 by omega), nn_I (show q < 2147483648 by omega), if_pos c_4, if_pos (show ((0 ≤ (nI q).toInt ∧ (nI q).toInt ≤ 31) ∧ p < q) ∧ (1 ≤ xs.toInt ∧ xs.toInt ≤ 30) ∧ 0 ≤ xw.toInt ∧ xw.toInt ≤ 2 from ⟨⟨c_13, by omega⟩, c_25, c_33⟩), if_neg c_48, if_neg c_63]
                rw [hqq]
                exact ⟨rfl, h.cp⟩
            · refine y_bipush (v := (-4)) hC dX5_addRange_51 (by decide) ?_
              refine y_iret (hC := hC) (hd := dX5_addRange_53) (hq := ?_)
              have hqq : qAddRange S (nI p) (nI q) xs xw = (-4, S) := by simp only [qAddRange, nn_I (show p < 2147483648 by omega), nn_I (show q < 2147483648 by omega), if_pos c_4, if_pos (show ((0 ≤ (nI q).toInt ∧ (nI q).toInt ≤ 31) ∧ p < q) ∧ (1 ≤ xs.toInt ∧ xs.toInt ≤ 30) ∧ 0 ≤ xw.toInt ∧ xw.toInt ≤ 2 from ⟨⟨c_13, by omega⟩, c_25, c_33⟩), if_pos c_48]
              rw [hqq]
              exact ⟨rfl, h.cp⟩
          · refine y_bipush (v := (-2)) hC dX5_addRange_36 (by decide) ?_
            refine y_iret (hC := hC) (hd := dX5_addRange_38) (hq := ?_)
            have hqq : qAddRange S (nI p) (nI q) xs xw = (-2, S) := by simp only [qAddRange, nn_I (show p < 2147483648 by omega), nn_I (show q < 2147483648 by omega), if_pos c_4]; exact if_neg (fun q => c_33 q.2.2)
            rw [hqq]
            exact ⟨rfl, h.cp⟩
  · refine y_iconst (v := (-1)) hC dX5_addRange_7 (by decide) ?_
    refine y_iret (hC := hC) (hd := dX5_addRange_8) (hq := ?_)
    have hqq : qAddRange S xa xb xs xw = (-1, S) := by simp only [qAddRange, if_neg c_4]
    rw [hqq]
    exact ⟨rfl, h.cp⟩

theorem dX5_removeRange_0 : decode cX5_removeRange 0 = .ok (.aload_n 0, 1) := by decide +kernel
theorem dX5_removeRange_1 : decode cX5_removeRange 1 = .ok (.iload_n 1, 1) := by decide +kernel
theorem dX5_removeRange_2 : decode cX5_removeRange 2 = .ok (.invokevirtual 90, 3) := by decide +kernel
theorem dX5_removeRange_5 : decode cX5_removeRange 5 = .ok (.ifCond .ne 5, 3) := by decide +kernel
theorem dX5_removeRange_8 : decode cX5_removeRange 8 = .ok (.iconst (-1), 1) := by decide +kernel
theorem dX5_removeRange_9 : decode cX5_removeRange 9 = .ok (.ireturn, 1) := by decide +kernel
theorem dX5_removeRange_10 : decode cX5_removeRange 10 = .ok (.aload_n 0, 1) := by decide +kernel
theorem dX5_removeRange_11 : decode cX5_removeRange 11 = .ok (.getfield 19, 3) := by decide +kernel
theorem dX5_removeRange_14 : decode cX5_removeRange 14 = .ok (.aload_n 0, 1) := by decide +kernel
theorem dX5_removeRange_15 : decode cX5_removeRange 15 = .ok (.getfield 12, 3) := by decide +kernel
theorem dX5_removeRange_18 : decode cX5_removeRange 18 = .ok (.invokevirtual 51, 3) := by decide +kernel
theorem dX5_removeRange_21 : decode cX5_removeRange 21 = .ok (.aload_n 0, 1) := by decide +kernel
theorem dX5_removeRange_22 : decode cX5_removeRange 22 = .ok (.getfield 12, 3) := by decide +kernel
theorem dX5_removeRange_25 : decode cX5_removeRange 25 = .ok (.iload_n 1, 1) := by decide +kernel
theorem dX5_removeRange_26 : decode cX5_removeRange 26 = .ok (.invokevirtual 93, 3) := by decide +kernel
theorem dX5_removeRange_29 : decode cX5_removeRange 29 = .ok (.aload_n 0, 1) := by decide +kernel
theorem dX5_removeRange_30 : decode cX5_removeRange 30 = .ok (.getfield 12, 3) := by decide +kernel
theorem dX5_removeRange_33 : decode cX5_removeRange 33 = .ok (.getfield 83, 3) := by decide +kernel
theorem dX5_removeRange_36 : decode cX5_removeRange 36 = .ok (.ireturn, 1) := by decide +kernel
set_option maxHeartbeats 4000000 in
set_option maxRecDepth 100000 in
theorem c_X5_removeRange (l : Launch) (E : gE) (g : Mem) (S : AS) (B : Nat) (hB : B < 90000000) (ho : OK S B) (sh mk wa : Nat → Int32) (h : CQ E g S sh mk wa) (xa : Int32) : Mt l E yX5_removeRange cX5_removeRange 2 (some .int) 3 69 [rf E (0), .int (xa)] g (pI (fun z g' => z = (qRemoveRange S xa).1 ∧ CP E g' (qRemoveRange S xa).2)) := by
  have hK := h.k
  have hv := ho.v
  have hrc : rc S.r ≤ 6 := hv.1.2
  have hgc : gc S.r ≤ 4 := hv.2.1.2
  have hc4 := ho.c4
  refine mt_go (own := RX5) (by decide) rfl (lo := [some (rf E (0)), some (.int (xa))]) rfl (Nat.le_of_ble_eq_true rfl) (fun X hC => ?_)
  obtain ⟨co, pi, π, ρ, V, U, hX, e1, e2, e3, e4⟩ := zStF (r := S.r) (B := B) h.sta hv
  refine y_aload_n hC dX5_removeRange_0 (i := 0) rfl rfl ?_
  refine y_iload_n hC dX5_removeRange_1 (i := 1) rfl rfl ?_
  refine y_callV hC mX5_isRange kX5_90 dX5_removeRange_2 (b := 0) (As := [.int (xa)]) (rest := []) (c_X5_isRange l E g S B hB ho sh mk wa h ((xa))) (by omega) h.a0 rfl rfl rfl (Nat.le_of_ble_eq_true rfl) ⟨Nat.le_of_ble_eq_true rfl, Nat.le_of_ble_eq_true rfl⟩ (pk_i ?_)
  rintro r_2 g_2 ⟨hr_2, hq_2⟩
  obtain rfl := hq_2.symm
  rw [hr_2]
  clear hr_2 r_2
  refine y_if_ne_b (tgt := 10) hC dX5_removeRange_5 (by decide) (fun c_5 => ?_) (fun c_5 => ?_)
  · obtain ⟨a, ha, hax⟩ := zNl (m := rc S.r) c_5
    subst hax
    refine y_aload_n hC dX5_removeRange_10 (i := 0) rfl rfl ?_
    refine y_get hC fX5_19 dX5_removeRange_11 (k := 0) (by omega) h.a0 rfl ?_
    refine y_aload_n hC dX5_removeRange_14 (i := 0) rfl rfl ?_
    refine y_get hC fX5_12 dX5_removeRange_15 (k := 0) (by omega) h.a0 rfl ?_
    refine y_callV hC mX1_record kX5_51 dX5_removeRange_18 (b := 16) (As := [rf E (1)]) (rest := []) (c_X1_record l E g S.c S.kp S.hr S.sn S.r B h.ha h.sta hv) (by omega) h.a16 rfl rfl rfl (Nat.le_of_ble_eq_true rfl) ⟨Nat.le_of_ble_eq_true rfl, Nat.le_of_ble_eq_true rfl⟩ (pk_v ?_)
    rintro g_18 hrec_18
    have hq_18 := h.uprec hrec_18
    obtain ⟨co_18, pi_18, π_18, ρ_18, V_18, U_18, hX_18, e1_18, e2_18, e3_18, e4_18⟩ := zStF (r := S.r) (B := B) hq_18.sta hv
    refine y_aload_n hC dX5_removeRange_21 (i := 0) rfl rfl ?_
    refine y_get hC fX5_12 dX5_removeRange_22 (k := 0) (by omega) hq_18.a0 rfl ?_
    refine y_iload_n hC dX5_removeRange_25 (i := 1) rfl rfl ?_
    refine y_callV hC mX4_dropRange kX5_93 dX5_removeRange_26 (b := 1) (As := [.int (nI (a))]) (rest := []) (c_X4_dropRange l E g_18 1 S.r B (by omega) hq_18.sta hv a (by omega)) (hX_18.k (k := 0) (by decide)) hX_18.s0 rfl rfl rfl (Nat.le_of_ble_eq_true rfl) ⟨Nat.le_of_ble_eq_true rfl, Nat.le_of_ble_eq_true rfl⟩ (pk_v ?_)
    rintro g_26 ⟨hst, hfr⟩
    have hq_n := hq_18.upst hst hfr
    refine y_aload_n hC dX5_removeRange_29 (i := 0) rfl rfl ?_
    refine y_get hC fX5_12 dX5_removeRange_30 (k := 0) (by omega) hq_n.a0 rfl ?_
    refine y_get hC fX5_83 dX5_removeRange_33 (k := 1) (by omega) hst.f1 rfl ?_
    refine y_top (y := nI (rc S.r - 1)) (if_pos rfl) ?_
    refine y_iret (hC := hC) (hd := dX5_removeRange_36) (hq := ?_)
    have hqq : qRemoveRange S (nI a) = (nI (rc S.r - 1), S.rec.row (remR S.r a)) := by simp only [qRemoveRange, nn_I (show a < 2147483648 by omega), if_pos c_5]
    rw [hqq]
    exact ⟨rfl, hq_n.cp⟩
  · refine y_iconst (v := (-1)) hC dX5_removeRange_8 (by decide) ?_
    refine y_iret (hC := hC) (hd := dX5_removeRange_9) (hq := ?_)
    have hqq : qRemoveRange S xa = (-1, S) := by simp only [qRemoveRange, if_neg c_5]
    rw [hqq]
    exact ⟨rfl, h.cp⟩

theorem dX5_removeGlow_0 : decode cX5_removeGlow 0 = .ok (.aload_n 0, 1) := by decide +kernel
theorem dX5_removeGlow_1 : decode cX5_removeGlow 1 = .ok (.iload_n 1, 1) := by decide +kernel
theorem dX5_removeGlow_2 : decode cX5_removeGlow 2 = .ok (.invokevirtual 128, 3) := by decide +kernel
theorem dX5_removeGlow_5 : decode cX5_removeGlow 5 = .ok (.ifCond .ne 5, 3) := by decide +kernel
theorem dX5_removeGlow_8 : decode cX5_removeGlow 8 = .ok (.iconst (-1), 1) := by decide +kernel
theorem dX5_removeGlow_9 : decode cX5_removeGlow 9 = .ok (.ireturn, 1) := by decide +kernel
theorem dX5_removeGlow_10 : decode cX5_removeGlow 10 = .ok (.aload_n 0, 1) := by decide +kernel
theorem dX5_removeGlow_11 : decode cX5_removeGlow 11 = .ok (.getfield 19, 3) := by decide +kernel
theorem dX5_removeGlow_14 : decode cX5_removeGlow 14 = .ok (.aload_n 0, 1) := by decide +kernel
theorem dX5_removeGlow_15 : decode cX5_removeGlow 15 = .ok (.getfield 12, 3) := by decide +kernel
theorem dX5_removeGlow_18 : decode cX5_removeGlow 18 = .ok (.invokevirtual 51, 3) := by decide +kernel
theorem dX5_removeGlow_21 : decode cX5_removeGlow 21 = .ok (.aload_n 0, 1) := by decide +kernel
theorem dX5_removeGlow_22 : decode cX5_removeGlow 22 = .ok (.getfield 12, 3) := by decide +kernel
theorem dX5_removeGlow_25 : decode cX5_removeGlow 25 = .ok (.iload_n 1, 1) := by decide +kernel
theorem dX5_removeGlow_26 : decode cX5_removeGlow 26 = .ok (.invokevirtual 131, 3) := by decide +kernel
theorem dX5_removeGlow_29 : decode cX5_removeGlow 29 = .ok (.aload_n 0, 1) := by decide +kernel
theorem dX5_removeGlow_30 : decode cX5_removeGlow 30 = .ok (.getfield 12, 3) := by decide +kernel
theorem dX5_removeGlow_33 : decode cX5_removeGlow 33 = .ok (.getfield 121, 3) := by decide +kernel
theorem dX5_removeGlow_36 : decode cX5_removeGlow 36 = .ok (.ireturn, 1) := by decide +kernel
set_option maxHeartbeats 4000000 in
set_option maxRecDepth 100000 in
theorem c_X5_removeGlow (l : Launch) (E : gE) (g : Mem) (S : AS) (B : Nat) (hB : B < 90000000) (ho : OK S B) (sh mk wa : Nat → Int32) (h : CQ E g S sh mk wa) (xa : Int32) : Mt l E yX5_removeGlow cX5_removeGlow 2 (some .int) 3 69 [rf E (0), .int (xa)] g (pI (fun z g' => z = (qRemoveGlow S xa).1 ∧ CP E g' (qRemoveGlow S xa).2)) := by
  have hK := h.k
  have hv := ho.v
  have hrc : rc S.r ≤ 6 := hv.1.2
  have hgc : gc S.r ≤ 4 := hv.2.1.2
  have hc4 := ho.c4
  refine mt_go (own := RX5) (by decide) rfl (lo := [some (rf E (0)), some (.int (xa))]) rfl (Nat.le_of_ble_eq_true rfl) (fun X hC => ?_)
  obtain ⟨co, pi, π, ρ, V, U, hX, e1, e2, e3, e4⟩ := zStF (r := S.r) (B := B) h.sta hv
  refine y_aload_n hC dX5_removeGlow_0 (i := 0) rfl rfl ?_
  refine y_iload_n hC dX5_removeGlow_1 (i := 1) rfl rfl ?_
  refine y_callV hC mX5_isGlow kX5_128 dX5_removeGlow_2 (b := 0) (As := [.int (xa)]) (rest := []) (c_X5_isGlow l E g S B hB ho sh mk wa h ((xa))) (by omega) h.a0 rfl rfl rfl (Nat.le_of_ble_eq_true rfl) ⟨Nat.le_of_ble_eq_true rfl, Nat.le_of_ble_eq_true rfl⟩ (pk_i ?_)
  rintro r_2 g_2 ⟨hr_2, hq_2⟩
  obtain rfl := hq_2.symm
  rw [hr_2]
  clear hr_2 r_2
  refine y_if_ne_b (tgt := 10) hC dX5_removeGlow_5 (by decide) (fun c_5 => ?_) (fun c_5 => ?_)
  · obtain ⟨a, ha, hax⟩ := zNl (m := gc S.r) c_5
    subst hax
    refine y_aload_n hC dX5_removeGlow_10 (i := 0) rfl rfl ?_
    refine y_get hC fX5_19 dX5_removeGlow_11 (k := 0) (by omega) h.a0 rfl ?_
    refine y_aload_n hC dX5_removeGlow_14 (i := 0) rfl rfl ?_
    refine y_get hC fX5_12 dX5_removeGlow_15 (k := 0) (by omega) h.a0 rfl ?_
    refine y_callV hC mX1_record kX5_51 dX5_removeGlow_18 (b := 16) (As := [rf E (1)]) (rest := []) (c_X1_record l E g S.c S.kp S.hr S.sn S.r B h.ha h.sta hv) (by omega) h.a16 rfl rfl rfl (Nat.le_of_ble_eq_true rfl) ⟨Nat.le_of_ble_eq_true rfl, Nat.le_of_ble_eq_true rfl⟩ (pk_v ?_)
    rintro g_18 hrec_18
    have hq_18 := h.uprec hrec_18
    obtain ⟨co_18, pi_18, π_18, ρ_18, V_18, U_18, hX_18, e1_18, e2_18, e3_18, e4_18⟩ := zStF (r := S.r) (B := B) hq_18.sta hv
    refine y_aload_n hC dX5_removeGlow_21 (i := 0) rfl rfl ?_
    refine y_get hC fX5_12 dX5_removeGlow_22 (k := 0) (by omega) hq_18.a0 rfl ?_
    refine y_iload_n hC dX5_removeGlow_25 (i := 1) rfl rfl ?_
    refine y_callV hC mX4_dropGlow kX5_131 dX5_removeGlow_26 (b := 1) (As := [.int (nI (a))]) (rest := []) (c_X4_dropGlow l E g_18 1 S.r B (by omega) hq_18.sta hv a (by omega)) (hX_18.k (k := 0) (by decide)) hX_18.s0 rfl rfl rfl (Nat.le_of_ble_eq_true rfl) ⟨Nat.le_of_ble_eq_true rfl, Nat.le_of_ble_eq_true rfl⟩ (pk_v ?_)
    rintro g_26 ⟨hst, hfr⟩
    have hq_n := hq_18.upst hst hfr
    refine y_aload_n hC dX5_removeGlow_29 (i := 0) rfl rfl ?_
    refine y_get hC fX5_12 dX5_removeGlow_30 (k := 0) (by omega) hq_n.a0 rfl ?_
    refine y_get hC fX5_121 dX5_removeGlow_33 (k := 1) (by omega) hst.f1 rfl ?_
    refine y_top (y := nI (gc S.r - 1)) (if_pos rfl) ?_
    refine y_iret (hC := hC) (hd := dX5_removeGlow_36) (hq := ?_)
    have hqq : qRemoveGlow S (nI a) = (nI (gc S.r - 1), S.rec.row (remG S.r a)) := by simp only [qRemoveGlow, nn_I (show a < 2147483648 by omega), if_pos c_5]
    rw [hqq]
    exact ⟨rfl, hq_n.cp⟩
  · refine y_iconst (v := (-1)) hC dX5_removeGlow_8 (by decide) ?_
    refine y_iret (hC := hC) (hd := dX5_removeGlow_9) (hq := ?_)
    have hqq : qRemoveGlow S xa = (-1, S) := by simp only [qRemoveGlow, if_neg c_5]
    rw [hqq]
    exact ⟨rfl, h.cp⟩

theorem spd_o {r : Row} {a k : Nat} {s w : Int32} (hk : k < 33 + 7 * a ∨ 40 + 7 * a ≤ k) : spdR r a s w k = r k := by
  unfold spdR
  rw [if_neg (by omega), if_neg (by omega), if_neg (by omega), if_neg (by omega)]
theorem spd_v {r : Row} {a : Nat} {s w : Int32} (q1 : ∀ j, j < 7 → r (33 + 7 * a + j) = nI (rg r a j)) : ∀ j, j < 7 → v7 (nI (rg r a 0)) (nI (rg r a 1)) s w (nI (rg r a 4)) (nI 0) (nI 0) j = spdR r a s w (33 + 7 * a + j) := by
  have hr : ∀ k, k ≠ 35 + 7 * a → k ≠ 36 + 7 * a → k ≠ 38 + 7 * a → k ≠ 39 + 7 * a → spdR r a s w k = r k := fun k h1 h2 h3 h4 => by unfold spdR; rw [if_neg h1, if_neg h2, if_neg h3, if_neg h4]
  refine v7_j (f := fun j => spdR r a s w (33 + 7 * a + j)) ?_ ?_ ?_ ?_ ?_ ?_ ?_
  · exact ((hr _ (by omega) (by omega) (by omega) (by omega)).trans (q1 0 (by decide))).symm
  · exact ((hr _ (by omega) (by omega) (by omega) (by omega)).trans (q1 1 (by decide))).symm
  · exact (if_pos (by omega)).symm
  · exact ((if_neg (by omega)).trans (if_pos (by omega))).symm
  · exact ((hr _ (by omega) (by omega) (by omega) (by omega)).trans (q1 4 (by decide))).symm
  · exact ((if_neg (by omega)).trans ((if_neg (by omega)).trans (if_pos (by omega)))).symm
  · exact ((if_neg (by omega)).trans ((if_neg (by omega)).trans ((if_neg (by omega)).trans (if_pos (by omega))))).symm
theorem run_v {r : Row} {a z : Nat} (q1 : ∀ j, j < 7 → r (33 + 7 * a + j) = nI (rg r a j)) : ∀ j, j < 7 → v7 (nI (rg r a 0)) (nI (rg r a 1)) (nI (rg r a 2)) (nI (rg r a 3)) (nI z) (nI (rg r a 5)) (nI (rg r a 6)) j = upd r (37 + 7 * a) (nI z) (33 + 7 * a + j) := by
  refine v7_j (f := fun j => upd r (37 + 7 * a) (nI z) (33 + 7 * a + j)) ?_ ?_ ?_ ?_ ?_ ?_ ?_
  · exact ((pk_un (by omega)).trans (q1 0 (by decide))).symm
  · exact ((pk_un (by omega)).trans (q1 1 (by decide))).symm
  · exact ((pk_un (by omega)).trans (q1 2 (by decide))).symm
  · exact ((pk_un (by omega)).trans (q1 3 (by decide))).symm
  · show nI z = upd r (37 + 7 * a) (nI z) (33 + 7 * a + 4)
    rw [show 33 + 7 * a + 4 = 37 + 7 * a by omega, pk_us]
  · exact ((pk_un (by omega)).trans (q1 5 (by decide))).symm
  · exact ((pk_un (by omega)).trans (q1 6 (by decide))).symm
theorem dX5_setSpeed_0 : decode cX5_setSpeed 0 = .ok (.aload_n 0, 1) := by decide +kernel
theorem dX5_setSpeed_1 : decode cX5_setSpeed 1 = .ok (.iload_n 1, 1) := by decide +kernel
theorem dX5_setSpeed_2 : decode cX5_setSpeed 2 = .ok (.invokevirtual 90, 3) := by decide +kernel
theorem dX5_setSpeed_5 : decode cX5_setSpeed 5 = .ok (.ifCond .ne 5, 3) := by decide +kernel
theorem dX5_setSpeed_8 : decode cX5_setSpeed 8 = .ok (.iconst (-1), 1) := by decide +kernel
theorem dX5_setSpeed_9 : decode cX5_setSpeed 9 = .ok (.ireturn, 1) := by decide +kernel
theorem dX5_setSpeed_10 : decode cX5_setSpeed 10 = .ok (.iload_n 2, 1) := by decide +kernel
theorem dX5_setSpeed_11 : decode cX5_setSpeed 11 = .ok (.invokestatic 73, 3) := by decide +kernel
theorem dX5_setSpeed_14 : decode cX5_setSpeed 14 = .ok (.ifCond .eq 10, 3) := by decide +kernel
theorem dX5_setSpeed_17 : decode cX5_setSpeed 17 = .ok (.iload_n 3, 1) := by decide +kernel
theorem dX5_setSpeed_18 : decode cX5_setSpeed 18 = .ok (.invokestatic 76, 3) := by decide +kernel
theorem dX5_setSpeed_21 : decode cX5_setSpeed 21 = .ok (.ifCond .ne 6, 3) := by decide +kernel
theorem dX5_setSpeed_24 : decode cX5_setSpeed 24 = .ok (.bipush (-2), 2) := by decide +kernel
theorem dX5_setSpeed_26 : decode cX5_setSpeed 26 = .ok (.ireturn, 1) := by decide +kernel
theorem dX5_setSpeed_27 : decode cX5_setSpeed 27 = .ok (.aload_n 0, 1) := by decide +kernel
theorem dX5_setSpeed_28 : decode cX5_setSpeed 28 = .ok (.getfield 19, 3) := by decide +kernel
theorem dX5_setSpeed_31 : decode cX5_setSpeed 31 = .ok (.aload_n 0, 1) := by decide +kernel
theorem dX5_setSpeed_32 : decode cX5_setSpeed 32 = .ok (.getfield 12, 3) := by decide +kernel
theorem dX5_setSpeed_35 : decode cX5_setSpeed 35 = .ok (.invokevirtual 51, 3) := by decide +kernel
theorem dX5_setSpeed_38 : decode cX5_setSpeed 38 = .ok (.aload_n 0, 1) := by decide +kernel
theorem dX5_setSpeed_39 : decode cX5_setSpeed 39 = .ok (.getfield 12, 3) := by decide +kernel
theorem dX5_setSpeed_42 : decode cX5_setSpeed 42 = .ok (.getfield 97, 3) := by decide +kernel
theorem dX5_setSpeed_45 : decode cX5_setSpeed 45 = .ok (.iload_n 1, 1) := by decide +kernel
theorem dX5_setSpeed_46 : decode cX5_setSpeed 46 = .ok (.aaload, 1) := by decide +kernel
theorem dX5_setSpeed_47 : decode cX5_setSpeed 47 = .ok (.getfield 101, 3) := by decide +kernel
theorem dX5_setSpeed_50 : decode cX5_setSpeed 50 = .ok (.istore 4, 2) := by decide +kernel
theorem dX5_setSpeed_52 : decode cX5_setSpeed 52 = .ok (.aload_n 0, 1) := by decide +kernel
theorem dX5_setSpeed_53 : decode cX5_setSpeed 53 = .ok (.getfield 12, 3) := by decide +kernel
theorem dX5_setSpeed_56 : decode cX5_setSpeed 56 = .ok (.getfield 97, 3) := by decide +kernel
theorem dX5_setSpeed_59 : decode cX5_setSpeed 59 = .ok (.iload_n 1, 1) := by decide +kernel
theorem dX5_setSpeed_60 : decode cX5_setSpeed 60 = .ok (.aaload, 1) := by decide +kernel
theorem dX5_setSpeed_61 : decode cX5_setSpeed 61 = .ok (.iload_n 2, 1) := by decide +kernel
theorem dX5_setSpeed_62 : decode cX5_setSpeed 62 = .ok (.iload_n 3, 1) := by decide +kernel
theorem dX5_setSpeed_63 : decode cX5_setSpeed 63 = .ok (.invokevirtual 106, 3) := by decide +kernel
theorem dX5_setSpeed_66 : decode cX5_setSpeed 66 = .ok (.iload 4, 2) := by decide +kernel
theorem dX5_setSpeed_68 : decode cX5_setSpeed 68 = .ok (.ireturn, 1) := by decide +kernel
set_option maxHeartbeats 4000000 in
set_option maxRecDepth 100000 in
theorem c_X5_setSpeed (l : Launch) (E : gE) (g : Mem) (S : AS) (B : Nat) (hB : B < 90000000) (ho : OK S B) (sh mk wa : Nat → Int32) (h : CQ E g S sh mk wa) (xa xs xw : Int32) : Mt l E yX5_setSpeed cX5_setSpeed 5 (some .int) 3 69 [rf E (0), .int (xa), .int (xs), .int (xw)] g (pI (fun z g' => z = (qSetSpeed S xa xs xw).1 ∧ CP E g' (qSetSpeed S xa xs xw).2)) := by
  have hK := h.k
  have hv := ho.v
  have hrc : rc S.r ≤ 6 := hv.1.2
  have hgc : gc S.r ≤ 4 := hv.2.1.2
  have hc4 := ho.c4
  refine mt_go (own := RX5) (by decide) rfl (lo := [some (rf E (0)), some (.int (xa)), some (.int (xs)), some (.int (xw)), none]) rfl (Nat.le_of_ble_eq_true rfl) (fun X hC => ?_)
  obtain ⟨co, pi, π, ρ, V, U, hX, e1, e2, e3, e4⟩ := zStF (r := S.r) (B := B) h.sta hv
  refine y_aload_n hC dX5_setSpeed_0 (i := 0) rfl rfl ?_
  refine y_iload_n hC dX5_setSpeed_1 (i := 1) rfl rfl ?_
  refine y_callV hC mX5_isRange kX5_90 dX5_setSpeed_2 (b := 0) (As := [.int (xa)]) (rest := []) (c_X5_isRange l E g S B hB ho sh mk wa h ((xa))) (by omega) h.a0 rfl rfl rfl (Nat.le_of_ble_eq_true rfl) ⟨Nat.le_of_ble_eq_true rfl, Nat.le_of_ble_eq_true rfl⟩ (pk_i ?_)
  rintro r_2 g_2 ⟨hr_2, hq_2⟩
  obtain rfl := hq_2.symm
  rw [hr_2]
  clear hr_2 r_2
  refine y_if_ne_b (tgt := 10) hC dX5_setSpeed_5 (by decide) (fun c_5 => ?_) (fun c_5 => ?_)
  · obtain ⟨a, ha, hax⟩ := zNl (m := rc S.r) c_5
    subst hax
    refine y_iload_n hC dX5_setSpeed_10 (i := 2) rfl rfl ?_
    refine y_callS hC mX5_isLength kX5_73 dX5_setSpeed_11 (As := [.int (xs)]) (rest := []) (c_X5_isLength l E g ((xs))) rfl rfl rfl (Nat.le_of_ble_eq_true rfl) ⟨Nat.le_of_ble_eq_true rfl, Nat.le_of_ble_eq_true rfl⟩ (pk_i ?_)
    rintro r_11 g_11 ⟨hr_11, hq_11⟩
    obtain rfl := hq_11.symm
    rw [hr_11]
    clear hr_11 r_11
    refine y_if_eq_b (tgt := 24) hC dX5_setSpeed_14 (by decide) (fun c_14 => ?_) (fun c_14 => ?_)
    · refine y_bipush (v := (-2)) hC dX5_setSpeed_24 (by decide) ?_
      refine y_iret (hC := hC) (hd := dX5_setSpeed_26) (hq := ?_)
      have hqq : qSetSpeed S (nI a) xs xw = (-2, S) := by simp only [qSetSpeed, nn_I (show a < 2147483648 by omega), if_pos c_5]; exact if_neg (fun q => c_14 q.1)
      rw [hqq]
      exact ⟨rfl, h.cp⟩
    · refine y_iload_n hC dX5_setSpeed_17 (i := 3) rfl rfl ?_
      refine y_callS hC mX5_isWay kX5_76 dX5_setSpeed_18 (As := [.int (xw)]) (rest := []) (c_X5_isWay l E g ((xw))) rfl rfl rfl (Nat.le_of_ble_eq_true rfl) ⟨Nat.le_of_ble_eq_true rfl, Nat.le_of_ble_eq_true rfl⟩ (pk_i ?_)
      rintro r_18 g_18 ⟨hr_18, hq_18⟩
      obtain rfl := hq_18.symm
      rw [hr_18]
      clear hr_18 r_18
      refine y_if_ne_b (tgt := 27) hC dX5_setSpeed_21 (by decide) (fun c_21 => ?_) (fun c_21 => ?_)
      · refine y_aload_n hC dX5_setSpeed_27 (i := 0) rfl rfl ?_
        refine y_get hC fX5_19 dX5_setSpeed_28 (k := 0) (by omega) h.a0 rfl ?_
        refine y_aload_n hC dX5_setSpeed_31 (i := 0) rfl rfl ?_
        refine y_get hC fX5_12 dX5_setSpeed_32 (k := 0) (by omega) h.a0 rfl ?_
        refine y_callV hC mX1_record kX5_51 dX5_setSpeed_35 (b := 16) (As := [rf E (1)]) (rest := []) (c_X1_record l E g S.c S.kp S.hr S.sn S.r B h.ha h.sta hv) (by omega) h.a16 rfl rfl rfl (Nat.le_of_ble_eq_true rfl) ⟨Nat.le_of_ble_eq_true rfl, Nat.le_of_ble_eq_true rfl⟩ (pk_v ?_)
        rintro g_35 hrec_35
        have hq_35 := h.uprec hrec_35
        obtain ⟨co_35, pi_35, π_35, ρ_35, V_35, U_35, hX_35, e1_35, e2_35, e3_35, e4_35⟩ := zStF (r := S.r) (B := B) hq_35.sta hv
        refine y_aload_n hC dX5_setSpeed_38 (i := 0) rfl rfl ?_
        refine y_get hC fX5_12 dX5_setSpeed_39 (k := 0) (by omega) hq_35.a0 rfl ?_
        refine y_get hC fX5_97 dX5_setSpeed_42 (k := 1) (hX_35.k (k := 0) (by decide)) hX_35.s0 rfl ?_
        refine y_iload_n hC dX5_setSpeed_45 (i := 1) rfl rfl ?_
        refine y_aald hC (Or.inl ⟨rfl, rfl, rfl⟩ : yT 3 3 RX3) dX5_setSpeed_46 (k := 1 + 3) (j := a) (hX_35.k (k := 3) (by decide)) hX_35.s3 (rfl) (by omega) (by decide) ?_
        refine y_get hC fX5_101 dX5_setSpeed_47 (k := 1 + 5 + π_35 (a)) (hX_35.kV (i := a) (by omega)) (hX_35.rV hv (i := a) (by omega) (e3_35 (a) (by omega))) rfl ?_
        refine y_istore hC dX5_setSpeed_50 (Nat.le_of_ble_eq_true rfl) rfl (lo' := [some (rf E (0)), some (.int (nI (a))), some (.int (xs)), some (.int (xw)), some (.int (nI (rg S.r (a) 2)))]) rfl ?_
        refine y_aload_n hC dX5_setSpeed_52 (i := 0) rfl rfl ?_
        refine y_get hC fX5_12 dX5_setSpeed_53 (k := 0) (by omega) hq_35.a0 rfl ?_
        refine y_get hC fX5_97 dX5_setSpeed_56 (k := 1) (hX_35.k (k := 0) (by decide)) hX_35.s0 rfl ?_
        refine y_iload_n hC dX5_setSpeed_59 (i := 1) rfl rfl ?_
        refine y_aald hC (Or.inl ⟨rfl, rfl, rfl⟩ : yT 3 3 RX3) dX5_setSpeed_60 (k := 1 + 3) (j := a) (hX_35.k (k := 3) (by decide)) hX_35.s3 (rfl) (by omega) (by decide) ?_
        refine y_iload_n hC dX5_setSpeed_61 (i := 2) rfl rfl ?_
        refine y_iload_n hC dX5_setSpeed_62 (i := 3) rfl rfl ?_
        refine y_callV hC mX3_changeSpeed kX5_106 dX5_setSpeed_63 (b := 1 + 5 + π_35 (a)) (As := [.int (xs), .int (xw)]) (rest := []) (c_X3_changeSpeed l E g_35 (1 + 5 + π_35 (a)) (hX_35.kV (i := a) (by omega)) _ _ _ _ _ _ _ (hX_35.rV hv (i := a) (by omega) (e3_35 (a) (by omega))) xs xw) (hX_35.kV (i := a) (by omega)) (hX_35.rV hv (i := a) (by omega) (e3_35 (a) (by omega))) rfl rfl rfl (Nat.le_of_ble_eq_true rfl) ⟨Nat.le_of_ble_eq_true rfl, Nat.le_of_ble_eq_true rfl⟩ (pk_v ?_)
        rintro g_63 hq_63
        have hX_63 : SF E g_35 g_63 1 co_35 pi_35 π_35 ρ_35 (va_up V_35 (a) (v7 (nI (rg S.r (a) 0)) (nI (rg S.r (a) 1)) (xs) (xw) (nI (rg S.r (a) 4)) (nI (0)) (nI (0)))) U_35 (v4 (nI (rc S.r)) (nI (gc S.r)) (nI (nn (S.r 156))) (nI (nn (S.r 157)))) := by rw [hq_63]; exact hX_35.upV (i := a) (by omega) (v7 (nI (rg S.r (a) 0)) (nI (rg S.r (a) 1)) (xs) (xw) (nI (rg S.r (a) 4)) (nI (0)) (nI (0)))
        obtain ⟨q1, q2, q3, q4, q5, q6, q7, q8, q9⟩ := hv.rg (i := a) (by omega)
        have hr := hX_63.st (sr_v (r2 := spdR S.r a xs xw) (a := a) hv e1_35 e2_35 e3_35 e4_35 (by omega) (spd_v q1) (fun k hk => spd_o hk))
        refine y_iload hC dX5_setSpeed_66 rfl ?_
        refine y_iret (hC := hC) (hd := dX5_setSpeed_68) (hq := ?_)
        have hqq : qSetSpeed S (nI a) xs xw = (nI (rg S.r a 2), S.rec.row (spdR S.r a xs xw)) := by simp only [qSetSpeed, nn_I (show a < 2147483648 by omega), if_pos c_5, if_pos (And.intro c_14 c_21)]
        rw [hqq]
        exact ⟨rfl, (hq_35.upst hr.1 hr.2).cp⟩
      · refine y_bipush (v := (-2)) hC dX5_setSpeed_24 (by decide) ?_
        refine y_iret (hC := hC) (hd := dX5_setSpeed_26) (hq := ?_)
        have hqq : qSetSpeed S (nI a) xs xw = (-2, S) := by simp only [qSetSpeed, nn_I (show a < 2147483648 by omega), if_pos c_5]; exact if_neg (fun q => c_21 q.2)
        rw [hqq]
        exact ⟨rfl, h.cp⟩
  · refine y_iconst (v := (-1)) hC dX5_setSpeed_8 (by decide) ?_
    refine y_iret (hC := hC) (hd := dX5_setSpeed_9) (hq := ?_)
    have hqq : qSetSpeed S xa xs xw = (-1, S) := by simp only [qSetSpeed, if_neg c_5]
    rw [hqq]
    exact ⟨rfl, h.cp⟩

theorem dX5_run_0 : decode cX5_run 0 = .ok (.aload_n 0, 1) := by decide +kernel
theorem dX5_run_1 : decode cX5_run 1 = .ok (.iload_n 1, 1) := by decide +kernel
theorem dX5_run_2 : decode cX5_run 2 = .ok (.invokevirtual 90, 3) := by decide +kernel
theorem dX5_run_5 : decode cX5_run 5 = .ok (.ifCond .ne 5, 3) := by decide +kernel
theorem dX5_run_8 : decode cX5_run 8 = .ok (.iconst (-1), 1) := by decide +kernel
theorem dX5_run_9 : decode cX5_run 9 = .ok (.ireturn, 1) := by decide +kernel
theorem dX5_run_10 : decode cX5_run 10 = .ok (.aload_n 0, 1) := by decide +kernel
theorem dX5_run_11 : decode cX5_run 11 = .ok (.getfield 12, 3) := by decide +kernel
theorem dX5_run_14 : decode cX5_run 14 = .ok (.getfield 97, 3) := by decide +kernel
theorem dX5_run_17 : decode cX5_run 17 = .ok (.iload_n 1, 1) := by decide +kernel
theorem dX5_run_18 : decode cX5_run 18 = .ok (.aaload, 1) := by decide +kernel
theorem dX5_run_19 : decode cX5_run 19 = .ok (.getfield 109, 3) := by decide +kernel
theorem dX5_run_22 : decode cX5_run 22 = .ok (.iload_n 2, 1) := by decide +kernel
theorem dX5_run_23 : decode cX5_run 23 = .ok (.if_icmp .ne 6, 3) := by decide +kernel
theorem dX5_run_26 : decode cX5_run 26 = .ok (.bipush (-5), 2) := by decide +kernel
theorem dX5_run_28 : decode cX5_run 28 = .ok (.ireturn, 1) := by decide +kernel
theorem dX5_run_29 : decode cX5_run 29 = .ok (.aload_n 0, 1) := by decide +kernel
theorem dX5_run_30 : decode cX5_run 30 = .ok (.getfield 19, 3) := by decide +kernel
theorem dX5_run_33 : decode cX5_run 33 = .ok (.aload_n 0, 1) := by decide +kernel
theorem dX5_run_34 : decode cX5_run 34 = .ok (.getfield 12, 3) := by decide +kernel
theorem dX5_run_37 : decode cX5_run 37 = .ok (.invokevirtual 51, 3) := by decide +kernel
theorem dX5_run_40 : decode cX5_run 40 = .ok (.aload_n 0, 1) := by decide +kernel
theorem dX5_run_41 : decode cX5_run 41 = .ok (.getfield 12, 3) := by decide +kernel
theorem dX5_run_44 : decode cX5_run 44 = .ok (.getfield 97, 3) := by decide +kernel
theorem dX5_run_47 : decode cX5_run 47 = .ok (.iload_n 1, 1) := by decide +kernel
theorem dX5_run_48 : decode cX5_run 48 = .ok (.aaload, 1) := by decide +kernel
theorem dX5_run_49 : decode cX5_run 49 = .ok (.iload_n 2, 1) := by decide +kernel
theorem dX5_run_50 : decode cX5_run 50 = .ok (.putfield 109, 3) := by decide +kernel
theorem dX5_run_53 : decode cX5_run 53 = .ok (.aload_n 0, 1) := by decide +kernel
theorem dX5_run_54 : decode cX5_run 54 = .ok (.getfield 12, 3) := by decide +kernel
theorem dX5_run_57 : decode cX5_run 57 = .ok (.invokevirtual 113, 3) := by decide +kernel
theorem dX5_run_60 : decode cX5_run 60 = .ok (.ireturn, 1) := by decide +kernel
set_option maxHeartbeats 4000000 in
set_option maxRecDepth 100000 in
theorem c_X5_run (l : Launch) (E : gE) (g : Mem) (S : AS) (B : Nat) (hB : B < 90000000) (ho : OK S B) (sh mk wa : Nat → Int32) (h : CQ E g S sh mk wa) (xa : Int32) (zb : Nat) (hz : zb ≤ 1) : Mt l E yX5_run cX5_run 3 (some .int) 3 69 [rf E (0), .int (xa), .int (nI (zb))] g (pI (fun z g' => z = (qRun S xa zb).1 ∧ CP E g' (qRun S xa zb).2)) := by
  have hK := h.k
  have hv := ho.v
  have hrc : rc S.r ≤ 6 := hv.1.2
  have hgc : gc S.r ≤ 4 := hv.2.1.2
  have hc4 := ho.c4
  refine mt_go (own := RX5) (by decide) rfl (lo := [some (rf E (0)), some (.int (xa)), some (.int (nI (zb)))]) rfl (Nat.le_of_ble_eq_true rfl) (fun X hC => ?_)
  obtain ⟨co, pi, π, ρ, V, U, hX, e1, e2, e3, e4⟩ := zStF (r := S.r) (B := B) h.sta hv
  refine y_aload_n hC dX5_run_0 (i := 0) rfl rfl ?_
  refine y_iload_n hC dX5_run_1 (i := 1) rfl rfl ?_
  refine y_callV hC mX5_isRange kX5_90 dX5_run_2 (b := 0) (As := [.int (xa)]) (rest := []) (c_X5_isRange l E g S B hB ho sh mk wa h ((xa))) (by omega) h.a0 rfl rfl rfl (Nat.le_of_ble_eq_true rfl) ⟨Nat.le_of_ble_eq_true rfl, Nat.le_of_ble_eq_true rfl⟩ (pk_i ?_)
  rintro r_2 g_2 ⟨hr_2, hq_2⟩
  obtain rfl := hq_2.symm
  rw [hr_2]
  clear hr_2 r_2
  refine y_if_ne_b (tgt := 10) hC dX5_run_5 (by decide) (fun c_5 => ?_) (fun c_5 => ?_)
  · obtain ⟨a, ha, hax⟩ := zNl (m := rc S.r) c_5
    subst hax
    have hrl := (hv.rg (i := a) (by omega)).2.2.2.2.2.2.1
    refine y_aload_n hC dX5_run_10 (i := 0) rfl rfl ?_
    refine y_get hC fX5_12 dX5_run_11 (k := 0) (by omega) h.a0 rfl ?_
    refine y_get hC fX5_97 dX5_run_14 (k := 1) (hX.k (k := 0) (by decide)) hX.s0 rfl ?_
    refine y_iload_n hC dX5_run_17 (i := 1) rfl rfl ?_
    refine y_aald hC (Or.inl ⟨rfl, rfl, rfl⟩ : yT 3 3 RX3) dX5_run_18 (k := 1 + 3) (j := a) (hX.k (k := 3) (by decide)) hX.s3 (rfl) (by omega) (by decide) ?_
    refine y_get hC fX5_109 dX5_run_19 (k := 1 + 5 + π (a)) (hX.kV (i := a) (by omega)) (hX.rV hv (i := a) (by omega) (e3 (a) (by omega))) rfl ?_
    refine y_iload_n hC dX5_run_22 (i := 2) rfl rfl ?_
    refine y_icmp_ne_n (tgt := 29) hC dX5_run_23 (by decide) (by omega) (by omega) (fun c_23 => ?_) (fun c_23 => ?_)
    · refine y_aload_n hC dX5_run_29 (i := 0) rfl rfl ?_
      refine y_get hC fX5_19 dX5_run_30 (k := 0) (by omega) h.a0 rfl ?_
      refine y_aload_n hC dX5_run_33 (i := 0) rfl rfl ?_
      refine y_get hC fX5_12 dX5_run_34 (k := 0) (by omega) h.a0 rfl ?_
      refine y_callV hC mX1_record kX5_51 dX5_run_37 (b := 16) (As := [rf E (1)]) (rest := []) (c_X1_record l E g S.c S.kp S.hr S.sn S.r B h.ha h.sta hv) (by omega) h.a16 rfl rfl rfl (Nat.le_of_ble_eq_true rfl) ⟨Nat.le_of_ble_eq_true rfl, Nat.le_of_ble_eq_true rfl⟩ (pk_v ?_)
      rintro g_37 hrec_37
      have hq_37 := h.uprec hrec_37
      obtain ⟨co_37, pi_37, π_37, ρ_37, V_37, U_37, hX_37, e1_37, e2_37, e3_37, e4_37⟩ := zStF (r := S.r) (B := B) hq_37.sta hv
      refine y_aload_n hC dX5_run_40 (i := 0) rfl rfl ?_
      refine y_get hC fX5_12 dX5_run_41 (k := 0) (by omega) hq_37.a0 rfl ?_
      refine y_get hC fX5_97 dX5_run_44 (k := 1) (hX_37.k (k := 0) (by decide)) hX_37.s0 rfl ?_
      refine y_iload_n hC dX5_run_47 (i := 1) rfl rfl ?_
      refine y_aald hC (Or.inl ⟨rfl, rfl, rfl⟩ : yT 3 3 RX3) dX5_run_48 (k := 1 + 3) (j := a) (hX_37.k (k := 3) (by decide)) hX_37.s3 (rfl) (by omega) (by decide) ?_
      refine y_iload_n hC dX5_run_49 (i := 2) rfl rfl ?_
      refine y_put hC fpX5_109 dX5_run_50 (k := 1 + 5 + π_37 (a)) (hX_37.kV (i := a) (by omega)) (hX_37.rV hv (i := a) (by omega) (e3_37 (a) (by omega))) (Nat.le_of_ble_eq_true rfl) (z01n (zb01 hz)) (z01f (zb01 hz)) (fs' := [.int (nI (rg S.r (a) 0)), .int (nI (rg S.r (a) 1)), .int (nI (rg S.r (a) 2)), .int (nI (rg S.r (a) 3)), .int (nI (zb)), .int (nI (rg S.r (a) 5)), .int (nI (rg S.r (a) 6))]) rfl ?_
      have hX_50 : SF E g_37 (va_up g_37 (1 + 5 + π_37 (a)) (oB 3 [.int (nI (rg S.r (a) 0)), .int (nI (rg S.r (a) 1)), .int (nI (rg S.r (a) 2)), .int (nI (rg S.r (a) 3)), .int (nI (zb)), .int (nI (rg S.r (a) 5)), .int (nI (rg S.r (a) 6))])) 1 co_37 pi_37 π_37 ρ_37 (va_up V_37 (a) (v7 (nI (rg S.r (a) 0)) (nI (rg S.r (a) 1)) (nI (rg S.r (a) 2)) (nI (rg S.r (a) 3)) (nI (zb)) (nI (rg S.r (a) 5)) (nI (rg S.r (a) 6)))) U_37 (v4 (nI (rc S.r)) (nI (gc S.r)) (nI (nn (S.r 156))) (nI (nn (S.r 157)))) := hX_37.upV (i := a) (by omega) (v7 (nI (rg S.r (a) 0)) (nI (rg S.r (a) 1)) (nI (rg S.r (a) 2)) (nI (rg S.r (a) 3)) (nI (zb)) (nI (rg S.r (a) 5)) (nI (rg S.r (a) 6)))
      generalize (va_up g_37 (1 + 5 + π_37 (a)) (oB 3 [.int (nI (rg S.r (a) 0)), .int (nI (rg S.r (a) 1)), .int (nI (rg S.r (a) 2)), .int (nI (rg S.r (a) 3)), .int (nI (zb)), .int (nI (rg S.r (a) 5)), .int (nI (rg S.r (a) 6))])) = g_50 at hX_50 ⊢
      obtain ⟨q1, q2, q3, q4, q5, q6, q7, q8, q9⟩ := hv.rg (i := a) (by omega)
      have hr := hX_50.st (sr_v (r2 := upd S.r (37 + 7 * a) (nI zb)) (a := a) hv e1_37 e2_37 e3_37 e4_37 (by omega) (run_v q1) (fun k hk => pk_un (by omega)))
      have hvn := vr_runz (z := zb) hv hB (show a < rc S.r by omega) hz
      have hq_n := hq_37.upst hr.1 hr.2
      refine y_aload_n hC dX5_run_53 (i := 0) rfl rfl ?_
      refine y_get hC fX5_12 dX5_run_54 (k := 0) (by omega) hq_n.a0 rfl ?_
      refine y_callV hC mX4_runningRanges kX5_113 dX5_run_57 (b := 1) (As := []) (rest := []) (c_X4_runningRanges l E g_50 1 (upd S.r (37 + 7 * a) (nI zb)) B (by omega) hq_n.sta hvn) (hX_50.k (k := 0) (by decide)) hX_50.s0 rfl rfl rfl (Nat.le_of_ble_eq_true rfl) ⟨Nat.le_of_ble_eq_true rfl, Nat.le_of_ble_eq_true rfl⟩ (pk_i ?_)
      rintro r_57 g_57 ⟨hr_57, hq_57⟩
      obtain rfl := hq_57.symm
      rw [hr_57]
      clear hr_57 r_57
      refine y_iret (hC := hC) (hd := dX5_run_60) (hq := ?_)
      have hqq : qRun S (nI a) zb = (nI (rnC (upd S.r (37 + 7 * a) (nI zb))), S.rec.row (upd S.r (37 + 7 * a) (nI zb))) := by simp only [qRun, nn_I (show a < 2147483648 by omega), if_pos c_5, if_neg c_23]
      rw [hqq]
      exact ⟨rfl, hq_n.cp⟩
    · refine y_bipush (v := (-5)) hC dX5_run_26 (by decide) ?_
      refine y_iret (hC := hC) (hd := dX5_run_28) (hq := ?_)
      have hqq : qRun S (nI a) zb = (-5, S) := by simp only [qRun, nn_I (show a < 2147483648 by omega), if_pos c_5, if_pos c_23]
      rw [hqq]
      exact ⟨rfl, h.cp⟩
  · refine y_iconst (v := (-1)) hC dX5_run_8 (by decide) ?_
    refine y_iret (hC := hC) (hd := dX5_run_9) (hq := ?_)
    have hqq : qRun S xa zb = (-1, S) := by simp only [qRun, if_neg c_5]
    rw [hqq]
    exact ⟨rfl, h.cp⟩

theorem dX5_addGlow_0 : decode cX5_addGlow 0 = .ok (.iload_n 1, 1) := by decide +kernel
theorem dX5_addGlow_1 : decode cX5_addGlow 1 = .ok (.invokestatic 41, 3) := by decide +kernel
theorem dX5_addGlow_4 : decode cX5_addGlow 4 = .ok (.ifCond .ne 5, 3) := by decide +kernel
theorem dX5_addGlow_7 : decode cX5_addGlow 7 = .ok (.iconst (-1), 1) := by decide +kernel
theorem dX5_addGlow_8 : decode cX5_addGlow 8 = .ok (.ireturn, 1) := by decide +kernel
theorem dX5_addGlow_9 : decode cX5_addGlow 9 = .ok (.iload_n 2, 1) := by decide +kernel
theorem dX5_addGlow_10 : decode cX5_addGlow 10 = .ok (.invokestatic 45, 3) := by decide +kernel
theorem dX5_addGlow_13 : decode cX5_addGlow 13 = .ok (.ifCond .eq 10, 3) := by decide +kernel
theorem dX5_addGlow_16 : decode cX5_addGlow 16 = .ok (.iload_n 3, 1) := by decide +kernel
theorem dX5_addGlow_17 : decode cX5_addGlow 17 = .ok (.invokestatic 73, 3) := by decide +kernel
theorem dX5_addGlow_20 : decode cX5_addGlow 20 = .ok (.ifCond .ne 6, 3) := by decide +kernel
theorem dX5_addGlow_23 : decode cX5_addGlow 23 = .ok (.bipush (-2), 2) := by decide +kernel
theorem dX5_addGlow_25 : decode cX5_addGlow 25 = .ok (.ireturn, 1) := by decide +kernel
theorem dX5_addGlow_26 : decode cX5_addGlow 26 = .ok (.aload_n 0, 1) := by decide +kernel
theorem dX5_addGlow_27 : decode cX5_addGlow 27 = .ok (.getfield 12, 3) := by decide +kernel
theorem dX5_addGlow_30 : decode cX5_addGlow 30 = .ok (.iload_n 1, 1) := by decide +kernel
theorem dX5_addGlow_31 : decode cX5_addGlow 31 = .ok (.invokevirtual 117, 3) := by decide +kernel
theorem dX5_addGlow_34 : decode cX5_addGlow 34 = .ok (.ifnull 6, 3) := by decide +kernel
theorem dX5_addGlow_37 : decode cX5_addGlow 37 = .ok (.bipush (-4), 2) := by decide +kernel
theorem dX5_addGlow_39 : decode cX5_addGlow 39 = .ok (.ireturn, 1) := by decide +kernel
theorem dX5_addGlow_40 : decode cX5_addGlow 40 = .ok (.aload_n 0, 1) := by decide +kernel
theorem dX5_addGlow_41 : decode cX5_addGlow 41 = .ok (.getfield 12, 3) := by decide +kernel
theorem dX5_addGlow_44 : decode cX5_addGlow 44 = .ok (.getfield 121, 3) := by decide +kernel
theorem dX5_addGlow_47 : decode cX5_addGlow 47 = .ok (.iconst 4, 1) := by decide +kernel
theorem dX5_addGlow_48 : decode cX5_addGlow 48 = .ok (.if_icmp .lt 6, 3) := by decide +kernel
theorem dX5_addGlow_51 : decode cX5_addGlow 51 = .ok (.bipush (-3), 2) := by decide +kernel
theorem dX5_addGlow_53 : decode cX5_addGlow 53 = .ok (.ireturn, 1) := by decide +kernel
theorem dX5_addGlow_54 : decode cX5_addGlow 54 = .ok (.aload_n 0, 1) := by decide +kernel
theorem dX5_addGlow_55 : decode cX5_addGlow 55 = .ok (.getfield 19, 3) := by decide +kernel
theorem dX5_addGlow_58 : decode cX5_addGlow 58 = .ok (.aload_n 0, 1) := by decide +kernel
theorem dX5_addGlow_59 : decode cX5_addGlow 59 = .ok (.getfield 12, 3) := by decide +kernel
theorem dX5_addGlow_62 : decode cX5_addGlow 62 = .ok (.invokevirtual 51, 3) := by decide +kernel
theorem dX5_addGlow_65 : decode cX5_addGlow 65 = .ok (.aload_n 0, 1) := by decide +kernel
theorem dX5_addGlow_66 : decode cX5_addGlow 66 = .ok (.getfield 12, 3) := by decide +kernel
theorem dX5_addGlow_69 : decode cX5_addGlow 69 = .ok (.iload_n 1, 1) := by decide +kernel
theorem dX5_addGlow_70 : decode cX5_addGlow 70 = .ok (.iload_n 2, 1) := by decide +kernel
theorem dX5_addGlow_71 : decode cX5_addGlow 71 = .ok (.iload_n 3, 1) := by decide +kernel
theorem dX5_addGlow_72 : decode cX5_addGlow 72 = .ok (.invokevirtual 124, 3) := by decide +kernel
theorem dX5_addGlow_75 : decode cX5_addGlow 75 = .ok (.ireturn, 1) := by decide +kernel
set_option maxHeartbeats 4000000 in
set_option maxRecDepth 100000 in
theorem c_X5_addGlow (l : Launch) (E : gE) (g : Mem) (S : AS) (B : Nat) (hB : B < 90000000) (ho : OK S B) (sh mk wa : Nat → Int32) (h : CQ E g S sh mk wa) (xa xb xs : Int32) : Mt l E yX5_addGlow cX5_addGlow 4 (some .int) 3 69 [rf E (0), .int (xa), .int (xb), .int (xs)] g (pI (fun z g' => z = (qAddGlow S xa xb xs).1 ∧ CP E g' (qAddGlow S xa xb xs).2)) := by
  have hK := h.k
  have hv := ho.v
  have hrc : rc S.r ≤ 6 := hv.1.2
  have hgc : gc S.r ≤ 4 := hv.2.1.2
  have hc4 := ho.c4
  refine mt_go (own := RX5) (by decide) rfl (lo := [some (rf E (0)), some (.int (xa)), some (.int (xb)), some (.int (xs))]) rfl (Nat.le_of_ble_eq_true rfl) (fun X hC => ?_)
  obtain ⟨co, pi, π, ρ, V, U, hX, e1, e2, e3, e4⟩ := zStF (r := S.r) (B := B) h.sta hv
  refine y_iload_n hC dX5_addGlow_0 (i := 1) rfl rfl ?_
  refine y_callS hC mX5_isPlace kX5_41 dX5_addGlow_1 (As := [.int (xa)]) (rest := []) (c_X5_isPlace l E g ((xa))) rfl rfl rfl (Nat.le_of_ble_eq_true rfl) ⟨Nat.le_of_ble_eq_true rfl, Nat.le_of_ble_eq_true rfl⟩ (pk_i ?_)
  rintro r_1 g_1 ⟨hr_1, hq_1⟩
  obtain rfl := hq_1.symm
  rw [hr_1]
  clear hr_1 r_1
  refine y_if_ne_b (tgt := 9) hC dX5_addGlow_4 (by decide) (fun c_4 => ?_) (fun c_4 => ?_)
  · obtain ⟨p, hp, hpx⟩ := zN (m := 31) c_4
    subst hpx
    refine y_iload_n hC dX5_addGlow_9 (i := 2) rfl rfl ?_
    refine y_callS hC mX5_isColour kX5_45 dX5_addGlow_10 (As := [.int (xb)]) (rest := []) (c_X5_isColour l E g ((xb))) rfl rfl rfl (Nat.le_of_ble_eq_true rfl) ⟨Nat.le_of_ble_eq_true rfl, Nat.le_of_ble_eq_true rfl⟩ (pk_i ?_)
    rintro r_10 g_10 ⟨hr_10, hq_10⟩
    obtain rfl := hq_10.symm
    rw [hr_10]
    clear hr_10 r_10
    refine y_if_eq_b (tgt := 23) hC dX5_addGlow_13 (by decide) (fun c_13 => ?_) (fun c_13 => ?_)
    · refine y_bipush (v := (-2)) hC dX5_addGlow_23 (by decide) ?_
      refine y_iret (hC := hC) (hd := dX5_addGlow_25) (hq := ?_)
      have hqq : qAddGlow S (nI p) xb xs = (-2, S) := by simp only [qAddGlow, nn_I (show p < 2147483648 by omega), if_pos c_4]; exact if_neg (fun q => c_13 q.1)
      rw [hqq]
      exact ⟨rfl, h.cp⟩
    · refine y_iload_n hC dX5_addGlow_16 (i := 3) rfl rfl ?_
      refine y_callS hC mX5_isLength kX5_73 dX5_addGlow_17 (As := [.int (xs)]) (rest := []) (c_X5_isLength l E g ((xs))) rfl rfl rfl (Nat.le_of_ble_eq_true rfl) ⟨Nat.le_of_ble_eq_true rfl, Nat.le_of_ble_eq_true rfl⟩ (pk_i ?_)
      rintro r_17 g_17 ⟨hr_17, hq_17⟩
      obtain rfl := hq_17.symm
      rw [hr_17]
      clear hr_17 r_17
      refine y_if_ne_b (tgt := 26) hC dX5_addGlow_20 (by decide) (fun c_20 => ?_) (fun c_20 => ?_)
      · refine y_aload_n hC dX5_addGlow_26 (i := 0) rfl rfl ?_
        refine y_get hC fX5_12 dX5_addGlow_27 (k := 0) (by omega) h.a0 rfl ?_
        refine y_iload_n hC dX5_addGlow_30 (i := 1) rfl rfl ?_
        refine y_callV hC mX4_glowAt kX5_117 dX5_addGlow_31 (b := 1) (As := [.int (nI (p))]) (rest := []) (c_X4_glowAt l E g 1 S.r B (by omega) h.sta hv p (by omega)) (hX.k (k := 0) (by decide)) hX.s0 rfl rfl rfl (Nat.le_of_ble_eq_true rfl) ⟨Nat.le_of_ble_eq_true rfl, Nat.le_of_ble_eq_true rfl⟩ (pk_r ?_)
        rintro go g_g ⟨hq0, hgo⟩
        obtain rfl := hq0.symm
        refine y_ifnull (tgt := 40) hC dX5_addGlow_34 (by decide) (fun c_34 => ?_) (fun k_34 c_34 => ?_)
        · have hgs : ¬ (gAt S.r p).isSome = true := by
            obtain ⟨-, hg1⟩ | ⟨gi, ga, -, -, -, hz, -⟩ := hgo
            · rw [hg1]; decide
            · rw [hz] at c_34; cases c_34
          refine y_aload_n hC dX5_addGlow_40 (i := 0) rfl rfl ?_
          refine y_get hC fX5_12 dX5_addGlow_41 (k := 0) (by omega) h.a0 rfl ?_
          refine y_get hC fX5_121 dX5_addGlow_44 (k := 1) (hX.k (k := 0) (by decide)) hX.s0 rfl ?_
          refine y_iconst (v := nI 4) hC dX5_addGlow_47 (by decide) ?_
          refine y_icmp_lt_n (tgt := 54) hC dX5_addGlow_48 (by decide) (by omega) (by omega) (fun c_48 => ?_) (fun c_48 => ?_)
          · refine y_aload_n hC dX5_addGlow_54 (i := 0) rfl rfl ?_
            refine y_get hC fX5_19 dX5_addGlow_55 (k := 0) (by omega) h.a0 rfl ?_
            refine y_aload_n hC dX5_addGlow_58 (i := 0) rfl rfl ?_
            refine y_get hC fX5_12 dX5_addGlow_59 (k := 0) (by omega) h.a0 rfl ?_
            refine y_callV hC mX1_record kX5_51 dX5_addGlow_62 (b := 16) (As := [rf E (1)]) (rest := []) (c_X1_record l E g S.c S.kp S.hr S.sn S.r B h.ha h.sta hv) (by omega) h.a16 rfl rfl rfl (Nat.le_of_ble_eq_true rfl) ⟨Nat.le_of_ble_eq_true rfl, Nat.le_of_ble_eq_true rfl⟩ (pk_v ?_)
            rintro g_62 hrec_62
            have hq_62 := h.uprec hrec_62
            obtain ⟨co_62, pi_62, π_62, ρ_62, V_62, U_62, hX_62, e1_62, e2_62, e3_62, e4_62⟩ := zStF (r := S.r) (B := B) hq_62.sta hv
            refine y_aload_n hC dX5_addGlow_65 (i := 0) rfl rfl ?_
            refine y_get hC fX5_12 dX5_addGlow_66 (k := 0) (by omega) hq_62.a0 rfl ?_
            refine y_iload_n hC dX5_addGlow_69 (i := 1) rfl rfl ?_
            refine y_iload_n hC dX5_addGlow_70 (i := 2) rfl rfl ?_
            refine y_iload_n hC dX5_addGlow_71 (i := 3) rfl rfl ?_
            refine y_callV hC mX4_appendGlow kX5_124 dX5_addGlow_72 (b := 1) (As := [.int (nI (p)), .int (xb), .int (xs)]) (rest := []) (c_X4_appendGlow l E g_62 1 S.r B (by omega) hq_62.sta hv (nI p) xb xs c_48) (hX_62.k (k := 0) (by decide)) hX_62.s0 rfl rfl rfl (Nat.le_of_ble_eq_true rfl) ⟨Nat.le_of_ble_eq_true rfl, Nat.le_of_ble_eq_true rfl⟩ (pk_i ?_)
            rintro rz g_72 ⟨hz, hst, hfr⟩
            rw [hz]
            refine y_iret (hC := hC) (hd := dX5_addGlow_75) (hq := ?_)
            have hqq : qAddGlow S (nI p) xb xs = (nI (gc S.r), S.rec.row (addG S.r (nI p) xb xs)) := by simp only [qAddGlow, nn_I (show p < 2147483648 by omega), if_pos c_4, if_pos (And.intro c_13 c_20), if_neg hgs, if_pos c_48]
            rw [hqq]
            exact ⟨rfl, (hq_62.upst hst hfr).cp⟩
          · refine y_bipush (v := (-3)) hC dX5_addGlow_51 (by decide) ?_
            refine y_iret (hC := hC) (hd := dX5_addGlow_53) (hq := ?_)
            have hqq : qAddGlow S (nI p) xb xs = (-3, S) := by simp only [qAddGlow, nn_I (show p < 2147483648 by omega), if_pos c_4, if_pos (And.intro c_13 c_20), if_neg hgs, if_neg c_48]
            rw [hqq]
            exact ⟨rfl, h.cp⟩
        · have hgs : (gAt S.r p).isSome = true := by
            obtain ⟨hz, -⟩ | ⟨gi, ga, hg1, -⟩ := hgo
            · rw [hz] at c_34; cases c_34
            · rw [hg1]; rfl
          refine y_bipush (v := (-4)) hC dX5_addGlow_37 (by decide) ?_
          refine y_iret (hC := hC) (hd := dX5_addGlow_39) (hq := ?_)
          have hqq : qAddGlow S (nI p) xb xs = (-4, S) := by simp only [qAddGlow, nn_I (show p < 2147483648 by omega), if_pos c_4, if_pos (And.intro c_13 c_20), if_pos hgs]
          rw [hqq]
          exact ⟨rfl, h.cp⟩
      · refine y_bipush (v := (-2)) hC dX5_addGlow_23 (by decide) ?_
        refine y_iret (hC := hC) (hd := dX5_addGlow_25) (hq := ?_)
        have hqq : qAddGlow S (nI p) xb xs = (-2, S) := by simp only [qAddGlow, nn_I (show p < 2147483648 by omega), if_pos c_4]; exact if_neg (fun q => c_20 q.2)
        rw [hqq]
        exact ⟨rfl, h.cp⟩
  · refine y_iconst (v := (-1)) hC dX5_addGlow_7 (by decide) ?_
    refine y_iret (hC := hC) (hd := dX5_addGlow_8) (hq := ?_)
    have hqq : qAddGlow S xa xb xs = (-1, S) := by simp only [qAddGlow, if_neg c_4]
    rw [hqq]
    exact ⟨rfl, h.cp⟩

theorem dX5_pass_0 : decode cX5_pass 0 = .ok (.iload_n 1, 1) := by decide +kernel
theorem dX5_pass_1 : decode cX5_pass 1 = .ok (.iconst 1, 1) := by decide +kernel
theorem dX5_pass_2 : decode cX5_pass 2 = .ok (.if_icmp .lt 10, 3) := by decide +kernel
theorem dX5_pass_5 : decode cX5_pass 5 = .ok (.iload_n 1, 1) := by decide +kernel
theorem dX5_pass_6 : decode cX5_pass 6 = .ok (.sipush 1000, 3) := by decide +kernel
theorem dX5_pass_9 : decode cX5_pass 9 = .ok (.if_icmp .le 6, 3) := by decide +kernel
theorem dX5_pass_12 : decode cX5_pass 12 = .ok (.bipush (-2), 2) := by decide +kernel
theorem dX5_pass_14 : decode cX5_pass 14 = .ok (.ireturn, 1) := by decide +kernel
theorem dX5_pass_15 : decode cX5_pass 15 = .ok (.aload_n 0, 1) := by decide +kernel
theorem dX5_pass_16 : decode cX5_pass 16 = .ok (.getfield 19, 3) := by decide +kernel
theorem dX5_pass_19 : decode cX5_pass 19 = .ok (.aload_n 0, 1) := by decide +kernel
theorem dX5_pass_20 : decode cX5_pass 20 = .ok (.getfield 12, 3) := by decide +kernel
theorem dX5_pass_23 : decode cX5_pass 23 = .ok (.invokevirtual 51, 3) := by decide +kernel
theorem dX5_pass_26 : decode cX5_pass 26 = .ok (.aload_n 0, 1) := by decide +kernel
theorem dX5_pass_27 : decode cX5_pass 27 = .ok (.getfield 12, 3) := by decide +kernel
theorem dX5_pass_30 : decode cX5_pass 30 = .ok (.iload_n 1, 1) := by decide +kernel
theorem dX5_pass_31 : decode cX5_pass 31 = .ok (.invokevirtual 134, 3) := by decide +kernel
theorem dX5_pass_34 : decode cX5_pass 34 = .ok (.ireturn, 1) := by decide +kernel
set_option maxHeartbeats 4000000 in
set_option maxRecDepth 100000 in
theorem c_X5_pass (l : Launch) (E : gE) (g : Mem) (S : AS) (B : Nat) (hB : B < 90000000) (ho : OK S B) (sh mk wa : Nat → Int32) (h : CQ E g S sh mk wa) (xa : Int32) : Mt l E yX5_pass cX5_pass 2 (some .int) 3 69 [rf E (0), .int (xa)] g (pI (fun z g' => z = (qPass S xa).1 ∧ CP E g' (qPass S xa).2)) := by
  have hK := h.k
  have hv := ho.v
  have hrc : rc S.r ≤ 6 := hv.1.2
  have hgc : gc S.r ≤ 4 := hv.2.1.2
  have hc4 := ho.c4
  refine mt_go (own := RX5) (by decide) rfl (lo := [some (rf E (0)), some (.int (xa))]) rfl (Nat.le_of_ble_eq_true rfl) (fun X hC => ?_)
  obtain ⟨co, pi, π, ρ, V, U, hX, e1, e2, e3, e4⟩ := zStF (r := S.r) (B := B) h.sta hv
  refine y_iload_n hC dX5_pass_0 (i := 1) rfl rfl ?_
  refine y_iconst (v := nI 1) hC dX5_pass_1 (by decide) ?_
  refine y_icmp_lt (tgt := 12) hC dX5_pass_2 (by decide) (fun c_2 => ?_) (fun c_2 => ?_)
  · refine y_bipush (v := (-2)) hC dX5_pass_12 (by decide) ?_
    refine y_iret (hC := hC) (hd := dX5_pass_14) (hq := ?_)
    have hqq : qPass S xa = (-2, S) := by simp only [qPass]; exact if_neg (fun q => absurd c_2 (Int32.not_lt.mpr (Int32.le_iff_toInt_le.mpr q.1)))
    rw [hqq]
    exact ⟨rfl, h.cp⟩
  · refine y_iload_n hC dX5_pass_5 (i := 1) rfl rfl ?_
    refine y_sipush (v := nI 1000) hC dX5_pass_6 (by decide) ?_
    refine y_icmp_le (tgt := 15) hC dX5_pass_9 (by decide) (fun c_9 => ?_) (fun c_9 => ?_)
    · have hcc : 1 ≤ xa.toInt ∧ xa.toInt ≤ 1000 := by
        have t1 : (nI 1).toInt = 1 := by decide
        have t2 : (nI 1000).toInt = 1000 := by decide
        rw [Int32.lt_iff_toInt_lt, t1] at c_2
        rw [Int32.le_iff_toInt_le, t2] at c_9
        omega
      obtain ⟨t, ht1, ht, htx⟩ := zNg (a := 1) (m := 1000) hcc
      subst htx
      refine y_aload_n hC dX5_pass_15 (i := 0) rfl rfl ?_
      refine y_get hC fX5_19 dX5_pass_16 (k := 0) (by omega) h.a0 rfl ?_
      refine y_aload_n hC dX5_pass_19 (i := 0) rfl rfl ?_
      refine y_get hC fX5_12 dX5_pass_20 (k := 0) (by omega) h.a0 rfl ?_
      refine y_callV hC mX1_record kX5_51 dX5_pass_23 (b := 16) (As := [rf E (1)]) (rest := []) (c_X1_record l E g S.c S.kp S.hr S.sn S.r B h.ha h.sta hv) (by omega) h.a16 rfl rfl rfl (Nat.le_of_ble_eq_true rfl) ⟨Nat.le_of_ble_eq_true rfl, Nat.le_of_ble_eq_true rfl⟩ (pk_v ?_)
      rintro g_23 hrec_23
      have hq_23 := h.uprec hrec_23
      obtain ⟨co_23, pi_23, π_23, ρ_23, V_23, U_23, hX_23, e1_23, e2_23, e3_23, e4_23⟩ := zStF (r := S.r) (B := B) hq_23.sta hv
      refine y_aload_n hC dX5_pass_26 (i := 0) rfl rfl ?_
      refine y_get hC fX5_12 dX5_pass_27 (k := 0) (by omega) hq_23.a0 rfl ?_
      refine y_iload_n hC dX5_pass_30 (i := 1) rfl rfl ?_
      refine y_callV hC mX4_advance kX5_134 dX5_pass_31 (b := 1) (As := [.int (nI (t))]) (rest := []) (c_X4_advance l E g_23 1 S.r B (by omega) hq_23.sta hv t (by omega)) (hX_23.k (k := 0) (by decide)) hX_23.s0 rfl rfl rfl (Nat.le_of_ble_eq_true rfl) ⟨Nat.le_of_ble_eq_true rfl, Nat.le_of_ble_eq_true rfl⟩ (pk_i ?_)
      rintro rz g_31 ⟨hz, hst, hfr⟩
      rw [hz]
      refine y_iret (hC := hC) (hd := dX5_pass_34) (hq := ?_)
      have hqq : qPass S (nI t) = (nI (made S.r t), S.rec.row (tkR S.r t)) := by simp only [qPass, nn_I (show t < 2147483648 by omega), if_pos hcc]
      rw [hqq]
      exact ⟨rfl, (hq_23.upst hst hfr).cp⟩
    · refine y_bipush (v := (-2)) hC dX5_pass_12 (by decide) ?_
      refine y_iret (hC := hC) (hd := dX5_pass_14) (hq := ?_)
      have hqq : qPass S xa = (-2, S) := by simp only [qPass]; exact if_neg (fun q => c_9 (Int32.le_iff_toInt_le.mpr q.2))
      rw [hqq]
      exact ⟨rfl, h.cp⟩

theorem dX5_type_0 : decode cX5_type 0 = .ok (.aload_n 0, 1) := by decide +kernel
theorem dX5_type_1 : decode cX5_type 1 = .ok (.getfield 26, 3) := by decide +kernel
theorem dX5_type_4 : decode cX5_type 4 = .ok (.getfield 156, 3) := by decide +kernel
theorem dX5_type_7 : decode cX5_type 7 = .ok (.bipush 60, 2) := by decide +kernel
theorem dX5_type_9 : decode cX5_type 9 = .ok (.if_icmp .lt 6, 3) := by decide +kernel
theorem dX5_type_12 : decode cX5_type 12 = .ok (.bipush (-3), 2) := by decide +kernel
theorem dX5_type_14 : decode cX5_type 14 = .ok (.ireturn, 1) := by decide +kernel
theorem dX5_type_15 : decode cX5_type 15 = .ok (.aload_n 0, 1) := by decide +kernel
theorem dX5_type_16 : decode cX5_type 16 = .ok (.getfield 26, 3) := by decide +kernel
theorem dX5_type_19 : decode cX5_type 19 = .ok (.iload_n 1, 1) := by decide +kernel
theorem dX5_type_20 : decode cX5_type 20 = .ok (.invokevirtual 159, 3) := by decide +kernel
theorem dX5_type_23 : decode cX5_type 23 = .ok (.aload_n 0, 1) := by decide +kernel
theorem dX5_type_24 : decode cX5_type 24 = .ok (.getfield 26, 3) := by decide +kernel
theorem dX5_type_27 : decode cX5_type 27 = .ok (.getfield 156, 3) := by decide +kernel
theorem dX5_type_30 : decode cX5_type 30 = .ok (.ireturn, 1) := by decide +kernel
set_option maxHeartbeats 4000000 in
set_option maxRecDepth 100000 in
theorem c_X5_type (l : Launch) (E : gE) (g : Mem) (S : AS) (B : Nat) (hB : B < 90000000) (ho : OK S B) (sh mk wa : Nat → Int32) (h : CQ E g S sh mk wa) (c : Nat) (hc : c < 65536) : Mt l E yX5_type cX5_type 2 (some .int) 1 21 [rf E (0), .int (nI (c))] g (pI (fun z g' => z = (qType S c).1 ∧ CP E g' (qType S c).2)) := by
  have hK := h.k
  have hv := ho.v
  have hrc : rc S.r ≤ 6 := hv.1.2
  have hgc : gc S.r ≤ 4 := hv.2.1.2
  have hc4 := ho.c4
  refine mt_go (own := RX5) (by decide) rfl (lo := [some (rf E (0)), some (.int (nI (c)))]) rfl (Nat.le_of_ble_eq_true rfl) (fun X hC => ?_)
  obtain ⟨co, pi, π, ρ, V, U, hX, e1, e2, e3, e4⟩ := zStF (r := S.r) (B := B) h.sta hv
  obtain ⟨fx, tk, it, stq, tiq, hP⟩ := h.pa
  have hl60 := hP.l
  refine y_aload_n hC dX5_type_0 (i := 0) rfl rfl ?_
  refine y_get hC fX5_26 dX5_type_1 (k := 0) (by omega) h.a0 rfl ?_
  refine y_get hC fX5_156 dX5_type_4 (k := 93) (by omega) hP.a93 rfl ?_
  refine y_bipush (v := nI 60) hC dX5_type_7 (by decide) ?_
  refine y_icmp_lt_n (tgt := 15) hC dX5_type_9 (by decide) (by omega) (by omega) (fun c_9 => ?_) (fun c_9 => ?_)
  · refine y_aload_n hC dX5_type_15 (i := 0) rfl rfl ?_
    refine y_get hC fX5_26 dX5_type_16 (k := 0) (by omega) h.a0 rfl ?_
    refine y_iload_n hC dX5_type_19 (i := 1) rfl rfl ?_
    refine y_callV hC mX2_append kX5_159 dX5_type_20 (b := 93) (As := [.int (nI (c))]) (rest := []) (c_X2_append l E g S.ln S.tx fx tk it stq tiq hP c hc c_9) (by omega) hP.a93 rfl rfl rfl (Nat.le_of_ble_eq_true rfl) ⟨Nat.le_of_ble_eq_true rfl, Nat.le_of_ble_eq_true rfl⟩ (pk_v ?_)
    rintro g_20 ⟨hpa, hfp⟩
    have hq_n := h.uppa hpa hfp
    obtain ⟨fx2, tk2, it2, stq2, tiq2, hP2⟩ := hpa
    refine y_aload_n hC dX5_type_23 (i := 0) rfl rfl ?_
    refine y_get hC fX5_26 dX5_type_24 (k := 0) (by omega) hq_n.a0 rfl ?_
    refine y_get hC fX5_156 dX5_type_27 (k := 93) (by omega) hP2.a93 rfl ?_
    refine y_iret (hC := hC) (hd := dX5_type_30) (hq := ?_)
    have hqq : qType S c = (nI (S.ln + 1), .mk S.r S.c S.kp S.hr S.sn (S.ln + 1) (va_up S.tx S.ln c)) := by simp only [qType, if_pos c_9]
    rw [hqq]
    exact ⟨rfl, hq_n.cp⟩
  · refine y_bipush (v := (-3)) hC dX5_type_12 (by decide) ?_
    refine y_iret (hC := hC) (hd := dX5_type_14) (hq := ?_)
    have hqq : qType S c = (-3, S) := by simp only [qType, if_neg c_9]
    rw [hqq]
    exact ⟨rfl, h.cp⟩

theorem dX5_clearText_0 : decode cX5_clearText 0 = .ok (.aload_n 0, 1) := by decide +kernel
theorem dX5_clearText_1 : decode cX5_clearText 1 = .ok (.getfield 26, 3) := by decide +kernel
theorem dX5_clearText_4 : decode cX5_clearText 4 = .ok (.getfield 156, 3) := by decide +kernel
theorem dX5_clearText_7 : decode cX5_clearText 7 = .ok (.istore_n 1, 1) := by decide +kernel
theorem dX5_clearText_8 : decode cX5_clearText 8 = .ok (.aload_n 0, 1) := by decide +kernel
theorem dX5_clearText_9 : decode cX5_clearText 9 = .ok (.getfield 26, 3) := by decide +kernel
theorem dX5_clearText_12 : decode cX5_clearText 12 = .ok (.iconst 0, 1) := by decide +kernel
theorem dX5_clearText_13 : decode cX5_clearText 13 = .ok (.putfield 156, 3) := by decide +kernel
theorem dX5_clearText_16 : decode cX5_clearText 16 = .ok (.iload_n 1, 1) := by decide +kernel
theorem dX5_clearText_17 : decode cX5_clearText 17 = .ok (.ireturn, 1) := by decide +kernel
set_option maxHeartbeats 4000000 in
set_option maxRecDepth 100000 in
theorem c_X5_clearText (l : Launch) (E : gE) (g : Mem) (S : AS) (B : Nat) (hB : B < 90000000) (ho : OK S B) (sh mk wa : Nat → Int32) (h : CQ E g S sh mk wa) : Mt l E yX5_clearText cX5_clearText 2 (some .int) 0 0 [rf E (0)] g (pI (fun z g' => z = (qClearText S ).1 ∧ CP E g' (qClearText S ).2)) := by
  have hK := h.k
  have hv := ho.v
  have hrc : rc S.r ≤ 6 := hv.1.2
  have hgc : gc S.r ≤ 4 := hv.2.1.2
  have hc4 := ho.c4
  refine mt_go (own := RX5) (by decide) rfl (lo := [some (rf E (0)), none]) rfl (Nat.le_of_ble_eq_true rfl) (fun X hC => ?_)
  obtain ⟨co, pi, π, ρ, V, U, hX, e1, e2, e3, e4⟩ := zStF (r := S.r) (B := B) h.sta hv
  obtain ⟨fx, tk, it, stq, tiq, hP⟩ := h.pa
  refine y_aload_n hC dX5_clearText_0 (i := 0) rfl rfl ?_
  refine y_get hC fX5_26 dX5_clearText_1 (k := 0) (by omega) h.a0 rfl ?_
  refine y_get hC fX5_156 dX5_clearText_4 (k := 93) (by omega) hP.a93 rfl ?_
  refine y_istore_n hC dX5_clearText_7 (i := 1) rfl (Nat.le_of_ble_eq_true rfl) rfl (lo' := [some (rf E (0)), some (.int (nI (S.ln)))]) rfl ?_
  refine y_aload_n hC dX5_clearText_8 (i := 0) rfl rfl ?_
  refine y_get hC fX5_26 dX5_clearText_9 (k := 0) (by omega) h.a0 rfl ?_
  refine y_iconst (v := nI 0) hC dX5_clearText_12 (by decide) ?_
  refine y_put hC fpX5_156 dX5_clearText_13 (k := 93) (by omega) hP.a93 (Nat.le_of_ble_eq_true rfl) (rfl) (rfl) (fs' := [rf E (94), rf E (95), rf E (96), .int (nI (0)), .int (tk), .int (it)]) rfl ?_
  refine y_iload_n hC dX5_clearText_16 (i := 1) rfl rfl ?_
  refine y_iret (hC := hC) (hd := dX5_clearText_17) (hq := ?_)
  have hq_n := h.uppa (ln := 0) (tx := S.tx) (g2 := va_up g 93 (oB 2 [rf E 94, rf E 95, rf E 96, .int (nI 0), .int tk, .int it])) ⟨fx, tk, it, stq, tiq, hP.1, Nat.zero_le _, fun k hk => absurd hk (Nat.not_lt_zero k), fun k hk => absurd hk (Nat.not_lt_zero k), va_up_self _ _ _, (va_up_ne _ _ (by decide)).trans hP.a94, (va_up_ne _ _ (by decide)).trans hP.a95, (va_up_ne _ _ (by decide)).trans hP.a96⟩ (fun k hk => va_up_ne _ _ (by omega))
  exact ⟨rfl, hq_n.cp⟩

theorem dX5_paint_0 : decode cX5_paint 0 = .ok (.iload_n 1, 1) := by decide +kernel
theorem dX5_paint_1 : decode cX5_paint 1 = .ok (.iload_n 2, 1) := by decide +kernel
theorem dX5_paint_2 : decode cX5_paint 2 = .ok (.invokestatic 163, 3) := by decide +kernel
theorem dX5_paint_5 : decode cX5_paint 5 = .ok (.ifCond .ne 5, 3) := by decide +kernel
theorem dX5_paint_8 : decode cX5_paint 8 = .ok (.iconst (-1), 1) := by decide +kernel
theorem dX5_paint_9 : decode cX5_paint 9 = .ok (.ireturn, 1) := by decide +kernel
theorem dX5_paint_10 : decode cX5_paint 10 = .ok (.iload_n 3, 1) := by decide +kernel
theorem dX5_paint_11 : decode cX5_paint 11 = .ok (.invokestatic 41, 3) := by decide +kernel
theorem dX5_paint_14 : decode cX5_paint 14 = .ok (.ifCond .ne 6, 3) := by decide +kernel
theorem dX5_paint_17 : decode cX5_paint 17 = .ok (.bipush (-2), 2) := by decide +kernel
theorem dX5_paint_19 : decode cX5_paint 19 = .ok (.ireturn, 1) := by decide +kernel
theorem dX5_paint_20 : decode cX5_paint 20 = .ok (.iload_n 1, 1) := by decide +kernel
theorem dX5_paint_21 : decode cX5_paint 21 = .ok (.bipush 8, 2) := by decide +kernel
theorem dX5_paint_23 : decode cX5_paint 23 = .ok (.imul, 1) := by decide +kernel
theorem dX5_paint_24 : decode cX5_paint 24 = .ok (.iload_n 2, 1) := by decide +kernel
theorem dX5_paint_25 : decode cX5_paint 25 = .ok (.iadd, 1) := by decide +kernel
theorem dX5_paint_26 : decode cX5_paint 26 = .ok (.istore 4, 2) := by decide +kernel
theorem dX5_paint_28 : decode cX5_paint 28 = .ok (.aload_n 0, 1) := by decide +kernel
theorem dX5_paint_29 : decode cX5_paint 29 = .ok (.getfield 12, 3) := by decide +kernel
theorem dX5_paint_32 : decode cX5_paint 32 = .ok (.getfield 166, 3) := by decide +kernel
theorem dX5_paint_35 : decode cX5_paint 35 = .ok (.iload 4, 2) := by decide +kernel
theorem dX5_paint_37 : decode cX5_paint 37 = .ok (.iaload, 1) := by decide +kernel
theorem dX5_paint_38 : decode cX5_paint 38 = .ok (.istore 5, 2) := by decide +kernel
theorem dX5_paint_40 : decode cX5_paint 40 = .ok (.iload 5, 2) := by decide +kernel
theorem dX5_paint_42 : decode cX5_paint 42 = .ok (.iload_n 3, 1) := by decide +kernel
theorem dX5_paint_43 : decode cX5_paint 43 = .ok (.if_icmp .ne 6, 3) := by decide +kernel
theorem dX5_paint_46 : decode cX5_paint 46 = .ok (.bipush (-5), 2) := by decide +kernel
theorem dX5_paint_48 : decode cX5_paint 48 = .ok (.ireturn, 1) := by decide +kernel
theorem dX5_paint_49 : decode cX5_paint 49 = .ok (.aload_n 0, 1) := by decide +kernel
theorem dX5_paint_50 : decode cX5_paint 50 = .ok (.getfield 19, 3) := by decide +kernel
theorem dX5_paint_53 : decode cX5_paint 53 = .ok (.aload_n 0, 1) := by decide +kernel
theorem dX5_paint_54 : decode cX5_paint 54 = .ok (.getfield 12, 3) := by decide +kernel
theorem dX5_paint_57 : decode cX5_paint 57 = .ok (.invokevirtual 51, 3) := by decide +kernel
theorem dX5_paint_60 : decode cX5_paint 60 = .ok (.aload_n 0, 1) := by decide +kernel
theorem dX5_paint_61 : decode cX5_paint 61 = .ok (.getfield 12, 3) := by decide +kernel
theorem dX5_paint_64 : decode cX5_paint 64 = .ok (.getfield 166, 3) := by decide +kernel
theorem dX5_paint_67 : decode cX5_paint 67 = .ok (.iload 4, 2) := by decide +kernel
theorem dX5_paint_69 : decode cX5_paint 69 = .ok (.iload_n 3, 1) := by decide +kernel
theorem dX5_paint_70 : decode cX5_paint 70 = .ok (.iastore, 1) := by decide +kernel
theorem dX5_paint_71 : decode cX5_paint 71 = .ok (.iload 5, 2) := by decide +kernel
theorem dX5_paint_73 : decode cX5_paint 73 = .ok (.ireturn, 1) := by decide +kernel
set_option maxHeartbeats 4000000 in
set_option maxRecDepth 100000 in
theorem c_X5_paint (l : Launch) (E : gE) (g : Mem) (S : AS) (B : Nat) (hB : B < 90000000) (ho : OK S B) (sh mk wa : Nat → Int32) (h : CQ E g S sh mk wa) (xa xb xc : Int32) : Mt l E yX5_paint cX5_paint 6 (some .int) 3 69 [rf E (0), .int (xa), .int (xb), .int (xc)] g (pI (fun z g' => z = (qPaint S xa xb xc).1 ∧ CP E g' (qPaint S xa xb xc).2)) := by
  have hK := h.k
  have hv := ho.v
  have hrc : rc S.r ≤ 6 := hv.1.2
  have hgc : gc S.r ≤ 4 := hv.2.1.2
  have hc4 := ho.c4
  refine mt_go (own := RX5) (by decide) rfl (lo := [some (rf E (0)), some (.int (xa)), some (.int (xb)), some (.int (xc)), none, none]) rfl (Nat.le_of_ble_eq_true rfl) (fun X hC => ?_)
  obtain ⟨co, pi, π, ρ, V, U, hX, e1, e2, e3, e4⟩ := zStF (r := S.r) (B := B) h.sta hv
  refine y_iload_n hC dX5_paint_0 (i := 1) rfl rfl ?_
  refine y_iload_n hC dX5_paint_1 (i := 2) rfl rfl ?_
  refine y_callS hC mX5_isPixel kX5_163 dX5_paint_2 (As := [.int (xa), .int (xb)]) (rest := []) (c_X5_isPixel l E g ((xa)) ((xb))) rfl rfl rfl (Nat.le_of_ble_eq_true rfl) ⟨Nat.le_of_ble_eq_true rfl, Nat.le_of_ble_eq_true rfl⟩ (pk_i ?_)
  rintro r_2 g_2 ⟨hr_2, hq_2⟩
  obtain rfl := hq_2.symm
  rw [hr_2]
  clear hr_2 r_2
  refine y_if_ne_b (tgt := 10) hC dX5_paint_5 (by decide) (fun c_5 => ?_) (fun c_5 => ?_)
  · obtain ⟨p, hp, hpx⟩ := zN (m := 7) c_5.1
    subst hpx
    obtain ⟨q, hq, hqx⟩ := zN (m := 7) c_5.2
    subst hqx
    refine y_iload_n hC dX5_paint_10 (i := 3) rfl rfl ?_
    refine y_callS hC mX5_isPlace kX5_41 dX5_paint_11 (As := [.int (xc)]) (rest := []) (c_X5_isPlace l E g ((xc))) rfl rfl rfl (Nat.le_of_ble_eq_true rfl) ⟨Nat.le_of_ble_eq_true rfl, Nat.le_of_ble_eq_true rfl⟩ (pk_i ?_)
    rintro r_11 g_11 ⟨hr_11, hq_11⟩
    obtain rfl := hq_11.symm
    rw [hr_11]
    clear hr_11 r_11
    refine y_if_ne_b (tgt := 20) hC dX5_paint_14 (by decide) (fun c_14 => ?_) (fun c_14 => ?_)
    · obtain ⟨c, hc, hcx⟩ := zN (m := 31) c_14
      subst hcx
      refine y_iload_n hC dX5_paint_20 (i := 1) rfl rfl ?_
      refine y_bipush (v := nI 8) hC dX5_paint_21 (by decide) ?_
      refine y_imul_n hC dX5_paint_23 ?_
      refine y_iload_n hC dX5_paint_24 (i := 2) rfl rfl ?_
      refine y_iadd_n hC dX5_paint_25 ?_
      refine y_istore hC dX5_paint_26 (Nat.le_of_ble_eq_true rfl) rfl (lo' := [some (rf E (0)), some (.int (nI (p))), some (.int (nI (q))), some (.int (nI (c))), some (.int (nI ((p * 8) + q))), none]) rfl ?_
      refine y_aload_n hC dX5_paint_28 (i := 0) rfl rfl ?_
      refine y_get hC fX5_12 dX5_paint_29 (k := 0) (by omega) h.a0 rfl ?_
      refine y_get hC fX5_166 dX5_paint_32 (k := 1) (hX.k (k := 0) (by decide)) hX.s0 rfl ?_
      refine y_iload hC dX5_paint_35 rfl ?_
      refine y_iald hC dX5_paint_37 (k := 1 + 2) (j := (p * 8) + q) (hX.k (k := 2) (by decide)) hX.s2 (rfl) (by omega) (by decide) ?_
      have hpb := (hv.2.2.2.2.2.2.1 (8 * p + q) (by omega)).2
      refine y_top (y := nI (px S.r (8 * p + q))) ((e2 (p * 8 + q) (by omega)).trans ((congrArg (fun k => S.r (92 + k)) (show p * 8 + q = 8 * p + q by omega)).trans (hv.2.2.2.2.2.2.1 (8 * p + q) (by omega)).1)) ?_
      refine y_istore hC dX5_paint_38 (Nat.le_of_ble_eq_true rfl) rfl (lo' := [some (rf E (0)), some (.int (nI (p))), some (.int (nI (q))), some (.int (nI (c))), some (.int (nI ((p * 8) + q))), some (.int (nI (px S.r (8 * p + q))))]) rfl ?_
      refine y_iload hC dX5_paint_40 rfl ?_
      refine y_iload_n hC dX5_paint_42 (i := 3) rfl rfl ?_
      refine y_icmp_ne_n (tgt := 49) hC dX5_paint_43 (by decide) (by omega) (by omega) (fun c_43 => ?_) (fun c_43 => ?_)
      · refine y_aload_n hC dX5_paint_49 (i := 0) rfl rfl ?_
        refine y_get hC fX5_19 dX5_paint_50 (k := 0) (by omega) h.a0 rfl ?_
        refine y_aload_n hC dX5_paint_53 (i := 0) rfl rfl ?_
        refine y_get hC fX5_12 dX5_paint_54 (k := 0) (by omega) h.a0 rfl ?_
        refine y_callV hC mX1_record kX5_51 dX5_paint_57 (b := 16) (As := [rf E (1)]) (rest := []) (c_X1_record l E g S.c S.kp S.hr S.sn S.r B h.ha h.sta hv) (by omega) h.a16 rfl rfl rfl (Nat.le_of_ble_eq_true rfl) ⟨Nat.le_of_ble_eq_true rfl, Nat.le_of_ble_eq_true rfl⟩ (pk_v ?_)
        rintro g_57 hrec_57
        have hq_57 := h.uprec hrec_57
        obtain ⟨co_57, pi_57, π_57, ρ_57, V_57, U_57, hX_57, e1_57, e2_57, e3_57, e4_57⟩ := zStF (r := S.r) (B := B) hq_57.sta hv
        refine y_aload_n hC dX5_paint_60 (i := 0) rfl rfl ?_
        refine y_get hC fX5_12 dX5_paint_61 (k := 0) (by omega) hq_57.a0 rfl ?_
        refine y_get hC fX5_166 dX5_paint_64 (k := 1) (hX_57.k (k := 0) (by decide)) hX_57.s0 rfl ?_
        refine y_iload hC dX5_paint_67 rfl ?_
        refine y_iload_n hC dX5_paint_69 (i := 3) rfl rfl ?_
        refine y_iast hC dX5_paint_70 (k := 1 + 2) (j := (p * 8) + q) (hX_57.k (k := 2) (by decide)) hX_57.s2 (rfl) (by omega) (by decide) ?_
        have hX_70 : SF E g_57 (va_up g_57 (1 + 2) (aI E 0 64 (upd pi_57 ((p * 8) + q) (nI (c))))) 1 co_57 (upd pi_57 ((p * 8) + q) (nI (c))) π_57 ρ_57 V_57 U_57 (v4 (nI (rc S.r)) (nI (gc S.r)) (nI (nn (S.r 156))) (nI (nn (S.r 157)))) := hX_57.uppi _
        generalize (va_up g_57 (1 + 2) (aI E 0 64 (upd pi_57 ((p * 8) + q) (nI (c))))) = g_70 at hX_70 ⊢
        have hr := hX_70.st (sr_p (r2 := upd S.r (92 + (8 * p + q)) (nI c)) hv e1_57 e3_57 e4_57 (fun k hk => by
          by_cases e : k = p * 8 + q
          · rw [e, pk_us, show 92 + (p * 8 + q) = 92 + (8 * p + q) by omega, pk_us]
          · rw [pk_un e, pk_un (by omega)]; exact e2_57 k hk) (fun k hk => pk_un (by omega)))
        refine y_iload hC dX5_paint_71 rfl ?_
        refine y_iret (hC := hC) (hd := dX5_paint_73) (hq := ?_)
        have hqq : qPaint S (nI p) (nI q) (nI c) = (nI (px S.r (8 * p + q)), S.rec.row (upd S.r (92 + (8 * p + q)) (nI c))) := by simp only [qPaint, nn_I (show p < 2147483648 by omega), nn_I (show q < 2147483648 by omega), nn_I (show c < 2147483648 by omega), if_pos c_5, if_pos c_14, if_neg c_43]
        rw [hqq]
        exact ⟨rfl, (hq_57.upst hr.1 hr.2).cp⟩
      · refine y_bipush (v := (-5)) hC dX5_paint_46 (by decide) ?_
        refine y_iret (hC := hC) (hd := dX5_paint_48) (hq := ?_)
        have hqq : qPaint S (nI p) (nI q) (nI c) = (-5, S) := by simp only [qPaint, nn_I (show p < 2147483648 by omega), nn_I (show q < 2147483648 by omega), nn_I (show c < 2147483648 by omega), if_pos c_5, if_pos c_14, if_pos c_43]
        rw [hqq]
        exact ⟨rfl, h.cp⟩
    · refine y_bipush (v := (-2)) hC dX5_paint_17 (by decide) ?_
      refine y_iret (hC := hC) (hd := dX5_paint_19) (hq := ?_)
      have hqq : qPaint S (nI p) (nI q) xc = (-2, S) := by simp only [qPaint, nn_I (show p < 2147483648 by omega), nn_I (show q < 2147483648 by omega), if_pos c_5, if_neg c_14]
      rw [hqq]
      exact ⟨rfl, h.cp⟩
  · refine y_iconst (v := (-1)) hC dX5_paint_8 (by decide) ?_
    refine y_iret (hC := hC) (hd := dX5_paint_9) (hq := ?_)
    have hqq : qPaint S xa xb xc = (-1, S) := by simp only [qPaint, if_neg c_5]
    rw [hqq]
    exact ⟨rfl, h.cp⟩
