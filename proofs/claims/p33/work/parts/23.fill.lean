/-! ===== the class itself: the fill ===== -/
/-- pixels that stand side by side; pixels that are connected with s -/
def adj (p q : Nat) : Prop := (0 < p % 8 ∧ q + 1 = p) ∨ (p % 8 + 1 < 8 ∧ q = p + 1) ∨ (8 ≤ p ∧ q + 8 = p) ∨ (p + 8 < 64 ∧ q = p + 8)
def RN (r : Row) (s : Nat) : Nat → Nat → Prop
  | 0, q => q = s
  | n + 1, q => RN r s n q ∨ ∃ p, RN r s n p ∧ adj p q ∧ px r q = px r s
def Rch (r : Row) (s q : Nat) : Prop := ∃ n, RN r s n q
theorem Rch.st {r : Row} {s p q : Nat} (h : Rch r s p) (ha : adj p q) (hp : px r q = px r s) : Rch r s q := by
  obtain ⟨n, hn⟩ := h
  exact ⟨n + 1, Or.inr ⟨p, hn, ha, hp⟩⟩
theorem RN.i {r : Row} {s : Nat} {P : Nat → Prop} (h0 : P s) (h1 : ∀ p q, P p → adj p q → px r q = px r s → P q) : ∀ {n q : Nat}, RN r s n q → P q
  | 0, _, h => by rw [show _ = s from h]; exact h0
  | n + 1, q, h => by
    rcases h with h | ⟨p, h2, h3, h4⟩
    · exact RN.i h0 h1 h
    · exact h1 p q (RN.i h0 h1 h2) h3 h4
theorem Rch.i {r : Row} {s q : Nat} {P : Nat → Prop} (h : Rch r s q) (h0 : P s) (h1 : ∀ p q, P p → adj p q → px r q = px r s → P q) : P q := by
  obtain ⟨n, hn⟩ := h
  exact RN.i h0 h1 hn
theorem Rch.b {r : Row} (s : Nat) : Rch r s s := ⟨0, rfl⟩
noncomputable def rcB (r : Row) (s q : Nat) : Bool := @decide (Rch r s q) (Classical.propDecidable _)
theorem rcB_iff {r : Row} {s q : Nat} : rcB r s q = true ↔ Rch r s q := @decide_eq_true_iff (Rch r s q) (Classical.propDecidable _)
def flR (r : Row) (A : Nat → Bool) (z : Nat) : Row := fun k => if 92 ≤ k ∧ k < 156 ∧ A (k - 92) = true then nI z else r k
theorem flR_cg {r : Row} {A A2 : Nat → Bool} {z : Nat} (h : ∀ p, p < 64 → A p = A2 p) : flR r A z = flR r A2 z := by
  funext k
  unfold flR
  by_cases q : 92 ≤ k ∧ k < 156
  · rw [h (k - 92) (by omega)]
  · rw [if_neg (fun w => q ⟨w.1, w.2.1⟩), if_neg (fun w => q ⟨w.1, w.2.1⟩)]
theorem flR_0 (r : Row) (z : Nat) : flR r (fun _ => false) z = r := by
  funext k
  exact if_neg (fun w => by cases w.2.2)
theorem flR_o {r : Row} {A : Nat → Bool} {z k : Nat} (h : k < 92 ∨ 156 ≤ k) : flR r A z k = r k := if_neg (by omega)
theorem flR_i {r : Row} {A : Nat → Bool} {z p : Nat} (h : p < 64) : flR r A z (92 + p) = if A p = true then nI z else r (92 + p) := by
  unfold flR
  rw [show 92 + p - 92 = p by omega]
  by_cases e : A p = true
  · rw [if_pos ⟨by omega, by omega, e⟩, if_pos e]
  · rw [if_neg (fun w => e w.2.2), if_neg e]
theorem flR_p {r : Row} {B z p : Nat} {A : Nat → Bool} (hv : Vr r B) (hz : z < 32) (h : p < 64) : flR r A z (92 + p) = nI (px (flR r A z) p) ∧ px (flR r A z) p = if A p = true then z else px r p := by
  have q := hv.2.2.2.2.2.2.1 p h
  have e : flR r A z (92 + p) = nI (if A p = true then z else px r p) := by
    rw [flR_i h]
    split
    · rfl
    · exact q.1
  have e2 : px (flR r A z) p = if A p = true then z else px r p := by
    unfold px
    rw [e]
    exact nn_I (by split <;> omega)
  exact ⟨by rw [e2]; exact e, e2⟩
theorem vr_fl {r : Row} {B z : Nat} {A : Nat → Bool} (hv : Vr r B) (hz : z < 32) : Vr (flR r A z) B :=
  vr_pix hv (fun k hk => flR_o hk) (fun p hp => ⟨(flR_p hv hz hp).1, by
    have q := hv.2.2.2.2.2.2.1 p hp
    rw [(flR_p hv hz hp).2]
    split <;> omega⟩)
noncomputable def qFill (S : AS) (x y z : Int32) : Int32 × AS := if (0 ≤ x.toInt ∧ x.toInt ≤ 7) ∧ 0 ≤ y.toInt ∧ y.toInt ≤ 7 then (if 0 ≤ z.toInt ∧ z.toInt ≤ 31 then (if px S.r (8 * nn x + nn y) = nn z then (-5, S) else (nI (cn 64 (rcB S.r (8 * nn x + nn y))), S.rec.row (flR S.r (rcB S.r (8 * nn x + nn y)) (nn z)))) else (-2, S)) else (-1, S)
/-- the painted pixels A stand in the queue Q, n of them -/
def FI (r : Row) (s : Nat) (A : Nat → Bool) (Q : Nat → Nat) (n : Nat) : Prop := (∀ j, j < n → Q j < 64 ∧ A (Q j) = true) ∧ (∀ i j, i < n → j < n → Q i = Q j → i = j) ∧ ∀ p, A p = true → p < 64 ∧ Rch r s p ∧ ∃ j, j < n ∧ Q j = p
def FL (E : gE) (g : Mem) (S : AS) (s z : Nat) (sh mk : Nat → Int32) (A : Nat → Bool) (Q : Nat → Nat) (n : Nat) : Prop := ∃ wa, CQ E g (S.row (flR S.r A z)) sh mk wa ∧ (∀ j, j < n → wa j = nI (Q j)) ∧ FI S.r s A Q n
theorem FI.le {r : Row} {s n : Nat} {A : Nat → Bool} {Q : Nat → Nat} (h : FI r s A Q n) : n ≤ cn 64 A := by
  have := cn_inj (m := 64) (n := n) (P := fun _ => true) (Q := A) Q (fun i hi _ => h.1 i hi) (fun i j hi hj _ _ e => h.2.1 i j hi hj e)
  rwa [cn_all] at this
theorem FI.eq {r : Row} {s n : Nat} {A : Nat → Bool} {Q : Nat → Nat} (h : FI r s A Q n) : n = cn 64 A := by
  have h1 := h.le
  have h2 := cn_inj (m := n) (n := 64) (P := A) (Q := fun _ => true) (fun p => if hp : A p = true then (h.2.2 p hp).2.2.choose else 0) (fun i hi hp => ⟨by rw [dif_pos hp]; exact (h.2.2 i hp).2.2.choose_spec.1, rfl⟩) (fun i j hi hj hp hq e => by
    rw [dif_pos hp, dif_pos hq] at e
    have e1 := (h.2.2 i hp).2.2.choose_spec.2
    have e2 := (h.2.2 j hq).2.2.choose_spec.2
    rw [← e1, ← e2, e])
  rw [cn_all] at h2
  omega
theorem FI.add {r : Row} {s n q : Nat} {A : Nat → Bool} {Q : Nat → Nat} (h : FI r s A Q n) (hq : q < 64) (hA : A q = false) (hr : Rch r s q) : FI r s (va_up A q true) (va_up Q n q) (n + 1) := by
  obtain ⟨h1, h2, h3⟩ := h
  have hne : ∀ j, j < n → Q j ≠ q := fun j hj e => by
    have := (h1 j hj).2
    rw [e, hA] at this
    cases this
  refine ⟨fun j hj => ?_, fun i j hi hj e => ?_, fun p hp => ?_⟩
  · by_cases e : j = n
    · rw [e, va_up_self, va_up_self]
      exact ⟨hq, rfl⟩
    · rw [va_up_ne _ _ e, va_up_ne _ _ (hne j (by omega))]
      exact h1 j (by omega)
  · by_cases e1 : i = n
    · by_cases e2 : j = n
      · omega
      · rw [e1, va_up_self, va_up_ne _ _ e2] at e
        exact absurd e.symm (hne j (by omega))
    · by_cases e2 : j = n
      · rw [e2, va_up_self, va_up_ne _ _ e1] at e
        exact absurd e (hne i (by omega))
      · rw [va_up_ne _ _ e1, va_up_ne _ _ e2] at e
        exact h2 i j (by omega) (by omega) e
  · by_cases e : p = q
    · subst e
      exact ⟨hq, hr, n, by omega, va_up_self _ _ _⟩
    · rw [va_up_ne _ _ e] at hp
      obtain ⟨k1, k2, j, k3, k4⟩ := h3 p hp
      exact ⟨k1, k2, j, by omega, by rw [va_up_ne _ _ (by omega)]; exact k4⟩
theorem dX5_enter_0 : decode cX5_enter 0 = .ok (.aload_n 0, 1) := by decide +kernel
theorem dX5_enter_1 : decode cX5_enter 1 = .ok (.getfield 12, 3) := by decide +kernel
theorem dX5_enter_4 : decode cX5_enter 4 = .ok (.getfield 166, 3) := by decide +kernel
theorem dX5_enter_7 : decode cX5_enter 7 = .ok (.iload_n 1, 1) := by decide +kernel
theorem dX5_enter_8 : decode cX5_enter 8 = .ok (.iaload, 1) := by decide +kernel
theorem dX5_enter_9 : decode cX5_enter 9 = .ok (.iload_n 2, 1) := by decide +kernel
theorem dX5_enter_10 : decode cX5_enter 10 = .ok (.if_icmp .ne 10, 3) := by decide +kernel
theorem dX5_enter_13 : decode cX5_enter 13 = .ok (.iload 4, 2) := by decide +kernel
theorem dX5_enter_15 : decode cX5_enter 15 = .ok (.bipush 64, 2) := by decide +kernel
theorem dX5_enter_17 : decode cX5_enter 17 = .ok (.if_icmp .lt 6, 3) := by decide +kernel
theorem dX5_enter_20 : decode cX5_enter 20 = .ok (.iload 4, 2) := by decide +kernel
theorem dX5_enter_22 : decode cX5_enter 22 = .ok (.ireturn, 1) := by decide +kernel
theorem dX5_enter_23 : decode cX5_enter 23 = .ok (.aload_n 0, 1) := by decide +kernel
theorem dX5_enter_24 : decode cX5_enter 24 = .ok (.getfield 12, 3) := by decide +kernel
theorem dX5_enter_27 : decode cX5_enter 27 = .ok (.getfield 166, 3) := by decide +kernel
theorem dX5_enter_30 : decode cX5_enter 30 = .ok (.iload_n 1, 1) := by decide +kernel
theorem dX5_enter_31 : decode cX5_enter 31 = .ok (.iload_n 3, 1) := by decide +kernel
theorem dX5_enter_32 : decode cX5_enter 32 = .ok (.iastore, 1) := by decide +kernel
theorem dX5_enter_33 : decode cX5_enter 33 = .ok (.aload_n 0, 1) := by decide +kernel
theorem dX5_enter_34 : decode cX5_enter 34 = .ok (.getfield 38, 3) := by decide +kernel
theorem dX5_enter_37 : decode cX5_enter 37 = .ok (.iload 4, 2) := by decide +kernel
theorem dX5_enter_39 : decode cX5_enter 39 = .ok (.iload_n 1, 1) := by decide +kernel
theorem dX5_enter_40 : decode cX5_enter 40 = .ok (.iastore, 1) := by decide +kernel
theorem dX5_enter_41 : decode cX5_enter 41 = .ok (.iload 4, 2) := by decide +kernel
theorem dX5_enter_43 : decode cX5_enter 43 = .ok (.iconst 1, 1) := by decide +kernel
theorem dX5_enter_44 : decode cX5_enter 44 = .ok (.iadd, 1) := by decide +kernel
theorem dX5_enter_45 : decode cX5_enter 45 = .ok (.ireturn, 1) := by decide +kernel
set_option maxHeartbeats 4000000 in
set_option maxRecDepth 100000 in
theorem c_X5_enter (l : Launch) (E : gE) (g : Mem) (S : AS) (B : Nat) (hB : B < 90000000) (ho : OK S B) (sh mk : Nat → Int32) (s z q n : Nat) (A : Nat → Bool) (Q : Nat → Nat) (hs : s < 64) (hz : z < 32) (hzc : ¬ z = px S.r s) (hq : q < 64) (hqr : px S.r q = px S.r s → Rch S.r s q) (hF : FL E g S s z sh mk A Q n) : Mt l E yX5_enter cX5_enter 5 (some .int) 0 0 [rf E (0), .int (nI (q)), .int (nI (px S.r s)), .int (nI (z)), .int (nI (n))] g (pI (fun v g' => ∃ A2 Q2 n2, v = nI n2 ∧ FL E g' S s z sh mk A2 Q2 n2 ∧ n ≤ n2 ∧ (∀ j, j < n → Q2 j = Q j) ∧ (∀ p, A p = true → A2 p = true) ∧ (px S.r q = px S.r s → A2 q = true))) := by
  obtain ⟨wa, hq0, hwa, hI⟩ := hF
  have hK := hq0.k
  have hv1 : Vr (flR S.r A z) B := vr_fl ho.v hz
  have hnl := hI.le
  have hcl := cn_le 64 A
  have hps := (ho.v.2.2.2.2.2.2.1 s hs).2
  have hpq := (flR_p (A := A) ho.v hz hq).2
  have hpl := (hv1.2.2.2.2.2.2.1 q hq).2
  refine mt_go (own := RX5) (by decide) rfl (lo := [some (rf E (0)), some (.int (nI (q))), some (.int (nI (px S.r s))), some (.int (nI (z))), some (.int (nI (n)))]) rfl (Nat.le_of_ble_eq_true rfl) (fun X hC => ?_)
  obtain ⟨co, pi, π, ρ, V, U, hX, e1, e2, e3, e4⟩ := zStF (r := (flR S.r A z)) (B := B) hq0.sta hv1
  refine y_aload_n hC dX5_enter_0 (i := 0) rfl rfl ?_
  refine y_get hC fX5_12 dX5_enter_1 (k := 0) (by omega) hq0.a0 rfl ?_
  refine y_get hC fX5_166 dX5_enter_4 (k := 1) (hX.k (k := 0) (by decide)) hX.s0 rfl ?_
  refine y_iload_n hC dX5_enter_7 (i := 1) rfl rfl ?_
  refine y_iald hC dX5_enter_8 (k := 1 + 2) (j := q) (hX.k (k := 2) (by decide)) hX.s2 (rfl) (by omega) (by decide) ?_
  refine y_top (y := nI (px (flR S.r A z) q)) ((e2 q hq).trans (flR_p (A := A) ho.v hz hq).1) ?_
  refine y_iload_n hC dX5_enter_9 (i := 2) rfl rfl ?_
  refine y_icmp_ne_n (tgt := 20) hC dX5_enter_10 (by decide) (by omega) (by omega) (fun c_10 => ?_) (fun c_10 => ?_)
  · refine y_iload hC dX5_enter_20 rfl ?_
    refine y_iret (hC := hC) (hd := dX5_enter_22) (hq := ?_)
    refine ⟨A, Q, n, rfl, ⟨wa, hq0, hwa, hI⟩, Nat.le_refl _, fun _ _ => rfl, fun _ h => h, fun h => ?_⟩
    apply Decidable.byContradiction
    intro e
    rw [if_neg e] at hpq
    exact c_10 (hpq.trans h)
  · refine y_iload hC dX5_enter_13 rfl ?_
    refine y_bipush (v := nI 64) hC dX5_enter_15 (by decide) ?_
    refine y_icmp_lt_n (tgt := 23) hC dX5_enter_17 (by decide) (by omega) (by omega) (fun c_17 => ?_) (fun c_17 => ?_)
    · refine y_aload_n hC dX5_enter_23 (i := 0) rfl rfl ?_
      refine y_get hC fX5_12 dX5_enter_24 (k := 0) (by omega) hq0.a0 rfl ?_
      refine y_get hC fX5_166 dX5_enter_27 (k := 1) (hX.k (k := 0) (by decide)) hX.s0 rfl ?_
      refine y_iload_n hC dX5_enter_30 (i := 1) rfl rfl ?_
      refine y_iload_n hC dX5_enter_31 (i := 3) rfl rfl ?_
      refine y_iast hC dX5_enter_32 (k := 1 + 2) (j := q) (hX.k (k := 2) (by decide)) hX.s2 (rfl) (by omega) (by decide) ?_
      have hX_32 : SF E g (va_up g (1 + 2) (aI E 0 64 (upd pi (q) (nI (z))))) 1 co (upd pi (q) (nI (z))) π ρ V U (v4 (nI (rc (flR S.r A z))) (nI (gc (flR S.r A z))) (nI (nn ((flR S.r A z) 156))) (nI (nn ((flR S.r A z) 157)))) := hX.uppi _
      generalize (va_up g (1 + 2) (aI E 0 64 (upd pi (q) (nI (z))))) = g_32 at hX_32 ⊢
      have hAq : A q = false := by
        cases e : A q with
        | false => rfl
        | true => rw [if_pos e] at hpq; omega
      have hpr : px S.r q = px S.r s := by
        rw [hAq] at hpq
        exact hpq.symm.trans c_10
      have hr := hX_32.st (sr_p (r2 := flR S.r (va_up A q true) z) hv1 e1 e3 e4 (fun k hk => by
        rw [flR_i hk]
        by_cases e : k = q
        · rw [e, pk_us, va_up_self, if_pos rfl]
        · rw [pk_un e, va_up_ne _ _ e, e2 k hk, flR_i hk]) (fun k hk => by rw [flR_o hk, flR_o hk]))
      have hq1 := hq0.upst hr.1 hr.2
      refine y_aload_n hC dX5_enter_33 (i := 0) rfl rfl ?_
      refine y_get hC fX5_38 dX5_enter_34 (k := 0) (by omega) hq1.a0 rfl ?_
      refine y_iload hC dX5_enter_37 rfl ?_
      refine y_iload_n hC dX5_enter_39 (i := 1) rfl rfl ?_
      refine y_iast hC dX5_enter_40 (k := 99) (j := n) (by omega) hq1.a99 (rfl) (by omega) (by decide) ?_
      have hq_40 : CQ E (va_up g_32 (99) (aI E 0 64 (upd wa (n) (nI (q))))) (S.row (flR S.r (va_up A q true) z)) sh mk (upd wa (n) (nI (q))) := hq1.up99 _
      generalize (va_up g_32 (99) (aI E 0 64 (upd wa (n) (nI (q))))) = g_40 at hq_40 ⊢
      refine y_iload hC dX5_enter_41 rfl ?_
      refine y_iconst (v := nI 1) hC dX5_enter_43 (by decide) ?_
      refine y_iadd_n hC dX5_enter_44 ?_
      refine y_iret (hC := hC) (hd := dX5_enter_45) (hq := ?_)
      refine ⟨va_up A q true, va_up Q n q, n + 1, rfl, ⟨_, hq_40, fun j hj => ?_, hI.add hq hAq (hqr hpr)⟩, Nat.le_succ _, fun j hj => va_up_ne _ _ (by omega), fun p hp => ?_, fun _ => va_up_self _ _ _⟩
      · by_cases e : j = n
        · rw [e, pk_us, va_up_self]
        · rw [pk_un e, va_up_ne _ _ e]
          exact hwa j (by omega)
      · by_cases e : p = q
        · rw [e, va_up_self]
        · rw [va_up_ne _ _ e]
          exact hp
    · exfalso
      have hAq : A q = false := by
        cases e : A q with
        | false => rfl
        | true => rw [if_pos e] at hpq; omega
      have := cn_lt (n := 64) hq hAq
      omega

theorem dX5_flood_0 : decode cX5_flood 0 = .ok (.aload_n 0, 1) := by decide +kernel
theorem dX5_flood_1 : decode cX5_flood 1 = .ok (.getfield 12, 3) := by decide +kernel
theorem dX5_flood_4 : decode cX5_flood 4 = .ok (.getfield 166, 3) := by decide +kernel
theorem dX5_flood_7 : decode cX5_flood 7 = .ok (.iload_n 1, 1) := by decide +kernel
theorem dX5_flood_8 : decode cX5_flood 8 = .ok (.iaload, 1) := by decide +kernel
theorem dX5_flood_9 : decode cX5_flood 9 = .ok (.istore_n 3, 1) := by decide +kernel
theorem dX5_flood_10 : decode cX5_flood 10 = .ok (.aload_n 0, 1) := by decide +kernel
theorem dX5_flood_11 : decode cX5_flood 11 = .ok (.iload_n 1, 1) := by decide +kernel
theorem dX5_flood_12 : decode cX5_flood 12 = .ok (.iload_n 3, 1) := by decide +kernel
theorem dX5_flood_13 : decode cX5_flood 13 = .ok (.iload_n 2, 1) := by decide +kernel
theorem dX5_flood_14 : decode cX5_flood 14 = .ok (.iconst 0, 1) := by decide +kernel
theorem dX5_flood_15 : decode cX5_flood 15 = .ok (.invokevirtual 271, 3) := by decide +kernel
theorem dX5_flood_18 : decode cX5_flood 18 = .ok (.istore 4, 2) := by decide +kernel
theorem dX5_flood_20 : decode cX5_flood 20 = .ok (.iconst 0, 1) := by decide +kernel
theorem dX5_flood_21 : decode cX5_flood 21 = .ok (.istore 5, 2) := by decide +kernel
theorem dX5_flood_23 : decode cX5_flood 23 = .ok (.iload 5, 2) := by decide +kernel
theorem dX5_flood_25 : decode cX5_flood 25 = .ok (.bipush 64, 2) := by decide +kernel
theorem dX5_flood_27 : decode cX5_flood 27 = .ok (.if_icmp .ge 121, 3) := by decide +kernel
theorem dX5_flood_30 : decode cX5_flood 30 = .ok (.iload 5, 2) := by decide +kernel
theorem dX5_flood_32 : decode cX5_flood 32 = .ok (.iload 4, 2) := by decide +kernel
theorem dX5_flood_34 : decode cX5_flood 34 = .ok (.if_icmp .ge 114, 3) := by decide +kernel
theorem dX5_flood_37 : decode cX5_flood 37 = .ok (.aload_n 0, 1) := by decide +kernel
theorem dX5_flood_38 : decode cX5_flood 38 = .ok (.getfield 38, 3) := by decide +kernel
theorem dX5_flood_41 : decode cX5_flood 41 = .ok (.iload 5, 2) := by decide +kernel
theorem dX5_flood_43 : decode cX5_flood 43 = .ok (.iaload, 1) := by decide +kernel
theorem dX5_flood_44 : decode cX5_flood 44 = .ok (.istore 6, 2) := by decide +kernel
theorem dX5_flood_46 : decode cX5_flood 46 = .ok (.iload 6, 2) := by decide +kernel
theorem dX5_flood_48 : decode cX5_flood 48 = .ok (.bipush 8, 2) := by decide +kernel
theorem dX5_flood_50 : decode cX5_flood 50 = .ok (.irem, 1) := by decide +kernel
theorem dX5_flood_51 : decode cX5_flood 51 = .ok (.istore 7, 2) := by decide +kernel
theorem dX5_flood_53 : decode cX5_flood 53 = .ok (.iload 7, 2) := by decide +kernel
theorem dX5_flood_55 : decode cX5_flood 55 = .ok (.ifCond .le 17, 3) := by decide +kernel
theorem dX5_flood_58 : decode cX5_flood 58 = .ok (.aload_n 0, 1) := by decide +kernel
theorem dX5_flood_59 : decode cX5_flood 59 = .ok (.iload 6, 2) := by decide +kernel
theorem dX5_flood_61 : decode cX5_flood 61 = .ok (.iconst 1, 1) := by decide +kernel
theorem dX5_flood_62 : decode cX5_flood 62 = .ok (.isub, 1) := by decide +kernel
theorem dX5_flood_63 : decode cX5_flood 63 = .ok (.iload_n 3, 1) := by decide +kernel
theorem dX5_flood_64 : decode cX5_flood 64 = .ok (.iload_n 2, 1) := by decide +kernel
theorem dX5_flood_65 : decode cX5_flood 65 = .ok (.iload 4, 2) := by decide +kernel
theorem dX5_flood_67 : decode cX5_flood 67 = .ok (.invokevirtual 271, 3) := by decide +kernel
theorem dX5_flood_70 : decode cX5_flood 70 = .ok (.istore 4, 2) := by decide +kernel
theorem dX5_flood_72 : decode cX5_flood 72 = .ok (.iload 7, 2) := by decide +kernel
theorem dX5_flood_74 : decode cX5_flood 74 = .ok (.iconst 1, 1) := by decide +kernel
theorem dX5_flood_75 : decode cX5_flood 75 = .ok (.iadd, 1) := by decide +kernel
theorem dX5_flood_76 : decode cX5_flood 76 = .ok (.bipush 8, 2) := by decide +kernel
theorem dX5_flood_78 : decode cX5_flood 78 = .ok (.if_icmp .ge 17, 3) := by decide +kernel
theorem dX5_flood_81 : decode cX5_flood 81 = .ok (.aload_n 0, 1) := by decide +kernel
theorem dX5_flood_82 : decode cX5_flood 82 = .ok (.iload 6, 2) := by decide +kernel
theorem dX5_flood_84 : decode cX5_flood 84 = .ok (.iconst 1, 1) := by decide +kernel
theorem dX5_flood_85 : decode cX5_flood 85 = .ok (.iadd, 1) := by decide +kernel
theorem dX5_flood_86 : decode cX5_flood 86 = .ok (.iload_n 3, 1) := by decide +kernel
theorem dX5_flood_87 : decode cX5_flood 87 = .ok (.iload_n 2, 1) := by decide +kernel
theorem dX5_flood_88 : decode cX5_flood 88 = .ok (.iload 4, 2) := by decide +kernel
theorem dX5_flood_90 : decode cX5_flood 90 = .ok (.invokevirtual 271, 3) := by decide +kernel
theorem dX5_flood_93 : decode cX5_flood 93 = .ok (.istore 4, 2) := by decide +kernel
theorem dX5_flood_95 : decode cX5_flood 95 = .ok (.iload 6, 2) := by decide +kernel
theorem dX5_flood_97 : decode cX5_flood 97 = .ok (.bipush 8, 2) := by decide +kernel
theorem dX5_flood_99 : decode cX5_flood 99 = .ok (.if_icmp .lt 18, 3) := by decide +kernel
theorem dX5_flood_102 : decode cX5_flood 102 = .ok (.aload_n 0, 1) := by decide +kernel
theorem dX5_flood_103 : decode cX5_flood 103 = .ok (.iload 6, 2) := by decide +kernel
theorem dX5_flood_105 : decode cX5_flood 105 = .ok (.bipush 8, 2) := by decide +kernel
theorem dX5_flood_107 : decode cX5_flood 107 = .ok (.isub, 1) := by decide +kernel
theorem dX5_flood_108 : decode cX5_flood 108 = .ok (.iload_n 3, 1) := by decide +kernel
theorem dX5_flood_109 : decode cX5_flood 109 = .ok (.iload_n 2, 1) := by decide +kernel
theorem dX5_flood_110 : decode cX5_flood 110 = .ok (.iload 4, 2) := by decide +kernel
theorem dX5_flood_112 : decode cX5_flood 112 = .ok (.invokevirtual 271, 3) := by decide +kernel
theorem dX5_flood_115 : decode cX5_flood 115 = .ok (.istore 4, 2) := by decide +kernel
theorem dX5_flood_117 : decode cX5_flood 117 = .ok (.iload 6, 2) := by decide +kernel
theorem dX5_flood_119 : decode cX5_flood 119 = .ok (.bipush 8, 2) := by decide +kernel
theorem dX5_flood_121 : decode cX5_flood 121 = .ok (.iadd, 1) := by decide +kernel
theorem dX5_flood_122 : decode cX5_flood 122 = .ok (.bipush 64, 2) := by decide +kernel
theorem dX5_flood_124 : decode cX5_flood 124 = .ok (.if_icmp .ge 18, 3) := by decide +kernel
theorem dX5_flood_127 : decode cX5_flood 127 = .ok (.aload_n 0, 1) := by decide +kernel
theorem dX5_flood_128 : decode cX5_flood 128 = .ok (.iload 6, 2) := by decide +kernel
theorem dX5_flood_130 : decode cX5_flood 130 = .ok (.bipush 8, 2) := by decide +kernel
theorem dX5_flood_132 : decode cX5_flood 132 = .ok (.iadd, 1) := by decide +kernel
theorem dX5_flood_133 : decode cX5_flood 133 = .ok (.iload_n 3, 1) := by decide +kernel
theorem dX5_flood_134 : decode cX5_flood 134 = .ok (.iload_n 2, 1) := by decide +kernel
theorem dX5_flood_135 : decode cX5_flood 135 = .ok (.iload 4, 2) := by decide +kernel
theorem dX5_flood_137 : decode cX5_flood 137 = .ok (.invokevirtual 271, 3) := by decide +kernel
theorem dX5_flood_140 : decode cX5_flood 140 = .ok (.istore 4, 2) := by decide +kernel
theorem dX5_flood_142 : decode cX5_flood 142 = .ok (.iinc 5 1, 3) := by decide +kernel
theorem dX5_flood_145 : decode cX5_flood 145 = .ok (.goto (-122), 3) := by decide +kernel
theorem dX5_flood_148 : decode cX5_flood 148 = .ok (.iload 4, 2) := by decide +kernel
theorem dX5_flood_150 : decode cX5_flood 150 = .ok (.ireturn, 1) := by decide +kernel
set_option maxHeartbeats 4000000 in
set_option maxRecDepth 100000 in
theorem c_X5_flood (l : Launch) (E : gE) (g : Mem) (S : AS) (B : Nat) (hB : B < 90000000) (ho : OK S B) (sh mk wa : Nat → Int32) (h : CQ E g S sh mk wa) (s z : Nat) (hs : s < 64) (hz : z < 32) (hzc : ¬ z = px S.r s) : Mt l E yX5_flood cX5_flood 8 (some .int) 1 24 [rf E (0), .int (nI (s)), .int (nI (z))] g (pI (fun v g' => v = nI (cn 64 (rcB S.r s)) ∧ ∃ wa', CQ E g' (S.row (flR S.r (rcB S.r s) z)) sh mk wa')) := by
  have hK := h.k
  have hv := ho.v
  have hrc : rc S.r ≤ 6 := hv.1.2
  have hgc : gc S.r ≤ 4 := hv.2.1.2
  have hc4 := ho.c4
  have hF0 : FL E g S s z sh mk (fun _ => false) (fun _ => 0) 0 := ⟨wa, by rw [flR_0]; exact h, fun j hj => absurd hj (Nat.not_lt_zero j), fun j hj => absurd hj (Nat.not_lt_zero j), fun i j hi => absurd hi (Nat.not_lt_zero i), fun p hp => by cases hp⟩
  refine mt_go (own := RX5) (by decide) rfl (lo := [some (rf E (0)), some (.int (nI (s))), some (.int (nI (z))), none, none, none, none, none]) rfl (Nat.le_of_ble_eq_true rfl) (fun X hC => ?_)
  obtain ⟨co, pi, π, ρ, V, U, hX, e1, e2, e3, e4⟩ := zStF (r := S.r) (B := B) h.sta hv
  refine y_aload_n hC dX5_flood_0 (i := 0) rfl rfl ?_
  refine y_get hC fX5_12 dX5_flood_1 (k := 0) (by omega) h.a0 rfl ?_
  refine y_get hC fX5_166 dX5_flood_4 (k := 1) (hX.k (k := 0) (by decide)) hX.s0 rfl ?_
  refine y_iload_n hC dX5_flood_7 (i := 1) rfl rfl ?_
  refine y_iald hC dX5_flood_8 (k := 1 + 2) (j := s) (hX.k (k := 2) (by decide)) hX.s2 (rfl) (by omega) (by decide) ?_
  have hpb_9 := (hv.2.2.2.2.2.2.1 s (by omega)).2
  refine y_top (y := nI (px S.r s)) ((e2 s (by omega)).trans (hv.2.2.2.2.2.2.1 s (by omega)).1) ?_
  refine y_istore_n hC dX5_flood_9 (i := 3) rfl (Nat.le_of_ble_eq_true rfl) rfl (lo' := [some (rf E (0)), some (.int (nI (s))), some (.int (nI (z))), some (.int (nI (px S.r s))), none, none, none, none]) rfl ?_
  refine y_aload_n hC dX5_flood_10 (i := 0) rfl rfl ?_
  refine y_iload_n hC dX5_flood_11 (i := 1) rfl rfl ?_
  refine y_iload_n hC dX5_flood_12 (i := 3) rfl rfl ?_
  refine y_iload_n hC dX5_flood_13 (i := 2) rfl rfl ?_
  refine y_iconst (v := nI 0) hC dX5_flood_14 (by decide) ?_
  refine y_callV hC mX5_enter kX5_271 dX5_flood_15 (b := 0) (As := [.int (nI (s)), .int (nI (px S.r s)), .int (nI (z)), .int (nI (0))]) (rest := []) (c_X5_enter l E g S B hB ho sh mk s z s 0 (fun _ => false) (fun _ => 0) hs hz hzc hs (fun _ => Rch.b s) hF0) (by omega) h.a0 rfl rfl rfl (Nat.le_of_ble_eq_true rfl) ⟨Nat.le_of_ble_eq_true rfl, Nat.le_of_ble_eq_true rfl⟩ (pk_i ?_)
  rintro r_15 g_15 ⟨A3, Q3, n3, hr_15, F3, -, -, -, t3⟩
  rw [hr_15]
  clear hr_15 r_15
  refine y_istore hC dX5_flood_18 (Nat.le_of_ble_eq_true rfl) rfl (lo' := [some (rf E (0)), some (.int (nI (s))), some (.int (nI (z))), some (.int (nI (px S.r s))), some (.int (nI (n3))), none, none, none]) rfl ?_
  refine y_iconst (v := nI 0) hC dX5_flood_20 (by decide) ?_
  refine y_istore hC dX5_flood_21 (Nat.le_of_ble_eq_true rfl) rfl (lo' := [some (rf E (0)), some (.int (nI (s))), some (.int (nI (z))), some (.int (nI (px S.r s))), some (.int (nI (n3))), some (.int (nI (0))), none, none]) rfl ?_
  have L_23 : ∀ (m : Nat) (j n : Nat) (A : Nat → Bool) (Q : Nat → Nat) (g1 : Mem), (hm : 64 - j < m) → (hj : j ≤ n) → (hF : FL E g1 S s z sh mk A Q n) → (hcl : ∀ i, i < j → ∀ q, adj (Q i) q → px S.r q = px S.r s → A q = true) → (hA : A s = true) → Y l E X (pI (fun v g' => v = nI (cn 64 (rcB S.r s)) ∧ ∃ wa', CQ E g' (S.row (flR S.r (rcB S.r s) z)) sh mk wa')) 23 [some (rf E (0)), some (.int (nI (s))), some (.int (nI (z))), some (.int (nI (px S.r s))), some (.int (nI (n))), some (.int (nI (j))), none, none] [] g1 := by
    intro m
    induction m with
    | zero => intro j n A Q g1 hm hj hF hcl hA; exact absurd hm (Nat.not_lt_zero _)
    | succ m ih_23 =>
      intro j n A Q g1 hm hj hF hcl hA
      obtain ⟨wa1, hq1, hw1, hI⟩ := hF
      refine y_iload hC dX5_flood_23 rfl ?_
      have hnl0 := hI.le
      have hcl0 := cn_le 64 A
      refine y_bipush (v := nI 64) hC dX5_flood_25 (by decide) ?_
      refine y_icmp_ge_n (tgt := 148) hC dX5_flood_27 (by decide) (by omega) (by omega) (fun c_27 => ?_) (fun c_27 => ?_)
      · refine y_iload hC dX5_flood_148 rfl ?_
        refine y_iret (hC := hC) (hd := dX5_flood_150) (hq := ?_)
        have hjn : j = n := by omega
        have hR : ∀ p, p < 64 → A p = rcB S.r s p := by
          intro p hp
          have h1 : Rch S.r s p → A p = true := fun q => q.i (P := fun p => A p = true) hA (fun p q hp ha he => by
            obtain ⟨k1, k2, i, k3, k4⟩ := hI.2.2 p hp
            rw [← k4] at ha
            exact hcl i (by omega) q ha he)
          have h2 : A p = true → Rch S.r s p := fun q => (hI.2.2 p q).2.1
          cases e : A p with
          | true => exact (rcB_iff.mpr (h2 e)).symm
          | false =>
            cases e2 : rcB S.r s p with
            | false => rfl
            | true => rw [h1 (rcB_iff.mp e2)] at e; cases e
        refine ⟨congrArg nI (hI.eq.trans (cn_cg hR)), wa1, ?_⟩
        rw [← flR_cg hR]
        exact hq1
      · refine y_iload hC dX5_flood_30 rfl ?_
        refine y_iload hC dX5_flood_32 rfl ?_
        refine y_icmp_ge_n (tgt := 148) hC dX5_flood_34 (by decide) (by omega) (by omega) (fun c_34 => ?_) (fun c_34 => ?_)
        · refine y_iload hC dX5_flood_148 rfl ?_
          refine y_iret (hC := hC) (hd := dX5_flood_150) (hq := ?_)
          have hjn : j = n := by omega
          have hR : ∀ p, p < 64 → A p = rcB S.r s p := by
            intro p hp
            have h1 : Rch S.r s p → A p = true := fun q => q.i (P := fun p => A p = true) hA (fun p q hp ha he => by
              obtain ⟨k1, k2, i, k3, k4⟩ := hI.2.2 p hp
              rw [← k4] at ha
              exact hcl i (by omega) q ha he)
            have h2 : A p = true → Rch S.r s p := fun q => (hI.2.2 p q).2.1
            cases e : A p with
            | true => exact (rcB_iff.mpr (h2 e)).symm
            | false =>
              cases e2 : rcB S.r s p with
              | false => rfl
              | true => rw [h1 (rcB_iff.mp e2)] at e; cases e
          refine ⟨congrArg nI (hI.eq.trans (cn_cg hR)), wa1, ?_⟩
          rw [← flR_cg hR]
          exact hq1
        · have hjn : j < n := by omega
          have hnl := hI.le
          have hcl64 := cn_le 64 A
          have hqj := (hI.1 j hjn).1
          refine y_aload_n hC dX5_flood_37 (i := 0) rfl rfl ?_
          refine y_get hC fX5_38 dX5_flood_38 (k := 0) (by omega) hq1.a0 rfl ?_
          refine y_iload hC dX5_flood_41 rfl ?_
          refine y_iald hC dX5_flood_43 (k := 99) (j := j) (by omega) hq1.a99 (rfl) (by omega) (by decide) ?_
          refine y_top (y := nI (Q j)) (hw1 j hjn) ?_
          refine y_istore hC dX5_flood_44 (Nat.le_of_ble_eq_true rfl) rfl (lo' := [some (rf E (0)), some (.int (nI (s))), some (.int (nI (z))), some (.int (nI (px S.r s))), some (.int (nI (n))), some (.int (nI (j))), some (.int (nI (Q j))), none]) rfl ?_
          refine y_iload hC dX5_flood_46 rfl ?_
          refine y_bipush (v := nI 8) hC dX5_flood_48 (by decide) ?_
          refine y_irem_n hC dX5_flood_50 (by omega) (by omega) (by omega) ?_
          refine y_istore hC dX5_flood_51 (Nat.le_of_ble_eq_true rfl) rfl (lo' := [some (rf E (0)), some (.int (nI (s))), some (.int (nI (z))), some (.int (nI (px S.r s))), some (.int (nI (n))), some (.int (nI (j))), some (.int (nI (Q j))), some (.int (nI ((Q j) % (8))))]) rfl ?_
          have J_142 : ∀ (n1 : Nat) (A1 : Nat → Bool) (Q1 : Nat → Nat) (g2 : Mem), (hF1 : FL E g2 S s z sh mk A1 Q1 n1) → (hn1 : n ≤ n1) → (hQ1 : ∀ i, i < n → Q1 i = Q i) → (hA1 : ∀ p, A p = true → A1 p = true) → (d1 : 0 < Q j % 8 → px S.r (Q j - 1) = px S.r s → A1 (Q j - 1) = true) → (d2 : Q j % 8 + 1 < 8 → px S.r (Q j + 1) = px S.r s → A1 (Q j + 1) = true) → (d3 : 8 ≤ Q j → px S.r (Q j - 8) = px S.r s → A1 (Q j - 8) = true) → (d4 : Q j + 8 < 64 → px S.r (Q j + 8) = px S.r s → A1 (Q j + 8) = true) → Y l E X (pI (fun v g' => v = nI (cn 64 (rcB S.r s)) ∧ ∃ wa', CQ E g' (S.row (flR S.r (rcB S.r s) z)) sh mk wa')) 142 [some (rf E (0)), some (.int (nI (s))), some (.int (nI (z))), some (.int (nI (px S.r s))), some (.int (nI (n1))), some (.int (nI (j))), some (.int (nI (Q j))), some (.int (nI (Q j % 8)))] [] g2 := by
            intro n1 A1 Q1 g2 hF1 hn1 hQ1 hA1 d1 d2 d3 d4
            obtain ⟨wa1, hq1, hw1, hI1⟩ := hF1
            refine y_iinc_n hC dX5_flood_142 (a := j) (k := 1) rfl (by decide) (Nat.le_of_ble_eq_true rfl) rfl (lo' := [some (rf E (0)), some (.int (nI (s))), some (.int (nI (z))), some (.int (nI (px S.r s))), some (.int (nI (n1))), some (.int (nI (j + 1))), some (.int (nI (Q j))), some (.int (nI (Q j % 8)))]) rfl ?_
            refine y_goto (tgt := 23) hC dX5_flood_145 (by decide) ?_
            refine y_fg 6 (lo' := [some (rf E (0)), some (.int (nI (s))), some (.int (nI (z))), some (.int (nI (px S.r s))), some (.int (nI (n1))), some (.int (nI (j + 1))), none, some (.int (nI (Q j % 8)))]) rfl ?_
            refine y_fg 7 (lo' := [some (rf E (0)), some (.int (nI (s))), some (.int (nI (z))), some (.int (nI (px S.r s))), some (.int (nI (n1))), some (.int (nI (j + 1))), none, none]) rfl ?_
            have hcl2 : ∀ i, i < j + 1 → ∀ q, adj (Q1 i) q → px S.r q = px S.r s → A1 q = true := by
              intro i hi q ha hp
              rw [hQ1 i (by omega)] at ha
              by_cases e : i = j
              · subst e
                rcases ha with ⟨a1, a2⟩ | ⟨a1, a2⟩ | ⟨a1, a2⟩ | ⟨a1, a2⟩
                · have e2 : q = Q i - 1 := by omega
                  rw [e2] at hp ⊢
                  exact d1 a1 hp
                · rw [a2] at hp ⊢
                  exact d2 a1 hp
                · have e2 : q = Q i - 8 := by omega
                  rw [e2] at hp ⊢
                  exact d3 a1 hp
                · rw [a2] at hp ⊢
                  exact d4 a1 hp
              · exact hA1 q (hcl i (by omega) q ha hp)
            have hnl1 := hI1.le
            have hcl641 := cn_le 64 A1
            exact ih_23 (j + 1) n1 A1 Q1 g2 (by omega) (by omega) ⟨wa1, hq1, hw1, hI1⟩ hcl2 (hA1 s hA)
          have J_117 : ∀ (n1 : Nat) (A1 : Nat → Bool) (Q1 : Nat → Nat) (g2 : Mem), (hF1 : FL E g2 S s z sh mk A1 Q1 n1) → (hn1 : n ≤ n1) → (hQ1 : ∀ i, i < n → Q1 i = Q i) → (hA1 : ∀ p, A p = true → A1 p = true) → (d1 : 0 < Q j % 8 → px S.r (Q j - 1) = px S.r s → A1 (Q j - 1) = true) → (d2 : Q j % 8 + 1 < 8 → px S.r (Q j + 1) = px S.r s → A1 (Q j + 1) = true) → (d3 : 8 ≤ Q j → px S.r (Q j - 8) = px S.r s → A1 (Q j - 8) = true) → Y l E X (pI (fun v g' => v = nI (cn 64 (rcB S.r s)) ∧ ∃ wa', CQ E g' (S.row (flR S.r (rcB S.r s) z)) sh mk wa')) 117 [some (rf E (0)), some (.int (nI (s))), some (.int (nI (z))), some (.int (nI (px S.r s))), some (.int (nI (n1))), some (.int (nI (j))), some (.int (nI (Q j))), some (.int (nI (Q j % 8)))] [] g2 := by
            intro n1 A1 Q1 g2 hF1 hn1 hQ1 hA1 d1 d2 d3
            obtain ⟨wa1, hq1, hw1, hI1⟩ := hF1
            refine y_iload hC dX5_flood_117 rfl ?_
            refine y_bipush (v := nI 8) hC dX5_flood_119 (by decide) ?_
            refine y_iadd_n hC dX5_flood_121 ?_
            refine y_bipush (v := nI 64) hC dX5_flood_122 (by decide) ?_
            refine y_icmp_ge_n (tgt := 142) hC dX5_flood_124 (by decide) (by omega) (by omega) (fun c_124 => ?_) (fun c_124 => ?_)
            · exact J_142 n1 A1 Q1 g2 ⟨wa1, hq1, hw1, hI1⟩ hn1 hQ1 hA1 (d1) (d2) (d3) (fun q => absurd q (by omega))
            · refine y_aload_n hC dX5_flood_127 (i := 0) rfl rfl ?_
              refine y_iload hC dX5_flood_128 rfl ?_
              refine y_bipush (v := nI 8) hC dX5_flood_130 (by decide) ?_
              refine y_iadd_n hC dX5_flood_132 ?_
              refine y_iload_n hC dX5_flood_133 (i := 3) rfl rfl ?_
              refine y_iload_n hC dX5_flood_134 (i := 2) rfl rfl ?_
              refine y_iload hC dX5_flood_135 rfl ?_
              refine y_callV hC mX5_enter kX5_271 dX5_flood_137 (b := 0) (As := [.int (nI ((Q j) + 8)), .int (nI (px S.r s)), .int (nI (z)), .int (nI (n1))]) (rest := []) (c_X5_enter l E g2 S B hB ho sh mk s z (Q j + 8) n1 A1 Q1 hs hz hzc (by omega) (fun e => (hI.2.2 _ (hI.1 j hjn).2).2.1.st (show adj (Q j) (Q j + 8) from Or.inr (Or.inr (Or.inr ⟨by omega, rfl⟩))) e) ⟨wa1, hq1, hw1, hI1⟩) (by omega) hq1.a0 rfl rfl rfl (Nat.le_of_ble_eq_true rfl) ⟨Nat.le_of_ble_eq_true rfl, Nat.le_of_ble_eq_true rfl⟩ (pk_i ?_)
              rintro r_137 g_137 ⟨A3_137, Q3_137, n3_137, hr_137, F_137, l_137, o_137, m_137, t_137⟩
              rw [hr_137]
              clear hr_137 r_137
              have hA3_137 : ∀ p, A p = true → A3_137 p = true := fun p hp => m_137 p (hA1 p hp)
              have hQ3_137 : ∀ i, i < n → Q3_137 i = Q i := fun i hi => (o_137 i (by omega)).trans (hQ1 i hi)
              refine y_istore hC dX5_flood_140 (Nat.le_of_ble_eq_true rfl) rfl (lo' := [some (rf E (0)), some (.int (nI (s))), some (.int (nI (z))), some (.int (nI (px S.r s))), some (.int (nI (n3_137))), some (.int (nI (j))), some (.int (nI (Q j))), some (.int (nI (Q j % 8)))]) rfl ?_
              exact J_142 n3_137 A3_137 Q3_137 g_137 F_137 (Nat.le_trans hn1 l_137) hQ3_137 hA3_137 (fun a b => m_137 _ (d1 a b)) (fun a b => m_137 _ (d2 a b)) (fun a b => m_137 _ (d3 a b)) (fun _ b => t_137 b)
          have J_95 : ∀ (n1 : Nat) (A1 : Nat → Bool) (Q1 : Nat → Nat) (g2 : Mem), (hF1 : FL E g2 S s z sh mk A1 Q1 n1) → (hn1 : n ≤ n1) → (hQ1 : ∀ i, i < n → Q1 i = Q i) → (hA1 : ∀ p, A p = true → A1 p = true) → (d1 : 0 < Q j % 8 → px S.r (Q j - 1) = px S.r s → A1 (Q j - 1) = true) → (d2 : Q j % 8 + 1 < 8 → px S.r (Q j + 1) = px S.r s → A1 (Q j + 1) = true) → Y l E X (pI (fun v g' => v = nI (cn 64 (rcB S.r s)) ∧ ∃ wa', CQ E g' (S.row (flR S.r (rcB S.r s) z)) sh mk wa')) 95 [some (rf E (0)), some (.int (nI (s))), some (.int (nI (z))), some (.int (nI (px S.r s))), some (.int (nI (n1))), some (.int (nI (j))), some (.int (nI (Q j))), some (.int (nI (Q j % 8)))] [] g2 := by
            intro n1 A1 Q1 g2 hF1 hn1 hQ1 hA1 d1 d2
            obtain ⟨wa1, hq1, hw1, hI1⟩ := hF1
            refine y_iload hC dX5_flood_95 rfl ?_
            refine y_bipush (v := nI 8) hC dX5_flood_97 (by decide) ?_
            refine y_icmp_lt_n (tgt := 117) hC dX5_flood_99 (by decide) (by omega) (by omega) (fun c_99 => ?_) (fun c_99 => ?_)
            · exact J_117 n1 A1 Q1 g2 ⟨wa1, hq1, hw1, hI1⟩ hn1 hQ1 hA1 (d1) (d2) (fun q => absurd q (by omega))
            · refine y_aload_n hC dX5_flood_102 (i := 0) rfl rfl ?_
              refine y_iload hC dX5_flood_103 rfl ?_
              refine y_bipush (v := nI 8) hC dX5_flood_105 (by decide) ?_
              refine y_isub_n hC dX5_flood_107 (by omega) ?_
              refine y_iload_n hC dX5_flood_108 (i := 3) rfl rfl ?_
              refine y_iload_n hC dX5_flood_109 (i := 2) rfl rfl ?_
              refine y_iload hC dX5_flood_110 rfl ?_
              refine y_callV hC mX5_enter kX5_271 dX5_flood_112 (b := 0) (As := [.int (nI ((Q j) - (8))), .int (nI (px S.r s)), .int (nI (z)), .int (nI (n1))]) (rest := []) (c_X5_enter l E g2 S B hB ho sh mk s z (Q j - 8) n1 A1 Q1 hs hz hzc (by omega) (fun e => (hI.2.2 _ (hI.1 j hjn).2).2.1.st (show adj (Q j) (Q j - 8) from Or.inr (Or.inr (Or.inl ⟨by omega, by omega⟩))) e) ⟨wa1, hq1, hw1, hI1⟩) (by omega) hq1.a0 rfl rfl rfl (Nat.le_of_ble_eq_true rfl) ⟨Nat.le_of_ble_eq_true rfl, Nat.le_of_ble_eq_true rfl⟩ (pk_i ?_)
              rintro r_112 g_112 ⟨A3_112, Q3_112, n3_112, hr_112, F_112, l_112, o_112, m_112, t_112⟩
              rw [hr_112]
              clear hr_112 r_112
              have hA3_112 : ∀ p, A p = true → A3_112 p = true := fun p hp => m_112 p (hA1 p hp)
              have hQ3_112 : ∀ i, i < n → Q3_112 i = Q i := fun i hi => (o_112 i (by omega)).trans (hQ1 i hi)
              refine y_istore hC dX5_flood_115 (Nat.le_of_ble_eq_true rfl) rfl (lo' := [some (rf E (0)), some (.int (nI (s))), some (.int (nI (z))), some (.int (nI (px S.r s))), some (.int (nI (n3_112))), some (.int (nI (j))), some (.int (nI (Q j))), some (.int (nI (Q j % 8)))]) rfl ?_
              exact J_117 n3_112 A3_112 Q3_112 g_112 F_112 (Nat.le_trans hn1 l_112) hQ3_112 hA3_112 (fun a b => m_112 _ (d1 a b)) (fun a b => m_112 _ (d2 a b)) (fun _ b => t_112 b)
          have J_72 : ∀ (n1 : Nat) (A1 : Nat → Bool) (Q1 : Nat → Nat) (g2 : Mem), (hF1 : FL E g2 S s z sh mk A1 Q1 n1) → (hn1 : n ≤ n1) → (hQ1 : ∀ i, i < n → Q1 i = Q i) → (hA1 : ∀ p, A p = true → A1 p = true) → (d1 : 0 < Q j % 8 → px S.r (Q j - 1) = px S.r s → A1 (Q j - 1) = true) → Y l E X (pI (fun v g' => v = nI (cn 64 (rcB S.r s)) ∧ ∃ wa', CQ E g' (S.row (flR S.r (rcB S.r s) z)) sh mk wa')) 72 [some (rf E (0)), some (.int (nI (s))), some (.int (nI (z))), some (.int (nI (px S.r s))), some (.int (nI (n1))), some (.int (nI (j))), some (.int (nI (Q j))), some (.int (nI (Q j % 8)))] [] g2 := by
            intro n1 A1 Q1 g2 hF1 hn1 hQ1 hA1 d1
            obtain ⟨wa1, hq1, hw1, hI1⟩ := hF1
            refine y_iload hC dX5_flood_72 rfl ?_
            refine y_iconst (v := nI 1) hC dX5_flood_74 (by decide) ?_
            refine y_iadd_n hC dX5_flood_75 ?_
            refine y_bipush (v := nI 8) hC dX5_flood_76 (by decide) ?_
            refine y_icmp_ge_n (tgt := 95) hC dX5_flood_78 (by decide) (by omega) (by omega) (fun c_78 => ?_) (fun c_78 => ?_)
            · exact J_95 n1 A1 Q1 g2 ⟨wa1, hq1, hw1, hI1⟩ hn1 hQ1 hA1 (d1) (fun q => absurd q (by omega))
            · refine y_aload_n hC dX5_flood_81 (i := 0) rfl rfl ?_
              refine y_iload hC dX5_flood_82 rfl ?_
              refine y_iconst (v := nI 1) hC dX5_flood_84 (by decide) ?_
              refine y_iadd_n hC dX5_flood_85 ?_
              refine y_iload_n hC dX5_flood_86 (i := 3) rfl rfl ?_
              refine y_iload_n hC dX5_flood_87 (i := 2) rfl rfl ?_
              refine y_iload hC dX5_flood_88 rfl ?_
              refine y_callV hC mX5_enter kX5_271 dX5_flood_90 (b := 0) (As := [.int (nI ((Q j) + 1)), .int (nI (px S.r s)), .int (nI (z)), .int (nI (n1))]) (rest := []) (c_X5_enter l E g2 S B hB ho sh mk s z (Q j + 1) n1 A1 Q1 hs hz hzc (by omega) (fun e => (hI.2.2 _ (hI.1 j hjn).2).2.1.st (show adj (Q j) (Q j + 1) from Or.inr (Or.inl ⟨by omega, rfl⟩)) e) ⟨wa1, hq1, hw1, hI1⟩) (by omega) hq1.a0 rfl rfl rfl (Nat.le_of_ble_eq_true rfl) ⟨Nat.le_of_ble_eq_true rfl, Nat.le_of_ble_eq_true rfl⟩ (pk_i ?_)
              rintro r_90 g_90 ⟨A3_90, Q3_90, n3_90, hr_90, F_90, l_90, o_90, m_90, t_90⟩
              rw [hr_90]
              clear hr_90 r_90
              have hA3_90 : ∀ p, A p = true → A3_90 p = true := fun p hp => m_90 p (hA1 p hp)
              have hQ3_90 : ∀ i, i < n → Q3_90 i = Q i := fun i hi => (o_90 i (by omega)).trans (hQ1 i hi)
              refine y_istore hC dX5_flood_93 (Nat.le_of_ble_eq_true rfl) rfl (lo' := [some (rf E (0)), some (.int (nI (s))), some (.int (nI (z))), some (.int (nI (px S.r s))), some (.int (nI (n3_90))), some (.int (nI (j))), some (.int (nI (Q j))), some (.int (nI (Q j % 8)))]) rfl ?_
              exact J_95 n3_90 A3_90 Q3_90 g_90 F_90 (Nat.le_trans hn1 l_90) hQ3_90 hA3_90 (fun a b => m_90 _ (d1 a b)) (fun _ b => t_90 b)
          refine y_iload hC dX5_flood_53 rfl ?_
          refine y_if_le_n (tgt := 72) hC dX5_flood_55 (by decide) (by omega) (fun c_55 => ?_) (fun c_55 => ?_)
          · exact J_72 n A Q g1 ⟨wa1, hq1, hw1, hI⟩ (Nat.le_refl _) (fun _ _ => rfl) (fun _ h => h) (fun q => absurd q (by omega))
          · refine y_aload_n hC dX5_flood_58 (i := 0) rfl rfl ?_
            refine y_iload hC dX5_flood_59 rfl ?_
            refine y_iconst (v := nI 1) hC dX5_flood_61 (by decide) ?_
            refine y_isub_n hC dX5_flood_62 (by omega) ?_
            refine y_iload_n hC dX5_flood_63 (i := 3) rfl rfl ?_
            refine y_iload_n hC dX5_flood_64 (i := 2) rfl rfl ?_
            refine y_iload hC dX5_flood_65 rfl ?_
            refine y_callV hC mX5_enter kX5_271 dX5_flood_67 (b := 0) (As := [.int (nI ((Q j) - (1))), .int (nI (px S.r s)), .int (nI (z)), .int (nI (n))]) (rest := []) (c_X5_enter l E g1 S B hB ho sh mk s z (Q j - 1) n A Q hs hz hzc (by omega) (fun e => (hI.2.2 _ (hI.1 j hjn).2).2.1.st (show adj (Q j) (Q j - 1) from Or.inl ⟨by omega, by omega⟩) e) ⟨wa1, hq1, hw1, hI⟩) (by omega) hq1.a0 rfl rfl rfl (Nat.le_of_ble_eq_true rfl) ⟨Nat.le_of_ble_eq_true rfl, Nat.le_of_ble_eq_true rfl⟩ (pk_i ?_)
            rintro r_67 g_67 ⟨A3_67, Q3_67, n3_67, hr_67, F_67, l_67, o_67, m_67, t_67⟩
            rw [hr_67]
            clear hr_67 r_67
            have hA3_67 : ∀ p, A p = true → A3_67 p = true := fun p hp => m_67 p ((fun _ h => h) p hp)
            have hQ3_67 : ∀ i, i < n → Q3_67 i = Q i := fun i hi => (o_67 i (by omega)).trans ((fun _ _ => rfl) i hi)
            refine y_istore hC dX5_flood_70 (Nat.le_of_ble_eq_true rfl) rfl (lo' := [some (rf E (0)), some (.int (nI (s))), some (.int (nI (z))), some (.int (nI (px S.r s))), some (.int (nI (n3_67))), some (.int (nI (j))), some (.int (nI (Q j))), some (.int (nI ((Q j) % (8))))]) rfl ?_
            exact J_72 n3_67 A3_67 Q3_67 g_67 F_67 (Nat.le_trans (Nat.le_refl _) l_67) hQ3_67 hA3_67 (fun _ b => t_67 b)
  exact L_23 65 0 n3 A3 Q3 g_15 (by omega) (by omega) F3 (fun i hi => absurd hi (Nat.not_lt_zero i)) (t3 rfl)

theorem dX5_fill_0 : decode cX5_fill 0 = .ok (.iload_n 1, 1) := by decide +kernel
theorem dX5_fill_1 : decode cX5_fill 1 = .ok (.iload_n 2, 1) := by decide +kernel
theorem dX5_fill_2 : decode cX5_fill 2 = .ok (.invokestatic 163, 3) := by decide +kernel
theorem dX5_fill_5 : decode cX5_fill 5 = .ok (.ifCond .ne 5, 3) := by decide +kernel
theorem dX5_fill_8 : decode cX5_fill 8 = .ok (.iconst (-1), 1) := by decide +kernel
theorem dX5_fill_9 : decode cX5_fill 9 = .ok (.ireturn, 1) := by decide +kernel
theorem dX5_fill_10 : decode cX5_fill 10 = .ok (.iload_n 3, 1) := by decide +kernel
theorem dX5_fill_11 : decode cX5_fill 11 = .ok (.invokestatic 41, 3) := by decide +kernel
theorem dX5_fill_14 : decode cX5_fill 14 = .ok (.ifCond .ne 6, 3) := by decide +kernel
theorem dX5_fill_17 : decode cX5_fill 17 = .ok (.bipush (-2), 2) := by decide +kernel
theorem dX5_fill_19 : decode cX5_fill 19 = .ok (.ireturn, 1) := by decide +kernel
theorem dX5_fill_20 : decode cX5_fill 20 = .ok (.iload_n 1, 1) := by decide +kernel
theorem dX5_fill_21 : decode cX5_fill 21 = .ok (.bipush 8, 2) := by decide +kernel
theorem dX5_fill_23 : decode cX5_fill 23 = .ok (.imul, 1) := by decide +kernel
theorem dX5_fill_24 : decode cX5_fill 24 = .ok (.iload_n 2, 1) := by decide +kernel
theorem dX5_fill_25 : decode cX5_fill 25 = .ok (.iadd, 1) := by decide +kernel
theorem dX5_fill_26 : decode cX5_fill 26 = .ok (.istore 4, 2) := by decide +kernel
theorem dX5_fill_28 : decode cX5_fill 28 = .ok (.aload_n 0, 1) := by decide +kernel
theorem dX5_fill_29 : decode cX5_fill 29 = .ok (.getfield 12, 3) := by decide +kernel
theorem dX5_fill_32 : decode cX5_fill 32 = .ok (.getfield 166, 3) := by decide +kernel
theorem dX5_fill_35 : decode cX5_fill 35 = .ok (.iload 4, 2) := by decide +kernel
theorem dX5_fill_37 : decode cX5_fill 37 = .ok (.iaload, 1) := by decide +kernel
theorem dX5_fill_38 : decode cX5_fill 38 = .ok (.iload_n 3, 1) := by decide +kernel
theorem dX5_fill_39 : decode cX5_fill 39 = .ok (.if_icmp .ne 6, 3) := by decide +kernel
theorem dX5_fill_42 : decode cX5_fill 42 = .ok (.bipush (-5), 2) := by decide +kernel
theorem dX5_fill_44 : decode cX5_fill 44 = .ok (.ireturn, 1) := by decide +kernel
theorem dX5_fill_45 : decode cX5_fill 45 = .ok (.aload_n 0, 1) := by decide +kernel
theorem dX5_fill_46 : decode cX5_fill 46 = .ok (.getfield 19, 3) := by decide +kernel
theorem dX5_fill_49 : decode cX5_fill 49 = .ok (.aload_n 0, 1) := by decide +kernel
theorem dX5_fill_50 : decode cX5_fill 50 = .ok (.getfield 12, 3) := by decide +kernel
theorem dX5_fill_53 : decode cX5_fill 53 = .ok (.invokevirtual 51, 3) := by decide +kernel
theorem dX5_fill_56 : decode cX5_fill 56 = .ok (.aload_n 0, 1) := by decide +kernel
theorem dX5_fill_57 : decode cX5_fill 57 = .ok (.iload 4, 2) := by decide +kernel
theorem dX5_fill_59 : decode cX5_fill 59 = .ok (.iload_n 3, 1) := by decide +kernel
theorem dX5_fill_60 : decode cX5_fill 60 = .ok (.invokevirtual 169, 3) := by decide +kernel
theorem dX5_fill_63 : decode cX5_fill 63 = .ok (.ireturn, 1) := by decide +kernel
set_option maxHeartbeats 4000000 in
set_option maxRecDepth 100000 in
theorem c_X5_fill (l : Launch) (E : gE) (g : Mem) (S : AS) (B : Nat) (hB : B < 90000000) (ho : OK S B) (sh mk wa : Nat → Int32) (h : CQ E g S sh mk wa) (xa xb xc : Int32) : Mt l E yX5_fill cX5_fill 5 (some .int) 3 69 [rf E (0), .int (xa), .int (xb), .int (xc)] g (pI (fun z g' => z = (qFill S xa xb xc).1 ∧ CP E g' (qFill S xa xb xc).2)) := by
  have hK := h.k
  have hv := ho.v
  have hrc : rc S.r ≤ 6 := hv.1.2
  have hgc : gc S.r ≤ 4 := hv.2.1.2
  have hc4 := ho.c4
  refine mt_go (own := RX5) (by decide) rfl (lo := [some (rf E (0)), some (.int (xa)), some (.int (xb)), some (.int (xc)), none]) rfl (Nat.le_of_ble_eq_true rfl) (fun X hC => ?_)
  obtain ⟨co, pi, π, ρ, V, U, hX, e1, e2, e3, e4⟩ := zStF (r := S.r) (B := B) h.sta hv
  refine y_iload_n hC dX5_fill_0 (i := 1) rfl rfl ?_
  refine y_iload_n hC dX5_fill_1 (i := 2) rfl rfl ?_
  refine y_callS hC mX5_isPixel kX5_163 dX5_fill_2 (As := [.int (xa), .int (xb)]) (rest := []) (c_X5_isPixel l E g ((xa)) ((xb))) rfl rfl rfl (Nat.le_of_ble_eq_true rfl) ⟨Nat.le_of_ble_eq_true rfl, Nat.le_of_ble_eq_true rfl⟩ (pk_i ?_)
  rintro r_2 g_2 ⟨hr_2, hq_2⟩
  obtain rfl := hq_2.symm
  rw [hr_2]
  clear hr_2 r_2
  refine y_if_ne_b (tgt := 10) hC dX5_fill_5 (by decide) (fun c_5 => ?_) (fun c_5 => ?_)
  · obtain ⟨p, hp, hpx⟩ := zN (m := 7) c_5.1
    subst hpx
    obtain ⟨q, hq, hqx⟩ := zN (m := 7) c_5.2
    subst hqx
    refine y_iload_n hC dX5_fill_10 (i := 3) rfl rfl ?_
    refine y_callS hC mX5_isPlace kX5_41 dX5_fill_11 (As := [.int (xc)]) (rest := []) (c_X5_isPlace l E g ((xc))) rfl rfl rfl (Nat.le_of_ble_eq_true rfl) ⟨Nat.le_of_ble_eq_true rfl, Nat.le_of_ble_eq_true rfl⟩ (pk_i ?_)
    rintro r_11 g_11 ⟨hr_11, hq_11⟩
    obtain rfl := hq_11.symm
    rw [hr_11]
    clear hr_11 r_11
    refine y_if_ne_b (tgt := 20) hC dX5_fill_14 (by decide) (fun c_14 => ?_) (fun c_14 => ?_)
    · obtain ⟨c, hc, hcx⟩ := zN (m := 31) c_14
      subst hcx
      refine y_iload_n hC dX5_fill_20 (i := 1) rfl rfl ?_
      refine y_bipush (v := nI 8) hC dX5_fill_21 (by decide) ?_
      refine y_imul_n hC dX5_fill_23 ?_
      refine y_iload_n hC dX5_fill_24 (i := 2) rfl rfl ?_
      refine y_iadd_n hC dX5_fill_25 ?_
      refine y_istore hC dX5_fill_26 (Nat.le_of_ble_eq_true rfl) rfl (lo' := [some (rf E (0)), some (.int (nI (p))), some (.int (nI (q))), some (.int (nI (c))), some (.int (nI ((p * 8) + q)))]) rfl ?_
      refine y_aload_n hC dX5_fill_28 (i := 0) rfl rfl ?_
      refine y_get hC fX5_12 dX5_fill_29 (k := 0) (by omega) h.a0 rfl ?_
      refine y_get hC fX5_166 dX5_fill_32 (k := 1) (hX.k (k := 0) (by decide)) hX.s0 rfl ?_
      refine y_iload hC dX5_fill_35 rfl ?_
      refine y_iald hC dX5_fill_37 (k := 1 + 2) (j := (p * 8) + q) (hX.k (k := 2) (by decide)) hX.s2 (rfl) (by omega) (by decide) ?_
      have hpb := (hv.2.2.2.2.2.2.1 (8 * p + q) (by omega)).2
      refine y_top (y := nI (px S.r (8 * p + q))) ((e2 (p * 8 + q) (by omega)).trans ((congrArg (fun k => S.r (92 + k)) (show p * 8 + q = 8 * p + q by omega)).trans (hv.2.2.2.2.2.2.1 (8 * p + q) (by omega)).1)) ?_
      refine y_iload_n hC dX5_fill_38 (i := 3) rfl rfl ?_
      refine y_icmp_ne_n (tgt := 45) hC dX5_fill_39 (by decide) (by omega) (by omega) (fun c_39 => ?_) (fun c_39 => ?_)
      · refine y_aload_n hC dX5_fill_45 (i := 0) rfl rfl ?_
        refine y_get hC fX5_19 dX5_fill_46 (k := 0) (by omega) h.a0 rfl ?_
        refine y_aload_n hC dX5_fill_49 (i := 0) rfl rfl ?_
        refine y_get hC fX5_12 dX5_fill_50 (k := 0) (by omega) h.a0 rfl ?_
        refine y_callV hC mX1_record kX5_51 dX5_fill_53 (b := 16) (As := [rf E (1)]) (rest := []) (c_X1_record l E g S.c S.kp S.hr S.sn S.r B h.ha h.sta hv) (by omega) h.a16 rfl rfl rfl (Nat.le_of_ble_eq_true rfl) ⟨Nat.le_of_ble_eq_true rfl, Nat.le_of_ble_eq_true rfl⟩ (pk_v ?_)
        rintro g_53 hrec_53
        have hq_53 := h.uprec hrec_53
        obtain ⟨co_53, pi_53, π_53, ρ_53, V_53, U_53, hX_53, e1_53, e2_53, e3_53, e4_53⟩ := zStF (r := S.r) (B := B) hq_53.sta hv
        refine y_aload_n hC dX5_fill_56 (i := 0) rfl rfl ?_
        refine y_iload hC dX5_fill_57 rfl ?_
        refine y_iload_n hC dX5_fill_59 (i := 3) rfl rfl ?_
        refine y_callV hC mX5_flood kX5_169 dX5_fill_60 (b := 0) (As := [.int (nI ((p * 8) + q)), .int (nI (c))]) (rest := []) (c_X5_flood l E g_53 S.rec B hB ho.rec sh mk wa hq_53 (p * 8 + q) c (by omega) (by omega) (by rw [show p * 8 + q = 8 * p + q by omega]; exact fun e => c_39 e.symm)) (by omega) hq_53.a0 rfl rfl rfl (Nat.le_of_ble_eq_true rfl) ⟨Nat.le_of_ble_eq_true rfl, Nat.le_of_ble_eq_true rfl⟩ (pk_i ?_)
        rintro r_60 g_60 ⟨hr_60, wa2, hq2⟩
        rw [show p * 8 + q = 8 * p + q by omega] at hr_60 hq2
        rw [hr_60]
        clear hr_60 r_60
        refine y_iret (hC := hC) (hd := dX5_fill_63) (hq := ?_)
        have hqq : qFill S (nI p) (nI q) (nI c) = (nI (cn 64 (rcB S.r (8 * p + q))), S.rec.row (flR S.r (rcB S.r (8 * p + q)) c)) := by simp only [qFill, nn_I (show p < 2147483648 by omega), nn_I (show q < 2147483648 by omega), nn_I (show c < 2147483648 by omega), if_pos c_5, if_pos c_14, if_neg c_39]
        rw [hqq]
        exact ⟨rfl, hq2.cp⟩
      · refine y_bipush (v := (-5)) hC dX5_fill_42 (by decide) ?_
        refine y_iret (hC := hC) (hd := dX5_fill_44) (hq := ?_)
        have hqq : qFill S (nI p) (nI q) (nI c) = (-5, S) := by simp only [qFill, nn_I (show p < 2147483648 by omega), nn_I (show q < 2147483648 by omega), nn_I (show c < 2147483648 by omega), if_pos c_5, if_pos c_14, if_pos c_39]
        rw [hqq]
        exact ⟨rfl, h.cp⟩
    · refine y_bipush (v := (-2)) hC dX5_fill_17 (by decide) ?_
      refine y_iret (hC := hC) (hd := dX5_fill_19) (hq := ?_)
      have hqq : qFill S (nI p) (nI q) xc = (-2, S) := by simp only [qFill, nn_I (show p < 2147483648 by omega), nn_I (show q < 2147483648 by omega), if_pos c_5, if_neg c_14]
      rw [hqq]
      exact ⟨rfl, h.cp⟩
  · refine y_iconst (v := (-1)) hC dX5_fill_8 (by decide) ?_
    refine y_iret (hC := hC) (hd := dX5_fill_9) (hq := ?_)
    have hqq : qFill S xa xb xc = (-1, S) := by simp only [qFill, if_neg c_5]
    rw [hqq]
    exact ⟨rfl, h.cp⟩

