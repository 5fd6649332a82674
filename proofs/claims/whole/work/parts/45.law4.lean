/-! ===== the law's loop and its start ===== -/
theorem j_sw {l : Launch} {G : va_G} {T : Nat → ClassId} {X : jX} {i : Nat} {S : AS} {B : Nat} {g gm : Mem} (hC : jC G T X) (hB : B < 80000000) (ho : OK S B) (hc : CP (EC G T X) g S) (hz : MZ (EM G T X) gm S) (hi : i + 5 ≤ jLen X) (kk : ∀ S' g' gm', OK S' (B + 10000) → CP (EC G T X) g' S' → MZ (EM G T X) gm' S' → J l G T X 1013 (jL X i) [] g' gm') : ∀ k, k < 32 → J l G T X 32 (jL X i) [.int (nI k)] g gm
  | 0, _ => j_tabIn hC dL_32 (by decide) (by decide) (off := 136) (by decide) (tgt := 168) rfl (jc_0 hC hB ho hc hz hi kk)
  | 1, _ => j_tabIn hC dL_32 (by decide) (by decide) (off := 169) (by decide) (tgt := 201) rfl (jc_1 hC hB ho hc hz hi kk)
  | 2, _ => j_tabIn hC dL_32 (by decide) (by decide) (off := 222) (by decide) (tgt := 254) rfl (jc_2 hC hB ho hc hz hi kk)
  | 3, _ => j_tabIn hC dL_32 (by decide) (by decide) (off := 235) (by decide) (tgt := 267) rfl (jc_3 hC hB ho hc hz hi kk)
  | 4, _ => j_tabIn hC dL_32 (by decide) (by decide) (off := 288) (by decide) (tgt := 320) rfl (jc_4 hC hB ho hc hz hi kk)
  | 5, _ => j_tabIn hC dL_32 (by decide) (by decide) (off := 311) (by decide) (tgt := 343) rfl (jc_5 hC hB ho hc hz hi kk)
  | 6, _ => j_tabIn hC dL_32 (by decide) (by decide) (off := 354) (by decide) (tgt := 386) rfl (jc_6 hC hB ho hc hz hi kk)
  | 7, _ => j_tabIn hC dL_32 (by decide) (by decide) (off := 403) (by decide) (tgt := 435) rfl (jc_7 hC hB ho hc hz hi kk)
  | 8, _ => j_tabIn hC dL_32 (by decide) (by decide) (off := 446) (by decide) (tgt := 478) rfl (jc_8 hC hB ho hc hz hi kk)
  | 9, _ => j_tabIn hC dL_32 (by decide) (by decide) (off := 469) (by decide) (tgt := 501) rfl (jc_9 hC hB ho hc hz hi kk)
  | 10, _ => j_tabIn hC dL_32 (by decide) (by decide) (off := 492) (by decide) (tgt := 524) rfl (jc_10 hC hB ho hc hz hi kk)
  | 11, _ => j_tabIn hC dL_32 (by decide) (by decide) (off := 505) (by decide) (tgt := 537) rfl (jc_11 hC hB ho hc hz hi kk)
  | 12, _ => j_tabIn hC dL_32 (by decide) (by decide) (off := 530) (by decide) (tgt := 562) rfl (jc_12 hC hB ho hc hz hi kk)
  | 13, _ => j_tabIn hC dL_32 (by decide) (by decide) (off := 543) (by decide) (tgt := 575) rfl (jc_13 hC hB ho hc hz hi kk)
  | 14, _ => j_tabIn hC dL_32 (by decide) (by decide) (off := 586) (by decide) (tgt := 618) rfl (jc_14 hC hB ho hc hz hi kk)
  | 15, _ => j_tabIn hC dL_32 (by decide) (by decide) (off := 629) (by decide) (tgt := 661) rfl (jc_15 hC hB ho hc hz hi kk)
  | 16, _ => j_tabIn hC dL_32 (by decide) (by decide) (off := 642) (by decide) (tgt := 674) rfl (jc_16 hC hB ho hc hz hi kk)
  | 17, _ => j_tabIn hC dL_32 (by decide) (by decide) (off := 655) (by decide) (tgt := 687) rfl (jc_17 hC hB ho hc hz hi kk)
  | 18, _ => j_tabIn hC dL_32 (by decide) (by decide) (off := 668) (by decide) (tgt := 700) rfl (jc_18 hC hB ho hc hz hi kk)
  | 19, _ => j_tabIn hC dL_32 (by decide) (by decide) (off := 691) (by decide) (tgt := 723) rfl (jc_19 hC hB ho hc hz hi kk)
  | 20, _ => j_tabIn hC dL_32 (by decide) (by decide) (off := 714) (by decide) (tgt := 746) rfl (jc_20 hC hB ho hc hz hi kk)
  | 21, _ => j_tabIn hC dL_32 (by decide) (by decide) (off := 747) (by decide) (tgt := 779) rfl (jc_21 hC hB ho hc hz hi kk)
  | 22, _ => j_tabIn hC dL_32 (by decide) (by decide) (off := 780) (by decide) (tgt := 812) rfl (jc_22 hC hB ho hc hz hi kk)
  | 23, _ => j_tabIn hC dL_32 (by decide) (by decide) (off := 839) (by decide) (tgt := 871) rfl (jc_23 hC hB ho hc hz hi kk)
  | 24, _ => j_tabIn hC dL_32 (by decide) (by decide) (off := 862) (by decide) (tgt := 894) rfl (jc_24 hC hB ho hc hz hi kk)
  | 25, _ => j_tabIn hC dL_32 (by decide) (by decide) (off := 895) (by decide) (tgt := 927) rfl (jc_25 hC hB ho hc hz hi kk)
  | 26, _ => j_tabIn hC dL_32 (by decide) (by decide) (off := 909) (by decide) (tgt := 941) rfl (jc_26 hC hB ho hc hz hi kk)
  | 27, _ => j_tabIn hC dL_32 (by decide) (by decide) (off := 932) (by decide) (tgt := 964) rfl (jc_27 hC hB ho hc hz hi kk)
  | 28, _ => j_tabIn hC dL_32 (by decide) (by decide) (off := 955) (by decide) (tgt := 987) rfl (jc_28 hC hB ho hc hz hi kk)
  | 29, _ => j_tabIn hC dL_32 (by decide) (by decide) (off := 968) (by decide) (tgt := 1000) rfl (jc_29 hC hB ho hc hz hi kk)
  | 30, _ => j_tabOut hC dL_32 (by decide) (tgt := 1013) rfl (kk S g gm (ho.le (by omega)) hc hz)
  | 31, _ => j_tabOut hC dL_32 (by decide) (tgt := 1013) rfl (kk S g gm (ho.le (by omega)) hc hz)
  | k + 32, h => absurd h (by omega)
theorem j_loop {l : Launch} {G : va_G} {T : Nat → ClassId} {X : jX} (hC : jC G T X) : ∀ (d j : Nat) (S : AS) (g gm : Mem), 5 * j ≤ jLen X → jLen X < 5 * (j + d) + 5 → OK S (10000 * j) → CP (EC G T X) g S → MZ (EM G T X) gm S → J l G T X 18 (jL X (5 * j)) [] g gm := by
  have hL : jLen X ≤ 2560 := hC.2.1
  intro d
  induction d with
  | zero =>
    intro j S g gm h1 h2 ho hc hz
    refine j_iload_n hC dL_18 (i := 3) rfl rfl ?_
    refine j_aload_n hC dL_19 (i := 0) rfl rfl ?_
    refine j_slen hC dL_20 ?_
    refine j_iconst (v := nI 5) hC dL_21 (by decide) ?_
    refine j_isub hC dL_22 ?_
    refine j_icmp_gt hC dL_23 (tgt := 1019) rfl (fun _ => ?_) (fun q => absurd ((j_gt (by omega) (by omega)).mpr (by omega)) q)
    refine j_iconst (v := 1) hC dL_1019 (by decide) ?_
    exact j_end hC dL_1020
  | succ d ih =>
    intro j S g gm h1 h2 ho hc hz
    refine j_iload_n hC dL_18 (i := 3) rfl rfl ?_
    refine j_aload_n hC dL_19 (i := 0) rfl rfl ?_
    refine j_slen hC dL_20 ?_
    refine j_iconst (v := nI 5) hC dL_21 (by decide) ?_
    refine j_isub hC dL_22 ?_
    refine j_icmp_gt hC dL_23 (tgt := 1019) rfl (fun _ => ?_) (fun q => ?_)
    · refine j_iconst (v := 1) hC dL_1019 (by decide) ?_
      exact j_end hC dL_1020
    · have hi : 5 * j + 5 ≤ jLen X := by
        rcases Nat.lt_or_ge (jLen X) (5 * j + 5) with z | z
        · exact absurd ((j_gt (by omega) (by omega)).mpr z) q
        · exact z
      refine j_aload_n hC dL_26 (i := 0) rfl rfl ?_
      refine j_iload_n hC dL_27 (i := 3) rfl rfl ?_
      refine j_sld hC (j := 5 * j) rfl (by omega) dL_28 ?_
      refine j_bipush (v := 31) hC dL_29 (by decide) ?_
      refine j_iand hC dL_31 ?_
      rw [j_and31]
      refine j_sw hC (B := 10000 * j) (by omega) ho hc hz hi (fun S' g' gm' ho' hc' hz' => ?_) _ (Nat.mod_lt _ (by decide))
      refine j_iinc hC dL_1013 (x := nI (5 * j)) (v := nI (5 * (j + 1))) rfl (nI_add (5 * j) 5) (Nat.le_of_ble_eq_true rfl) rfl (lo' := jL X (5 * (j + 1))) rfl ?_
      refine j_goto hC dL_1016 (tgt := 18) rfl ?_
      exact ih (j + 1) S' g' gm' (by omega) (by omega) (by rw [show 10000 * (j + 1) = 10000 * j + 10000 by omega]; exact ho') hc' hz'
theorem zn_l5 : zNew R_law 7 5 6 zD5 := ⟨RX5, TX5, tyX5, rfl, uwX5, tyX5_ok, lw_g (List.mem_append_right _ (List.mem_of_getElem? (i := 10) (by decide +kernel))) rfl, lw_g (List.mem_append_right _ (List.mem_of_getElem? (i := 11) (by decide +kernel))) rfl, lw_g (List.mem_append_right _ (List.mem_of_getElem? (i := 1) (by decide +kernel))) rfl, fun j hj => by rcases (show j = 0 ∨ j = 1 ∨ j = 2 ∨ j = 3 ∨ j = 4 ∨ j = 5 by omega) with rfl | rfl | rfl | rfl | rfl | rfl <;> rfl⟩
theorem zn_l6 : zNew R_law 10 6 19 zD6 := ⟨RX6, TX6, tyX6, rfl, uwX6, tyX6_ok, lw_g (List.mem_append_right _ (List.mem_of_getElem? (i := 638) (by decide +kernel))) rfl, lw_g (List.mem_append_right _ (List.mem_of_getElem? (i := 639) (by decide +kernel))) rfl, lw_g (List.mem_append_right _ (List.mem_of_getElem? (i := 7) (by decide +kernel))) rfl, fun j hj => by rcases (show j = 0 ∨ j = 1 ∨ j = 2 ∨ j = 3 ∨ j = 4 ∨ j = 5 ∨ j = 6 ∨ j = 7 ∨ j = 8 ∨ j = 9 ∨ j = 10 ∨ j = 11 ∨ j = 12 ∨ j = 13 ∨ j = 14 ∨ j = 15 ∨ j = 16 ∨ j = 17 ∨ j = 18 by omega) with rfl | rfl | rfl | rfl | rfl | rfl | rfl | rfl | rfl | rfl | rfl | rfl | rfl | rfl | rfl | rfl | rfl | rfl | rfl <;> rfl⟩
theorem kL_9 : Cond.methodLink R_law 9 yX5_init ∈ lw_gt := lw_g (List.mem_append_right _ (List.mem_of_getElem? (i := 12) (by decide +kernel))) rfl
theorem kL_12 : Cond.methodLink R_law 12 yX6_init ∈ lw_gt := lw_g (List.mem_append_right _ (List.mem_of_getElem? (i := 640) (by decide +kernel))) rfl
theorem l_known {s : State} {args : Array Value} (hts : ∀ w ∈ lw_tbl, w.before args s = true) : ∃ (G : va_G) (T : Nat → ClassId), va_K G gC (zT T) s ∧ gZ s := by
  have htg : ∀ w ∈ lw_gt, w.before args s = true := fun w h => hts w (List.mem_filter.mp h).1
  have htt : ∀ (i : Nat) (w : Cond), tables_1[i]? = some w → w.before args s = true := fun i w h => hts w (List.mem_append_right _ (List.mem_of_getElem? h))
  obtain ⟨c0, i0, hk0⟩ := u_known (C := RX0) (T := TX0) (N := 4) (n := 4) htg uwX0 (htt 67 _ (by decide +kernel))
  obtain ⟨c1, i1, hk1⟩ := u_known (C := RX1) (T := TX1) (N := 4) (n := 4) htg uwX1 (htt 125 _ (by decide +kernel))
  obtain ⟨c2, i2, hk2⟩ := u_known (C := RX2) (T := TX2) (N := 6) (n := 6) htg uwX2 (htt 150 _ (by decide +kernel))
  obtain ⟨c3, i3, hk3⟩ := u_known (C := RX3) (T := TX3) (N := 7) (n := 7) htg uwX3 (htt 28 _ (by decide +kernel))
  obtain ⟨c4, i4, hk4⟩ := u_known (C := RX4) (T := TX4) (N := 8) (n := 8) htg uwX4 (htt 19 _ (by decide +kernel))
  obtain ⟨c5, i5, hk5⟩ := u_known (C := RX5) (T := TX5) (N := 6) (n := 6) htg uwX5 (htt 11 _ (by decide +kernel))
  obtain ⟨c6, i6, hk6⟩ := u_known (C := RX6) (T := TX6) (N := 19) (n := 19) htg uwX6 (htt 639 _ (by decide +kernel))
  obtain ⟨t0, k0, m0, a0, b0, d0⟩ := Cond.arrayClass_spec (htg _ z_arI)
  obtain ⟨t1, k1, m1, a1, b1, d1⟩ := Cond.arrayClass_spec (htg _ z_arC)
  obtain ⟨t2, k2, m2, a2, b2, d2⟩ := Cond.arrayClass_spec (htg _ z_arZ)
  have o3 : va_AO RX3 s := va_AO.of (htt 25 _ (by decide +kernel))
  have o4 : va_AO RX0 s := va_AO.of (htt 27 _ (by decide +kernel))
  have o5 : va_AO RX4 s := va_AO.of (htt 131 _ (by decide +kernel))
  obtain ⟨m3, t3, k3, f3, -, b3, d3, a3⟩ := Cond.arrayOver_spec o3
  obtain ⟨m4, t4, k4, f4, -, b4, d4, a4⟩ := Cond.arrayOver_spec o4
  obtain ⟨m5, t5, k5, f5, -, b5, d5, a5⟩ := Cond.arrayOver_spec o5
  refine ⟨(fun k => match k with | 0 => c0 | 1 => c1 | 2 => c2 | 3 => c3 | 4 => c4 | 5 => c5 | _ => c6, fun k => match k with | 0 => i0 | 1 => i1 | 2 => i2 | 3 => i3 | 4 => i4 | 5 => i5 | _ => i6), fun k => match k with | 0 => t0 | 1 => t1 | 2 => t2 | 3 => t3 | 4 => t4 | _ => t5, ⟨fun k q hq => ?_, fun k q hq => ?_⟩, ?_⟩
  · match k, hq with
    | 0, hq => cases hq; exact hk0
    | 1, hq => cases hq; exact hk1
    | 2, hq => cases hq; exact hk2
    | 3, hq => cases hq; exact hk3
    | 4, hq => cases hq; exact hk4
    | 5, hq => cases hq; exact hk5
    | 6, hq => cases hq; exact hk6
    | k + 7, hq => simp [gC] at hq
  · match k, hq with
    | 0, hq => cases hq; exact ⟨fun n z => ⟨fun k h => (by cases h), k0, b0, m0, d0⟩, a0⟩
    | 1, hq => cases hq; exact ⟨fun n z => ⟨fun k h => (by cases h), k1, b1, m1, d1⟩, a1⟩
    | 2, hq => cases hq; exact ⟨fun n z => ⟨fun k h => (by cases h), k2, b2, m2, d2⟩, a2⟩
    | 3, hq => cases hq; exact ⟨fun n z => ⟨fun k h => (by cases h), k3, b3, m3, d3⟩, k3, m3, b3, d3, f3, a3⟩
    | 4, hq => cases hq; exact ⟨fun n z => ⟨fun k h => (by cases h), k4, b4, m4, d4⟩, k4, m4, b4, d4, f4, a4⟩
    | 5, hq => cases hq; exact ⟨fun n z => ⟨fun k h => (by cases h), k5, b5, m5, d5⟩, k5, m5, b5, d5, f5, a5⟩
    | k + 6, hq => simp [zT] at hq
  · exact ⟨va_Nw.of rfl (htt 308 _ (by decide +kernel)), va_Nw.of rfl (htt 29 _ (by decide +kernel)), va_Nw.of rfl (htt 68 _ (by decide +kernel)), va_Nw.of rfl (htt 151 _ (by decide +kernel)), o3, o4, o5⟩
theorem whole_start {p : Program} {e : Env} {s : State} {m : MethodId} {below : List Frame} {meth : Method} {c : Code} (l : Launch) (hflags : l.flags = flags0) {b L : Nat} {xs : Nat → Int32} (hL : L ≤ 2560) (C0 : lw_At p s m meth c b L xs) : W p l e room_1 s m #[Value.ref b] below meth c s.heap [] 0 0 (lw_Z below #[Value.ref b] s) (entryFrame m ([Value.ref b] : List Value).toArray 4) := by
  obtain ⟨hx, hb, hr, hml, hown, hts, hX, hbl, hlocks, hgv⟩ := id C0
  obtain ⟨G, T, hK, hN⟩ := l_known hts
  have htg : ∀ w ∈ lw_gt, w.before #[Value.ref b] s = true := fun w h => hts w (List.mem_filter.mp h).1
  have hC : jC G T (p, e, s, m, below, meth, c, b, L, xs) := ⟨C0, hL, hK, hN⟩
  rw [lg_entry_eq]
  have hl0 : y_has ((lg_sl [Value.ref b] ++ List.replicate (4 - (lg_sl [Value.ref b]).length) Slot.unset).toArray) [some (.ref b), none, none, none] := y_entry [Value.ref b] rfl (Nat.le_of_ble_eq_true rfl)
  generalize (lg_sl [Value.ref b] ++ List.replicate (4 - (lg_sl [Value.ref b]).length) Slot.unset).toArray = ls at hl0 ⊢
  have hP0 : gP (zE G T s.heap.size 0) (fun _ => oB 5 zD5) s.heap := fun k q hk => absurd (gW_inv hk).1 (Nat.not_lt_zero k)
  have hS0 : va_S (zA s.heap.size) s.heap s.heap [] := va_S.rf
  obtain ⟨C5, TT5, ty5, h51, h52, h53, h54, h55, h56, h57⟩ := zn_l5
  have hKn5 := hK.1 5 _ h51
  refine W.newcK hx hb hown (htg _ h54) (htg _ h55) (htg _ h56) rfl dL_0 (Nat.le_of_ble_eq_true rfl) (Nat.le_of_ble_eq_true rfl) hKn5.2.1 rfl fun H1 kC hkC e1 z1 o1 => ?_
  have hP1 : gP (zE G T s.heap.size 1) (va_up (fun _ => oB 5 zD5) 0 (oB 5 zD5)) H1 := zP_push hP0 ⟨_, h51, (u_born ty5 htg h52 hKn5 hkC e1 h53).to h57⟩ o1
  have hS1 := zS_push hS0 z1 o1
  refine lv_dup hx hb dL_3 rfl ?_
  obtain ⟨w3, w0, w4, w6, w7⟩ := zi5
  refine z_run (A0 := zA s.heap.size) (rest := [zr s.heap.size 0]) (va_runI (As := []) (rest := [zr s.heap.size 0]) (Ts := lw_gt) (own := R_law) (nL := 4) ⟨hx, hb, hml, hown, htg⟩ (c_X5_init l G T s.heap.size (va_up_self _ _ _)) (cwI 0 htg (lw_good w7) rfl rfl rfl (htg _ w6) (htg _ kL_9) (htg _ w4) w0 w3 ⟨Nat.le_of_ble_eq_true rfl, Nat.le_of_ble_eq_true rfl⟩) ⟨mz_blind, fun U hU hW => ⟨rfl, by rw [hU]; exact hP1, by rw [hU]; exact z1, va_K.moved hW.alike hK, hN.warm hW⟩⟩ rfl rfl hl0.1 rfl (lv_room (Nat.le_of_ble_eq_true rfl)) dL_4 ⟨Nat.le_of_ble_eq_true rfl, Nat.le_of_ble_eq_true rfl⟩) hS1 (fun _ h => h) (fun g2 H2 locs2 hc hP2 z2 _ hS2 => ?_)
  refine lv_astore_n (i := 1) hx hb dL_7 rfl hl0.lv (Nat.le_of_ble_eq_true rfl) rfl (fun ls1 h1 => ?_)
  have hl1 := y_has_st1 (lo := [some (.ref b), none, none, none]) (n := 4) (i := 1) (v := .ref (s.heap.size + 0)) rfl (Nat.le_of_ble_eq_true rfl) rfl h1
  obtain ⟨C6, TT6, ty6, h61, h62, h63, h64, h65, h66, h67⟩ := zn_l6
  have hKn6 := hK.1 6 _ h61
  refine W.newcK hx hb hown (htg _ h64) (htg _ h65) (htg _ h66) rfl dL_8 (Nat.le_of_ble_eq_true rfl) (Nat.le_of_ble_eq_true rfl) hKn6.2.1 z2 fun H3 kC6 hkC6 e3 z3 o3 => ?_
  have hP3 : gP (zE G T s.heap.size 100) g2 H3 := zP_keep (Q := fun _ => False) hP2 (fun q hq _ => o3 q (by rw [← z2]; exact hq)) (fun _ _ h => h)
  have hM0 : gP (zE G T (s.heap.size + 100) 0) (fun _ => oB 6 zD6) H2 := fun k q hk => absurd (gW_inv hk).1 (Nat.not_lt_zero k)
  have hM1 : gP (zE G T (s.heap.size + 100) 1) (va_up (fun _ => oB 6 zD6) 0 (oB 6 zD6)) H3 := zP_push hM0 ⟨_, h61, (u_born ty6 htg h62 hKn6 hkC6 e3 h63).to h67⟩ o3
  have hS3 := zS_push hS2 (by rw [z3, z2]) (fun q hq => o3 q (by rw [← z2]; exact hq))
  refine lv_dup hx hb dL_11 rfl ?_
  obtain ⟨v3, v0, v4, v6, v7⟩ := zi6
  refine z_run (A0 := zA s.heap.size) (rest := [zr (s.heap.size + 100) 0]) (va_runI (As := []) (rest := [zr (s.heap.size + 100) 0]) (Ts := lw_gt) (own := R_law) (nL := 4) ⟨hx, hb, hml, hown, htg⟩ (c_X6_init l G T (s.heap.size + 100) (va_up_self _ _ _)) (cwI 0 htg (lw_good v7) rfl rfl rfl (htg _ v6) (htg _ kL_12) (htg _ v4) v0 v3 ⟨Nat.le_of_ble_eq_true rfl, Nat.le_of_ble_eq_true rfl⟩) ⟨mz_blind, fun U hU hW => ⟨rfl, by rw [hU]; exact hM1, by rw [hU]; exact z3, va_K.moved hW.alike hK, hN.warm hW⟩⟩ rfl rfl hl1.1 rfl (lv_room (Nat.le_of_ble_eq_true rfl)) dL_12 ⟨Nat.le_of_ble_eq_true rfl, Nat.le_of_ble_eq_true rfl⟩) hS3 (fun q h => Nat.le_trans (Nat.le_add_right _ 100) h) (fun g4 H4 locs4 hm hM4 z4 k4 hS4 => ?_)
  have hP4 : gP (zE G T s.heap.size 100) g2 H4 := zP_keep hP3 k4 (fun k hk h => by
    have h' : s.heap.size + 100 ≤ s.heap.size + k := h
    omega)
  refine lv_astore_n (i := 2) hx hb dL_15 rfl hl1.lv (Nat.le_of_ble_eq_true rfl) rfl (fun ls2 h2 => ?_)
  have hl2 := y_has_st1 (lo := [some (.ref b), some (.ref (s.heap.size + 0)), none, none]) (n := 4) (i := 2) (v := .ref (s.heap.size + 100 + 0)) rfl (Nat.le_of_ble_eq_true rfl) rfl h2
  refine lv_iconst (v := nI 0) hx hb dL_16 (by decide) ?_
  refine lv_istore_n (i := 3) hx hb dL_17 rfl hl2.lv (Nat.le_of_ble_eq_true rfl) rfl (fun ls3 h3 => ?_)
  have hl3 := y_has_st1 (lo := [some (.ref b), some (.ref (s.heap.size + 0)), some (.ref (s.heap.size + 100 + 0)), none]) (n := 4) (i := 3) (v := .int (nI 0)) rfl (Nat.le_of_ble_eq_true rfl) rfl h3
  exact j_loop (l := l) hC (jLen (p, e, s, m, below, meth, c, b, L, xs)) 0 zS0 g2 g4 (Nat.zero_le _) (by omega) zS0_ok hc hm H4 locs4 ls3 hP4 hM4 hS4 hl3
