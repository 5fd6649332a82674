/-! THE CLAIM OUT OF ONE WALK OF THE LAW'S BODY. Your part is whole_start (and what it stands on); all else here is the same for every law, but numbers. -/
def R_law : String := "PaletteTurnsLaw"
def lw_P (b : Addr) (xs : List Int32) (args : Array Value) (s : State) : Prop := args = #[.ref b] ∧ s.IntsAt b xs ∧ xs.length ≤ 260 ∧ (Jvm.Cond.and given_1 narrow_1).before args s = true
def lw_Q (_ : Array Value) (s : State) (o : Outcome) (t : State) : Prop := o = .returned (some (.int 1)) ∧ Framed s o t [] 600000 7302250
def lw_Z (below : List Frame) (a : Array Value) (s : State) : State → Prop := fun t => ∃ o, t.status = .running ∧ Ended t below o ∧ lw_Q a s o t
/-- the law's own end, with 1 on the stack, nothing written that was there before, its room as the claim has it -/
theorem lw_ret {p : Program} {l : Launch} {e : Env} {s : State} {m : MethodId} {below : List Frame} {meth : Method} {c : Code} {b : Nat} (hx : p.tables.exec = Jvm.exec) (hb : c.code = code) (hr : meth.sig.returnType = ret) (hlocks : meth.locks = false) {pc : Nat} {H : Heap} {ls : Array Slot} (hdg : decode code pc = .ok (.ireturn, 1)) : W p l e room_1 s m #[Value.ref b] below meth c H [] 600000 7302250 (lw_Z below #[Value.ref b] s) (F0 m pc ls [.int 1]) := by
  intro T hT X
  obtain ⟨fs, hret, hrun, hended, hW, hframe⟩ := X.leave (v := some (.int 1)) (hlocks := hlocks) (fun h => by rw [hr] at h; cases h)
  have hmeth' : T.vm.method? m = some meth := X.method'
  refine ⟨T.setFrames fs, ?_, .returned (some (.int 1)), hrun, hended, rfl, ⟨_, rfl⟩, hW, hframe⟩
  jvm_step X.here [X.here.top, hx, hb, hdg, hmeth', hr, ret, narrow_b1]
  (try refine ⟨rfl, ?_⟩); (try refine ⟨rfl, ?_⟩)
  first | (intro acts; rw [hret _ acts rfl rfl rfl]) | rw [hret _ _ rfl rfl rfl]
  exact Steps.refl _
/-- what holds at the law's entry: the machine, the code, the tables' words (any of lw_tbl by 'hts w (by decide +kernel)'), the script of L ints xs at the cell b, what the Statement gives of the start (any of its parts by flat_of_before) -/
def lw_At (p : Program) (s : State) (m : MethodId) (meth : Method) (c : Code) (b L : Nat) (xs : Nat → Int32) : Prop :=
  p.tables.exec = Jvm.exec ∧ c.code = code ∧ meth.sig.returnType = ret ∧ c.maxLocals = 11 ∧ s.vm.findClass R_law = some m.cls ∧ (∀ w ∈ lw_tbl, w.before #[Value.ref b] s = true) ∧ va_X b L xs s s.heap ∧ b < s.heap.size ∧ meth.locks = false ∧ (Jvm.Cond.and given_1 narrow_1).before #[Value.ref b] s = true
/-! ===== the law's start ===== -/
theorem zn_l5 : zNew R_law 32 5 6 zD5 := ⟨RX5, TX5, tyX5, rfl, uwX5, tyX5_ok, lw_g (List.mem_append_right _ (List.mem_of_getElem? (i := 9) (by decide +kernel))) rfl, lw_g (List.mem_append_right _ (List.mem_of_getElem? (i := 10) (by decide +kernel))) rfl, lw_g (List.mem_append_right _ (List.mem_of_getElem? (i := 1) (by decide +kernel))) rfl, fun j hj => by rcases (show j = 0 ∨ j = 1 ∨ j = 2 ∨ j = 3 ∨ j = 4 ∨ j = 5 by omega) with rfl | rfl | rfl | rfl | rfl | rfl <;> rfl⟩
theorem l_known {s : State} {args : Array Value} (hts : ∀ w ∈ lw_tbl, w.before args s = true) : ∃ (G : va_G) (T : Nat → ClassId), va_K G gC (zT T) s ∧ gZ s := by
  have htg : ∀ w ∈ lw_gt, w.before args s = true := fun w h => hts w (List.mem_filter.mp h).1
  have htt : ∀ (i : Nat) (w : Cond), tables_1[i]? = some w → w.before args s = true := fun i w h => hts w (List.mem_append_right _ (List.mem_of_getElem? h))
  obtain ⟨c0, i0, hk0⟩ := u_known (C := RX0) (T := TX0) (N := 4) (n := 4) htg uwX0 (htt 66 _ (by decide +kernel))
  obtain ⟨c1, i1, hk1⟩ := u_known (C := RX1) (T := TX1) (N := 4) (n := 4) htg uwX1 (htt 124 _ (by decide +kernel))
  obtain ⟨c2, i2, hk2⟩ := u_known (C := RX2) (T := TX2) (N := 6) (n := 6) htg uwX2 (htt 147 _ (by decide +kernel))
  obtain ⟨c3, i3, hk3⟩ := u_known (C := RX3) (T := TX3) (N := 7) (n := 7) htg uwX3 (htt 27 _ (by decide +kernel))
  obtain ⟨c4, i4, hk4⟩ := u_known (C := RX4) (T := TX4) (N := 8) (n := 8) htg uwX4 (htt 18 _ (by decide +kernel))
  obtain ⟨c5, i5, hk5⟩ := u_known (C := RX5) (T := TX5) (N := 6) (n := 6) htg uwX5 (htt 10 _ (by decide +kernel))
  obtain ⟨t0, k0, m0, a0, b0, d0⟩ := Cond.arrayClass_spec (htg _ z_arI)
  obtain ⟨t1, k1, m1, a1, b1, d1⟩ := Cond.arrayClass_spec (htg _ z_arC)
  obtain ⟨t2, k2, m2, a2, b2, d2⟩ := Cond.arrayClass_spec (htg _ z_arZ)
  have o3 : va_AO RX3 s := va_AO.of (htt 24 _ (by decide +kernel))
  have o4 : va_AO RX0 s := va_AO.of (htt 26 _ (by decide +kernel))
  have o5 : va_AO RX4 s := va_AO.of (htt 130 _ (by decide +kernel))
  obtain ⟨m3, t3, k3, f3, -, b3, d3, a3⟩ := Cond.arrayOver_spec o3
  obtain ⟨m4, t4, k4, f4, -, b4, d4, a4⟩ := Cond.arrayOver_spec o4
  obtain ⟨m5, t5, k5, f5, -, b5, d5, a5⟩ := Cond.arrayOver_spec o5
  refine ⟨(fun k => match k with | 0 => c0 | 1 => c1 | 2 => c2 | 3 => c3 | 4 => c4 | _ => c5, fun k => match k with | 0 => i0 | 1 => i1 | 2 => i2 | 3 => i3 | 4 => i4 | _ => i5), fun k => match k with | 0 => t0 | 1 => t1 | 2 => t2 | 3 => t3 | 4 => t4 | _ => t5, ⟨fun k q hq => ?_, fun k q hq => ?_⟩, ?_⟩
  · match k, hq with
    | 0, hq => cases hq; exact hk0
    | 1, hq => cases hq; exact hk1
    | 2, hq => cases hq; exact hk2
    | 3, hq => cases hq; exact hk3
    | 4, hq => cases hq; exact hk4
    | 5, hq => cases hq; exact hk5
    | k + 6, hq => simp [gC] at hq
  · match k, hq with
    | 0, hq => cases hq; exact ⟨fun n z => ⟨fun k h => (by cases h), k0, b0, m0, d0⟩, a0⟩
    | 1, hq => cases hq; exact ⟨fun n z => ⟨fun k h => (by cases h), k1, b1, m1, d1⟩, a1⟩
    | 2, hq => cases hq; exact ⟨fun n z => ⟨fun k h => (by cases h), k2, b2, m2, d2⟩, a2⟩
    | 3, hq => cases hq; exact ⟨fun n z => ⟨fun k h => (by cases h), k3, b3, m3, d3⟩, k3, m3, b3, d3, f3, a3⟩
    | 4, hq => cases hq; exact ⟨fun n z => ⟨fun k h => (by cases h), k4, b4, m4, d4⟩, k4, m4, b4, d4, f4, a4⟩
    | 5, hq => cases hq; exact ⟨fun n z => ⟨fun k h => (by cases h), k5, b5, m5, d5⟩, k5, m5, b5, d5, f5, a5⟩
    | k + 6, hq => simp [zT] at hq
  · exact ⟨va_Nw.of rfl (htt 316 _ (by decide +kernel)), va_Nw.of rfl (htt 28 _ (by decide +kernel)), va_Nw.of rfl (htt 67 _ (by decide +kernel)), va_Nw.of rfl (htt 148 _ (by decide +kernel)), o3, o4, o5⟩
/-- one of the law's rows is made -/
theorem zl_new {p : Program} {l : Launch} {e : Jvm.Env} {R : Room} {s : State} {m : MethodId} {args : Array Value} {below : List Frame} {meth : Method} {c : Code} {H : Heap} {locs : List Loc} {cells slots : Nat} {Q : State → Prop} {pc : Nat} {ls : Array Slot} {G : va_G} {T : Nat → ClassId} {n N : Nat} {g : Mem} {i : Int} {cc : ByteArray} (hx : p.tables.exec = Jvm.exec) (hb : c.code = cc) (hts : ∀ w ∈ lw_gt, w.before args s = true) (hK : va_K G gC (zT T) s) (hd : decode cc pc = .ok (.bipush i, 2)) (hi : (Int8.ofInt i).toInt32 = nI N) (hd2 : decode cc (pc + 2) = .ok (.newarray .int, 2)) (hN1 : N ≤ 1000) (hc : cells + 1 ≤ R.cells) (hs : slots + N ≤ R.slots) (hz : H.size = s.heap.size + n) (hP : gP (zE G T s.heap.size n) g H) (hS : va_S (zA s.heap.size) s.heap H locs)
    (kk : ∀ H1, gP (zE G T s.heap.size (n + 1)) (va_up g n (zI T 0 N (fun _ => 0))) H1 → H1.size = s.heap.size + (n + 1) → va_S (zA s.heap.size) s.heap H1 locs → W p l e R s m args below meth c H1 locs (cells + 1) (slots + N) Q (F0 m (pc + 2 + 2) ls [.ref (s.heap.size + n)])) : W p l e R s m args below meth c H locs cells slots Q (F0 m pc ls []) := by
  have h0 : ¬ nI N < 0 := nI_pos (by omega)
  have h00 : (nI N).toNatClampNeg = N := nI_clamp (by omega)
  refine lv_bipush hx hb hd hi ?_
  refine va_newaK (atype := .int) hx hb (hts _ z_arI) rfl hd2 rfl h0 h00 (show N * 4 ≤ _ by omega) hc hs hz fun H1 cA e1 z1 o1 _ hNm => ?_
  have hcA : cA = T 0 := Option.some.inj (hNm.symm.trans (hK.2 0 (T 0, .int) rfl).2)
  subst hcA
  exact kk H1 (zP_push hP e1 o1) (by omega) (zS_push hS (by omega) (by rw [hz]; exact o1))
/-- the end of a walk over the law's world is the law's end: what is new may be any -/
theorem l_end {E0 : gE} {below : List Frame} {a : Array Value} {s t : State} (h : MQ below (gQA E0 (zA s.heap.size) (pI (fun z g' => z = nI 1))) a s 600000 7302250 (zA s.heap.size) t) : lw_Z below a s t := by
  obtain ⟨o, h1, h2, ⟨⟨v, g', rfl, ⟨r, rfl, rfl⟩, -⟩, -⟩, L, ⟨h6, h7, h8⟩, h9⟩ := h
  exact ⟨_, h1, h2, rfl, h6, h7, State.sameButNew.drop_fresh (L := []) (J := L) h8 h9⟩
theorem whole_start {p : Program} {e : Env} {s : State} {m : MethodId} {below : List Frame} {meth : Method} {c : Code} (l : Launch) (hflags : l.flags = flags0) {b L : Nat} {xs : Nat → Int32} (hL : L ≤ 260) (C0 : lw_At p s m meth c b L xs) : W p l e room_1 s m #[Value.ref b] below meth c s.heap [] 0 0 (lw_Z below #[Value.ref b] s) (entryFrame m ([Value.ref b] : List Value).toArray 11) := by
  obtain ⟨hx, hb, hr, hml, hown, hts, hX, hbl, hlocks, hgv⟩ := id C0
  obtain ⟨G, T, hK, hN⟩ := l_known hts
  have htg : ∀ w ∈ lw_gt, w.before #[Value.ref b] s = true := fun w h => hts w (List.mem_filter.mp h).1
  rw [lg_entry_eq]
  have hl0 : y_has ((lg_sl [Value.ref b] ++ List.replicate (11 - (lg_sl [Value.ref b]).length) Slot.unset).toArray) [some (.ref b), none, none, none, none, none, none, none, none, none, none] := y_entry [Value.ref b] rfl (Nat.le_of_ble_eq_true rfl)
  generalize (lg_sl [Value.ref b] ++ List.replicate (11 - (lg_sl [Value.ref b]).length) Slot.unset).toArray = ls at hl0 ⊢
  have hP0 : gP (zE G T s.heap.size 0) (fun _ => oB 5 zD5) s.heap := fun k q hk => absurd (gW_inv hk).1 (Nat.not_lt_zero k)
  have hS0 : va_S (zA s.heap.size) s.heap s.heap [] := va_S.rf
  obtain ⟨C5, TT5, ty5, h51, h52, h53, h54, h55, h56, h57⟩ := zn_l5
  have hKn5 := hK.1 5 _ h51
  refine W.newcK hx hb hown (htg _ h54) (htg _ h55) (htg _ h56) rfl dL_law_0 (Nat.le_of_ble_eq_true rfl) (Nat.le_of_ble_eq_true rfl) hKn5.2.1 rfl fun H1 kC hkC e1 z1 o1 => ?_
  have hP1 : gP (zE G T s.heap.size 1) (va_up (fun _ => oB 5 zD5) 0 (oB 5 zD5)) H1 := zP_push hP0 ⟨_, h51, (u_born ty5 htg h52 hKn5 hkC e1 h53).to h57⟩ o1
  have hS1 := zS_push hS0 z1 o1
  refine lv_dup hx hb dL_law_3 rfl ?_
  obtain ⟨w3, w0, w4, w6, w7⟩ := zi5
  refine z_run (A0 := zA s.heap.size) (rest := [zr s.heap.size 0]) (va_runI (As := []) (rest := [zr s.heap.size 0]) (Ts := lw_gt) (own := R_law) (nL := 11) ⟨hx, hb, hml, hown, htg⟩ (c_X5_init l G T s.heap.size (va_up_self _ _ _)) (cwI 0 htg (lw_good w7) rfl rfl rfl (htg _ w6) (htg _ kXL_177) (htg _ w4) w0 w3 ⟨Nat.le_of_ble_eq_true rfl, Nat.le_of_ble_eq_true rfl⟩) ⟨mz_blind, fun U hU hW => ⟨rfl, by rw [hU]; exact hP1, by rw [hU]; exact z1, va_K.moved hW.alike hK, hN.warm hW⟩⟩ rfl rfl hl0.1 rfl (lv_room (Nat.le_of_ble_eq_true rfl)) dL_law_4 ⟨Nat.le_of_ble_eq_true rfl, Nat.le_of_ble_eq_true rfl⟩) hS1 (fun _ h => h) (fun g2 H2 locs2 hc hP2 z2 _ hS2 => ?_)
  refine lv_astore_n (i := 1) hx hb dL_law_7 rfl hl0.lv (Nat.le_of_ble_eq_true rfl) rfl (fun ls1 h1 => ?_)
  have hl1 := y_has_st1 (lo := [some (.ref b), none, none, none, none, none, none, none, none, none, none]) (n := 11) (i := 1) (v := .ref (s.heap.size + 0)) rfl (Nat.le_of_ble_eq_true rfl) rfl h1
  refine zl_new hx hb htg hK dL_law_8 (N := 32) (by decide) dL_law_10 (by decide) (Nat.le_of_ble_eq_true rfl) (Nat.le_of_ble_eq_true rfl) z2 hP2 hS2 (fun H3 hP3 z3 hS3 => ?_)
  refine lv_astore_n (i := 2) hx hb dL_law_12 rfl hl1.lv (Nat.le_of_ble_eq_true rfl) rfl (fun ls2 h2 => ?_)
  have hl2 := y_has_st1 (lo := [some (.ref b), some (.ref (s.heap.size + 0)), none, none, none, none, none, none, none, none, none]) (n := 11) (i := 2) (v := .ref (s.heap.size + 100)) rfl (Nat.le_of_ble_eq_true rfl) rfl h2
  refine zl_new hx hb htg hK dL_law_13 (N := 56) (by decide) dL_law_15 (by decide) (Nat.le_of_ble_eq_true rfl) (Nat.le_of_ble_eq_true rfl) z3 hP3 hS3 (fun H4 hP4 z4 hS4 => ?_)
  refine lv_astore_n (i := 3) hx hb dL_law_17 rfl hl2.lv (Nat.le_of_ble_eq_true rfl) rfl (fun ls3 h3 => ?_)
  have hl3 := y_has_st1 (lo := [some (.ref b), some (.ref (s.heap.size + 0)), some (.ref (s.heap.size + 100)), none, none, none, none, none, none, none, none]) (n := 11) (i := 3) (v := .ref (s.heap.size + 101)) rfl (Nat.le_of_ble_eq_true rfl) rfl h3
  refine zl_new hx hb htg hK dL_law_18 (N := 20) (by decide) dL_law_20 (by decide) (Nat.le_of_ble_eq_true rfl) (Nat.le_of_ble_eq_true rfl) z4 hP4 hS4 (fun H5 hP5 z5 hS5 => ?_)
  refine lv_astore (i := 4) hx hb dL_law_22 hl3.lv (Nat.le_of_ble_eq_true rfl) rfl (fun ls4 h4 => ?_)
  have hl4 := y_has_st1 (lo := [some (.ref b), some (.ref (s.heap.size + 0)), some (.ref (s.heap.size + 100)), some (.ref (s.heap.size + 101)), none, none, none, none, none, none, none]) (n := 11) (i := 4) (v := .ref (s.heap.size + 102)) rfl (Nat.le_of_ble_eq_true rfl) rfl h4
  refine zl_new hx hb htg hK dL_law_24 (N := 64) (by decide) dL_law_26 (by decide) (Nat.le_of_ble_eq_true rfl) (Nat.le_of_ble_eq_true rfl) z5 hP5 hS5 (fun H6 hP6 z6 hS6 => ?_)
  refine lv_astore (i := 5) hx hb dL_law_28 hl4.lv (Nat.le_of_ble_eq_true rfl) rfl (fun ls5 h5 => ?_)
  have hl5 := y_has_st1 (lo := [some (.ref b), some (.ref (s.heap.size + 0)), some (.ref (s.heap.size + 100)), some (.ref (s.heap.size + 101)), some (.ref (s.heap.size + 102)), none, none, none, none, none, none]) (n := 11) (i := 5) (v := .ref (s.heap.size + 103)) rfl (Nat.le_of_ble_eq_true rfl) rfl h5
  have hb5 : ¬ zA s.heap.size b := fun h => absurd hbl (Nat.not_lt.mpr h)
  have hLW : LWP (zE G T s.heap.size 100) (zE G T s.heap.size 104) (va_up (va_up (va_up (va_up g2 100 (zI T 0 32 (fun _ => 0))) 101 (zI T 0 56 (fun _ => 0))) 102 (zI T 0 20 (fun _ => 0))) 103 (zI T 0 64 (fun _ => 0))) zS0 (fun _ => 0) (fun _ => 0) (fun _ => 0) (fun _ => 0) :=
    ⟨⟨rfl, rfl, (by decide : 100 ≤ 104), fun _ _ => rfl⟩, rfl, Nat.le_refl _, hc.keep (fun k hk => by rw [va_up_ne _ _ (by omega), va_up_ne _ _ (by omega), va_up_ne _ _ (by omega), va_up_ne _ _ (by omega)]),
      (va_up_ne _ _ (by decide)).trans ((va_up_ne _ _ (by decide)).trans ((va_up_ne _ _ (by decide)).trans (va_up_self _ _ _))), (va_up_ne _ _ (by decide)).trans ((va_up_ne _ _ (by decide)).trans (va_up_self _ _ _)), (va_up_ne _ _ (by decide)).trans (va_up_self _ _ _), va_up_self _ _ _⟩
  have hC : yC l (zE G T s.heap.size 104) (p, e, room_1, s, m, #[Value.ref b], below, meth, c, zE G T s.heap.size 104, 104, 1532, 600000, 7302250, zA s.heap.size) RXL cL_law 11 (some .boolean) 11 440 :=
    ⟨hx, hb, hml, hown, htg, hK, zOk, hlocks, hr, rfl, rfl, hN.1, fun q hq => zgA hq, eSub.rf _, rfl, rfl, Nat.le_of_ble_eq_true rfl, Nat.le_of_ble_eq_true rfl⟩
  have hY := w_first l (p, e, room_1, s, m, #[Value.ref b], below, meth, c, zE G T s.heap.size 104, 104, 1532, 600000, 7302250, zA s.heap.size) G T s.heap.size b _ zS0 _ _ _ _ hLW zS0_iv zS0_ft (fun g' hL' => w_loop l G T s.heap.size b L xs (Nat.le_trans hL (by decide)) 30 _ g' zS0 _ _ _ _ 0 rfl hL' zS0_iv hX hbl hb5 (fun _ h => h) (show 104 + 3 * 30 ≤ 600000 from by decide) (show 1532 + 140 * 30 ≤ 7302250 from by decide) hC) hC
  intro Tt hT X9
  obtain ⟨t, a1, b1⟩ := hY H6 locs2 ls5 hP6 hS6 hl5 Tt hT X9
  exact ⟨t, a1, l_end b1⟩
