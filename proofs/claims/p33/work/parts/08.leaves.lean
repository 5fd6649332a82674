/-! ===== leaves: ranges, glows, colours, what arguments may be ===== -/
theorem mt_goF {l : Launch} {E : gE} {y : MethodName} {cc : ByteArray} {nL : Nat} {ret : Option FieldType} {fr ll : Nat} {av : List Value} {g : Mem} {post : Option Value → Mem → Prop} {own : String} (hy : plainFor y = true) (hown : y.cls = own) {lo : List (Option Value)}
    (hlo : y_ent av ++ List.replicate (nL - (y_ent av).length) none = lo) (hn : (y_ent av).length ≤ nL)
    (body : ∀ X : gX, yC l E X own cc nL ret fr ll → Y l E X post 0 lo [] g) : Mt l E y cc nL ret fr ll av g post := by
  refine va_MetF (cc := cc) (maxL := nL) (ret := ret) hy rfl ?_
  intro p e s m args below meth c s₁ B hml hv
  obtain ⟨rfl, hP, hK, hE, hN⟩ := hv
  have hx := B.exec
  have hb := B.bytes
  have hr := B.returns
  have hts0 := atoms_spec (ws := .code y cc nL ret :: lw_gt) B.pre
  have hts : ∀ w ∈ lw_gt, w.before av.toArray s = true := fun w hw => hts0 w (List.mem_cons_of_mem _ hw)
  have hown2 : s.vm.findClass own = some m.cls := by rw [← hown]; exact findClass_of_methodNamed B.named
  have hlocks := B.notSynchronized
  rw [lg_entry_eq]
  exact body (p, e, (headSpec (Cond.code y cc nL ret :: lw_gt) { frames := fr, cells := 0, slots := 0, locals := ll }).room, s, m, av.toArray, below, meth, c, E, 0, 0, 0, 0, gA E) ⟨hx, hb, hml, hown2, hts, hK, hE, hlocks, hr, rfl, rfl, hN, fun _ h => h, eSub.rf E, rfl, rfl, Nat.zero_le _, Nat.zero_le _⟩ s.heap [] _ hP va_S.rf (y_entry av hlo hn)
theorem zup_up (g : Mem) (a : Nat) (x y : va_E) : va_up (va_up g a x) a y = va_up g a y := by
  funext j
  unfold va_up
  by_cases h : j = a <;> simp [h]
theorem zup_same {g : Mem} {a : Nat} {e : va_E} (h : g a = e) : va_up g a e = g := by
  funext j
  unfold va_up
  by_cases hj : j = a
  · subst hj; simp [h]
  · simp [hj]
theorem zfl_a {x : Int32} {k : Nat} (h0 : 0 < k) (hk : k < 1048576) (h1 : -1073741824 ≤ x.toInt) (h2 : x.toInt < 1073741824) (h : 0 ≤ x ^^^ nI k) : x - x / nI k * nI k = Int32.ofInt (x.toInt % k) := by
  have e := zrem_toInt (x := x) rfl h0 hk h1 h2
  have h3 : ¬ x.toInt < 0 := fun q => by
    have := (zxor_neg x (show k < 2147483648 by omega)).mpr q
    rw [Int32.le_iff_toInt_le, Int32.toInt_zero] at h
    omega
  rw [Int.tmod_eq_emod_of_nonneg (by omega)] at e
  rw [← e, Int32.ofInt_toInt]
theorem zfl_b {x : Int32} {k : Nat} (h0 : 0 < k) (hk : k < 1048576) (h1 : -1073741824 ≤ x.toInt) (h2 : x.toInt < 1073741824) (h : x - x / nI k * nI k = 0) : x - x / nI k * nI k = Int32.ofInt (x.toInt % k) := by
  have e := zrem_toInt (x := x) rfl h0 hk h1 h2
  rw [h, Int32.toInt_zero] at e
  have h4 : x.toInt % k = 0 := Int.emod_eq_zero_of_dvd (Int.dvd_of_tmod_eq_zero e.symm)
  rw [h, h4]
  rfl
theorem zfl_c {x : Int32} {k : Nat} (h0 : 0 < k) (hk : k < 1048576) (h1 : -1073741824 ≤ x.toInt) (h2 : x.toInt < 1073741824) (h : ¬ 0 ≤ x ^^^ nI k) (hz : ¬ x - x / nI k * nI k = 0) : x - x / nI k * nI k + nI k = Int32.ofInt (x.toInt % k) := by
  have e := zrem_toInt (x := x) rfl h0 hk h1 h2
  have ty : (nI k).toInt = (k : Int) := tI (by omega)
  have h3 : x.toInt < 0 := by
    have := (zxor_neg x (show k < 2147483648 by omega)).mp (by rw [Int32.le_iff_toInt_le, Int32.toInt_zero] at h; omega)
    exact this
  have hz2 : ¬ x.toInt.tmod k = 0 := fun q => hz (Int32.toInt_inj.mp (by rw [e, q, Int32.toInt_zero]))
  obtain ⟨b1, b2⟩ := tmod_bounds (a := x.toInt) (M := (k : Int)) (by omega)
  have b3 : x.toInt.tmod k ≤ 0 := by
    have h9 := Int.tmod_nonneg (a := -x.toInt) (k : Int) (by omega)
    rw [Int.neg_tmod] at h9
    omega
  have h4 : x.toInt % k = x.toInt.tmod k + k := by
    have h5 : x.toInt % k = (x.toInt.tmod k) % k := by
      have := Int.mul_tdiv_add_tmod x.toInt k
      have h6 : x.toInt % k = ((k : Int) * x.toInt.tdiv k + x.toInt.tmod k) % k := by rw [this]
      rw [h6, Int.add_comm, Int.add_mul_emod_self_left]
    have h7 : (x.toInt.tmod k + k) % k = x.toInt.tmod k + k := Int.emod_eq_of_lt (by omega) (by omega)
    rw [h5, ← h7, Int.add_emod_right]
  have h8 : (x - x / nI k * nI k + nI k).toInt = x.toInt % k := by
    rw [zaddI] <;> rw [e, ty] <;> omega
  rw [← h8, Int32.ofInt_toInt]
theorem dJ9_floorMod_0 : decode cJ9_floorMod 0 = .ok (.iload_n 0, 1) := by decide +kernel
theorem dJ9_floorMod_1 : decode cJ9_floorMod 1 = .ok (.iload_n 1, 1) := by decide +kernel
theorem dJ9_floorMod_2 : decode cJ9_floorMod 2 = .ok (.irem, 1) := by decide +kernel
theorem dJ9_floorMod_3 : decode cJ9_floorMod 3 = .ok (.istore_n 2, 1) := by decide +kernel
theorem dJ9_floorMod_4 : decode cJ9_floorMod 4 = .ok (.iload_n 0, 1) := by decide +kernel
theorem dJ9_floorMod_5 : decode cJ9_floorMod 5 = .ok (.iload_n 1, 1) := by decide +kernel
theorem dJ9_floorMod_6 : decode cJ9_floorMod 6 = .ok (.ixor, 1) := by decide +kernel
theorem dJ9_floorMod_7 : decode cJ9_floorMod 7 = .ok (.ifCond .ge 11, 3) := by decide +kernel
theorem dJ9_floorMod_10 : decode cJ9_floorMod 10 = .ok (.iload_n 2, 1) := by decide +kernel
theorem dJ9_floorMod_11 : decode cJ9_floorMod 11 = .ok (.ifCond .eq 7, 3) := by decide +kernel
theorem dJ9_floorMod_14 : decode cJ9_floorMod 14 = .ok (.iload_n 2, 1) := by decide +kernel
theorem dJ9_floorMod_15 : decode cJ9_floorMod 15 = .ok (.iload_n 1, 1) := by decide +kernel
theorem dJ9_floorMod_16 : decode cJ9_floorMod 16 = .ok (.iadd, 1) := by decide +kernel
theorem dJ9_floorMod_17 : decode cJ9_floorMod 17 = .ok (.ireturn, 1) := by decide +kernel
theorem dJ9_floorMod_18 : decode cJ9_floorMod 18 = .ok (.iload_n 2, 1) := by decide +kernel
theorem dJ9_floorMod_19 : decode cJ9_floorMod 19 = .ok (.ireturn, 1) := by decide +kernel
set_option maxHeartbeats 4000000 in
set_option maxRecDepth 100000 in
theorem c_J9_floorMod (l : Launch) (E : gE) (g : Mem) (x : Int32) (k : Nat) (h0 : 0 < k) (hk : k < 1048576) (h1 : -1073741824 ≤ x.toInt) (h2 : x.toInt < 1073741824) : Mt l E yJ9_floorMod cJ9_floorMod 3 (some .int) 0 0 [.int (x), .int (nI (k))] g (pI (fun r g' => r = Int32.ofInt (x.toInt % k) ∧ g' = g)) := by
  refine mt_goF (own := "java/lang/Math") (by decide +kernel) rfl (lo := [some (.int (x)), some (.int (nI (k))), none]) rfl (Nat.le_of_ble_eq_true rfl) (fun X hC => ?_)
  refine y_iload_n hC dJ9_floorMod_0 (i := 0) rfl rfl ?_
  refine y_iload_n hC dJ9_floorMod_1 (i := 1) rfl rfl ?_
  refine y_irem hC dJ9_floorMod_2 (nI_ne0 h0 (by omega)) ?_
  refine y_istore_n hC dJ9_floorMod_3 (i := 2) rfl (Nat.le_of_ble_eq_true rfl) rfl (lo' := [some (.int (x)), some (.int (nI (k))), some (.int ((x) - (x) / nI (k) * nI (k)))]) rfl ?_
  refine y_iload_n hC dJ9_floorMod_4 (i := 0) rfl rfl ?_
  refine y_iload_n hC dJ9_floorMod_5 (i := 1) rfl rfl ?_
  refine y_ixor hC dJ9_floorMod_6 ?_
  refine y_if_ge (tgt := 18) hC dJ9_floorMod_7 (by decide) (fun c_7 => ?_) (fun c_7 => ?_)
  · refine y_iload_n hC dJ9_floorMod_18 (i := 2) rfl rfl ?_
    refine y_iret (hC := hC) (hd := dJ9_floorMod_19) (hq := ?_)
    first | exact ⟨zfl_a h0 hk h1 h2 c_7, rfl⟩ | exact ⟨zfl_b h0 hk h1 h2 c_11, rfl⟩
  · refine y_iload_n hC dJ9_floorMod_10 (i := 2) rfl rfl ?_
    refine y_if_eq (tgt := 18) hC dJ9_floorMod_11 (by decide) (fun c_11 => ?_) (fun c_11 => ?_)
    · refine y_iload_n hC dJ9_floorMod_18 (i := 2) rfl rfl ?_
      refine y_iret (hC := hC) (hd := dJ9_floorMod_19) (hq := ?_)
      first | exact ⟨zfl_a h0 hk h1 h2 c_7, rfl⟩ | exact ⟨zfl_b h0 hk h1 h2 c_11, rfl⟩
    · refine y_iload_n hC dJ9_floorMod_14 (i := 2) rfl rfl ?_
      refine y_iload_n hC dJ9_floorMod_15 (i := 1) rfl rfl ?_
      refine y_iadd hC dJ9_floorMod_16 ?_
      refine y_iret (hC := hC) (hd := dJ9_floorMod_17) (hq := ?_)
      exact ⟨zfl_c h0 hk h1 h2 c_7 c_11, rfl⟩

theorem dX0_begin_0 : decode cX0_begin 0 = .ok (.aload_n 0, 1) := by decide +kernel
theorem dX0_begin_1 : decode cX0_begin 1 = .ok (.iload_n 1, 1) := by decide +kernel
theorem dX0_begin_2 : decode cX0_begin 2 = .ok (.putfield 7, 3) := by decide +kernel
theorem dX0_begin_5 : decode cX0_begin 5 = .ok (.aload_n 0, 1) := by decide +kernel
theorem dX0_begin_6 : decode cX0_begin 6 = .ok (.iload_n 2, 1) := by decide +kernel
theorem dX0_begin_7 : decode cX0_begin 7 = .ok (.putfield 13, 3) := by decide +kernel
theorem dX0_begin_10 : decode cX0_begin 10 = .ok (.aload_n 0, 1) := by decide +kernel
theorem dX0_begin_11 : decode cX0_begin 11 = .ok (.iload_n 3, 1) := by decide +kernel
theorem dX0_begin_12 : decode cX0_begin 12 = .ok (.putfield 16, 3) := by decide +kernel
theorem dX0_begin_15 : decode cX0_begin 15 = .ok (.aload_n 0, 1) := by decide +kernel
theorem dX0_begin_16 : decode cX0_begin 16 = .ok (.iconst 0, 1) := by decide +kernel
theorem dX0_begin_17 : decode cX0_begin 17 = .ok (.putfield 19, 3) := by decide +kernel
theorem dX0_begin_20 : decode cX0_begin 20 = .ok (.return_, 1) := by decide +kernel
set_option maxHeartbeats 4000000 in
set_option maxRecDepth 100000 in
theorem c_X0_begin (l : Launch) (E : gE) (g : Mem) (a : Nat) (ha : a < eK E) (pl co le ti : Int32) (hg : g a = oB 0 [.int (pl), .int (co), .int (le), .int (ti)]) (p c n : Int32) : Mt l E yX0_begin cX0_begin 4 none 0 0 [rf E (a), .int (p), .int (c), .int (n)] g (pV (fun g' => g' = va_up g a (oB 0 [.int (p), .int (c), .int (n), .int (nI (0))]))) := by
  refine mt_go (own := RX0) (by decide) rfl (lo := [some (rf E (a)), some (.int (p)), some (.int (c)), some (.int (n))]) rfl (Nat.le_of_ble_eq_true rfl) (fun X hC => ?_)
  refine y_aload_n hC dX0_begin_0 (i := 0) rfl rfl ?_
  refine y_iload_n hC dX0_begin_1 (i := 1) rfl rfl ?_
  refine y_put hC fpX0_7 dX0_begin_2 (k := a) ha hg (Nat.le_of_ble_eq_true rfl) (rfl) (rfl) (fs' := [.int (p), .int (co), .int (le), .int (ti)]) rfl ?_
  refine y_aload_n hC dX0_begin_5 (i := 0) rfl rfl ?_
  refine y_iload_n hC dX0_begin_6 (i := 2) rfl rfl ?_
  refine y_put hC fpX0_13 dX0_begin_7 (k := a) ha (va_up_self _ _ _) (Nat.le_of_ble_eq_true rfl) (rfl) (rfl) (fs' := [.int (p), .int (c), .int (le), .int (ti)]) rfl ?_
  refine y_mem (zup_up _ _ _ _) ?_
  refine y_aload_n hC dX0_begin_10 (i := 0) rfl rfl ?_
  refine y_iload_n hC dX0_begin_11 (i := 3) rfl rfl ?_
  refine y_put hC fpX0_16 dX0_begin_12 (k := a) ha (va_up_self _ _ _) (Nat.le_of_ble_eq_true rfl) (rfl) (rfl) (fs' := [.int (p), .int (c), .int (n), .int (ti)]) rfl ?_
  refine y_mem (zup_up _ _ _ _) ?_
  refine y_aload_n hC dX0_begin_15 (i := 0) rfl rfl ?_
  refine y_iconst (v := nI 0) hC dX0_begin_16 (by decide) ?_
  refine y_put hC fpX0_19 dX0_begin_17 (k := a) ha (va_up_self _ _ _) (Nat.le_of_ble_eq_true rfl) (rfl) (rfl) (fs' := [.int (p), .int (c), .int (n), .int (nI (0))]) rfl ?_
  refine y_mem (zup_up _ _ _ _) ?_
  refine y_vret (hC := hC) (hd := dX0_begin_20) (hq := ?_)
  rfl

theorem dX0_copy_0 : decode cX0_copy 0 = .ok (.aload_n 0, 1) := by decide +kernel
theorem dX0_copy_1 : decode cX0_copy 1 = .ok (.aload_n 1, 1) := by decide +kernel
theorem dX0_copy_2 : decode cX0_copy 2 = .ok (.getfield 7, 3) := by decide +kernel
theorem dX0_copy_5 : decode cX0_copy 5 = .ok (.putfield 7, 3) := by decide +kernel
theorem dX0_copy_8 : decode cX0_copy 8 = .ok (.aload_n 0, 1) := by decide +kernel
theorem dX0_copy_9 : decode cX0_copy 9 = .ok (.aload_n 1, 1) := by decide +kernel
theorem dX0_copy_10 : decode cX0_copy 10 = .ok (.getfield 13, 3) := by decide +kernel
theorem dX0_copy_13 : decode cX0_copy 13 = .ok (.putfield 13, 3) := by decide +kernel
theorem dX0_copy_16 : decode cX0_copy 16 = .ok (.aload_n 0, 1) := by decide +kernel
theorem dX0_copy_17 : decode cX0_copy 17 = .ok (.aload_n 1, 1) := by decide +kernel
theorem dX0_copy_18 : decode cX0_copy 18 = .ok (.getfield 16, 3) := by decide +kernel
theorem dX0_copy_21 : decode cX0_copy 21 = .ok (.putfield 16, 3) := by decide +kernel
theorem dX0_copy_24 : decode cX0_copy 24 = .ok (.aload_n 0, 1) := by decide +kernel
theorem dX0_copy_25 : decode cX0_copy 25 = .ok (.aload_n 1, 1) := by decide +kernel
theorem dX0_copy_26 : decode cX0_copy 26 = .ok (.getfield 19, 3) := by decide +kernel
theorem dX0_copy_29 : decode cX0_copy 29 = .ok (.putfield 19, 3) := by decide +kernel
theorem dX0_copy_32 : decode cX0_copy 32 = .ok (.return_, 1) := by decide +kernel
set_option maxHeartbeats 4000000 in
set_option maxRecDepth 100000 in
theorem c_X0_copy (l : Launch) (E : gE) (g : Mem) (a : Nat) (ha : a < eK E) (pl co le ti : Int32) (hg : g a = oB 0 [.int (pl), .int (co), .int (le), .int (ti)]) (b : Nat) (hb : b < eK E) (hba : b ≠ a) (b0 b1 b2 b3 : Int32) (hgb : g b = oB 0 [.int (b0), .int (b1), .int (b2), .int (b3)]) : Mt l E yX0_copy cX0_copy 2 none 0 0 [rf E (a), rf E (b)] g (pV (fun g' => g' = va_up g a (oB 0 [.int (b0), .int (b1), .int (b2), .int (b3)]))) := by
  refine mt_go (own := RX0) (by decide) rfl (lo := [some (rf E (a)), some (rf E (b))]) rfl (Nat.le_of_ble_eq_true rfl) (fun X hC => ?_)
  refine y_aload_n hC dX0_copy_0 (i := 0) rfl rfl ?_
  refine y_aload_n hC dX0_copy_1 (i := 1) rfl rfl ?_
  refine y_get hC fX0_7 dX0_copy_2 (k := b) hb hgb rfl ?_
  refine y_put hC fpX0_7 dX0_copy_5 (k := a) ha hg (Nat.le_of_ble_eq_true rfl) (rfl) (rfl) (fs' := [.int (b0), .int (co), .int (le), .int (ti)]) rfl ?_
  refine y_aload_n hC dX0_copy_8 (i := 0) rfl rfl ?_
  refine y_aload_n hC dX0_copy_9 (i := 1) rfl rfl ?_
  refine y_get hC fX0_13 dX0_copy_10 (k := b) hb ((va_up_ne _ _ (hba)).trans hgb) rfl ?_
  refine y_put hC fpX0_13 dX0_copy_13 (k := a) ha (va_up_self _ _ _) (Nat.le_of_ble_eq_true rfl) (rfl) (rfl) (fs' := [.int (b0), .int (b1), .int (le), .int (ti)]) rfl ?_
  refine y_mem (zup_up _ _ _ _) ?_
  refine y_aload_n hC dX0_copy_16 (i := 0) rfl rfl ?_
  refine y_aload_n hC dX0_copy_17 (i := 1) rfl rfl ?_
  refine y_get hC fX0_16 dX0_copy_18 (k := b) hb ((va_up_ne _ _ (hba)).trans hgb) rfl ?_
  refine y_put hC fpX0_16 dX0_copy_21 (k := a) ha (va_up_self _ _ _) (Nat.le_of_ble_eq_true rfl) (rfl) (rfl) (fs' := [.int (b0), .int (b1), .int (b2), .int (ti)]) rfl ?_
  refine y_mem (zup_up _ _ _ _) ?_
  refine y_aload_n hC dX0_copy_24 (i := 0) rfl rfl ?_
  refine y_aload_n hC dX0_copy_25 (i := 1) rfl rfl ?_
  refine y_get hC fX0_19 dX0_copy_26 (k := b) hb ((va_up_ne _ _ (hba)).trans hgb) rfl ?_
  refine y_put hC fpX0_19 dX0_copy_29 (k := a) ha (va_up_self _ _ _) (Nat.le_of_ble_eq_true rfl) (rfl) (rfl) (fs' := [.int (b0), .int (b1), .int (b2), .int (b3)]) rfl ?_
  refine y_mem (zup_up _ _ _ _) ?_
  refine y_vret (hC := hC) (hd := dX0_copy_32) (hq := ?_)
  rfl

theorem dX0_fullTicks_0 : decode cX0_fullTicks 0 = .ok (.iconst 2, 1) := by decide +kernel
theorem dX0_fullTicks_1 : decode cX0_fullTicks 1 = .ok (.aload_n 0, 1) := by decide +kernel
theorem dX0_fullTicks_2 : decode cX0_fullTicks 2 = .ok (.getfield 16, 3) := by decide +kernel
theorem dX0_fullTicks_5 : decode cX0_fullTicks 5 = .ok (.imul, 1) := by decide +kernel
theorem dX0_fullTicks_6 : decode cX0_fullTicks 6 = .ok (.ireturn, 1) := by decide +kernel
set_option maxHeartbeats 4000000 in
set_option maxRecDepth 100000 in
theorem c_X0_fullTicks (l : Launch) (E : gE) (g : Mem) (a : Nat) (ha : a < eK E) (pl co : Int32) (le ti : Nat) (hle : 0 < le) (hle2 : le ≤ 30) (hti : ti < 2 * le) (hg : g a = oB 0 [.int (pl), .int (co), .int (nI (le)), .int (nI (ti))]) : Mt l E yX0_fullTicks cX0_fullTicks 1 (some .int) 0 0 [rf E (a)] g (pI (fun r g' => r = nI (2 * le) ∧ g' = g)) := by
  refine mt_go (own := RX0) (by decide) rfl (lo := [some (rf E (a))]) rfl (Nat.le_of_ble_eq_true rfl) (fun X hC => ?_)
  refine y_iconst (v := nI 2) hC dX0_fullTicks_0 (by decide) ?_
  refine y_aload_n hC dX0_fullTicks_1 (i := 0) rfl rfl ?_
  refine y_get hC fX0_16 dX0_fullTicks_2 (k := a) ha hg rfl ?_
  refine y_imul_n hC dX0_fullTicks_5 ?_
  refine y_iret (hC := hC) (hd := dX0_fullTicks_6) (hq := ?_)
  exact ⟨rfl, rfl⟩

theorem dX0_advance_0 : decode cX0_advance 0 = .ok (.aload_n 0, 1) := by decide +kernel
theorem dX0_advance_1 : decode cX0_advance 1 = .ok (.aload_n 0, 1) := by decide +kernel
theorem dX0_advance_2 : decode cX0_advance 2 = .ok (.getfield 19, 3) := by decide +kernel
theorem dX0_advance_5 : decode cX0_advance 5 = .ok (.iload_n 1, 1) := by decide +kernel
theorem dX0_advance_6 : decode cX0_advance 6 = .ok (.iadd, 1) := by decide +kernel
theorem dX0_advance_7 : decode cX0_advance 7 = .ok (.aload_n 0, 1) := by decide +kernel
theorem dX0_advance_8 : decode cX0_advance 8 = .ok (.invokevirtual 22, 3) := by decide +kernel
theorem dX0_advance_11 : decode cX0_advance 11 = .ok (.irem, 1) := by decide +kernel
theorem dX0_advance_12 : decode cX0_advance 12 = .ok (.putfield 19, 3) := by decide +kernel
theorem dX0_advance_15 : decode cX0_advance 15 = .ok (.return_, 1) := by decide +kernel
set_option maxHeartbeats 4000000 in
set_option maxRecDepth 100000 in
theorem c_X0_advance (l : Launch) (E : gE) (g : Mem) (a : Nat) (ha : a < eK E) (pl co : Int32) (le ti : Nat) (hle : 0 < le) (hle2 : le ≤ 30) (hti : ti < 2 * le) (hg : g a = oB 0 [.int (pl), .int (co), .int (nI (le)), .int (nI (ti))]) (t : Nat) (ht : t ≤ 5000) : Mt l E yX0_advance cX0_advance 2 none 1 20 [rf E (a), .int (nI (t))] g (pV (fun g' => g' = va_up g a (oB 0 [.int (pl), .int (co), .int (nI (le)), .int (nI ((ti + t) % (2 * le)))]))) := by
  refine mt_go (own := RX0) (by decide) rfl (lo := [some (rf E (a)), some (.int (nI (t)))]) rfl (Nat.le_of_ble_eq_true rfl) (fun X hC => ?_)
  refine y_aload_n hC dX0_advance_0 (i := 0) rfl rfl ?_
  refine y_aload_n hC dX0_advance_1 (i := 0) rfl rfl ?_
  refine y_get hC fX0_19 dX0_advance_2 (k := a) ha hg rfl ?_
  refine y_iload_n hC dX0_advance_5 (i := 1) rfl rfl ?_
  refine y_iadd_n hC dX0_advance_6 ?_
  refine y_aload_n hC dX0_advance_7 (i := 0) rfl rfl ?_
  refine y_callV hC mX0_fullTicks kX0_22 dX0_advance_8 (b := a) (As := []) (rest := [.int (nI (ti + t)), rf E (a)]) (c_X0_fullTicks l E _ a ha pl co le ti hle hle2 hti hg) ha hg rfl rfl rfl (Nat.le_of_ble_eq_true rfl) ⟨Nat.le_of_ble_eq_true rfl, Nat.le_of_ble_eq_true rfl⟩ (pk_i ?_)
  rintro r_8 g_8 ⟨hr_8, hq_8⟩
  obtain rfl := hq_8.symm
  rw [hr_8]
  clear hr_8 r_8
  refine y_irem_n hC dX0_advance_11 (by omega) (by omega) (by omega) ?_
  refine y_put hC fpX0_19 dX0_advance_12 (k := a) ha hg (Nat.le_of_ble_eq_true rfl) (rfl) (rfl) (fs' := [.int (pl), .int (co), .int (nI (le)), .int (nI ((ti + t) % (2 * le)))]) rfl ?_
  refine y_vret (hC := hC) (hd := dX0_advance_15) (hq := ?_)
  rfl

theorem dX0_strength_0 : decode cX0_strength 0 = .ok (.aload_n 0, 1) := by decide +kernel
theorem dX0_strength_1 : decode cX0_strength 1 = .ok (.getfield 19, 3) := by decide +kernel
theorem dX0_strength_4 : decode cX0_strength 4 = .ok (.iload_n 1, 1) := by decide +kernel
theorem dX0_strength_5 : decode cX0_strength 5 = .ok (.iadd, 1) := by decide +kernel
theorem dX0_strength_6 : decode cX0_strength 6 = .ok (.aload_n 0, 1) := by decide +kernel
theorem dX0_strength_7 : decode cX0_strength 7 = .ok (.invokevirtual 22, 3) := by decide +kernel
theorem dX0_strength_10 : decode cX0_strength 10 = .ok (.irem, 1) := by decide +kernel
theorem dX0_strength_11 : decode cX0_strength 11 = .ok (.istore_n 2, 1) := by decide +kernel
theorem dX0_strength_12 : decode cX0_strength 12 = .ok (.iload_n 2, 1) := by decide +kernel
theorem dX0_strength_13 : decode cX0_strength 13 = .ok (.aload_n 0, 1) := by decide +kernel
theorem dX0_strength_14 : decode cX0_strength 14 = .ok (.getfield 16, 3) := by decide +kernel
theorem dX0_strength_17 : decode cX0_strength 17 = .ok (.if_icmp .gt 7, 3) := by decide +kernel
theorem dX0_strength_20 : decode cX0_strength 20 = .ok (.iload_n 2, 1) := by decide +kernel
theorem dX0_strength_21 : decode cX0_strength 21 = .ok (.goto 9, 3) := by decide +kernel
theorem dX0_strength_24 : decode cX0_strength 24 = .ok (.aload_n 0, 1) := by decide +kernel
theorem dX0_strength_25 : decode cX0_strength 25 = .ok (.invokevirtual 22, 3) := by decide +kernel
theorem dX0_strength_28 : decode cX0_strength 28 = .ok (.iload_n 2, 1) := by decide +kernel
theorem dX0_strength_29 : decode cX0_strength 29 = .ok (.isub, 1) := by decide +kernel
theorem dX0_strength_30 : decode cX0_strength 30 = .ok (.ireturn, 1) := by decide +kernel
set_option maxHeartbeats 4000000 in
set_option maxRecDepth 100000 in
theorem c_X0_strength (l : Launch) (E : gE) (g : Mem) (a : Nat) (ha : a < eK E) (pl co : Int32) (le ti : Nat) (hle : 0 < le) (hle2 : le ≤ 30) (hti : ti < 2 * le) (hg : g a = oB 0 [.int (pl), .int (co), .int (nI (le)), .int (nI (ti))]) (t : Nat) (ht : t ≤ 5000) : Mt l E yX0_strength cX0_strength 3 (some .int) 1 20 [rf E (a), .int (nI (t))] g (pI (fun r g' => r = nI (stN le ti t) ∧ g' = g)) := by
  refine mt_go (own := RX0) (by decide) rfl (lo := [some (rf E (a)), some (.int (nI (t))), none]) rfl (Nat.le_of_ble_eq_true rfl) (fun X hC => ?_)
  refine y_aload_n hC dX0_strength_0 (i := 0) rfl rfl ?_
  refine y_get hC fX0_19 dX0_strength_1 (k := a) ha hg rfl ?_
  refine y_iload_n hC dX0_strength_4 (i := 1) rfl rfl ?_
  refine y_iadd_n hC dX0_strength_5 ?_
  refine y_aload_n hC dX0_strength_6 (i := 0) rfl rfl ?_
  refine y_callV hC mX0_fullTicks kX0_22 dX0_strength_7 (b := a) (As := []) (rest := [.int (nI (ti + t))]) (c_X0_fullTicks l E _ a ha pl co le ti hle hle2 hti hg) ha hg rfl rfl rfl (Nat.le_of_ble_eq_true rfl) ⟨Nat.le_of_ble_eq_true rfl, Nat.le_of_ble_eq_true rfl⟩ (pk_i ?_)
  rintro r_7 g_7 ⟨hr_7, hq_7⟩
  obtain rfl := hq_7.symm
  rw [hr_7]
  clear hr_7 r_7
  refine y_irem_n hC dX0_strength_10 (by omega) (by omega) (by omega) ?_
  have hm : (ti + t) % (2 * le) < 2 * le := Nat.mod_lt _ (by omega)
  refine y_istore_n hC dX0_strength_11 (i := 2) rfl (Nat.le_of_ble_eq_true rfl) rfl (lo' := [some (rf E (a)), some (.int (nI (t))), some (.int (nI ((ti + t) % (2 * le))))]) rfl ?_
  refine y_iload_n hC dX0_strength_12 (i := 2) rfl rfl ?_
  refine y_aload_n hC dX0_strength_13 (i := 0) rfl rfl ?_
  refine y_get hC fX0_16 dX0_strength_14 (k := a) ha hg rfl ?_
  refine y_icmp_gt_n (tgt := 24) hC dX0_strength_17 (by decide) (by omega) (by omega) (fun c_17 => ?_) (fun c_17 => ?_)
  · refine y_aload_n hC dX0_strength_24 (i := 0) rfl rfl ?_
    refine y_callV hC mX0_fullTicks kX0_22 dX0_strength_25 (b := a) (As := []) (rest := []) (c_X0_fullTicks l E _ a ha pl co le ti hle hle2 hti hg) ha hg rfl rfl rfl (Nat.le_of_ble_eq_true rfl) ⟨Nat.le_of_ble_eq_true rfl, Nat.le_of_ble_eq_true rfl⟩ (pk_i ?_)
    rintro r_25 g_25 ⟨hr_25, hq_25⟩
    obtain rfl := hq_25.symm
    rw [hr_25]
    clear hr_25 r_25
    refine y_iload_n hC dX0_strength_28 (i := 2) rfl rfl ?_
    refine y_isub_n hC dX0_strength_29 (Nat.le_of_lt hm) ?_
    refine y_iret (hC := hC) (hd := dX0_strength_30) (hq := ?_)
    refine ⟨congrArg nI ?_, rfl⟩
    unfold stN
    split <;> omega
  · refine y_iload_n hC dX0_strength_20 (i := 2) rfl rfl ?_
    refine y_goto (tgt := 30) hC dX0_strength_21 (by decide) ?_
    refine y_iret (hC := hC) (hd := dX0_strength_30) (hq := ?_)
    refine ⟨congrArg nI ?_, rfl⟩
    unfold stN
    split <;> omega

theorem dX5_part_0 : decode cX5_part 0 = .ok (.iload_n 0, 1) := by decide +kernel
theorem dX5_part_1 : decode cX5_part 1 = .ok (.iload_n 1, 1) := by decide +kernel
theorem dX5_part_2 : decode cX5_part 2 = .ok (.ishr, 1) := by decide +kernel
theorem dX5_part_3 : decode cX5_part 3 = .ok (.bipush 63, 2) := by decide +kernel
theorem dX5_part_5 : decode cX5_part 5 = .ok (.iand, 1) := by decide +kernel
theorem dX5_part_6 : decode cX5_part 6 = .ok (.ireturn, 1) := by decide +kernel
set_option maxHeartbeats 4000000 in
set_option maxRecDepth 100000 in
theorem c_X5_part (l : Launch) (E : gE) (g : Mem) (c : Int32) (s : Nat) : Mt l E yX5_part cX5_part 2 (some .int) 0 0 [.int (c), .int (nI (s))] g (pI (fun r g' => r = cPart c s ∧ g' = g)) := by
  refine mt_go (own := RX5) (by decide) rfl (lo := [some (.int (c)), some (.int (nI (s)))]) rfl (Nat.le_of_ble_eq_true rfl) (fun X hC => ?_)
  refine y_iload_n hC dX5_part_0 (i := 0) rfl rfl ?_
  refine y_iload_n hC dX5_part_1 (i := 1) rfl rfl ?_
  refine y_ishr hC dX5_part_2 ?_
  refine y_bipush (v := nI 63) hC dX5_part_3 (by decide) ?_
  refine y_iand hC dX5_part_5 ?_
  refine y_iret (hC := hC) (hd := dX5_part_6) (hq := ?_)
  exact ⟨rfl, rfl⟩

theorem dX5_mixedPart_0 : decode cX5_mixedPart 0 = .ok (.iload_n 0, 1) := by decide +kernel
theorem dX5_mixedPart_1 : decode cX5_mixedPart 1 = .ok (.iload_n 1, 1) := by decide +kernel
theorem dX5_mixedPart_2 : decode cX5_mixedPart 2 = .ok (.iload_n 0, 1) := by decide +kernel
theorem dX5_mixedPart_3 : decode cX5_mixedPart 3 = .ok (.isub, 1) := by decide +kernel
theorem dX5_mixedPart_4 : decode cX5_mixedPart 4 = .ok (.iload_n 2, 1) := by decide +kernel
theorem dX5_mixedPart_5 : decode cX5_mixedPart 5 = .ok (.imul, 1) := by decide +kernel
theorem dX5_mixedPart_6 : decode cX5_mixedPart 6 = .ok (.iload_n 3, 1) := by decide +kernel
theorem dX5_mixedPart_7 : decode cX5_mixedPart 7 = .ok (.idiv, 1) := by decide +kernel
theorem dX5_mixedPart_8 : decode cX5_mixedPart 8 = .ok (.iadd, 1) := by decide +kernel
theorem dX5_mixedPart_9 : decode cX5_mixedPart 9 = .ok (.ireturn, 1) := by decide +kernel
set_option maxHeartbeats 4000000 in
set_option maxRecDepth 100000 in
theorem c_X5_mixedPart (l : Launch) (E : gE) (g : Mem) (x y k n : Int32) (hn : ¬ n = 0) : Mt l E yX5_mixedPart cX5_mixedPart 4 (some .int) 0 0 [.int (x), .int (y), .int (k), .int (n)] g (pI (fun r g' => r = cMix1 x y k n ∧ g' = g)) := by
  refine mt_go (own := RX5) (by decide) rfl (lo := [some (.int (x)), some (.int (y)), some (.int (k)), some (.int (n))]) rfl (Nat.le_of_ble_eq_true rfl) (fun X hC => ?_)
  refine y_iload_n hC dX5_mixedPart_0 (i := 0) rfl rfl ?_
  refine y_iload_n hC dX5_mixedPart_1 (i := 1) rfl rfl ?_
  refine y_iload_n hC dX5_mixedPart_2 (i := 0) rfl rfl ?_
  refine y_isub hC dX5_mixedPart_3 ?_
  refine y_iload_n hC dX5_mixedPart_4 (i := 2) rfl rfl ?_
  refine y_imul hC dX5_mixedPart_5 ?_
  refine y_iload_n hC dX5_mixedPart_6 (i := 3) rfl rfl ?_
  refine y_idiv hC dX5_mixedPart_7 (hn) ?_
  refine y_iadd hC dX5_mixedPart_8 ?_
  refine y_iret (hC := hC) (hd := dX5_mixedPart_9) (hq := ?_)
  exact ⟨rfl, rfl⟩

theorem dX5_mixed_0 : decode cX5_mixed 0 = .ok (.iload_n 0, 1) := by decide +kernel
theorem dX5_mixed_1 : decode cX5_mixed 1 = .ok (.bipush 12, 2) := by decide +kernel
theorem dX5_mixed_3 : decode cX5_mixed 3 = .ok (.invokestatic 265, 3) := by decide +kernel
theorem dX5_mixed_6 : decode cX5_mixed 6 = .ok (.iload_n 1, 1) := by decide +kernel
theorem dX5_mixed_7 : decode cX5_mixed 7 = .ok (.bipush 12, 2) := by decide +kernel
theorem dX5_mixed_9 : decode cX5_mixed 9 = .ok (.invokestatic 265, 3) := by decide +kernel
theorem dX5_mixed_12 : decode cX5_mixed 12 = .ok (.iload_n 2, 1) := by decide +kernel
theorem dX5_mixed_13 : decode cX5_mixed 13 = .ok (.iload_n 3, 1) := by decide +kernel
theorem dX5_mixed_14 : decode cX5_mixed 14 = .ok (.invokestatic 268, 3) := by decide +kernel
theorem dX5_mixed_17 : decode cX5_mixed 17 = .ok (.istore 4, 2) := by decide +kernel
theorem dX5_mixed_19 : decode cX5_mixed 19 = .ok (.iload_n 0, 1) := by decide +kernel
theorem dX5_mixed_20 : decode cX5_mixed 20 = .ok (.bipush 6, 2) := by decide +kernel
theorem dX5_mixed_22 : decode cX5_mixed 22 = .ok (.invokestatic 265, 3) := by decide +kernel
theorem dX5_mixed_25 : decode cX5_mixed 25 = .ok (.iload_n 1, 1) := by decide +kernel
theorem dX5_mixed_26 : decode cX5_mixed 26 = .ok (.bipush 6, 2) := by decide +kernel
theorem dX5_mixed_28 : decode cX5_mixed 28 = .ok (.invokestatic 265, 3) := by decide +kernel
theorem dX5_mixed_31 : decode cX5_mixed 31 = .ok (.iload_n 2, 1) := by decide +kernel
theorem dX5_mixed_32 : decode cX5_mixed 32 = .ok (.iload_n 3, 1) := by decide +kernel
theorem dX5_mixed_33 : decode cX5_mixed 33 = .ok (.invokestatic 268, 3) := by decide +kernel
theorem dX5_mixed_36 : decode cX5_mixed 36 = .ok (.istore 5, 2) := by decide +kernel
theorem dX5_mixed_38 : decode cX5_mixed 38 = .ok (.iload_n 0, 1) := by decide +kernel
theorem dX5_mixed_39 : decode cX5_mixed 39 = .ok (.iconst 0, 1) := by decide +kernel
theorem dX5_mixed_40 : decode cX5_mixed 40 = .ok (.invokestatic 265, 3) := by decide +kernel
theorem dX5_mixed_43 : decode cX5_mixed 43 = .ok (.iload_n 1, 1) := by decide +kernel
theorem dX5_mixed_44 : decode cX5_mixed 44 = .ok (.iconst 0, 1) := by decide +kernel
theorem dX5_mixed_45 : decode cX5_mixed 45 = .ok (.invokestatic 265, 3) := by decide +kernel
theorem dX5_mixed_48 : decode cX5_mixed 48 = .ok (.iload_n 2, 1) := by decide +kernel
theorem dX5_mixed_49 : decode cX5_mixed 49 = .ok (.iload_n 3, 1) := by decide +kernel
theorem dX5_mixed_50 : decode cX5_mixed 50 = .ok (.invokestatic 268, 3) := by decide +kernel
theorem dX5_mixed_53 : decode cX5_mixed 53 = .ok (.istore 6, 2) := by decide +kernel
theorem dX5_mixed_55 : decode cX5_mixed 55 = .ok (.iload 4, 2) := by decide +kernel
theorem dX5_mixed_57 : decode cX5_mixed 57 = .ok (.bipush 12, 2) := by decide +kernel
theorem dX5_mixed_59 : decode cX5_mixed 59 = .ok (.ishl, 1) := by decide +kernel
theorem dX5_mixed_60 : decode cX5_mixed 60 = .ok (.iload 5, 2) := by decide +kernel
theorem dX5_mixed_62 : decode cX5_mixed 62 = .ok (.bipush 6, 2) := by decide +kernel
theorem dX5_mixed_64 : decode cX5_mixed 64 = .ok (.ishl, 1) := by decide +kernel
theorem dX5_mixed_65 : decode cX5_mixed 65 = .ok (.iadd, 1) := by decide +kernel
theorem dX5_mixed_66 : decode cX5_mixed 66 = .ok (.iload 6, 2) := by decide +kernel
theorem dX5_mixed_68 : decode cX5_mixed 68 = .ok (.iadd, 1) := by decide +kernel
theorem dX5_mixed_69 : decode cX5_mixed 69 = .ok (.ireturn, 1) := by decide +kernel
set_option maxHeartbeats 4000000 in
set_option maxRecDepth 100000 in
theorem c_X5_mixed (l : Launch) (E : gE) (g : Mem) (x y k n : Int32) (hn : ¬ n = 0) : Mt l E yX5_mixed cX5_mixed 7 (some .int) 1 23 [.int (x), .int (y), .int (k), .int (n)] g (pI (fun r g' => r = cMix x y k n ∧ g' = g)) := by
  refine mt_go (own := RX5) (by decide) rfl (lo := [some (.int (x)), some (.int (y)), some (.int (k)), some (.int (n)), none, none, none]) rfl (Nat.le_of_ble_eq_true rfl) (fun X hC => ?_)
  refine y_iload_n hC dX5_mixed_0 (i := 0) rfl rfl ?_
  refine y_bipush (v := nI 12) hC dX5_mixed_1 (by decide) ?_
  refine y_callS hC mX5_part kX5_265 dX5_mixed_3 (As := [.int (x), .int (nI (12))]) (rest := []) (c_X5_part l E _ ((x)) 12) rfl rfl rfl (Nat.le_of_ble_eq_true rfl) ⟨Nat.le_of_ble_eq_true rfl, Nat.le_of_ble_eq_true rfl⟩ (pk_i ?_)
  rintro r_3 g_3 ⟨hr_3, hq_3⟩
  obtain rfl := hq_3.symm
  rw [hr_3]
  clear hr_3 r_3
  refine y_iload_n hC dX5_mixed_6 (i := 1) rfl rfl ?_
  refine y_bipush (v := nI 12) hC dX5_mixed_7 (by decide) ?_
  refine y_callS hC mX5_part kX5_265 dX5_mixed_9 (As := [.int (y), .int (nI (12))]) (rest := [.int (cPart (x) 12)]) (c_X5_part l E _ ((y)) 12) rfl rfl rfl (Nat.le_of_ble_eq_true rfl) ⟨Nat.le_of_ble_eq_true rfl, Nat.le_of_ble_eq_true rfl⟩ (pk_i ?_)
  rintro r_9 g_9 ⟨hr_9, hq_9⟩
  obtain rfl := hq_9.symm
  rw [hr_9]
  clear hr_9 r_9
  refine y_iload_n hC dX5_mixed_12 (i := 2) rfl rfl ?_
  refine y_iload_n hC dX5_mixed_13 (i := 3) rfl rfl ?_
  refine y_callS hC mX5_mixedPart kX5_268 dX5_mixed_14 (As := [.int (cPart (x) 12), .int (cPart (y) 12), .int (k), .int (n)]) (rest := []) (c_X5_mixedPart l E _ ((cPart (x) 12)) ((cPart (y) 12)) ((k)) ((n)) hn) rfl rfl rfl (Nat.le_of_ble_eq_true rfl) ⟨Nat.le_of_ble_eq_true rfl, Nat.le_of_ble_eq_true rfl⟩ (pk_i ?_)
  rintro r_14 g_14 ⟨hr_14, hq_14⟩
  obtain rfl := hq_14.symm
  rw [hr_14]
  clear hr_14 r_14
  refine y_istore hC dX5_mixed_17 (Nat.le_of_ble_eq_true rfl) rfl (lo' := [some (.int (x)), some (.int (y)), some (.int (k)), some (.int (n)), some (.int (cMix1 ((cPart (x) 12)) ((cPart (y) 12)) ((k)) ((n)))), none, none]) rfl ?_
  refine y_iload_n hC dX5_mixed_19 (i := 0) rfl rfl ?_
  refine y_bipush (v := nI 6) hC dX5_mixed_20 (by decide) ?_
  refine y_callS hC mX5_part kX5_265 dX5_mixed_22 (As := [.int (x), .int (nI (6))]) (rest := []) (c_X5_part l E _ ((x)) 6) rfl rfl rfl (Nat.le_of_ble_eq_true rfl) ⟨Nat.le_of_ble_eq_true rfl, Nat.le_of_ble_eq_true rfl⟩ (pk_i ?_)
  rintro r_22 g_22 ⟨hr_22, hq_22⟩
  obtain rfl := hq_22.symm
  rw [hr_22]
  clear hr_22 r_22
  refine y_iload_n hC dX5_mixed_25 (i := 1) rfl rfl ?_
  refine y_bipush (v := nI 6) hC dX5_mixed_26 (by decide) ?_
  refine y_callS hC mX5_part kX5_265 dX5_mixed_28 (As := [.int (y), .int (nI (6))]) (rest := [.int (cPart (x) 6)]) (c_X5_part l E _ ((y)) 6) rfl rfl rfl (Nat.le_of_ble_eq_true rfl) ⟨Nat.le_of_ble_eq_true rfl, Nat.le_of_ble_eq_true rfl⟩ (pk_i ?_)
  rintro r_28 g_28 ⟨hr_28, hq_28⟩
  obtain rfl := hq_28.symm
  rw [hr_28]
  clear hr_28 r_28
  refine y_iload_n hC dX5_mixed_31 (i := 2) rfl rfl ?_
  refine y_iload_n hC dX5_mixed_32 (i := 3) rfl rfl ?_
  refine y_callS hC mX5_mixedPart kX5_268 dX5_mixed_33 (As := [.int (cPart (x) 6), .int (cPart (y) 6), .int (k), .int (n)]) (rest := []) (c_X5_mixedPart l E _ ((cPart (x) 6)) ((cPart (y) 6)) ((k)) ((n)) hn) rfl rfl rfl (Nat.le_of_ble_eq_true rfl) ⟨Nat.le_of_ble_eq_true rfl, Nat.le_of_ble_eq_true rfl⟩ (pk_i ?_)
  rintro r_33 g_33 ⟨hr_33, hq_33⟩
  obtain rfl := hq_33.symm
  rw [hr_33]
  clear hr_33 r_33
  refine y_istore hC dX5_mixed_36 (Nat.le_of_ble_eq_true rfl) rfl (lo' := [some (.int (x)), some (.int (y)), some (.int (k)), some (.int (n)), some (.int (cMix1 ((cPart (x) 12)) ((cPart (y) 12)) ((k)) ((n)))), some (.int (cMix1 ((cPart (x) 6)) ((cPart (y) 6)) ((k)) ((n)))), none]) rfl ?_
  refine y_iload_n hC dX5_mixed_38 (i := 0) rfl rfl ?_
  refine y_iconst (v := nI 0) hC dX5_mixed_39 (by decide) ?_
  refine y_callS hC mX5_part kX5_265 dX5_mixed_40 (As := [.int (x), .int (nI (0))]) (rest := []) (c_X5_part l E _ ((x)) 0) rfl rfl rfl (Nat.le_of_ble_eq_true rfl) ⟨Nat.le_of_ble_eq_true rfl, Nat.le_of_ble_eq_true rfl⟩ (pk_i ?_)
  rintro r_40 g_40 ⟨hr_40, hq_40⟩
  obtain rfl := hq_40.symm
  rw [hr_40]
  clear hr_40 r_40
  refine y_iload_n hC dX5_mixed_43 (i := 1) rfl rfl ?_
  refine y_iconst (v := nI 0) hC dX5_mixed_44 (by decide) ?_
  refine y_callS hC mX5_part kX5_265 dX5_mixed_45 (As := [.int (y), .int (nI (0))]) (rest := [.int (cPart (x) 0)]) (c_X5_part l E _ ((y)) 0) rfl rfl rfl (Nat.le_of_ble_eq_true rfl) ⟨Nat.le_of_ble_eq_true rfl, Nat.le_of_ble_eq_true rfl⟩ (pk_i ?_)
  rintro r_45 g_45 ⟨hr_45, hq_45⟩
  obtain rfl := hq_45.symm
  rw [hr_45]
  clear hr_45 r_45
  refine y_iload_n hC dX5_mixed_48 (i := 2) rfl rfl ?_
  refine y_iload_n hC dX5_mixed_49 (i := 3) rfl rfl ?_
  refine y_callS hC mX5_mixedPart kX5_268 dX5_mixed_50 (As := [.int (cPart (x) 0), .int (cPart (y) 0), .int (k), .int (n)]) (rest := []) (c_X5_mixedPart l E _ ((cPart (x) 0)) ((cPart (y) 0)) ((k)) ((n)) hn) rfl rfl rfl (Nat.le_of_ble_eq_true rfl) ⟨Nat.le_of_ble_eq_true rfl, Nat.le_of_ble_eq_true rfl⟩ (pk_i ?_)
  rintro r_50 g_50 ⟨hr_50, hq_50⟩
  obtain rfl := hq_50.symm
  rw [hr_50]
  clear hr_50 r_50
  refine y_istore hC dX5_mixed_53 (Nat.le_of_ble_eq_true rfl) rfl (lo' := [some (.int (x)), some (.int (y)), some (.int (k)), some (.int (n)), some (.int (cMix1 ((cPart (x) 12)) ((cPart (y) 12)) ((k)) ((n)))), some (.int (cMix1 ((cPart (x) 6)) ((cPart (y) 6)) ((k)) ((n)))), some (.int (cMix1 ((cPart (x) 0)) ((cPart (y) 0)) ((k)) ((n))))]) rfl ?_
  refine y_iload hC dX5_mixed_55 rfl ?_
  refine y_bipush (v := nI 12) hC dX5_mixed_57 (by decide) ?_
  refine y_ishl hC dX5_mixed_59 ?_
  refine y_iload hC dX5_mixed_60 rfl ?_
  refine y_bipush (v := nI 6) hC dX5_mixed_62 (by decide) ?_
  refine y_ishl hC dX5_mixed_64 ?_
  refine y_iadd hC dX5_mixed_65 ?_
  refine y_iload hC dX5_mixed_66 rfl ?_
  refine y_iadd hC dX5_mixed_68 ?_
  refine y_iret (hC := hC) (hd := dX5_mixed_69) (hq := ?_)
  exact ⟨rfl, rfl⟩

theorem dX5_distance_0 : decode cX5_distance 0 = .ok (.iload_n 0, 1) := by decide +kernel
theorem dX5_distance_1 : decode cX5_distance 1 = .ok (.bipush 12, 2) := by decide +kernel
theorem dX5_distance_3 : decode cX5_distance 3 = .ok (.invokestatic 265, 3) := by decide +kernel
theorem dX5_distance_6 : decode cX5_distance 6 = .ok (.iload_n 1, 1) := by decide +kernel
theorem dX5_distance_7 : decode cX5_distance 7 = .ok (.bipush 12, 2) := by decide +kernel
theorem dX5_distance_9 : decode cX5_distance 9 = .ok (.invokestatic 265, 3) := by decide +kernel
theorem dX5_distance_12 : decode cX5_distance 12 = .ok (.isub, 1) := by decide +kernel
theorem dX5_distance_13 : decode cX5_distance 13 = .ok (.istore_n 2, 1) := by decide +kernel
theorem dX5_distance_14 : decode cX5_distance 14 = .ok (.iload_n 0, 1) := by decide +kernel
theorem dX5_distance_15 : decode cX5_distance 15 = .ok (.bipush 6, 2) := by decide +kernel
theorem dX5_distance_17 : decode cX5_distance 17 = .ok (.invokestatic 265, 3) := by decide +kernel
theorem dX5_distance_20 : decode cX5_distance 20 = .ok (.iload_n 1, 1) := by decide +kernel
theorem dX5_distance_21 : decode cX5_distance 21 = .ok (.bipush 6, 2) := by decide +kernel
theorem dX5_distance_23 : decode cX5_distance 23 = .ok (.invokestatic 265, 3) := by decide +kernel
theorem dX5_distance_26 : decode cX5_distance 26 = .ok (.isub, 1) := by decide +kernel
theorem dX5_distance_27 : decode cX5_distance 27 = .ok (.istore_n 3, 1) := by decide +kernel
theorem dX5_distance_28 : decode cX5_distance 28 = .ok (.iload_n 0, 1) := by decide +kernel
theorem dX5_distance_29 : decode cX5_distance 29 = .ok (.iconst 0, 1) := by decide +kernel
theorem dX5_distance_30 : decode cX5_distance 30 = .ok (.invokestatic 265, 3) := by decide +kernel
theorem dX5_distance_33 : decode cX5_distance 33 = .ok (.iload_n 1, 1) := by decide +kernel
theorem dX5_distance_34 : decode cX5_distance 34 = .ok (.iconst 0, 1) := by decide +kernel
theorem dX5_distance_35 : decode cX5_distance 35 = .ok (.invokestatic 265, 3) := by decide +kernel
theorem dX5_distance_38 : decode cX5_distance 38 = .ok (.isub, 1) := by decide +kernel
theorem dX5_distance_39 : decode cX5_distance 39 = .ok (.istore 4, 2) := by decide +kernel
theorem dX5_distance_41 : decode cX5_distance 41 = .ok (.iload_n 2, 1) := by decide +kernel
theorem dX5_distance_42 : decode cX5_distance 42 = .ok (.iload_n 2, 1) := by decide +kernel
theorem dX5_distance_43 : decode cX5_distance 43 = .ok (.imul, 1) := by decide +kernel
theorem dX5_distance_44 : decode cX5_distance 44 = .ok (.iload_n 3, 1) := by decide +kernel
theorem dX5_distance_45 : decode cX5_distance 45 = .ok (.iload_n 3, 1) := by decide +kernel
theorem dX5_distance_46 : decode cX5_distance 46 = .ok (.imul, 1) := by decide +kernel
theorem dX5_distance_47 : decode cX5_distance 47 = .ok (.iadd, 1) := by decide +kernel
theorem dX5_distance_48 : decode cX5_distance 48 = .ok (.iload 4, 2) := by decide +kernel
theorem dX5_distance_50 : decode cX5_distance 50 = .ok (.iload 4, 2) := by decide +kernel
theorem dX5_distance_52 : decode cX5_distance 52 = .ok (.imul, 1) := by decide +kernel
theorem dX5_distance_53 : decode cX5_distance 53 = .ok (.iadd, 1) := by decide +kernel
theorem dX5_distance_54 : decode cX5_distance 54 = .ok (.ireturn, 1) := by decide +kernel
set_option maxHeartbeats 4000000 in
set_option maxRecDepth 100000 in
theorem c_X5_distance (l : Launch) (E : gE) (g : Mem) (x y : Int32) : Mt l E yX5_distance cX5_distance 5 (some .int) 1 21 [.int (x), .int (y)] g (pI (fun r g' => r = cDist x y ∧ g' = g)) := by
  refine mt_go (own := RX5) (by decide) rfl (lo := [some (.int (x)), some (.int (y)), none, none, none]) rfl (Nat.le_of_ble_eq_true rfl) (fun X hC => ?_)
  refine y_iload_n hC dX5_distance_0 (i := 0) rfl rfl ?_
  refine y_bipush (v := nI 12) hC dX5_distance_1 (by decide) ?_
  refine y_callS hC mX5_part kX5_265 dX5_distance_3 (As := [.int (x), .int (nI (12))]) (rest := []) (c_X5_part l E _ ((x)) 12) rfl rfl rfl (Nat.le_of_ble_eq_true rfl) ⟨Nat.le_of_ble_eq_true rfl, Nat.le_of_ble_eq_true rfl⟩ (pk_i ?_)
  rintro r_3 g_3 ⟨hr_3, hq_3⟩
  obtain rfl := hq_3.symm
  rw [hr_3]
  clear hr_3 r_3
  refine y_iload_n hC dX5_distance_6 (i := 1) rfl rfl ?_
  refine y_bipush (v := nI 12) hC dX5_distance_7 (by decide) ?_
  refine y_callS hC mX5_part kX5_265 dX5_distance_9 (As := [.int (y), .int (nI (12))]) (rest := [.int (cPart (x) 12)]) (c_X5_part l E _ ((y)) 12) rfl rfl rfl (Nat.le_of_ble_eq_true rfl) ⟨Nat.le_of_ble_eq_true rfl, Nat.le_of_ble_eq_true rfl⟩ (pk_i ?_)
  rintro r_9 g_9 ⟨hr_9, hq_9⟩
  obtain rfl := hq_9.symm
  rw [hr_9]
  clear hr_9 r_9
  refine y_isub hC dX5_distance_12 ?_
  refine y_istore_n hC dX5_distance_13 (i := 2) rfl (Nat.le_of_ble_eq_true rfl) rfl (lo' := [some (.int (x)), some (.int (y)), some (.int ((cPart (x) 12) - (cPart (y) 12))), none, none]) rfl ?_
  refine y_iload_n hC dX5_distance_14 (i := 0) rfl rfl ?_
  refine y_bipush (v := nI 6) hC dX5_distance_15 (by decide) ?_
  refine y_callS hC mX5_part kX5_265 dX5_distance_17 (As := [.int (x), .int (nI (6))]) (rest := []) (c_X5_part l E _ ((x)) 6) rfl rfl rfl (Nat.le_of_ble_eq_true rfl) ⟨Nat.le_of_ble_eq_true rfl, Nat.le_of_ble_eq_true rfl⟩ (pk_i ?_)
  rintro r_17 g_17 ⟨hr_17, hq_17⟩
  obtain rfl := hq_17.symm
  rw [hr_17]
  clear hr_17 r_17
  refine y_iload_n hC dX5_distance_20 (i := 1) rfl rfl ?_
  refine y_bipush (v := nI 6) hC dX5_distance_21 (by decide) ?_
  refine y_callS hC mX5_part kX5_265 dX5_distance_23 (As := [.int (y), .int (nI (6))]) (rest := [.int (cPart (x) 6)]) (c_X5_part l E _ ((y)) 6) rfl rfl rfl (Nat.le_of_ble_eq_true rfl) ⟨Nat.le_of_ble_eq_true rfl, Nat.le_of_ble_eq_true rfl⟩ (pk_i ?_)
  rintro r_23 g_23 ⟨hr_23, hq_23⟩
  obtain rfl := hq_23.symm
  rw [hr_23]
  clear hr_23 r_23
  refine y_isub hC dX5_distance_26 ?_
  refine y_istore_n hC dX5_distance_27 (i := 3) rfl (Nat.le_of_ble_eq_true rfl) rfl (lo' := [some (.int (x)), some (.int (y)), some (.int ((cPart (x) 12) - (cPart (y) 12))), some (.int ((cPart (x) 6) - (cPart (y) 6))), none]) rfl ?_
  refine y_iload_n hC dX5_distance_28 (i := 0) rfl rfl ?_
  refine y_iconst (v := nI 0) hC dX5_distance_29 (by decide) ?_
  refine y_callS hC mX5_part kX5_265 dX5_distance_30 (As := [.int (x), .int (nI (0))]) (rest := []) (c_X5_part l E _ ((x)) 0) rfl rfl rfl (Nat.le_of_ble_eq_true rfl) ⟨Nat.le_of_ble_eq_true rfl, Nat.le_of_ble_eq_true rfl⟩ (pk_i ?_)
  rintro r_30 g_30 ⟨hr_30, hq_30⟩
  obtain rfl := hq_30.symm
  rw [hr_30]
  clear hr_30 r_30
  refine y_iload_n hC dX5_distance_33 (i := 1) rfl rfl ?_
  refine y_iconst (v := nI 0) hC dX5_distance_34 (by decide) ?_
  refine y_callS hC mX5_part kX5_265 dX5_distance_35 (As := [.int (y), .int (nI (0))]) (rest := [.int (cPart (x) 0)]) (c_X5_part l E _ ((y)) 0) rfl rfl rfl (Nat.le_of_ble_eq_true rfl) ⟨Nat.le_of_ble_eq_true rfl, Nat.le_of_ble_eq_true rfl⟩ (pk_i ?_)
  rintro r_35 g_35 ⟨hr_35, hq_35⟩
  obtain rfl := hq_35.symm
  rw [hr_35]
  clear hr_35 r_35
  refine y_isub hC dX5_distance_38 ?_
  refine y_istore hC dX5_distance_39 (Nat.le_of_ble_eq_true rfl) rfl (lo' := [some (.int (x)), some (.int (y)), some (.int ((cPart (x) 12) - (cPart (y) 12))), some (.int ((cPart (x) 6) - (cPart (y) 6))), some (.int ((cPart (x) 0) - (cPart (y) 0)))]) rfl ?_
  refine y_iload_n hC dX5_distance_41 (i := 2) rfl rfl ?_
  refine y_iload_n hC dX5_distance_42 (i := 2) rfl rfl ?_
  refine y_imul hC dX5_distance_43 ?_
  refine y_iload_n hC dX5_distance_44 (i := 3) rfl rfl ?_
  refine y_iload_n hC dX5_distance_45 (i := 3) rfl rfl ?_
  refine y_imul hC dX5_distance_46 ?_
  refine y_iadd hC dX5_distance_47 ?_
  refine y_iload hC dX5_distance_48 rfl ?_
  refine y_iload hC dX5_distance_50 rfl ?_
  refine y_imul hC dX5_distance_52 ?_
  refine y_iadd hC dX5_distance_53 ?_
  refine y_iret (hC := hC) (hd := dX5_distance_54) (hq := ?_)
  exact ⟨rfl, rfl⟩

theorem dX0_shade_0 : decode cX0_shade 0 = .ok (.iload_n 1, 1) := by decide +kernel
theorem dX0_shade_1 : decode cX0_shade 1 = .ok (.aload_n 0, 1) := by decide +kernel
theorem dX0_shade_2 : decode cX0_shade 2 = .ok (.getfield 13, 3) := by decide +kernel
theorem dX0_shade_5 : decode cX0_shade 5 = .ok (.aload_n 0, 1) := by decide +kernel
theorem dX0_shade_6 : decode cX0_shade 6 = .ok (.iload_n 2, 1) := by decide +kernel
theorem dX0_shade_7 : decode cX0_shade 7 = .ok (.invokevirtual 26, 3) := by decide +kernel
theorem dX0_shade_10 : decode cX0_shade 10 = .ok (.aload_n 0, 1) := by decide +kernel
theorem dX0_shade_11 : decode cX0_shade 11 = .ok (.getfield 16, 3) := by decide +kernel
theorem dX0_shade_14 : decode cX0_shade 14 = .ok (.invokestatic 30, 3) := by decide +kernel
theorem dX0_shade_17 : decode cX0_shade 17 = .ok (.ireturn, 1) := by decide +kernel
set_option maxHeartbeats 4000000 in
set_option maxRecDepth 100000 in
theorem c_X0_shade (l : Launch) (E : gE) (g : Mem) (a : Nat) (ha : a < eK E) (pl co : Int32) (le ti : Nat) (hle : 0 < le) (hle2 : le ≤ 30) (hti : ti < 2 * le) (hg : g a = oB 0 [.int (pl), .int (co), .int (nI (le)), .int (nI (ti))]) (u : Int32) (t : Nat) (ht : t ≤ 5000) : Mt l E yX0_shade cX0_shade 3 (some .int) 2 49 [rf E (a), .int (u), .int (nI (t))] g (pI (fun r g' => r = cMix u co (nI (stN le ti t)) (nI le) ∧ g' = g)) := by
  refine mt_go (own := RX0) (by decide) rfl (lo := [some (rf E (a)), some (.int (u)), some (.int (nI (t)))]) rfl (Nat.le_of_ble_eq_true rfl) (fun X hC => ?_)
  refine y_iload_n hC dX0_shade_0 (i := 1) rfl rfl ?_
  refine y_aload_n hC dX0_shade_1 (i := 0) rfl rfl ?_
  refine y_get hC fX0_13 dX0_shade_2 (k := a) ha hg rfl ?_
  refine y_aload_n hC dX0_shade_5 (i := 0) rfl rfl ?_
  refine y_iload_n hC dX0_shade_6 (i := 2) rfl rfl ?_
  refine y_callV hC mX0_strength kX0_26 dX0_shade_7 (b := a) (As := [.int (nI (t))]) (rest := [.int (co), .int (u)]) (c_X0_strength l E _ a ha pl co le ti hle hle2 hti hg t ht) ha hg rfl rfl rfl (Nat.le_of_ble_eq_true rfl) ⟨Nat.le_of_ble_eq_true rfl, Nat.le_of_ble_eq_true rfl⟩ (pk_i ?_)
  rintro r_7 g_7 ⟨hr_7, hq_7⟩
  obtain rfl := hq_7.symm
  rw [hr_7]
  clear hr_7 r_7
  refine y_aload_n hC dX0_shade_10 (i := 0) rfl rfl ?_
  refine y_get hC fX0_16 dX0_shade_11 (k := a) ha hg rfl ?_
  refine y_callSN hC mX5_mixed (fun h => h) dX0_shade_14 (As := [.int (u), .int (co), .int (nI (stN le ti t)), .int (nI (le))]) (rest := []) (c_X5_mixed l E _ ((u)) ((co)) (nI (stN le ti t)) (nI (le)) (nI_ne0 hle (by omega))) rfl rfl rfl (Nat.le_of_ble_eq_true rfl) ⟨Nat.le_of_ble_eq_true rfl, Nat.le_of_ble_eq_true rfl⟩ (pk_i ?_)
  rintro r_14 g_14 ⟨hr_14, hq_14⟩
  obtain rfl := hq_14.symm
  rw [hr_14]
  clear hr_14 r_14
  refine y_iret (hC := hC) (hd := dX0_shade_17) (hq := ?_)
  exact ⟨rfl, rfl⟩

theorem dX3_beginAgain_0 : decode cX3_beginAgain 0 = .ok (.aload_n 0, 1) := by decide +kernel
theorem dX3_beginAgain_1 : decode cX3_beginAgain 1 = .ok (.iconst 0, 1) := by decide +kernel
theorem dX3_beginAgain_2 : decode cX3_beginAgain 2 = .ok (.putfield 28, 3) := by decide +kernel
theorem dX3_beginAgain_5 : decode cX3_beginAgain 5 = .ok (.aload_n 0, 1) := by decide +kernel
theorem dX3_beginAgain_6 : decode cX3_beginAgain 6 = .ok (.iconst 0, 1) := by decide +kernel
theorem dX3_beginAgain_7 : decode cX3_beginAgain 7 = .ok (.putfield 31, 3) := by decide +kernel
theorem dX3_beginAgain_10 : decode cX3_beginAgain 10 = .ok (.return_, 1) := by decide +kernel
set_option maxHeartbeats 4000000 in
set_option maxRecDepth 100000 in
theorem c_X3_beginAgain (l : Launch) (E : gE) (g : Mem) (a : Nat) (ha : a < eK E) (f la sp wy ru ti st : Int32) (hg : g a = oB 3 [.int (f), .int (la), .int (sp), .int (wy), .int (ru), .int (ti), .int (st)]) : Mt l E yX3_beginAgain cX3_beginAgain 1 none 0 0 [rf E (a)] g (pV (fun g' => g' = va_up g a (oB 3 [.int (f), .int (la), .int (sp), .int (wy), .int (ru), .int (nI (0)), .int (nI (0))]))) := by
  refine mt_go (own := RX3) (by decide) rfl (lo := [some (rf E (a))]) rfl (Nat.le_of_ble_eq_true rfl) (fun X hC => ?_)
  refine y_aload_n hC dX3_beginAgain_0 (i := 0) rfl rfl ?_
  refine y_iconst (v := nI 0) hC dX3_beginAgain_1 (by decide) ?_
  refine y_put hC fpX3_28 dX3_beginAgain_2 (k := a) ha hg (Nat.le_of_ble_eq_true rfl) (rfl) (rfl) (fs' := [.int (f), .int (la), .int (sp), .int (wy), .int (ru), .int (nI (0)), .int (st)]) rfl ?_
  refine y_aload_n hC dX3_beginAgain_5 (i := 0) rfl rfl ?_
  refine y_iconst (v := nI 0) hC dX3_beginAgain_6 (by decide) ?_
  refine y_put hC fpX3_31 dX3_beginAgain_7 (k := a) ha (va_up_self _ _ _) (Nat.le_of_ble_eq_true rfl) (rfl) (rfl) (fs' := [.int (f), .int (la), .int (sp), .int (wy), .int (ru), .int (nI (0)), .int (nI (0))]) rfl ?_
  refine y_mem (zup_up _ _ _ _) ?_
  refine y_vret (hC := hC) (hd := dX3_beginAgain_10) (hq := ?_)
  rfl

theorem dX3_changeSpeed_0 : decode cX3_changeSpeed 0 = .ok (.aload_n 0, 1) := by decide +kernel
theorem dX3_changeSpeed_1 : decode cX3_changeSpeed 1 = .ok (.iload_n 1, 1) := by decide +kernel
theorem dX3_changeSpeed_2 : decode cX3_changeSpeed 2 = .ok (.putfield 18, 3) := by decide +kernel
theorem dX3_changeSpeed_5 : decode cX3_changeSpeed 5 = .ok (.aload_n 0, 1) := by decide +kernel
theorem dX3_changeSpeed_6 : decode cX3_changeSpeed 6 = .ok (.iload_n 2, 1) := by decide +kernel
theorem dX3_changeSpeed_7 : decode cX3_changeSpeed 7 = .ok (.putfield 21, 3) := by decide +kernel
theorem dX3_changeSpeed_10 : decode cX3_changeSpeed 10 = .ok (.aload_n 0, 1) := by decide +kernel
theorem dX3_changeSpeed_11 : decode cX3_changeSpeed 11 = .ok (.invokevirtual 38, 3) := by decide +kernel
theorem dX3_changeSpeed_14 : decode cX3_changeSpeed 14 = .ok (.return_, 1) := by decide +kernel
set_option maxHeartbeats 4000000 in
set_option maxRecDepth 100000 in
theorem c_X3_changeSpeed (l : Launch) (E : gE) (g : Mem) (a : Nat) (ha : a < eK E) (f la sp wy ru ti st : Int32) (hg : g a = oB 3 [.int (f), .int (la), .int (sp), .int (wy), .int (ru), .int (ti), .int (st)]) (s w : Int32) : Mt l E yX3_changeSpeed cX3_changeSpeed 3 none 1 20 [rf E (a), .int (s), .int (w)] g (pV (fun g' => g' = va_up g a (oB 3 [.int (f), .int (la), .int (s), .int (w), .int (ru), .int (nI (0)), .int (nI (0))]))) := by
  refine mt_go (own := RX3) (by decide) rfl (lo := [some (rf E (a)), some (.int (s)), some (.int (w))]) rfl (Nat.le_of_ble_eq_true rfl) (fun X hC => ?_)
  refine y_aload_n hC dX3_changeSpeed_0 (i := 0) rfl rfl ?_
  refine y_iload_n hC dX3_changeSpeed_1 (i := 1) rfl rfl ?_
  refine y_put hC fpX3_18 dX3_changeSpeed_2 (k := a) ha hg (Nat.le_of_ble_eq_true rfl) (rfl) (rfl) (fs' := [.int (f), .int (la), .int (s), .int (wy), .int (ru), .int (ti), .int (st)]) rfl ?_
  refine y_aload_n hC dX3_changeSpeed_5 (i := 0) rfl rfl ?_
  refine y_iload_n hC dX3_changeSpeed_6 (i := 2) rfl rfl ?_
  refine y_put hC fpX3_21 dX3_changeSpeed_7 (k := a) ha (va_up_self _ _ _) (Nat.le_of_ble_eq_true rfl) (rfl) (rfl) (fs' := [.int (f), .int (la), .int (s), .int (w), .int (ru), .int (ti), .int (st)]) rfl ?_
  refine y_mem (zup_up _ _ _ _) ?_
  refine y_aload_n hC dX3_changeSpeed_10 (i := 0) rfl rfl ?_
  refine y_callV hC mX3_beginAgain kX3_38 dX3_changeSpeed_11 (b := a) (As := []) (rest := []) (c_X3_beginAgain l E _ a ha ((f)) ((la)) ((s)) ((w)) ((ru)) ((ti)) ((st)) (va_up_self _ _ _)) ha (va_up_self _ _ _) rfl rfl rfl (Nat.le_of_ble_eq_true rfl) ⟨Nat.le_of_ble_eq_true rfl, Nat.le_of_ble_eq_true rfl⟩ (pk_v ?_)
  rintro g_11 rfl
  rw [zup_up]
  refine y_vret (hC := hC) (hd := dX3_changeSpeed_14) (hq := ?_)
  rfl

theorem dX3_begin_0 : decode cX3_begin 0 = .ok (.aload_n 0, 1) := by decide +kernel
theorem dX3_begin_1 : decode cX3_begin 1 = .ok (.iload_n 1, 1) := by decide +kernel
theorem dX3_begin_2 : decode cX3_begin 2 = .ok (.putfield 9, 3) := by decide +kernel
theorem dX3_begin_5 : decode cX3_begin 5 = .ok (.aload_n 0, 1) := by decide +kernel
theorem dX3_begin_6 : decode cX3_begin 6 = .ok (.iload_n 2, 1) := by decide +kernel
theorem dX3_begin_7 : decode cX3_begin 7 = .ok (.putfield 15, 3) := by decide +kernel
theorem dX3_begin_10 : decode cX3_begin 10 = .ok (.aload_n 0, 1) := by decide +kernel
theorem dX3_begin_11 : decode cX3_begin 11 = .ok (.iconst 1, 1) := by decide +kernel
theorem dX3_begin_12 : decode cX3_begin 12 = .ok (.putfield 24, 3) := by decide +kernel
theorem dX3_begin_15 : decode cX3_begin 15 = .ok (.aload_n 0, 1) := by decide +kernel
theorem dX3_begin_16 : decode cX3_begin 16 = .ok (.iload_n 3, 1) := by decide +kernel
theorem dX3_begin_17 : decode cX3_begin 17 = .ok (.iload 4, 2) := by decide +kernel
theorem dX3_begin_19 : decode cX3_begin 19 = .ok (.invokevirtual 34, 3) := by decide +kernel
theorem dX3_begin_22 : decode cX3_begin 22 = .ok (.return_, 1) := by decide +kernel
set_option maxHeartbeats 4000000 in
set_option maxRecDepth 100000 in
theorem c_X3_begin (l : Launch) (E : gE) (g : Mem) (a : Nat) (ha : a < eK E) (f la sp wy ru ti st : Int32) (hg : g a = oB 3 [.int (f), .int (la), .int (sp), .int (wy), .int (ru), .int (ti), .int (st)]) (p q s w : Int32) : Mt l E yX3_begin cX3_begin 5 none 2 42 [rf E (a), .int (p), .int (q), .int (s), .int (w)] g (pV (fun g' => g' = va_up g a (oB 3 [.int (p), .int (q), .int (s), .int (w), .int (nI (1)), .int (nI (0)), .int (nI (0))]))) := by
  refine mt_go (own := RX3) (by decide) rfl (lo := [some (rf E (a)), some (.int (p)), some (.int (q)), some (.int (s)), some (.int (w))]) rfl (Nat.le_of_ble_eq_true rfl) (fun X hC => ?_)
  refine y_aload_n hC dX3_begin_0 (i := 0) rfl rfl ?_
  refine y_iload_n hC dX3_begin_1 (i := 1) rfl rfl ?_
  refine y_put hC fpX3_9 dX3_begin_2 (k := a) ha hg (Nat.le_of_ble_eq_true rfl) (rfl) (rfl) (fs' := [.int (p), .int (la), .int (sp), .int (wy), .int (ru), .int (ti), .int (st)]) rfl ?_
  refine y_aload_n hC dX3_begin_5 (i := 0) rfl rfl ?_
  refine y_iload_n hC dX3_begin_6 (i := 2) rfl rfl ?_
  refine y_put hC fpX3_15 dX3_begin_7 (k := a) ha (va_up_self _ _ _) (Nat.le_of_ble_eq_true rfl) (rfl) (rfl) (fs' := [.int (p), .int (q), .int (sp), .int (wy), .int (ru), .int (ti), .int (st)]) rfl ?_
  refine y_mem (zup_up _ _ _ _) ?_
  refine y_aload_n hC dX3_begin_10 (i := 0) rfl rfl ?_
  refine y_iconst (v := nI 1) hC dX3_begin_11 (by decide) ?_
  refine y_put hC fpX3_24 dX3_begin_12 (k := a) ha (va_up_self _ _ _) (Nat.le_of_ble_eq_true rfl) (rfl) (rfl) (fs' := [.int (p), .int (q), .int (sp), .int (wy), .int (nI (1)), .int (ti), .int (st)]) rfl ?_
  refine y_mem (zup_up _ _ _ _) ?_
  refine y_aload_n hC dX3_begin_15 (i := 0) rfl rfl ?_
  refine y_iload_n hC dX3_begin_16 (i := 3) rfl rfl ?_
  refine y_iload hC dX3_begin_17 rfl ?_
  refine y_callV hC mX3_changeSpeed kX3_34 dX3_begin_19 (b := a) (As := [.int (s), .int (w)]) (rest := []) (c_X3_changeSpeed l E _ a ha ((p)) ((q)) ((sp)) ((wy)) (nI (1)) ((ti)) ((st)) (va_up_self _ _ _) ((s)) ((w))) ha (va_up_self _ _ _) rfl rfl rfl (Nat.le_of_ble_eq_true rfl) ⟨Nat.le_of_ble_eq_true rfl, Nat.le_of_ble_eq_true rfl⟩ (pk_v ?_)
  rintro g_19 rfl
  rw [zup_up]
  refine y_vret (hC := hC) (hd := dX3_begin_22) (hq := ?_)
  rfl

theorem dX3_copy_0 : decode cX3_copy 0 = .ok (.aload_n 0, 1) := by decide +kernel
theorem dX3_copy_1 : decode cX3_copy 1 = .ok (.aload_n 1, 1) := by decide +kernel
theorem dX3_copy_2 : decode cX3_copy 2 = .ok (.getfield 9, 3) := by decide +kernel
theorem dX3_copy_5 : decode cX3_copy 5 = .ok (.putfield 9, 3) := by decide +kernel
theorem dX3_copy_8 : decode cX3_copy 8 = .ok (.aload_n 0, 1) := by decide +kernel
theorem dX3_copy_9 : decode cX3_copy 9 = .ok (.aload_n 1, 1) := by decide +kernel
theorem dX3_copy_10 : decode cX3_copy 10 = .ok (.getfield 15, 3) := by decide +kernel
theorem dX3_copy_13 : decode cX3_copy 13 = .ok (.putfield 15, 3) := by decide +kernel
theorem dX3_copy_16 : decode cX3_copy 16 = .ok (.aload_n 0, 1) := by decide +kernel
theorem dX3_copy_17 : decode cX3_copy 17 = .ok (.aload_n 1, 1) := by decide +kernel
theorem dX3_copy_18 : decode cX3_copy 18 = .ok (.getfield 18, 3) := by decide +kernel
theorem dX3_copy_21 : decode cX3_copy 21 = .ok (.putfield 18, 3) := by decide +kernel
theorem dX3_copy_24 : decode cX3_copy 24 = .ok (.aload_n 0, 1) := by decide +kernel
theorem dX3_copy_25 : decode cX3_copy 25 = .ok (.aload_n 1, 1) := by decide +kernel
theorem dX3_copy_26 : decode cX3_copy 26 = .ok (.getfield 21, 3) := by decide +kernel
theorem dX3_copy_29 : decode cX3_copy 29 = .ok (.putfield 21, 3) := by decide +kernel
theorem dX3_copy_32 : decode cX3_copy 32 = .ok (.aload_n 0, 1) := by decide +kernel
theorem dX3_copy_33 : decode cX3_copy 33 = .ok (.aload_n 1, 1) := by decide +kernel
theorem dX3_copy_34 : decode cX3_copy 34 = .ok (.getfield 24, 3) := by decide +kernel
theorem dX3_copy_37 : decode cX3_copy 37 = .ok (.putfield 24, 3) := by decide +kernel
theorem dX3_copy_40 : decode cX3_copy 40 = .ok (.aload_n 0, 1) := by decide +kernel
theorem dX3_copy_41 : decode cX3_copy 41 = .ok (.aload_n 1, 1) := by decide +kernel
theorem dX3_copy_42 : decode cX3_copy 42 = .ok (.getfield 28, 3) := by decide +kernel
theorem dX3_copy_45 : decode cX3_copy 45 = .ok (.putfield 28, 3) := by decide +kernel
theorem dX3_copy_48 : decode cX3_copy 48 = .ok (.aload_n 0, 1) := by decide +kernel
theorem dX3_copy_49 : decode cX3_copy 49 = .ok (.aload_n 1, 1) := by decide +kernel
theorem dX3_copy_50 : decode cX3_copy 50 = .ok (.getfield 31, 3) := by decide +kernel
theorem dX3_copy_53 : decode cX3_copy 53 = .ok (.putfield 31, 3) := by decide +kernel
theorem dX3_copy_56 : decode cX3_copy 56 = .ok (.return_, 1) := by decide +kernel
set_option maxHeartbeats 4000000 in
set_option maxRecDepth 100000 in
theorem c_X3_copy (l : Launch) (E : gE) (g : Mem) (a : Nat) (ha : a < eK E) (f la sp wy ru ti st : Int32) (hg : g a = oB 3 [.int (f), .int (la), .int (sp), .int (wy), .int (ru), .int (ti), .int (st)]) (b : Nat) (hb : b < eK E) (hba : b ≠ a) (b0 b1 b2 b3 b4 b5 b6 : Int32) (hbz : b4 = 0 ∨ b4 = 1) (hgb : g b = oB 3 [.int (b0), .int (b1), .int (b2), .int (b3), .int (b4), .int (b5), .int (b6)]) : Mt l E yX3_copy cX3_copy 2 none 0 0 [rf E (a), rf E (b)] g (pV (fun g' => g' = va_up g a (oB 3 [.int (b0), .int (b1), .int (b2), .int (b3), .int (b4), .int (b5), .int (b6)]))) := by
  refine mt_go (own := RX3) (by decide) rfl (lo := [some (rf E (a)), some (rf E (b))]) rfl (Nat.le_of_ble_eq_true rfl) (fun X hC => ?_)
  refine y_aload_n hC dX3_copy_0 (i := 0) rfl rfl ?_
  refine y_aload_n hC dX3_copy_1 (i := 1) rfl rfl ?_
  refine y_get hC fX3_9 dX3_copy_2 (k := b) hb hgb rfl ?_
  refine y_put hC fpX3_9 dX3_copy_5 (k := a) ha hg (Nat.le_of_ble_eq_true rfl) (rfl) (rfl) (fs' := [.int (b0), .int (la), .int (sp), .int (wy), .int (ru), .int (ti), .int (st)]) rfl ?_
  refine y_aload_n hC dX3_copy_8 (i := 0) rfl rfl ?_
  refine y_aload_n hC dX3_copy_9 (i := 1) rfl rfl ?_
  refine y_get hC fX3_15 dX3_copy_10 (k := b) hb ((va_up_ne _ _ (hba)).trans hgb) rfl ?_
  refine y_put hC fpX3_15 dX3_copy_13 (k := a) ha (va_up_self _ _ _) (Nat.le_of_ble_eq_true rfl) (rfl) (rfl) (fs' := [.int (b0), .int (b1), .int (sp), .int (wy), .int (ru), .int (ti), .int (st)]) rfl ?_
  refine y_mem (zup_up _ _ _ _) ?_
  refine y_aload_n hC dX3_copy_16 (i := 0) rfl rfl ?_
  refine y_aload_n hC dX3_copy_17 (i := 1) rfl rfl ?_
  refine y_get hC fX3_18 dX3_copy_18 (k := b) hb ((va_up_ne _ _ (hba)).trans hgb) rfl ?_
  refine y_put hC fpX3_18 dX3_copy_21 (k := a) ha (va_up_self _ _ _) (Nat.le_of_ble_eq_true rfl) (rfl) (rfl) (fs' := [.int (b0), .int (b1), .int (b2), .int (wy), .int (ru), .int (ti), .int (st)]) rfl ?_
  refine y_mem (zup_up _ _ _ _) ?_
  refine y_aload_n hC dX3_copy_24 (i := 0) rfl rfl ?_
  refine y_aload_n hC dX3_copy_25 (i := 1) rfl rfl ?_
  refine y_get hC fX3_21 dX3_copy_26 (k := b) hb ((va_up_ne _ _ (hba)).trans hgb) rfl ?_
  refine y_put hC fpX3_21 dX3_copy_29 (k := a) ha (va_up_self _ _ _) (Nat.le_of_ble_eq_true rfl) (rfl) (rfl) (fs' := [.int (b0), .int (b1), .int (b2), .int (b3), .int (ru), .int (ti), .int (st)]) rfl ?_
  refine y_mem (zup_up _ _ _ _) ?_
  refine y_aload_n hC dX3_copy_32 (i := 0) rfl rfl ?_
  refine y_aload_n hC dX3_copy_33 (i := 1) rfl rfl ?_
  refine y_get hC fX3_24 dX3_copy_34 (k := b) hb ((va_up_ne _ _ (hba)).trans hgb) rfl ?_
  refine y_put hC fpX3_24 dX3_copy_37 (k := a) ha (va_up_self _ _ _) (Nat.le_of_ble_eq_true rfl) (by rcases hbz with h | h <;> rw [h] <;> rfl) (by rcases hbz with h | h <;> rw [h] <;> rfl) (fs' := [.int (b0), .int (b1), .int (b2), .int (b3), .int (b4), .int (ti), .int (st)]) rfl ?_
  refine y_mem (zup_up _ _ _ _) ?_
  refine y_aload_n hC dX3_copy_40 (i := 0) rfl rfl ?_
  refine y_aload_n hC dX3_copy_41 (i := 1) rfl rfl ?_
  refine y_get hC fX3_28 dX3_copy_42 (k := b) hb ((va_up_ne _ _ (hba)).trans hgb) rfl ?_
  refine y_put hC fpX3_28 dX3_copy_45 (k := a) ha (va_up_self _ _ _) (Nat.le_of_ble_eq_true rfl) (rfl) (rfl) (fs' := [.int (b0), .int (b1), .int (b2), .int (b3), .int (b4), .int (b5), .int (st)]) rfl ?_
  refine y_mem (zup_up _ _ _ _) ?_
  refine y_aload_n hC dX3_copy_48 (i := 0) rfl rfl ?_
  refine y_aload_n hC dX3_copy_49 (i := 1) rfl rfl ?_
  refine y_get hC fX3_31 dX3_copy_50 (k := b) hb ((va_up_ne _ _ (hba)).trans hgb) rfl ?_
  refine y_put hC fpX3_31 dX3_copy_53 (k := a) ha (va_up_self _ _ _) (Nat.le_of_ble_eq_true rfl) (rfl) (rfl) (fs' := [.int (b0), .int (b1), .int (b2), .int (b3), .int (b4), .int (b5), .int (b6)]) rfl ?_
  refine y_mem (zup_up _ _ _ _) ?_
  refine y_vret (hC := hC) (hd := dX3_copy_56) (hq := ?_)
  rfl

theorem dX3_holds_0 : decode cX3_holds 0 = .ok (.iload_n 1, 1) := by decide +kernel
theorem dX3_holds_1 : decode cX3_holds 1 = .ok (.aload_n 0, 1) := by decide +kernel
theorem dX3_holds_2 : decode cX3_holds 2 = .ok (.getfield 9, 3) := by decide +kernel
theorem dX3_holds_5 : decode cX3_holds 5 = .ok (.if_icmp .lt 15, 3) := by decide +kernel
theorem dX3_holds_8 : decode cX3_holds 8 = .ok (.iload_n 1, 1) := by decide +kernel
theorem dX3_holds_9 : decode cX3_holds 9 = .ok (.aload_n 0, 1) := by decide +kernel
theorem dX3_holds_10 : decode cX3_holds 10 = .ok (.getfield 15, 3) := by decide +kernel
theorem dX3_holds_13 : decode cX3_holds 13 = .ok (.if_icmp .gt 7, 3) := by decide +kernel
theorem dX3_holds_16 : decode cX3_holds 16 = .ok (.iconst 1, 1) := by decide +kernel
theorem dX3_holds_17 : decode cX3_holds 17 = .ok (.goto 4, 3) := by decide +kernel
theorem dX3_holds_20 : decode cX3_holds 20 = .ok (.iconst 0, 1) := by decide +kernel
theorem dX3_holds_21 : decode cX3_holds 21 = .ok (.ireturn, 1) := by decide +kernel
set_option maxHeartbeats 4000000 in
set_option maxRecDepth 100000 in
theorem c_X3_holds (l : Launch) (E : gE) (g : Mem) (a : Nat) (ha : a < eK E) (f la sp wy ru ti st : Nat) (hf : f < la) (hla : la < 32) (hsp : 0 < sp) (hsp2 : sp ≤ 30) (hwy : wy ≤ 2) (hru : ru ≤ 1) (hti : ti < sp) (hst : st < 1000000000) (hg : g a = oB 3 [.int (nI (f)), .int (nI (la)), .int (nI (sp)), .int (nI (wy)), .int (nI (ru)), .int (nI (ti)), .int (nI (st))]) (p : Nat) (hp : p < 2147483648) : Mt l E yX3_holds cX3_holds 2 (some .boolean) 0 0 [rf E (a), .int (nI (p))] g (pI (fun r g' => r = bI (f ≤ p ∧ p ≤ la) ∧ g' = g)) := by
  refine mt_go (own := RX3) (by decide) rfl (lo := [some (rf E (a)), some (.int (nI (p)))]) rfl (Nat.le_of_ble_eq_true rfl) (fun X hC => ?_)
  refine y_iload_n hC dX3_holds_0 (i := 1) rfl rfl ?_
  refine y_aload_n hC dX3_holds_1 (i := 0) rfl rfl ?_
  refine y_get hC fX3_9 dX3_holds_2 (k := a) ha hg rfl ?_
  refine y_icmp_lt_n (tgt := 20) hC dX3_holds_5 (by decide) (by omega) (by omega) (fun c_5 => ?_) (fun c_5 => ?_)
  · refine y_iconst (v := nI 0) hC dX3_holds_20 (by decide) ?_
    refine y_zret (hrt := rfl) (hn := rfl) (hC := hC) (hd := dX3_holds_21) (hq := ?_)
    refine ⟨?_, rfl⟩
    first | exact (bI_t ⟨by omega, by omega⟩).symm | exact (bI_f (by omega)).symm
  · refine y_iload_n hC dX3_holds_8 (i := 1) rfl rfl ?_
    refine y_aload_n hC dX3_holds_9 (i := 0) rfl rfl ?_
    refine y_get hC fX3_15 dX3_holds_10 (k := a) ha hg rfl ?_
    refine y_icmp_gt_n (tgt := 20) hC dX3_holds_13 (by decide) (by omega) (by omega) (fun c_13 => ?_) (fun c_13 => ?_)
    · refine y_iconst (v := nI 0) hC dX3_holds_20 (by decide) ?_
      refine y_zret (hrt := rfl) (hn := rfl) (hC := hC) (hd := dX3_holds_21) (hq := ?_)
      refine ⟨?_, rfl⟩
      first | exact (bI_t ⟨by omega, by omega⟩).symm | exact (bI_f (by omega)).symm
    · refine y_iconst (v := nI 1) hC dX3_holds_16 (by decide) ?_
      refine y_goto (tgt := 21) hC dX3_holds_17 (by decide) ?_
      refine y_zret (hrt := rfl) (hn := rfl) (hC := hC) (hd := dX3_holds_21) (hq := ?_)
      refine ⟨?_, rfl⟩
      first | exact (bI_t ⟨by omega, by omega⟩).symm | exact (bI_f (by omega)).symm

theorem dX3_places_0 : decode cX3_places 0 = .ok (.aload_n 0, 1) := by decide +kernel
theorem dX3_places_1 : decode cX3_places 1 = .ok (.getfield 15, 3) := by decide +kernel
theorem dX3_places_4 : decode cX3_places 4 = .ok (.aload_n 0, 1) := by decide +kernel
theorem dX3_places_5 : decode cX3_places 5 = .ok (.getfield 9, 3) := by decide +kernel
theorem dX3_places_8 : decode cX3_places 8 = .ok (.isub, 1) := by decide +kernel
theorem dX3_places_9 : decode cX3_places 9 = .ok (.iconst 1, 1) := by decide +kernel
theorem dX3_places_10 : decode cX3_places 10 = .ok (.iadd, 1) := by decide +kernel
theorem dX3_places_11 : decode cX3_places 11 = .ok (.ireturn, 1) := by decide +kernel
set_option maxHeartbeats 4000000 in
set_option maxRecDepth 100000 in
theorem c_X3_places (l : Launch) (E : gE) (g : Mem) (a : Nat) (ha : a < eK E) (f la sp wy ru ti st : Nat) (hf : f < la) (hla : la < 32) (hsp : 0 < sp) (hsp2 : sp ≤ 30) (hwy : wy ≤ 2) (hru : ru ≤ 1) (hti : ti < sp) (hst : st < 1000000000) (hg : g a = oB 3 [.int (nI (f)), .int (nI (la)), .int (nI (sp)), .int (nI (wy)), .int (nI (ru)), .int (nI (ti)), .int (nI (st))]) : Mt l E yX3_places cX3_places 1 (some .int) 0 0 [rf E (a)] g (pI (fun r g' => r = nI (la - f + 1) ∧ g' = g)) := by
  refine mt_go (own := RX3) (by decide) rfl (lo := [some (rf E (a))]) rfl (Nat.le_of_ble_eq_true rfl) (fun X hC => ?_)
  refine y_aload_n hC dX3_places_0 (i := 0) rfl rfl ?_
  refine y_get hC fX3_15 dX3_places_1 (k := a) ha hg rfl ?_
  refine y_aload_n hC dX3_places_4 (i := 0) rfl rfl ?_
  refine y_get hC fX3_9 dX3_places_5 (k := a) ha hg rfl ?_
  refine y_isub_n hC dX3_places_8 (by omega) ?_
  refine y_iconst (v := nI 1) hC dX3_places_9 (by decide) ?_
  refine y_iadd_n hC dX3_places_10 ?_
  refine y_iret (hC := hC) (hd := dX3_places_11) (hq := ?_)
  exact ⟨rfl, rfl⟩

theorem dX3_fullSteps_0 : decode cX3_fullSteps 0 = .ok (.aload_n 0, 1) := by decide +kernel
theorem dX3_fullSteps_1 : decode cX3_fullSteps 1 = .ok (.getfield 15, 3) := by decide +kernel
theorem dX3_fullSteps_4 : decode cX3_fullSteps 4 = .ok (.aload_n 0, 1) := by decide +kernel
theorem dX3_fullSteps_5 : decode cX3_fullSteps 5 = .ok (.getfield 9, 3) := by decide +kernel
theorem dX3_fullSteps_8 : decode cX3_fullSteps 8 = .ok (.isub, 1) := by decide +kernel
theorem dX3_fullSteps_9 : decode cX3_fullSteps 9 = .ok (.istore_n 1, 1) := by decide +kernel
theorem dX3_fullSteps_10 : decode cX3_fullSteps 10 = .ok (.aload_n 0, 1) := by decide +kernel
theorem dX3_fullSteps_11 : decode cX3_fullSteps 11 = .ok (.getfield 21, 3) := by decide +kernel
theorem dX3_fullSteps_14 : decode cX3_fullSteps 14 = .ok (.iconst 2, 1) := by decide +kernel
theorem dX3_fullSteps_15 : decode cX3_fullSteps 15 = .ok (.if_icmp .ne 9, 3) := by decide +kernel
theorem dX3_fullSteps_18 : decode cX3_fullSteps 18 = .ok (.iconst 2, 1) := by decide +kernel
theorem dX3_fullSteps_19 : decode cX3_fullSteps 19 = .ok (.iload_n 1, 1) := by decide +kernel
theorem dX3_fullSteps_20 : decode cX3_fullSteps 20 = .ok (.imul, 1) := by decide +kernel
theorem dX3_fullSteps_21 : decode cX3_fullSteps 21 = .ok (.goto 6, 3) := by decide +kernel
theorem dX3_fullSteps_24 : decode cX3_fullSteps 24 = .ok (.iload_n 1, 1) := by decide +kernel
theorem dX3_fullSteps_25 : decode cX3_fullSteps 25 = .ok (.iconst 1, 1) := by decide +kernel
theorem dX3_fullSteps_26 : decode cX3_fullSteps 26 = .ok (.iadd, 1) := by decide +kernel
theorem dX3_fullSteps_27 : decode cX3_fullSteps 27 = .ok (.ireturn, 1) := by decide +kernel
set_option maxHeartbeats 4000000 in
set_option maxRecDepth 100000 in
theorem c_X3_fullSteps (l : Launch) (E : gE) (g : Mem) (a : Nat) (ha : a < eK E) (f la sp wy ru ti st : Nat) (hf : f < la) (hla : la < 32) (hsp : 0 < sp) (hsp2 : sp ≤ 30) (hwy : wy ≤ 2) (hru : ru ≤ 1) (hti : ti < sp) (hst : st < 1000000000) (hg : g a = oB 3 [.int (nI (f)), .int (nI (la)), .int (nI (sp)), .int (nI (wy)), .int (nI (ru)), .int (nI (ti)), .int (nI (st))]) : Mt l E yX3_fullSteps cX3_fullSteps 2 (some .int) 0 0 [rf E (a)] g (pI (fun r g' => r = nI (fsN (la - f + 1) wy) ∧ g' = g)) := by
  refine mt_go (own := RX3) (by decide) rfl (lo := [some (rf E (a)), none]) rfl (Nat.le_of_ble_eq_true rfl) (fun X hC => ?_)
  refine y_aload_n hC dX3_fullSteps_0 (i := 0) rfl rfl ?_
  refine y_get hC fX3_15 dX3_fullSteps_1 (k := a) ha hg rfl ?_
  refine y_aload_n hC dX3_fullSteps_4 (i := 0) rfl rfl ?_
  refine y_get hC fX3_9 dX3_fullSteps_5 (k := a) ha hg rfl ?_
  refine y_isub_n hC dX3_fullSteps_8 (by omega) ?_
  refine y_istore_n hC dX3_fullSteps_9 (i := 1) rfl (Nat.le_of_ble_eq_true rfl) rfl (lo' := [some (rf E (a)), some (.int (nI (la - (f))))]) rfl ?_
  refine y_aload_n hC dX3_fullSteps_10 (i := 0) rfl rfl ?_
  refine y_get hC fX3_21 dX3_fullSteps_11 (k := a) ha hg rfl ?_
  refine y_iconst (v := nI 2) hC dX3_fullSteps_14 (by decide) ?_
  refine y_icmp_ne_n (tgt := 24) hC dX3_fullSteps_15 (by decide) (by omega) (by omega) (fun c_15 => ?_) (fun c_15 => ?_)
  · refine y_iload_n hC dX3_fullSteps_24 (i := 1) rfl rfl ?_
    refine y_iconst (v := nI 1) hC dX3_fullSteps_25 (by decide) ?_
    refine y_iadd_n hC dX3_fullSteps_26 ?_
    refine y_iret (hC := hC) (hd := dX3_fullSteps_27) (hq := ?_)
    refine ⟨congrArg nI ?_, rfl⟩
    unfold fsN
    split <;> omega
  · refine y_iconst (v := nI 2) hC dX3_fullSteps_18 (by decide) ?_
    refine y_iload_n hC dX3_fullSteps_19 (i := 1) rfl rfl ?_
    refine y_imul_n hC dX3_fullSteps_20 ?_
    refine y_goto (tgt := 27) hC dX3_fullSteps_21 (by decide) ?_
    refine y_iret (hC := hC) (hd := dX3_fullSteps_27) (hq := ?_)
    refine ⟨congrArg nI ?_, rfl⟩
    unfold fsN
    split <;> omega

theorem dX3_fullTicks_0 : decode cX3_fullTicks 0 = .ok (.aload_n 0, 1) := by decide +kernel
theorem dX3_fullTicks_1 : decode cX3_fullTicks 1 = .ok (.getfield 24, 3) := by decide +kernel
theorem dX3_fullTicks_4 : decode cX3_fullTicks 4 = .ok (.ifCond .eq 15, 3) := by decide +kernel
theorem dX3_fullTicks_7 : decode cX3_fullTicks 7 = .ok (.aload_n 0, 1) := by decide +kernel
theorem dX3_fullTicks_8 : decode cX3_fullTicks 8 = .ok (.getfield 18, 3) := by decide +kernel
theorem dX3_fullTicks_11 : decode cX3_fullTicks 11 = .ok (.aload_n 0, 1) := by decide +kernel
theorem dX3_fullTicks_12 : decode cX3_fullTicks 12 = .ok (.invokevirtual 41, 3) := by decide +kernel
theorem dX3_fullTicks_15 : decode cX3_fullTicks 15 = .ok (.imul, 1) := by decide +kernel
theorem dX3_fullTicks_16 : decode cX3_fullTicks 16 = .ok (.goto 4, 3) := by decide +kernel
theorem dX3_fullTicks_19 : decode cX3_fullTicks 19 = .ok (.iconst 1, 1) := by decide +kernel
theorem dX3_fullTicks_20 : decode cX3_fullTicks 20 = .ok (.ireturn, 1) := by decide +kernel
set_option maxHeartbeats 4000000 in
set_option maxRecDepth 100000 in
theorem c_X3_fullTicks (l : Launch) (E : gE) (g : Mem) (a : Nat) (ha : a < eK E) (f la sp wy ru ti st : Nat) (hf : f < la) (hla : la < 32) (hsp : 0 < sp) (hsp2 : sp ≤ 30) (hwy : wy ≤ 2) (hru : ru ≤ 1) (hti : ti < sp) (hst : st < 1000000000) (hg : g a = oB 3 [.int (nI (f)), .int (nI (la)), .int (nI (sp)), .int (nI (wy)), .int (nI (ru)), .int (nI (ti)), .int (nI (st))]) : Mt l E yX3_fullTicks cX3_fullTicks 1 (some .int) 1 21 [rf E (a)] g (pI (fun r g' => r = nI (if ru = 1 then sp * fsN (la - f + 1) wy else 1) ∧ g' = g)) := by
  refine mt_go (own := RX3) (by decide) rfl (lo := [some (rf E (a))]) rfl (Nat.le_of_ble_eq_true rfl) (fun X hC => ?_)
  refine y_aload_n hC dX3_fullTicks_0 (i := 0) rfl rfl ?_
  refine y_get hC fX3_24 dX3_fullTicks_1 (k := a) ha hg rfl ?_
  refine y_if_eq_n (tgt := 19) hC dX3_fullTicks_4 (by decide) (by omega) (fun c_4 => ?_) (fun c_4 => ?_)
  · refine y_iconst (v := nI 1) hC dX3_fullTicks_19 (by decide) ?_
    refine y_iret (hC := hC) (hd := dX3_fullTicks_20) (hq := ?_)
    refine ⟨congrArg nI ?_, rfl⟩
    split <;> omega
  · refine y_aload_n hC dX3_fullTicks_7 (i := 0) rfl rfl ?_
    refine y_get hC fX3_18 dX3_fullTicks_8 (k := a) ha hg rfl ?_
    refine y_aload_n hC dX3_fullTicks_11 (i := 0) rfl rfl ?_
    refine y_callV hC mX3_fullSteps kX3_41 dX3_fullTicks_12 (b := a) (As := []) (rest := [.int (nI (sp))]) (c_X3_fullSteps l E _ a ha f la sp wy ru ti st hf hla hsp hsp2 hwy hru hti hst hg) ha hg rfl rfl rfl (Nat.le_of_ble_eq_true rfl) ⟨Nat.le_of_ble_eq_true rfl, Nat.le_of_ble_eq_true rfl⟩ (pk_i ?_)
    rintro r_12 g_12 ⟨hr_12, hq_12⟩
    obtain rfl := hq_12.symm
    rw [hr_12]
    clear hr_12 r_12
    refine y_imul_n hC dX3_fullTicks_15 ?_
    refine y_goto (tgt := 20) hC dX3_fullTicks_16 (by decide) ?_
    refine y_iret (hC := hC) (hd := dX3_fullTicks_20) (hq := ?_)
    refine ⟨congrArg nI ?_, rfl⟩
    split <;> omega

theorem dX3_advance_0 : decode cX3_advance 0 = .ok (.aload_n 0, 1) := by decide +kernel
theorem dX3_advance_1 : decode cX3_advance 1 = .ok (.getfield 24, 3) := by decide +kernel
theorem dX3_advance_4 : decode cX3_advance 4 = .ok (.ifCond .ne 5, 3) := by decide +kernel
theorem dX3_advance_7 : decode cX3_advance 7 = .ok (.iconst 0, 1) := by decide +kernel
theorem dX3_advance_8 : decode cX3_advance 8 = .ok (.ireturn, 1) := by decide +kernel
theorem dX3_advance_9 : decode cX3_advance 9 = .ok (.aload_n 0, 1) := by decide +kernel
theorem dX3_advance_10 : decode cX3_advance 10 = .ok (.getfield 28, 3) := by decide +kernel
theorem dX3_advance_13 : decode cX3_advance 13 = .ok (.iload_n 1, 1) := by decide +kernel
theorem dX3_advance_14 : decode cX3_advance 14 = .ok (.iadd, 1) := by decide +kernel
theorem dX3_advance_15 : decode cX3_advance 15 = .ok (.aload_n 0, 1) := by decide +kernel
theorem dX3_advance_16 : decode cX3_advance 16 = .ok (.getfield 18, 3) := by decide +kernel
theorem dX3_advance_19 : decode cX3_advance 19 = .ok (.idiv, 1) := by decide +kernel
theorem dX3_advance_20 : decode cX3_advance 20 = .ok (.istore_n 2, 1) := by decide +kernel
theorem dX3_advance_21 : decode cX3_advance 21 = .ok (.aload_n 0, 1) := by decide +kernel
theorem dX3_advance_22 : decode cX3_advance 22 = .ok (.aload_n 0, 1) := by decide +kernel
theorem dX3_advance_23 : decode cX3_advance 23 = .ok (.getfield 28, 3) := by decide +kernel
theorem dX3_advance_26 : decode cX3_advance 26 = .ok (.iload_n 1, 1) := by decide +kernel
theorem dX3_advance_27 : decode cX3_advance 27 = .ok (.iadd, 1) := by decide +kernel
theorem dX3_advance_28 : decode cX3_advance 28 = .ok (.aload_n 0, 1) := by decide +kernel
theorem dX3_advance_29 : decode cX3_advance 29 = .ok (.getfield 18, 3) := by decide +kernel
theorem dX3_advance_32 : decode cX3_advance 32 = .ok (.irem, 1) := by decide +kernel
theorem dX3_advance_33 : decode cX3_advance 33 = .ok (.putfield 28, 3) := by decide +kernel
theorem dX3_advance_36 : decode cX3_advance 36 = .ok (.aload_n 0, 1) := by decide +kernel
theorem dX3_advance_37 : decode cX3_advance 37 = .ok (.dup, 1) := by decide +kernel
theorem dX3_advance_38 : decode cX3_advance 38 = .ok (.getfield 31, 3) := by decide +kernel
theorem dX3_advance_41 : decode cX3_advance 41 = .ok (.iload_n 2, 1) := by decide +kernel
theorem dX3_advance_42 : decode cX3_advance 42 = .ok (.iadd, 1) := by decide +kernel
theorem dX3_advance_43 : decode cX3_advance 43 = .ok (.putfield 31, 3) := by decide +kernel
theorem dX3_advance_46 : decode cX3_advance 46 = .ok (.iload_n 2, 1) := by decide +kernel
theorem dX3_advance_47 : decode cX3_advance 47 = .ok (.ireturn, 1) := by decide +kernel
set_option maxHeartbeats 4000000 in
set_option maxRecDepth 100000 in
theorem c_X3_advance (l : Launch) (E : gE) (g : Mem) (a : Nat) (ha : a < eK E) (f la sp wy ru ti st : Nat) (hf : f < la) (hla : la < 32) (hsp : 0 < sp) (hsp2 : sp ≤ 30) (hwy : wy ≤ 2) (hru : ru ≤ 1) (hti : ti < sp) (hst : st < 1000000000) (hg : g a = oB 3 [.int (nI (f)), .int (nI (la)), .int (nI (sp)), .int (nI (wy)), .int (nI (ru)), .int (nI (ti)), .int (nI (st))]) (t : Nat) (ht : t ≤ 5000) : Mt l E yX3_advance cX3_advance 3 (some .int) 0 0 [rf E (a), .int (nI (t))] g (pI (fun r g' => r = nI (if ru = 1 then (ti + t) / sp else 0) ∧ g' = va_up g a (oB 3 [.int (nI (f)), .int (nI (la)), .int (nI (sp)), .int (nI (wy)), .int (nI (ru)), .int (nI (if ru = 1 then (ti + t) % sp else ti)), .int (nI (mdN sp ru ti st t))]))) := by
  refine mt_go (own := RX3) (by decide) rfl (lo := [some (rf E (a)), some (.int (nI (t))), none]) rfl (Nat.le_of_ble_eq_true rfl) (fun X hC => ?_)
  refine y_aload_n hC dX3_advance_0 (i := 0) rfl rfl ?_
  refine y_get hC fX3_24 dX3_advance_1 (k := a) ha hg rfl ?_
  refine y_if_ne_n (tgt := 9) hC dX3_advance_4 (by decide) (by omega) (fun c_4 => ?_) (fun c_4 => ?_)
  · have hr1 : ru = 1 := by omega
    refine y_aload_n hC dX3_advance_9 (i := 0) rfl rfl ?_
    refine y_get hC fX3_28 dX3_advance_10 (k := a) ha hg rfl ?_
    refine y_iload_n hC dX3_advance_13 (i := 1) rfl rfl ?_
    refine y_iadd_n hC dX3_advance_14 ?_
    refine y_aload_n hC dX3_advance_15 (i := 0) rfl rfl ?_
    refine y_get hC fX3_18 dX3_advance_16 (k := a) ha hg rfl ?_
    refine y_idiv_n hC dX3_advance_19 (by omega) (by omega) (by omega) ?_
    refine y_istore_n hC dX3_advance_20 (i := 2) rfl (Nat.le_of_ble_eq_true rfl) rfl (lo' := [some (rf E (a)), some (.int (nI (t))), some (.int (nI ((ti + t) / (sp))))]) rfl ?_
    refine y_aload_n hC dX3_advance_21 (i := 0) rfl rfl ?_
    refine y_aload_n hC dX3_advance_22 (i := 0) rfl rfl ?_
    refine y_get hC fX3_28 dX3_advance_23 (k := a) ha hg rfl ?_
    refine y_iload_n hC dX3_advance_26 (i := 1) rfl rfl ?_
    refine y_iadd_n hC dX3_advance_27 ?_
    refine y_aload_n hC dX3_advance_28 (i := 0) rfl rfl ?_
    refine y_get hC fX3_18 dX3_advance_29 (k := a) ha hg rfl ?_
    refine y_irem_n hC dX3_advance_32 (by omega) (by omega) (by omega) ?_
    refine y_put hC fpX3_28 dX3_advance_33 (k := a) ha hg (Nat.le_of_ble_eq_true rfl) (rfl) (rfl) (fs' := [.int (nI (f)), .int (nI (la)), .int (nI (sp)), .int (nI (wy)), .int (nI (ru)), .int (nI ((ti + t) % (sp))), .int (nI (st))]) rfl ?_
    refine y_aload_n hC dX3_advance_36 (i := 0) rfl rfl ?_
    refine y_dup hC dX3_advance_37 rfl ?_
    refine y_get hC fX3_31 dX3_advance_38 (k := a) ha (va_up_self _ _ _) rfl ?_
    refine y_iload_n hC dX3_advance_41 (i := 2) rfl rfl ?_
    refine y_iadd_n hC dX3_advance_42 ?_
    refine y_put hC fpX3_31 dX3_advance_43 (k := a) ha (va_up_self _ _ _) (Nat.le_of_ble_eq_true rfl) (rfl) (rfl) (fs' := [.int (nI (f)), .int (nI (la)), .int (nI (sp)), .int (nI (wy)), .int (nI (ru)), .int (nI ((ti + t) % (sp))), .int (nI (st + ((ti + t) / (sp))))]) rfl ?_
    refine y_mem (zup_up _ _ _ _) ?_
    refine y_iload_n hC dX3_advance_46 (i := 2) rfl rfl ?_
    refine y_iret (hC := hC) (hd := dX3_advance_47) (hq := ?_)
    refine ⟨by rw [if_pos hr1], ?_⟩
    rw [if_pos hr1, mdN, if_pos hr1]
  · refine y_iconst (v := nI 0) hC dX3_advance_7 (by decide) ?_
    refine y_iret (hC := hC) (hd := dX3_advance_8) (hq := ?_)
    have hr0 : ¬ ru = 1 := by omega
    refine ⟨by rw [if_neg hr0], (zup_same ?_).symm⟩
    rw [if_neg hr0, mdN, if_neg hr0]
    exact hg

theorem zmd_lt {sp ru ti st t : Nat} (hsp : 0 < sp) (hti : ti < 31) (hst : st < 1000000000) (ht : t ≤ 5000) : mdN sp ru ti st t < 1000010000 := by
  unfold mdN
  have := Nat.div_le_self (ti + t) sp
  split <;> omega
theorem ztn_a {n wy m : Nat} (h : wy = 1) (h2 : m % fsN n wy = 0) : 0 = tnN n wy m := by
  subst h
  simp only [fsN, Nat.reduceEqDiff, if_false] at h2
  simp [tnN, h2]
theorem ztn_b {n wy m : Nat} (h : wy = 1) (h2 : ¬ m % fsN n wy = 0) : n - m % fsN n wy = tnN n wy m := by
  subst h
  simp only [fsN, Nat.reduceEqDiff, if_false] at h2 ⊢
  simp [tnN, h2]
theorem ztn_c {n wy m : Nat} (hn : 2 ≤ n) (h : ¬ wy = 1) (h2 : m % fsN n wy < n) : m % fsN n wy = tnN n wy m := by
  unfold fsN tnN at *
  by_cases h3 : wy = 2
  · rw [if_pos h3] at *
    rw [if_neg h, if_pos h3, if_pos h2]
  · rw [if_neg h3] at *
    rw [if_neg h, if_neg h3]
theorem ztn_d {n wy m : Nat} (hn : 2 ≤ n) (h : ¬ wy = 1) (h2 : n ≤ m % fsN n wy) : fsN n wy - m % fsN n wy = tnN n wy m := by
  unfold fsN tnN at *
  by_cases h3 : wy = 2
  · rw [if_pos h3] at *
    rw [if_neg h, if_pos h3, if_neg (by omega)]
  · rw [if_neg h3] at *
    have := Nat.mod_lt m (show 0 < n by omega)
    omega
theorem zfs_pos {n wy : Nat} (hn : 2 ≤ n) : 2 ≤ fsN n wy := by unfold fsN; split <;> omega
theorem zfs_le {n wy : Nat} (hn : 2 ≤ n) (h : n ≤ 32) : fsN n wy ≤ 62 := by unfold fsN; split <;> omega
theorem zfl_n {m k : Nat} (hm : m < 2147483648) (hk : k < 2147483648) (h0 : 0 < k) : Int32.ofInt ((nI m).toInt % k) = nI (m % k) := by
  rw [tI hm, ← Int.natCast_emod]
  exact rfl
theorem dX3_turn_0 : decode cX3_turn 0 = .ok (.aload_n 0, 1) := by decide +kernel
theorem dX3_turn_1 : decode cX3_turn 1 = .ok (.getfield 24, 3) := by decide +kernel
theorem dX3_turn_4 : decode cX3_turn 4 = .ok (.ifCond .eq 22, 3) := by decide +kernel
theorem dX3_turn_7 : decode cX3_turn 7 = .ok (.aload_n 0, 1) := by decide +kernel
theorem dX3_turn_8 : decode cX3_turn 8 = .ok (.getfield 31, 3) := by decide +kernel
theorem dX3_turn_11 : decode cX3_turn 11 = .ok (.aload_n 0, 1) := by decide +kernel
theorem dX3_turn_12 : decode cX3_turn 12 = .ok (.getfield 28, 3) := by decide +kernel
theorem dX3_turn_15 : decode cX3_turn 15 = .ok (.iload_n 1, 1) := by decide +kernel
theorem dX3_turn_16 : decode cX3_turn 16 = .ok (.iadd, 1) := by decide +kernel
theorem dX3_turn_17 : decode cX3_turn 17 = .ok (.aload_n 0, 1) := by decide +kernel
theorem dX3_turn_18 : decode cX3_turn 18 = .ok (.getfield 18, 3) := by decide +kernel
theorem dX3_turn_21 : decode cX3_turn 21 = .ok (.idiv, 1) := by decide +kernel
theorem dX3_turn_22 : decode cX3_turn 22 = .ok (.iadd, 1) := by decide +kernel
theorem dX3_turn_23 : decode cX3_turn 23 = .ok (.goto 7, 3) := by decide +kernel
theorem dX3_turn_26 : decode cX3_turn 26 = .ok (.aload_n 0, 1) := by decide +kernel
theorem dX3_turn_27 : decode cX3_turn 27 = .ok (.getfield 31, 3) := by decide +kernel
theorem dX3_turn_30 : decode cX3_turn 30 = .ok (.istore_n 2, 1) := by decide +kernel
theorem dX3_turn_31 : decode cX3_turn 31 = .ok (.iload_n 2, 1) := by decide +kernel
theorem dX3_turn_32 : decode cX3_turn 32 = .ok (.aload_n 0, 1) := by decide +kernel
theorem dX3_turn_33 : decode cX3_turn 33 = .ok (.invokevirtual 41, 3) := by decide +kernel
theorem dX3_turn_36 : decode cX3_turn 36 = .ok (.invokestatic 45, 3) := by decide +kernel
theorem dX3_turn_39 : decode cX3_turn 39 = .ok (.istore_n 3, 1) := by decide +kernel
theorem dX3_turn_40 : decode cX3_turn 40 = .ok (.aload_n 0, 1) := by decide +kernel
theorem dX3_turn_41 : decode cX3_turn 41 = .ok (.getfield 21, 3) := by decide +kernel
theorem dX3_turn_44 : decode cX3_turn 44 = .ok (.iconst 1, 1) := by decide +kernel
theorem dX3_turn_45 : decode cX3_turn 45 = .ok (.if_icmp .ne 18, 3) := by decide +kernel
theorem dX3_turn_48 : decode cX3_turn 48 = .ok (.iload_n 3, 1) := by decide +kernel
theorem dX3_turn_49 : decode cX3_turn 49 = .ok (.ifCond .ne 7, 3) := by decide +kernel
theorem dX3_turn_52 : decode cX3_turn 52 = .ok (.iconst 0, 1) := by decide +kernel
theorem dX3_turn_53 : decode cX3_turn 53 = .ok (.goto 9, 3) := by decide +kernel
theorem dX3_turn_56 : decode cX3_turn 56 = .ok (.aload_n 0, 1) := by decide +kernel
theorem dX3_turn_57 : decode cX3_turn 57 = .ok (.invokevirtual 51, 3) := by decide +kernel
theorem dX3_turn_60 : decode cX3_turn 60 = .ok (.iload_n 3, 1) := by decide +kernel
theorem dX3_turn_61 : decode cX3_turn 61 = .ok (.isub, 1) := by decide +kernel
theorem dX3_turn_62 : decode cX3_turn 62 = .ok (.ireturn, 1) := by decide +kernel
theorem dX3_turn_63 : decode cX3_turn 63 = .ok (.iload_n 3, 1) := by decide +kernel
theorem dX3_turn_64 : decode cX3_turn 64 = .ok (.aload_n 0, 1) := by decide +kernel
theorem dX3_turn_65 : decode cX3_turn 65 = .ok (.invokevirtual 51, 3) := by decide +kernel
theorem dX3_turn_68 : decode cX3_turn 68 = .ok (.if_icmp .ge 7, 3) := by decide +kernel
theorem dX3_turn_71 : decode cX3_turn 71 = .ok (.iload_n 3, 1) := by decide +kernel
theorem dX3_turn_72 : decode cX3_turn 72 = .ok (.goto 9, 3) := by decide +kernel
theorem dX3_turn_75 : decode cX3_turn 75 = .ok (.aload_n 0, 1) := by decide +kernel
theorem dX3_turn_76 : decode cX3_turn 76 = .ok (.invokevirtual 41, 3) := by decide +kernel
theorem dX3_turn_79 : decode cX3_turn 79 = .ok (.iload_n 3, 1) := by decide +kernel
theorem dX3_turn_80 : decode cX3_turn 80 = .ok (.isub, 1) := by decide +kernel
theorem dX3_turn_81 : decode cX3_turn 81 = .ok (.ireturn, 1) := by decide +kernel
set_option maxHeartbeats 4000000 in
set_option maxRecDepth 100000 in
theorem c_X3_turn (l : Launch) (E : gE) (g : Mem) (a : Nat) (ha : a < eK E) (f la sp wy ru ti st : Nat) (hf : f < la) (hla : la < 32) (hsp : 0 < sp) (hsp2 : sp ≤ 30) (hwy : wy ≤ 2) (hru : ru ≤ 1) (hti : ti < sp) (hst : st < 1000000000) (hg : g a = oB 3 [.int (nI (f)), .int (nI (la)), .int (nI (sp)), .int (nI (wy)), .int (nI (ru)), .int (nI (ti)), .int (nI (st))]) (t : Nat) (ht : t ≤ 5000) : Mt l E yX3_turn cX3_turn 4 (some .int) 1 22 [rf E (a), .int (nI (t))] g (pI (fun r g' => r = nI (tnN (la - f + 1) wy (mdN sp ru ti st t)) ∧ g' = g)) := by
  refine mt_go (own := RX3) (by decide) rfl (lo := [some (rf E (a)), some (.int (nI (t))), none, none]) rfl (Nat.le_of_ble_eq_true rfl) (fun X hC => ?_)
  refine y_aload_n hC dX3_turn_0 (i := 0) rfl rfl ?_
  refine y_get hC fX3_24 dX3_turn_1 (k := a) ha hg rfl ?_
  refine y_if_eq_n (tgt := 26) hC dX3_turn_4 (by decide) (by omega) (fun c_4 => ?_) (fun c_4 => ?_)
  · refine y_aload_n hC dX3_turn_26 (i := 0) rfl rfl ?_
    refine y_get hC fX3_31 dX3_turn_27 (k := a) ha hg rfl ?_
    have hmd := zmd_lt (ru := ru) (t := t) hsp (show ti < 31 by omega) hst ht
    have hf2 := zfs_pos (n := la - f + 1) (wy := wy) (by omega)
    have hf3 := zfs_le (n := la - f + 1) (wy := wy) (by omega) (by omega)
    refine y_top (y := nI (mdN sp ru ti st t)) (congrArg nI (by unfold mdN; split <;> omega)) ?_
    refine y_istore_n hC dX3_turn_30 (i := 2) rfl (Nat.le_of_ble_eq_true rfl) rfl (lo' := [some (rf E (a)), some (.int (nI (t))), some (.int (nI (mdN sp ru ti st t))), none]) rfl ?_
    refine y_iload_n hC dX3_turn_31 (i := 2) rfl rfl ?_
    refine y_aload_n hC dX3_turn_32 (i := 0) rfl rfl ?_
    refine y_callV hC mX3_fullSteps kX3_41 dX3_turn_33 (b := a) (As := []) (rest := [.int (nI (mdN sp ru ti st t))]) (c_X3_fullSteps l E _ a ha f la sp wy ru ti st hf hla hsp hsp2 hwy hru hti hst hg) ha hg rfl rfl rfl (Nat.le_of_ble_eq_true rfl) ⟨Nat.le_of_ble_eq_true rfl, Nat.le_of_ble_eq_true rfl⟩ (pk_i ?_)
    rintro r_33 g_33 ⟨hr_33, hq_33⟩
    obtain rfl := hq_33.symm
    rw [hr_33]
    clear hr_33 r_33
    refine y_callS hC mJ9_floorMod kX3_45 dX3_turn_36 (As := [.int (nI (mdN sp ru ti st t)), .int (nI (fsN (la - f + 1) wy))]) (rest := []) (c_J9_floorMod l E _ (nI (mdN sp ru ti st t)) (fsN (la - f + 1) wy) (by omega) (by omega) (by rw [tI (by omega)]; omega) (by rw [tI (by omega)]; omega)) rfl rfl rfl (Nat.le_of_ble_eq_true rfl) ⟨Nat.le_of_ble_eq_true rfl, Nat.le_of_ble_eq_true rfl⟩ (pk_i ?_)
    rintro r_36 g_36 ⟨rfl, rfl⟩
    rw [zfl_n (by omega) (by omega) (by omega)]
    have hph := Nat.mod_lt (mdN sp ru ti st t) (show 0 < fsN (la - f + 1) wy by omega)
    refine y_istore_n hC dX3_turn_39 (i := 3) rfl (Nat.le_of_ble_eq_true rfl) rfl (lo' := [some (rf E (a)), some (.int (nI (t))), some (.int (nI (mdN sp ru ti st t))), some (.int (nI (mdN sp ru ti st t % fsN (la - f + 1) wy)))]) rfl ?_
    refine y_aload_n hC dX3_turn_40 (i := 0) rfl rfl ?_
    refine y_get hC fX3_21 dX3_turn_41 (k := a) ha hg rfl ?_
    refine y_iconst (v := nI 1) hC dX3_turn_44 (by decide) ?_
    refine y_icmp_ne_n (tgt := 63) hC dX3_turn_45 (by decide) (by omega) (by omega) (fun c_45 => ?_) (fun c_45 => ?_)
    · refine y_iload_n hC dX3_turn_63 (i := 3) rfl rfl ?_
      refine y_aload_n hC dX3_turn_64 (i := 0) rfl rfl ?_
      refine y_callV hC mX3_places kX3_51 dX3_turn_65 (b := a) (As := []) (rest := [.int (nI (mdN sp ru ti st t % fsN (la - f + 1) wy))]) (c_X3_places l E _ a ha f la sp wy ru ti st hf hla hsp hsp2 hwy hru hti hst hg) ha hg rfl rfl rfl (Nat.le_of_ble_eq_true rfl) ⟨Nat.le_of_ble_eq_true rfl, Nat.le_of_ble_eq_true rfl⟩ (pk_i ?_)
      rintro r_65 g_65 ⟨hr_65, hq_65⟩
      obtain rfl := hq_65.symm
      rw [hr_65]
      clear hr_65 r_65
      refine y_icmp_ge_n (tgt := 75) hC dX3_turn_68 (by decide) (by omega) (by omega) (fun c_68 => ?_) (fun c_68 => ?_)
      · refine y_aload_n hC dX3_turn_75 (i := 0) rfl rfl ?_
        refine y_callV hC mX3_fullSteps kX3_41 dX3_turn_76 (b := a) (As := []) (rest := []) (c_X3_fullSteps l E _ a ha f la sp wy ru ti st hf hla hsp hsp2 hwy hru hti hst hg) ha hg rfl rfl rfl (Nat.le_of_ble_eq_true rfl) ⟨Nat.le_of_ble_eq_true rfl, Nat.le_of_ble_eq_true rfl⟩ (pk_i ?_)
        rintro r_76 g_76 ⟨hr_76, hq_76⟩
        obtain rfl := hq_76.symm
        rw [hr_76]
        clear hr_76 r_76
        refine y_iload_n hC dX3_turn_79 (i := 3) rfl rfl ?_
        refine y_isub_n hC dX3_turn_80 (Nat.le_of_lt hph) ?_
        refine y_iret (hC := hC) (hd := dX3_turn_81) (hq := ?_)
        refine ⟨congrArg nI ?_, rfl⟩
        first | exact ztn_a c_45 c_49 | exact ztn_b c_45 c_49 | exact ztn_c (by omega) c_45 (by omega) | exact ztn_d (by omega) c_45 c_68
      · refine y_iload_n hC dX3_turn_71 (i := 3) rfl rfl ?_
        refine y_goto (tgt := 81) hC dX3_turn_72 (by decide) ?_
        refine y_iret (hC := hC) (hd := dX3_turn_81) (hq := ?_)
        refine ⟨congrArg nI ?_, rfl⟩
        first | exact ztn_a c_45 c_49 | exact ztn_b c_45 c_49 | exact ztn_c (by omega) c_45 (by omega) | exact ztn_d (by omega) c_45 c_68
    · refine y_iload_n hC dX3_turn_48 (i := 3) rfl rfl ?_
      refine y_if_ne_n (tgt := 56) hC dX3_turn_49 (by decide) (by omega) (fun c_49 => ?_) (fun c_49 => ?_)
      · refine y_aload_n hC dX3_turn_56 (i := 0) rfl rfl ?_
        refine y_callV hC mX3_places kX3_51 dX3_turn_57 (b := a) (As := []) (rest := []) (c_X3_places l E _ a ha f la sp wy ru ti st hf hla hsp hsp2 hwy hru hti hst hg) ha hg rfl rfl rfl (Nat.le_of_ble_eq_true rfl) ⟨Nat.le_of_ble_eq_true rfl, Nat.le_of_ble_eq_true rfl⟩ (pk_i ?_)
        rintro r_57 g_57 ⟨hr_57, hq_57⟩
        obtain rfl := hq_57.symm
        rw [hr_57]
        clear hr_57 r_57
        refine y_iload_n hC dX3_turn_60 (i := 3) rfl rfl ?_
        refine y_isub_n hC dX3_turn_61 (by (unfold fsN at hph ⊢; split at hph <;> split <;> omega)) ?_
        refine y_iret (hC := hC) (hd := dX3_turn_62) (hq := ?_)
        refine ⟨congrArg nI ?_, rfl⟩
        first | exact ztn_a c_45 c_49 | exact ztn_b c_45 c_49 | exact ztn_c (by omega) c_45 (by omega) | exact ztn_d (by omega) c_45 c_68
      · refine y_iconst (v := nI 0) hC dX3_turn_52 (by decide) ?_
        refine y_goto (tgt := 62) hC dX3_turn_53 (by decide) ?_
        refine y_iret (hC := hC) (hd := dX3_turn_62) (hq := ?_)
        refine ⟨congrArg nI ?_, rfl⟩
        first | exact ztn_a c_45 c_49 | exact ztn_b c_45 c_49 | exact ztn_c (by omega) c_45 (by omega) | exact ztn_d (by omega) c_45 c_68
  · refine y_aload_n hC dX3_turn_7 (i := 0) rfl rfl ?_
    refine y_get hC fX3_31 dX3_turn_8 (k := a) ha hg rfl ?_
    refine y_aload_n hC dX3_turn_11 (i := 0) rfl rfl ?_
    refine y_get hC fX3_28 dX3_turn_12 (k := a) ha hg rfl ?_
    refine y_iload_n hC dX3_turn_15 (i := 1) rfl rfl ?_
    refine y_iadd_n hC dX3_turn_16 ?_
    refine y_aload_n hC dX3_turn_17 (i := 0) rfl rfl ?_
    refine y_get hC fX3_18 dX3_turn_18 (k := a) ha hg rfl ?_
    refine y_idiv_n hC dX3_turn_21 (by omega) (by omega) (by omega) ?_
    refine y_iadd_n hC dX3_turn_22 ?_
    refine y_goto (tgt := 30) hC dX3_turn_23 (by decide) ?_
    have hmd := zmd_lt (ru := ru) (t := t) hsp (show ti < 31 by omega) hst ht
    have hf2 := zfs_pos (n := la - f + 1) (wy := wy) (by omega)
    have hf3 := zfs_le (n := la - f + 1) (wy := wy) (by omega) (by omega)
    refine y_top (y := nI (mdN sp ru ti st t)) (congrArg nI (by unfold mdN; split <;> omega)) ?_
    refine y_istore_n hC dX3_turn_30 (i := 2) rfl (Nat.le_of_ble_eq_true rfl) rfl (lo' := [some (rf E (a)), some (.int (nI (t))), some (.int (nI (mdN sp ru ti st t))), none]) rfl ?_
    refine y_iload_n hC dX3_turn_31 (i := 2) rfl rfl ?_
    refine y_aload_n hC dX3_turn_32 (i := 0) rfl rfl ?_
    refine y_callV hC mX3_fullSteps kX3_41 dX3_turn_33 (b := a) (As := []) (rest := [.int (nI (mdN sp ru ti st t))]) (c_X3_fullSteps l E _ a ha f la sp wy ru ti st hf hla hsp hsp2 hwy hru hti hst hg) ha hg rfl rfl rfl (Nat.le_of_ble_eq_true rfl) ⟨Nat.le_of_ble_eq_true rfl, Nat.le_of_ble_eq_true rfl⟩ (pk_i ?_)
    rintro r_33 g_33 ⟨hr_33, hq_33⟩
    obtain rfl := hq_33.symm
    rw [hr_33]
    clear hr_33 r_33
    refine y_callS hC mJ9_floorMod kX3_45 dX3_turn_36 (As := [.int (nI (mdN sp ru ti st t)), .int (nI (fsN (la - f + 1) wy))]) (rest := []) (c_J9_floorMod l E _ (nI (mdN sp ru ti st t)) (fsN (la - f + 1) wy) (by omega) (by omega) (by rw [tI (by omega)]; omega) (by rw [tI (by omega)]; omega)) rfl rfl rfl (Nat.le_of_ble_eq_true rfl) ⟨Nat.le_of_ble_eq_true rfl, Nat.le_of_ble_eq_true rfl⟩ (pk_i ?_)
    rintro r_36 g_36 ⟨rfl, rfl⟩
    rw [zfl_n (by omega) (by omega) (by omega)]
    have hph := Nat.mod_lt (mdN sp ru ti st t) (show 0 < fsN (la - f + 1) wy by omega)
    refine y_istore_n hC dX3_turn_39 (i := 3) rfl (Nat.le_of_ble_eq_true rfl) rfl (lo' := [some (rf E (a)), some (.int (nI (t))), some (.int (nI (mdN sp ru ti st t))), some (.int (nI (mdN sp ru ti st t % fsN (la - f + 1) wy)))]) rfl ?_
    refine y_aload_n hC dX3_turn_40 (i := 0) rfl rfl ?_
    refine y_get hC fX3_21 dX3_turn_41 (k := a) ha hg rfl ?_
    refine y_iconst (v := nI 1) hC dX3_turn_44 (by decide) ?_
    refine y_icmp_ne_n (tgt := 63) hC dX3_turn_45 (by decide) (by omega) (by omega) (fun c_45 => ?_) (fun c_45 => ?_)
    · refine y_iload_n hC dX3_turn_63 (i := 3) rfl rfl ?_
      refine y_aload_n hC dX3_turn_64 (i := 0) rfl rfl ?_
      refine y_callV hC mX3_places kX3_51 dX3_turn_65 (b := a) (As := []) (rest := [.int (nI (mdN sp ru ti st t % fsN (la - f + 1) wy))]) (c_X3_places l E _ a ha f la sp wy ru ti st hf hla hsp hsp2 hwy hru hti hst hg) ha hg rfl rfl rfl (Nat.le_of_ble_eq_true rfl) ⟨Nat.le_of_ble_eq_true rfl, Nat.le_of_ble_eq_true rfl⟩ (pk_i ?_)
      rintro r_65 g_65 ⟨hr_65, hq_65⟩
      obtain rfl := hq_65.symm
      rw [hr_65]
      clear hr_65 r_65
      refine y_icmp_ge_n (tgt := 75) hC dX3_turn_68 (by decide) (by omega) (by omega) (fun c_68 => ?_) (fun c_68 => ?_)
      · refine y_aload_n hC dX3_turn_75 (i := 0) rfl rfl ?_
        refine y_callV hC mX3_fullSteps kX3_41 dX3_turn_76 (b := a) (As := []) (rest := []) (c_X3_fullSteps l E _ a ha f la sp wy ru ti st hf hla hsp hsp2 hwy hru hti hst hg) ha hg rfl rfl rfl (Nat.le_of_ble_eq_true rfl) ⟨Nat.le_of_ble_eq_true rfl, Nat.le_of_ble_eq_true rfl⟩ (pk_i ?_)
        rintro r_76 g_76 ⟨hr_76, hq_76⟩
        obtain rfl := hq_76.symm
        rw [hr_76]
        clear hr_76 r_76
        refine y_iload_n hC dX3_turn_79 (i := 3) rfl rfl ?_
        refine y_isub_n hC dX3_turn_80 (Nat.le_of_lt hph) ?_
        refine y_iret (hC := hC) (hd := dX3_turn_81) (hq := ?_)
        refine ⟨congrArg nI ?_, rfl⟩
        first | exact ztn_a c_45 c_49 | exact ztn_b c_45 c_49 | exact ztn_c (by omega) c_45 (by omega) | exact ztn_d (by omega) c_45 c_68
      · refine y_iload_n hC dX3_turn_71 (i := 3) rfl rfl ?_
        refine y_goto (tgt := 81) hC dX3_turn_72 (by decide) ?_
        refine y_iret (hC := hC) (hd := dX3_turn_81) (hq := ?_)
        refine ⟨congrArg nI ?_, rfl⟩
        first | exact ztn_a c_45 c_49 | exact ztn_b c_45 c_49 | exact ztn_c (by omega) c_45 (by omega) | exact ztn_d (by omega) c_45 c_68
    · refine y_iload_n hC dX3_turn_48 (i := 3) rfl rfl ?_
      refine y_if_ne_n (tgt := 56) hC dX3_turn_49 (by decide) (by omega) (fun c_49 => ?_) (fun c_49 => ?_)
      · refine y_aload_n hC dX3_turn_56 (i := 0) rfl rfl ?_
        refine y_callV hC mX3_places kX3_51 dX3_turn_57 (b := a) (As := []) (rest := []) (c_X3_places l E _ a ha f la sp wy ru ti st hf hla hsp hsp2 hwy hru hti hst hg) ha hg rfl rfl rfl (Nat.le_of_ble_eq_true rfl) ⟨Nat.le_of_ble_eq_true rfl, Nat.le_of_ble_eq_true rfl⟩ (pk_i ?_)
        rintro r_57 g_57 ⟨hr_57, hq_57⟩
        obtain rfl := hq_57.symm
        rw [hr_57]
        clear hr_57 r_57
        refine y_iload_n hC dX3_turn_60 (i := 3) rfl rfl ?_
        refine y_isub_n hC dX3_turn_61 (by (unfold fsN at hph ⊢; split at hph <;> split <;> omega)) ?_
        refine y_iret (hC := hC) (hd := dX3_turn_62) (hq := ?_)
        refine ⟨congrArg nI ?_, rfl⟩
        first | exact ztn_a c_45 c_49 | exact ztn_b c_45 c_49 | exact ztn_c (by omega) c_45 (by omega) | exact ztn_d (by omega) c_45 c_68
      · refine y_iconst (v := nI 0) hC dX3_turn_52 (by decide) ?_
        refine y_goto (tgt := 62) hC dX3_turn_53 (by decide) ?_
        refine y_iret (hC := hC) (hd := dX3_turn_62) (hq := ?_)
        refine ⟨congrArg nI ?_, rfl⟩
        first | exact ztn_a c_45 c_49 | exact ztn_b c_45 c_49 | exact ztn_c (by omega) c_45 (by omega) | exact ztn_d (by omega) c_45 c_68

theorem zsr {f n p tn : Nat} (hp : f ≤ p) (hp2 : p < 64) (hn : 2 ≤ n) (hn2 : n ≤ 64) (htn : tn < n) : (nI p - nI f - nI tn).toInt = (p : Int) - f - tn ∧ Int32.ofInt ((nI p - nI f - nI tn).toInt % n) = nI ((p - f + n - tn) % n) := by
  have e1 : (nI p - nI f).toInt = (p : Int) - f := sI (by omega) (by omega)
  have e2 : (nI p - nI f - nI tn).toInt = (p : Int) - f - tn := by
    rw [zsubI] <;> rw [e1, tI (by omega)] <;> omega
  refine ⟨e2, ?_⟩
  rw [e2]
  have e3 : ((p : Int) - f - tn) % n = (((p - f + n - tn) % n : Nat) : Int) := by
    have e4 : (p : Int) - f - tn = ((p - f + n - tn : Nat) : Int) + (n : Int) * (-1) := by omega
    rw [e4, Int.add_mul_emod_self_left]
    exact (Int.natCast_emod _ _).symm
  rw [e3]
  exact rfl
theorem dX3_source_0 : decode cX3_source 0 = .ok (.aload_n 0, 1) := by decide +kernel
theorem dX3_source_1 : decode cX3_source 1 = .ok (.getfield 9, 3) := by decide +kernel
theorem dX3_source_4 : decode cX3_source 4 = .ok (.iload_n 1, 1) := by decide +kernel
theorem dX3_source_5 : decode cX3_source 5 = .ok (.aload_n 0, 1) := by decide +kernel
theorem dX3_source_6 : decode cX3_source 6 = .ok (.getfield 9, 3) := by decide +kernel
theorem dX3_source_9 : decode cX3_source 9 = .ok (.isub, 1) := by decide +kernel
theorem dX3_source_10 : decode cX3_source 10 = .ok (.aload_n 0, 1) := by decide +kernel
theorem dX3_source_11 : decode cX3_source 11 = .ok (.iload_n 2, 1) := by decide +kernel
theorem dX3_source_12 : decode cX3_source 12 = .ok (.invokevirtual 54, 3) := by decide +kernel
theorem dX3_source_15 : decode cX3_source 15 = .ok (.isub, 1) := by decide +kernel
theorem dX3_source_16 : decode cX3_source 16 = .ok (.aload_n 0, 1) := by decide +kernel
theorem dX3_source_17 : decode cX3_source 17 = .ok (.invokevirtual 51, 3) := by decide +kernel
theorem dX3_source_20 : decode cX3_source 20 = .ok (.invokestatic 45, 3) := by decide +kernel
theorem dX3_source_23 : decode cX3_source 23 = .ok (.iadd, 1) := by decide +kernel
theorem dX3_source_24 : decode cX3_source 24 = .ok (.ireturn, 1) := by decide +kernel
set_option maxHeartbeats 4000000 in
set_option maxRecDepth 100000 in
theorem c_X3_source (l : Launch) (E : gE) (g : Mem) (a : Nat) (ha : a < eK E) (f la sp wy ru ti st : Nat) (hf : f < la) (hla : la < 32) (hsp : 0 < sp) (hsp2 : sp ≤ 30) (hwy : wy ≤ 2) (hru : ru ≤ 1) (hti : ti < sp) (hst : st < 1000000000) (hg : g a = oB 3 [.int (nI (f)), .int (nI (la)), .int (nI (sp)), .int (nI (wy)), .int (nI (ru)), .int (nI (ti)), .int (nI (st))]) (p t : Nat) (hp : f ≤ p) (hp2 : p ≤ la) (ht : t ≤ 5000) : Mt l E yX3_source cX3_source 3 (some .int) 2 45 [rf E (a), .int (nI (p)), .int (nI (t))] g (pI (fun r g' => r = nI (srN f (la - f + 1) p (tnN (la - f + 1) wy (mdN sp ru ti st t))) ∧ g' = g)) := by
  have htn := tnN_lt (n := la - f + 1) (wy := wy) (m := mdN sp ru ti st t) (by omega)
  obtain ⟨hz1, hz2⟩ := zsr (f := f) (n := la - f + 1) (p := p) hp (by omega) (by omega) (by omega) htn
  refine mt_go (own := RX3) (by decide) rfl (lo := [some (rf E (a)), some (.int (nI (p))), some (.int (nI (t)))]) rfl (Nat.le_of_ble_eq_true rfl) (fun X hC => ?_)
  refine y_aload_n hC dX3_source_0 (i := 0) rfl rfl ?_
  refine y_get hC fX3_9 dX3_source_1 (k := a) ha hg rfl ?_
  refine y_iload_n hC dX3_source_4 (i := 1) rfl rfl ?_
  refine y_aload_n hC dX3_source_5 (i := 0) rfl rfl ?_
  refine y_get hC fX3_9 dX3_source_6 (k := a) ha hg rfl ?_
  refine y_isub hC dX3_source_9 ?_
  refine y_aload_n hC dX3_source_10 (i := 0) rfl rfl ?_
  refine y_iload_n hC dX3_source_11 (i := 2) rfl rfl ?_
  refine y_callV hC mX3_turn kX3_54 dX3_source_12 (b := a) (As := [.int (nI (t))]) (rest := [.int (nI (p) - nI (f)), .int (nI (f))]) (c_X3_turn l E _ a ha f la sp wy ru ti st hf hla hsp hsp2 hwy hru hti hst hg t ht) ha hg rfl rfl rfl (Nat.le_of_ble_eq_true rfl) ⟨Nat.le_of_ble_eq_true rfl, Nat.le_of_ble_eq_true rfl⟩ (pk_i ?_)
  rintro r_12 g_12 ⟨hr_12, hq_12⟩
  obtain rfl := hq_12.symm
  rw [hr_12]
  clear hr_12 r_12
  refine y_isub hC dX3_source_15 ?_
  refine y_aload_n hC dX3_source_16 (i := 0) rfl rfl ?_
  refine y_callV hC mX3_places kX3_51 dX3_source_17 (b := a) (As := []) (rest := [.int ((nI (p) - nI (f)) - nI (tnN (la - f + 1) wy (mdN sp ru ti st t))), .int (nI (f))]) (c_X3_places l E _ a ha f la sp wy ru ti st hf hla hsp hsp2 hwy hru hti hst hg) ha hg rfl rfl rfl (Nat.le_of_ble_eq_true rfl) ⟨Nat.le_of_ble_eq_true rfl, Nat.le_of_ble_eq_true rfl⟩ (pk_i ?_)
  rintro r_17 g_17 ⟨hr_17, hq_17⟩
  obtain rfl := hq_17.symm
  rw [hr_17]
  clear hr_17 r_17
  refine y_callS hC mJ9_floorMod kX3_45 dX3_source_20 (As := [.int ((nI (p) - nI (f)) - nI (tnN (la - f + 1) wy (mdN sp ru ti st t))), .int (nI (la - f + 1))]) (rest := [.int (nI (f))]) (c_J9_floorMod l E _ (nI (p) - nI (f) - nI (tnN (la - f + 1) wy (mdN sp ru ti st t))) (la - f + 1) (by omega) (by omega) (by rw [hz1]; omega) (by rw [hz1]; omega)) rfl rfl rfl (Nat.le_of_ble_eq_true rfl) ⟨Nat.le_of_ble_eq_true rfl, Nat.le_of_ble_eq_true rfl⟩ (pk_i ?_)
  rintro r_20 g_20 ⟨rfl, rfl⟩
  rw [hz2]
  refine y_iadd_n hC dX3_source_23 ?_
  refine y_iret (hC := hC) (hd := dX3_source_24) (hq := ?_)
  exact ⟨rfl, rfl⟩

theorem dX5_isPlace_0 : decode cX5_isPlace 0 = .ok (.iload_n 0, 1) := by decide +kernel
theorem dX5_isPlace_1 : decode cX5_isPlace 1 = .ok (.ifCond .lt 13, 3) := by decide +kernel
theorem dX5_isPlace_4 : decode cX5_isPlace 4 = .ok (.iload_n 0, 1) := by decide +kernel
theorem dX5_isPlace_5 : decode cX5_isPlace 5 = .ok (.bipush 32, 2) := by decide +kernel
theorem dX5_isPlace_7 : decode cX5_isPlace 7 = .ok (.if_icmp .ge 7, 3) := by decide +kernel
theorem dX5_isPlace_10 : decode cX5_isPlace 10 = .ok (.iconst 1, 1) := by decide +kernel
theorem dX5_isPlace_11 : decode cX5_isPlace 11 = .ok (.goto 4, 3) := by decide +kernel
theorem dX5_isPlace_14 : decode cX5_isPlace 14 = .ok (.iconst 0, 1) := by decide +kernel
theorem dX5_isPlace_15 : decode cX5_isPlace 15 = .ok (.ireturn, 1) := by decide +kernel
set_option maxHeartbeats 4000000 in
set_option maxRecDepth 100000 in
theorem c_X5_isPlace (l : Launch) (E : gE) (g : Mem) (x : Int32) : Mt l E yX5_isPlace cX5_isPlace 1 (some .boolean) 0 0 [.int (x)] g (pI (fun r g' => r = bI (0 ≤ x.toInt ∧ x.toInt ≤ 31) ∧ g' = g)) := by
  refine mt_go (own := RX5) (by decide) rfl (lo := [some (.int (x))]) rfl (Nat.le_of_ble_eq_true rfl) (fun X hC => ?_)
  refine y_iload_n hC dX5_isPlace_0 (i := 0) rfl rfl ?_
  refine y_if_lt (tgt := 14) hC dX5_isPlace_1 (by decide) (fun c_1 => ?_) (fun c_1 => ?_)
  · refine y_iconst (v := nI 0) hC dX5_isPlace_14 (by decide) ?_
    refine y_zret (hrt := rfl) (hn := rfl) (hC := hC) (hd := dX5_isPlace_15) (hq := ?_)
    refine ⟨?_, rfl⟩
    simp only [Int32.lt_iff_toInt_lt, Int32.le_iff_toInt_le, Int32.toInt_zero, tI, Nat.reduceLT] at *
    first | exact (bI_t (by omega)).symm | exact (bI_f (by omega)).symm
  · refine y_iload_n hC dX5_isPlace_4 (i := 0) rfl rfl ?_
    refine y_bipush (v := nI 32) hC dX5_isPlace_5 (by decide) ?_
    refine y_icmp_ge (tgt := 14) hC dX5_isPlace_7 (by decide) (fun c_7 => ?_) (fun c_7 => ?_)
    · refine y_iconst (v := nI 0) hC dX5_isPlace_14 (by decide) ?_
      refine y_zret (hrt := rfl) (hn := rfl) (hC := hC) (hd := dX5_isPlace_15) (hq := ?_)
      refine ⟨?_, rfl⟩
      simp only [Int32.lt_iff_toInt_lt, Int32.le_iff_toInt_le, Int32.toInt_zero, tI, Nat.reduceLT] at *
      first | exact (bI_t (by omega)).symm | exact (bI_f (by omega)).symm
    · refine y_iconst (v := nI 1) hC dX5_isPlace_10 (by decide) ?_
      refine y_goto (tgt := 15) hC dX5_isPlace_11 (by decide) ?_
      refine y_zret (hrt := rfl) (hn := rfl) (hC := hC) (hd := dX5_isPlace_15) (hq := ?_)
      refine ⟨?_, rfl⟩
      simp only [Int32.lt_iff_toInt_lt, Int32.le_iff_toInt_le, Int32.toInt_zero, tI, Nat.reduceLT] at *
      first | exact (bI_t (by omega)).symm | exact (bI_f (by omega)).symm

theorem dX5_isColour_0 : decode cX5_isColour 0 = .ok (.iload_n 0, 1) := by decide +kernel
theorem dX5_isColour_1 : decode cX5_isColour 1 = .ok (.ifCond .lt 14, 3) := by decide +kernel
theorem dX5_isColour_4 : decode cX5_isColour 4 = .ok (.iload_n 0, 1) := by decide +kernel
theorem dX5_isColour_5 : decode cX5_isColour 5 = .ok (.ldc_w 264, 3) := by decide +kernel
theorem dX5_isColour_8 : decode cX5_isColour 8 = .ok (.if_icmp .ge 7, 3) := by decide +kernel
theorem dX5_isColour_11 : decode cX5_isColour 11 = .ok (.iconst 1, 1) := by decide +kernel
theorem dX5_isColour_12 : decode cX5_isColour 12 = .ok (.goto 4, 3) := by decide +kernel
theorem dX5_isColour_15 : decode cX5_isColour 15 = .ok (.iconst 0, 1) := by decide +kernel
theorem dX5_isColour_16 : decode cX5_isColour 16 = .ok (.ireturn, 1) := by decide +kernel
set_option maxHeartbeats 4000000 in
set_option maxRecDepth 100000 in
theorem c_X5_isColour (l : Launch) (E : gE) (g : Mem) (x : Int32) : Mt l E yX5_isColour cX5_isColour 1 (some .boolean) 0 0 [.int (x)] g (pI (fun r g' => r = bI (0 ≤ x.toInt ∧ x.toInt ≤ 262143) ∧ g' = g)) := by
  refine mt_go (own := RX5) (by decide) rfl (lo := [some (.int (x))]) rfl (Nat.le_of_ble_eq_true rfl) (fun X hC => ?_)
  refine y_iload_n hC dX5_isColour_0 (i := 0) rfl rfl ?_
  refine y_if_lt (tgt := 15) hC dX5_isColour_1 (by decide) (fun c_1 => ?_) (fun c_1 => ?_)
  · refine y_iconst (v := nI 0) hC dX5_isColour_15 (by decide) ?_
    refine y_zret (hrt := rfl) (hn := rfl) (hC := hC) (hd := dX5_isColour_16) (hq := ?_)
    refine ⟨?_, rfl⟩
    simp only [Int32.lt_iff_toInt_lt, Int32.le_iff_toInt_le, Int32.toInt_zero, tI, Nat.reduceLT] at *
    first | exact (bI_t (by omega)).symm | exact (bI_f (by omega)).symm
  · refine y_iload_n hC dX5_isColour_4 (i := 0) rfl rfl ?_
    refine y_ldcw hC cnX5_264 dX5_isColour_5 ?_
    refine y_top (show (262144 : Int32) = nI 262144 from by decide) ?_
    refine y_icmp_ge (tgt := 15) hC dX5_isColour_8 (by decide) (fun c_8 => ?_) (fun c_8 => ?_)
    · refine y_iconst (v := nI 0) hC dX5_isColour_15 (by decide) ?_
      refine y_zret (hrt := rfl) (hn := rfl) (hC := hC) (hd := dX5_isColour_16) (hq := ?_)
      refine ⟨?_, rfl⟩
      simp only [Int32.lt_iff_toInt_lt, Int32.le_iff_toInt_le, Int32.toInt_zero, tI, Nat.reduceLT] at *
      first | exact (bI_t (by omega)).symm | exact (bI_f (by omega)).symm
    · refine y_iconst (v := nI 1) hC dX5_isColour_11 (by decide) ?_
      refine y_goto (tgt := 16) hC dX5_isColour_12 (by decide) ?_
      refine y_zret (hrt := rfl) (hn := rfl) (hC := hC) (hd := dX5_isColour_16) (hq := ?_)
      refine ⟨?_, rfl⟩
      simp only [Int32.lt_iff_toInt_lt, Int32.le_iff_toInt_le, Int32.toInt_zero, tI, Nat.reduceLT] at *
      first | exact (bI_t (by omega)).symm | exact (bI_f (by omega)).symm

theorem dX5_isLength_0 : decode cX5_isLength 0 = .ok (.iload_n 0, 1) := by decide +kernel
theorem dX5_isLength_1 : decode cX5_isLength 1 = .ok (.iconst 1, 1) := by decide +kernel
theorem dX5_isLength_2 : decode cX5_isLength 2 = .ok (.if_icmp .lt 13, 3) := by decide +kernel
theorem dX5_isLength_5 : decode cX5_isLength 5 = .ok (.iload_n 0, 1) := by decide +kernel
theorem dX5_isLength_6 : decode cX5_isLength 6 = .ok (.bipush 30, 2) := by decide +kernel
theorem dX5_isLength_8 : decode cX5_isLength 8 = .ok (.if_icmp .gt 7, 3) := by decide +kernel
theorem dX5_isLength_11 : decode cX5_isLength 11 = .ok (.iconst 1, 1) := by decide +kernel
theorem dX5_isLength_12 : decode cX5_isLength 12 = .ok (.goto 4, 3) := by decide +kernel
theorem dX5_isLength_15 : decode cX5_isLength 15 = .ok (.iconst 0, 1) := by decide +kernel
theorem dX5_isLength_16 : decode cX5_isLength 16 = .ok (.ireturn, 1) := by decide +kernel
set_option maxHeartbeats 4000000 in
set_option maxRecDepth 100000 in
theorem c_X5_isLength (l : Launch) (E : gE) (g : Mem) (x : Int32) : Mt l E yX5_isLength cX5_isLength 1 (some .boolean) 0 0 [.int (x)] g (pI (fun r g' => r = bI (1 ≤ x.toInt ∧ x.toInt ≤ 30) ∧ g' = g)) := by
  refine mt_go (own := RX5) (by decide) rfl (lo := [some (.int (x))]) rfl (Nat.le_of_ble_eq_true rfl) (fun X hC => ?_)
  refine y_iload_n hC dX5_isLength_0 (i := 0) rfl rfl ?_
  refine y_iconst (v := nI 1) hC dX5_isLength_1 (by decide) ?_
  refine y_icmp_lt (tgt := 15) hC dX5_isLength_2 (by decide) (fun c_2 => ?_) (fun c_2 => ?_)
  · refine y_iconst (v := nI 0) hC dX5_isLength_15 (by decide) ?_
    refine y_zret (hrt := rfl) (hn := rfl) (hC := hC) (hd := dX5_isLength_16) (hq := ?_)
    refine ⟨?_, rfl⟩
    simp only [Int32.lt_iff_toInt_lt, Int32.le_iff_toInt_le, Int32.toInt_zero, tI, Nat.reduceLT] at *
    first | exact (bI_t (by omega)).symm | exact (bI_f (by omega)).symm
  · refine y_iload_n hC dX5_isLength_5 (i := 0) rfl rfl ?_
    refine y_bipush (v := nI 30) hC dX5_isLength_6 (by decide) ?_
    refine y_icmp_gt (tgt := 15) hC dX5_isLength_8 (by decide) (fun c_8 => ?_) (fun c_8 => ?_)
    · refine y_iconst (v := nI 0) hC dX5_isLength_15 (by decide) ?_
      refine y_zret (hrt := rfl) (hn := rfl) (hC := hC) (hd := dX5_isLength_16) (hq := ?_)
      refine ⟨?_, rfl⟩
      simp only [Int32.lt_iff_toInt_lt, Int32.le_iff_toInt_le, Int32.toInt_zero, tI, Nat.reduceLT] at *
      first | exact (bI_t (by omega)).symm | exact (bI_f (by omega)).symm
    · refine y_iconst (v := nI 1) hC dX5_isLength_11 (by decide) ?_
      refine y_goto (tgt := 16) hC dX5_isLength_12 (by decide) ?_
      refine y_zret (hrt := rfl) (hn := rfl) (hC := hC) (hd := dX5_isLength_16) (hq := ?_)
      refine ⟨?_, rfl⟩
      simp only [Int32.lt_iff_toInt_lt, Int32.le_iff_toInt_le, Int32.toInt_zero, tI, Nat.reduceLT] at *
      first | exact (bI_t (by omega)).symm | exact (bI_f (by omega)).symm

theorem dX5_isWay_0 : decode cX5_isWay 0 = .ok (.iload_n 0, 1) := by decide +kernel
theorem dX5_isWay_1 : decode cX5_isWay 1 = .ok (.ifCond .lt 12, 3) := by decide +kernel
theorem dX5_isWay_4 : decode cX5_isWay 4 = .ok (.iload_n 0, 1) := by decide +kernel
theorem dX5_isWay_5 : decode cX5_isWay 5 = .ok (.iconst 2, 1) := by decide +kernel
theorem dX5_isWay_6 : decode cX5_isWay 6 = .ok (.if_icmp .gt 7, 3) := by decide +kernel
theorem dX5_isWay_9 : decode cX5_isWay 9 = .ok (.iconst 1, 1) := by decide +kernel
theorem dX5_isWay_10 : decode cX5_isWay 10 = .ok (.goto 4, 3) := by decide +kernel
theorem dX5_isWay_13 : decode cX5_isWay 13 = .ok (.iconst 0, 1) := by decide +kernel
theorem dX5_isWay_14 : decode cX5_isWay 14 = .ok (.ireturn, 1) := by decide +kernel
set_option maxHeartbeats 4000000 in
set_option maxRecDepth 100000 in
theorem c_X5_isWay (l : Launch) (E : gE) (g : Mem) (x : Int32) : Mt l E yX5_isWay cX5_isWay 1 (some .boolean) 0 0 [.int (x)] g (pI (fun r g' => r = bI (0 ≤ x.toInt ∧ x.toInt ≤ 2) ∧ g' = g)) := by
  refine mt_go (own := RX5) (by decide) rfl (lo := [some (.int (x))]) rfl (Nat.le_of_ble_eq_true rfl) (fun X hC => ?_)
  refine y_iload_n hC dX5_isWay_0 (i := 0) rfl rfl ?_
  refine y_if_lt (tgt := 13) hC dX5_isWay_1 (by decide) (fun c_1 => ?_) (fun c_1 => ?_)
  · refine y_iconst (v := nI 0) hC dX5_isWay_13 (by decide) ?_
    refine y_zret (hrt := rfl) (hn := rfl) (hC := hC) (hd := dX5_isWay_14) (hq := ?_)
    refine ⟨?_, rfl⟩
    simp only [Int32.lt_iff_toInt_lt, Int32.le_iff_toInt_le, Int32.toInt_zero, tI, Nat.reduceLT] at *
    first | exact (bI_t (by omega)).symm | exact (bI_f (by omega)).symm
  · refine y_iload_n hC dX5_isWay_4 (i := 0) rfl rfl ?_
    refine y_iconst (v := nI 2) hC dX5_isWay_5 (by decide) ?_
    refine y_icmp_gt (tgt := 13) hC dX5_isWay_6 (by decide) (fun c_6 => ?_) (fun c_6 => ?_)
    · refine y_iconst (v := nI 0) hC dX5_isWay_13 (by decide) ?_
      refine y_zret (hrt := rfl) (hn := rfl) (hC := hC) (hd := dX5_isWay_14) (hq := ?_)
      refine ⟨?_, rfl⟩
      simp only [Int32.lt_iff_toInt_lt, Int32.le_iff_toInt_le, Int32.toInt_zero, tI, Nat.reduceLT] at *
      first | exact (bI_t (by omega)).symm | exact (bI_f (by omega)).symm
    · refine y_iconst (v := nI 1) hC dX5_isWay_9 (by decide) ?_
      refine y_goto (tgt := 14) hC dX5_isWay_10 (by decide) ?_
      refine y_zret (hrt := rfl) (hn := rfl) (hC := hC) (hd := dX5_isWay_14) (hq := ?_)
      refine ⟨?_, rfl⟩
      simp only [Int32.lt_iff_toInt_lt, Int32.le_iff_toInt_le, Int32.toInt_zero, tI, Nat.reduceLT] at *
      first | exact (bI_t (by omega)).symm | exact (bI_f (by omega)).symm

theorem dX5_isLater_0 : decode cX5_isLater 0 = .ok (.iload_n 0, 1) := by decide +kernel
theorem dX5_isLater_1 : decode cX5_isLater 1 = .ok (.ifCond .lt 14, 3) := by decide +kernel
theorem dX5_isLater_4 : decode cX5_isLater 4 = .ok (.iload_n 0, 1) := by decide +kernel
theorem dX5_isLater_5 : decode cX5_isLater 5 = .ok (.sipush 1000, 3) := by decide +kernel
theorem dX5_isLater_8 : decode cX5_isLater 8 = .ok (.if_icmp .gt 7, 3) := by decide +kernel
theorem dX5_isLater_11 : decode cX5_isLater 11 = .ok (.iconst 1, 1) := by decide +kernel
theorem dX5_isLater_12 : decode cX5_isLater 12 = .ok (.goto 4, 3) := by decide +kernel
theorem dX5_isLater_15 : decode cX5_isLater 15 = .ok (.iconst 0, 1) := by decide +kernel
theorem dX5_isLater_16 : decode cX5_isLater 16 = .ok (.ireturn, 1) := by decide +kernel
set_option maxHeartbeats 4000000 in
set_option maxRecDepth 100000 in
theorem c_X5_isLater (l : Launch) (E : gE) (g : Mem) (x : Int32) : Mt l E yX5_isLater cX5_isLater 1 (some .boolean) 0 0 [.int (x)] g (pI (fun r g' => r = bI (0 ≤ x.toInt ∧ x.toInt ≤ 1000) ∧ g' = g)) := by
  refine mt_go (own := RX5) (by decide) rfl (lo := [some (.int (x))]) rfl (Nat.le_of_ble_eq_true rfl) (fun X hC => ?_)
  refine y_iload_n hC dX5_isLater_0 (i := 0) rfl rfl ?_
  refine y_if_lt (tgt := 15) hC dX5_isLater_1 (by decide) (fun c_1 => ?_) (fun c_1 => ?_)
  · refine y_iconst (v := nI 0) hC dX5_isLater_15 (by decide) ?_
    refine y_zret (hrt := rfl) (hn := rfl) (hC := hC) (hd := dX5_isLater_16) (hq := ?_)
    refine ⟨?_, rfl⟩
    simp only [Int32.lt_iff_toInt_lt, Int32.le_iff_toInt_le, Int32.toInt_zero, tI, Nat.reduceLT] at *
    first | exact (bI_t (by omega)).symm | exact (bI_f (by omega)).symm
  · refine y_iload_n hC dX5_isLater_4 (i := 0) rfl rfl ?_
    refine y_sipush (v := nI 1000) hC dX5_isLater_5 (by decide) ?_
    refine y_icmp_gt (tgt := 15) hC dX5_isLater_8 (by decide) (fun c_8 => ?_) (fun c_8 => ?_)
    · refine y_iconst (v := nI 0) hC dX5_isLater_15 (by decide) ?_
      refine y_zret (hrt := rfl) (hn := rfl) (hC := hC) (hd := dX5_isLater_16) (hq := ?_)
      refine ⟨?_, rfl⟩
      simp only [Int32.lt_iff_toInt_lt, Int32.le_iff_toInt_le, Int32.toInt_zero, tI, Nat.reduceLT] at *
      first | exact (bI_t (by omega)).symm | exact (bI_f (by omega)).symm
    · refine y_iconst (v := nI 1) hC dX5_isLater_11 (by decide) ?_
      refine y_goto (tgt := 16) hC dX5_isLater_12 (by decide) ?_
      refine y_zret (hrt := rfl) (hn := rfl) (hC := hC) (hd := dX5_isLater_16) (hq := ?_)
      refine ⟨?_, rfl⟩
      simp only [Int32.lt_iff_toInt_lt, Int32.le_iff_toInt_le, Int32.toInt_zero, tI, Nat.reduceLT] at *
      first | exact (bI_t (by omega)).symm | exact (bI_f (by omega)).symm

theorem dX5_isPixel_0 : decode cX5_isPixel 0 = .ok (.iload_n 0, 1) := by decide +kernel
theorem dX5_isPixel_1 : decode cX5_isPixel 1 = .ok (.ifCond .lt 23, 3) := by decide +kernel
theorem dX5_isPixel_4 : decode cX5_isPixel 4 = .ok (.iload_n 0, 1) := by decide +kernel
theorem dX5_isPixel_5 : decode cX5_isPixel 5 = .ok (.bipush 8, 2) := by decide +kernel
theorem dX5_isPixel_7 : decode cX5_isPixel 7 = .ok (.if_icmp .ge 17, 3) := by decide +kernel
theorem dX5_isPixel_10 : decode cX5_isPixel 10 = .ok (.iload_n 1, 1) := by decide +kernel
theorem dX5_isPixel_11 : decode cX5_isPixel 11 = .ok (.ifCond .lt 13, 3) := by decide +kernel
theorem dX5_isPixel_14 : decode cX5_isPixel 14 = .ok (.iload_n 1, 1) := by decide +kernel
theorem dX5_isPixel_15 : decode cX5_isPixel 15 = .ok (.bipush 8, 2) := by decide +kernel
theorem dX5_isPixel_17 : decode cX5_isPixel 17 = .ok (.if_icmp .ge 7, 3) := by decide +kernel
theorem dX5_isPixel_20 : decode cX5_isPixel 20 = .ok (.iconst 1, 1) := by decide +kernel
theorem dX5_isPixel_21 : decode cX5_isPixel 21 = .ok (.goto 4, 3) := by decide +kernel
theorem dX5_isPixel_24 : decode cX5_isPixel 24 = .ok (.iconst 0, 1) := by decide +kernel
theorem dX5_isPixel_25 : decode cX5_isPixel 25 = .ok (.ireturn, 1) := by decide +kernel
set_option maxHeartbeats 4000000 in
set_option maxRecDepth 100000 in
theorem c_X5_isPixel (l : Launch) (E : gE) (g : Mem) (x y : Int32) : Mt l E yX5_isPixel cX5_isPixel 2 (some .boolean) 0 0 [.int (x), .int (y)] g (pI (fun r g' => r = bI ((0 ≤ x.toInt ∧ x.toInt ≤ 7) ∧ 0 ≤ y.toInt ∧ y.toInt ≤ 7) ∧ g' = g)) := by
  refine mt_go (own := RX5) (by decide) rfl (lo := [some (.int (x)), some (.int (y))]) rfl (Nat.le_of_ble_eq_true rfl) (fun X hC => ?_)
  refine y_iload_n hC dX5_isPixel_0 (i := 0) rfl rfl ?_
  refine y_if_lt (tgt := 24) hC dX5_isPixel_1 (by decide) (fun c_1 => ?_) (fun c_1 => ?_)
  · refine y_iconst (v := nI 0) hC dX5_isPixel_24 (by decide) ?_
    refine y_zret (hrt := rfl) (hn := rfl) (hC := hC) (hd := dX5_isPixel_25) (hq := ?_)
    refine ⟨?_, rfl⟩
    simp only [Int32.lt_iff_toInt_lt, Int32.le_iff_toInt_le, Int32.toInt_zero, tI, Nat.reduceLT] at *
    first | exact (bI_t (by omega)).symm | exact (bI_f (by omega)).symm
  · refine y_iload_n hC dX5_isPixel_4 (i := 0) rfl rfl ?_
    refine y_bipush (v := nI 8) hC dX5_isPixel_5 (by decide) ?_
    refine y_icmp_ge (tgt := 24) hC dX5_isPixel_7 (by decide) (fun c_7 => ?_) (fun c_7 => ?_)
    · refine y_iconst (v := nI 0) hC dX5_isPixel_24 (by decide) ?_
      refine y_zret (hrt := rfl) (hn := rfl) (hC := hC) (hd := dX5_isPixel_25) (hq := ?_)
      refine ⟨?_, rfl⟩
      simp only [Int32.lt_iff_toInt_lt, Int32.le_iff_toInt_le, Int32.toInt_zero, tI, Nat.reduceLT] at *
      first | exact (bI_t (by omega)).symm | exact (bI_f (by omega)).symm
    · refine y_iload_n hC dX5_isPixel_10 (i := 1) rfl rfl ?_
      refine y_if_lt (tgt := 24) hC dX5_isPixel_11 (by decide) (fun c_11 => ?_) (fun c_11 => ?_)
      · refine y_iconst (v := nI 0) hC dX5_isPixel_24 (by decide) ?_
        refine y_zret (hrt := rfl) (hn := rfl) (hC := hC) (hd := dX5_isPixel_25) (hq := ?_)
        refine ⟨?_, rfl⟩
        simp only [Int32.lt_iff_toInt_lt, Int32.le_iff_toInt_le, Int32.toInt_zero, tI, Nat.reduceLT] at *
        first | exact (bI_t (by omega)).symm | exact (bI_f (by omega)).symm
      · refine y_iload_n hC dX5_isPixel_14 (i := 1) rfl rfl ?_
        refine y_bipush (v := nI 8) hC dX5_isPixel_15 (by decide) ?_
        refine y_icmp_ge (tgt := 24) hC dX5_isPixel_17 (by decide) (fun c_17 => ?_) (fun c_17 => ?_)
        · refine y_iconst (v := nI 0) hC dX5_isPixel_24 (by decide) ?_
          refine y_zret (hrt := rfl) (hn := rfl) (hC := hC) (hd := dX5_isPixel_25) (hq := ?_)
          refine ⟨?_, rfl⟩
          simp only [Int32.lt_iff_toInt_lt, Int32.le_iff_toInt_le, Int32.toInt_zero, tI, Nat.reduceLT] at *
          first | exact (bI_t (by omega)).symm | exact (bI_f (by omega)).symm
        · refine y_iconst (v := nI 1) hC dX5_isPixel_20 (by decide) ?_
          refine y_goto (tgt := 25) hC dX5_isPixel_21 (by decide) ?_
          refine y_zret (hrt := rfl) (hn := rfl) (hC := hC) (hd := dX5_isPixel_25) (hq := ?_)
          refine ⟨?_, rfl⟩
          simp only [Int32.lt_iff_toInt_lt, Int32.le_iff_toInt_le, Int32.toInt_zero, tI, Nat.reduceLT] at *
          first | exact (bI_t (by omega)).symm | exact (bI_f (by omega)).symm

