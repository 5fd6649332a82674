/-! ===== one row an instruction, over memories ===== -/
section YR
variable {l : Launch} {E : gE} {X : gX} {own : String} {cc : ByteArray} {nL : Nat} {ret : Option FieldType} {fr ll : Nat} {post : Option Value → Mem → Prop} {pc : Nat} {lo lo' : List (Option Value)} {st : List Value} {g : Mem}
theorem y_iconst (hC : yC l E X own cc nL ret fr ll) {n : Int} {v : Int32} (hd : decode cc pc = .ok (.iconst n, 1)) (hv : Int32.ofInt n = v) (kk : Y l E X post (pc + 1) lo (.int v :: st) g) : Y l E X post pc lo st g := by
  obtain ⟨p, e, R, s, m, args, below, meth, c, E0, k0, s0, mc, ms, A⟩ := X
  obtain ⟨hx, hb, hml, hown, hts, hK, hE, hlk, hr, hfr, hll, hN, hA, hE0, hmc, hms, hk0, hs0⟩ := hC
  intro H locs ls hP hS hl
  exact lv_iconst hx hb hd hv (kk H locs ls hP hS hl)
theorem y_bipush (hC : yC l E X own cc nL ret fr ll) {n : Int} {v : Int32} (hd : decode cc pc = .ok (.bipush n, 2)) (hv : (Int8.ofInt n).toInt32 = v) (kk : Y l E X post (pc + 2) lo (.int v :: st) g) : Y l E X post pc lo st g := by
  obtain ⟨p, e, R, s, m, args, below, meth, c, E0, k0, s0, mc, ms, A⟩ := X
  obtain ⟨hx, hb, hml, hown, hts, hK, hE, hlk, hr, hfr, hll, hN, hA, hE0, hmc, hms, hk0, hs0⟩ := hC
  intro H locs ls hP hS hl
  exact lv_bipush hx hb hd hv (kk H locs ls hP hS hl)
theorem y_sipush (hC : yC l E X own cc nL ret fr ll) {n : Int} {v : Int32} (hd : decode cc pc = .ok (.sipush n, 3)) (hv : (Int16.ofInt n).toInt32 = v) (kk : Y l E X post (pc + 3) lo (.int v :: st) g) : Y l E X post pc lo st g := by
  obtain ⟨p, e, R, s, m, args, below, meth, c, E0, k0, s0, mc, ms, A⟩ := X
  obtain ⟨hx, hb, hml, hown, hts, hK, hE, hlk, hr, hfr, hll, hN, hA, hE0, hmc, hms, hk0, hs0⟩ := hC
  intro H locs ls hP hS hl
  exact lv_sipush hx hb hd hv (kk H locs ls hP hS hl)
theorem y_lconst (hC : yC l E X own cc nL ret fr ll) {n : Fin 2} {v : Int64} (hd : decode cc pc = .ok (.lconst n, 1)) (hv : Int64.ofNat (n : Nat) = v) (kk : Y l E X post (pc + 1) lo (.long v :: st) g) : Y l E X post pc lo st g := by
  obtain ⟨p, e, R, s, m, args, below, meth, c, E0, k0, s0, mc, ms, A⟩ := X
  obtain ⟨hx, hb, hml, hown, hts, hK, hE, hlk, hr, hfr, hll, hN, hA, hE0, hmc, hms, hk0, hs0⟩ := hC
  intro H locs ls hP hS hl
  exact lv_lconst hx hb hd hv (kk H locs ls hP hS hl)
theorem y_null (hC : yC l E X own cc nL ret fr ll) (hd : decode cc pc = .ok (.aconst_null, 1)) (kk : Y l E X post (pc + 1) lo (rfo E none :: st) g) : Y l E X post pc lo st g := by
  obtain ⟨p, e, R, s, m, args, below, meth, c, E0, k0, s0, mc, ms, A⟩ := X
  obtain ⟨hx, hb, hml, hown, hts, hK, hE, hlk, hr, hfr, hll, hN, hA, hE0, hmc, hms, hk0, hs0⟩ := hC
  intro H locs ls hP hS hl
  exact lv_null hx hb hd (kk H locs ls hP hS hl)
theorem y_ldc (hC : yC l E X own cc nL ret fr ll) {idx : Nat} {v : Int32} (hc : Cond.constant own idx v ∈ lw_gt) (hd : decode cc pc = .ok (.ldc idx, 2)) (kk : Y l E X post (pc + 2) lo (.int v :: st) g) : Y l E X post pc lo st g := by
  obtain ⟨p, e, R, s, m, args, below, meth, c, E0, k0, s0, mc, ms, A⟩ := X
  obtain ⟨hx, hb, hml, hown, hts, hK, hE, hlk, hr, hfr, hll, hN, hA, hE0, hmc, hms, hk0, hs0⟩ := hC
  intro H locs ls hP hS hl
  exact lv_ldc hx hb hown (hts _ hc) hd (kk H locs ls hP hS hl)
theorem y_ldcw (hC : yC l E X own cc nL ret fr ll) {idx : Nat} {v : Int32} (hc : Cond.constant own idx v ∈ lw_gt) (hd : decode cc pc = .ok (.ldc_w idx, 3)) (kk : Y l E X post (pc + 3) lo (.int v :: st) g) : Y l E X post pc lo st g := by
  obtain ⟨p, e, R, s, m, args, below, meth, c, E0, k0, s0, mc, ms, A⟩ := X
  obtain ⟨hx, hb, hml, hown, hts, hK, hE, hlk, hr, hfr, hll, hN, hA, hE0, hmc, hms, hk0, hs0⟩ := hC
  intro H locs ls hP hS hl
  exact lv_ldcw hx hb hown (hts _ hc) hd (kk H locs ls hP hS hl)
theorem y_iload_n (hC : yC l E X own cc nL ret fr ll) {k : Fin 4} {i : Nat} {x : Int32} (hd : decode cc pc = .ok (.iload_n k, 1)) (hi : (k : Nat) = i) (ho : lo[i]? = some (some (.int x))) (kk : Y l E X post (pc + 1) lo (.int x :: st) g) : Y l E X post pc lo st g := by
  obtain ⟨p, e, R, s, m, args, below, meth, c, E0, k0, s0, mc, ms, A⟩ := X
  obtain ⟨hx, hb, hml, hown, hts, hK, hE, hlk, hr, hfr, hll, hN, hA, hE0, hmc, hms, hk0, hs0⟩ := hC
  intro H locs ls hP hS hl
  exact lv_iload_n hx hb hd hi (hl.2.2 _ _ ho) (kk H locs ls hP hS hl)
theorem y_iload (hC : yC l E X own cc nL ret fr ll) {i : Nat} {x : Int32} (hd : decode cc pc = .ok (.iload i, 2)) (ho : lo[i]? = some (some (.int x))) (kk : Y l E X post (pc + 2) lo (.int x :: st) g) : Y l E X post pc lo st g := by
  obtain ⟨p, e, R, s, m, args, below, meth, c, E0, k0, s0, mc, ms, A⟩ := X
  obtain ⟨hx, hb, hml, hown, hts, hK, hE, hlk, hr, hfr, hll, hN, hA, hE0, hmc, hms, hk0, hs0⟩ := hC
  intro H locs ls hP hS hl
  exact lv_iload hx hb hd (hl.2.2 _ _ ho) (kk H locs ls hP hS hl)
theorem y_lload_n (hC : yC l E X own cc nL ret fr ll) {k : Fin 4} {i : Nat} {x : Int64} (hd : decode cc pc = .ok (.lload_n k, 1)) (hi : (k : Nat) = i) (ho : lo[i]? = some (some (.long x))) (kk : Y l E X post (pc + 1) lo (.long x :: st) g) : Y l E X post pc lo st g := by
  obtain ⟨p, e, R, s, m, args, below, meth, c, E0, k0, s0, mc, ms, A⟩ := X
  obtain ⟨hx, hb, hml, hown, hts, hK, hE, hlk, hr, hfr, hll, hN, hA, hE0, hmc, hms, hk0, hs0⟩ := hC
  intro H locs ls hP hS hl
  exact lv_lload_n hx hb hd hi (hl.2.2 _ _ ho) (kk H locs ls hP hS hl)
theorem y_lload (hC : yC l E X own cc nL ret fr ll) {i : Nat} {x : Int64} (hd : decode cc pc = .ok (.lload i, 2)) (ho : lo[i]? = some (some (.long x))) (kk : Y l E X post (pc + 2) lo (.long x :: st) g) : Y l E X post pc lo st g := by
  obtain ⟨p, e, R, s, m, args, below, meth, c, E0, k0, s0, mc, ms, A⟩ := X
  obtain ⟨hx, hb, hml, hown, hts, hK, hE, hlk, hr, hfr, hll, hN, hA, hE0, hmc, hms, hk0, hs0⟩ := hC
  intro H locs ls hP hS hl
  exact lv_lload hx hb hd (hl.2.2 _ _ ho) (kk H locs ls hP hS hl)
theorem y_aload_n (hC : yC l E X own cc nL ret fr ll) {k : Fin 4} {i a : Nat} (hd : decode cc pc = .ok (.aload_n k, 1)) (hi : (k : Nat) = i) (ho : lo[i]? = some (some (rf E a))) (kk : Y l E X post (pc + 1) lo (rf E a :: st) g) : Y l E X post pc lo st g := by
  obtain ⟨p, e, R, s, m, args, below, meth, c, E0, k0, s0, mc, ms, A⟩ := X
  obtain ⟨hx, hb, hml, hown, hts, hK, hE, hlk, hr, hfr, hll, hN, hA, hE0, hmc, hms, hk0, hs0⟩ := hC
  intro H locs ls hP hS hl
  exact lv_aload_n hx hb hd hi (hl.2.2 _ _ ho) (kk H locs ls hP hS hl)
theorem y_aload (hC : yC l E X own cc nL ret fr ll) {i a : Nat} (hd : decode cc pc = .ok (.aload i, 2)) (ho : lo[i]? = some (some (rf E a))) (kk : Y l E X post (pc + 2) lo (rf E a :: st) g) : Y l E X post pc lo st g := by
  obtain ⟨p, e, R, s, m, args, below, meth, c, E0, k0, s0, mc, ms, A⟩ := X
  obtain ⟨hx, hb, hml, hown, hts, hK, hE, hlk, hr, hfr, hll, hN, hA, hE0, hmc, hms, hk0, hs0⟩ := hC
  intro H locs ls hP hS hl
  exact lv_aload hx hb hd (hl.2.2 _ _ ho) (kk H locs ls hP hS hl)
theorem y_aload_no (hC : yC l E X own cc nL ret fr ll) {k : Fin 4} {i : Nat} {o : Option Nat} (hd : decode cc pc = .ok (.aload_n k, 1)) (hi : (k : Nat) = i) (ho : lo[i]? = some (some (rfo E o))) (kk : Y l E X post (pc + 1) lo (rfo E o :: st) g) : Y l E X post pc lo st g := by
  obtain ⟨p, e, R, s, m, args, below, meth, c, E0, k0, s0, mc, ms, A⟩ := X
  obtain ⟨hx, hb, hml, hown, hts, hK, hE, hlk, hr, hfr, hll, hN, hA, hE0, hmc, hms, hk0, hs0⟩ := hC
  intro H locs ls hP hS hl
  cases o with
  | none => exact lv_aload_nN hx hb hd hi (hl.2.2 _ _ ho) (kk H locs ls hP hS hl)
  | some a => exact lv_aload_n hx hb hd hi (hl.2.2 _ _ ho) (kk H locs ls hP hS hl)
theorem y_aload_o (hC : yC l E X own cc nL ret fr ll) {i : Nat} {o : Option Nat} (hd : decode cc pc = .ok (.aload i, 2)) (ho : lo[i]? = some (some (rfo E o))) (kk : Y l E X post (pc + 2) lo (rfo E o :: st) g) : Y l E X post pc lo st g := by
  obtain ⟨p, e, R, s, m, args, below, meth, c, E0, k0, s0, mc, ms, A⟩ := X
  obtain ⟨hx, hb, hml, hown, hts, hK, hE, hlk, hr, hfr, hll, hN, hA, hE0, hmc, hms, hk0, hs0⟩ := hC
  intro H locs ls hP hS hl
  cases o with
  | none => exact lv_aloadN hx hb hd (hl.2.2 _ _ ho) (kk H locs ls hP hS hl)
  | some a => exact lv_aload hx hb hd (hl.2.2 _ _ ho) (kk H locs ls hP hS hl)
theorem y_istore_n (hC : yC l E X own cc nL ret fr ll) {k : Fin 4} {i : Nat} {x : Int32} (hd : decode cc pc = .ok (.istore_n k, 1)) (hi : (k : Nat) = i) (hn : i < lo.length) (hp : y_nl lo i = true) (ho : lo.set i (some (.int x)) = lo') (kk : Y l E X post (pc + 1) lo' st g) : Y l E X post pc lo (.int x :: st) g := by
  obtain ⟨p, e, R, s, m, args, below, meth, c, E0, k0, s0, mc, ms, A⟩ := X
  obtain ⟨hx, hb, hml, hown, hts, hK, hE, hlk, hr, hfr, hll, hN, hA, hE0, hmc, hms, hk0, hs0⟩ := hC
  intro H locs ls hP hS hl
  exact lv_istore_n hx hb hd hi hl.lv hn rfl (fun ls' h' => kk H locs ls' hP hS (ho ▸ y_has_st1 rfl hn hp h'))
theorem y_istore (hC : yC l E X own cc nL ret fr ll) {i : Nat} {x : Int32} (hd : decode cc pc = .ok (.istore i, 2)) (hn : i < lo.length) (hp : y_nl lo i = true) (ho : lo.set i (some (.int x)) = lo') (kk : Y l E X post (pc + 2) lo' st g) : Y l E X post pc lo (.int x :: st) g := by
  obtain ⟨p, e, R, s, m, args, below, meth, c, E0, k0, s0, mc, ms, A⟩ := X
  obtain ⟨hx, hb, hml, hown, hts, hK, hE, hlk, hr, hfr, hll, hN, hA, hE0, hmc, hms, hk0, hs0⟩ := hC
  intro H locs ls hP hS hl
  exact lv_istore hx hb hd hl.lv hn rfl (fun ls' h' => kk H locs ls' hP hS (ho ▸ y_has_st1 rfl hn hp h'))
theorem y_lstore_n (hC : yC l E X own cc nL ret fr ll) {k : Fin 4} {i : Nat} {x : Int64} (hd : decode cc pc = .ok (.lstore_n k, 1)) (hi : (k : Nat) = i) (hn : i + 1 < lo.length) (hp : y_nl lo i = true) (ho : (lo.set i (some (.long x))).set (i + 1) none = lo') (kk : Y l E X post (pc + 1) lo' st g) : Y l E X post pc lo (.long x :: st) g := by
  obtain ⟨p, e, R, s, m, args, below, meth, c, E0, k0, s0, mc, ms, A⟩ := X
  obtain ⟨hx, hb, hml, hown, hts, hK, hE, hlk, hr, hfr, hll, hN, hA, hE0, hmc, hms, hk0, hs0⟩ := hC
  intro H locs ls hP hS hl
  exact lv_lstore_n hx hb hd hi hl.lv hn rfl (fun ls' h' => kk H locs ls' hP hS (ho ▸ y_has_st2 rfl hn hp h'))
theorem y_lstore (hC : yC l E X own cc nL ret fr ll) {i : Nat} {x : Int64} (hd : decode cc pc = .ok (.lstore i, 2)) (hn : i + 1 < lo.length) (hp : y_nl lo i = true) (ho : (lo.set i (some (.long x))).set (i + 1) none = lo') (kk : Y l E X post (pc + 2) lo' st g) : Y l E X post pc lo (.long x :: st) g := by
  obtain ⟨p, e, R, s, m, args, below, meth, c, E0, k0, s0, mc, ms, A⟩ := X
  obtain ⟨hx, hb, hml, hown, hts, hK, hE, hlk, hr, hfr, hll, hN, hA, hE0, hmc, hms, hk0, hs0⟩ := hC
  intro H locs ls hP hS hl
  exact lv_lstore hx hb hd hl.lv hn rfl (fun ls' h' => kk H locs ls' hP hS (ho ▸ y_has_st2 rfl hn hp h'))
theorem y_astore_n (hC : yC l E X own cc nL ret fr ll) {k : Fin 4} {i : Nat} {o : Option Nat} (hd : decode cc pc = .ok (.astore_n k, 1)) (hi : (k : Nat) = i) (hn : i < lo.length) (hp : y_nl lo i = true) (ho : lo.set i (some (rfo E o)) = lo') (kk : Y l E X post (pc + 1) lo' st g) : Y l E X post pc lo (rfo E o :: st) g := by
  obtain ⟨p, e, R, s, m, args, below, meth, c, E0, k0, s0, mc, ms, A⟩ := X
  obtain ⟨hx, hb, hml, hown, hts, hK, hE, hlk, hr, hfr, hll, hN, hA, hE0, hmc, hms, hk0, hs0⟩ := hC
  intro H locs ls hP hS hl
  cases o with
  | none => exact lv_astore_nN hx hb hd hi hl.lv hn rfl (fun ls' h' => kk H locs ls' hP hS (ho ▸ y_has_st1 rfl hn hp h'))
  | some a => exact lv_astore_n hx hb hd hi hl.lv hn rfl (fun ls' h' => kk H locs ls' hP hS (ho ▸ y_has_st1 rfl hn hp h'))
theorem y_astore (hC : yC l E X own cc nL ret fr ll) {i : Nat} {o : Option Nat} (hd : decode cc pc = .ok (.astore i, 2)) (hn : i < lo.length) (hp : y_nl lo i = true) (ho : lo.set i (some (rfo E o)) = lo') (kk : Y l E X post (pc + 2) lo' st g) : Y l E X post pc lo (rfo E o :: st) g := by
  obtain ⟨p, e, R, s, m, args, below, meth, c, E0, k0, s0, mc, ms, A⟩ := X
  obtain ⟨hx, hb, hml, hown, hts, hK, hE, hlk, hr, hfr, hll, hN, hA, hE0, hmc, hms, hk0, hs0⟩ := hC
  intro H locs ls hP hS hl
  cases o with
  | none => exact lv_astoreN hx hb hd hl.lv hn rfl (fun ls' h' => kk H locs ls' hP hS (ho ▸ y_has_st1 rfl hn hp h'))
  | some a => exact lv_astore hx hb hd hl.lv hn rfl (fun ls' h' => kk H locs ls' hP hS (ho ▸ y_has_st1 rfl hn hp h'))
theorem y_iinc (hC : yC l E X own cc nL ret fr ll) {i : Nat} {n : Int} {x v : Int32} (hd : decode cc pc = .ok (.iinc i n, 3)) (hx0 : lo[i]? = some (some (.int x))) (hv : x + Int32.ofInt n = v) (hn : i < lo.length) (hp : y_nl lo i = true) (ho : lo.set i (some (.int v)) = lo') (kk : Y l E X post (pc + 3) lo' st g) : Y l E X post pc lo st g := by
  obtain ⟨p, e, R, s, m, args, below, meth, c, E0, k0, s0, mc, ms, A⟩ := X
  obtain ⟨hx, hb, hml, hown, hts, hK, hE, hlk, hr, hfr, hll, hN, hA, hE0, hmc, hms, hk0, hs0⟩ := hC
  intro H locs ls hP hS hl
  obtain ⟨k, hk⟩ := List.getElem?_of_mem (y_l_mem hx0)
  exact lv_iinc hx hb hd hl.lv hk hv hn rfl (fun ls' h' => kk H locs ls' hP hS (ho ▸ y_has_st1 rfl hn hp h'))
theorem y_iadd (hC : yC l E X own cc nL ret fr ll) {x y : Int32} (hd : decode cc pc = .ok (.iadd, 1)) (kk : Y l E X post (pc + 1) lo (.int (x + y) :: st) g) : Y l E X post pc lo (.int y :: .int x :: st) g := by
  obtain ⟨p, e, R, s, m, args, below, meth, c, E0, k0, s0, mc, ms, A⟩ := X
  obtain ⟨hx, hb, hml, hown, hts, hK, hE, hlk, hr, hfr, hll, hN, hA, hE0, hmc, hms, hk0, hs0⟩ := hC
  intro H locs ls hP hS hl
  exact lv_iadd hx hb hd (kk H locs ls hP hS hl)
theorem y_isub (hC : yC l E X own cc nL ret fr ll) {x y : Int32} (hd : decode cc pc = .ok (.isub, 1)) (kk : Y l E X post (pc + 1) lo (.int (x - y) :: st) g) : Y l E X post pc lo (.int y :: .int x :: st) g := by
  obtain ⟨p, e, R, s, m, args, below, meth, c, E0, k0, s0, mc, ms, A⟩ := X
  obtain ⟨hx, hb, hml, hown, hts, hK, hE, hlk, hr, hfr, hll, hN, hA, hE0, hmc, hms, hk0, hs0⟩ := hC
  intro H locs ls hP hS hl
  exact lv_isub hx hb hd (kk H locs ls hP hS hl)
theorem y_imul (hC : yC l E X own cc nL ret fr ll) {x y : Int32} (hd : decode cc pc = .ok (.imul, 1)) (kk : Y l E X post (pc + 1) lo (.int (x * y) :: st) g) : Y l E X post pc lo (.int y :: .int x :: st) g := by
  obtain ⟨p, e, R, s, m, args, below, meth, c, E0, k0, s0, mc, ms, A⟩ := X
  obtain ⟨hx, hb, hml, hown, hts, hK, hE, hlk, hr, hfr, hll, hN, hA, hE0, hmc, hms, hk0, hs0⟩ := hC
  intro H locs ls hP hS hl
  exact lv_imul hx hb hd (kk H locs ls hP hS hl)
theorem y_iand (hC : yC l E X own cc nL ret fr ll) {x y : Int32} (hd : decode cc pc = .ok (.iand, 1)) (kk : Y l E X post (pc + 1) lo (.int (x &&& y) :: st) g) : Y l E X post pc lo (.int y :: .int x :: st) g := by
  obtain ⟨p, e, R, s, m, args, below, meth, c, E0, k0, s0, mc, ms, A⟩ := X
  obtain ⟨hx, hb, hml, hown, hts, hK, hE, hlk, hr, hfr, hll, hN, hA, hE0, hmc, hms, hk0, hs0⟩ := hC
  intro H locs ls hP hS hl
  exact lv_iand hx hb hd (kk H locs ls hP hS hl)
theorem y_ior (hC : yC l E X own cc nL ret fr ll) {x y : Int32} (hd : decode cc pc = .ok (.ior, 1)) (kk : Y l E X post (pc + 1) lo (.int (x ||| y) :: st) g) : Y l E X post pc lo (.int y :: .int x :: st) g := by
  obtain ⟨p, e, R, s, m, args, below, meth, c, E0, k0, s0, mc, ms, A⟩ := X
  obtain ⟨hx, hb, hml, hown, hts, hK, hE, hlk, hr, hfr, hll, hN, hA, hE0, hmc, hms, hk0, hs0⟩ := hC
  intro H locs ls hP hS hl
  exact lv_ior hx hb hd (kk H locs ls hP hS hl)
theorem y_ixor (hC : yC l E X own cc nL ret fr ll) {x y : Int32} (hd : decode cc pc = .ok (.ixor, 1)) (kk : Y l E X post (pc + 1) lo (.int (x ^^^ y) :: st) g) : Y l E X post pc lo (.int y :: .int x :: st) g := by
  obtain ⟨p, e, R, s, m, args, below, meth, c, E0, k0, s0, mc, ms, A⟩ := X
  obtain ⟨hx, hb, hml, hown, hts, hK, hE, hlk, hr, hfr, hll, hN, hA, hE0, hmc, hms, hk0, hs0⟩ := hC
  intro H locs ls hP hS hl
  exact lv_ixor hx hb hd (kk H locs ls hP hS hl)
theorem y_ishl (hC : yC l E X own cc nL ret fr ll) {x y : Int32} (hd : decode cc pc = .ok (.ishl, 1)) (kk : Y l E X post (pc + 1) lo (.int (x <<< (y &&& 31)) :: st) g) : Y l E X post pc lo (.int y :: .int x :: st) g := by
  obtain ⟨p, e, R, s, m, args, below, meth, c, E0, k0, s0, mc, ms, A⟩ := X
  obtain ⟨hx, hb, hml, hown, hts, hK, hE, hlk, hr, hfr, hll, hN, hA, hE0, hmc, hms, hk0, hs0⟩ := hC
  intro H locs ls hP hS hl
  exact lv_ishl hx hb hd (kk H locs ls hP hS hl)
theorem y_ishr (hC : yC l E X own cc nL ret fr ll) {x y : Int32} (hd : decode cc pc = .ok (.ishr, 1)) (kk : Y l E X post (pc + 1) lo (.int (x >>> (y &&& 31)) :: st) g) : Y l E X post pc lo (.int y :: .int x :: st) g := by
  obtain ⟨p, e, R, s, m, args, below, meth, c, E0, k0, s0, mc, ms, A⟩ := X
  obtain ⟨hx, hb, hml, hown, hts, hK, hE, hlk, hr, hfr, hll, hN, hA, hE0, hmc, hms, hk0, hs0⟩ := hC
  intro H locs ls hP hS hl
  exact lv_ishr hx hb hd (kk H locs ls hP hS hl)
theorem y_idiv (hC : yC l E X own cc nL ret fr ll) {x y : Int32} (hd : decode cc pc = .ok (.idiv, 1)) (hne : ¬ y = 0) (kk : Y l E X post (pc + 1) lo (.int (x / y) :: st) g) : Y l E X post pc lo (.int y :: .int x :: st) g := by
  obtain ⟨p, e, R, s, m, args, below, meth, c, E0, k0, s0, mc, ms, A⟩ := X
  obtain ⟨hx, hb, hml, hown, hts, hK, hE, hlk, hr, hfr, hll, hN, hA, hE0, hmc, hms, hk0, hs0⟩ := hC
  intro H locs ls hP hS hl
  exact lv_idiv hx hb hd hne (kk H locs ls hP hS hl)
theorem y_irem (hC : yC l E X own cc nL ret fr ll) {x y : Int32} (hd : decode cc pc = .ok (.irem, 1)) (hne : ¬ y = 0) (kk : Y l E X post (pc + 1) lo (.int (x - x / y * y) :: st) g) : Y l E X post pc lo (.int y :: .int x :: st) g := by
  obtain ⟨p, e, R, s, m, args, below, meth, c, E0, k0, s0, mc, ms, A⟩ := X
  obtain ⟨hx, hb, hml, hown, hts, hK, hE, hlk, hr, hfr, hll, hN, hA, hE0, hmc, hms, hk0, hs0⟩ := hC
  intro H locs ls hP hS hl
  exact lv_irem hx hb hd hne (kk H locs ls hP hS hl)
theorem y_ladd (hC : yC l E X own cc nL ret fr ll) {x y : Int64} (hd : decode cc pc = .ok (.ladd, 1)) (kk : Y l E X post (pc + 1) lo (.long (x + y) :: st) g) : Y l E X post pc lo (.long y :: .long x :: st) g := by
  obtain ⟨p, e, R, s, m, args, below, meth, c, E0, k0, s0, mc, ms, A⟩ := X
  obtain ⟨hx, hb, hml, hown, hts, hK, hE, hlk, hr, hfr, hll, hN, hA, hE0, hmc, hms, hk0, hs0⟩ := hC
  intro H locs ls hP hS hl
  exact lv_ladd hx hb hd (kk H locs ls hP hS hl)
theorem y_lsub (hC : yC l E X own cc nL ret fr ll) {x y : Int64} (hd : decode cc pc = .ok (.lsub, 1)) (kk : Y l E X post (pc + 1) lo (.long (x - y) :: st) g) : Y l E X post pc lo (.long y :: .long x :: st) g := by
  obtain ⟨p, e, R, s, m, args, below, meth, c, E0, k0, s0, mc, ms, A⟩ := X
  obtain ⟨hx, hb, hml, hown, hts, hK, hE, hlk, hr, hfr, hll, hN, hA, hE0, hmc, hms, hk0, hs0⟩ := hC
  intro H locs ls hP hS hl
  exact lv_lsub hx hb hd (kk H locs ls hP hS hl)
theorem y_lmul (hC : yC l E X own cc nL ret fr ll) {x y : Int64} (hd : decode cc pc = .ok (.lmul, 1)) (kk : Y l E X post (pc + 1) lo (.long (x * y) :: st) g) : Y l E X post pc lo (.long y :: .long x :: st) g := by
  obtain ⟨p, e, R, s, m, args, below, meth, c, E0, k0, s0, mc, ms, A⟩ := X
  obtain ⟨hx, hb, hml, hown, hts, hK, hE, hlk, hr, hfr, hll, hN, hA, hE0, hmc, hms, hk0, hs0⟩ := hC
  intro H locs ls hP hS hl
  exact lv_lmul hx hb hd (kk H locs ls hP hS hl)
theorem y_ldiv (hC : yC l E X own cc nL ret fr ll) {x y : Int64} (hd : decode cc pc = .ok (.ldiv, 1)) (hne : ¬ y = 0) (kk : Y l E X post (pc + 1) lo (.long (x / y) :: st) g) : Y l E X post pc lo (.long y :: .long x :: st) g := by
  obtain ⟨p, e, R, s, m, args, below, meth, c, E0, k0, s0, mc, ms, A⟩ := X
  obtain ⟨hx, hb, hml, hown, hts, hK, hE, hlk, hr, hfr, hll, hN, hA, hE0, hmc, hms, hk0, hs0⟩ := hC
  intro H locs ls hP hS hl
  exact lv_ldiv hx hb hd hne (kk H locs ls hP hS hl)
theorem y_lrem (hC : yC l E X own cc nL ret fr ll) {x y : Int64} (hd : decode cc pc = .ok (.lrem, 1)) (hne : ¬ y = 0) (kk : Y l E X post (pc + 1) lo (.long (x - x / y * y) :: st) g) : Y l E X post pc lo (.long y :: .long x :: st) g := by
  obtain ⟨p, e, R, s, m, args, below, meth, c, E0, k0, s0, mc, ms, A⟩ := X
  obtain ⟨hx, hb, hml, hown, hts, hK, hE, hlk, hr, hfr, hll, hN, hA, hE0, hmc, hms, hk0, hs0⟩ := hC
  intro H locs ls hP hS hl
  exact lv_lrem hx hb hd hne (kk H locs ls hP hS hl)
theorem y_lcmp (hC : yC l E X own cc nL ret fr ll) {x y : Int64} (hd : decode cc pc = .ok (.lcmp, 1)) (kk : Y l E X post (pc + 1) lo (.int (lg_cmp x y) :: st) g) : Y l E X post pc lo (.long y :: .long x :: st) g := by
  obtain ⟨p, e, R, s, m, args, below, meth, c, E0, k0, s0, mc, ms, A⟩ := X
  obtain ⟨hx, hb, hml, hown, hts, hK, hE, hlk, hr, hfr, hll, hN, hA, hE0, hmc, hms, hk0, hs0⟩ := hC
  intro H locs ls hP hS hl
  exact W.lcmp hx hb hd (kk H locs ls hP hS hl)
theorem y_i2l (hC : yC l E X own cc nL ret fr ll) {x : Int32} (hd : decode cc pc = .ok (.i2l, 1)) (kk : Y l E X post (pc + 1) lo (.long x.toInt64 :: st) g) : Y l E X post pc lo (.int x :: st) g := by
  obtain ⟨p, e, R, s, m, args, below, meth, c, E0, k0, s0, mc, ms, A⟩ := X
  obtain ⟨hx, hb, hml, hown, hts, hK, hE, hlk, hr, hfr, hll, hN, hA, hE0, hmc, hms, hk0, hs0⟩ := hC
  intro H locs ls hP hS hl
  exact lv_i2l hx hb hd rfl (kk H locs ls hP hS hl)
theorem y_i2c (hC : yC l E X own cc nL ret fr ll) {x v : Int32} (hd : decode cc pc = .ok (.i2c, 1)) (hv : (x.toUInt32 % 65536).toInt32 = v) (kk : Y l E X post (pc + 1) lo (.int v :: st) g) : Y l E X post pc lo (.int x :: st) g := by
  obtain ⟨p, e, R, s, m, args, below, meth, c, E0, k0, s0, mc, ms, A⟩ := X
  obtain ⟨hx, hb, hml, hown, hts, hK, hE, hlk, hr, hfr, hll, hN, hA, hE0, hmc, hms, hk0, hs0⟩ := hC
  intro H locs ls hP hS hl
  exact lv_i2c hx hb hd hv (kk H locs ls hP hS hl)
theorem y_dup (hC : yC l E X own cc nL ret fr ll) {v : Value} (hd : decode cc pc = .ok (.dup, 1)) (hv : v.category = 1) (kk : Y l E X post (pc + 1) lo (v :: v :: st) g) : Y l E X post pc lo (v :: st) g := by
  obtain ⟨p, e, R, s, m, args, below, meth, c, E0, k0, s0, mc, ms, A⟩ := X
  obtain ⟨hx, hb, hml, hown, hts, hK, hE, hlk, hr, hfr, hll, hN, hA, hE0, hmc, hms, hk0, hs0⟩ := hC
  intro H locs ls hP hS hl
  exact lv_dup hx hb hd hv (kk H locs ls hP hS hl)
theorem y_pop (hC : yC l E X own cc nL ret fr ll) {v : Value} (hd : decode cc pc = .ok (.pop, 1)) (hv : v.category = 1) (kk : Y l E X post (pc + 1) lo st g) : Y l E X post pc lo (v :: st) g := by
  obtain ⟨p, e, R, s, m, args, below, meth, c, E0, k0, s0, mc, ms, A⟩ := X
  obtain ⟨hx, hb, hml, hown, hts, hK, hE, hlk, hr, hfr, hll, hN, hA, hE0, hmc, hms, hk0, hs0⟩ := hC
  intro H locs ls hP hS hl
  exact lv_pop hx hb hd hv (kk H locs ls hP hS hl)
theorem y_dup2 (hC : yC l E X own cc nL ret fr ll) {v w : Value} (hd : decode cc pc = .ok (.dup2, 1)) (hv : v.category = 1) (hw : w.category = 1) (kk : Y l E X post (pc + 1) lo (v :: w :: v :: w :: st) g) : Y l E X post pc lo (v :: w :: st) g := by
  obtain ⟨p, e, R, s, m, args, below, meth, c, E0, k0, s0, mc, ms, A⟩ := X
  obtain ⟨hx, hb, hml, hown, hts, hK, hE, hlk, hr, hfr, hll, hN, hA, hE0, hmc, hms, hk0, hs0⟩ := hC
  intro H locs ls hP hS hl
  exact lv_dup2_11 hx hb hd hv hw (kk H locs ls hP hS hl)
theorem y_dup_x1 (hC : yC l E X own cc nL ret fr ll) {v w : Value} (hd : decode cc pc = .ok (.dup_x1, 1)) (hv : v.category = 1) (hw : w.category = 1) (kk : Y l E X post (pc + 1) lo (v :: w :: v :: st) g) : Y l E X post pc lo (v :: w :: st) g := by
  obtain ⟨p, e, R, s, m, args, below, meth, c, E0, k0, s0, mc, ms, A⟩ := X
  obtain ⟨hx, hb, hml, hown, hts, hK, hE, hlk, hr, hfr, hll, hN, hA, hE0, hmc, hms, hk0, hs0⟩ := hC
  intro H locs ls hP hS hl
  exact lv_dup_x1 hx hb hd hv hw (kk H locs ls hP hS hl)
theorem y_if_eq (hC : yC l E X own cc nL ret fr ll) {x : Int32} {off : Int} {tgt : Nat} (hd : decode cc pc = .ok (.ifCond .eq off, 3)) (ht : (pc : Int) + off = (tgt : Int)) (kt : x = 0 → Y l E X post tgt lo st g) (kf : ¬ x = 0 → Y l E X post (pc + 3) lo st g) : Y l E X post pc lo (.int x :: st) g := by
  obtain ⟨p, e, R, s, m, args, below, meth, c, E0, k0, s0, mc, ms, A⟩ := X
  obtain ⟨hx, hb, hml, hown, hts, hK, hE, hlk, hr, hfr, hll, hN, hA, hE0, hmc, hms, hk0, hs0⟩ := hC
  intro H locs ls hP hS hl
  exact lv_if_eq hx hb hd ht (fun q => kt q H locs ls hP hS hl) (fun q => kf q H locs ls hP hS hl)
theorem y_icmp_eq (hC : yC l E X own cc nL ret fr ll) {x y : Int32} {off : Int} {tgt : Nat} (hd : decode cc pc = .ok (.if_icmp .eq off, 3)) (ht : (pc : Int) + off = (tgt : Int)) (kt : x = y → Y l E X post tgt lo st g) (kf : ¬ x = y → Y l E X post (pc + 3) lo st g) : Y l E X post pc lo (.int y :: .int x :: st) g := by
  obtain ⟨p, e, R, s, m, args, below, meth, c, E0, k0, s0, mc, ms, A⟩ := X
  obtain ⟨hx, hb, hml, hown, hts, hK, hE, hlk, hr, hfr, hll, hN, hA, hE0, hmc, hms, hk0, hs0⟩ := hC
  intro H locs ls hP hS hl
  exact lv_icmp_eq hx hb hd ht (fun q => kt q H locs ls hP hS hl) (fun q => kf q H locs ls hP hS hl)
theorem y_if_ne (hC : yC l E X own cc nL ret fr ll) {x : Int32} {off : Int} {tgt : Nat} (hd : decode cc pc = .ok (.ifCond .ne off, 3)) (ht : (pc : Int) + off = (tgt : Int)) (kt : ¬ x = 0 → Y l E X post tgt lo st g) (kf : x = 0 → Y l E X post (pc + 3) lo st g) : Y l E X post pc lo (.int x :: st) g := by
  obtain ⟨p, e, R, s, m, args, below, meth, c, E0, k0, s0, mc, ms, A⟩ := X
  obtain ⟨hx, hb, hml, hown, hts, hK, hE, hlk, hr, hfr, hll, hN, hA, hE0, hmc, hms, hk0, hs0⟩ := hC
  intro H locs ls hP hS hl
  exact lv_if_ne hx hb hd ht (fun q => kt q H locs ls hP hS hl) (fun q => kf q H locs ls hP hS hl)
theorem y_icmp_ne (hC : yC l E X own cc nL ret fr ll) {x y : Int32} {off : Int} {tgt : Nat} (hd : decode cc pc = .ok (.if_icmp .ne off, 3)) (ht : (pc : Int) + off = (tgt : Int)) (kt : ¬ x = y → Y l E X post tgt lo st g) (kf : x = y → Y l E X post (pc + 3) lo st g) : Y l E X post pc lo (.int y :: .int x :: st) g := by
  obtain ⟨p, e, R, s, m, args, below, meth, c, E0, k0, s0, mc, ms, A⟩ := X
  obtain ⟨hx, hb, hml, hown, hts, hK, hE, hlk, hr, hfr, hll, hN, hA, hE0, hmc, hms, hk0, hs0⟩ := hC
  intro H locs ls hP hS hl
  exact lv_icmp_ne hx hb hd ht (fun q => kt q H locs ls hP hS hl) (fun q => kf q H locs ls hP hS hl)
theorem y_if_lt (hC : yC l E X own cc nL ret fr ll) {x : Int32} {off : Int} {tgt : Nat} (hd : decode cc pc = .ok (.ifCond .lt off, 3)) (ht : (pc : Int) + off = (tgt : Int)) (kt : x < 0 → Y l E X post tgt lo st g) (kf : ¬ x < 0 → Y l E X post (pc + 3) lo st g) : Y l E X post pc lo (.int x :: st) g := by
  obtain ⟨p, e, R, s, m, args, below, meth, c, E0, k0, s0, mc, ms, A⟩ := X
  obtain ⟨hx, hb, hml, hown, hts, hK, hE, hlk, hr, hfr, hll, hN, hA, hE0, hmc, hms, hk0, hs0⟩ := hC
  intro H locs ls hP hS hl
  exact lv_if_lt hx hb hd ht (fun q => kt q H locs ls hP hS hl) (fun q => kf q H locs ls hP hS hl)
theorem y_icmp_lt (hC : yC l E X own cc nL ret fr ll) {x y : Int32} {off : Int} {tgt : Nat} (hd : decode cc pc = .ok (.if_icmp .lt off, 3)) (ht : (pc : Int) + off = (tgt : Int)) (kt : x < y → Y l E X post tgt lo st g) (kf : ¬ x < y → Y l E X post (pc + 3) lo st g) : Y l E X post pc lo (.int y :: .int x :: st) g := by
  obtain ⟨p, e, R, s, m, args, below, meth, c, E0, k0, s0, mc, ms, A⟩ := X
  obtain ⟨hx, hb, hml, hown, hts, hK, hE, hlk, hr, hfr, hll, hN, hA, hE0, hmc, hms, hk0, hs0⟩ := hC
  intro H locs ls hP hS hl
  exact lv_icmp_lt hx hb hd ht (fun q => kt q H locs ls hP hS hl) (fun q => kf q H locs ls hP hS hl)
theorem y_if_ge (hC : yC l E X own cc nL ret fr ll) {x : Int32} {off : Int} {tgt : Nat} (hd : decode cc pc = .ok (.ifCond .ge off, 3)) (ht : (pc : Int) + off = (tgt : Int)) (kt : 0 ≤ x → Y l E X post tgt lo st g) (kf : ¬ 0 ≤ x → Y l E X post (pc + 3) lo st g) : Y l E X post pc lo (.int x :: st) g := by
  obtain ⟨p, e, R, s, m, args, below, meth, c, E0, k0, s0, mc, ms, A⟩ := X
  obtain ⟨hx, hb, hml, hown, hts, hK, hE, hlk, hr, hfr, hll, hN, hA, hE0, hmc, hms, hk0, hs0⟩ := hC
  intro H locs ls hP hS hl
  exact lv_if_ge hx hb hd ht (fun q => kt q H locs ls hP hS hl) (fun q => kf q H locs ls hP hS hl)
theorem y_icmp_ge (hC : yC l E X own cc nL ret fr ll) {x y : Int32} {off : Int} {tgt : Nat} (hd : decode cc pc = .ok (.if_icmp .ge off, 3)) (ht : (pc : Int) + off = (tgt : Int)) (kt : y ≤ x → Y l E X post tgt lo st g) (kf : ¬ y ≤ x → Y l E X post (pc + 3) lo st g) : Y l E X post pc lo (.int y :: .int x :: st) g := by
  obtain ⟨p, e, R, s, m, args, below, meth, c, E0, k0, s0, mc, ms, A⟩ := X
  obtain ⟨hx, hb, hml, hown, hts, hK, hE, hlk, hr, hfr, hll, hN, hA, hE0, hmc, hms, hk0, hs0⟩ := hC
  intro H locs ls hP hS hl
  exact lv_icmp_ge hx hb hd ht (fun q => kt q H locs ls hP hS hl) (fun q => kf q H locs ls hP hS hl)
theorem y_if_gt (hC : yC l E X own cc nL ret fr ll) {x : Int32} {off : Int} {tgt : Nat} (hd : decode cc pc = .ok (.ifCond .gt off, 3)) (ht : (pc : Int) + off = (tgt : Int)) (kt : 0 < x → Y l E X post tgt lo st g) (kf : ¬ 0 < x → Y l E X post (pc + 3) lo st g) : Y l E X post pc lo (.int x :: st) g := by
  obtain ⟨p, e, R, s, m, args, below, meth, c, E0, k0, s0, mc, ms, A⟩ := X
  obtain ⟨hx, hb, hml, hown, hts, hK, hE, hlk, hr, hfr, hll, hN, hA, hE0, hmc, hms, hk0, hs0⟩ := hC
  intro H locs ls hP hS hl
  exact lv_if_gt hx hb hd ht (fun q => kt q H locs ls hP hS hl) (fun q => kf q H locs ls hP hS hl)
theorem y_icmp_gt (hC : yC l E X own cc nL ret fr ll) {x y : Int32} {off : Int} {tgt : Nat} (hd : decode cc pc = .ok (.if_icmp .gt off, 3)) (ht : (pc : Int) + off = (tgt : Int)) (kt : y < x → Y l E X post tgt lo st g) (kf : ¬ y < x → Y l E X post (pc + 3) lo st g) : Y l E X post pc lo (.int y :: .int x :: st) g := by
  obtain ⟨p, e, R, s, m, args, below, meth, c, E0, k0, s0, mc, ms, A⟩ := X
  obtain ⟨hx, hb, hml, hown, hts, hK, hE, hlk, hr, hfr, hll, hN, hA, hE0, hmc, hms, hk0, hs0⟩ := hC
  intro H locs ls hP hS hl
  exact lv_icmp_gt hx hb hd ht (fun q => kt q H locs ls hP hS hl) (fun q => kf q H locs ls hP hS hl)
theorem y_if_le (hC : yC l E X own cc nL ret fr ll) {x : Int32} {off : Int} {tgt : Nat} (hd : decode cc pc = .ok (.ifCond .le off, 3)) (ht : (pc : Int) + off = (tgt : Int)) (kt : x ≤ 0 → Y l E X post tgt lo st g) (kf : ¬ x ≤ 0 → Y l E X post (pc + 3) lo st g) : Y l E X post pc lo (.int x :: st) g := by
  obtain ⟨p, e, R, s, m, args, below, meth, c, E0, k0, s0, mc, ms, A⟩ := X
  obtain ⟨hx, hb, hml, hown, hts, hK, hE, hlk, hr, hfr, hll, hN, hA, hE0, hmc, hms, hk0, hs0⟩ := hC
  intro H locs ls hP hS hl
  exact lv_if_le hx hb hd ht (fun q => kt q H locs ls hP hS hl) (fun q => kf q H locs ls hP hS hl)
theorem y_icmp_le (hC : yC l E X own cc nL ret fr ll) {x y : Int32} {off : Int} {tgt : Nat} (hd : decode cc pc = .ok (.if_icmp .le off, 3)) (ht : (pc : Int) + off = (tgt : Int)) (kt : x ≤ y → Y l E X post tgt lo st g) (kf : ¬ x ≤ y → Y l E X post (pc + 3) lo st g) : Y l E X post pc lo (.int y :: .int x :: st) g := by
  obtain ⟨p, e, R, s, m, args, below, meth, c, E0, k0, s0, mc, ms, A⟩ := X
  obtain ⟨hx, hb, hml, hown, hts, hK, hE, hlk, hr, hfr, hll, hN, hA, hE0, hmc, hms, hk0, hs0⟩ := hC
  intro H locs ls hP hS hl
  exact lv_icmp_le hx hb hd ht (fun q => kt q H locs ls hP hS hl) (fun q => kf q H locs ls hP hS hl)
theorem y_goto (hC : yC l E X own cc nL ret fr ll) {off : Int} {tgt : Nat} (hd : decode cc pc = .ok (.goto off, 3)) (ht : (pc : Int) + off = (tgt : Int)) (kk : Y l E X post tgt lo st g) : Y l E X post pc lo st g := by
  obtain ⟨p, e, R, s, m, args, below, meth, c, E0, k0, s0, mc, ms, A⟩ := X
  obtain ⟨hx, hb, hml, hown, hts, hK, hE, hlk, hr, hfr, hll, hN, hA, hE0, hmc, hms, hk0, hs0⟩ := hC
  intro H locs ls hP hS hl
  exact lv_goto hx hb hd ht (kk H locs ls hP hS hl)
theorem y_ifnull (hC : yC l E X own cc nL ret fr ll) {o : Option Nat} {off : Int} {tgt : Nat} (hd : decode cc pc = .ok (.ifnull off, 3)) (ht : (pc : Int) + off = (tgt : Int)) (kt : o = none → Y l E X post tgt lo st g) (kf : ∀ k, o = some k → Y l E X post (pc + 3) lo st g) : Y l E X post pc lo (rfo E o :: st) g := by
  obtain ⟨p, e, R, s, m, args, below, meth, c, E0, k0, s0, mc, ms, A⟩ := X
  obtain ⟨hx, hb, hml, hown, hts, hK, hE, hlk, hr, hfr, hll, hN, hA, hE0, hmc, hms, hk0, hs0⟩ := hC
  intro H locs ls hP hS hl
  cases o with
  | none => exact lv_ifnullN hx hb hd ht (kt rfl H locs ls hP hS hl)
  | some a => exact lv_ifnull hx hb hd (kf a rfl H locs ls hP hS hl)
theorem y_ifnonnull (hC : yC l E X own cc nL ret fr ll) {o : Option Nat} {off : Int} {tgt : Nat} (hd : decode cc pc = .ok (.ifnonnull off, 3)) (ht : (pc : Int) + off = (tgt : Int)) (kt : ∀ k, o = some k → Y l E X post tgt lo st g) (kf : o = none → Y l E X post (pc + 3) lo st g) : Y l E X post pc lo (rfo E o :: st) g := by
  obtain ⟨p, e, R, s, m, args, below, meth, c, E0, k0, s0, mc, ms, A⟩ := X
  obtain ⟨hx, hb, hml, hown, hts, hK, hE, hlk, hr, hfr, hll, hN, hA, hE0, hmc, hms, hk0, hs0⟩ := hC
  intro H locs ls hP hS hl
  cases o with
  | none => exact lv_ifnonnullN hx hb hd (kf rfl H locs ls hP hS hl)
  | some a => exact lv_ifnonnull hx hb hd ht (kt a rfl H locs ls hP hS hl)
theorem y_tabOut (hC : yC l E X own cc nL ret fr ll) {d lw hg : Int} {offs : Array Int} {len : Nat} {x : Int32} {tgt : Nat} (hd : decode cc pc = .ok (.tableswitch d lw hg offs, len)) (h : x.toInt < lw ∨ hg < x.toInt) (ht : (pc : Int) + d = (tgt : Int)) (kk : Y l E X post tgt lo st g) : Y l E X post pc lo (.int x :: st) g := by
  obtain ⟨p, e, R, s, m, args, below, meth, c, E0, k0, s0, mc, ms, A⟩ := X
  obtain ⟨hx, hb, hml, hown, hts, hK, hE, hlk, hr, hfr, hll, hN, hA, hE0, hmc, hms, hk0, hs0⟩ := hC
  intro H locs ls hP hS hl
  exact lv_tableOut hx hb hd h ht (kk H locs ls hP hS hl)
theorem y_tabIn (hC : yC l E X own cc nL ret fr ll) {d lw hg : Int} {offs : Array Int} {len : Nat} {x : Int32} {off : Int} {tgt : Nat} (hd : decode cc pc = .ok (.tableswitch d lw hg offs, len)) (h1 : ¬ x.toInt < lw) (h2 : ¬ hg < x.toInt) (ho : offs[(x.toInt - lw).toNat]? = some off) (ht : (pc : Int) + off = (tgt : Int)) (kk : Y l E X post tgt lo st g) : Y l E X post pc lo (.int x :: st) g := by
  obtain ⟨p, e, R, s, m, args, below, meth, c, E0, k0, s0, mc, ms, A⟩ := X
  obtain ⟨hx, hb, hml, hown, hts, hK, hE, hlk, hr, hfr, hll, hN, hA, hE0, hmc, hms, hk0, hs0⟩ := hC
  intro H locs ls hP hS hl
  exact lv_tableIn hx hb hd h1 h2 ho ht (kk H locs ls hP hS hl)
theorem y_look (hC : yC l E X own cc nL ret fr ll) {d : Int} {ps : Array (Int × Int)} {len : Nat} {x : Int32} {off : Int} {tgt : Nat} (hd : decode cc pc = .ok (.lookupswitch d ps, len)) (hq : (ps.toList.zip (ps.toList.drop 1)).all (fun (a, next) => a.1 < next.1) = true) (ho : Op.lookupswitch.offset ps.toList d x.toInt = off) (ht : (pc : Int) + off = (tgt : Int)) (kk : Y l E X post tgt lo st g) : Y l E X post pc lo (.int x :: st) g := by
  obtain ⟨p, e, R, s, m, args, below, meth, c, E0, k0, s0, mc, ms, A⟩ := X
  obtain ⟨hx, hb, hml, hown, hts, hK, hE, hlk, hr, hfr, hll, hN, hA, hE0, hmc, hms, hk0, hs0⟩ := hC
  intro H locs ls hP hS hl
  exact lv_lookup hx hb hd hq ho ht (kk H locs ls hP hS hl)
theorem y_iret (hC : yC l E X own cc nL (some .int) fr ll) {v : Int32} {q : Int32 → Mem → Prop} (hd : decode cc pc = .ok (.ireturn, 1)) (hq : q v g) : Y l E X (pI q) pc lo [.int v] g := by
  obtain ⟨p, e, R, s, m, args, below, meth, c, E0, k0, s0, mc, ms, A⟩ := X
  obtain ⟨hx, hb, hml, hown, hts, hK, hE, hlk, hr, hfr, hll, hN, hA, hE0, hmc, hms, hk0, hs0⟩ := hC
  intro H locs ls hP hS hl
  exact W.widen (Nat.le_trans hk0 (Nat.le_of_eq hmc)) (Nat.le_trans hs0 (Nat.le_of_eq hms)) (W.iret hx hb hr (fun t ht _ => ⟨⟨_, g, rfl, ⟨v, rfl, hq⟩, hE0.P (by rw [ht]; exact hP)⟩, hS.F ht⟩) hS.2.2 hd hlk)
theorem y_lret (hC : yC l E X own cc nL (some .long) fr ll) {v : Int64} {q : Int64 → Mem → Prop} (hd : decode cc pc = .ok (.lreturn, 1)) (hq : q v g) : Y l E X (pL q) pc lo [.long v] g := by
  obtain ⟨p, e, R, s, m, args, below, meth, c, E0, k0, s0, mc, ms, A⟩ := X
  obtain ⟨hx, hb, hml, hown, hts, hK, hE, hlk, hr, hfr, hll, hN, hA, hE0, hmc, hms, hk0, hs0⟩ := hC
  intro H locs ls hP hS hl
  exact W.widen (Nat.le_trans hk0 (Nat.le_of_eq hmc)) (Nat.le_trans hs0 (Nat.le_of_eq hms)) (W.lret hx hb hr (fun t ht _ => ⟨⟨_, g, rfl, ⟨v, rfl, hq⟩, hE0.P (by rw [ht]; exact hP)⟩, hS.F ht⟩) hS.2.2 hd hlk)
theorem y_zret (hC : yC l E X own cc nL ret fr ll) {v : Int32} {ty : FieldType} {q : Int32 → Mem → Prop} (hrt : ret = some ty) (hn : narrow ty (.int v) = .int v) (hd : decode cc pc = .ok (.ireturn, 1)) (hq : q v g) : Y l E X (pI q) pc lo [.int v] g := by
  obtain ⟨p, e, R, s, m, args, below, meth, c, E0, k0, s0, mc, ms, A⟩ := X
  obtain ⟨hx, hb, hml, hown, hts, hK, hE, hlk, hr, hfr, hll, hN, hA, hE0, hmc, hms, hk0, hs0⟩ := hC
  intro H locs ls hP hS hl
  exact W.widen (Nat.le_trans hk0 (Nat.le_of_eq hmc)) (Nat.le_trans hs0 (Nat.le_of_eq hms)) (W.zret hx hb (hr.trans hrt) hn (fun t ht _ => ⟨⟨_, g, rfl, ⟨v, rfl, hq⟩, hE0.P (by rw [ht]; exact hP)⟩, hS.F ht⟩) hS.2.2 hd hlk)
theorem y_vret (hC : yC l E X own cc nL none fr ll) {q : Mem → Prop} (hd : decode cc pc = .ok (.return_, 1)) (hq : q g) : Y l E X (pV q) pc lo [] g := by
  obtain ⟨p, e, R, s, m, args, below, meth, c, E0, k0, s0, mc, ms, A⟩ := X
  obtain ⟨hx, hb, hml, hown, hts, hK, hE, hlk, hr, hfr, hll, hN, hA, hE0, hmc, hms, hk0, hs0⟩ := hC
  intro H locs ls hP hS hl
  exact W.widen (Nat.le_trans hk0 (Nat.le_of_eq hmc)) (Nat.le_trans hs0 (Nat.le_of_eq hms)) (W.vret hx hb hr (fun t ht _ => ⟨⟨_, g, rfl, ⟨rfl, hq⟩, hE0.P (by rw [ht]; exact hP)⟩, hS.F ht⟩) hS.2.2 hd hlk)
theorem y_aret (hC : yC l E X own cc nL ret fr ll) {o : Option Nat} {nm : String} {q : Option Nat → Mem → Prop} (hrt : ret = some (.object nm)) (hd : decode cc pc = .ok (.areturn, 1)) (hq : q o g) : Y l E X (pR E q) pc lo [rfo E o] g := by
  obtain ⟨p, e, R, s, m, args, below, meth, c, E0, k0, s0, mc, ms, A⟩ := X
  obtain ⟨hx, hb, hml, hown, hts, hK, hE, hlk, hr, hfr, hll, hN, hA, hE0, hmc, hms, hk0, hs0⟩ := hC
  intro H locs ls hP hS hl
  exact W.widen (Nat.le_trans hk0 (Nat.le_of_eq hmc)) (Nat.le_trans hs0 (Nat.le_of_eq hms)) (W.aret hx hb (hr.trans hrt) (Or.inl ⟨_, rfl⟩) (va_rf_or _) (fun t ht _ => ⟨⟨_, g, rfl, ⟨o, rfl, hq⟩, hE0.P (by rw [ht]; exact hP)⟩, hS.F ht⟩) hS.2.2 hd hlk)
def yF (own : String) (idx ci kf : Nat) : Prop := ∃ (C : String) (T : u_T) (N : Nat), gC[ci]? = some (C, T, N) ∧ kf < N ∧ (∀ w ∈ u_ws C T N, w ∈ lw_gt) ∧ Cond.fieldLink own idx (T kf).1 (T kf).2.1 (T kf).2.2.1 ∈ lw_gt
def yFp (own : String) (idx ci kf : Nat) (ty : FieldType) : Prop := ∃ (C : String) (T : u_T) (N : Nat) (ty0 : Nat → FieldType), gC[ci]? = some (C, T, N) ∧ kf < N ∧ (∀ w ∈ u_ws C T N, w ∈ lw_gt) ∧ Cond.fieldLink own idx (T kf).1 (T kf).2.1 (T kf).2.2.1 ∈ lw_gt ∧ (∀ k, k < N → parseFieldDescriptor (T k).2.2.1 = some (ty0 k)) ∧ (∀ a, a < N → ∀ b, b < N → a ≠ b → (T a).2.1 ≠ (T b).2.1) ∧ (T kf).2.2.2 = false ∧ parseFieldDescriptor (T kf).2.2.1 = some ty
theorem gA_top {E : gE} {k : Nat} (hk : k < eK E) : gA E (eA E k) := ⟨k, hk, rfl⟩
theorem gA_id (E : gE) : ∀ q, gA E q → gA E q := fun _ h => h
theorem y_get (hC : yC l E X own cc nL ret fr ll) {idx ci kf k : Nat} {fs : List Value} {v : Value} (hf : yF own idx ci kf) (hd : decode cc pc = .ok (.getfield idx, 3)) (hk : k < eK E) (hg : g k = oB ci fs) (hv : fs[kf]? = some v) (kk : Y l E X post (pc + 3) lo (v :: st) g) : Y l E X post pc lo (rf E k :: st) g := by
  obtain ⟨p, e, R, s, m, args, below, meth, c, E0, k0, s0, mc, ms, A⟩ := X
  obtain ⟨hx, hb, hml, hown, hts, hK, hE, hlk, hr, hfr, hll, hN, hA, hE0, hmc, hms, hk0, hs0⟩ := hC
  intro H locs ls hP hS hl
  obtain ⟨C, T, N, h1, h2, h3, h4⟩ := hf
  exact va_get (D := E.1) (ci := ci) (v := v) (C := C) (T := T) (N := N) hx hb hts h3 hown hK hP k (by rw [gW_at hk, hg]; rfl) h1 kf h2 (hts _ h4) (fun _ h9 => h9) hv hd (kk H locs ls hP hS hl)
theorem y_put (hC : yC l E X own cc nL ret fr ll) {idx ci kf k : Nat} {fs fs' : List Value} {v : Value} {ty : FieldType} (hf : yFp own idx ci kf ty) (hd : decode cc pc = .ok (.putfield idx, 3)) (hk : k < eK E) (hg : g k = oB ci fs) (hlen : kf < fs.length) (hn : narrow ty v = v) (hfit : fits ty v = true) (hs : fs.set kf v = fs') (kk : Y l E X post (pc + 3) lo st (va_up g k (oB ci fs'))) : Y l E X post pc lo (v :: rf E k :: st) g := by
  obtain ⟨p, e, R, s, m, args, below, meth, c, E0, k0, s0, mc, ms, A⟩ := X
  obtain ⟨hx, hb, hml, hown, hts, hK, hE, hlk, hr, hfr, hll, hN, hA, hE0, hmc, hms, hk0, hs0⟩ := hC
  intro H locs ls hP hS hl
  obtain ⟨C, T, N, ty0, h1, h2, h3, h4, h5, h6, h7, h8⟩ := hf
  refine va_put (D := E.1) (ci := ci) (v := v) (ty := ty) (C := C) (T := T) (N := N) hx hb hts h3 ty0 h5 h6 hown hK hP (gW_D hE hA) hS k (by rw [gW_at hk, hg]; rfl) h1 kf h2 (hts _ h4) (fun _ h9 => h9) h7 h8 hn hfit hlen hd (fun H1 locs1 hP1 _ hS1 => ?_)
  rw [gW_set hk, hs] at hP1
  exact kk H1 locs1 ls hP1 hS1 hl
theorem y_ix {i : Int32} {j n : Nat} (hi : i = nI j) (hj : j < n) (hn : n < 2147483648) : vp_in i n ∧ i.toNatClampNeg = j := by
  subst hi
  exact ⟨vp_in_nI hj hn, nI_clamp (by omega)⟩
theorem y_iald (hC : yC l E X own cc nL ret fr ll) {k n j : Nat} {f : Nat → Int32} {i : Int32} (hd : decode cc pc = .ok (.iaload, 1)) (hk : k < eK E) (hg : g k = aI E 0 n f) (hi : i = nI j) (hj : j < n) (hn : n < 2147483648) (kk : Y l E X post (pc + 1) lo (.int (f j) :: st) g) : Y l E X post pc lo (.int i :: rf E k :: st) g := by
  obtain ⟨p, e, R, s, m, args, below, meth, c, E0, k0, s0, mc, ms, A⟩ := X
  obtain ⟨hx, hb, hml, hown, hts, hK, hE, hlk, hr, hfr, hll, hN, hA, hE0, hmc, hms, hk0, hs0⟩ := hC
  intro H locs ls hP hS hl
  obtain ⟨h1, h2⟩ := y_ix hi hj hn
  exact va_iald hx hb hK hP k 0 (by rw [gW_at hk, hg]; rfl) rfl h1 hd (by rw [h2]; exact kk H locs ls hP hS hl)
theorem y_zald (hC : yC l E X own cc nL ret fr ll) {k n j : Nat} {f : Nat → Int32} {i : Int32} (hd : decode cc pc = .ok (.baload, 1)) (hk : k < eK E) (hg : g k = aI E 2 n f) (hi : i = nI j) (hj : j < n) (hn : n < 2147483648) (kk : Y l E X post (pc + 1) lo (.int (f j) :: st) g) : Y l E X post pc lo (.int i :: rf E k :: st) g := by
  obtain ⟨p, e, R, s, m, args, below, meth, c, E0, k0, s0, mc, ms, A⟩ := X
  obtain ⟨hx, hb, hml, hown, hts, hK, hE, hlk, hr, hfr, hll, hN, hA, hE0, hmc, hms, hk0, hs0⟩ := hC
  intro H locs ls hP hS hl
  obtain ⟨h1, h2⟩ := y_ix hi hj hn
  exact va_zald hx hb hK hP k 2 (by rw [gW_at hk, hg]; rfl) rfl h1 hd (by rw [h2]; exact kk H locs ls hP hS hl)
theorem y_cald (hC : yC l E X own cc nL ret fr ll) {k n j : Nat} {f : Nat → Int32} {i : Int32} (hd : decode cc pc = .ok (.caload, 1)) (hk : k < eK E) (hg : g k = aI E 1 n f) (hi : i = nI j) (hj : j < n) (hn : n < 2147483648) (kk : Y l E X post (pc + 1) lo (.int (f j) :: st) g) : Y l E X post pc lo (.int i :: rf E k :: st) g := by
  obtain ⟨p, e, R, s, m, args, below, meth, c, E0, k0, s0, mc, ms, A⟩ := X
  obtain ⟨hx, hb, hml, hown, hts, hK, hE, hlk, hr, hfr, hll, hN, hA, hE0, hmc, hms, hk0, hs0⟩ := hC
  intro H locs ls hP hS hl
  obtain ⟨h1, h2⟩ := y_ix hi hj hn
  exact va_cald hx hb hK hP k 1 (by rw [gW_at hk, hg]; rfl) rfl h1 hd (by rw [h2]; exact kk H locs ls hP hS hl)
theorem y_iast (hC : yC l E X own cc nL ret fr ll) {k n j : Nat} {f : Nat → Int32} {i x : Int32} (hd : decode cc pc = .ok (.iastore, 1)) (hk : k < eK E) (hg : g k = aI E 0 n f) (hi : i = nI j) (hj : j < n) (hn : n < 2147483648) (kk : Y l E X post (pc + 1) lo st (va_up g k (aI E 0 n (upd f j x)))) : Y l E X post pc lo (.int x :: .int i :: rf E k :: st) g := by
  obtain ⟨p, e, R, s, m, args, below, meth, c, E0, k0, s0, mc, ms, A⟩ := X
  obtain ⟨hx, hb, hml, hown, hts, hK, hE, hlk, hr, hfr, hll, hN, hA, hE0, hmc, hms, hk0, hs0⟩ := hC
  intro H locs ls hP hS hl
  obtain ⟨h1, h2⟩ := y_ix hi hj hn
  refine va_iast hx hb hK hP (gW_D hE hA) hS k 0 (by rw [gW_at hk, hg]; rfl) rfl h1 hd (fun H1 locs1 hP1 _ hS1 => ?_)
  rw [gW_set hk, h2] at hP1
  exact kk H1 locs1 ls hP1 hS1 hl
theorem y_zast (hC : yC l E X own cc nL ret fr ll) {k n j : Nat} {f : Nat → Int32} {i x : Int32} (hd : decode cc pc = .ok (.bastore, 1)) (hk : k < eK E) (hg : g k = aI E 2 n f) (hi : i = nI j) (hj : j < n) (hn : n < 2147483648) (hx : vp_nar .boolean x = x) (kk : Y l E X post (pc + 1) lo st (va_up g k (aI E 2 n (upd f j x)))) : Y l E X post pc lo (.int x :: .int i :: rf E k :: st) g := by
  obtain ⟨p, e, R, s, m, args, below, meth, c, E0, k0, s0, mc, ms, A⟩ := X
  obtain ⟨hx, hb, hml, hown, hts, hK, hE, hlk, hr, hfr, hll, hN, hA, hE0, hmc, hms, hk0, hs0⟩ := hC
  intro H locs ls hP hS hl
  rename_i hnar
  obtain ⟨h1, h2⟩ := y_ix hi hj hn
  refine va_zast hx hb hK hP (gW_D hE hA) hS k 2 (by rw [gW_at hk, hg]; rfl) rfl h1 hd (fun H1 locs1 hP1 _ hS1 => ?_)
  rw [gW_set hk, h2, hnar] at hP1
  exact kk H1 locs1 ls hP1 hS1 hl
theorem y_cast (hC : yC l E X own cc nL ret fr ll) {k n j : Nat} {f : Nat → Int32} {i x : Int32} (hd : decode cc pc = .ok (.castore, 1)) (hk : k < eK E) (hg : g k = aI E 1 n f) (hi : i = nI j) (hj : j < n) (hn : n < 2147483648) (hx : vp_nar .char x = x) (kk : Y l E X post (pc + 1) lo st (va_up g k (aI E 1 n (upd f j x)))) : Y l E X post pc lo (.int x :: .int i :: rf E k :: st) g := by
  obtain ⟨p, e, R, s, m, args, below, meth, c, E0, k0, s0, mc, ms, A⟩ := X
  obtain ⟨hx, hb, hml, hown, hts, hK, hE, hlk, hr, hfr, hll, hN, hA, hE0, hmc, hms, hk0, hs0⟩ := hC
  intro H locs ls hP hS hl
  rename_i hnar
  obtain ⟨h1, h2⟩ := y_ix hi hj hn
  refine va_cast hx hb hK hP (gW_D hE hA) hS k 1 (by rw [gW_at hk, hg]; rfl) rfl h1 hd (fun H1 locs1 hP1 _ hS1 => ?_)
  rw [gW_set hk, h2, hnar] at hP1
  exact kk H1 locs1 ls hP1 hS1 hl
/-- of the three kinds of rows of references, which class each holds -/
def yT (t ci : Nat) (C : String) : Prop := (t = 3 ∧ ci = 3 ∧ C = RX3) ∨ (t = 4 ∧ ci = 0 ∧ C = RX0) ∨ (t = 5 ∧ ci = 4 ∧ C = RX4)
theorem yT_tys {E : gE} {t ci : Nat} {C : String} (h : yT t ci C) : (eTys E)[t]? = some (eT E t, .object C) := by
  rcases h with ⟨rfl, -, rfl⟩ | ⟨rfl, -, rfl⟩ | ⟨rfl, -, rfl⟩ <;> rfl
theorem yT_cls {t ci : Nat} {C : String} (h : yT t ci C) : ∃ r : vw_C, gC[ci]? = some r ∧ r.1 = C := by
  rcases h with ⟨-, rfl, rfl⟩ | ⟨-, rfl, rfl⟩ | ⟨-, rfl, rfl⟩ <;> exact ⟨_, rfl, rfl⟩
theorem y_aald (hC : yC l E X own cc nL ret fr ll) {k n j t ci : Nat} {C : String} {π : Nat → Nat} {i : Int32} (ht : yT t ci C) (hd : decode cc pc = .ok (.aaload, 1)) (hk : k < eK E) (hg : g k = aR E t n π) (hi : i = nI j) (hj : j < n) (hn : n < 2147483648) (kk : Y l E X post (pc + 1) lo (rf E (π j) :: st) g) : Y l E X post pc lo (.int i :: rf E k :: st) g := by
  obtain ⟨p, e, R, s, m, args, below, meth, c, E0, k0, s0, mc, ms, A⟩ := X
  obtain ⟨hx, hb, hml, hown, hts, hK, hE, hlk, hr, hfr, hll, hN, hA, hE0, hmc, hms, hk0, hs0⟩ := hC
  intro H locs ls hP hS hl
  obtain ⟨h1, h2⟩ := y_ix hi hj hn
  exact va_aldq hx hb hK hP k t (by rw [gW_at hk, hg]; rfl) (yT_tys ht) h1 hd (by rw [h2]; exact kk H locs ls hP hS hl)
theorem y_aast (hC : yC l E X own cc nL ret fr ll) {k n j t ci r : Nat} {C : String} {π : Nat → Nat} {vs : List Value} {i : Int32} (ht : yT t ci C) (hd : decode cc pc = .ok (.aastore, 1)) (hk : k < eK E) (hg : g k = aR E t n π) (hr0 : r < eK E) (hgr : g r = oB ci vs) (hi : i = nI j) (hj : j < n) (hn : n < 2147483648) (kk : Y l E X post (pc + 1) lo st (va_up g k (aR E t n (va_up π j r)))) : Y l E X post pc lo (rf E r :: .int i :: rf E k :: st) g := by
  obtain ⟨p, e, R, s, m, args, below, meth, c, E0, k0, s0, mc, ms, A⟩ := X
  obtain ⟨hx, hb, hml, hown, hts, hK, hE, hlk, hr, hfr, hll, hN, hA, hE0, hmc, hms, hk0, hs0⟩ := hC
  intro H locs ls hP hS hl
  obtain ⟨h1, h2⟩ := y_ix hi hj hn
  obtain ⟨rc, h3, h4⟩ := yT_cls ht
  refine va_astq hx hb hK hP (gW_D hE hA) hS k t r ci (r := rc) (by rw [gW_at hk, hg]; rfl) (by rw [yT_tys ht, h4]) (by rw [gW_at hr0, hgr]; rfl) h3 h1 hd (fun H1 locs1 hP1 _ hS1 => ?_)
  have h5 : (Sum.inl (eT E t, n, Sum.inr (Sum.inr (Sum.inr (Sum.inr (va_up (fun i => some (eA E (π i))) i.toNatClampNeg (some (eA E r))))))) : va_E) = aR E t n (va_up π j r) := by
    unfold aR
    congr 7
    funext z
    unfold va_up
    rw [h2]
    by_cases hz : z = j <;> simp [hz]
  rw [gW_set hk, h5] at hP1
  exact kk H1 locs1 ls hP1 hS1 hl
theorem y_copy (hC : yC l E X own cc nL ret fr ll) {idx k k2 n n2 a b z : Nat} {f h : Nat → Int32} {sp dp nn : Int32} (hnL : nL = lo.length) (hl1 : Cond.methodLink own idx arraycopyName ∈ lw_gt) (hl2 : Cond.native arraycopyName ∈ lw_gt) (hl3 : Cond.static arraycopyName ∈ lw_gt) (hl4 : Cond.initialized "java/lang/System" ∈ lw_gt) (hd : decode cc pc = .ok (.invokestatic idx, 3)) (hk : k < eK E) (hg : g k = aI E 0 n f) (hk2 : k2 < eK E) (hg2 : g k2 = aI E 0 n2 h) (hsp : sp = nI a) (hdp : dp = nI b) (hnn : nn = nI z) (h4 : a + z ≤ n) (h5 : b + z ≤ n2) (hn1 : n < 2147483648) (hn2 : n2 < 2147483648) (hfr1 : 1 ≤ fr) (hll1 : (st.map fun v => v.category).sum + (nativeFrameWords "java/lang/System" "arraycopy" 5 + 11) ≤ ll) (kk : Y l E X post (pc + 3) lo st (va_up g k2 (aI E 0 n2 (va_cpy f h a b z)))) : Y l E X post pc lo (.int nn :: .int dp :: rf E k2 :: .int sp :: rf E k :: st) g := by
  obtain ⟨p, e, R, s, m, args, below, meth, c, E0, k0, s0, mc, ms, A⟩ := X
  obtain ⟨hx, hb, hml, hown, hts, hK, hE, hlk, hr, hfr, hll, hN, hA, hE0, hmc, hms, hk0, hs0⟩ := hC
  intro H locs ls hP hS hl
  subst hsp; subst hdp; subst hnn
  have ca : (nI a).toNatClampNeg = a := nI_clamp (by omega)
  have cb : (nI b).toNatClampNeg = b := nI_clamp (by omega)
  have cz : (nI z).toNatClampNeg = z := nI_clamp (by omega)
  refine va_copyi hx hb (hml.trans ?_) hown (hts _ hl1) (hts _ hl2) (hts _ hl3) (hts _ hl4) hK hP (gW_D hE hA) hS k k2 0 0 (by rw [gW_at hk, hg]; rfl) (by rw [gW_at hk2, hg2]; rfl) rfl rfl rfl (nI_pos (by omega)) (nI_pos (by omega)) (nI_pos (by omega)) (by rw [ca, cz]; exact h4) (by rw [cb, cz]; exact h5) (fun _ _ => rfl) (by rw [hfr]; exact hfr1) (by rw [hll]; exact hll1) hd (fun H1 locs1 hP1 _ hS1 => ?_)
  · exact (hnL.trans hl.1.symm)
  · rw [gW_set hk2, ca, cb, cz] at hP1
    exact kk H1 locs1 ls hP1 hS1 hl
theorem y_mmax (hC : yC l E X own cc nL ret fr ll) {idx : Nat} {x y : Int32} (hnL : nL = lo.length) (hl1 : Cond.methodLink own idx Lib.Math.max.name ∈ lw_gt) (hl2 : Cond.static Lib.Math.max.name ∈ lw_gt) (hl3 : Cond.initialized "java/lang/Math" ∈ lw_gt) (hl4 : Cond.code Lib.Math.max.name Lib.Math.max.code 2 (some .int) ∈ lw_gt) (hd : decode cc pc = .ok (.invokestatic idx, 3)) (hfr1 : 1 ≤ fr) (hll1 : (st.map fun v => v.category).sum + 13 ≤ ll) (kk : Y l E X post (pc + 3) lo (.int (if x < y then y else x) :: st) g) : Y l E X post pc lo (.int y :: .int x :: st) g := by
  obtain ⟨p, e, R, s, m, args, below, meth, c, E0, k0, s0, mc, ms, A⟩ := X
  obtain ⟨hx, hb, hml, hown, hts, hK, hE, hlk, hr, hfr, hll, hN, hA, hE0, hmc, hms, hk0, hs0⟩ := hC
  intro H locs ls hP hS hl
  exact va_mmax hx hb (hml.trans (hnL.trans hl.1.symm)) hown (hts _ hl1) (hts _ hl2) (hts _ hl3) (hts _ hl4) (by rw [hfr]; exact hfr1) (by rw [hll]; exact hll1) hk0 hs0 hd (kk H locs ls hP hS hl)
theorem y_mmin (hC : yC l E X own cc nL ret fr ll) {idx : Nat} {x y : Int32} (hnL : nL = lo.length) (hl1 : Cond.methodLink own idx Lib.Math.min.name ∈ lw_gt) (hl2 : Cond.static Lib.Math.min.name ∈ lw_gt) (hl3 : Cond.initialized "java/lang/Math" ∈ lw_gt) (hl4 : Cond.code Lib.Math.min.name Lib.Math.min.code 2 (some .int) ∈ lw_gt) (hd : decode cc pc = .ok (.invokestatic idx, 3)) (hfr1 : 1 ≤ fr) (hll1 : (st.map fun v => v.category).sum + 13 ≤ ll) (kk : Y l E X post (pc + 3) lo (.int (if y < x then y else x) :: st) g) : Y l E X post pc lo (.int y :: .int x :: st) g := by
  obtain ⟨p, e, R, s, m, args, below, meth, c, E0, k0, s0, mc, ms, A⟩ := X
  obtain ⟨hx, hb, hml, hown, hts, hK, hE, hlk, hr, hfr, hll, hN, hA, hE0, hmc, hms, hk0, hs0⟩ := hC
  intro H locs ls hP hS hl
  exact va_mmin hx hb (hml.trans (hnL.trans hl.1.symm)) hown (hts _ hl1) (hts _ hl2) (hts _ hl3) (hts _ hl4) (by rw [hfr]; exact hfr1) (by rw [hll]; exact hll1) hk0 hs0 hd (kk H locs ls hP hS hl)
/-- behind a call: the caller's other cells are as they were -/
theorem y_run {l : Launch} {E Ec : gE} {A Ac : Nat → Prop} {k0 s0 mc ms : Nat} {p : Program} {e : Jvm.Env} {R : Room} {s : State} {m : MethodId} {args : Array Value} {below : List Frame} {meth : Method} {c : Code} {H : Heap} {locs : List Loc} {Q : State → Prop} {pc : Nat} {ls : Array Slot} {rest st0 : List Value} {a : Array Value} {postc : Option Value → Mem → Prop}
    (hr : va_Run p l e R s m args below meth c H locs k0 s0 mc ms (F0 m pc ls st0) rest (gQA Ec Ac postc a) Ac) (hS : va_S A s.heap H locs) (hA : ∀ q, Ac q → A q)
    (kk : ∀ (v : Option Value) (g' : Mem) (H1 : Heap) (locs1 : List Loc), postc v g' → gP Ec g' H1 → (∀ q, q < H.size → ¬ Ac q → H1[q]? = H[q]?) → va_S A s.heap H1 locs1 → W p l e R s m args below meth c H1 locs1 (k0 + mc) (s0 + ms) Q (F0 m (pc + 3) ls (v.toList ++ rest))) : W p l e R s m args below meth c H locs k0 s0 Q (F0 m pc ls st0) := by
  intro T hT X
  obtain ⟨v, st₀, t, T', L, h0, X', hL, e1, e2, ⟨⟨w, g', hv, hp, hb⟩, hz, hk⟩, st⟩ := hr T hT X
  cases hv
  rw [h0] at hz hk
  obtain ⟨t2, a1, b1⟩ := kk v g' T'.heap (locs ++ L) hp (by rw [e1]; exact hb) (fun q h1 h2 => by rw [e1]; exact hk q h1 h2)
    ⟨Nat.le_trans hS.1 (by rw [e1]; exact hz), fun q h1 h2 => by rw [e1, hk q (Nat.lt_of_lt_of_le h1 hS.1) (fun h => h2 (hA q h))]; exact hS.2.1 q h1 h2, fun q hq => by
      rcases List.mem_append.mp hq with h | h
      · exact hS.2.2 q h
      · exact hA _ (hL q h)⟩ T' rfl X'
  exact ⟨t2, st t2 a1, b1⟩
/-- what the tables say of a method: an instance's, a class's own -/
def yMv (ci : Nat) (y : MethodName) (bytes : ByteArray) (mL : Nat) (rt : Option FieldType) (n : Nat) : Prop := ∃ q : vw_C, gC[ci]? = some q ∧ q.1 = y.cls ∧ (y.cls ≠ "java/lang/invoke/MethodHandle" ∧ y.cls ≠ "java/lang/invoke/VarHandle" ∧ (parseMethodDescriptor y.desc).map (fun d => d.parameters.length) = some n) ∧ Cond.instanceMethod y ∈ lw_gt ∧ Cond.selects y.cls y y ∈ lw_gt ∧ Cond.initialized y.cls ∈ lw_gt ∧ Cond.code y bytes mL rt ∈ lw_gt
def yMs (y : MethodName) (bytes : ByteArray) (mL : Nat) (rt : Option FieldType) (n : Nat) : Prop := (y.cls ≠ "java/lang/invoke/MethodHandle" ∧ y.cls ≠ "java/lang/invoke/VarHandle" ∧ (parseMethodDescriptor y.desc).map (fun d => d.parameters.length) = some n) ∧ Cond.static y ∈ lw_gt ∧ Cond.initialized y.cls ∈ lw_gt ∧ Cond.code y bytes mL rt ∈ lw_gt
theorem mt_blind {E : gE} {av : List Value} {g : Mem} : FrameBlind (va_Pc av (fun U => gP E g U.heap ∧ va_K E.1 gC (eTys E) U ∧ eOk E ∧ gN U)) := fun a U g mk q => by
  obtain ⟨q0, qP, qK, qE, qN⟩ := q
  exact ⟨q0, qP, va_K.moved (u := U) (U := U.calling g mk a) (Vm.Alike.refl U.vm) qK, qE, va_Nw.same (U := U.calling g mk a) rfl rfl qN⟩
theorem y_callV (hC : yC l E X own cc nL ret fr ll) {idx ci b n mL fr2 ll2 : Nat} {y : MethodName} {bytes : ByteArray} {rt : Option FieldType} {fs As rest : List Value} {postc : Option Value → Mem → Prop} (hw : yMv ci y bytes mL rt n) (hlink : Cond.methodLink own idx y ∈ lw_gt) (hd : decode cc pc = .ok (.invokevirtual idx, 3)) (hM : Mt l E y bytes mL rt fr2 ll2 (rf E b :: As) g postc) (hk : b < eK E) (hg : g b = oB ci fs) (hnL : nL = lo.length) (hlen : As.length = n) (hst : st = As.reverse ++ rf E b :: rest) (hcat : (rest.map fun v => v.category).sum ≤ 8) (hroom : fr2 + 1 ≤ fr ∧ 8 + (mL + 11) + ll2 ≤ ll) (kk : ∀ (v : Option Value) (g' : Mem), postc v g' → Y l E X post (pc + 3) lo (v.toList ++ rest) g') : Y l E X post pc lo st g := by
  obtain ⟨p, e, R, s, m, args, below, meth, c, E0, k0, s0, mc, ms, A⟩ := X
  obtain ⟨hx, hb, hml, hown, hts, hK, hE, hlk, hr, hfr, hll, hN, hA, hE0, hmc, hms, hk0, hs0⟩ := hC
  intro H locs ls hP hS hl
  obtain ⟨q, w1, w2, w3, w4, w5, w6, w7⟩ := hw
  refine y_run (E := E) (Ec := E) (Ac := gA E) (mc := 0) (ms := 0) (postc := postc) (rest := rest) (va_runV (C := y.cls) (index := idx) (n := n) (As := As) (rest := rest) (free := gA E) (Ts := lw_gt) (own := own) (nL := nL) ⟨hx, hb, hml, hown, hts⟩ hM ⟨callB_of n hts (lw_good w7) rfl rfl rfl (hts _ w6) (hts _ hlink) w3 ⟨by rw [hfr]; exact hroom.1, by rw [hll]; exact hroom.2⟩, hts _ w4, hts _ w5⟩ ⟨mt_blind, ?_, fun U hU hW => ⟨rfl, by rw [hU]; exact hP, va_K.moved hW.alike hK, hE, va_Nw.warmM hW hN⟩⟩ rfl hlen (hl.1.trans hnL.symm) hst (lv_room hcat) hd ⟨hk0, hs0⟩) hS hA (fun v g' H1 locs1 hp hP1 _ hS1 => kk v g' hp H1 locs1 ls hP1 hS1 hl)
  rw [← w2]
  exact va_recv hK hP (ci := ci) (q0 := b) w1 (by rw [gW_at hk, hg]; rfl)
theorem y_callS (hC : yC l E X own cc nL ret fr ll) {idx n mL fr2 ll2 : Nat} {y : MethodName} {bytes : ByteArray} {rt : Option FieldType} {As rest : List Value} {postc : Option Value → Mem → Prop} (hw : yMs y bytes mL rt n) (hlink : Cond.methodLink own idx y ∈ lw_gt) (hd : decode cc pc = .ok (.invokestatic idx, 3)) (hM : Mt l E y bytes mL rt fr2 ll2 As g postc) (hnL : nL = lo.length) (hlen : As.length = n) (hst : st = As.reverse ++ rest) (hcat : (rest.map fun v => v.category).sum ≤ 8) (hroom : fr2 + 1 ≤ fr ∧ 8 + (mL + 11) + ll2 ≤ ll) (kk : ∀ (v : Option Value) (g' : Mem), postc v g' → Y l E X post (pc + 3) lo (v.toList ++ rest) g') : Y l E X post pc lo st g := by
  obtain ⟨p, e, R, s, m, args, below, meth, c, E0, k0, s0, mc, ms, A⟩ := X
  obtain ⟨hx, hb, hml, hown, hts, hK, hE, hlk, hr, hfr, hll, hN, hA, hE0, hmc, hms, hk0, hs0⟩ := hC
  intro H locs ls hP hS hl
  obtain ⟨w3, w4, w6, w7⟩ := hw
  exact y_run (E := E) (Ec := E) (Ac := gA E) (mc := 0) (ms := 0) (postc := postc) (rest := rest) (va_runS (index := idx) (n := n) (As := As) (rest := rest) (free := gA E) (Ts := lw_gt) (own := own) (nL := nL) ⟨hx, hb, hml, hown, hts⟩ hM ⟨callB_of n hts (lw_good w7) rfl rfl rfl (hts _ w6) (hts _ hlink) w3 ⟨by rw [hfr]; exact hroom.1, by rw [hll]; exact hroom.2⟩, hts _ w4⟩ ⟨mt_blind, fun U hU hW => ⟨rfl, by rw [hU]; exact hP, va_K.moved hW.alike hK, hE, va_Nw.warmM hW hN⟩⟩ rfl hlen (hl.1.trans hnL.symm) hst (lv_room hcat) hd ⟨hk0, hs0⟩) hS hA (fun v g' H1 locs1 hp hP1 _ hS1 => kk v g' hp H1 locs1 ls hP1 hS1 hl)
theorem y_callSN (hC : yC l E X own cc nL ret fr ll) {idx n mL fr2 ll2 : Nat} {y : MethodName} {host : String} {bytes : ByteArray} {rt : Option FieldType} {As rest : List Value} {postc : Option Value → Mem → Prop} (hw : yMs y bytes mL rt n) (hlink : gN X.2.2.2.1 → va_Nw (.methodLinkNest own idx y host) X.2.2.2.1) (hd : decode cc pc = .ok (.invokestatic idx, 3)) (hM : Mt l E y bytes mL rt fr2 ll2 As g postc) (hnL : nL = lo.length) (hlen : As.length = n) (hst : st = As.reverse ++ rest) (hcat : (rest.map fun v => v.category).sum ≤ 8) (hroom : fr2 + 1 ≤ fr ∧ 8 + (mL + 11) + ll2 ≤ ll) (kk : ∀ (v : Option Value) (g' : Mem), postc v g' → Y l E X post (pc + 3) lo (v.toList ++ rest) g') : Y l E X post pc lo st g := by
  obtain ⟨p, e, R, s, m, args, below, meth, c, E0, k0, s0, mc, ms, A⟩ := X
  obtain ⟨hx, hb, hml, hown, hts, hK, hE, hlk, hr, hfr, hll, hN, hA, hE0, hmc, hms, hk0, hs0⟩ := hC
  intro H locs ls hP hS hl
  obtain ⟨w3, w4, w6, w7⟩ := hw
  exact y_run (E := E) (Ec := E) (Ac := gA E) (mc := 0) (ms := 0) (postc := postc) (rest := rest) (va_runSN (index := idx) (n := n) (As := As) (rest := rest) (free := gA E) (Ts := lw_gt) (own := own) (nL := nL) ⟨hx, hb, hml, hown, hts⟩ hM ⟨va_cnB n hts (lw_good w7) rfl rfl rfl (hlink hN) (hts _ w6) w3 ⟨by rw [hfr]; exact hroom.1, by rw [hll]; exact hroom.2⟩, hts _ w4, trivial⟩ ⟨mt_blind, fun U hU hW => ⟨rfl, by rw [hU]; exact hP, va_K.moved hW.alike hK, hE, va_Nw.warmM hW hN⟩⟩ rfl hlen (hl.1.trans hnL.symm) hst (lv_room hcat) hd ⟨hk0, hs0⟩) hS hA (fun v g' H1 locs1 hp hP1 _ hS1 => kk v g' hp H1 locs1 ls hP1 hS1 hl)
def mrg (n : Nat) (g1 g : Mem) : Mem := fun k => if k < n then g1 k else g k
theorem gP_mrg {Ec E : gE} {g g1 : Mem} {H H1 : Heap} (h : eSub Ec E) (hE : eOk E) (hP : gP E g H) (hP1 : gP Ec g1 H1) (hk : ∀ q, q < H.size → ¬ gA Ec q → H1[q]? = H[q]?) : gP E (mrg (eK Ec) g1 g) H1 := by
  obtain ⟨h1, h2, h3, h4⟩ := h
  intro k q hq
  obtain ⟨hkl, rfl⟩ := gW_inv hq
  by_cases hc : k < eK Ec
  · rw [show mrg (eK Ec) g1 g k = g1 k from if_pos hc, ← h4 k hc, ← h1]
    exact hP1 k _ (gW_at hc)
  · rw [show mrg (eK Ec) g1 g k = g k from if_neg hc]
    have h0 := hP k _ (gW_at hkl)
    refine h0.kept (hk _ h0.lt ?_)
    rintro ⟨j, hj, hje⟩
    have := hE j k (Nat.lt_of_lt_of_le hj h3) hkl (by rw [← h4 j hj]; exact hje)
    omega
theorem eSub.gA {Ec E : gE} (h : eSub Ec E) : ∀ q, gA Ec q → gA E q := fun q ⟨k, hk, e⟩ => ⟨k, Nat.lt_of_lt_of_le hk h.2.2.1, by rw [← h.2.2.2 k hk]; exact e⟩
theorem eSub.tys {Ec E : gE} (h : eSub Ec E) : eTys Ec = eTys E := by
  unfold eTys eT
  rw [h.2.1]
theorem eSub.ok {Ec E : gE} (h : eSub Ec E) (hE : eOk E) : eOk Ec := fun i j hi hj e => hE i j (Nat.lt_of_lt_of_le hi h.2.2.1) (Nat.lt_of_lt_of_le hj h.2.2.1) (by rw [← h.2.2.2 i hi, ← h.2.2.2 j hj]; exact e)
theorem eSub.K {Ec E : gE} {U : State} (h : eSub Ec E) (hK : va_K E.1 gC (eTys E) U) : va_K Ec.1 gC (eTys Ec) U := by
  rw [h.tys, h.1]
  exact hK
theorem mta_blind {E : gE} {av : List Value} {g : Mem} : FrameBlind (va_Pc av (fun U => gP E g U.heap ∧ va_K E.1 gC (eTys E) U ∧ eOk E ∧ gN U)) := mt_blind
def xbump (X : gX) (k n : Nat) : gX := (X.1, X.2.1, X.2.2.1, X.2.2.2.1, X.2.2.2.2.1, X.2.2.2.2.2.1, X.2.2.2.2.2.2.1, X.2.2.2.2.2.2.2.1, X.2.2.2.2.2.2.2.2.1, X.2.2.2.2.2.2.2.2.2.1, X.2.2.2.2.2.2.2.2.2.2.1 + k, X.2.2.2.2.2.2.2.2.2.2.2.1 + n, X.2.2.2.2.2.2.2.2.2.2.2.2)
theorem y_callVF (hC : yC l E X own cc nL ret fr ll) {idx ci b n mL fr2 ll2 : Nat} {Ec : gE} {y : MethodName} {bytes : ByteArray} {rt : Option FieldType} {fs As rest : List Value} {postc : Option Value → Mem → Prop} (hsub : eSub Ec E) (hw : yMv ci y bytes mL rt n) (hlink : Cond.methodLink own idx y ∈ lw_gt) (hd : decode cc pc = .ok (.invokevirtual idx, 3)) (hM : Mt l Ec y bytes mL rt fr2 ll2 (rf Ec b :: As) g postc) (hk : b < eK Ec) (hg : g b = oB ci fs) (hnL : nL = lo.length) (hlen : As.length = n) (hst : st = As.reverse ++ rf E b :: rest) (hcat : (rest.map fun v => v.category).sum ≤ 8) (hroom : fr2 + 1 ≤ fr ∧ 8 + (mL + 11) + ll2 ≤ ll) (kk : ∀ (v : Option Value) (g' : Mem), postc v g' → Y l E X post (pc + 3) lo (v.toList ++ rest) (mrg (eK Ec) g' g)) : Y l E X post pc lo st g := by
  obtain ⟨p, e, R, s, m, args, below, meth, c, E0, k0, s0, mc, ms, A⟩ := X
  obtain ⟨hx, hb, hml, hown, hts, hK, hE, hlk, hr, hfr, hll, hN, hA, hE0, hmc, hms, hk0, hs0⟩ := hC
  intro H locs ls hP hS hl
  obtain ⟨q, w1, w2, w3, w4, w5, w6, w7⟩ := hw
  have hPc := hsub.P hP
  have he : rf E b = rf Ec b := by
    unfold rf
    rw [hsub.2.2.2 b hk]
  rw [he] at hst
  refine y_run (E := E) (Ec := Ec) (Ac := gA Ec) (mc := 0) (ms := 0) (postc := postc) (rest := rest) (va_runV (C := y.cls) (index := idx) (n := n) (As := As) (rest := rest) (free := gA Ec) (Ts := lw_gt) (own := own) (nL := nL) ⟨hx, hb, hml, hown, hts⟩ hM ⟨callB_of n hts (lw_good w7) rfl rfl rfl (hts _ w6) (hts _ hlink) w3 ⟨by rw [hfr]; exact hroom.1, by rw [hll]; exact hroom.2⟩, hts _ w4, hts _ w5⟩ ⟨mt_blind, ?_, fun U hU hW => ⟨rfl, by rw [hU]; exact hPc, va_K.moved hW.alike (hsub.K hK), hsub.ok hE, va_Nw.warmM hW hN⟩⟩ rfl hlen (hl.1.trans hnL.symm) hst (lv_room hcat) hd ⟨hk0, hs0⟩) hS (fun q h => hA q (hsub.gA q h)) (fun v g' H1 locs1 hp hP1 hk1 hS1 => kk v g' hp H1 locs1 ls (gP_mrg hsub hE hP hP1 hk1) hS1 hl)
  rw [← w2]
  exact va_recv (hsub.K hK) hPc (ci := ci) (q0 := b) w1 (by rw [gW_at hk, hg]; rfl)
theorem y_callSA (hC : yC l E X own cc nL ret fr ll) {idx n mL fr2 ll2 mc2 ms2 : Nat} {Ac : Nat → Prop} {y : MethodName} {bytes : ByteArray} {rt : Option FieldType} {As rest : List Value} {postc : Option Value → Mem → Prop} (hw : yMs y bytes mL rt n) (hlink : Cond.methodLink own idx y ∈ lw_gt) (hd : decode cc pc = .ok (.invokestatic idx, 3)) (hM : Mta l E Ac y bytes mL rt fr2 ll2 mc2 ms2 As g postc) (hAc : ∀ q, Ac q → X.2.2.2.2.2.2.2.2.2.2.2.2.2.2 q) (hcells : X.2.2.2.2.2.2.2.2.2.2.1 + mc2 ≤ X.2.2.2.2.2.2.2.2.2.2.2.2.1 ∧ X.2.2.2.2.2.2.2.2.2.2.2.1 + ms2 ≤ X.2.2.2.2.2.2.2.2.2.2.2.2.2.1) (hnL : nL = lo.length) (hlen : As.length = n) (hst : st = As.reverse ++ rest) (hcat : (rest.map fun v => v.category).sum ≤ 8) (hroom : fr2 + 1 ≤ fr ∧ 8 + (mL + 11) + ll2 ≤ ll) (kk : ∀ (v : Option Value) (g' : Mem), postc v g' → yC l E (xbump X mc2 ms2) own cc nL ret fr ll → Y l E (xbump X mc2 ms2) post (pc + 3) lo (v.toList ++ rest) g') : Y l E X post pc lo st g := by
  obtain ⟨p, e, R, s, m, args, below, meth, c, E0, k0, s0, mc, ms, A⟩ := X
  obtain ⟨hx, hb, hml, hown, hts, hK, hE, hlk, hr, hfr, hll, hN, hA, hE0, hmc, hms, hk0, hs0⟩ := hC
  intro H locs ls hP hS hl
  obtain ⟨w3, w4, w6, w7⟩ := hw
  have c1 : k0 + mc2 ≤ R.cells := by rw [hmc]; exact hcells.1
  have c2 : s0 + ms2 ≤ R.slots := by rw [hms]; exact hcells.2
  exact y_run (E := E) (Ec := E) (Ac := Ac) (mc := mc2) (ms := ms2) (postc := postc) (rest := rest) (va_runS (index := idx) (n := n) (As := As) (rest := rest) (free := Ac) (Ts := lw_gt) (own := own) (nL := nL) ⟨hx, hb, hml, hown, hts⟩ hM ⟨callB_of n hts (lw_good w7) rfl rfl rfl (hts _ w6) (hts _ hlink) w3 ⟨by rw [hfr]; exact hroom.1, by rw [hll]; exact hroom.2⟩, hts _ w4⟩ ⟨mta_blind, fun U hU hW => ⟨rfl, by rw [hU]; exact hP, va_K.moved hW.alike hK, hE, va_Nw.warmM hW hN⟩⟩ rfl hlen (hl.1.trans hnL.symm) hst (lv_room hcat) hd ⟨c1, c2⟩) hS hAc (fun v g' H1 locs1 hp hP1 _ hS1 => kk v g' hp ⟨hx, hb, hml, hown, hts, hK, hE, hlk, hr, hfr, hll, hN, hA, hE0, hmc, hms, c1, c2⟩ H1 locs1 ls hP1 hS1 hl)
theorem z_arI : Cond.arrayClass .int ∈ lw_gt := lw_g (List.mem_append_right _ (List.mem_of_getElem? (i := 65) (by decide +kernel))) rfl
theorem y_newa (hC : yC l E X own cc nL ret fr ll) {N : Nat} {E' : Nat → gE} {i : Int32} (hd : decode cc pc = .ok (.newarray .int, 2)) (hi : i = nI N) (hN1 : N ≤ 1000) (hcells : X.2.2.2.2.2.2.2.2.2.2.1 + 1 ≤ X.2.2.2.2.2.2.2.2.2.2.2.2.1 ∧ X.2.2.2.2.2.2.2.2.2.2.2.1 + N ≤ X.2.2.2.2.2.2.2.2.2.2.2.2.2.1) (hadd : ∀ a, (E' a).1 = E.1 ∧ (E' a).2.1 = E.2.1 ∧ eK (E' a) = eK E + 1 ∧ eA (E' a) (eK E) = a ∧ ∀ k, k < eK E → eA (E' a) k = eA E k) (hnew : ∀ q, X.2.2.2.1.heap.size ≤ q → X.2.2.2.2.2.2.2.2.2.2.2.2.2.2 q) (kk : ∀ a, yC l (E' a) (xbump X 1 N) own cc nL ret fr ll → Y l (E' a) (xbump X 1 N) post (pc + 2) lo (rf (E' a) (eK E) :: st) (va_up g (eK E) (aI (E' a) 0 N (fun _ => 0)))) : Y l E X post pc lo (.int i :: st) g := by
  obtain ⟨p, e, R, s, m, args, below, meth, c, E0, k0, s0, mc, ms, A⟩ := X
  obtain ⟨hx, hb, hml, hown, hts, hK, hE, hlk, hr, hfr, hll, hN, hA, hE0, hmc, hms, hk0, hs0⟩ := hC
  intro H locs ls hP hS hl
  subst hi
  have c1 : k0 + 1 ≤ R.cells := by rw [hmc]; exact hcells.1
  have c2 : s0 + N ≤ R.slots := by rw [hms]; exact hcells.2
  have h0 : ¬ nI N < 0 := nI_pos (by omega)
  have h00 : (nI N).toNatClampNeg = N := nI_clamp (by omega)
  refine va_newaK (atype := .int) (h := H.size) hx hb (hts _ z_arI) rfl hd rfl h0 h00 (show N * 4 ≤ _ by omega) c1 c2 rfl fun H1 cA e1 z1 o1 _ hNm => ?_
  have hcA : cA = E.2.1 0 := Option.some.inj (hNm.symm.trans (hK.2 0 (eT E 0, .int) rfl).2)
  subst hcA
  obtain ⟨a1, a2, a3, a4, a5⟩ := hadd H.size
  have hlt : ∀ k, k < eK E → eA E k < H.size := fun k hk => (hP k _ (gW_at hk)).lt
  have hE' : eOk (E' H.size) := fun i j hi hj e => by
    rw [a3] at hi hj
    by_cases ci : i = eK E
    · by_cases cj : j = eK E
      · omega
      · have := hlt j (by omega)
        rw [a5 j (by omega), ci, a4] at e
        omega
    · by_cases cj : j = eK E
      · have := hlt i (by omega)
        rw [a5 i (by omega), cj, a4] at e
        omega
      · rw [a5 i (by omega), a5 j (by omega)] at e
        exact hE i j (by omega) (by omega) e
  have hP1 : gP (E' H.size) (va_up g (eK E) (aI (E' H.size) 0 N (fun _ => 0))) H1 := by
    intro k q hq
    obtain ⟨h1, rfl⟩ := gW_inv hq
    rw [a3] at h1
    by_cases ck : k = eK E
    · subst ck
      rw [va_up_self, a4]
      have e2 : va_at (E' H.size).1 gC (H.size, aI (E' H.size) 0 N (fun _ => 0)) H1 := by
        unfold aI eT
        rw [a2]
        exact e1
      exact e2
    · rw [va_up_ne _ _ ck, a5 k (by omega), a1]
      exact (hP k _ (gW_at (by omega))).kept (o1 _ (hlt k (by omega)))
  have hT : eTys (E' H.size) = eTys E := by
    unfold eTys eT
    rw [a2]
  have hA' : ∀ q, gA (E' H.size) q → A q := by
    rintro q ⟨k, hk, rfl⟩
    rw [a3] at hk
    by_cases ck : k = eK E
    · rw [ck, a4]
      exact hnew _ hS.1
    · rw [a5 k (by omega)]
      exact hA _ ⟨k, by omega, rfl⟩
  have hE0' : eSub E0 (E' H.size) := ⟨hE0.1.trans a1.symm, hE0.2.1.trans a2.symm, by rw [a3]; have h9 : eK E0 ≤ eK E := hE0.2.2.1; omega, fun k hk => by
    have h9 : eK E0 ≤ eK E := hE0.2.2.1
    rw [a5 k (by omega)]
    exact hE0.2.2.2 k hk⟩
  have hK' : va_K (E' H.size).1 gC (eTys (E' H.size)) s := by
    rw [hT, a1]
    exact hK
  have h8 := kk H.size ⟨hx, hb, hml, hown, hts, hK', hE', hlk, hr, hfr, hll, hN, hA', hE0', hmc, hms, c1, c2⟩ H1 locs ls hP1 ⟨Nat.le_trans hS.1 (by omega), fun q h1 h2 => (o1 q (Nat.lt_of_lt_of_le h1 hS.1)).trans (hS.2.1 q h1 h2), hS.2.2⟩ hl
  have h7 : rf (E' H.size) (eK E) = .ref H.size := by
    unfold rf
    rw [a4]
  rw [h7] at h8
  exact h8
theorem pk_i {p : Int32 → Mem → Prop} {rest : List Value} (kk : ∀ (r : Int32) (g' : Mem), p r g' → Y l E X post pc lo (.int r :: rest) g') : ∀ (v : Option Value) (g' : Mem), pI p v g' → Y l E X post pc lo (v.toList ++ rest) g' := fun v g' h => by
  obtain ⟨r, rfl, h⟩ := h
  exact kk r g' h
theorem pk_l {p : Int64 → Mem → Prop} {rest : List Value} (kk : ∀ (r : Int64) (g' : Mem), p r g' → Y l E X post pc lo (.long r :: rest) g') : ∀ (v : Option Value) (g' : Mem), pL p v g' → Y l E X post pc lo (v.toList ++ rest) g' := fun v g' h => by
  obtain ⟨r, rfl, h⟩ := h
  exact kk r g' h
theorem pk_v {p : Mem → Prop} {rest : List Value} (kk : ∀ (g' : Mem), p g' → Y l E X post pc lo rest g') : ∀ (v : Option Value) (g' : Mem), pV p v g' → Y l E X post pc lo (v.toList ++ rest) g' := fun v g' h => by
  obtain ⟨rfl, h⟩ := h
  exact kk g' h
theorem pk_r {p : Option Nat → Mem → Prop} {rest : List Value} (kk : ∀ (o : Option Nat) (g' : Mem), p o g' → Y l E X post pc lo (rfo E o :: rest) g') : ∀ (v : Option Value) (g' : Mem), pR E p v g' → Y l E X post pc lo (v.toList ++ rest) g' := fun v g' h => by
  obtain ⟨o, rfl, h⟩ := h
  exact kk o g' h
end YR
