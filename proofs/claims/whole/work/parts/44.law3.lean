/-! THE CLAIM OUT OF ONE WALK OF THE LAW'S BODY. Your part is whole_start (and what it stands on); all else here is the same for every law, but numbers. -/
def R_law : String := "PaletteTurnsLaw"
def lw_P (b : Addr) (xs : List Int32) (args : Array Value) (s : State) : Prop := args = #[.ref b] ∧ s.IntsAt b xs ∧ xs.length ≤ 2560 ∧ (Jvm.Cond.and given_1 narrow_1).before args s = true
def lw_Q (_ : Array Value) (s : State) (o : Outcome) (t : State) : Prop := o = .returned (some (.int 1)) ∧ Framed s o t [] 600000 7302249
def lw_Z (below : List Frame) (a : Array Value) (s : State) : State → Prop := fun t => ∃ o, t.status = .running ∧ Ended t below o ∧ lw_Q a s o t
/-- the law's own end, with 1 on the stack, nothing written that was there before, its room as the claim has it -/
theorem lw_ret {p : Program} {l : Launch} {e : Env} {s : State} {m : MethodId} {below : List Frame} {meth : Method} {c : Code} {b : Nat} (hx : p.tables.exec = Jvm.exec) (hb : c.code = code) (hr : meth.sig.returnType = ret) (hlocks : meth.locks = false) {pc : Nat} {H : Heap} {ls : Array Slot} (hdg : decode code pc = .ok (.ireturn, 1)) : W p l e room_1 s m #[Value.ref b] below meth c H [] 600000 7302249 (lw_Z below #[Value.ref b] s) (F0 m pc ls [.int 1]) := by
  intro T hT X
  obtain ⟨fs, hret, hrun, hended, hW, hframe⟩ := X.leave (v := some (.int 1)) (hlocks := hlocks) (fun h => by rw [hr] at h; cases h)
  have hmeth' : T.vm.method? m = some meth := X.method'
  refine ⟨T.setFrames fs, ?_, .returned (some (.int 1)), hrun, hended, rfl, ⟨_, rfl⟩, hW, hframe⟩
  jvm_step X.here [X.here.top, hx, hb, hdg, hmeth', hr, ret, narrow_b1]
  (try refine ⟨rfl, ?_⟩); (try refine ⟨rfl, ?_⟩)
  first | (intro acts; rw [hret _ acts rfl rfl rfl]) | rw [hret _ _ rfl rfl rfl]
  exact Steps.refl _
/-- what holds at the law's entry: the machine, the code, the tables' words (any of lw_tbl by 'hts w (by decide +kernel)'), the script of L ints xs at the cell b, what the Statement gives of the start (any of its parts by flat_of_before) -/
def lw_At (p : Program) (s : State) (m : MethodId) (meth : Method) (c : Code) (b L : Nat) (xs : Nat → Int32) : Prop :=
  p.tables.exec = Jvm.exec ∧ c.code = code ∧ meth.sig.returnType = ret ∧ c.maxLocals = 4 ∧ s.vm.findClass R_law = some m.cls ∧ (∀ w ∈ lw_tbl, w.before #[Value.ref b] s = true) ∧ va_X b L xs s s.heap ∧ b < s.heap.size ∧ meth.locks = false ∧ (Jvm.Cond.and given_1 narrow_1).before #[Value.ref b] s = true
/-! ===== the law's walk: two worlds, the class's and the model's ===== -/
theorem va_Run_to {p : Program} {l : Launch} {e : Jvm.Env} {R : Room} {s : State} {m : MethodId} {args : Array Value} {below : List Frame} {meth : Method} {cd : Code} {H : Heap} {locs : List Loc} {Q : State → Prop} {pc : Nat} {ls : Array Slot} {rest st0 : List Value} {a : Array Value} {E : gE} {A0 : Nat → Prop} {postc : Option Value → Mem → Prop} {c s0 : Nat}
    (hr : va_Run p l e R s m args below meth cd H locs c s0 0 0 (F0 m pc ls st0) rest (gQ E postc a) (gA E)) (hS : va_S A0 s.heap H locs) (hA : ∀ q, gA E q → A0 q)
    (kk : ∀ (v : Option Value) (g' : Mem) (H1 : Heap) (locs1 : List Loc), postc v g' → gP E g' H1 → (∀ q, q < H.size → ¬ gA E q → H1[q]? = H[q]?) → va_S A0 s.heap H1 locs1 → W p l e R s m args below meth cd H1 locs1 c s0 Q (F0 m (pc + 3) ls (v.toList ++ rest))) : W p l e R s m args below meth cd H locs c s0 Q (F0 m pc ls st0) := by
  intro T hT X
  obtain ⟨v, st₀, t, T', L, h0, X', hL, e1, e2, ⟨⟨w, g', hv, hp, hb⟩, hz, hk⟩, st⟩ := hr T hT X
  cases hv
  rw [h0] at hz hk
  obtain ⟨t2, a1, b1⟩ := kk v g' T'.heap (locs ++ L) hp (by rw [e1]; exact hb) (fun q h1 h2 => by rw [e1]; exact hk q h1 h2)
    ⟨Nat.le_trans hS.1 (by rw [e1]; exact hz), fun q h1 h2 => by rw [e1, hk q (Nat.lt_of_lt_of_le h1 hS.1) (fun h => h2 (hA q h))]; exact hS.2.1 q h1 h2, fun q hq => by
      rcases List.mem_append.mp hq with h | h
      · exact hS.2.2 q h
      · exact hA _ (hL q h)⟩ T' rfl X'
  exact ⟨t2, st t2 a1, b1⟩
theorem zP_keep {G : va_G} {T : Nat → ClassId} {b n : Nat} {g : Mem} {H H1 : Heap} {Q : Nat → Prop} (hP : gP (zE G T b n) g H) (hk : ∀ q, q < H.size → ¬ Q q → H1[q]? = H[q]?) (hq : ∀ k, k < n → ¬ Q (b + k)) : gP (zE G T b n) g H1 := by
  intro k q hkq
  have h0 := hP k q hkq
  obtain ⟨h1, rfl⟩ := gW_inv hkq
  exact h0.kept (hk _ h0.lt (hq k h1))
abbrev jX : Type := Program × Jvm.Env × State × MethodId × List Frame × Method × Code × Nat × Nat × (Nat → Int32)
def jb (X : jX) : Nat := X.2.2.1.heap.size
def jLen (X : jX) : Nat := X.2.2.2.2.2.2.2.2.1
def jxs (X : jX) : Nat → Int32 := X.2.2.2.2.2.2.2.2.2
abbrev EC (G : va_G) (T : Nat → ClassId) (X : jX) : gE := zE G T (jb X) 100
abbrev EM (G : va_G) (T : Nat → ClassId) (X : jX) : gE := zE G T (jb X + 100) 12
def jC (G : va_G) (T : Nat → ClassId) (X : jX) : Prop := lw_At X.1 X.2.2.1 X.2.2.2.1 X.2.2.2.2.2.1 X.2.2.2.2.2.2.1 X.2.2.2.2.2.2.2.1 X.2.2.2.2.2.2.2.2.1 X.2.2.2.2.2.2.2.2.2 ∧ jLen X ≤ 2560 ∧ va_K G gC (zT T) X.2.2.1 ∧ gZ X.2.2.1
def jL (X : jX) (i : Nat) : List (Option Value) := [some (.ref X.2.2.2.2.2.2.2.1), some (zr (jb X) 0), some (zr (jb X + 100) 0), some (.int (nI i))]
def J (l : Launch) (G : va_G) (T : Nat → ClassId) (X : jX) (pc : Nat) (lo : List (Option Value)) (st : List Value) (g gm : Mem) : Prop :=
  ∀ (H : Heap) (locs : List Loc) (ls : Array Slot), gP (EC G T X) g H → gP (EM G T X) gm H → va_S (zA (jb X)) X.2.2.1.heap H locs → y_has ls lo →
    W X.1 l X.2.1 room_1 X.2.2.1 X.2.2.2.1 #[Value.ref X.2.2.2.2.2.2.2.1] X.2.2.2.2.1 X.2.2.2.2.2.1 X.2.2.2.2.2.2.1 H locs 112 2801 (lw_Z X.2.2.2.2.1 #[Value.ref X.2.2.2.2.2.2.2.1] X.2.2.1) (F0 X.2.2.2.1 pc ls st)
theorem j_and31 (x : Int32) : x &&& 31 = nI (x.toBitVec.toNat % 32) := by
  apply Int32.toBitVec_inj.mp
  apply BitVec.eq_of_toNat_eq
  show (x.toBitVec &&& 31#32).toNat = (x.toBitVec.toNat % 32) % 2 ^ 32
  rw [BitVec.toNat_and]
  have h := Nat.and_two_pow_sub_one_eq_mod x.toBitVec.toNat 5
  have h2 : (31#32).toNat = 2 ^ 5 - 1 := by decide
  rw [h2, h]
  omega
theorem j_gt {a L : Nat} (ha : a < 1000000) (hL : L < 1000000) : nI L - nI 5 < nI a ↔ L < a + 5 := by
  rw [Int32.lt_iff_toInt_lt, pk_sub_toInt (by omega) (by decide), nI_toInt (by omega)]
  omega
def jB (x : Int32) : Nat := if x = 0 then 0 else 1
theorem jB_le (x : Int32) : jB x ≤ 1 := by
  unfold jB
  split <;> decide
section JR
variable {l : Launch} {G : va_G} {T : Nat → ClassId} {X : jX} {pc : Nat} {lo lo' : List (Option Value)} {st : List Value} {g gm : Mem}
theorem j_iconst (hC : jC G T X) {i : Int} {v : Int32} (hd : decode code pc = .ok (.iconst i, 1)) (hv : Int32.ofInt i = v) (kk : J l G T X (pc + 1) lo (.int v :: st) g gm) : J l G T X pc lo st g gm := by
  obtain ⟨p, e, s, m, below, meth, cd, bb, L, xs⟩ := X
  obtain ⟨⟨hx, hb, hr, hml, hown, hts, hX, hbl, hlocks, hgv⟩, hL, hK, hN⟩ := hC
  intro H locs ls hP hM hS hl
  exact lv_iconst hx hb hd hv (kk H locs ls hP hM hS hl)
theorem j_bipush (hC : jC G T X) {i : Int} {v : Int32} (hd : decode code pc = .ok (.bipush i, 2)) (hv : (Int8.ofInt i).toInt32 = v) (kk : J l G T X (pc + 2) lo (.int v :: st) g gm) : J l G T X pc lo st g gm := by
  obtain ⟨p, e, s, m, below, meth, cd, bb, L, xs⟩ := X
  obtain ⟨⟨hx, hb, hr, hml, hown, hts, hX, hbl, hlocks, hgv⟩, hL, hK, hN⟩ := hC
  intro H locs ls hP hM hS hl
  exact lv_bipush hx hb hd hv (kk H locs ls hP hM hS hl)
theorem j_aload_n (hC : jC G T X) {k : Fin 4} {i a : Nat} (hd : decode code pc = .ok (.aload_n k, 1)) (hi : (k : Nat) = i) (ho : lo[i]? = some (some (.ref a))) (kk : J l G T X (pc + 1) lo (.ref a :: st) g gm) : J l G T X pc lo st g gm := by
  obtain ⟨p, e, s, m, below, meth, cd, bb, L, xs⟩ := X
  obtain ⟨⟨hx, hb, hr, hml, hown, hts, hX, hbl, hlocks, hgv⟩, hL, hK, hN⟩ := hC
  intro H locs ls hP hM hS hl
  exact lv_aload_n hx hb hd hi (hl.2.2 _ _ ho) (kk H locs ls hP hM hS hl)
theorem j_iload_n (hC : jC G T X) {k : Fin 4} {i : Nat} {x : Int32} (hd : decode code pc = .ok (.iload_n k, 1)) (hi : (k : Nat) = i) (ho : lo[i]? = some (some (.int x))) (kk : J l G T X (pc + 1) lo (.int x :: st) g gm) : J l G T X pc lo st g gm := by
  obtain ⟨p, e, s, m, below, meth, cd, bb, L, xs⟩ := X
  obtain ⟨⟨hx, hb, hr, hml, hown, hts, hX, hbl, hlocks, hgv⟩, hL, hK, hN⟩ := hC
  intro H locs ls hP hM hS hl
  exact lv_iload_n hx hb hd hi (hl.2.2 _ _ ho) (kk H locs ls hP hM hS hl)
theorem j_iinc (hC : jC G T X) {i : Nat} {d : Int} {x v : Int32} (hd : decode code pc = .ok (.iinc i d, 3)) (hx0 : lo[i]? = some (some (.int x))) (hv : x + Int32.ofInt d = v) (hn : i < lo.length) (hp : y_nl lo i = true) (ho : lo.set i (some (.int v)) = lo') (kk : J l G T X (pc + 3) lo' st g gm) : J l G T X pc lo st g gm := by
  obtain ⟨p, e, s, m, below, meth, cd, bb, L, xs⟩ := X
  obtain ⟨⟨hx, hb, hr, hml, hown, hts, hX, hbl, hlocks, hgv⟩, hL, hK, hN⟩ := hC
  intro H locs ls hP hM hS hl
  obtain ⟨k, hk⟩ := List.getElem?_of_mem (y_l_mem hx0)
  exact lv_iinc hx hb hd hl.lv hk hv hn rfl (fun ls' h' => kk H locs ls' hP hM hS (ho ▸ y_has_st1 rfl hn hp h'))
theorem j_goto (hC : jC G T X) {off : Int} {tgt : Nat} (hd : decode code pc = .ok (.goto off, 3)) (ht : (pc : Int) + off = (tgt : Int)) (kk : J l G T X tgt lo st g gm) : J l G T X pc lo st g gm := by
  obtain ⟨p, e, s, m, below, meth, cd, bb, L, xs⟩ := X
  obtain ⟨⟨hx, hb, hr, hml, hown, hts, hX, hbl, hlocks, hgv⟩, hL, hK, hN⟩ := hC
  intro H locs ls hP hM hS hl
  exact lv_goto hx hb hd ht (kk H locs ls hP hM hS hl)
theorem j_iadd (hC : jC G T X) {x y : Int32} (hd : decode code pc = .ok (.iadd, 1)) (kk : J l G T X (pc + 1) lo (.int (x + y) :: st) g gm) : J l G T X pc lo (.int y :: .int x :: st) g gm := by
  obtain ⟨p, e, s, m, below, meth, cd, bb, L, xs⟩ := X
  obtain ⟨⟨hx, hb, hr, hml, hown, hts, hX, hbl, hlocks, hgv⟩, hL, hK, hN⟩ := hC
  intro H locs ls hP hM hS hl
  exact lv_iadd hx hb hd (kk H locs ls hP hM hS hl)
theorem j_isub (hC : jC G T X) {x y : Int32} (hd : decode code pc = .ok (.isub, 1)) (kk : J l G T X (pc + 1) lo (.int (x - y) :: st) g gm) : J l G T X pc lo (.int y :: .int x :: st) g gm := by
  obtain ⟨p, e, s, m, below, meth, cd, bb, L, xs⟩ := X
  obtain ⟨⟨hx, hb, hr, hml, hown, hts, hX, hbl, hlocks, hgv⟩, hL, hK, hN⟩ := hC
  intro H locs ls hP hM hS hl
  exact lv_isub hx hb hd (kk H locs ls hP hM hS hl)
theorem j_iand (hC : jC G T X) {x y : Int32} (hd : decode code pc = .ok (.iand, 1)) (kk : J l G T X (pc + 1) lo (.int (x &&& y) :: st) g gm) : J l G T X pc lo (.int y :: .int x :: st) g gm := by
  obtain ⟨p, e, s, m, below, meth, cd, bb, L, xs⟩ := X
  obtain ⟨⟨hx, hb, hr, hml, hown, hts, hX, hbl, hlocks, hgv⟩, hL, hK, hN⟩ := hC
  intro H locs ls hP hM hS hl
  exact lv_iand hx hb hd (kk H locs ls hP hM hS hl)
theorem j_i2c (hC : jC G T X) {x v : Int32} (hd : decode code pc = .ok (.i2c, 1)) (hv : (x.toUInt32 % 65536).toInt32 = v) (kk : J l G T X (pc + 1) lo (.int v :: st) g gm) : J l G T X pc lo (.int x :: st) g gm := by
  obtain ⟨p, e, s, m, below, meth, cd, bb, L, xs⟩ := X
  obtain ⟨⟨hx, hb, hr, hml, hown, hts, hX, hbl, hlocks, hgv⟩, hL, hK, hN⟩ := hC
  intro H locs ls hP hM hS hl
  exact lv_i2c hx hb hd hv (kk H locs ls hP hM hS hl)
theorem j_lcmp (hC : jC G T X) {x y : Int64} (hd : decode code pc = .ok (.lcmp, 1)) (kk : J l G T X (pc + 1) lo (.int (lg_cmp x y) :: st) g gm) : J l G T X pc lo (.long y :: .long x :: st) g gm := by
  obtain ⟨p, e, s, m, below, meth, cd, bb, L, xs⟩ := X
  obtain ⟨⟨hx, hb, hr, hml, hown, hts, hX, hbl, hlocks, hgv⟩, hL, hK, hN⟩ := hC
  intro H locs ls hP hM hS hl
  exact W.lcmp hx hb hd (kk H locs ls hP hM hS hl)
theorem j_icmp_gt (hC : jC G T X) {x y : Int32} {off : Int} {tgt : Nat} (hd : decode code pc = .ok (.if_icmp .gt off, 3)) (ht : (pc : Int) + off = (tgt : Int)) (kt : y < x → J l G T X tgt lo st g gm) (kf : ¬ y < x → J l G T X (pc + 3) lo st g gm) : J l G T X pc lo (.int y :: .int x :: st) g gm := by
  obtain ⟨p, e, s, m, below, meth, cd, bb, L, xs⟩ := X
  obtain ⟨⟨hx, hb, hr, hml, hown, hts, hX, hbl, hlocks, hgv⟩, hL, hK, hN⟩ := hC
  intro H locs ls hP hM hS hl
  exact lv_icmp_gt hx hb hd ht (fun q => kt q H locs ls hP hM hS hl) (fun q => kf q H locs ls hP hM hS hl)
theorem j_icmp_eq (hC : jC G T X) {x y : Int32} {off : Int} {tgt : Nat} (hd : decode code pc = .ok (.if_icmp .eq off, 3)) (ht : (pc : Int) + off = (tgt : Int)) (kt : x = y → J l G T X tgt lo st g gm) (kf : ¬ x = y → J l G T X (pc + 3) lo st g gm) : J l G T X pc lo (.int y :: .int x :: st) g gm := by
  obtain ⟨p, e, s, m, below, meth, cd, bb, L, xs⟩ := X
  obtain ⟨⟨hx, hb, hr, hml, hown, hts, hX, hbl, hlocks, hgv⟩, hL, hK, hN⟩ := hC
  intro H locs ls hP hM hS hl
  exact lv_icmp_eq hx hb hd ht (fun q => kt q H locs ls hP hM hS hl) (fun q => kf q H locs ls hP hM hS hl)
theorem j_if_eq (hC : jC G T X) {x : Int32} {off : Int} {tgt : Nat} (hd : decode code pc = .ok (.ifCond .eq off, 3)) (ht : (pc : Int) + off = (tgt : Int)) (kt : x = 0 → J l G T X tgt lo st g gm) (kf : ¬ x = 0 → J l G T X (pc + 3) lo st g gm) : J l G T X pc lo (.int x :: st) g gm := by
  obtain ⟨p, e, s, m, below, meth, cd, bb, L, xs⟩ := X
  obtain ⟨⟨hx, hb, hr, hml, hown, hts, hX, hbl, hlocks, hgv⟩, hL, hK, hN⟩ := hC
  intro H locs ls hP hM hS hl
  exact lv_if_eq hx hb hd ht (fun q => kt q H locs ls hP hM hS hl) (fun q => kf q H locs ls hP hM hS hl)
theorem j_tabOut (hC : jC G T X) {d lw hg : Int} {offs : Array Int} {len : Nat} {x : Int32} {tgt : Nat} (hd : decode code pc = .ok (.tableswitch d lw hg offs, len)) (h : x.toInt < lw ∨ hg < x.toInt) (ht : (pc : Int) + d = (tgt : Int)) (kk : J l G T X tgt lo st g gm) : J l G T X pc lo (.int x :: st) g gm := by
  obtain ⟨p, e, s, m, below, meth, cd, bb, L, xs⟩ := X
  obtain ⟨⟨hx, hb, hr, hml, hown, hts, hX, hbl, hlocks, hgv⟩, hL, hK, hN⟩ := hC
  intro H locs ls hP hM hS hl
  exact lv_tableOut hx hb hd h ht (kk H locs ls hP hM hS hl)
theorem j_tabIn (hC : jC G T X) {d lw hg : Int} {offs : Array Int} {len : Nat} {x : Int32} {off : Int} {tgt : Nat} (hd : decode code pc = .ok (.tableswitch d lw hg offs, len)) (h1 : ¬ x.toInt < lw) (h2 : ¬ hg < x.toInt) (ho : offs[(x.toInt - lw).toNat]? = some off) (ht : (pc : Int) + off = (tgt : Int)) (kk : J l G T X tgt lo st g gm) : J l G T X pc lo (.int x :: st) g gm := by
  obtain ⟨p, e, s, m, below, meth, cd, bb, L, xs⟩ := X
  obtain ⟨⟨hx, hb, hr, hml, hown, hts, hX, hbl, hlocks, hgv⟩, hL, hK, hN⟩ := hC
  intro H locs ls hP hM hS hl
  exact lv_tableIn hx hb hd h1 h2 ho ht (kk H locs ls hP hM hS hl)
theorem j_sld (hC : jC G T X) {i : Int32} {j : Nat} (hi : i = nI j) (hj : j < jLen X) (hd : decode code pc = .ok (.iaload, 1)) (kk : J l G T X (pc + 1) lo (.int (jxs X j) :: st) g gm) : J l G T X pc lo (.int i :: .ref X.2.2.2.2.2.2.2.1 :: st) g gm := by
  obtain ⟨p, e, s, m, below, meth, cd, bb, L, xs⟩ := X
  obtain ⟨⟨hx, hb, hr, hml, hown, hts, hX, hbl, hlocks, hgv⟩, hL, hK, hN⟩ := hC
  intro H locs ls hP hM hS hl
  have hj2 : j < L := hj
  have hL2 : L ≤ 2560 := hL
  obtain ⟨h1, h2⟩ := y_ix hi hj2 (show L < 2147483648 by omega)
  exact va_sld (A := zA s.heap.size) hx hb hX hbl (Nat.not_le.mpr hbl) hS h1 hd (by rw [h2]; exact kk H locs ls hP hM hS hl)
theorem j_slen (hC : jC G T X) (hd : decode code pc = .ok (.arraylength, 1)) (kk : J l G T X (pc + 1) lo (.int (nI (jLen X)) :: st) g gm) : J l G T X pc lo (.ref X.2.2.2.2.2.2.2.1 :: st) g gm := by
  obtain ⟨p, e, s, m, below, meth, cd, bb, L, xs⟩ := X
  obtain ⟨⟨hx, hb, hr, hml, hown, hts, hX, hbl, hlocks, hgv⟩, hL, hK, hN⟩ := hC
  intro H locs ls hP hM hS hl
  exact va_slen (A := zA s.heap.size) hx hb hX hbl (Nat.not_le.mpr hbl) hS hd (kk H locs ls hP hM hS hl)
theorem j_end (hC : jC G T X) (hd : decode code pc = .ok (.ireturn, 1))  : J l G T X pc lo [.int 1] g gm := by
  obtain ⟨p, e, s, m, below, meth, cd, bb, L, xs⟩ := X
  obtain ⟨⟨hx, hb, hr, hml, hown, hts, hX, hbl, hlocks, hgv⟩, hL, hK, hN⟩ := hC
  intro H locs ls hP hM hS hl
  refine va_forget (fun q hq => hS.2.2 q hq) ?_
  refine W.widen (k := 600000) (n := 7302249) (Nat.le_of_ble_eq_true rfl) (Nat.le_of_ble_eq_true rfl) ?_
  exact lw_ret hx hb hr hlocks hd
theorem j_callC (hC : jC G T X) {idx n mL fr2 ll2 : Nat} {y : MethodName} {bytes : ByteArray} {rt : Option FieldType} {fs As rest : List Value} {postc : Option Value → Mem → Prop} (hw : yMv 5 y bytes mL rt n) (hlink : Cond.methodLink R_law idx y ∈ lw_gt) (hd : decode code pc = .ok (.invokevirtual idx, 3)) (hMt : Mt l (EC G T X) y bytes mL rt fr2 ll2 (rf (EC G T X) 0 :: As) g postc) (hg : g 0 = oB 5 fs) (hlen : As.length = n) (hst : st = As.reverse ++ zr (jb X) 0 :: rest) (hnL : lo.length = 4) (hcat : (rest.map fun v => v.category).sum ≤ 8) (hroom : fr2 + 1 ≤ 10 ∧ 8 + (mL + 11) + ll2 ≤ 356) (kk : ∀ (v : Option Value) (g' : Mem), postc v g' → J l G T X (pc + 3) lo (v.toList ++ rest) g' gm) : J l G T X pc lo st g gm := by
  obtain ⟨p, e, s, m, below, meth, cd, bb, L, xs⟩ := X
  obtain ⟨⟨hx, hb, hr, hml, hown, hts, hX, hbl, hlocks, hgv⟩, hL, hK, hN⟩ := hC
  intro H locs ls hP hM hS hl
  have htg : ∀ w ∈ lw_gt, w.before #[Value.ref bb] s = true := fun w h => hts w (List.mem_filter.mp h).1
  obtain ⟨q, w1, w2, w3, w4, w5, w6, w7⟩ := hw
  refine va_Run_to (E := (zE G T s.heap.size 100)) (A0 := zA s.heap.size) (postc := postc) (rest := rest) (va_runV (C := y.cls) (index := idx) (n := n) (As := As) (rest := rest) (free := gA (zE G T s.heap.size 100)) (Ts := lw_gt) (own := R_law) (nL := 4) ⟨hx, hb, hml, hown, htg⟩ hMt ⟨callB_of n htg (lw_good w7) rfl rfl rfl (htg _ w6) (htg _ hlink) w3 ⟨hroom.1, hroom.2⟩, htg _ w4, htg _ w5⟩ ⟨mt_blind, ?_, fun U hU hW => ⟨rfl, by rw [hU]; exact hP, va_K.moved hW.alike hK, zOk, va_Nw.warmM hW hN.1⟩⟩ rfl hlen (hl.1.trans hnL) hst (lv_room hcat) hd ⟨Nat.le_of_ble_eq_true rfl, Nat.le_of_ble_eq_true rfl⟩) hS (fun q hq => ?_) (fun v g' H1 locs1 hp hP1 hk1 hS1 => kk v g' hp H1 locs1 ls hP1 (zP_keep hM hk1 (fun k hk h => by
    obtain ⟨k2, h2, h3⟩ := h
    have h2' : k2 < 100 := h2
    have h3' : s.heap.size + k2 = s.heap.size + 100 + k := h3
    omega)) hS1 hl)
  · rw [← w2]
    have h9 : (gW (zE G T s.heap.size 100) g)[0]? = some (eA (zE G T s.heap.size 100) 0, oB 5 fs) := by
      rw [← hg]
      exact gW_at (show 0 < eK (zE G T s.heap.size 100) from Nat.le_of_ble_eq_true rfl)
    exact va_recv hK hP (ci := 5) (q0 := 0) w1 h9
  · obtain ⟨k, hk, rfl⟩ := hq
    show s.heap.size ≤ s.heap.size + k
    omega
theorem j_callM (hC : jC G T X) {idx n mL fr2 ll2 : Nat} {y : MethodName} {bytes : ByteArray} {rt : Option FieldType} {fs As rest : List Value} {postc : Option Value → Mem → Prop} (hw : yMv 6 y bytes mL rt n) (hlink : Cond.methodLink R_law idx y ∈ lw_gt) (hd : decode code pc = .ok (.invokevirtual idx, 3)) (hMt : Mt l (EM G T X) y bytes mL rt fr2 ll2 (rf (EM G T X) 0 :: As) gm postc) (hg : gm 0 = oB 6 fs) (hlen : As.length = n) (hst : st = As.reverse ++ zr (jb X + 100) 0 :: rest) (hnL : lo.length = 4) (hcat : (rest.map fun v => v.category).sum ≤ 8) (hroom : fr2 + 1 ≤ 10 ∧ 8 + (mL + 11) + ll2 ≤ 356) (kk : ∀ (v : Option Value) (g' : Mem), postc v g' → J l G T X (pc + 3) lo (v.toList ++ rest) g g') : J l G T X pc lo st g gm := by
  obtain ⟨p, e, s, m, below, meth, cd, bb, L, xs⟩ := X
  obtain ⟨⟨hx, hb, hr, hml, hown, hts, hX, hbl, hlocks, hgv⟩, hL, hK, hN⟩ := hC
  intro H locs ls hP hM hS hl
  have htg : ∀ w ∈ lw_gt, w.before #[Value.ref bb] s = true := fun w h => hts w (List.mem_filter.mp h).1
  obtain ⟨q, w1, w2, w3, w4, w5, w6, w7⟩ := hw
  refine va_Run_to (E := (zE G T (s.heap.size + 100) 12)) (A0 := zA s.heap.size) (postc := postc) (rest := rest) (va_runV (C := y.cls) (index := idx) (n := n) (As := As) (rest := rest) (free := gA (zE G T (s.heap.size + 100) 12)) (Ts := lw_gt) (own := R_law) (nL := 4) ⟨hx, hb, hml, hown, htg⟩ hMt ⟨callB_of n htg (lw_good w7) rfl rfl rfl (htg _ w6) (htg _ hlink) w3 ⟨hroom.1, hroom.2⟩, htg _ w4, htg _ w5⟩ ⟨mt_blind, ?_, fun U hU hW => ⟨rfl, by rw [hU]; exact hM, va_K.moved hW.alike hK, zOk, va_Nw.warmM hW hN.1⟩⟩ rfl hlen (hl.1.trans hnL) hst (lv_room hcat) hd ⟨Nat.le_of_ble_eq_true rfl, Nat.le_of_ble_eq_true rfl⟩) hS (fun q hq => ?_) (fun v g' H1 locs1 hp hP1 hk1 hS1 => kk v g' hp H1 locs1 ls (zP_keep hP hk1 (fun k hk h => by
    obtain ⟨k2, h2, h3⟩ := h
    have h2' : k2 < 12 := h2
    have h3' : s.heap.size + 100 + k2 = s.heap.size + k := h3
    omega)) hP1 hS1 hl)
  · rw [← w2]
    have h9 : (gW (zE G T (s.heap.size + 100) 12) gm)[0]? = some (eA (zE G T (s.heap.size + 100) 12) 0, oB 6 fs) := by
      rw [← hg]
      exact gW_at (show 0 < eK (zE G T (s.heap.size + 100) 12) from Nat.le_of_ble_eq_true rfl)
    exact va_recv hK hM (ci := 6) (q0 := 0) w1 h9
  · obtain ⟨k, hk, rfl⟩ := hq
    show s.heap.size ≤ s.heap.size + 100 + k
    omega
theorem jkC_i {p : Int32 → Mem → Prop} {rest : List Value} (kk : ∀ (r : Int32) (g' : Mem), p r g' → J l G T X pc lo (.int r :: rest) g' gm) : ∀ (v : Option Value) (g' : Mem), pI p v g' → J l G T X pc lo (v.toList ++ rest) g' gm := fun v g' h => by
  obtain ⟨r, rfl, h⟩ := h
  exact kk r g' h
theorem jkC_l {p : Int64 → Mem → Prop} {rest : List Value} (kk : ∀ (r : Int64) (g' : Mem), p r g' → J l G T X pc lo (.long r :: rest) g' gm) : ∀ (v : Option Value) (g' : Mem), pL p v g' → J l G T X pc lo (v.toList ++ rest) g' gm := fun v g' h => by
  obtain ⟨r, rfl, h⟩ := h
  exact kk r g' h
theorem jkM_i {p : Int32 → Mem → Prop} {rest : List Value} (kk : ∀ (r : Int32) (g' : Mem), p r g' → J l G T X pc lo (.int r :: rest) g g') : ∀ (v : Option Value) (g' : Mem), pI p v g' → J l G T X pc lo (v.toList ++ rest) g g' := fun v g' h => by
  obtain ⟨r, rfl, h⟩ := h
  exact kk r g' h
theorem jkM_l {p : Int64 → Mem → Prop} {rest : List Value} (kk : ∀ (r : Int64) (g' : Mem), p r g' → J l G T X pc lo (.long r :: rest) g g') : ∀ (v : Option Value) (g' : Mem), pL p v g' → J l G T X pc lo (v.toList ++ rest) g g' := fun v g' h => by
  obtain ⟨r, rfl, h⟩ := h
  exact kk r g' h
/-- an argument: the script's int at i + k -/
theorem j_arg (hC : jC G T X) {i k : Nat} {q : Int} (d0 : decode code pc = .ok (.aload_n 0, 1)) (d1 : decode code (pc + 1) = .ok (.iload_n 3, 1)) (d2 : decode code (pc + 2) = .ok (.iconst q, 1)) (d3 : decode code (pc + 3) = .ok (.iadd, 1)) (d4 : decode code (pc + 4) = .ok (.iaload, 1)) (hq : Int32.ofInt q = nI k) (hik : i + k < jLen X) (kk : J l G T X (pc + 5) (jL X i) (.int (jxs X (i + k)) :: st) g gm) : J l G T X pc (jL X i) st g gm := by
  refine j_aload_n hC d0 (i := 0) rfl rfl ?_
  refine j_iload_n hC d1 (i := 3) rfl rfl ?_
  refine j_iconst hC d2 hq ?_
  refine j_iadd hC d3 ?_
  exact j_sld hC (nI_add i k) hik d4 kk
/-- is it other than 0? -/
theorem j_bool (hC : jC G T X) {x : Int32} (d0 : decode code pc = .ok (.ifCond .eq 7, 3)) (d1 : decode code (pc + 3) = .ok (.iconst 1, 1)) (d2 : decode code (pc + 4) = .ok (.goto 4, 3)) (d3 : decode code (pc + 7) = .ok (.iconst 0, 1)) (kk : J l G T X (pc + 8) lo (.int (nI (jB x)) :: st) g gm) : J l G T X pc lo (.int x :: st) g gm := by
  refine j_if_eq hC d0 (tgt := pc + 7) (by omega) (fun q => ?_) (fun q => ?_)
  · refine j_iconst (v := nI 0) hC d3 (by decide) ?_
    rw [show jB x = 0 from if_pos q] at kk
    exact kk
  · refine j_iconst (v := nI 1) hC d1 (by decide) ?_
    refine j_goto hC d2 (tgt := pc + 8) (by omega) ?_
    rw [show jB x = 1 from if_neg q] at kk
    exact kk
end JR
theorem mz_a0 {E : gE} {g : Mem} {S : AS} (h : MZ E g S) : ∃ fs, g 0 = oB 6 fs := by
  obtain ⟨_, _, _, _, _, _, hX, -⟩ := h
  exact ⟨_, hX.a0⟩
theorem kL_13 : Cond.methodLink R_law 13 yX5_setColour ∈ lw_gt := lw_g (List.mem_append_right _ (List.mem_of_getElem? (i := 198) (by decide +kernel))) rfl
theorem kL_18 : Cond.methodLink R_law 18 yX5_blend ∈ lw_gt := lw_g (List.mem_append_right _ (List.mem_of_getElem? (i := 232) (by decide +kernel))) rfl
theorem kL_23 : Cond.methodLink R_law 23 yX5_freeze ∈ lw_gt := lw_g (List.mem_append_right _ (List.mem_of_getElem? (i := 253) (by decide +kernel))) rfl
theorem kL_28 : Cond.methodLink R_law 28 yX5_addRange ∈ lw_gt := lw_g (List.mem_append_right _ (List.mem_of_getElem? (i := 317) (by decide +kernel))) rfl
theorem kL_32 : Cond.methodLink R_law 32 yX5_removeRange ∈ lw_gt := lw_g (List.mem_append_right _ (List.mem_of_getElem? (i := 344) (by decide +kernel))) rfl
theorem kL_37 : Cond.methodLink R_law 37 yX5_setSpeed ∈ lw_gt := lw_g (List.mem_append_right _ (List.mem_of_getElem? (i := 356) (by decide +kernel))) rfl
theorem kL_42 : Cond.methodLink R_law 42 yX5_run ∈ lw_gt := lw_g (List.mem_append_right _ (List.mem_of_getElem? (i := 361) (by decide +kernel))) rfl
theorem kL_47 : Cond.methodLink R_law 47 yX5_addGlow ∈ lw_gt := lw_g (List.mem_append_right _ (List.mem_of_getElem? (i := 369) (by decide +kernel))) rfl
theorem kL_51 : Cond.methodLink R_law 51 yX5_removeGlow ∈ lw_gt := lw_g (List.mem_append_right _ (List.mem_of_getElem? (i := 382) (by decide +kernel))) rfl
theorem kL_55 : Cond.methodLink R_law 55 yX5_pass ∈ lw_gt := lw_g (List.mem_append_right _ (List.mem_of_getElem? (i := 394) (by decide +kernel))) rfl
theorem kL_59 : Cond.methodLink R_law 59 yX5_perform ∈ lw_gt := lw_g (List.mem_append_right _ (List.mem_of_getElem? (i := 410) (by decide +kernel))) rfl
theorem kL_63 : Cond.methodLink R_law 63 yX5_type ∈ lw_gt := lw_g (List.mem_append_right _ (List.mem_of_getElem? (i := 481) (by decide +kernel))) rfl
theorem kL_68 : Cond.methodLink R_law 68 yX5_clearText ∈ lw_gt := lw_g (List.mem_append_right _ (List.mem_of_getElem? (i := 489) (by decide +kernel))) rfl
theorem kL_72 : Cond.methodLink R_law 72 yX5_paint ∈ lw_gt := lw_g (List.mem_append_right _ (List.mem_of_getElem? (i := 493) (by decide +kernel))) rfl
theorem kL_76 : Cond.methodLink R_law 76 yX5_fill ∈ lw_gt := lw_g (List.mem_append_right _ (List.mem_of_getElem? (i := 500) (by decide +kernel))) rfl
theorem kL_80 : Cond.methodLink R_law 80 yX5_undo ∈ lw_gt := lw_g (List.mem_append_right _ (List.mem_of_getElem? (i := 512) (by decide +kernel))) rfl
theorem kL_84 : Cond.methodLink R_law 84 yX5_keep ∈ lw_gt := lw_g (List.mem_append_right _ (List.mem_of_getElem? (i := 520) (by decide +kernel))) rfl
theorem kL_88 : Cond.methodLink R_law 88 yX5_restore ∈ lw_gt := lw_g (List.mem_append_right _ (List.mem_of_getElem? (i := 525) (by decide +kernel))) rfl
theorem kL_92 : Cond.methodLink R_law 92 yX5_colour ∈ lw_gt := lw_g (List.mem_append_right _ (List.mem_of_getElem? (i := 529) (by decide +kernel))) rfl
theorem kL_96 : Cond.methodLink R_law 96 yX5_shown ∈ lw_gt := lw_g (List.mem_append_right _ (List.mem_of_getElem? (i := 533) (by decide +kernel))) rfl
theorem kL_100 : Cond.methodLink R_law 100 yX5_range ∈ lw_gt := lw_g (List.mem_append_right _ (List.mem_of_getElem? (i := 537) (by decide +kernel))) rfl
theorem kL_104 : Cond.methodLink R_law 104 yX5_glow ∈ lw_gt := lw_g (List.mem_append_right _ (List.mem_of_getElem? (i := 542) (by decide +kernel))) rfl
theorem kL_108 : Cond.methodLink R_law 108 yX5_pixel ∈ lw_gt := lw_g (List.mem_append_right _ (List.mem_of_getElem? (i := 547) (by decide +kernel))) rfl
theorem kL_113 : Cond.methodLink R_law 113 yX5_total ∈ lw_gt := lw_g (List.mem_append_right _ (List.mem_of_getElem? (i := 551) (by decide +kernel))) rfl
theorem kL_117 : Cond.methodLink R_law 117 yX5_shownIn ∈ lw_gt := lw_g (List.mem_append_right _ (List.mem_of_getElem? (i := 584) (by decide +kernel))) rfl
theorem kL_121 : Cond.methodLink R_law 121 yX5_fullTurn ∈ lw_gt := lw_g (List.mem_append_right _ (List.mem_of_getElem? (i := 591) (by decide +kernel))) rfl
theorem kL_126 : Cond.methodLink R_law 126 yX5_nearest ∈ lw_gt := lw_g (List.mem_append_right _ (List.mem_of_getElem? (i := 606) (by decide +kernel))) rfl
theorem kL_130 : Cond.methodLink R_law 130 yX5_changes ∈ lw_gt := lw_g (List.mem_append_right _ (List.mem_of_getElem? (i := 613) (by decide +kernel))) rfl
theorem kL_134 : Cond.methodLink R_law 134 yX5_pictureBack ∈ lw_gt := lw_g (List.mem_append_right _ (List.mem_of_getElem? (i := 617) (by decide +kernel))) rfl
theorem kL_138 : Cond.methodLink R_law 138 yX5_contrast ∈ lw_gt := lw_g (List.mem_append_right _ (List.mem_of_getElem? (i := 629) (by decide +kernel))) rfl
theorem kL_83 : Cond.methodLink R_law 83 yX6_undo ∈ lw_gt := lw_g (List.mem_append_right _ (List.mem_of_getElem? (i := 702) (by decide +kernel))) rfl
theorem kL_87 : Cond.methodLink R_law 87 yX6_keep ∈ lw_gt := lw_g (List.mem_append_right _ (List.mem_of_getElem? (i := 706) (by decide +kernel))) rfl
theorem kL_91 : Cond.methodLink R_law 91 yX6_restore ∈ lw_gt := lw_g (List.mem_append_right _ (List.mem_of_getElem? (i := 710) (by decide +kernel))) rfl
theorem kL_17 : Cond.methodLink R_law 17 yX6_setColour ∈ lw_gt := lw_g (List.mem_append_right _ (List.mem_of_getElem? (i := 718) (by decide +kernel))) rfl
theorem kL_22 : Cond.methodLink R_law 22 yX6_blend ∈ lw_gt := lw_g (List.mem_append_right _ (List.mem_of_getElem? (i := 732) (by decide +kernel))) rfl
theorem kL_27 : Cond.methodLink R_law 27 yX6_freeze ∈ lw_gt := lw_g (List.mem_append_right _ (List.mem_of_getElem? (i := 746) (by decide +kernel))) rfl
theorem kL_31 : Cond.methodLink R_law 31 yX6_addRange ∈ lw_gt := lw_g (List.mem_append_right _ (List.mem_of_getElem? (i := 793) (by decide +kernel))) rfl
theorem kL_36 : Cond.methodLink R_law 36 yX6_removeRange ∈ lw_gt := lw_g (List.mem_append_right _ (List.mem_of_getElem? (i := 801) (by decide +kernel))) rfl
theorem kL_41 : Cond.methodLink R_law 41 yX6_setSpeed ∈ lw_gt := lw_g (List.mem_append_right _ (List.mem_of_getElem? (i := 809) (by decide +kernel))) rfl
theorem kL_46 : Cond.methodLink R_law 46 yX6_run ∈ lw_gt := lw_g (List.mem_append_right _ (List.mem_of_getElem? (i := 813) (by decide +kernel))) rfl
theorem kL_50 : Cond.methodLink R_law 50 yX6_addGlow ∈ lw_gt := lw_g (List.mem_append_right _ (List.mem_of_getElem? (i := 821) (by decide +kernel))) rfl
theorem kL_54 : Cond.methodLink R_law 54 yX6_removeGlow ∈ lw_gt := lw_g (List.mem_append_right _ (List.mem_of_getElem? (i := 825) (by decide +kernel))) rfl
theorem kL_58 : Cond.methodLink R_law 58 yX6_pass ∈ lw_gt := lw_g (List.mem_append_right _ (List.mem_of_getElem? (i := 833) (by decide +kernel))) rfl
theorem kL_67 : Cond.methodLink R_law 67 yX6_type ∈ lw_gt := lw_g (List.mem_append_right _ (List.mem_of_getElem? (i := 853) (by decide +kernel))) rfl
theorem kL_71 : Cond.methodLink R_law 71 yX6_clearText ∈ lw_gt := lw_g (List.mem_append_right _ (List.mem_of_getElem? (i := 857) (by decide +kernel))) rfl
theorem kL_62 : Cond.methodLink R_law 62 yX6_perform ∈ lw_gt := lw_g (List.mem_append_right _ (List.mem_of_getElem? (i := 861) (by decide +kernel))) rfl
theorem kL_75 : Cond.methodLink R_law 75 yX6_paint ∈ lw_gt := lw_g (List.mem_append_right _ (List.mem_of_getElem? (i := 908) (by decide +kernel))) rfl
theorem kL_79 : Cond.methodLink R_law 79 yX6_fill ∈ lw_gt := lw_g (List.mem_append_right _ (List.mem_of_getElem? (i := 919) (by decide +kernel))) rfl
theorem kL_95 : Cond.methodLink R_law 95 yX6_colour ∈ lw_gt := lw_g (List.mem_append_right _ (List.mem_of_getElem? (i := 931) (by decide +kernel))) rfl
theorem kL_99 : Cond.methodLink R_law 99 yX6_shown ∈ lw_gt := lw_g (List.mem_append_right _ (List.mem_of_getElem? (i := 935) (by decide +kernel))) rfl
theorem kL_103 : Cond.methodLink R_law 103 yX6_range ∈ lw_gt := lw_g (List.mem_append_right _ (List.mem_of_getElem? (i := 939) (by decide +kernel))) rfl
theorem kL_107 : Cond.methodLink R_law 107 yX6_glow ∈ lw_gt := lw_g (List.mem_append_right _ (List.mem_of_getElem? (i := 943) (by decide +kernel))) rfl
theorem kL_112 : Cond.methodLink R_law 112 yX6_pixel ∈ lw_gt := lw_g (List.mem_append_right _ (List.mem_of_getElem? (i := 947) (by decide +kernel))) rfl
theorem kL_116 : Cond.methodLink R_law 116 yX6_total ∈ lw_gt := lw_g (List.mem_append_right _ (List.mem_of_getElem? (i := 951) (by decide +kernel))) rfl
theorem kL_120 : Cond.methodLink R_law 120 yX6_shownIn ∈ lw_gt := lw_g (List.mem_append_right _ (List.mem_of_getElem? (i := 967) (by decide +kernel))) rfl
theorem kL_125 : Cond.methodLink R_law 125 yX6_fullTurn ∈ lw_gt := lw_g (List.mem_append_right _ (List.mem_of_getElem? (i := 979) (by decide +kernel))) rfl
theorem kL_129 : Cond.methodLink R_law 129 yX6_nearest ∈ lw_gt := lw_g (List.mem_append_right _ (List.mem_of_getElem? (i := 989) (by decide +kernel))) rfl
theorem kL_133 : Cond.methodLink R_law 133 yX6_changes ∈ lw_gt := lw_g (List.mem_append_right _ (List.mem_of_getElem? (i := 996) (by decide +kernel))) rfl
theorem kL_137 : Cond.methodLink R_law 137 yX6_pictureBack ∈ lw_gt := lw_g (List.mem_append_right _ (List.mem_of_getElem? (i := 1008) (by decide +kernel))) rfl
theorem kL_141 : Cond.methodLink R_law 141 yX6_contrast ∈ lw_gt := lw_g (List.mem_append_right _ (List.mem_of_getElem? (i := 1012) (by decide +kernel))) rfl
section JCS
variable {l : Launch} {G : va_G} {T : Nat → ClassId} {X : jX} {i : Nat} {S : AS} {B : Nat} {g gm : Mem}
theorem jc_0 (hC : jC G T X) (hB : B < 80000000) (ho : OK S B) (hc : CP (EC G T X) g S) (hz : MZ (EM G T X) gm S) (hi : i + 5 ≤ jLen X) (kk : ∀ S' g' gm', OK S' (B + 10000) → CP (EC G T X) g' S' → MZ (EM G T X) gm' S' → J l G T X 1013 (jL X i) [] g' gm') : J l G T X 168 (jL X i) [] g gm := by
  obtain ⟨sh, mk, wa, h⟩ := hc
  obtain ⟨fsm, hm0⟩ := mz_a0 hz
  refine j_aload_n hC dL_168 (i := 1) rfl rfl ?_
  refine j_arg (k := 1) hC dL_169 dL_170 dL_171 dL_172 dL_173 (by decide) (by omega) ?_
  refine j_arg (k := 2) hC dL_174 dL_175 dL_176 dL_177 dL_178 (by decide) (by omega) ?_
  refine j_callC hC mX5_setColour kL_13 dL_179 (c_X5_setColour l _ g S B (by omega) ho sh mk wa h _ _) h.a0 rfl rfl rfl (Nat.le_of_ble_eq_true rfl) ⟨Nat.le_of_ble_eq_true rfl, Nat.le_of_ble_eq_true rfl⟩ (jkC_i (fun r1 g1 hp1 => ?_))
  refine j_aload_n hC dL_182 (i := 2) rfl rfl ?_
  refine j_arg (k := 1) hC dL_183 dL_184 dL_185 dL_186 dL_187 (by decide) (by omega) ?_
  refine j_arg (k := 2) hC dL_188 dL_189 dL_190 dL_191 dL_192 (by decide) (by omega) ?_
  refine j_callM hC mX6_setColour kL_17 dL_193 (c_X6_setColour l _ gm S B (by omega) ho hz _ _) hm0 rfl rfl rfl (Nat.le_of_ble_eq_true rfl) ⟨Nat.le_of_ble_eq_true rfl, Nat.le_of_ble_eq_true rfl⟩ (jkM_i (fun r2 g2 hp2 => ?_))
  exact j_icmp_eq hC dL_196 (tgt := 1013) rfl (fun _ => kk _ g1 g2 (ok_setColour ho _ _) hp1.2 hp2.2) (fun q => absurd (hp1.1.trans hp2.1.symm) q)
theorem jc_1 (hC : jC G T X) (hB : B < 80000000) (ho : OK S B) (hc : CP (EC G T X) g S) (hz : MZ (EM G T X) gm S) (hi : i + 5 ≤ jLen X) (kk : ∀ S' g' gm', OK S' (B + 10000) → CP (EC G T X) g' S' → MZ (EM G T X) gm' S' → J l G T X 1013 (jL X i) [] g' gm') : J l G T X 201 (jL X i) [] g gm := by
  obtain ⟨sh, mk, wa, h⟩ := hc
  obtain ⟨fsm, hm0⟩ := mz_a0 hz
  refine j_aload_n hC dL_201 (i := 1) rfl rfl ?_
  refine j_arg (k := 1) hC dL_202 dL_203 dL_204 dL_205 dL_206 (by decide) (by omega) ?_
  refine j_arg (k := 2) hC dL_207 dL_208 dL_209 dL_210 dL_211 (by decide) (by omega) ?_
  refine j_arg (k := 3) hC dL_212 dL_213 dL_214 dL_215 dL_216 (by decide) (by omega) ?_
  refine j_arg (k := 4) hC dL_217 dL_218 dL_219 dL_220 dL_221 (by decide) (by omega) ?_
  refine j_callC hC mX5_blend kL_18 dL_222 (c_X5_blend l _ g S B (by omega) ho sh mk wa h _ _ _ _) h.a0 rfl rfl rfl (Nat.le_of_ble_eq_true rfl) ⟨Nat.le_of_ble_eq_true rfl, Nat.le_of_ble_eq_true rfl⟩ (jkC_i (fun r1 g1 hp1 => ?_))
  refine j_aload_n hC dL_225 (i := 2) rfl rfl ?_
  refine j_arg (k := 1) hC dL_226 dL_227 dL_228 dL_229 dL_230 (by decide) (by omega) ?_
  refine j_arg (k := 2) hC dL_231 dL_232 dL_233 dL_234 dL_235 (by decide) (by omega) ?_
  refine j_arg (k := 3) hC dL_236 dL_237 dL_238 dL_239 dL_240 (by decide) (by omega) ?_
  refine j_arg (k := 4) hC dL_241 dL_242 dL_243 dL_244 dL_245 (by decide) (by omega) ?_
  refine j_callM hC mX6_blend kL_22 dL_246 (c_X6_blend l _ gm S B (by omega) ho hz _ _ _ _) hm0 rfl rfl rfl (Nat.le_of_ble_eq_true rfl) ⟨Nat.le_of_ble_eq_true rfl, Nat.le_of_ble_eq_true rfl⟩ (jkM_i (fun r2 g2 hp2 => ?_))
  exact j_icmp_eq hC dL_249 (tgt := 1013) rfl (fun _ => kk _ g1 g2 (ok_blend ho _ _ _ _) hp1.2 hp2.2) (fun q => absurd (hp1.1.trans hp2.1.symm) q)
theorem jc_2 (hC : jC G T X) (hB : B < 80000000) (ho : OK S B) (hc : CP (EC G T X) g S) (hz : MZ (EM G T X) gm S) (hi : i + 5 ≤ jLen X) (kk : ∀ S' g' gm', OK S' (B + 10000) → CP (EC G T X) g' S' → MZ (EM G T X) gm' S' → J l G T X 1013 (jL X i) [] g' gm') : J l G T X 254 (jL X i) [] g gm := by
  obtain ⟨sh, mk, wa, h⟩ := hc
  obtain ⟨fsm, hm0⟩ := mz_a0 hz
  refine j_aload_n hC dL_254 (i := 1) rfl rfl ?_
  refine j_callC hC mX5_freeze kL_23 dL_255 (c_X5_freeze l _ g S B (by omega) ho sh mk wa h ) h.a0 rfl rfl rfl (Nat.le_of_ble_eq_true rfl) ⟨Nat.le_of_ble_eq_true rfl, Nat.le_of_ble_eq_true rfl⟩ (jkC_i (fun r1 g1 hp1 => ?_))
  refine j_aload_n hC dL_258 (i := 2) rfl rfl ?_
  refine j_callM hC mX6_freeze kL_27 dL_259 (c_X6_freeze l _ gm S B (by omega) ho hz ) hm0 rfl rfl rfl (Nat.le_of_ble_eq_true rfl) ⟨Nat.le_of_ble_eq_true rfl, Nat.le_of_ble_eq_true rfl⟩ (jkM_i (fun r2 g2 hp2 => ?_))
  exact j_icmp_eq hC dL_262 (tgt := 1013) rfl (fun _ => kk _ g1 g2 (ok_freeze ho hB ) hp1.2 hp2.2) (fun q => absurd (hp1.1.trans hp2.1.symm) q)
theorem jc_3 (hC : jC G T X) (hB : B < 80000000) (ho : OK S B) (hc : CP (EC G T X) g S) (hz : MZ (EM G T X) gm S) (hi : i + 5 ≤ jLen X) (kk : ∀ S' g' gm', OK S' (B + 10000) → CP (EC G T X) g' S' → MZ (EM G T X) gm' S' → J l G T X 1013 (jL X i) [] g' gm') : J l G T X 267 (jL X i) [] g gm := by
  obtain ⟨sh, mk, wa, h⟩ := hc
  obtain ⟨fsm, hm0⟩ := mz_a0 hz
  refine j_aload_n hC dL_267 (i := 1) rfl rfl ?_
  refine j_arg (k := 1) hC dL_268 dL_269 dL_270 dL_271 dL_272 (by decide) (by omega) ?_
  refine j_arg (k := 2) hC dL_273 dL_274 dL_275 dL_276 dL_277 (by decide) (by omega) ?_
  refine j_arg (k := 3) hC dL_278 dL_279 dL_280 dL_281 dL_282 (by decide) (by omega) ?_
  refine j_arg (k := 4) hC dL_283 dL_284 dL_285 dL_286 dL_287 (by decide) (by omega) ?_
  refine j_callC hC mX5_addRange kL_28 dL_288 (c_X5_addRange l _ g S B (by omega) ho sh mk wa h _ _ _ _) h.a0 rfl rfl rfl (Nat.le_of_ble_eq_true rfl) ⟨Nat.le_of_ble_eq_true rfl, Nat.le_of_ble_eq_true rfl⟩ (jkC_i (fun r1 g1 hp1 => ?_))
  refine j_aload_n hC dL_291 (i := 2) rfl rfl ?_
  refine j_arg (k := 1) hC dL_292 dL_293 dL_294 dL_295 dL_296 (by decide) (by omega) ?_
  refine j_arg (k := 2) hC dL_297 dL_298 dL_299 dL_300 dL_301 (by decide) (by omega) ?_
  refine j_arg (k := 3) hC dL_302 dL_303 dL_304 dL_305 dL_306 (by decide) (by omega) ?_
  refine j_arg (k := 4) hC dL_307 dL_308 dL_309 dL_310 dL_311 (by decide) (by omega) ?_
  refine j_callM hC mX6_addRange kL_31 dL_312 (c_X6_addRange l _ gm S B (by omega) ho hz _ _ _ _) hm0 rfl rfl rfl (Nat.le_of_ble_eq_true rfl) ⟨Nat.le_of_ble_eq_true rfl, Nat.le_of_ble_eq_true rfl⟩ (jkM_i (fun r2 g2 hp2 => ?_))
  exact j_icmp_eq hC dL_315 (tgt := 1013) rfl (fun _ => kk _ g1 g2 (ok_addRange ho _ _ _ _) hp1.2 hp2.2) (fun q => absurd (hp1.1.trans hp2.1.symm) q)
theorem jc_4 (hC : jC G T X) (hB : B < 80000000) (ho : OK S B) (hc : CP (EC G T X) g S) (hz : MZ (EM G T X) gm S) (hi : i + 5 ≤ jLen X) (kk : ∀ S' g' gm', OK S' (B + 10000) → CP (EC G T X) g' S' → MZ (EM G T X) gm' S' → J l G T X 1013 (jL X i) [] g' gm') : J l G T X 320 (jL X i) [] g gm := by
  obtain ⟨sh, mk, wa, h⟩ := hc
  obtain ⟨fsm, hm0⟩ := mz_a0 hz
  refine j_aload_n hC dL_320 (i := 1) rfl rfl ?_
  refine j_arg (k := 1) hC dL_321 dL_322 dL_323 dL_324 dL_325 (by decide) (by omega) ?_
  refine j_callC hC mX5_removeRange kL_32 dL_326 (c_X5_removeRange l _ g S B (by omega) ho sh mk wa h _) h.a0 rfl rfl rfl (Nat.le_of_ble_eq_true rfl) ⟨Nat.le_of_ble_eq_true rfl, Nat.le_of_ble_eq_true rfl⟩ (jkC_i (fun r1 g1 hp1 => ?_))
  refine j_aload_n hC dL_329 (i := 2) rfl rfl ?_
  refine j_arg (k := 1) hC dL_330 dL_331 dL_332 dL_333 dL_334 (by decide) (by omega) ?_
  refine j_callM hC mX6_removeRange kL_36 dL_335 (c_X6_removeRange l _ gm S B (by omega) ho hz _) hm0 rfl rfl rfl (Nat.le_of_ble_eq_true rfl) ⟨Nat.le_of_ble_eq_true rfl, Nat.le_of_ble_eq_true rfl⟩ (jkM_i (fun r2 g2 hp2 => ?_))
  exact j_icmp_eq hC dL_338 (tgt := 1013) rfl (fun _ => kk _ g1 g2 (ok_removeRange ho _) hp1.2 hp2.2) (fun q => absurd (hp1.1.trans hp2.1.symm) q)
theorem jc_5 (hC : jC G T X) (hB : B < 80000000) (ho : OK S B) (hc : CP (EC G T X) g S) (hz : MZ (EM G T X) gm S) (hi : i + 5 ≤ jLen X) (kk : ∀ S' g' gm', OK S' (B + 10000) → CP (EC G T X) g' S' → MZ (EM G T X) gm' S' → J l G T X 1013 (jL X i) [] g' gm') : J l G T X 343 (jL X i) [] g gm := by
  obtain ⟨sh, mk, wa, h⟩ := hc
  obtain ⟨fsm, hm0⟩ := mz_a0 hz
  refine j_aload_n hC dL_343 (i := 1) rfl rfl ?_
  refine j_arg (k := 1) hC dL_344 dL_345 dL_346 dL_347 dL_348 (by decide) (by omega) ?_
  refine j_arg (k := 2) hC dL_349 dL_350 dL_351 dL_352 dL_353 (by decide) (by omega) ?_
  refine j_arg (k := 3) hC dL_354 dL_355 dL_356 dL_357 dL_358 (by decide) (by omega) ?_
  refine j_callC hC mX5_setSpeed kL_37 dL_359 (c_X5_setSpeed l _ g S B (by omega) ho sh mk wa h _ _ _) h.a0 rfl rfl rfl (Nat.le_of_ble_eq_true rfl) ⟨Nat.le_of_ble_eq_true rfl, Nat.le_of_ble_eq_true rfl⟩ (jkC_i (fun r1 g1 hp1 => ?_))
  refine j_aload_n hC dL_362 (i := 2) rfl rfl ?_
  refine j_arg (k := 1) hC dL_363 dL_364 dL_365 dL_366 dL_367 (by decide) (by omega) ?_
  refine j_arg (k := 2) hC dL_368 dL_369 dL_370 dL_371 dL_372 (by decide) (by omega) ?_
  refine j_arg (k := 3) hC dL_373 dL_374 dL_375 dL_376 dL_377 (by decide) (by omega) ?_
  refine j_callM hC mX6_setSpeed kL_41 dL_378 (c_X6_setSpeed l _ gm S B (by omega) ho hz _ _ _) hm0 rfl rfl rfl (Nat.le_of_ble_eq_true rfl) ⟨Nat.le_of_ble_eq_true rfl, Nat.le_of_ble_eq_true rfl⟩ (jkM_i (fun r2 g2 hp2 => ?_))
  exact j_icmp_eq hC dL_381 (tgt := 1013) rfl (fun _ => kk _ g1 g2 (ok_setSpeed ho hB _ _ _) hp1.2 hp2.2) (fun q => absurd (hp1.1.trans hp2.1.symm) q)
theorem jc_6 (hC : jC G T X) (hB : B < 80000000) (ho : OK S B) (hc : CP (EC G T X) g S) (hz : MZ (EM G T X) gm S) (hi : i + 5 ≤ jLen X) (kk : ∀ S' g' gm', OK S' (B + 10000) → CP (EC G T X) g' S' → MZ (EM G T X) gm' S' → J l G T X 1013 (jL X i) [] g' gm') : J l G T X 386 (jL X i) [] g gm := by
  obtain ⟨sh, mk, wa, h⟩ := hc
  obtain ⟨fsm, hm0⟩ := mz_a0 hz
  refine j_aload_n hC dL_386 (i := 1) rfl rfl ?_
  refine j_arg (k := 1) hC dL_387 dL_388 dL_389 dL_390 dL_391 (by decide) (by omega) ?_
  refine j_arg (k := 2) hC dL_392 dL_393 dL_394 dL_395 dL_396 (by decide) (by omega) ?_
  refine j_bool hC dL_397 dL_400 dL_401 dL_404 ?_
  refine j_callC hC mX5_run kL_42 dL_405 (c_X5_run l _ g S B (by omega) ho sh mk wa h _ _ (jB_le _)) h.a0 rfl rfl rfl (Nat.le_of_ble_eq_true rfl) ⟨Nat.le_of_ble_eq_true rfl, Nat.le_of_ble_eq_true rfl⟩ (jkC_i (fun r1 g1 hp1 => ?_))
  refine j_aload_n hC dL_408 (i := 2) rfl rfl ?_
  refine j_arg (k := 1) hC dL_409 dL_410 dL_411 dL_412 dL_413 (by decide) (by omega) ?_
  refine j_arg (k := 2) hC dL_414 dL_415 dL_416 dL_417 dL_418 (by decide) (by omega) ?_
  refine j_bool hC dL_419 dL_422 dL_423 dL_426 ?_
  refine j_callM hC mX6_run kL_46 dL_427 (c_X6_run l _ gm S B (by omega) ho hz _ _ (jB_le _)) hm0 rfl rfl rfl (Nat.le_of_ble_eq_true rfl) ⟨Nat.le_of_ble_eq_true rfl, Nat.le_of_ble_eq_true rfl⟩ (jkM_i (fun r2 g2 hp2 => ?_))
  exact j_icmp_eq hC dL_430 (tgt := 1013) rfl (fun _ => kk _ g1 g2 (ok_run ho hB _ _ (jB_le _)) hp1.2 hp2.2) (fun q => absurd (hp1.1.trans hp2.1.symm) q)
theorem jc_7 (hC : jC G T X) (hB : B < 80000000) (ho : OK S B) (hc : CP (EC G T X) g S) (hz : MZ (EM G T X) gm S) (hi : i + 5 ≤ jLen X) (kk : ∀ S' g' gm', OK S' (B + 10000) → CP (EC G T X) g' S' → MZ (EM G T X) gm' S' → J l G T X 1013 (jL X i) [] g' gm') : J l G T X 435 (jL X i) [] g gm := by
  obtain ⟨sh, mk, wa, h⟩ := hc
  obtain ⟨fsm, hm0⟩ := mz_a0 hz
  refine j_aload_n hC dL_435 (i := 1) rfl rfl ?_
  refine j_arg (k := 1) hC dL_436 dL_437 dL_438 dL_439 dL_440 (by decide) (by omega) ?_
  refine j_arg (k := 2) hC dL_441 dL_442 dL_443 dL_444 dL_445 (by decide) (by omega) ?_
  refine j_arg (k := 3) hC dL_446 dL_447 dL_448 dL_449 dL_450 (by decide) (by omega) ?_
  refine j_callC hC mX5_addGlow kL_47 dL_451 (c_X5_addGlow l _ g S B (by omega) ho sh mk wa h _ _ _) h.a0 rfl rfl rfl (Nat.le_of_ble_eq_true rfl) ⟨Nat.le_of_ble_eq_true rfl, Nat.le_of_ble_eq_true rfl⟩ (jkC_i (fun r1 g1 hp1 => ?_))
  refine j_aload_n hC dL_454 (i := 2) rfl rfl ?_
  refine j_arg (k := 1) hC dL_455 dL_456 dL_457 dL_458 dL_459 (by decide) (by omega) ?_
  refine j_arg (k := 2) hC dL_460 dL_461 dL_462 dL_463 dL_464 (by decide) (by omega) ?_
  refine j_arg (k := 3) hC dL_465 dL_466 dL_467 dL_468 dL_469 (by decide) (by omega) ?_
  refine j_callM hC mX6_addGlow kL_50 dL_470 (c_X6_addGlow l _ gm S B (by omega) ho hz _ _ _) hm0 rfl rfl rfl (Nat.le_of_ble_eq_true rfl) ⟨Nat.le_of_ble_eq_true rfl, Nat.le_of_ble_eq_true rfl⟩ (jkM_i (fun r2 g2 hp2 => ?_))
  exact j_icmp_eq hC dL_473 (tgt := 1013) rfl (fun _ => kk _ g1 g2 (ok_addGlow ho _ _ _) hp1.2 hp2.2) (fun q => absurd (hp1.1.trans hp2.1.symm) q)
theorem jc_8 (hC : jC G T X) (hB : B < 80000000) (ho : OK S B) (hc : CP (EC G T X) g S) (hz : MZ (EM G T X) gm S) (hi : i + 5 ≤ jLen X) (kk : ∀ S' g' gm', OK S' (B + 10000) → CP (EC G T X) g' S' → MZ (EM G T X) gm' S' → J l G T X 1013 (jL X i) [] g' gm') : J l G T X 478 (jL X i) [] g gm := by
  obtain ⟨sh, mk, wa, h⟩ := hc
  obtain ⟨fsm, hm0⟩ := mz_a0 hz
  refine j_aload_n hC dL_478 (i := 1) rfl rfl ?_
  refine j_arg (k := 1) hC dL_479 dL_480 dL_481 dL_482 dL_483 (by decide) (by omega) ?_
  refine j_callC hC mX5_removeGlow kL_51 dL_484 (c_X5_removeGlow l _ g S B (by omega) ho sh mk wa h _) h.a0 rfl rfl rfl (Nat.le_of_ble_eq_true rfl) ⟨Nat.le_of_ble_eq_true rfl, Nat.le_of_ble_eq_true rfl⟩ (jkC_i (fun r1 g1 hp1 => ?_))
  refine j_aload_n hC dL_487 (i := 2) rfl rfl ?_
  refine j_arg (k := 1) hC dL_488 dL_489 dL_490 dL_491 dL_492 (by decide) (by omega) ?_
  refine j_callM hC mX6_removeGlow kL_54 dL_493 (c_X6_removeGlow l _ gm S B (by omega) ho hz _) hm0 rfl rfl rfl (Nat.le_of_ble_eq_true rfl) ⟨Nat.le_of_ble_eq_true rfl, Nat.le_of_ble_eq_true rfl⟩ (jkM_i (fun r2 g2 hp2 => ?_))
  exact j_icmp_eq hC dL_496 (tgt := 1013) rfl (fun _ => kk _ g1 g2 (ok_removeGlow ho _) hp1.2 hp2.2) (fun q => absurd (hp1.1.trans hp2.1.symm) q)
theorem jc_9 (hC : jC G T X) (hB : B < 80000000) (ho : OK S B) (hc : CP (EC G T X) g S) (hz : MZ (EM G T X) gm S) (hi : i + 5 ≤ jLen X) (kk : ∀ S' g' gm', OK S' (B + 10000) → CP (EC G T X) g' S' → MZ (EM G T X) gm' S' → J l G T X 1013 (jL X i) [] g' gm') : J l G T X 501 (jL X i) [] g gm := by
  obtain ⟨sh, mk, wa, h⟩ := hc
  obtain ⟨fsm, hm0⟩ := mz_a0 hz
  refine j_aload_n hC dL_501 (i := 1) rfl rfl ?_
  refine j_arg (k := 1) hC dL_502 dL_503 dL_504 dL_505 dL_506 (by decide) (by omega) ?_
  refine j_callC hC mX5_pass kL_55 dL_507 (c_X5_pass l _ g S B (by omega) ho sh mk wa h _) h.a0 rfl rfl rfl (Nat.le_of_ble_eq_true rfl) ⟨Nat.le_of_ble_eq_true rfl, Nat.le_of_ble_eq_true rfl⟩ (jkC_i (fun r1 g1 hp1 => ?_))
  refine j_aload_n hC dL_510 (i := 2) rfl rfl ?_
  refine j_arg (k := 1) hC dL_511 dL_512 dL_513 dL_514 dL_515 (by decide) (by omega) ?_
  refine j_callM hC mX6_pass kL_58 dL_516 (c_X6_pass l _ gm S B (by omega) ho hz hB _) hm0 rfl rfl rfl (Nat.le_of_ble_eq_true rfl) ⟨Nat.le_of_ble_eq_true rfl, Nat.le_of_ble_eq_true rfl⟩ (jkM_i (fun r2 g2 hp2 => ?_))
  exact j_icmp_eq hC dL_519 (tgt := 1013) rfl (fun _ => kk _ g1 g2 (ok_pass ho hB _) hp1.2 hp2.2) (fun q => absurd (hp1.1.trans hp2.1.symm) q)
theorem jc_10 (hC : jC G T X) (hB : B < 80000000) (ho : OK S B) (hc : CP (EC G T X) g S) (hz : MZ (EM G T X) gm S) (hi : i + 5 ≤ jLen X) (kk : ∀ S' g' gm', OK S' (B + 10000) → CP (EC G T X) g' S' → MZ (EM G T X) gm' S' → J l G T X 1013 (jL X i) [] g' gm') : J l G T X 524 (jL X i) [] g gm := by
  obtain ⟨sh, mk, wa, h⟩ := hc
  obtain ⟨fsm, hm0⟩ := mz_a0 hz
  refine j_aload_n hC dL_524 (i := 1) rfl rfl ?_
  refine j_callC hC mX5_perform kL_59 dL_525 (c_X5_perform l _ g S B (by omega) ho sh mk wa h hB ) h.a0 rfl rfl rfl (Nat.le_of_ble_eq_true rfl) ⟨Nat.le_of_ble_eq_true rfl, Nat.le_of_ble_eq_true rfl⟩ (jkC_i (fun r1 g1 hp1 => ?_))
  refine j_aload_n hC dL_528 (i := 2) rfl rfl ?_
  refine j_callM hC mX6_perform kL_62 dL_529 (c_X6_perform l _ gm S B (by omega) ho hz hB ) hm0 rfl rfl rfl (Nat.le_of_ble_eq_true rfl) ⟨Nat.le_of_ble_eq_true rfl, Nat.le_of_ble_eq_true rfl⟩ (jkM_i (fun r2 g2 hp2 => ?_))
  exact j_icmp_eq hC dL_532 (tgt := 1013) rfl (fun _ => kk _ g1 g2 (ok_perform ho hB ) hp1.2 hp2.2) (fun q => absurd (hp1.1.trans hp2.1.symm) q)
theorem jc_11 (hC : jC G T X) (hB : B < 80000000) (ho : OK S B) (hc : CP (EC G T X) g S) (hz : MZ (EM G T X) gm S) (hi : i + 5 ≤ jLen X) (kk : ∀ S' g' gm', OK S' (B + 10000) → CP (EC G T X) g' S' → MZ (EM G T X) gm' S' → J l G T X 1013 (jL X i) [] g' gm') : J l G T X 537 (jL X i) [] g gm := by
  obtain ⟨sh, mk, wa, h⟩ := hc
  obtain ⟨fsm, hm0⟩ := mz_a0 hz
  refine j_aload_n hC dL_537 (i := 1) rfl rfl ?_
  refine j_arg (k := 1) hC dL_538 dL_539 dL_540 dL_541 dL_542 (by decide) (by omega) ?_
  refine j_i2c hC dL_543 (pk_char _) ?_
  refine j_callC hC mX5_type kL_63 dL_544 (c_X5_type l _ g S B (by omega) ho sh mk wa h _ (Nat.mod_lt _ (by decide))) h.a0 rfl rfl rfl (Nat.le_of_ble_eq_true rfl) ⟨Nat.le_of_ble_eq_true rfl, Nat.le_of_ble_eq_true rfl⟩ (jkC_i (fun r1 g1 hp1 => ?_))
  refine j_aload_n hC dL_547 (i := 2) rfl rfl ?_
  refine j_arg (k := 1) hC dL_548 dL_549 dL_550 dL_551 dL_552 (by decide) (by omega) ?_
  refine j_i2c hC dL_553 (pk_char _) ?_
  refine j_callM hC mX6_type kL_67 dL_554 (c_X6_type l _ gm S B (by omega) ho hz _ (Nat.mod_lt _ (by decide))) hm0 rfl rfl rfl (Nat.le_of_ble_eq_true rfl) ⟨Nat.le_of_ble_eq_true rfl, Nat.le_of_ble_eq_true rfl⟩ (jkM_i (fun r2 g2 hp2 => ?_))
  exact j_icmp_eq hC dL_557 (tgt := 1013) rfl (fun _ => kk _ g1 g2 (ok_type ho _ (Nat.mod_lt _ (by decide))) hp1.2 hp2.2) (fun q => absurd (hp1.1.trans hp2.1.symm) q)
theorem jc_12 (hC : jC G T X) (hB : B < 80000000) (ho : OK S B) (hc : CP (EC G T X) g S) (hz : MZ (EM G T X) gm S) (hi : i + 5 ≤ jLen X) (kk : ∀ S' g' gm', OK S' (B + 10000) → CP (EC G T X) g' S' → MZ (EM G T X) gm' S' → J l G T X 1013 (jL X i) [] g' gm') : J l G T X 562 (jL X i) [] g gm := by
  obtain ⟨sh, mk, wa, h⟩ := hc
  obtain ⟨fsm, hm0⟩ := mz_a0 hz
  refine j_aload_n hC dL_562 (i := 1) rfl rfl ?_
  refine j_callC hC mX5_clearText kL_68 dL_563 (c_X5_clearText l _ g S B (by omega) ho sh mk wa h ) h.a0 rfl rfl rfl (Nat.le_of_ble_eq_true rfl) ⟨Nat.le_of_ble_eq_true rfl, Nat.le_of_ble_eq_true rfl⟩ (jkC_i (fun r1 g1 hp1 => ?_))
  refine j_aload_n hC dL_566 (i := 2) rfl rfl ?_
  refine j_callM hC mX6_clearText kL_71 dL_567 (c_X6_clearText l _ gm S B (by omega) ho hz ) hm0 rfl rfl rfl (Nat.le_of_ble_eq_true rfl) ⟨Nat.le_of_ble_eq_true rfl, Nat.le_of_ble_eq_true rfl⟩ (jkM_i (fun r2 g2 hp2 => ?_))
  exact j_icmp_eq hC dL_570 (tgt := 1013) rfl (fun _ => kk _ g1 g2 (ok_clearText ho ) hp1.2 hp2.2) (fun q => absurd (hp1.1.trans hp2.1.symm) q)
theorem jc_13 (hC : jC G T X) (hB : B < 80000000) (ho : OK S B) (hc : CP (EC G T X) g S) (hz : MZ (EM G T X) gm S) (hi : i + 5 ≤ jLen X) (kk : ∀ S' g' gm', OK S' (B + 10000) → CP (EC G T X) g' S' → MZ (EM G T X) gm' S' → J l G T X 1013 (jL X i) [] g' gm') : J l G T X 575 (jL X i) [] g gm := by
  obtain ⟨sh, mk, wa, h⟩ := hc
  obtain ⟨fsm, hm0⟩ := mz_a0 hz
  refine j_aload_n hC dL_575 (i := 1) rfl rfl ?_
  refine j_arg (k := 1) hC dL_576 dL_577 dL_578 dL_579 dL_580 (by decide) (by omega) ?_
  refine j_arg (k := 2) hC dL_581 dL_582 dL_583 dL_584 dL_585 (by decide) (by omega) ?_
  refine j_arg (k := 3) hC dL_586 dL_587 dL_588 dL_589 dL_590 (by decide) (by omega) ?_
  refine j_callC hC mX5_paint kL_72 dL_591 (c_X5_paint l _ g S B (by omega) ho sh mk wa h _ _ _) h.a0 rfl rfl rfl (Nat.le_of_ble_eq_true rfl) ⟨Nat.le_of_ble_eq_true rfl, Nat.le_of_ble_eq_true rfl⟩ (jkC_i (fun r1 g1 hp1 => ?_))
  refine j_aload_n hC dL_594 (i := 2) rfl rfl ?_
  refine j_arg (k := 1) hC dL_595 dL_596 dL_597 dL_598 dL_599 (by decide) (by omega) ?_
  refine j_arg (k := 2) hC dL_600 dL_601 dL_602 dL_603 dL_604 (by decide) (by omega) ?_
  refine j_arg (k := 3) hC dL_605 dL_606 dL_607 dL_608 dL_609 (by decide) (by omega) ?_
  refine j_callM hC mX6_paint kL_75 dL_610 (c_X6_paint l _ gm S B (by omega) ho hz _ _ _) hm0 rfl rfl rfl (Nat.le_of_ble_eq_true rfl) ⟨Nat.le_of_ble_eq_true rfl, Nat.le_of_ble_eq_true rfl⟩ (jkM_i (fun r2 g2 hp2 => ?_))
  exact j_icmp_eq hC dL_613 (tgt := 1013) rfl (fun _ => kk _ g1 g2 (ok_paint ho _ _ _) hp1.2 hp2.2) (fun q => absurd (hp1.1.trans hp2.1.symm) q)
theorem jc_14 (hC : jC G T X) (hB : B < 80000000) (ho : OK S B) (hc : CP (EC G T X) g S) (hz : MZ (EM G T X) gm S) (hi : i + 5 ≤ jLen X) (kk : ∀ S' g' gm', OK S' (B + 10000) → CP (EC G T X) g' S' → MZ (EM G T X) gm' S' → J l G T X 1013 (jL X i) [] g' gm') : J l G T X 618 (jL X i) [] g gm := by
  obtain ⟨sh, mk, wa, h⟩ := hc
  obtain ⟨fsm, hm0⟩ := mz_a0 hz
  refine j_aload_n hC dL_618 (i := 1) rfl rfl ?_
  refine j_arg (k := 1) hC dL_619 dL_620 dL_621 dL_622 dL_623 (by decide) (by omega) ?_
  refine j_arg (k := 2) hC dL_624 dL_625 dL_626 dL_627 dL_628 (by decide) (by omega) ?_
  refine j_arg (k := 3) hC dL_629 dL_630 dL_631 dL_632 dL_633 (by decide) (by omega) ?_
  refine j_callC hC mX5_fill kL_76 dL_634 (c_X5_fill l _ g S B (by omega) ho sh mk wa h _ _ _) h.a0 rfl rfl rfl (Nat.le_of_ble_eq_true rfl) ⟨Nat.le_of_ble_eq_true rfl, Nat.le_of_ble_eq_true rfl⟩ (jkC_i (fun r1 g1 hp1 => ?_))
  refine j_aload_n hC dL_637 (i := 2) rfl rfl ?_
  refine j_arg (k := 1) hC dL_638 dL_639 dL_640 dL_641 dL_642 (by decide) (by omega) ?_
  refine j_arg (k := 2) hC dL_643 dL_644 dL_645 dL_646 dL_647 (by decide) (by omega) ?_
  refine j_arg (k := 3) hC dL_648 dL_649 dL_650 dL_651 dL_652 (by decide) (by omega) ?_
  refine j_callM hC mX6_fill kL_79 dL_653 (c_X6_fill l _ gm S B (by omega) ho hz _ _ _) hm0 rfl rfl rfl (Nat.le_of_ble_eq_true rfl) ⟨Nat.le_of_ble_eq_true rfl, Nat.le_of_ble_eq_true rfl⟩ (jkM_i (fun r2 g2 hp2 => ?_))
  exact j_icmp_eq hC dL_656 (tgt := 1013) rfl (fun _ => kk _ g1 g2 (ok_fill ho _ _ _) hp1.2 hp2.2) (fun q => absurd (hp1.1.trans hp2.1.symm) q)
theorem jc_15 (hC : jC G T X) (hB : B < 80000000) (ho : OK S B) (hc : CP (EC G T X) g S) (hz : MZ (EM G T X) gm S) (hi : i + 5 ≤ jLen X) (kk : ∀ S' g' gm', OK S' (B + 10000) → CP (EC G T X) g' S' → MZ (EM G T X) gm' S' → J l G T X 1013 (jL X i) [] g' gm') : J l G T X 661 (jL X i) [] g gm := by
  obtain ⟨sh, mk, wa, h⟩ := hc
  obtain ⟨fsm, hm0⟩ := mz_a0 hz
  refine j_aload_n hC dL_661 (i := 1) rfl rfl ?_
  refine j_callC hC mX5_undo kL_80 dL_662 (c_X5_undo l _ g S B (by omega) ho sh mk wa h ) h.a0 rfl rfl rfl (Nat.le_of_ble_eq_true rfl) ⟨Nat.le_of_ble_eq_true rfl, Nat.le_of_ble_eq_true rfl⟩ (jkC_i (fun r1 g1 hp1 => ?_))
  refine j_aload_n hC dL_665 (i := 2) rfl rfl ?_
  refine j_callM hC mX6_undo kL_83 dL_666 (c_X6_undo l _ gm S B (by omega) ho hz ) hm0 rfl rfl rfl (Nat.le_of_ble_eq_true rfl) ⟨Nat.le_of_ble_eq_true rfl, Nat.le_of_ble_eq_true rfl⟩ (jkM_i (fun r2 g2 hp2 => ?_))
  exact j_icmp_eq hC dL_669 (tgt := 1013) rfl (fun _ => kk _ g1 g2 (ok_undo ho ) hp1.2 hp2.2) (fun q => absurd (hp1.1.trans hp2.1.symm) q)
theorem jc_16 (hC : jC G T X) (hB : B < 80000000) (ho : OK S B) (hc : CP (EC G T X) g S) (hz : MZ (EM G T X) gm S) (hi : i + 5 ≤ jLen X) (kk : ∀ S' g' gm', OK S' (B + 10000) → CP (EC G T X) g' S' → MZ (EM G T X) gm' S' → J l G T X 1013 (jL X i) [] g' gm') : J l G T X 674 (jL X i) [] g gm := by
  obtain ⟨sh, mk, wa, h⟩ := hc
  obtain ⟨fsm, hm0⟩ := mz_a0 hz
  refine j_aload_n hC dL_674 (i := 1) rfl rfl ?_
  refine j_callC hC mX5_keep kL_84 dL_675 (c_X5_keep l _ g S B (by omega) ho sh mk wa h ) h.a0 rfl rfl rfl (Nat.le_of_ble_eq_true rfl) ⟨Nat.le_of_ble_eq_true rfl, Nat.le_of_ble_eq_true rfl⟩ (jkC_i (fun r1 g1 hp1 => ?_))
  refine j_aload_n hC dL_678 (i := 2) rfl rfl ?_
  refine j_callM hC mX6_keep kL_87 dL_679 (c_X6_keep l _ gm S B (by omega) ho hz ) hm0 rfl rfl rfl (Nat.le_of_ble_eq_true rfl) ⟨Nat.le_of_ble_eq_true rfl, Nat.le_of_ble_eq_true rfl⟩ (jkM_i (fun r2 g2 hp2 => ?_))
  exact j_icmp_eq hC dL_682 (tgt := 1013) rfl (fun _ => kk _ g1 g2 (ok_keep ho ) hp1.2 hp2.2) (fun q => absurd (hp1.1.trans hp2.1.symm) q)
theorem jc_17 (hC : jC G T X) (hB : B < 80000000) (ho : OK S B) (hc : CP (EC G T X) g S) (hz : MZ (EM G T X) gm S) (hi : i + 5 ≤ jLen X) (kk : ∀ S' g' gm', OK S' (B + 10000) → CP (EC G T X) g' S' → MZ (EM G T X) gm' S' → J l G T X 1013 (jL X i) [] g' gm') : J l G T X 687 (jL X i) [] g gm := by
  obtain ⟨sh, mk, wa, h⟩ := hc
  obtain ⟨fsm, hm0⟩ := mz_a0 hz
  refine j_aload_n hC dL_687 (i := 1) rfl rfl ?_
  refine j_callC hC mX5_restore kL_88 dL_688 (c_X5_restore l _ g S B (by omega) ho sh mk wa h ) h.a0 rfl rfl rfl (Nat.le_of_ble_eq_true rfl) ⟨Nat.le_of_ble_eq_true rfl, Nat.le_of_ble_eq_true rfl⟩ (jkC_i (fun r1 g1 hp1 => ?_))
  refine j_aload_n hC dL_691 (i := 2) rfl rfl ?_
  refine j_callM hC mX6_restore kL_91 dL_692 (c_X6_restore l _ gm S B (by omega) ho hz ) hm0 rfl rfl rfl (Nat.le_of_ble_eq_true rfl) ⟨Nat.le_of_ble_eq_true rfl, Nat.le_of_ble_eq_true rfl⟩ (jkM_i (fun r2 g2 hp2 => ?_))
  exact j_icmp_eq hC dL_695 (tgt := 1013) rfl (fun _ => kk _ g1 g2 (ok_restore ho ) hp1.2 hp2.2) (fun q => absurd (hp1.1.trans hp2.1.symm) q)
theorem jc_18 (hC : jC G T X) (hB : B < 80000000) (ho : OK S B) (hc : CP (EC G T X) g S) (hz : MZ (EM G T X) gm S) (hi : i + 5 ≤ jLen X) (kk : ∀ S' g' gm', OK S' (B + 10000) → CP (EC G T X) g' S' → MZ (EM G T X) gm' S' → J l G T X 1013 (jL X i) [] g' gm') : J l G T X 700 (jL X i) [] g gm := by
  obtain ⟨sh, mk, wa, h⟩ := hc
  obtain ⟨fsm, hm0⟩ := mz_a0 hz
  refine j_aload_n hC dL_700 (i := 1) rfl rfl ?_
  refine j_arg (k := 1) hC dL_701 dL_702 dL_703 dL_704 dL_705 (by decide) (by omega) ?_
  refine j_callC hC mX5_colour kL_92 dL_706 (c_X5_colour l _ g S B (by omega) ho sh mk wa h _) h.a0 rfl rfl rfl (Nat.le_of_ble_eq_true rfl) ⟨Nat.le_of_ble_eq_true rfl, Nat.le_of_ble_eq_true rfl⟩ (jkC_i (fun r1 g1 hp1 => ?_))
  refine j_aload_n hC dL_709 (i := 2) rfl rfl ?_
  refine j_arg (k := 1) hC dL_710 dL_711 dL_712 dL_713 dL_714 (by decide) (by omega) ?_
  refine j_callM hC mX6_colour kL_95 dL_715 (c_X6_colour l _ gm S B (by omega) ho hz _) hm0 rfl rfl rfl (Nat.le_of_ble_eq_true rfl) ⟨Nat.le_of_ble_eq_true rfl, Nat.le_of_ble_eq_true rfl⟩ (jkM_i (fun r2 g2 hp2 => ?_))
  exact j_icmp_eq hC dL_718 (tgt := 1013) rfl (fun _ => kk _ g1 g2 (ho.le (by omega)) hp1.2 hp2.2) (fun q => absurd (hp1.1.trans hp2.1.symm) q)
theorem jc_19 (hC : jC G T X) (hB : B < 80000000) (ho : OK S B) (hc : CP (EC G T X) g S) (hz : MZ (EM G T X) gm S) (hi : i + 5 ≤ jLen X) (kk : ∀ S' g' gm', OK S' (B + 10000) → CP (EC G T X) g' S' → MZ (EM G T X) gm' S' → J l G T X 1013 (jL X i) [] g' gm') : J l G T X 723 (jL X i) [] g gm := by
  obtain ⟨sh, mk, wa, h⟩ := hc
  obtain ⟨fsm, hm0⟩ := mz_a0 hz
  refine j_aload_n hC dL_723 (i := 1) rfl rfl ?_
  refine j_arg (k := 1) hC dL_724 dL_725 dL_726 dL_727 dL_728 (by decide) (by omega) ?_
  refine j_callC hC mX5_shown kL_96 dL_729 (c_X5_shown l _ g S B (by omega) ho sh mk wa h _) h.a0 rfl rfl rfl (Nat.le_of_ble_eq_true rfl) ⟨Nat.le_of_ble_eq_true rfl, Nat.le_of_ble_eq_true rfl⟩ (jkC_i (fun r1 g1 hp1 => ?_))
  refine j_aload_n hC dL_732 (i := 2) rfl rfl ?_
  refine j_arg (k := 1) hC dL_733 dL_734 dL_735 dL_736 dL_737 (by decide) (by omega) ?_
  refine j_callM hC mX6_shown kL_99 dL_738 (c_X6_shown l _ gm S B (by omega) ho hz _) hm0 rfl rfl rfl (Nat.le_of_ble_eq_true rfl) ⟨Nat.le_of_ble_eq_true rfl, Nat.le_of_ble_eq_true rfl⟩ (jkM_i (fun r2 g2 hp2 => ?_))
  exact j_icmp_eq hC dL_741 (tgt := 1013) rfl (fun _ => kk _ g1 g2 (ho.le (by omega)) hp1.2 hp2.2) (fun q => absurd (hp1.1.trans hp2.1.symm) q)
theorem jc_20 (hC : jC G T X) (hB : B < 80000000) (ho : OK S B) (hc : CP (EC G T X) g S) (hz : MZ (EM G T X) gm S) (hi : i + 5 ≤ jLen X) (kk : ∀ S' g' gm', OK S' (B + 10000) → CP (EC G T X) g' S' → MZ (EM G T X) gm' S' → J l G T X 1013 (jL X i) [] g' gm') : J l G T X 746 (jL X i) [] g gm := by
  obtain ⟨sh, mk, wa, h⟩ := hc
  obtain ⟨fsm, hm0⟩ := mz_a0 hz
  refine j_aload_n hC dL_746 (i := 1) rfl rfl ?_
  refine j_arg (k := 1) hC dL_747 dL_748 dL_749 dL_750 dL_751 (by decide) (by omega) ?_
  refine j_arg (k := 2) hC dL_752 dL_753 dL_754 dL_755 dL_756 (by decide) (by omega) ?_
  refine j_callC hC mX5_range kL_100 dL_757 (c_X5_range l _ g S B (by omega) ho sh mk wa h _ _) h.a0 rfl rfl rfl (Nat.le_of_ble_eq_true rfl) ⟨Nat.le_of_ble_eq_true rfl, Nat.le_of_ble_eq_true rfl⟩ (jkC_i (fun r1 g1 hp1 => ?_))
  refine j_aload_n hC dL_760 (i := 2) rfl rfl ?_
  refine j_arg (k := 1) hC dL_761 dL_762 dL_763 dL_764 dL_765 (by decide) (by omega) ?_
  refine j_arg (k := 2) hC dL_766 dL_767 dL_768 dL_769 dL_770 (by decide) (by omega) ?_
  refine j_callM hC mX6_range kL_103 dL_771 (c_X6_range l _ gm S B (by omega) ho hz _ _) hm0 rfl rfl rfl (Nat.le_of_ble_eq_true rfl) ⟨Nat.le_of_ble_eq_true rfl, Nat.le_of_ble_eq_true rfl⟩ (jkM_i (fun r2 g2 hp2 => ?_))
  exact j_icmp_eq hC dL_774 (tgt := 1013) rfl (fun _ => kk _ g1 g2 (ho.le (by omega)) hp1.2 hp2.2) (fun q => absurd (hp1.1.trans hp2.1.symm) q)
theorem jc_21 (hC : jC G T X) (hB : B < 80000000) (ho : OK S B) (hc : CP (EC G T X) g S) (hz : MZ (EM G T X) gm S) (hi : i + 5 ≤ jLen X) (kk : ∀ S' g' gm', OK S' (B + 10000) → CP (EC G T X) g' S' → MZ (EM G T X) gm' S' → J l G T X 1013 (jL X i) [] g' gm') : J l G T X 779 (jL X i) [] g gm := by
  obtain ⟨sh, mk, wa, h⟩ := hc
  obtain ⟨fsm, hm0⟩ := mz_a0 hz
  refine j_aload_n hC dL_779 (i := 1) rfl rfl ?_
  refine j_arg (k := 1) hC dL_780 dL_781 dL_782 dL_783 dL_784 (by decide) (by omega) ?_
  refine j_arg (k := 2) hC dL_785 dL_786 dL_787 dL_788 dL_789 (by decide) (by omega) ?_
  refine j_callC hC mX5_glow kL_104 dL_790 (c_X5_glow l _ g S B (by omega) ho sh mk wa h _ _) h.a0 rfl rfl rfl (Nat.le_of_ble_eq_true rfl) ⟨Nat.le_of_ble_eq_true rfl, Nat.le_of_ble_eq_true rfl⟩ (jkC_i (fun r1 g1 hp1 => ?_))
  refine j_aload_n hC dL_793 (i := 2) rfl rfl ?_
  refine j_arg (k := 1) hC dL_794 dL_795 dL_796 dL_797 dL_798 (by decide) (by omega) ?_
  refine j_arg (k := 2) hC dL_799 dL_800 dL_801 dL_802 dL_803 (by decide) (by omega) ?_
  refine j_callM hC mX6_glow kL_107 dL_804 (c_X6_glow l _ gm S B (by omega) ho hz _ _) hm0 rfl rfl rfl (Nat.le_of_ble_eq_true rfl) ⟨Nat.le_of_ble_eq_true rfl, Nat.le_of_ble_eq_true rfl⟩ (jkM_i (fun r2 g2 hp2 => ?_))
  exact j_icmp_eq hC dL_807 (tgt := 1013) rfl (fun _ => kk _ g1 g2 (ho.le (by omega)) hp1.2 hp2.2) (fun q => absurd (hp1.1.trans hp2.1.symm) q)
theorem jc_22 (hC : jC G T X) (hB : B < 80000000) (ho : OK S B) (hc : CP (EC G T X) g S) (hz : MZ (EM G T X) gm S) (hi : i + 5 ≤ jLen X) (kk : ∀ S' g' gm', OK S' (B + 10000) → CP (EC G T X) g' S' → MZ (EM G T X) gm' S' → J l G T X 1013 (jL X i) [] g' gm') : J l G T X 812 (jL X i) [] g gm := by
  obtain ⟨sh, mk, wa, h⟩ := hc
  obtain ⟨fsm, hm0⟩ := mz_a0 hz
  refine j_aload_n hC dL_812 (i := 1) rfl rfl ?_
  refine j_arg (k := 1) hC dL_813 dL_814 dL_815 dL_816 dL_817 (by decide) (by omega) ?_
  refine j_arg (k := 2) hC dL_818 dL_819 dL_820 dL_821 dL_822 (by decide) (by omega) ?_
  refine j_arg (k := 3) hC dL_823 dL_824 dL_825 dL_826 dL_827 (by decide) (by omega) ?_
  refine j_bool hC dL_828 dL_831 dL_832 dL_835 ?_
  refine j_callC hC mX5_pixel kL_108 dL_836 (c_X5_pixel l _ g S B (by omega) ho sh mk wa h _ _ _ (jB_le _)) h.a0 rfl rfl rfl (Nat.le_of_ble_eq_true rfl) ⟨Nat.le_of_ble_eq_true rfl, Nat.le_of_ble_eq_true rfl⟩ (jkC_i (fun r1 g1 hp1 => ?_))
  refine j_aload_n hC dL_839 (i := 2) rfl rfl ?_
  refine j_arg (k := 1) hC dL_840 dL_841 dL_842 dL_843 dL_844 (by decide) (by omega) ?_
  refine j_arg (k := 2) hC dL_845 dL_846 dL_847 dL_848 dL_849 (by decide) (by omega) ?_
  refine j_arg (k := 3) hC dL_850 dL_851 dL_852 dL_853 dL_854 (by decide) (by omega) ?_
  refine j_bool hC dL_855 dL_858 dL_859 dL_862 ?_
  refine j_callM hC mX6_pixel kL_112 dL_863 (c_X6_pixel l _ gm S B (by omega) ho hz _ _ _ (jB_le _)) hm0 rfl rfl rfl (Nat.le_of_ble_eq_true rfl) ⟨Nat.le_of_ble_eq_true rfl, Nat.le_of_ble_eq_true rfl⟩ (jkM_i (fun r2 g2 hp2 => ?_))
  exact j_icmp_eq hC dL_866 (tgt := 1013) rfl (fun _ => kk _ g1 g2 (ho.le (by omega)) hp1.2 hp2.2) (fun q => absurd (hp1.1.trans hp2.1.symm) q)
theorem jc_23 (hC : jC G T X) (hB : B < 80000000) (ho : OK S B) (hc : CP (EC G T X) g S) (hz : MZ (EM G T X) gm S) (hi : i + 5 ≤ jLen X) (kk : ∀ S' g' gm', OK S' (B + 10000) → CP (EC G T X) g' S' → MZ (EM G T X) gm' S' → J l G T X 1013 (jL X i) [] g' gm') : J l G T X 871 (jL X i) [] g gm := by
  obtain ⟨sh, mk, wa, h⟩ := hc
  obtain ⟨fsm, hm0⟩ := mz_a0 hz
  refine j_aload_n hC dL_871 (i := 1) rfl rfl ?_
  refine j_arg (k := 1) hC dL_872 dL_873 dL_874 dL_875 dL_876 (by decide) (by omega) ?_
  refine j_callC hC mX5_total kL_113 dL_877 (c_X5_total l _ g S B (by omega) ho sh mk wa h _) h.a0 rfl rfl rfl (Nat.le_of_ble_eq_true rfl) ⟨Nat.le_of_ble_eq_true rfl, Nat.le_of_ble_eq_true rfl⟩ (jkC_i (fun r1 g1 hp1 => ?_))
  refine j_aload_n hC dL_880 (i := 2) rfl rfl ?_
  refine j_arg (k := 1) hC dL_881 dL_882 dL_883 dL_884 dL_885 (by decide) (by omega) ?_
  refine j_callM hC mX6_total kL_116 dL_886 (c_X6_total l _ gm S B (by omega) ho hz _) hm0 rfl rfl rfl (Nat.le_of_ble_eq_true rfl) ⟨Nat.le_of_ble_eq_true rfl, Nat.le_of_ble_eq_true rfl⟩ (jkM_i (fun r2 g2 hp2 => ?_))
  exact j_icmp_eq hC dL_889 (tgt := 1013) rfl (fun _ => kk _ g1 g2 (ho.le (by omega)) hp1.2 hp2.2) (fun q => absurd (hp1.1.trans hp2.1.symm) q)
theorem jc_24 (hC : jC G T X) (hB : B < 80000000) (ho : OK S B) (hc : CP (EC G T X) g S) (hz : MZ (EM G T X) gm S) (hi : i + 5 ≤ jLen X) (kk : ∀ S' g' gm', OK S' (B + 10000) → CP (EC G T X) g' S' → MZ (EM G T X) gm' S' → J l G T X 1013 (jL X i) [] g' gm') : J l G T X 894 (jL X i) [] g gm := by
  obtain ⟨sh, mk, wa, h⟩ := hc
  obtain ⟨fsm, hm0⟩ := mz_a0 hz
  refine j_aload_n hC dL_894 (i := 1) rfl rfl ?_
  refine j_arg (k := 1) hC dL_895 dL_896 dL_897 dL_898 dL_899 (by decide) (by omega) ?_
  refine j_arg (k := 2) hC dL_900 dL_901 dL_902 dL_903 dL_904 (by decide) (by omega) ?_
  refine j_callC hC mX5_shownIn kL_117 dL_905 (c_X5_shownIn l _ g S B (by omega) ho sh mk wa h _ _) h.a0 rfl rfl rfl (Nat.le_of_ble_eq_true rfl) ⟨Nat.le_of_ble_eq_true rfl, Nat.le_of_ble_eq_true rfl⟩ (jkC_i (fun r1 g1 hp1 => ?_))
  refine j_aload_n hC dL_908 (i := 2) rfl rfl ?_
  refine j_arg (k := 1) hC dL_909 dL_910 dL_911 dL_912 dL_913 (by decide) (by omega) ?_
  refine j_arg (k := 2) hC dL_914 dL_915 dL_916 dL_917 dL_918 (by decide) (by omega) ?_
  refine j_callM hC mX6_shownIn kL_120 dL_919 (c_X6_shownIn l _ gm S B (by omega) ho hz hB _ _) hm0 rfl rfl rfl (Nat.le_of_ble_eq_true rfl) ⟨Nat.le_of_ble_eq_true rfl, Nat.le_of_ble_eq_true rfl⟩ (jkM_i (fun r2 g2 hp2 => ?_))
  exact j_icmp_eq hC dL_922 (tgt := 1013) rfl (fun _ => kk _ g1 g2 (ho.le (by omega)) hp1.2 hp2.2) (fun q => absurd (hp1.1.trans hp2.1.symm) q)
theorem jc_25 (hC : jC G T X) (hB : B < 80000000) (ho : OK S B) (hc : CP (EC G T X) g S) (hz : MZ (EM G T X) gm S) (hi : i + 5 ≤ jLen X) (kk : ∀ S' g' gm', OK S' (B + 10000) → CP (EC G T X) g' S' → MZ (EM G T X) gm' S' → J l G T X 1013 (jL X i) [] g' gm') : J l G T X 927 (jL X i) [] g gm := by
  obtain ⟨sh, mk, wa, h⟩ := hc
  obtain ⟨fsm, hm0⟩ := mz_a0 hz
  refine j_aload_n hC dL_927 (i := 1) rfl rfl ?_
  refine j_callC hC mX5_fullTurn kL_121 dL_928 (c_X5_fullTurn l _ g S B (by omega) ho sh mk wa h ) h.a0 rfl rfl rfl (Nat.le_of_ble_eq_true rfl) ⟨Nat.le_of_ble_eq_true rfl, Nat.le_of_ble_eq_true rfl⟩ (jkC_l (fun r1 g1 hp1 => ?_))
  refine j_aload_n hC dL_931 (i := 2) rfl rfl ?_
  refine j_callM hC mX6_fullTurn kL_125 dL_932 (c_X6_fullTurn l _ gm S B (by omega) ho hz ) hm0 rfl rfl rfl (Nat.le_of_ble_eq_true rfl) ⟨Nat.le_of_ble_eq_true rfl, Nat.le_of_ble_eq_true rfl⟩ (jkM_l (fun r2 g2 hp2 => ?_))
  refine j_lcmp hC dL_935 ?_
  exact j_if_eq hC dL_936 (tgt := 1013) rfl (fun _ => kk _ g1 g2 (ho.le (by omega)) hp1.2 hp2.2) (fun q => absurd (zcmp0.mpr (hp1.1.trans hp2.1.symm)) q)
theorem jc_26 (hC : jC G T X) (hB : B < 80000000) (ho : OK S B) (hc : CP (EC G T X) g S) (hz : MZ (EM G T X) gm S) (hi : i + 5 ≤ jLen X) (kk : ∀ S' g' gm', OK S' (B + 10000) → CP (EC G T X) g' S' → MZ (EM G T X) gm' S' → J l G T X 1013 (jL X i) [] g' gm') : J l G T X 941 (jL X i) [] g gm := by
  obtain ⟨sh, mk, wa, h⟩ := hc
  obtain ⟨fsm, hm0⟩ := mz_a0 hz
  refine j_aload_n hC dL_941 (i := 1) rfl rfl ?_
  refine j_arg (k := 1) hC dL_942 dL_943 dL_944 dL_945 dL_946 (by decide) (by omega) ?_
  refine j_callC hC mX5_nearest kL_126 dL_947 (c_X5_nearest l _ g S B (by omega) ho sh mk wa h _) h.a0 rfl rfl rfl (Nat.le_of_ble_eq_true rfl) ⟨Nat.le_of_ble_eq_true rfl, Nat.le_of_ble_eq_true rfl⟩ (jkC_i (fun r1 g1 hp1 => ?_))
  refine j_aload_n hC dL_950 (i := 2) rfl rfl ?_
  refine j_arg (k := 1) hC dL_951 dL_952 dL_953 dL_954 dL_955 (by decide) (by omega) ?_
  refine j_callM hC mX6_nearest kL_129 dL_956 (c_X6_nearest l _ gm S B (by omega) ho hz _) hm0 rfl rfl rfl (Nat.le_of_ble_eq_true rfl) ⟨Nat.le_of_ble_eq_true rfl, Nat.le_of_ble_eq_true rfl⟩ (jkM_i (fun r2 g2 hp2 => ?_))
  exact j_icmp_eq hC dL_959 (tgt := 1013) rfl (fun _ => kk _ g1 g2 (ho.le (by omega)) hp1.2 hp2.2) (fun q => absurd (hp1.1.trans hp2.1.symm) q)
theorem jc_27 (hC : jC G T X) (hB : B < 80000000) (ho : OK S B) (hc : CP (EC G T X) g S) (hz : MZ (EM G T X) gm S) (hi : i + 5 ≤ jLen X) (kk : ∀ S' g' gm', OK S' (B + 10000) → CP (EC G T X) g' S' → MZ (EM G T X) gm' S' → J l G T X 1013 (jL X i) [] g' gm') : J l G T X 964 (jL X i) [] g gm := by
  obtain ⟨sh, mk, wa, h⟩ := hc
  obtain ⟨fsm, hm0⟩ := mz_a0 hz
  refine j_aload_n hC dL_964 (i := 1) rfl rfl ?_
  refine j_arg (k := 1) hC dL_965 dL_966 dL_967 dL_968 dL_969 (by decide) (by omega) ?_
  refine j_callC hC mX5_changes kL_130 dL_970 (c_X5_changes l _ g S B (by omega) ho sh mk wa h _) h.a0 rfl rfl rfl (Nat.le_of_ble_eq_true rfl) ⟨Nat.le_of_ble_eq_true rfl, Nat.le_of_ble_eq_true rfl⟩ (jkC_i (fun r1 g1 hp1 => ?_))
  refine j_aload_n hC dL_973 (i := 2) rfl rfl ?_
  refine j_arg (k := 1) hC dL_974 dL_975 dL_976 dL_977 dL_978 (by decide) (by omega) ?_
  refine j_callM hC mX6_changes kL_133 dL_979 (c_X6_changes l _ gm S B (by omega) ho hz hB _) hm0 rfl rfl rfl (Nat.le_of_ble_eq_true rfl) ⟨Nat.le_of_ble_eq_true rfl, Nat.le_of_ble_eq_true rfl⟩ (jkM_i (fun r2 g2 hp2 => ?_))
  exact j_icmp_eq hC dL_982 (tgt := 1013) rfl (fun _ => kk _ g1 g2 (ho.le (by omega)) hp1.2 hp2.2) (fun q => absurd (hp1.1.trans hp2.1.symm) q)
theorem jc_28 (hC : jC G T X) (hB : B < 80000000) (ho : OK S B) (hc : CP (EC G T X) g S) (hz : MZ (EM G T X) gm S) (hi : i + 5 ≤ jLen X) (kk : ∀ S' g' gm', OK S' (B + 10000) → CP (EC G T X) g' S' → MZ (EM G T X) gm' S' → J l G T X 1013 (jL X i) [] g' gm') : J l G T X 987 (jL X i) [] g gm := by
  obtain ⟨sh, mk, wa, h⟩ := hc
  obtain ⟨fsm, hm0⟩ := mz_a0 hz
  refine j_aload_n hC dL_987 (i := 1) rfl rfl ?_
  refine j_callC hC mX5_pictureBack kL_134 dL_988 (c_X5_pictureBack l _ g S B (by omega) ho sh mk wa h ) h.a0 rfl rfl rfl (Nat.le_of_ble_eq_true rfl) ⟨Nat.le_of_ble_eq_true rfl, Nat.le_of_ble_eq_true rfl⟩ (jkC_i (fun r1 g1 hp1 => ?_))
  refine j_aload_n hC dL_991 (i := 2) rfl rfl ?_
  refine j_callM hC mX6_pictureBack kL_137 dL_992 (c_X6_pictureBack l _ gm S B (by omega) ho hz hB ) hm0 rfl rfl rfl (Nat.le_of_ble_eq_true rfl) ⟨Nat.le_of_ble_eq_true rfl, Nat.le_of_ble_eq_true rfl⟩ (jkM_i (fun r2 g2 hp2 => ?_))
  exact j_icmp_eq hC dL_995 (tgt := 1013) rfl (fun _ => kk _ g1 g2 (ho.le (by omega)) hp1.2 hp2.2) (fun q => absurd (hp1.1.trans hp2.1.symm) q)
theorem jc_29 (hC : jC G T X) (hB : B < 80000000) (ho : OK S B) (hc : CP (EC G T X) g S) (hz : MZ (EM G T X) gm S) (hi : i + 5 ≤ jLen X) (kk : ∀ S' g' gm', OK S' (B + 10000) → CP (EC G T X) g' S' → MZ (EM G T X) gm' S' → J l G T X 1013 (jL X i) [] g' gm') : J l G T X 1000 (jL X i) [] g gm := by
  obtain ⟨sh, mk, wa, h⟩ := hc
  obtain ⟨fsm, hm0⟩ := mz_a0 hz
  refine j_aload_n hC dL_1000 (i := 1) rfl rfl ?_
  refine j_callC hC mX5_contrast kL_138 dL_1001 (c_X5_contrast l _ g S B (by omega) ho sh mk wa h ) h.a0 rfl rfl rfl (Nat.le_of_ble_eq_true rfl) ⟨Nat.le_of_ble_eq_true rfl, Nat.le_of_ble_eq_true rfl⟩ (jkC_i (fun r1 g1 hp1 => ?_))
  refine j_aload_n hC dL_1004 (i := 2) rfl rfl ?_
  refine j_callM hC mX6_contrast kL_141 dL_1005 (c_X6_contrast l _ gm S B (by omega) ho hz ) hm0 rfl rfl rfl (Nat.le_of_ble_eq_true rfl) ⟨Nat.le_of_ble_eq_true rfl, Nat.le_of_ble_eq_true rfl⟩ (jkM_i (fun r2 g2 hp2 => ?_))
  exact j_icmp_eq hC dL_1008 (tgt := 1013) rfl (fun _ => kk _ g1 g2 (ho.le (by omega)) hp1.2 hp2.2) (fun q => absurd (hp1.1.trans hp2.1.symm) q)
end JCS
