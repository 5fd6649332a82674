abbrev gX9 : Type := Program × Jvm.Env × Room × State × MethodId × Array Value × List Frame × Method × Code
/-! ===== constructors: a world that grows; the cell of role k lies at b + k, the next new one at b + n ===== -/
abbrev zE (G : va_G) (T : Nat → ClassId) (b n : Nat) : gE := (G, T, fun k => b + k, n)
def zT (T : Nat → ClassId) : List (ClassId × FieldType) := [(T 0, .int), (T 1, .char), (T 2, .boolean), (T 3, .object RX3), (T 4, .object RX0), (T 5, .object RX4)]
theorem zT_e {G : va_G} {T : Nat → ClassId} {b n : Nat} : eTys (zE G T b n) = zT T := rfl
theorem zOk {G : va_G} {T : Nat → ClassId} {b n : Nat} : eOk (zE G T b n) := fun i j _ _ h => by
  have h' : b + i = b + j := h
  omega
def zr (b k : Nat) : Value := .ref (b + k)
def zI (T : Nat → ClassId) (t n : Nat) (f : Nat → Int32) : va_E := .inl (T t, n, .inl f)
def zJ (T : Nat → ClassId) (t n : Nat) (f : Nat → Option Nat) : va_E := .inl (T t, n, .inr (.inr (.inr (.inr f))))
def zA (b : Nat) : Nat → Prop := fun q => b ≤ q
def gZ (U : State) : Prop := gN U ∧ va_Nw (.methodLinkNest RX4 43 yX3_init "PaletteTurns") U ∧ va_Nw (.methodLinkNest RX4 44 yX0_init "PaletteTurns") U ∧ va_Nw (.methodLinkNest RX5 25 yX2_init "PaletteTurns") U ∧ va_AO RX3 U ∧ va_AO RX0 U ∧ va_AO RX4 U
theorem gZ.warm {s U : State} (hW : s.WarmedH U.vm) (h : gZ s) : gZ U := ⟨va_Nw.warmM hW h.1, va_Nw.warmM hW h.2.1, va_Nw.warmM hW h.2.2.1, va_Nw.warmM hW h.2.2.2.1, va_AO.moved hW.alike h.2.2.2.2.1, va_AO.moved hW.alike h.2.2.2.2.2.1, va_AO.moved hW.alike h.2.2.2.2.2.2⟩
theorem gZ.same {u U : State} (e : u.vm = U.vm) (h : gZ u) : gZ U := by
  have ha : u.vm.Alike U.vm := by rw [e]; exact Vm.Alike.refl _
  exact ⟨va_Nw.same rfl e h.1, va_Nw.same rfl e h.2.1, va_Nw.same rfl e h.2.2.1, va_Nw.same rfl e h.2.2.2.1, va_AO.moved ha h.2.2.2.2.1, va_AO.moved ha h.2.2.2.2.2.1, va_AO.moved ha h.2.2.2.2.2.2⟩
def zQ (G : va_G) (T : Nat → ClassId) (b n : Nat) (post : Mem → Prop) : Array Value → State → Outcome → State → Prop := fun _ st oc t => (oc = .returned none ∧ ∃ g : Mem, post g ∧ gP (zE G T b n) g t.heap ∧ t.heap.size = b + n) ∧ va_F (zA b) st t
def zC (l : Launch) (G : va_G) (T : Nat → ClassId) (b : Nat) (X : gX9) (own : String) (cc : ByteArray) (nL fr ll mc ms : Nat) : Prop :=
  X.1.tables.exec = Jvm.exec ∧ X.2.2.2.2.2.2.2.2.code = cc ∧ X.2.2.2.2.2.2.2.2.maxLocals = nL ∧ X.2.2.2.1.vm.findClass own = some X.2.2.2.2.1.cls ∧ (∀ w ∈ lw_gt, w.before X.2.2.2.2.2.1 X.2.2.2.1 = true) ∧
  va_K G gC (zT T) X.2.2.2.1 ∧ X.2.2.2.2.2.2.2.1.locks = false ∧ X.2.2.2.2.2.2.2.1.sig.returnType = none ∧ X.2.2.1.frames = fr ∧ X.2.2.1.locals = ll ∧ X.2.2.1.cells = mc ∧ X.2.2.1.slots = ms ∧ X.2.2.2.2.2.2.2.1.name = "<init>" ∧ gZ X.2.2.2.1
def Z (l : Launch) (G : va_G) (T : Nat → ClassId) (b : Nat) (X : gX9) (n1 mc ms : Nat) (post : Mem → Prop) (pc : Nat) (lo : List (Option Value)) (st : List Value) (g : Mem) (n c s0 : Nat) : Prop :=
  ∀ (H : Heap) (locs : List Loc) (ls : Array Slot), gP (zE G T b n) g H → H.size = b + n → X.2.2.2.1.heap.size + c = b + n → va_S (zA b) X.2.2.2.1.heap H locs → y_has ls lo →
    W X.1 l X.2.1 X.2.2.1 X.2.2.2.1 X.2.2.2.2.1 X.2.2.2.2.2.1 X.2.2.2.2.2.2.1 X.2.2.2.2.2.2.2.1 X.2.2.2.2.2.2.2.2 H locs c s0 (MQ X.2.2.2.2.2.2.1 (zQ G T b n1 post) X.2.2.2.2.2.1 X.2.2.2.1 mc ms (zA b)) (F0 X.2.2.2.2.1 pc ls st)
def Mz (l : Launch) (G : va_G) (T : Nat → ClassId) (b : Nat) (y : MethodName) (cc : ByteArray) (nL fr ll n0 n1 mc ms : Nat) (av : List Value) (g : Mem) (post : Mem → Prop) : Prop :=
  Met l y (.code y cc nL none :: lw_gt) { frames := fr, cells := mc, slots := ms, locals := ll } (va_Pc av (fun U => gP (zE G T b n0) g U.heap ∧ U.heap.size = b + n0 ∧ va_K G gC (zT T) U ∧ gZ U)) (zQ G T b n1 post) mc ms (zA b)
theorem mz_blind {G : va_G} {T : Nat → ClassId} {b n0 : Nat} {av : List Value} {g : Mem} : FrameBlind (va_Pc av (fun U => gP (zE G T b n0) g U.heap ∧ U.heap.size = b + n0 ∧ va_K G gC (zT T) U ∧ gZ U)) := fun a U g mk q => by
  obtain ⟨q0, qP, qZ, qK, qN⟩ := q
  exact ⟨q0, qP, qZ, va_K.moved (u := U) (U := U.calling g mk a) (Vm.Alike.refl U.vm) qK, gZ.same (U := U.calling g mk a) rfl qN⟩
theorem mz_go {l : Launch} {G : va_G} {T : Nat → ClassId} {b : Nat} {y : MethodName} {cc : ByteArray} {nL fr ll n0 n1 mc ms : Nat} {av : List Value} {g : Mem} {post : Mem → Prop} {own : String} (hy : plainName y.cls = true) (hown : y.cls = own) (hyn : y.name = "<init>") {lo : List (Option Value)}
    (hlo : y_ent av ++ List.replicate (nL - (y_ent av).length) none = lo) (hn : (y_ent av).length ≤ nL)
    (body : ∀ X : gX9, zC l G T b X own cc nL fr ll mc ms → Z l G T b X n1 mc ms post 0 lo [] g n0 0 0) : Mz l G T b y cc nL fr ll n0 n1 mc ms av g post := by
  refine Met.ofW (cc := cc) (maxL := nL) (ret := none) hy rfl ?_
  intro p e s m args below meth c s₁ B hml hv
  obtain ⟨rfl, hP, hz, hK, hN⟩ := hv
  have hx := B.exec
  have hb := B.bytes
  have hr := B.returns
  have hts0 := atoms_spec (ws := .code y cc nL none :: lw_gt) B.pre
  have hts : ∀ w ∈ lw_gt, w.before av.toArray s = true := fun w hw => hts0 w (List.mem_cons_of_mem _ hw)
  have hown2 : s.vm.findClass own = some m.cls := by rw [← hown]; exact findClass_of_methodNamed B.named
  have hlocks := B.notSynchronized
  have hin : meth.name = "<init>" := (name_of_methodNamed B.named B.method).1.trans hyn
  rw [lg_entry_eq]
  exact body (p, e, (headSpec (Cond.code y cc nL none :: lw_gt) { frames := fr, cells := mc, slots := ms, locals := ll }).room, s, m, av.toArray, below, meth, c) ⟨hx, hb, hml, hown2, hts, hK, hlocks, hr, rfl, rfl, rfl, rfl, hin, hN⟩ s.heap [] _ hP hz hz va_S.rf (y_entry av hlo hn)
theorem zP_push {G : va_G} {T : Nat → ClassId} {b n : Nat} {g : Mem} {H H1 : Heap} {e : va_E} (hP : gP (zE G T b n) g H) (he : va_at G gC (b + n, e) H1) (o1 : ∀ q, q < b + n → H1[q]? = H[q]?) : gP (zE G T b (n + 1)) (va_up g n e) H1 := by
  intro k q hk
  obtain ⟨h1, rfl⟩ := gW_inv hk
  have h1' : k < n + 1 := h1
  by_cases hkn : k = n
  · subst hkn
    show va_at G gC (b + k, va_up g k e k) H1
    rw [va_up_self]
    exact he
  · show va_at G gC (b + k, va_up g n e k) H1
    rw [va_up_ne _ _ hkn]
    have hl : k < eK (zE G T b n) := by
      show k < n
      omega
    exact (hP k _ (gW_at hl)).kept (o1 (b + k) (by omega))
theorem zP_mem {G : va_G} {T : Nat → ClassId} {b n k : Nat} {g : Mem} {H : Heap} {t N : Nat} {f h : Nat → Option Nat} (hP : gP (zE G T b n) g H) (hk : k < n) (hg : g k = zJ T t N f) (he : ∀ i, i < N → f i = h i) : gP (zE G T b n) (va_up g k (zJ T t N h)) H := by
  intro j q hj
  obtain ⟨h1, rfl⟩ := gW_inv hj
  by_cases hjk : j = k
  · subst hjk
    show va_at G gC (b + j, va_up g j _ j) H
    rw [va_up_self]
    have h0 := hP j _ (gW_at (E := zE G T b n) hk)
    have h2 : va_at G gC (b + j, g j) H := h0
    rw [hg] at h2
    have h3 : H[b + j]? = some (vp_cell (T t) (N, .inr (.inr (.inr (.inr f))))) := h2
    show H[b + j]? = some (vp_cell (T t) (N, .inr (.inr (.inr (.inr h)))))
    rw [h3, vp_cell_q, vp_cell_q]
    unfold arrV
    congr 2
    apply Array.ext
    · simp
    · intro i hi1 hi2
      simp at hi1
      simp [he i hi1]
  · show va_at G gC (b + j, va_up g k _ j) H
    rw [va_up_ne _ _ hjk]
    exact hP j _ (gW_at h1)
theorem zP_lo {G : va_G} {T : Nat → ClassId} {b n : Nat} {g : Mem} {H : Heap} (hP : gP (zE G T b n) g H) (h : 0 < n) : b + n ≤ H.size := by
  have h1 : n - 1 < eK (zE G T b n) := by
    show n - 1 < n
    omega
  have h2 : b + (n - 1) < H.size := (hP (n - 1) _ (gW_at h1)).lt
  omega
theorem z_size {p : Program} {l : Launch} {e : Jvm.Env} {R : Room} {s : State} {m : MethodId} {args : Array Value} {below : List Frame} {meth : Method} {cd : Code} {H : Heap} {locs : List Loc} {c s0 N : Nat} {Q : State → Prop} {fr : JFrame} (hs : s.heap.size + c = N) (hlo : N ≤ H.size) (kk : H.size = N → W p l e R s m args below meth cd H locs c s0 Q fr) : W p l e R s m args below meth cd H locs c s0 Q fr := fun T hT X => kk (by
  have h := X.heapSize
  rw [hT] at h
  omega) T hT X
theorem zS_push {A : Nat → Prop} {H0 H H1 : Heap} {locs : List Loc} (h : va_S A H0 H locs) (z : H1.size = H.size + 1) (o : ∀ q, q < H.size → H1[q]? = H[q]?) : va_S A H0 H1 locs :=
  ⟨Nat.le_trans h.1 (by omega), fun x h1 h2 => (o x (Nat.lt_of_lt_of_le h1 h.1)).trans (h.2.1 x h1 h2), h.2.2⟩
theorem zD {G : va_G} {T : Nat → ClassId} {b n : Nat} {g : Mem} : va_D (zA b) (gW (zE G T b n) g) := gW_D zOk (fun q h => by
  obtain ⟨k, -, rfl⟩ := h
  exact Nat.le_add_right b k)
def zNew (own : String) (idx ci N : Nat) (fs : List Value) : Prop := ∃ (C : String) (T : u_T) (ty : Nat → FieldType), gC[ci]? = some (C, T, N) ∧ (∀ w ∈ u_ws C T N, w ∈ lw_gt) ∧ (∀ k, k < N → parseFieldDescriptor (T k).2.2.1 = some (ty k)) ∧ Cond.classLink own idx C ∈ lw_gt ∧ Cond.instantiable C N ∈ lw_gt ∧ Cond.initialized C ∈ lw_gt ∧ ∀ j, j < N → defaultValue (ty j) = vp_V fs j
def zAr (aty : ArrayType) (t : Nat) : Prop := (aty = .int ∧ t = 0) ∨ (aty = .char ∧ t = 1) ∨ (aty = .boolean ∧ t = 2)
def zF (own : String) (idx ci kf : Nat) (ty : FieldType) : Prop := ∃ (C : String) (T : u_T) (N : Nat) (ty0 : Nat → FieldType), gC[ci]? = some (C, T, N) ∧ kf < N ∧ (∀ w ∈ u_ws C T N, w ∈ lw_gt) ∧ Cond.fieldLink own idx (T kf).1 (T kf).2.1 (T kf).2.2.1 ∈ lw_gt ∧ (∀ k, k < N → parseFieldDescriptor (T k).2.2.1 = some (ty0 k)) ∧ (∀ a, a < N → ∀ b, b < N → a ≠ b → (T a).2.1 ≠ (T b).2.1) ∧ ((T kf).2.2.2 = false ∨ ((T kf).2.2.2 = true ∧ (T kf).1 = own)) ∧ parseFieldDescriptor (T kf).2.2.1 = some ty
theorem zF_of {own : String} {idx ci kf : Nat} {ty : FieldType} (h : yFp own idx ci kf ty) : zF own idx ci kf ty := by
  obtain ⟨C, T, N, ty0, h1, h2, h3, h4, h5, h6, h7, h8⟩ := h
  exact ⟨C, T, N, ty0, h1, h2, h3, h4, h5, h6, Or.inl h7, h8⟩
def zNq (own : String) (idx t : Nat) (C : String) : Prop := Cond.classLink own idx C ∈ lw_gt ∧ ((t = 3 ∧ C = RX3) ∨ (t = 4 ∧ C = RX0) ∨ (t = 5 ∧ C = RX4))
theorem z_arC : Cond.arrayClass .char ∈ lw_gt := lw_g (List.mem_append_right _ (List.mem_of_getElem? (i := 174) (by decide +kernel))) rfl
theorem z_arZ : Cond.arrayClass .boolean ∈ lw_gt := lw_g (List.mem_append_right _ (List.mem_of_getElem? (i := 194) (by decide +kernel))) rfl
theorem z_obI : Cond.instanceMethod Lib.objectInit ∈ lw_gt := lw_g (List.mem_append_right _ (List.mem_of_getElem? (i := 15) (by decide +kernel))) rfl
theorem z_obC : Cond.code Lib.objectInit ⟨#[0xb1]⟩ 1 none ∈ lw_gt := lw_g (List.mem_append_right _ (List.mem_of_getElem? (i := 16) (by decide +kernel))) rfl
section ZR
variable {l : Launch} {G : va_G} {T : Nat → ClassId} {b : Nat} {X : gX9} {own : String} {cc : ByteArray} {nL fr ll mc ms n1 : Nat} {post : Mem → Prop} {pc : Nat} {lo lo' : List (Option Value)} {st : List Value} {g : Mem} {n c s0 : Nat}
theorem z_iconst (hC : zC l G T b X own cc nL fr ll mc ms) {i : Int} {v : Int32} (hd : decode cc pc = .ok (.iconst i, 1)) (hv : Int32.ofInt i = v) (kk : Z l G T b X n1 mc ms post (pc + 1) lo (.int v :: st) g n c s0) : Z l G T b X n1 mc ms post pc lo st g n c s0 := by
  obtain ⟨p, e, R, s, m, args, below, meth, cd⟩ := X
  obtain ⟨hx, hb, hml, hown, hts, hK, hlk, hr, hfr, hll, hcm, hsm, hin, hN⟩ := hC
  intro H locs ls hP hz hq hS hl
  exact lv_iconst hx hb hd hv (kk H locs ls hP hz hq hS hl)
theorem z_bipush (hC : zC l G T b X own cc nL fr ll mc ms) {i : Int} {v : Int32} (hd : decode cc pc = .ok (.bipush i, 2)) (hv : (Int8.ofInt i).toInt32 = v) (kk : Z l G T b X n1 mc ms post (pc + 2) lo (.int v :: st) g n c s0) : Z l G T b X n1 mc ms post pc lo st g n c s0 := by
  obtain ⟨p, e, R, s, m, args, below, meth, cd⟩ := X
  obtain ⟨hx, hb, hml, hown, hts, hK, hlk, hr, hfr, hll, hcm, hsm, hin, hN⟩ := hC
  intro H locs ls hP hz hq hS hl
  exact lv_bipush hx hb hd hv (kk H locs ls hP hz hq hS hl)
theorem z_sipush (hC : zC l G T b X own cc nL fr ll mc ms) {i : Int} {v : Int32} (hd : decode cc pc = .ok (.sipush i, 3)) (hv : (Int16.ofInt i).toInt32 = v) (kk : Z l G T b X n1 mc ms post (pc + 3) lo (.int v :: st) g n c s0) : Z l G T b X n1 mc ms post pc lo st g n c s0 := by
  obtain ⟨p, e, R, s, m, args, below, meth, cd⟩ := X
  obtain ⟨hx, hb, hml, hown, hts, hK, hlk, hr, hfr, hll, hcm, hsm, hin, hN⟩ := hC
  intro H locs ls hP hz hq hS hl
  exact lv_sipush hx hb hd hv (kk H locs ls hP hz hq hS hl)
theorem z_aload_n (hC : zC l G T b X own cc nL fr ll mc ms) {k : Fin 4} {i a : Nat} (hd : decode cc pc = .ok (.aload_n k, 1)) (hi : (k : Nat) = i) (ho : lo[i]? = some (some (zr b a))) (kk : Z l G T b X n1 mc ms post (pc + 1) lo (zr b a :: st) g n c s0) : Z l G T b X n1 mc ms post pc lo st g n c s0 := by
  obtain ⟨p, e, R, s, m, args, below, meth, cd⟩ := X
  obtain ⟨hx, hb, hml, hown, hts, hK, hlk, hr, hfr, hll, hcm, hsm, hin, hN⟩ := hC
  intro H locs ls hP hz hq hS hl
  exact lv_aload_n hx hb hd hi (hl.2.2 _ _ ho) (kk H locs ls hP hz hq hS hl)
theorem z_iload_n (hC : zC l G T b X own cc nL fr ll mc ms) {k : Fin 4} {i : Nat} {x : Int32} (hd : decode cc pc = .ok (.iload_n k, 1)) (hi : (k : Nat) = i) (ho : lo[i]? = some (some (.int x))) (kk : Z l G T b X n1 mc ms post (pc + 1) lo (.int x :: st) g n c s0) : Z l G T b X n1 mc ms post pc lo st g n c s0 := by
  obtain ⟨p, e, R, s, m, args, below, meth, cd⟩ := X
  obtain ⟨hx, hb, hml, hown, hts, hK, hlk, hr, hfr, hll, hcm, hsm, hin, hN⟩ := hC
  intro H locs ls hP hz hq hS hl
  exact lv_iload_n hx hb hd hi (hl.2.2 _ _ ho) (kk H locs ls hP hz hq hS hl)
theorem z_istore_n (hC : zC l G T b X own cc nL fr ll mc ms) {k : Fin 4} {i : Nat} {x : Int32} (hd : decode cc pc = .ok (.istore_n k, 1)) (hi : (k : Nat) = i) (hn : i < lo.length) (hp : y_nl lo i = true) (ho : lo.set i (some (.int x)) = lo') (kk : Z l G T b X n1 mc ms post (pc + 1) lo' st g n c s0) : Z l G T b X n1 mc ms post pc lo (.int x :: st) g n c s0 := by
  obtain ⟨p, e, R, s, m, args, below, meth, cd⟩ := X
  obtain ⟨hx, hb, hml, hown, hts, hK, hlk, hr, hfr, hll, hcm, hsm, hin, hN⟩ := hC
  intro H locs ls hP hz hq hS hl
  exact lv_istore_n hx hb hd hi hl.lv hn rfl (fun ls' h' => kk H locs ls' hP hz hq hS (ho ▸ y_has_st1 rfl hn hp h'))
theorem z_iinc (hC : zC l G T b X own cc nL fr ll mc ms) {i : Nat} {d : Int} {x v : Int32} (hd : decode cc pc = .ok (.iinc i d, 3)) (hx0 : lo[i]? = some (some (.int x))) (hv : x + Int32.ofInt d = v) (hn : i < lo.length) (hp : y_nl lo i = true) (ho : lo.set i (some (.int v)) = lo') (kk : Z l G T b X n1 mc ms post (pc + 3) lo' st g n c s0) : Z l G T b X n1 mc ms post pc lo st g n c s0 := by
  obtain ⟨p, e, R, s, m, args, below, meth, cd⟩ := X
  obtain ⟨hx, hb, hml, hown, hts, hK, hlk, hr, hfr, hll, hcm, hsm, hin, hN⟩ := hC
  intro H locs ls hP hz hq hS hl
  obtain ⟨k, hk⟩ := List.getElem?_of_mem (y_l_mem hx0)
  exact lv_iinc hx hb hd hl.lv hk hv hn rfl (fun ls' h' => kk H locs ls' hP hz hq hS (ho ▸ y_has_st1 rfl hn hp h'))
theorem z_goto (hC : zC l G T b X own cc nL fr ll mc ms) {off : Int} {tgt : Nat} (hd : decode cc pc = .ok (.goto off, 3)) (ht : (pc : Int) + off = (tgt : Int)) (kk : Z l G T b X n1 mc ms post tgt lo st g n c s0) : Z l G T b X n1 mc ms post pc lo st g n c s0 := by
  obtain ⟨p, e, R, s, m, args, below, meth, cd⟩ := X
  obtain ⟨hx, hb, hml, hown, hts, hK, hlk, hr, hfr, hll, hcm, hsm, hin, hN⟩ := hC
  intro H locs ls hP hz hq hS hl
  exact lv_goto hx hb hd ht (kk H locs ls hP hz hq hS hl)
theorem z_icmp_ge (hC : zC l G T b X own cc nL fr ll mc ms) {x y : Int32} {off : Int} {tgt : Nat} (hd : decode cc pc = .ok (.if_icmp .ge off, 3)) (ht : (pc : Int) + off = (tgt : Int)) (kt : y ≤ x → Z l G T b X n1 mc ms post tgt lo st g n c s0) (kf : ¬ y ≤ x → Z l G T b X n1 mc ms post (pc + 3) lo st g n c s0) : Z l G T b X n1 mc ms post pc lo (.int y :: .int x :: st) g n c s0 := by
  obtain ⟨p, e, R, s, m, args, below, meth, cd⟩ := X
  obtain ⟨hx, hb, hml, hown, hts, hK, hlk, hr, hfr, hll, hcm, hsm, hin, hN⟩ := hC
  intro H locs ls hP hz hq hS hl
  exact lv_icmp_ge hx hb hd ht (fun q => kt q H locs ls hP hz hq hS hl) (fun q => kf q H locs ls hP hz hq hS hl)
theorem z_dup (hC : zC l G T b X own cc nL fr ll mc ms) {v : Value} (hd : decode cc pc = .ok (.dup, 1)) (hv : v.category = 1) (kk : Z l G T b X n1 mc ms post (pc + 1) lo (v :: v :: st) g n c s0) : Z l G T b X n1 mc ms post pc lo (v :: st) g n c s0 := by
  obtain ⟨p, e, R, s, m, args, below, meth, cd⟩ := X
  obtain ⟨hx, hb, hml, hown, hts, hK, hlk, hr, hfr, hll, hcm, hsm, hin, hN⟩ := hC
  intro H locs ls hP hz hq hS hl
  exact lv_dup hx hb hd hv (kk H locs ls hP hz hq hS hl)
theorem z_get (hC : zC l G T b X own cc nL fr ll mc ms) {idx ci kf k : Nat} {fs : List Value} {v : Value} (hf : yF own idx ci kf) (hd : decode cc pc = .ok (.getfield idx, 3)) (hk : k < n) (hg : g k = oB ci fs) (hv : fs[kf]? = some v) (kk : Z l G T b X n1 mc ms post (pc + 3) lo (v :: st) g n c s0) : Z l G T b X n1 mc ms post pc lo (zr b k :: st) g n c s0 := by
  obtain ⟨p, e, R, s, m, args, below, meth, cd⟩ := X
  obtain ⟨hx, hb, hml, hown, hts, hK, hlk, hr, hfr, hll, hcm, hsm, hin, hN⟩ := hC
  intro H locs ls hP hz hq hS hl
  obtain ⟨C, TT, N, h1, h2, h3, h4⟩ := hf
  exact va_get (D := G) (ci := ci) (v := v) (C := C) (T := TT) (N := N) hx hb hts h3 hown hK hP k (by rw [gW_at (E := zE G T b n) hk, hg]; rfl) h1 kf h2 (hts _ h4) (fun _ h9 => h9) hv hd (kk H locs ls hP hz hq hS hl)
theorem z_put (hC : zC l G T b X own cc nL fr ll mc ms) {idx ci kf k : Nat} {fs fs' : List Value} {v : Value} {ty : FieldType} (hf : zF own idx ci kf ty) (hd : decode cc pc = .ok (.putfield idx, 3)) (hk : k < n) (hg : g k = oB ci fs) (hlen : kf < fs.length) (hn : narrow ty v = v) (hfit : fits ty v = true) (hs : fs.set kf v = fs') (kk : Z l G T b X n1 mc ms post (pc + 3) lo st (va_up g k (oB ci fs')) n c s0) : Z l G T b X n1 mc ms post pc lo (v :: zr b k :: st) g n c s0 := by
  obtain ⟨p, e, R, s, m, args, below, meth, cd⟩ := X
  obtain ⟨hx, hb, hml, hown, hts, hK, hlk, hr, hfr, hll, hcm, hsm, hin, hN⟩ := hC
  intro H locs ls hP hz hq hS hl
  obtain ⟨C, TT, N, ty0, h1, h2, h3, h4, h5, h6, h7, h8⟩ := hf
  subst hs
  rcases h7 with h7 | ⟨h7, h7'⟩
  · refine va_put (D := G) (ci := ci) (v := v) (ty := ty) (C := C) (T := TT) (N := N) hx hb hts h3 ty0 h5 h6 hown hK hP zD hS k (by rw [gW_at (E := zE G T b n) hk, hg]; rfl) h1 kf h2 (hts _ h4) (fun _ h9 => h9) h7 h8 hn hfit hlen hd (fun H1 locs1 hP1 _ hS1 => ?_)
    have hP2 : gP (zE G T b n) (va_up g k (oB ci (fs.set kf v))) H1 := by
      have h9 := gW_set (E := zE G T b n) (g := g) (e := oB ci (fs.set kf v)) hk
      show va_P G gC (gW (zE G T b n) (va_up g k (oB ci (fs.set kf v)))) H1
      rw [← h9]
      exact hP1
    exact z_size hq (zP_lo hP2 (by omega)) (fun hz2 => kk H1 locs1 ls hP2 hz2 hq hS1 hl)
  · refine va_putF (D := G) (ci := ci) (v := v) (ty := ty) (C := C) (T := TT) (N := N) hx hb hts h3 ty0 h5 h6 hown hK hP zD hS k (by rw [gW_at (E := zE G T b n) hk, hg]; rfl) h1 kf h2 (hts _ h4) (fun _ h9 => h9) h7 hin h7' h8 hn hfit hlen hd (fun H1 locs1 hP1 _ hS1 => ?_)
    have hP2 : gP (zE G T b n) (va_up g k (oB ci (fs.set kf v))) H1 := by
      have h9 := gW_set (E := zE G T b n) (g := g) (e := oB ci (fs.set kf v)) hk
      show va_P G gC (gW (zE G T b n) (va_up g k (oB ci (fs.set kf v)))) H1
      rw [← h9]
      exact hP1
    exact z_size hq (zP_lo hP2 (by omega)) (fun hz2 => kk H1 locs1 ls hP2 hz2 hq hS1 hl)
theorem z_new (hC : zC l G T b X own cc nL fr ll mc ms) {idx ci N : Nat} {fs : List Value} (hw : zNew own idx ci N fs) (hd : decode cc pc = .ok (.new idx, 3)) {n' c' s' : Nat} (hn' : n + 1 = n') (hc' : c + 1 = c') (hs' : s0 + N = s') (hc : c' ≤ mc) (hs : s' ≤ ms) (kk : Z l G T b X n1 mc ms post (pc + 3) lo (zr b n :: st) (va_up g n (oB ci fs)) n' c' s') : Z l G T b X n1 mc ms post pc lo st g n c s0 := by
  obtain ⟨p, e, R, s, m, args, below, meth, cd⟩ := X
  obtain ⟨hx, hb, hml, hown, hts, hK, hlk, hr, hfr, hll, hcm, hsm, hin, hN⟩ := hC
  intro H locs ls hP hz hq hS hl
  subst hn'; subst hc'; subst hs'
  obtain ⟨C, TT, ty, h1, h2, h3, h4, h5, h6, h7⟩ := hw
  have hKn := hK.1 ci _ h1
  refine W.newcK hx hb hown (hts _ h4) (hts _ h5) (hts _ h6) rfl hd (by rw [hcm]; exact hc) (by rw [hsm]; exact hs) hKn.2.1 hz fun H1 kC hkC e1 z1 o1 => ?_
  exact kk H1 locs ls (zP_push hP ⟨_, h1, (u_born ty hts h2 hKn hkC e1 h3).to h7⟩ o1) (by omega) (by omega) (zS_push hS (by omega) (by rw [hz]; exact o1)) hl
theorem z_newa (hC : zC l G T b X own cc nL fr ll mc ms) {t N : Nat} {aty : ArrayType} {i : Int32} (ht : zAr aty t) (hd : decode cc pc = .ok (.newarray aty, 2)) (hi : i = nI N) (hN1 : N ≤ 1000) {n' c' s' : Nat} (hn' : n + 1 = n') (hc' : c + 1 = c') (hs' : s0 + N = s') (hc : c' ≤ mc) (hs : s' ≤ ms) (kk : Z l G T b X n1 mc ms post (pc + 2) lo (zr b n :: st) (va_up g n (zI T t N (fun _ => 0))) n' c' s') : Z l G T b X n1 mc ms post pc lo (.int i :: st) g n c s0 := by
  obtain ⟨p, e, R, s, m, args, below, meth, cd⟩ := X
  obtain ⟨hx, hb, hml, hown, hts, hK, hlk, hr, hfr, hll, hcm, hsm, hin, hN⟩ := hC
  intro H locs ls hP hz hq hS hl
  subst hi; subst hn'; subst hc'; subst hs'
  have h0 : ¬ nI N < 0 := nI_pos (by omega)
  have h00 : (nI N).toNatClampNeg = N := nI_clamp (by omega)
  rcases ht with ⟨rfl, rfl⟩ | ⟨rfl, rfl⟩ | ⟨rfl, rfl⟩
  · refine va_newaK (atype := .int) hx hb (hts _ z_arI) rfl hd rfl h0 h00 (show N * 4 ≤ _ by omega) (by rw [hcm]; exact hc) (by rw [hsm]; exact hs) hz fun H1 cA e1 z1 o1 _ hNm => ?_
    have hcA : cA = T 0 := Option.some.inj (hNm.symm.trans (hK.2 0 (T 0, .int) rfl).2)
    subst hcA
    exact kk H1 locs ls (zP_push hP e1 o1) (by omega) (by omega) (zS_push hS (by omega) (by rw [hz]; exact o1)) hl
  · refine va_newaK (atype := .char) hx hb (hts _ z_arC) rfl hd rfl h0 h00 (show N * 2 ≤ _ by omega) (by rw [hcm]; exact hc) (by rw [hsm]; exact hs) hz fun H1 cA e1 z1 o1 _ hNm => ?_
    have hcA : cA = T 1 := Option.some.inj (hNm.symm.trans (hK.2 1 (T 1, .char) rfl).2)
    subst hcA
    exact kk H1 locs ls (zP_push hP e1 o1) (by omega) (by omega) (zS_push hS (by omega) (by rw [hz]; exact o1)) hl
  · refine va_newaK (atype := .boolean) hx hb (hts _ z_arZ) rfl hd rfl h0 h00 (show N * 1 ≤ _ by omega) (by rw [hcm]; exact hc) (by rw [hsm]; exact hs) hz fun H1 cA e1 z1 o1 _ hNm => ?_
    have hcA : cA = T 2 := Option.some.inj (hNm.symm.trans (hK.2 2 (T 2, .boolean) rfl).2)
    subst hcA
    exact kk H1 locs ls (zP_push hP e1 o1) (by omega) (by omega) (zS_push hS (by omega) (by rw [hz]; exact o1)) hl
theorem z_newq (hC : zC l G T b X own cc nL fr ll mc ms) {idx t N : Nat} {C : String} {i : Int32} (hw : zNq own idx t C) (hd : decode cc pc = .ok (.anewarray idx, 3)) (hi : i = nI N) (hN1 : N ≤ 1000) {n' c' s' : Nat} (hn' : n + 1 = n') (hc' : c + 1 = c') (hs' : s0 + N = s') (hc : c' ≤ mc) (hs : s' ≤ ms) (kk : Z l G T b X n1 mc ms post (pc + 3) lo (zr b n :: st) (va_up g n (zJ T t N (fun _ => none))) n' c' s') : Z l G T b X n1 mc ms post pc lo (.int i :: st) g n c s0 := by
  obtain ⟨p, e, R, s, m, args, below, meth, cd⟩ := X
  obtain ⟨hx, hb, hml, hown, hts, hK, hlk, hr, hfr, hll, hcm, hsm, hin, hN⟩ := hC
  intro H locs ls hP hz hq hS hl
  subst hi; subst hn'; subst hc'; subst hs'
  have h0 : ¬ nI N < 0 := nI_pos (by omega)
  have h00 : (nI N).toNatClampNeg = N := nI_clamp (by omega)
  obtain ⟨hcl, hw⟩ := hw
  have key : va_AO C s ∧ (zT T)[t]? = some (T t, .object C) := by
    rcases hw with ⟨rfl, rfl⟩ | ⟨rfl, rfl⟩ | ⟨rfl, rfl⟩
    · exact ⟨hN.2.2.2.2.1, rfl⟩
    · exact ⟨hN.2.2.2.2.2.1, rfl⟩
    · exact ⟨hN.2.2.2.2.2.2, rfl⟩
  obtain ⟨hover, hty⟩ := key
  refine W.anew hx hb hown (hts _ hcl) (va_AO.use hover) rfl hd rfl h0 (by rw [h00]; omega) (by rw [hcm]; exact hc) (by rw [hsm, h00]; exact hs) fun cA kA comp f1 f2 f3 f4 => ?_
  obtain ⟨kA', comp', -, -, -, k4⟩ := (hK.2 t _ hty).2
  have hcA : cA = T t := Option.some.inj (f1.symm.trans k4)
  subst hcA
  rw [h00]
  generalize hH1 : H.push ({ cls := T t, slots := Array.replicate N .null, vm := .none } : Cell) = H1
  have z1 : H1.size = H.size + 1 := by rw [← hH1, Array.size_push]
  have e1 : H1[H.size]? = some (arrV (T t) N (fun _ => .null)) := by rw [← hH1, Array.getElem?_push_size, ← arrV_new]
  have o1 : ∀ q : Nat, q < H.size → H1[q]? = H[q]? := fun q hq => by rw [← hH1, Array.getElem?_push, if_neg (Nat.ne_of_lt hq)]
  rw [hz] at e1 o1 z1 ⊢
  exact kk H1 locs ls (zP_push hP e1 o1) (by omega) (by omega) (zS_push hS (by omega) (by rw [hz]; exact o1)) hl
theorem z_aast (hC : zC l G T b X own cc nL fr ll mc ms) {k N j t ci r : Nat} {C : String} {f : Nat → Option Nat} {vs : List Value} {i : Int32} (ht : yT t ci C) (hd : decode cc pc = .ok (.aastore, 1)) (hk : k < n) (hg : g k = zJ T t N f) (hr0 : r < n) (hgr : g r = oB ci vs) (hi : i = nI j) (hj : j < N) (hN1 : N ≤ 1000) (kk : Z l G T b X n1 mc ms post (pc + 1) lo st (va_up g k (zJ T t N (va_up f j (some (b + r))))) n c s0) : Z l G T b X n1 mc ms post pc lo (zr b r :: .int i :: zr b k :: st) g n c s0 := by
  obtain ⟨p, e, R, s, m, args, below, meth, cd⟩ := X
  obtain ⟨hx, hb, hml, hown, hts, hK, hlk, hr, hfr, hll, hcm, hsm, hin, hN⟩ := hC
  intro H locs ls hP hz hq hS hl
  obtain ⟨h1, h2⟩ := y_ix hi hj (show N < 2147483648 by omega)
  obtain ⟨rc, h3, h4⟩ := yT_cls ht
  have hty : (zT T)[t]? = some (T t, .object C) := by
    rcases ht with ⟨rfl, -, rfl⟩ | ⟨rfl, -, rfl⟩ | ⟨rfl, -, rfl⟩ <;> rfl
  refine va_astq hx hb hK hP zD hS k t r ci (r := rc) (by rw [gW_at (E := zE G T b n) hk, hg]; rfl) (by rw [hty, h4]) (by rw [gW_at (E := zE G T b n) hr0, hgr]; rfl) h3 h1 hd (fun H1 locs1 hP1 _ hS1 => ?_)
  rw [h2] at hP1
  have hP2 : gP (zE G T b n) (va_up g k (zJ T t N (va_up f j (some (b + r))))) H1 := by
    have h9 := gW_set (E := zE G T b n) (g := g) (e := zJ T t N (va_up f j (some (b + r)))) hk
    show va_P G gC (gW (zE G T b n) (va_up g k (zJ T t N (va_up f j (some (b + r)))))) H1
    rw [← h9]
    exact hP1
  exact z_size hq (zP_lo hP2 (by omega)) (fun hz2 => kk H1 locs1 ls hP2 hz2 hq hS1 hl)
theorem z_mem {t N k : Nat} {f h : Nat → Option Nat} (hk : k < n) (hg : g k = zJ T t N f) (he : ∀ i, i < N → f i = h i) (kk : Z l G T b X n1 mc ms post pc lo st (va_up g k (zJ T t N h)) n c s0) : Z l G T b X n1 mc ms post pc lo st g n c s0 := fun H locs ls hP hz hq hS hl => kk H locs ls (zP_mem hP hk hg he) hz hq hS hl
theorem z_ret (hC : zC l G T b X own cc nL fr ll mc ms) (hd : decode cc pc = .ok (.return_, 1)) (hp : post g) (hn : n = n1) (hc : c = mc) (hs : s0 = ms)  : Z l G T b X n1 mc ms post pc lo [] g n c s0 := by
  obtain ⟨p, e, R, s, m, args, below, meth, cd⟩ := X
  obtain ⟨hx, hb, hml, hown, hts, hK, hlk, hr, hfr, hll, hcm, hsm, hin, hN⟩ := hC
  intro H locs ls hP hz hq hS hl
  subst hn; subst hc; subst hs
  exact W.vret hx hb hr (fun t ht _ => ⟨⟨rfl, g, hp, by rw [ht]; exact hP, by rw [ht]; exact hz⟩, hS.F ht⟩) hS.2.2 hd hlk
theorem z_obj (hC : zC l G T b X own cc nL fr ll mc ms) {idx k : Nat} (hnL : nL = lo.length) (hlink : Cond.methodLink own idx Lib.objectInit ∈ lw_gt) (hd : decode cc pc = .ok (.invokespecial idx, 3)) (hfr1 : 1 ≤ fr) (hll1 : 12 ≤ ll) (kk : Z l G T b X n1 mc ms post (pc + 3) lo [] g n c s0) : Z l G T b X n1 mc ms post pc lo [zr b k] g n c s0 := by
  obtain ⟨p, e, R, s, m, args, below, meth, cd⟩ := X
  obtain ⟨hx, hb, hml, hown, hts, hK, hlk, hr, hfr, hll, hcm, hsm, hin, hN⟩ := hC
  intro H locs ls hP hz hq hS hl
  exact W.objInit (rest := []) hx hb hown (hts _ hlink) (hts _ z_obI) (hts _ z_obC) rfl (by show ls.size = _; rw [hml, hnL]; exact hl.1) rfl hd (by rw [hfr]; exact hfr1) (by rw [hll]; exact hll1) (kk H locs ls hP hz hq hS hl)
end ZR
theorem z_run {l : Launch} {G : va_G} {T : Nat → ClassId} {b n1 : Nat} {A0 : Nat → Prop} {p : Program} {e : Jvm.Env} {R : Room} {s : State} {m : MethodId} {args : Array Value} {below : List Frame} {meth : Method} {cd : Code} {H : Heap} {locs : List Loc} {Q : State → Prop} {pc : Nat} {ls : Array Slot} {rest st0 : List Value} {a : Array Value} {postc : Mem → Prop} {c s0 mc ms : Nat}
    (hr : va_Run p l e R s m args below meth cd H locs c s0 mc ms (F0 m pc ls st0) rest (zQ G T b n1 postc a) (zA b)) (hS : va_S A0 s.heap H locs) (hA : ∀ q, zA b q → A0 q)
    (kk : ∀ (g' : Mem) (H1 : Heap) (locs1 : List Loc), postc g' → gP (zE G T b n1) g' H1 → H1.size = b + n1 → (∀ q, q < H.size → ¬ zA b q → H1[q]? = H[q]?) → va_S A0 s.heap H1 locs1 → W p l e R s m args below meth cd H1 locs1 (c + mc) (s0 + ms) Q (F0 m (pc + 3) ls rest)) : W p l e R s m args below meth cd H locs c s0 Q (F0 m pc ls st0) := by
  intro Tt hT X
  obtain ⟨v, st₀, t, T', L, h0, X', hL, e1, e2, ⟨⟨hv, g', hp, hb, hsz⟩, hz, hk⟩, st⟩ := hr Tt hT X
  cases hv
  rw [h0] at hz hk
  obtain ⟨t2, a1, b1⟩ := kk g' T'.heap (locs ++ L) hp (by rw [e1]; exact hb) (by rw [e1]; exact hsz) (fun q h1 h2 => by rw [e1]; exact hk q h1 h2)
    ⟨Nat.le_trans hS.1 (by rw [e1]; exact hz), fun q h1 h2 => by rw [e1, hk q (Nat.lt_of_lt_of_le h1 hS.1) (fun h => h2 (hA q h))]; exact hS.2.1 q h1 h2, fun q hq => by
      rcases List.mem_append.mp hq with h | h
      · exact hS.2.2 q h
      · exact hA _ (hL q h)⟩ T' rfl X'
  exact ⟨t2, st t2 a1, b1⟩
/-- what the tables say of a constructor -/
def zMi (y : MethodName) (bytes : ByteArray) (mL : Nat) : Prop := (y.cls ≠ "java/lang/invoke/MethodHandle" ∧ y.cls ≠ "java/lang/invoke/VarHandle" ∧ (parseMethodDescriptor y.desc).map (fun d => d.parameters.length) = some 0) ∧ y.name = "<init>" ∧ Cond.instanceMethod y ∈ lw_gt ∧ Cond.initialized y.cls ∈ lw_gt ∧ Cond.code y bytes mL none ∈ lw_gt
section ZR2
variable {l : Launch} {G : va_G} {T : Nat → ClassId} {b : Nat} {X : gX9} {own : String} {cc : ByteArray} {nL fr ll mc ms n1 : Nat} {post : Mem → Prop} {pc : Nat} {lo lo' : List (Option Value)} {st : List Value} {g : Mem} {n c s0 : Nat}
theorem z_call (hC : zC l G T b X own cc nL fr ll mc ms) {idx k mL fr2 ll2 n2 mc2 ms2 : Nat} {y : MethodName} {bytes : ByteArray} {postc : Mem → Prop} (hw : zMi y bytes mL) (hlink : Cond.methodLink own idx y ∈ lw_gt) (hd : decode cc pc = .ok (.invokespecial idx, 3)) (hM : Mz l G T b y bytes mL fr2 ll2 n n2 mc2 ms2 [zr b k] g postc) (hnL : nL = lo.length) (hcat : (st.map fun v => v.category).sum ≤ 8) (hroom : fr2 + 1 ≤ fr ∧ 8 + (mL + 11) + ll2 ≤ ll) {c' s' : Nat} (hc2 : n + mc2 = n2) (hc' : c + mc2 = c') (hs' : s0 + ms2 = s') (hcs : c' ≤ mc ∧ s' ≤ ms) (kk : ∀ g', postc g' → Z l G T b X n1 mc ms post (pc + 3) lo st g' n2 c' s') : Z l G T b X n1 mc ms post pc lo (zr b k :: st) g n c s0 := by
  obtain ⟨p, e, R, s, m, args, below, meth, cd⟩ := X
  obtain ⟨hx, hb, hml, hown, hts, hK, hlk, hr, hfr, hll, hcm, hsm, hin, hN⟩ := hC
  intro H locs ls hP hz hq hS hl
  subst hc'; subst hs'
  obtain ⟨w3, w0, w4, w6, w7⟩ := hw
  exact z_run (postc := postc) (rest := st) (va_runI (As := []) (rest := st) (Ts := lw_gt) (own := own) (nL := nL) ⟨hx, hb, hml, hown, hts⟩ hM (cwI 0 hts (lw_good w7) rfl rfl rfl (hts _ w6) (hts _ hlink) (hts _ w4) w0 w3 ⟨by rw [hfr]; exact hroom.1, by rw [hll]; exact hroom.2⟩) ⟨mz_blind, fun U hU hW => ⟨rfl, by rw [hU]; exact hP, by rw [hU]; exact hz, va_K.moved hW.alike hK, hN.warm hW⟩⟩ rfl rfl (hl.1.trans hnL.symm) rfl (lv_room hcat) hd ⟨by rw [hcm]; exact hcs.1, by rw [hsm]; exact hcs.2⟩) hS (fun _ h => h) (fun g' H1 locs1 hp hP1 hz1 _ hS1 => kk g' hp H1 locs1 ls hP1 hz1 (by omega) hS1 hl)
theorem z_callN (hC : zC l G T b X own cc nL fr ll mc ms) {idx k mL fr2 ll2 n2 mc2 ms2 : Nat} {y : MethodName} {bytes : ByteArray} {postc : Mem → Prop} (hw : zMi y bytes mL) {host : String} (hlink : gZ X.2.2.2.1 → va_Nw (.methodLinkNest own idx y host) X.2.2.2.1) (hd : decode cc pc = .ok (.invokespecial idx, 3)) (hM : Mz l G T b y bytes mL fr2 ll2 n n2 mc2 ms2 [zr b k] g postc) (hnL : nL = lo.length) (hcat : (st.map fun v => v.category).sum ≤ 8) (hroom : fr2 + 1 ≤ fr ∧ 8 + (mL + 11) + ll2 ≤ ll) {c' s' : Nat} (hc2 : n + mc2 = n2) (hc' : c + mc2 = c') (hs' : s0 + ms2 = s') (hcs : c' ≤ mc ∧ s' ≤ ms) (kk : ∀ g', postc g' → Z l G T b X n1 mc ms post (pc + 3) lo st g' n2 c' s') : Z l G T b X n1 mc ms post pc lo (zr b k :: st) g n c s0 := by
  obtain ⟨p, e, R, s, m, args, below, meth, cd⟩ := X
  obtain ⟨hx, hb, hml, hown, hts, hK, hlk, hr, hfr, hll, hcm, hsm, hin, hN⟩ := hC
  intro H locs ls hP hz hq hS hl
  subst hc'; subst hs'
  obtain ⟨w3, w0, w4, w6, w7⟩ := hw
  exact z_run (postc := postc) (rest := st) (va_runIN (As := []) (rest := st) (Ts := lw_gt) (own := own) (nL := nL) ⟨hx, hb, hml, hown, hts⟩ hM ⟨va_cnB 0 hts (lw_good w7) rfl rfl rfl (hlink hN) (hts _ w6) w3 ⟨by rw [hfr]; exact hroom.1, by rw [hll]; exact hroom.2⟩, w0, hts _ w4⟩ ⟨mz_blind, fun U hU hW => ⟨rfl, by rw [hU]; exact hP, by rw [hU]; exact hz, va_K.moved hW.alike hK, hN.warm hW⟩⟩ rfl rfl (hl.1.trans hnL.symm) rfl (lv_room hcat) hd ⟨by rw [hcm]; exact hcs.1, by rw [hsm]; exact hcs.2⟩) hS (fun _ h => h) (fun g' H1 locs1 hp hP1 hz1 _ hS1 => kk g' hp H1 locs1 ls hP1 hz1 (by omega) hS1 hl)
theorem z_icmp_ge_n (hC : zC l G T b X own cc nL fr ll mc ms) {a d : Nat} {off : Int} {tgt : Nat} (hd : decode cc pc = .ok (.if_icmp .ge off, 3)) (ht : (pc : Int) + off = (tgt : Int)) (ha : a < 2147483648) (hb0 : d < 2147483648) (kt : d ≤ a → Z l G T b X n1 mc ms post tgt lo st g n c s0) (kf : ¬ d ≤ a → Z l G T b X n1 mc ms post (pc + 3) lo st g n c s0) : Z l G T b X n1 mc ms post pc lo (.int (nI d) :: .int (nI a) :: st) g n c s0 := by
  obtain ⟨p, e, R, s, m, args, below, meth, cd⟩ := X
  obtain ⟨hx, hb, hml, hown, hts, hK, hlk, hr, hfr, hll, hcm, hsm, hin, hN⟩ := hC
  intro H locs ls hP hz hq hS hl
  exact lv_icmp_ge hx hb hd ht (fun q => kt ((nI_leI hb0 ha).mp q) H locs ls hP hz hq hS hl) (fun q => kf (fun z => q ((nI_leI hb0 ha).mpr z)) H locs ls hP hz hq hS hl)
end ZR2
