/-! ===== the judgement over memories: a world is a function from roles to cells; nothing is made ===== -/
abbrev Mem : Type := Nat → va_E
abbrev gC : List vw_C := [(RX0, TX0, 4), (RX1, TX1, 4), (RX2, TX2, 6), (RX3, TX3, 7), (RX4, TX4, 8), (RX5, TX5, 6)]
/-- class numbers and slots; array classes (int, char, boolean, Range, Glow, State); addresses; how many roles -/
abbrev gE : Type := va_G × (Nat → ClassId) × (Nat → Nat) × Nat
def eA (E : gE) (k : Nat) : Nat := E.2.2.1 k
def eK (E : gE) : Nat := E.2.2.2
def eT (E : gE) (k : Nat) : ClassId := E.2.1 k
def eTys (E : gE) : List (ClassId × FieldType) := [(eT E 0, .int), (eT E 1, .char), (eT E 2, .boolean), (eT E 3, .object RX3), (eT E 4, .object RX0), (eT E 5, .object RX4)]
def rf (E : gE) (k : Nat) : Value := .ref (eA E k)
def eOk (E : gE) : Prop := ∀ i j, i < eK E → j < eK E → eA E i = eA E j → i = j
def gW (E : gE) (g : Mem) : va_W := (List.range (eK E)).map (fun k => (eA E k, g k))
def gP (E : gE) (g : Mem) (H : Heap) : Prop := va_P E.1 gC (gW E g) H
def gA (E : gE) : Nat → Prop := fun q => ∃ k, k < eK E ∧ eA E k = q
def oB (ci : Nat) (fs : List Value) : va_E := .inr (ci, fs)
def aI (E : gE) (t n : Nat) (f : Nat → Int32) : va_E := .inl (eT E t, n, .inl f)
def aR (E : gE) (t n : Nat) (π : Nat → Nat) : va_E := .inl (eT E t, n, .inr (.inr (.inr (.inr (fun i => some (eA E (π i)))))))
theorem gW_at {E : gE} {g : Mem} {k : Nat} (hk : k < eK E) : (gW E g)[k]? = some (eA E k, g k) := by
  unfold gW
  rw [List.getElem?_map, List.getElem?_range hk]
  rfl
theorem gW_inv {E : gE} {g : Mem} {k : Nat} {q : Nat × va_E} (h : (gW E g)[k]? = some q) : k < eK E ∧ q = (eA E k, g k) := by
  have hl := (List.getElem?_eq_some_iff.mp h).1
  unfold gW at hl
  rw [List.length_map, List.length_range] at hl
  rw [gW_at hl] at h
  exact ⟨hl, (Option.some.inj h).symm⟩
theorem gW_D {E : gE} {g : Mem} {A : Nat → Prop} (hE : eOk E) (hA : ∀ q, gA E q → A q) : va_D A (gW E g) := by
  refine ⟨fun i j p q hi hj hpq => ?_, fun k q hk => ?_⟩
  · obtain ⟨h1, rfl⟩ := gW_inv hi
    obtain ⟨h2, rfl⟩ := gW_inv hj
    exact hE i j h1 h2 hpq
  · obtain ⟨h1, rfl⟩ := gW_inv hk
    exact hA _ ⟨k, h1, rfl⟩
theorem gW_set {E : gE} {g : Mem} {k : Nat} {e : va_E} (hk : k < eK E) : (gW E g).set k (eA E k, e) = gW E (va_up g k e) := by
  apply List.ext_getElem?
  intro j
  by_cases hj : j = k
  · subst hj
    rw [List.getElem?_set_self (by simpa [gW] using hk), gW_at hk, va_up_self]
  · rw [List.getElem?_set_ne (Ne.symm hj)]
    by_cases hl : j < eK E
    · rw [gW_at hl, gW_at hl, va_up_ne _ _ hj]
    · rw [List.getElem?_eq_none (by simp [gW]; omega), List.getElem?_eq_none (by simp [gW]; omega)]
/-! the locals, a list of slots -/
def y_has (ls : Array Slot) (lo : List (Option Value)) : Prop := ls.size = lo.length ∧ lv_wf ls ∧ ∀ (i : Nat) (v : Value), lo[i]? = some (some v) → ls[i]? = some (.val v)
def y_l (lo : List (Option Value)) : List (Nat × Value) := (List.range lo.length).filterMap (fun j => (lo[j]?.join).map (fun w => (j, w)))
theorem y_l_mem {lo : List (Option Value)} {i : Nat} {v : Value} (h : lo[i]? = some (some v)) : (i, v) ∈ y_l lo := by
  unfold y_l
  rw [List.mem_filterMap]
  refine ⟨i, List.mem_range.mpr (List.getElem?_eq_some_iff.mp h).1, ?_⟩
  simp [h]
theorem y_l_inv {lo : List (Option Value)} {i : Nat} {v : Value} (h : (i, v) ∈ y_l lo) : lo[i]? = some (some v) := by
  unfold y_l at h
  rw [List.mem_filterMap] at h
  obtain ⟨j, -, hj⟩ := h
  cases hq : lo[j]? with
  | none => simp [hq] at hj
  | some o =>
    cases o with
    | none => simp [hq] at hj
    | some w =>
      simp [hq] at hj
      obtain ⟨h1, h2⟩ := hj
      subst h1; subst h2
      exact hq
theorem y_has.lv {ls : Array Slot} {lo : List (Option Value)} (h : y_has ls lo) : lv_has ls lo.length (y_l lo) := ⟨h.1, h.2.1, fun q hq => h.2.2 q.1 q.2 (y_l_inv hq)⟩
/-- the slot ahead of i holds no long -/
def y_nl (lo : List (Option Value)) (i : Nat) : Bool := match i with
  | 0 => true
  | k + 1 => match lo[k]? with
    | some (some (.long _)) => false
    | some (some (.double _)) => false
    | _ => true
theorem y_nl_spec {lo : List (Option Value)} {i j : Nat} {v : Value} (h : y_nl lo i = true) (hj : lo[j]? = some (some v)) (hij : j + 1 = i) : ¬ v.category = 2 := by
  subst hij
  simp only [y_nl, hj] at h
  cases v <;> simp_all [Value.category]
theorem y_has_st1 {ls' : Array Slot} {lo : List (Option Value)} {i n : Nat} {v : Value} (hn : n = lo.length) (hi : i < lo.length) (hp : y_nl lo i = true)
    (h : lv_has ls' n ((i, v) :: (y_l lo).filter (fun q => !(q.1 == i) && !(q.1 + 1 == i && q.2.category == 2)))) : y_has ls' (lo.set i (some v)) := by
  refine ⟨by rw [List.length_set, ← hn]; exact h.1, h.2.1, fun j w hj => ?_⟩
  by_cases hji : j = i
  · subst hji
    rw [List.getElem?_set_self hi] at hj
    cases hj
    exact h.2.2 (j, v) List.mem_cons_self
  · rw [List.getElem?_set_ne (Ne.symm hji)] at hj
    refine h.2.2 (j, w) (List.mem_cons_of_mem _ (List.mem_filter.mpr ⟨y_l_mem hj, ?_⟩))
    have h1 : (j == i) = false := by simpa using hji
    by_cases h2 : j + 1 = i
    · have h3 := y_nl_spec hp hj h2
      have h4 : (w.category == 2) = false := by simpa using h3
      simp [h1, h4]
    · have h4 : (j + 1 == i) = false := by simpa using h2
      simp [h1, h4]
theorem y_has_st2 {ls' : Array Slot} {lo : List (Option Value)} {i n : Nat} {v : Value} (hn : n = lo.length) (hi : i + 1 < lo.length) (hp : y_nl lo i = true)
    (h : lv_has ls' n ((i, v) :: (y_l lo).filter (fun q => !(q.1 == i) && (!(q.1 == i + 1) && !(q.1 + 1 == i && q.2.category == 2))))) : y_has ls' ((lo.set i (some v)).set (i + 1) none) := by
  refine ⟨by rw [List.length_set, List.length_set, ← hn]; exact h.1, h.2.1, fun j w hj => ?_⟩
  by_cases hji2 : j = i + 1
  · subst hji2
    rw [List.getElem?_set_self (by rw [List.length_set]; exact hi)] at hj
    cases hj
  rw [List.getElem?_set_ne (Ne.symm hji2)] at hj
  by_cases hji : j = i
  · subst hji
    rw [List.getElem?_set_self (by omega)] at hj
    cases hj
    exact h.2.2 (j, v) List.mem_cons_self
  · rw [List.getElem?_set_ne (Ne.symm hji)] at hj
    refine h.2.2 (j, w) (List.mem_cons_of_mem _ (List.mem_filter.mpr ⟨y_l_mem hj, ?_⟩))
    have h1 : (j == i) = false := by simpa using hji
    have h5 : (j == i + 1) = false := by simpa using hji2
    by_cases h2 : j + 1 = i
    · have h3 := y_nl_spec hp hj h2
      have h4 : (w.category == 2) = false := by simpa using h3
      simp [h1, h4, h5]
    · have h4 : (j + 1 == i) = false := by simpa using h2
      simp [h1, h4, h5]
/-- the slots with which a method begins -/
def y_ent : List Value → List (Option Value)
  | [] => []
  | v :: vs => if v.category = 2 then some v :: none :: y_ent vs else some v :: y_ent vs
theorem y_ent_len : ∀ vs : List Value, (y_ent vs).length = (lg_sl vs).length
  | [] => rfl
  | v :: vs => by
    have ih := y_ent_len vs
    simp only [lg_sl] at ih
    by_cases h : v.category = 2
    · simp [y_ent, lg_sl, h, ih]
    · simp [y_ent, lg_sl, h, ih]
theorem y_ent_args : ∀ (vs : List Value) (o i : Nat) (v : Value), (y_ent vs)[i]? = some (some v) → (o + i, v) ∈ lv_args o vs
  | [], o, i, v, h => by simp [y_ent] at h
  | u :: vs, o, i, v, h => by
    by_cases hc : u.category = 2
    · rw [y_ent, if_pos hc] at h
      rw [lv_args, if_pos hc]
      match i with
      | 0 => simp at h; subst h; exact List.mem_cons_self
      | 1 => simp at h
      | i + 2 =>
        have h' : (y_ent vs)[i]? = some (some v) := by simpa using h
        have := y_ent_args vs (o + 2) i v h'
        exact List.mem_cons_of_mem _ (by rw [show o + (i + 2) = o + 2 + i by omega]; exact this)
    · rw [y_ent, if_neg hc] at h
      rw [lv_args, if_neg hc]
      match i with
      | 0 => simp at h; subst h; exact List.mem_cons_self
      | i + 1 =>
        have h' : (y_ent vs)[i]? = some (some v) := by simpa using h
        have := y_ent_args vs (o + 1) i v h'
        exact List.mem_cons_of_mem _ (by rw [show o + (i + 1) = o + 1 + i by omega]; exact this)
theorem y_entry (vs : List Value) {n : Nat} {lo : List (Option Value)} (hlo : y_ent vs ++ List.replicate (n - (y_ent vs).length) none = lo) (h : (y_ent vs).length ≤ n) : y_has ((lg_sl vs ++ List.replicate (n - (lg_sl vs).length) Slot.unset).toArray) lo := by
  have h0 : (lg_sl vs).length ≤ n := by rw [← y_ent_len]; exact h
  obtain ⟨h1, h2, h3⟩ := lv_entry vs h0
  refine ⟨by rw [h1, ← hlo, List.length_append, List.length_replicate]; omega, h2, fun i v hi => ?_⟩
  rw [← hlo] at hi
  by_cases hl : i < (y_ent vs).length
  · rw [List.getElem?_append_left hl] at hi
    have := y_ent_args vs 0 i v hi
    rw [Nat.zero_add] at this
    exact h3 (i, v) this
  · rw [List.getElem?_append_right (by omega), List.getElem?_replicate] at hi
    split at hi <;> cases hi
/-! the judgement -/
/-- the tables' words that a callee may be given -/
def lw_gt : List Cond := lw_tbl.filter goodWord
/-- the world in which it ends, what is new so far, what may be new in all, what it may change -/
abbrev gU : Type := gE × Nat × Nat × Nat × Nat × (Nat → Prop)
abbrev gX : Type := Program × Jvm.Env × Room × State × MethodId × Array Value × List Frame × Method × Code × gU
def eSub (E0 E : gE) : Prop := E0.1 = E.1 ∧ E0.2.1 = E.2.1 ∧ eK E0 ≤ eK E ∧ ∀ k, k < eK E0 → eA E0 k = eA E k
theorem eSub.rf (E : gE) : eSub E E := ⟨rfl, rfl, Nat.le_refl _, fun _ _ => rfl⟩
theorem eSub.P {E0 E : gE} {g : Mem} {H : Heap} (h : eSub E0 E) (hP : gP E g H) : gP E0 g H := by
  obtain ⟨h1, h2, h3, h4⟩ := h
  intro k q hq
  obtain ⟨hk, rfl⟩ := gW_inv hq
  rw [h4 k hk, h1]
  exact hP k _ (gW_at (Nat.lt_of_lt_of_le hk h3))
def gQA (E : gE) (A : Nat → Prop) (post : Option Value → Mem → Prop) : Array Value → State → Outcome → State → Prop := fun _ st oc t => (∃ (v : Option Value) (g : Mem), oc = .returned v ∧ post v g ∧ gP E g t.heap) ∧ va_F A st t
def gQ (E : gE) (post : Option Value → Mem → Prop) : Array Value → State → Outcome → State → Prop := gQA E (gA E) post
/-- Y l E X post pc lo st g: from this place with these slots, this stack and this memory the method comes to its end with post -/
def Y (l : Launch) (E : gE) (X : gX) (post : Option Value → Mem → Prop) (pc : Nat) (lo : List (Option Value)) (st : List Value) (g : Mem) : Prop :=
  ∀ (H : Heap) (locs : List Loc) (ls : Array Slot), gP E g H → va_S X.2.2.2.2.2.2.2.2.2.2.2.2.2.2 X.2.2.2.1.heap H locs → y_has ls lo →
    W X.1 l X.2.1 X.2.2.1 X.2.2.2.1 X.2.2.2.2.1 X.2.2.2.2.2.1 X.2.2.2.2.2.2.1 X.2.2.2.2.2.2.2.1 X.2.2.2.2.2.2.2.2.1 H locs X.2.2.2.2.2.2.2.2.2.2.1 X.2.2.2.2.2.2.2.2.2.2.2.1 (MQ X.2.2.2.2.2.2.1 (gQA X.2.2.2.2.2.2.2.2.2.1 X.2.2.2.2.2.2.2.2.2.2.2.2.2.2 post) X.2.2.2.2.2.1 X.2.2.2.1 X.2.2.2.2.2.2.2.2.2.2.2.2.1 X.2.2.2.2.2.2.2.2.2.2.2.2.2.1 X.2.2.2.2.2.2.2.2.2.2.2.2.2.2) (F0 X.2.2.2.2.1 pc ls st)
/-- a nest mate's private method, as the class of glows names it -/
def gN (U : State) : Prop := va_Nw (.methodLinkNest RX0 30 yX5_mixed "PaletteTurns") U
/-- what holds all along a method: the machine, its bytes, its class, the tables' words, the classes, its room -/
def yC (l : Launch) (E : gE) (X : gX) (own : String) (cc : ByteArray) (nL : Nat) (ret : Option FieldType) (fr ll : Nat) : Prop :=
  X.1.tables.exec = Jvm.exec ∧ X.2.2.2.2.2.2.2.2.1.code = cc ∧ X.2.2.2.2.2.2.2.2.1.maxLocals = nL ∧ X.2.2.2.1.vm.findClass own = some X.2.2.2.2.1.cls ∧ (∀ w ∈ lw_gt, w.before X.2.2.2.2.2.1 X.2.2.2.1 = true) ∧
  va_K E.1 gC (eTys E) X.2.2.2.1 ∧ eOk E ∧ X.2.2.2.2.2.2.2.1.locks = false ∧ X.2.2.2.2.2.2.2.1.sig.returnType = ret ∧ X.2.2.1.frames = fr ∧ X.2.2.1.locals = ll ∧ gN X.2.2.2.1 ∧
  (∀ q, gA E q → X.2.2.2.2.2.2.2.2.2.2.2.2.2.2 q) ∧ eSub X.2.2.2.2.2.2.2.2.2.1 E ∧ X.2.2.1.cells = X.2.2.2.2.2.2.2.2.2.2.2.2.1 ∧ X.2.2.1.slots = X.2.2.2.2.2.2.2.2.2.2.2.2.2.1 ∧ X.2.2.2.2.2.2.2.2.2.2.1 ≤ X.2.2.1.cells ∧ X.2.2.2.2.2.2.2.2.2.2.2.1 ≤ X.2.2.1.slots
/-- a method's contract: from the memory g with the arguments av it returns, with post; at most mc cells of ms slots are new, A may change -/
def Mta (l : Launch) (E : gE) (A : Nat → Prop) (y : MethodName) (cc : ByteArray) (nL : Nat) (ret : Option FieldType) (fr ll mc ms : Nat) (av : List Value) (g : Mem) (post : Option Value → Mem → Prop) : Prop :=
  Met l y (.code y cc nL ret :: lw_gt) { frames := fr, cells := mc, slots := ms, locals := ll } (va_Pc av (fun U => gP E g U.heap ∧ va_K E.1 gC (eTys E) U ∧ eOk E ∧ gN U)) (gQA E A post) mc ms A
def Mt (l : Launch) (E : gE) (y : MethodName) (cc : ByteArray) (nL : Nat) (ret : Option FieldType) (fr ll : Nat) (av : List Value) (g : Mem) (post : Option Value → Mem → Prop) : Prop :=
  Met l y (.code y cc nL ret :: lw_gt) { frames := fr, cells := 0, slots := 0, locals := ll } (va_Pc av (fun U => gP E g U.heap ∧ va_K E.1 gC (eTys E) U ∧ eOk E ∧ gN U)) (gQ E post) 0 0 (gA E)
def pI (post : Int32 → Mem → Prop) : Option Value → Mem → Prop := fun v g => ∃ r : Int32, v = some (.int r) ∧ post r g
def pL (post : Int64 → Mem → Prop) : Option Value → Mem → Prop := fun v g => ∃ r : Int64, v = some (.long r) ∧ post r g
def pV (post : Mem → Prop) : Option Value → Mem → Prop := fun v g => v = none ∧ post g
/-- an answer that is a cell of this world, or null -/
def rfo (E : gE) (o : Option Nat) : Value := va_rf (o.map (eA E))
def pR (E : gE) (post : Option Nat → Mem → Prop) : Option Value → Mem → Prop := fun v g => ∃ o : Option Nat, v = some (rfo E o) ∧ post o g
theorem lw_good {y : MethodName} {cc : ByteArray} {nL : Nat} {ret : Option FieldType} (h : Cond.code y cc nL ret ∈ lw_gt) : GoodIn lw_gt (.code y cc nL ret :: lw_gt) := by
  intro w hw
  have hw' : w ∈ lw_gt := by
    rcases List.mem_cons.mp hw with rfl | hw
    · exact h
    · exact hw
  exact ⟨hw', good_of_word (List.mem_filter.mp hw').2⟩
theorem lw_g {w : Cond} (h : w ∈ lw_tbl) (hg : goodWord w = true) : w ∈ lw_gt := List.mem_filter.mpr ⟨h, hg⟩
theorem mta_go {l : Launch} {E : gE} {A : Nat → Prop} {y : MethodName} {cc : ByteArray} {nL : Nat} {ret : Option FieldType} {fr ll mc ms : Nat} {av : List Value} {g : Mem} {post : Option Value → Mem → Prop} {own : String} (hy : plainName y.cls = true) (hown : y.cls = own) (hA : ∀ q, gA E q → A q) {lo : List (Option Value)}
    (hlo : y_ent av ++ List.replicate (nL - (y_ent av).length) none = lo) (hn : (y_ent av).length ≤ nL)
    (body : ∀ (p : Program) (e : Jvm.Env) (R : Room) (s : State) (m : MethodId) (args : Array Value) (below : List Frame) (meth : Method) (c : Code), (∀ H, gP E g H → H = s.heap → yC l E (p, e, R, s, m, args, below, meth, c, E, 0, 0, mc, ms, A) own cc nL ret fr ll → Y l E (p, e, R, s, m, args, below, meth, c, E, 0, 0, mc, ms, A) post 0 lo [] g)) : Mta l E A y cc nL ret fr ll mc ms av g post := by
  refine Met.ofW (cc := cc) (maxL := nL) (ret := ret) hy rfl ?_
  intro p e s m args below meth c s₁ B hml hv
  obtain ⟨rfl, hP, hK, hE, hN⟩ := hv
  have hx := B.exec
  have hb := B.bytes
  have hr := B.returns
  have hts0 := atoms_spec (ws := .code y cc nL ret :: lw_gt) B.pre
  have hts : ∀ w ∈ lw_gt, w.before av.toArray s = true := fun w hw => hts0 w (List.mem_cons_of_mem _ hw)
  have hown2 : s.vm.findClass own = some m.cls := by rw [← hown]; exact findClass_of_methodNamed B.named
  have hlocks := B.notSynchronized
  rw [lg_entry_eq]
  exact body p e (headSpec (Cond.code y cc nL ret :: lw_gt) { frames := fr, cells := mc, slots := ms, locals := ll }).room s m av.toArray below meth c s.heap hP rfl ⟨hx, hb, hml, hown2, hts, hK, hE, hlocks, hr, rfl, rfl, hN, hA, eSub.rf E, rfl, rfl, Nat.zero_le _, Nat.zero_le _⟩ s.heap [] _ hP va_S.rf (y_entry av hlo hn)
theorem mt_go {l : Launch} {E : gE} {y : MethodName} {cc : ByteArray} {nL : Nat} {ret : Option FieldType} {fr ll : Nat} {av : List Value} {g : Mem} {post : Option Value → Mem → Prop} {own : String} (hy : plainName y.cls = true) (hown : y.cls = own) {lo : List (Option Value)}
    (hlo : y_ent av ++ List.replicate (nL - (y_ent av).length) none = lo) (hn : (y_ent av).length ≤ nL)
    (body : ∀ X : gX, yC l E X own cc nL ret fr ll → Y l E X post 0 lo [] g) : Mt l E y cc nL ret fr ll av g post :=
  mta_go (A := gA E) (mc := 0) (ms := 0) hy hown (fun _ h => h) hlo hn (fun p e R s m args below meth c _ _ _ hC => body _ hC)
