/-! ===== the law: a cell of the script ===== -/
section YC
variable {l : Launch} {E : gE} {X : gX} {own : String} {cc : ByteArray} {nL : Nat} {ret : Option FieldType} {fr ll : Nat} {post : Option Value → Mem → Prop} {pc : Nat} {lo lo' : List (Option Value)} {st : List Value} {g : Mem}
theorem y_aload_nr (hC : yC l E X own cc nL ret fr ll) {k : Fin 4} {i a : Nat} (hd : decode cc pc = .ok (.aload_n k, 1)) (hi : (k : Nat) = i) (ho : lo[i]? = some (some (.ref a))) (kk : Y l E X post (pc + 1) lo (.ref a :: st) g) : Y l E X post pc lo st g := by
  obtain ⟨p, e, R, s, m, args, below, meth, c, E0, k0, s0, mc, ms, A⟩ := X
  obtain ⟨hx, hb, hml, hown, hts, hK, hE, hlk, hr, hfr, hll, hN, hA, hE0, hmc, hms, hk0, hs0⟩ := hC
  intro H locs ls hP hS hl
  exact lv_aload_n hx hb hd hi (hl.2.2 _ _ ho) (kk H locs ls hP hS hl)
end YC
theorem dL_cell_0 : decode cL_cell 0 = .ok (.iload_n 1, 1) := by decide +kernel
theorem dL_cell_1 : decode cL_cell 1 = .ok (.aload_n 0, 1) := by decide +kernel
theorem dL_cell_2 : decode cL_cell 2 = .ok (.arraylength, 1) := by decide +kernel
theorem dL_cell_3 : decode cL_cell 3 = .ok (.if_icmp .ge 9, 3) := by decide +kernel
theorem dL_cell_6 : decode cL_cell 6 = .ok (.aload_n 0, 1) := by decide +kernel
theorem dL_cell_7 : decode cL_cell 7 = .ok (.iload_n 1, 1) := by decide +kernel
theorem dL_cell_8 : decode cL_cell 8 = .ok (.iaload, 1) := by decide +kernel
theorem dL_cell_9 : decode cL_cell 9 = .ok (.goto 9, 3) := by decide +kernel
theorem dL_cell_12 : decode cL_cell 12 = .ok (.ldc 7, 2) := by decide +kernel
theorem dL_cell_14 : decode cL_cell 14 = .ok (.iload_n 1, 1) := by decide +kernel
theorem dL_cell_15 : decode cL_cell 15 = .ok (.iconst 1, 1) := by decide +kernel
theorem dL_cell_16 : decode cL_cell 16 = .ok (.iadd, 1) := by decide +kernel
theorem dL_cell_17 : decode cL_cell 17 = .ok (.imul, 1) := by decide +kernel
theorem dL_cell_18 : decode cL_cell 18 = .ok (.ireturn, 1) := by decide +kernel
/-- a cell is some number; nothing changes -/
def zCq : Array Value → State → Outcome → State → Prop := fun _ st oc t => (∃ r : Int32, oc = .returned (some (.int r))) ∧ t.heap = st.heap
theorem c_L_cell (l : Launch) (bs L : Nat) (xs : Nat → Int32) (k : Nat) (hk : k < 1000) (hL : L ≤ 1000) : Met l yL_cell (.code yL_cell cL_cell 2 (some .int) :: lw_gt) { frames := 0, cells := 0, slots := 0, locals := 0 } (va_Pc [.ref bs, .int (nI k)] (fun U => va_X bs L xs U U.heap ∧ bs < U.heap.size)) zCq 0 0 (fun _ => False) := by
  refine Met.ofW (cc := cL_cell) (maxL := 2) (ret := some .int) (by decide) rfl ?_
  intro p e s m args below meth c s₁ B hml hv
  obtain ⟨rfl, hX, hbl⟩ := hv
  have hx := B.exec
  have hb := B.bytes
  have hr := B.returns
  have hts0 := atoms_spec (ws := .code yL_cell cL_cell 2 (some .int) :: lw_gt) B.pre
  have hts : ∀ w ∈ lw_gt, w.before [Value.ref bs, .int (nI k)].toArray s = true := fun w hw => hts0 w (List.mem_cons_of_mem _ hw)
  have hown : s.vm.findClass RXL = some m.cls := findClass_of_methodNamed B.named
  have hlocks := B.notSynchronized
  rw [lg_entry_eq]
  have hl := y_entry [Value.ref bs, .int (nI k)] (n := 2) (lo := [some (.ref bs), some (.int (nI k))]) rfl (Nat.le_of_ble_eq_true rfl)
  generalize (lg_sl [Value.ref bs, .int (nI k)] ++ List.replicate (2 - (lg_sl [Value.ref bs, .int (nI k)]).length) Slot.unset).toArray = ls at hl ⊢
  have hS : va_S (fun _ => False) s.heap s.heap [] := va_S.rf
  refine lv_iload_n hx hb dL_cell_0 (i := 1) rfl (hl.2.2 1 _ rfl) ?_
  refine lv_aload_n hx hb dL_cell_1 (i := 0) rfl (hl.2.2 0 _ rfl) ?_
  refine va_slen hx hb hX hbl (fun h => h) hS dL_cell_2 ?_
  refine lv_icmp_ge hx hb dL_cell_3 (tgt := 12) (by decide) (fun q => ?_) (fun q => ?_)
  · refine lv_ldc hx hb hown (hts _ cnXL_7) dL_cell_12 ?_
    refine lv_iload_n hx hb dL_cell_14 (i := 1) rfl (hl.2.2 1 _ rfl) ?_
    refine lv_iconst (v := nI 1) hx hb dL_cell_15 (by decide) ?_
    refine lv_iadd hx hb dL_cell_16 ?_
    refine lv_imul hx hb dL_cell_17 ?_
    exact W.iret hx hb hr (fun t ht _ => ⟨⟨_, rfl⟩, ht⟩) (fun _ h => by cases h) dL_cell_18 hlocks
  · have hkL : k < L := by
      have q2 : ¬ L ≤ k := fun z => q ((nI_leI (by omega) (by omega)).mpr z)
      omega
    refine lv_aload_n hx hb dL_cell_6 (i := 0) rfl (hl.2.2 0 _ rfl) ?_
    refine lv_iload_n hx hb dL_cell_7 (i := 1) rfl (hl.2.2 1 _ rfl) ?_
    refine va_sld hx hb hX hbl (fun h => h) hS (vp_in_nI hkL (by omega)) dL_cell_8 ?_
    refine lv_goto hx hb dL_cell_9 (tgt := 18) (by decide) ?_
    exact W.iret hx hb hr (fun t ht _ => ⟨⟨_, rfl⟩, ht⟩) (fun _ h => by cases h) dL_cell_18 hlocks
theorem y_callC {l : Launch} {E : gE} {X : gX} {own : String} {cc : ByteArray} {nL : Nat} {ret : Option FieldType} {fr ll : Nat} {post : Option Value → Mem → Prop} {pc : Nat} {lo : List (Option Value)} {rest : List Value} {g : Mem} (hC : yC l E X own cc nL ret fr ll) {idx bs L k : Nat} {xs : Nat → Int32} (hlink : Cond.methodLink own idx yL_cell ∈ lw_gt) (hd : decode cc pc = .ok (.invokestatic idx, 3))
    (hX : va_X bs L xs X.2.2.2.1 X.2.2.2.1.heap) (hbl : bs < X.2.2.2.1.heap.size) (hbA : ¬ X.2.2.2.2.2.2.2.2.2.2.2.2.2.2 bs) (hk : k < 1000) (hL : L ≤ 1000) (hnL : nL = lo.length) (hcat : (rest.map fun v => v.category).sum ≤ 8) (hroom : 1 ≤ fr ∧ 21 ≤ ll) (kk : ∀ r : Int32, Y l E X post (pc + 3) lo (.int r :: rest) g) : Y l E X post pc lo (.int (nI k) :: .ref bs :: rest) g := by
  obtain ⟨p, e, R, s, m, args, below, meth, c, E0, k0, s0, mc, ms, A⟩ := X
  obtain ⟨hx, hb, hml, hown, hts, hK, hE, hlk, hr, hfr, hll, hN, hA, hE0, hmc, hms, hk0, hs0⟩ := hC
  intro H locs ls hP hS hl
  obtain ⟨w3, w4, w6, w7⟩ := mL_cell
  have hXH : va_X bs L xs s H := hX.kept (hS.2.1 bs hbl hbA)
  have hblH : bs < H.size := Nat.lt_of_lt_of_le hbl hS.1
  have hrun := va_runS (e := e) (below := below) (meth := meth) (cells := k0) (slots := s0) (locs := locs) (mc := 0) (ms := 0) (index := idx) (n := 2) (As := [Value.ref bs, .int (nI k)]) (rest := rest) (free := fun _ => False) (Ts := lw_gt) (own := own) (nL := nL) (g := F0 m pc ls (.int (nI k) :: .ref bs :: rest)) (H := H) ⟨hx, hb, hml, hown, hts⟩ (c_L_cell l bs L xs k hk hL)
    ⟨callB_of 2 hts (lw_good w7) rfl rfl rfl (hts _ w6) (hts _ hlink) w3 ⟨by rw [hfr]; exact hroom.1, by rw [hll]; exact hroom.2⟩, hts _ w4⟩
    ⟨fun a U g mk q => by
      obtain ⟨q0, qX, qb⟩ := q
      exact ⟨q0, va_X.moved (u := U) (U := U.calling g mk a) (Vm.Alike.refl U.vm) qX, qb⟩, fun U hU hW => ⟨rfl, by rw [hU]; exact hXH.moved hW.alike, by rw [hU]; exact hblH⟩⟩ rfl rfl (hl.1.trans hnL.symm) rfl (lv_room hcat) hd ⟨hk0, hs0⟩
  intro T hT X9
  obtain ⟨v, st₀, t, T', Lc, h0, X', hLc, e1, e2, ⟨⟨r, hv⟩, hh⟩, st⟩ := hrun T hT X9
  cases hv
  have hTH : T'.heap = H := by rw [e1, hh, h0]
  obtain ⟨t2, a1, b1⟩ := kk r H (locs ++ Lc) ls hP ⟨hS.1, hS.2.1, fun q hq => by
    rcases List.mem_append.mp hq with h | h
    · exact hS.2.2 q h
    · exact absurd (hLc q h) (fun z => z)⟩ hl T' hTH X'
  exact ⟨t2, st t2 a1, b1⟩
theorem dL_law_0 : decode cL_law 0 = .ok (.new 32, 3) := by decide +kernel
theorem dL_law_3 : decode cL_law 3 = .ok (.dup, 1) := by decide +kernel
theorem dL_law_4 : decode cL_law 4 = .ok (.invokespecial 177, 3) := by decide +kernel
theorem dL_law_7 : decode cL_law 7 = .ok (.astore_n 1, 1) := by decide +kernel
theorem dL_law_8 : decode cL_law 8 = .ok (.bipush 32, 2) := by decide +kernel
theorem dL_law_10 : decode cL_law 10 = .ok (.newarray .int, 2) := by decide +kernel
theorem dL_law_12 : decode cL_law 12 = .ok (.astore_n 2, 1) := by decide +kernel
theorem dL_law_13 : decode cL_law 13 = .ok (.bipush 56, 2) := by decide +kernel
theorem dL_law_15 : decode cL_law 15 = .ok (.newarray .int, 2) := by decide +kernel
theorem dL_law_17 : decode cL_law 17 = .ok (.astore_n 3, 1) := by decide +kernel
theorem dL_law_18 : decode cL_law 18 = .ok (.bipush 20, 2) := by decide +kernel
theorem dL_law_20 : decode cL_law 20 = .ok (.newarray .int, 2) := by decide +kernel
theorem dL_law_22 : decode cL_law 22 = .ok (.astore 4, 2) := by decide +kernel
theorem dL_law_24 : decode cL_law 24 = .ok (.bipush 64, 2) := by decide +kernel
theorem dL_law_26 : decode cL_law 26 = .ok (.newarray .int, 2) := by decide +kernel
theorem dL_law_28 : decode cL_law 28 = .ok (.astore 5, 2) := by decide +kernel
theorem dL_law_30 : decode cL_law 30 = .ok (.aload_n 1, 1) := by decide +kernel
theorem dL_law_31 : decode cL_law 31 = .ok (.aload_n 3, 1) := by decide +kernel
theorem dL_law_32 : decode cL_law 32 = .ok (.aload 4, 2) := by decide +kernel
theorem dL_law_34 : decode cL_law 34 = .ok (.invokestatic 178, 3) := by decide +kernel
theorem dL_law_37 : decode cL_law 37 = .ok (.ifCond .eq 29, 3) := by decide +kernel
theorem dL_law_40 : decode cL_law 40 = .ok (.aload_n 1, 1) := by decide +kernel
theorem dL_law_41 : decode cL_law 41 = .ok (.aload_n 2, 1) := by decide +kernel
theorem dL_law_42 : decode cL_law 42 = .ok (.aload_n 3, 1) := by decide +kernel
theorem dL_law_43 : decode cL_law 43 = .ok (.aload 4, 2) := by decide +kernel
theorem dL_law_45 : decode cL_law 45 = .ok (.aload 5, 2) := by decide +kernel
theorem dL_law_47 : decode cL_law 47 = .ok (.invokestatic 182, 3) := by decide +kernel
theorem dL_law_50 : decode cL_law 50 = .ok (.ifCond .eq 16, 3) := by decide +kernel
theorem dL_law_53 : decode cL_law 53 = .ok (.aload_n 1, 1) := by decide +kernel
theorem dL_law_54 : decode cL_law 54 = .ok (.invokevirtual 85, 3) := by decide +kernel
theorem dL_law_57 : decode cL_law 57 = .ok (.lconst 1, 1) := by decide +kernel
theorem dL_law_58 : decode cL_law 58 = .ok (.lcmp, 1) := by decide +kernel
theorem dL_law_59 : decode cL_law 59 = .ok (.ifCond .ne 7, 3) := by decide +kernel
theorem dL_law_62 : decode cL_law 62 = .ok (.iconst 1, 1) := by decide +kernel
theorem dL_law_63 : decode cL_law 63 = .ok (.goto 4, 3) := by decide +kernel
theorem dL_law_66 : decode cL_law 66 = .ok (.iconst 0, 1) := by decide +kernel
theorem dL_law_67 : decode cL_law 67 = .ok (.istore 6, 2) := by decide +kernel
theorem dL_law_69 : decode cL_law 69 = .ok (.iconst 0, 1) := by decide +kernel
theorem dL_law_70 : decode cL_law 70 = .ok (.istore 7, 2) := by decide +kernel
theorem dL_law_72 : decode cL_law 72 = .ok (.iload 7, 2) := by decide +kernel
theorem dL_law_74 : decode cL_law 74 = .ok (.bipush 30, 2) := by decide +kernel
theorem dL_law_76 : decode cL_law 76 = .ok (.if_icmp .ge 172, 3) := by decide +kernel
theorem dL_law_79 : decode cL_law 79 = .ok (.iload 6, 2) := by decide +kernel
theorem dL_law_81 : decode cL_law 81 = .ok (.ifCond .eq 167, 3) := by decide +kernel
theorem dL_law_84 : decode cL_law 84 = .ok (.aload_n 0, 1) := by decide +kernel
theorem dL_law_85 : decode cL_law 85 = .ok (.iconst 2, 1) := by decide +kernel
theorem dL_law_86 : decode cL_law 86 = .ok (.iload 7, 2) := by decide +kernel
theorem dL_law_88 : decode cL_law 88 = .ok (.imul, 1) := by decide +kernel
theorem dL_law_89 : decode cL_law 89 = .ok (.invokestatic 186, 3) := by decide +kernel
theorem dL_law_92 : decode cL_law 92 = .ok (.istore 8, 2) := by decide +kernel
theorem dL_law_94 : decode cL_law 94 = .ok (.aload_n 0, 1) := by decide +kernel
theorem dL_law_95 : decode cL_law 95 = .ok (.iconst 2, 1) := by decide +kernel
theorem dL_law_96 : decode cL_law 96 = .ok (.iload 7, 2) := by decide +kernel
theorem dL_law_98 : decode cL_law 98 = .ok (.imul, 1) := by decide +kernel
theorem dL_law_99 : decode cL_law 99 = .ok (.iconst 1, 1) := by decide +kernel
theorem dL_law_100 : decode cL_law 100 = .ok (.iadd, 1) := by decide +kernel
theorem dL_law_101 : decode cL_law 101 = .ok (.invokestatic 186, 3) := by decide +kernel
theorem dL_law_104 : decode cL_law 104 = .ok (.istore 9, 2) := by decide +kernel
theorem dL_law_106 : decode cL_law 106 = .ok (.iload 7, 2) := by decide +kernel
theorem dL_law_108 : decode cL_law 108 = .ok (.iconst 3, 1) := by decide +kernel
theorem dL_law_109 : decode cL_law 109 = .ok (.if_icmp .ge 8, 3) := by decide +kernel
theorem dL_law_112 : decode cL_law 112 = .ok (.bipush 7, 2) := by decide +kernel
theorem dL_law_114 : decode cL_law 114 = .ok (.goto 47, 3) := by decide +kernel
theorem dL_law_117 : decode cL_law 117 = .ok (.iload 7, 2) := by decide +kernel
theorem dL_law_119 : decode cL_law 119 = .ok (.bipush 6, 2) := by decide +kernel
theorem dL_law_121 : decode cL_law 121 = .ok (.if_icmp .ge 7, 3) := by decide +kernel
theorem dL_law_124 : decode cL_law 124 = .ok (.iconst 0, 1) := by decide +kernel
theorem dL_law_125 : decode cL_law 125 = .ok (.goto 36, 3) := by decide +kernel
theorem dL_law_128 : decode cL_law 128 = .ok (.iload 7, 2) := by decide +kernel
theorem dL_law_130 : decode cL_law 130 = .ok (.bipush 6, 2) := by decide +kernel
theorem dL_law_132 : decode cL_law 132 = .ok (.if_icmp .ne 7, 3) := by decide +kernel
theorem dL_law_135 : decode cL_law 135 = .ok (.iconst 5, 1) := by decide +kernel
theorem dL_law_136 : decode cL_law 136 = .ok (.goto 25, 3) := by decide +kernel
theorem dL_law_139 : decode cL_law 139 = .ok (.iload 7, 2) := by decide +kernel
theorem dL_law_141 : decode cL_law 141 = .ok (.bipush 11, 2) := by decide +kernel
theorem dL_law_143 : decode cL_law 143 = .ok (.if_icmp .ge 8, 3) := by decide +kernel
theorem dL_law_146 : decode cL_law 146 = .ok (.bipush 10, 2) := by decide +kernel
theorem dL_law_148 : decode cL_law 148 = .ok (.goto 13, 3) := by decide +kernel
theorem dL_law_151 : decode cL_law 151 = .ok (.iload 8, 2) := by decide +kernel
theorem dL_law_153 : decode cL_law 153 = .ok (.bipush 17, 2) := by decide +kernel
theorem dL_law_155 : decode cL_law 155 = .ok (.ishr, 1) := by decide +kernel
theorem dL_law_156 : decode cL_law 156 = .ok (.bipush 16, 2) := by decide +kernel
theorem dL_law_158 : decode cL_law 158 = .ok (.invokestatic 64, 3) := by decide +kernel
theorem dL_law_161 : decode cL_law 161 = .ok (.istore 10, 2) := by decide +kernel
theorem dL_law_163 : decode cL_law 163 = .ok (.aload_n 1, 1) := by decide +kernel
theorem dL_law_164 : decode cL_law 164 = .ok (.aload_n 2, 1) := by decide +kernel
theorem dL_law_165 : decode cL_law 165 = .ok (.aload_n 3, 1) := by decide +kernel
theorem dL_law_166 : decode cL_law 166 = .ok (.aload 4, 2) := by decide +kernel
theorem dL_law_168 : decode cL_law 168 = .ok (.aload 5, 2) := by decide +kernel
theorem dL_law_170 : decode cL_law 170 = .ok (.iload 10, 2) := by decide +kernel
theorem dL_law_172 : decode cL_law 172 = .ok (.iload 8, 2) := by decide +kernel
theorem dL_law_174 : decode cL_law 174 = .ok (.iload 9, 2) := by decide +kernel
theorem dL_law_176 : decode cL_law 176 = .ok (.invokestatic 189, 3) := by decide +kernel
theorem dL_law_179 : decode cL_law 179 = .ok (.ifCond .eq 60, 3) := by decide +kernel
theorem dL_law_182 : decode cL_law 182 = .ok (.aload_n 1, 1) := by decide +kernel
theorem dL_law_183 : decode cL_law 183 = .ok (.aload_n 3, 1) := by decide +kernel
theorem dL_law_184 : decode cL_law 184 = .ok (.aload 4, 2) := by decide +kernel
theorem dL_law_186 : decode cL_law 186 = .ok (.invokestatic 178, 3) := by decide +kernel
theorem dL_law_189 : decode cL_law 189 = .ok (.ifCond .eq 50, 3) := by decide +kernel
theorem dL_law_192 : decode cL_law 192 = .ok (.aload_n 1, 1) := by decide +kernel
theorem dL_law_193 : decode cL_law 193 = .ok (.aload_n 2, 1) := by decide +kernel
theorem dL_law_194 : decode cL_law 194 = .ok (.aload_n 3, 1) := by decide +kernel
theorem dL_law_195 : decode cL_law 195 = .ok (.aload 4, 2) := by decide +kernel
theorem dL_law_197 : decode cL_law 197 = .ok (.aload 5, 2) := by decide +kernel
theorem dL_law_199 : decode cL_law 199 = .ok (.invokestatic 182, 3) := by decide +kernel
theorem dL_law_202 : decode cL_law 202 = .ok (.ifCond .eq 37, 3) := by decide +kernel
theorem dL_law_205 : decode cL_law 205 = .ok (.aload_n 1, 1) := by decide +kernel
theorem dL_law_206 : decode cL_law 206 = .ok (.aload_n 2, 1) := by decide +kernel
theorem dL_law_207 : decode cL_law 207 = .ok (.aload_n 3, 1) := by decide +kernel
theorem dL_law_208 : decode cL_law 208 = .ok (.aload 4, 2) := by decide +kernel
theorem dL_law_210 : decode cL_law 210 = .ok (.aload 5, 2) := by decide +kernel
theorem dL_law_212 : decode cL_law 212 = .ok (.iload 8, 2) := by decide +kernel
theorem dL_law_214 : decode cL_law 214 = .ok (.iconst 5, 1) := by decide +kernel
theorem dL_law_215 : decode cL_law 215 = .ok (.ishr, 1) := by decide +kernel
theorem dL_law_216 : decode cL_law 216 = .ok (.iload 9, 2) := by decide +kernel
theorem dL_law_218 : decode cL_law 218 = .ok (.ixor, 1) := by decide +kernel
theorem dL_law_219 : decode cL_law 219 = .ok (.invokestatic 193, 3) := by decide +kernel
theorem dL_law_222 : decode cL_law 222 = .ok (.ifCond .eq 17, 3) := by decide +kernel
theorem dL_law_225 : decode cL_law 225 = .ok (.aload_n 1, 1) := by decide +kernel
theorem dL_law_226 : decode cL_law 226 = .ok (.aload_n 3, 1) := by decide +kernel
theorem dL_law_227 : decode cL_law 227 = .ok (.aload 4, 2) := by decide +kernel
theorem dL_law_229 : decode cL_law 229 = .ok (.invokestatic 197, 3) := by decide +kernel
theorem dL_law_232 : decode cL_law 232 = .ok (.ifCond .eq 7, 3) := by decide +kernel
theorem dL_law_235 : decode cL_law 235 = .ok (.iconst 1, 1) := by decide +kernel
theorem dL_law_236 : decode cL_law 236 = .ok (.goto 4, 3) := by decide +kernel
theorem dL_law_239 : decode cL_law 239 = .ok (.iconst 0, 1) := by decide +kernel
theorem dL_law_240 : decode cL_law 240 = .ok (.istore 6, 2) := by decide +kernel
theorem dL_law_242 : decode cL_law 242 = .ok (.iinc 7 1, 3) := by decide +kernel
theorem dL_law_245 : decode cL_law 245 = .ok (.goto (-173), 3) := by decide +kernel
theorem dL_law_248 : decode cL_law 248 = .ok (.iload 6, 2) := by decide +kernel
theorem dL_law_250 : decode cL_law 250 = .ok (.ireturn, 1) := by decide +kernel
set_option maxHeartbeats 4000000 in
set_option maxRecDepth 100000 in
theorem w_turn (l : Launch) (X : gX) (G : va_G) (T : Nat → ClassId) (b bs L : Nat) (xs : Nat → Int32) (g : Mem) (S : AS) (c r h p : Nat → Int32) (hL : LWP (zE G T b 100) (zE G T b 104) g S c r h p) (B M : Nat) (hB : B ≤ 8000000) (hM : M ≤ 80000000) (hI : IV S c r h p B M) (i : Nat) (hi : i < 30) (hXX : va_X bs L xs X.2.2.2.1 X.2.2.2.1.heap) (hbl : bs < X.2.2.2.1.heap.size) (hbA : ¬ X.2.2.2.2.2.2.2.2.2.2.2.2.2.2 bs) (hLL : L ≤ 1000) (hXA : ∀ q, zA b q → X.2.2.2.2.2.2.2.2.2.2.2.2.2.2 q) (hxc : X.2.2.2.2.2.2.2.2.2.2.1 + 1 + 2 ≤ X.2.2.2.2.2.2.2.2.2.2.2.2.1 ∧ X.2.2.2.2.2.2.2.2.2.2.2.1 + 64 + 76 ≤ X.2.2.2.2.2.2.2.2.2.2.2.2.2.1) (kk : ∀ (g' : Mem) (S' : AS) (c' r' h' p' : Nat → Int32), LWP (zE G T b 100) (zE G T b 104) g' S' c' r' h' p' → IV S' c' r' h' p' (B + 100000) (M + 1000) → yC l (zE G T b 104) (xbump (xbump X 1 64) 2 76) RXL cL_law 11 (some .boolean) 11 440 → Y l (zE G T b 104) (xbump (xbump X 1 64) 2 76) (pI (fun z g' => z = nI 1)) 72 [some (.ref bs), some (rf (zE G T b 104) (0)), some (rf (zE G T b 104) (100)), some (rf (zE G T b 104) (101)), some (rf (zE G T b 104) (102)), some (rf (zE G T b 104) (103)), some (.int (nI (1))), some (.int (nI (i + 1))), none, none, none] [] g') (hC : yC l (zE G T b 104) X RXL cL_law 11 (some .boolean) 11 440) : Y l (zE G T b 104) X (pI (fun z g' => z = nI 1)) 72 [some (.ref bs), some (rf (zE G T b 104) (0)), some (rf (zE G T b 104) (100)), some (rf (zE G T b 104) (101)), some (rf (zE G T b 104) (102)), some (rf (zE G T b 104) (103)), some (.int (nI (1))), some (.int (nI (i))), none, none, none] [] g := by
  refine y_iload hC dL_law_72 rfl ?_
  refine y_bipush (v := nI 30) hC dL_law_74 (by decide) ?_
  refine y_icmp_ge_n (tgt := 248) hC dL_law_76 (by decide) (by omega) (by omega) (fun c_76 => ?_) (fun c_76 => ?_)
  · exfalso
    omega
  · refine y_iload hC dL_law_79 rfl ?_
    refine y_if_eq_n (tgt := 248) hC dL_law_81 (by decide) (by omega) (fun c_81 => ?_) (fun c_81 => ?_)
    · exfalso
      omega
    · refine y_aload_nr hC dL_law_84 (i := 0) rfl rfl ?_
      refine y_iconst (v := nI 2) hC dL_law_85 (by decide) ?_
      refine y_iload hC dL_law_86 rfl ?_
      refine y_imul_n hC dL_law_88 ?_
      refine y_callC hC kXL_186 dL_law_89 (k := 2 * i) hXX hbl hbA (by omega) hLL rfl (Nat.le_of_ble_eq_true rfl) ⟨Nat.le_of_ble_eq_true rfl, Nat.le_of_ble_eq_true rfl⟩ (fun x_89 => ?_)
      refine y_istore hC dL_law_92 (Nat.le_of_ble_eq_true rfl) rfl (lo' := [some (.ref bs), some (rf (zE G T b 104) (0)), some (rf (zE G T b 104) (100)), some (rf (zE G T b 104) (101)), some (rf (zE G T b 104) (102)), some (rf (zE G T b 104) (103)), some (.int (nI (1))), some (.int (nI (i))), some (.int (x_89)), none, none]) rfl ?_
      refine y_aload_nr hC dL_law_94 (i := 0) rfl rfl ?_
      refine y_iconst (v := nI 2) hC dL_law_95 (by decide) ?_
      refine y_iload hC dL_law_96 rfl ?_
      refine y_imul_n hC dL_law_98 ?_
      refine y_iconst (v := nI 1) hC dL_law_99 (by decide) ?_
      refine y_iadd_n hC dL_law_100 ?_
      refine y_callC hC kXL_186 dL_law_101 (k := (2 * i) + 1) hXX hbl hbA (by omega) hLL rfl (Nat.le_of_ble_eq_true rfl) ⟨Nat.le_of_ble_eq_true rfl, Nat.le_of_ble_eq_true rfl⟩ (fun x_101 => ?_)
      refine y_istore hC dL_law_104 (Nat.le_of_ble_eq_true rfl) rfl (lo' := [some (.ref bs), some (rf (zE G T b 104) (0)), some (rf (zE G T b 104) (100)), some (rf (zE G T b 104) (101)), some (rf (zE G T b 104) (102)), some (rf (zE G T b 104) (103)), some (.int (nI (1))), some (.int (nI (i))), some (.int (x_89)), some (.int (x_101)), none]) rfl ?_
      have J_161 : ∀ kd : Nat, kd < 16 → Y l (zE G T b 104) X (pI (fun z g' => z = nI 1)) 161 [some (.ref bs), some (rf (zE G T b 104) (0)), some (rf (zE G T b 104) (100)), some (rf (zE G T b 104) (101)), some (rf (zE G T b 104) (102)), some (rf (zE G T b 104) (103)), some (.int (nI (1))), some (.int (nI (i))), some (.int (x_89)), some (.int (x_101)), none] [.int (nI (kd))] g := by
        intro kd hkd
        refine y_istore hC dL_law_161 (Nat.le_of_ble_eq_true rfl) rfl (lo' := [some (.ref bs), some (rf (zE G T b 104) (0)), some (rf (zE G T b 104) (100)), some (rf (zE G T b 104) (101)), some (rf (zE G T b 104) (102)), some (rf (zE G T b 104) (103)), some (.int (nI (1))), some (.int (nI (i))), some (.int (x_89)), some (.int (x_101)), some (.int (nI (kd)))]) rfl ?_
        refine y_aload_n hC dL_law_163 (i := 1) rfl rfl ?_
        refine y_aload_n hC dL_law_164 (i := 2) rfl rfl ?_
        refine y_aload_n hC dL_law_165 (i := 3) rfl rfl ?_
        refine y_aload hC dL_law_166 rfl ?_
        refine y_aload hC dL_law_168 rfl ?_
        refine y_iload hC dL_law_170 rfl ?_
        refine y_iload hC dL_law_172 rfl ?_
        refine y_iload hC dL_law_174 rfl ?_
        refine y_callSA hC mL_acts kXL_189 dL_law_176 (As := [rf (zE G T b 104) (0), rf (zE G T b 104) (100), rf (zE G T b 104) (101), rf (zE G T b 104) (102), rf (zE G T b 104) (103), .int (nI (kd)), .int (x_89), .int (x_101)]) (rest := []) (c_L_acts l G T b g S c r h p hL B M (by omega) (by omega) hI (kd) hkd (x_89) (x_101)) hXA ⟨Nat.le_trans (Nat.le_add_right _ 2) hxc.1, Nat.le_trans (Nat.le_add_right _ 76) hxc.2⟩ rfl rfl rfl (Nat.le_of_ble_eq_true rfl) ⟨Nat.le_of_ble_eq_true rfl, Nat.le_of_ble_eq_true rfl⟩ (pksa_i ?_)
        rintro r_176 g_176 ⟨hr_176, S2, c2, r2, h2, p2, hL2, hI2⟩ hC
        rw [hr_176]
        clear hr_176 r_176
        obtain ⟨ho2, ⟨a2, K2, hq2⟩, hg2, hcl2, hvc2, hpi2⟩ := id hI2
        refine y_if_eq_n (tgt := 239) hC dL_law_179 (by decide) (by omega) (fun c_179 => ?_) (fun c_179 => ?_)
        · exfalso
          omega
        · refine y_aload_n hC dL_law_182 (i := 1) rfl rfl ?_
          refine y_aload_n hC dL_law_183 (i := 3) rfl rfl ?_
          refine y_aload hC dL_law_184 rfl ?_
          refine y_callS hC mL_areRanges kXL_178 dL_law_186 (As := [rf (zE G T b 104) (0), rf (zE G T b 104) (101), rf (zE G T b 104) (102)]) (rest := []) (c_L_areRanges l (zE G T b 104) g_176 (zE G T b 100) S2 c2 r2 h2 p2 hL2 (B + 100000) (M + 1000) (by omega) (by omega) ho2 a2 K2 hq2 hg2) rfl rfl rfl (Nat.le_of_ble_eq_true rfl) ⟨Nat.le_of_ble_eq_true rfl, Nat.le_of_ble_eq_true rfl⟩ (pk_i ?_)
          rintro r_186 g_186 ⟨hr_186, hL_186⟩
          rw [hr_186]
          clear hr_186 r_186
          refine y_if_eq_n (tgt := 239) hC dL_law_189 (by decide) (by omega) (fun c_189 => ?_) (fun c_189 => ?_)
          · exfalso
            omega
          · refine y_aload_n hC dL_law_192 (i := 1) rfl rfl ?_
            refine y_aload_n hC dL_law_193 (i := 2) rfl rfl ?_
            refine y_aload_n hC dL_law_194 (i := 3) rfl rfl ?_
            refine y_aload hC dL_law_195 rfl ?_
            refine y_aload hC dL_law_197 rfl ?_
            refine y_callS hC mL_isPicture kXL_182 dL_law_199 (As := [rf (zE G T b 104) (0), rf (zE G T b 104) (100), rf (zE G T b 104) (101), rf (zE G T b 104) (102), rf (zE G T b 104) (103)]) (rest := []) (c_L_isPicture l (zE G T b 104) g_186 (zE G T b 100) S2 c2 r2 h2 p2 hL_186 (B + 100000) (M + 1000) (by omega) (by omega) ho2 a2 K2 hq2 hg2 hcl2 hvc2 hpi2) rfl rfl rfl (Nat.le_of_ble_eq_true rfl) ⟨Nat.le_of_ble_eq_true rfl, Nat.le_of_ble_eq_true rfl⟩ (pk_i ?_)
            rintro r_199 g_199 ⟨hr_199, hL_199⟩
            rw [hr_199]
            clear hr_199 r_199
            refine y_if_eq_n (tgt := 239) hC dL_law_202 (by decide) (by omega) (fun c_202 => ?_) (fun c_202 => ?_)
            · exfalso
              omega
            · refine y_aload_n hC dL_law_205 (i := 1) rfl rfl ?_
              refine y_aload_n hC dL_law_206 (i := 2) rfl rfl ?_
              refine y_aload_n hC dL_law_207 (i := 3) rfl rfl ?_
              refine y_aload hC dL_law_208 rfl ?_
              refine y_aload hC dL_law_210 rfl ?_
              refine y_iload hC dL_law_212 rfl ?_
              refine y_iconst (v := nI 5) hC dL_law_214 (by decide) ?_
              refine y_ishr hC dL_law_215 ?_
              refine y_iload hC dL_law_216 rfl ?_
              refine y_ixor hC dL_law_218 ?_
              refine y_callSA hC mL_would kXL_193 dL_law_219 (As := [rf (zE G T b 104) (0), rf (zE G T b 104) (100), rf (zE G T b 104) (101), rf (zE G T b 104) (102), rf (zE G T b 104) (103), .int (((x_89) >>> (nI (5) &&& 31)) ^^^ (x_101))]) (rest := []) (c_L_would l G T b g_199 S2 c2 r2 h2 p2 hL_199 (B + 100000) (M + 1000) (by omega) (by omega) ho2 a2 K2 hq2 hg2 hcl2 hvc2 hpi2 ((((x_89) >>> (nI (5) &&& 31)) ^^^ (x_101)))) hXA ⟨hxc.1, hxc.2⟩ rfl rfl rfl (Nat.le_of_ble_eq_true rfl) ⟨Nat.le_of_ble_eq_true rfl, Nat.le_of_ble_eq_true rfl⟩ (pksa_i ?_)
              rintro r_219 g_219 ⟨hr_219, hL_219⟩ hC
              rw [hr_219]
              clear hr_219 r_219
              refine y_if_eq_n (tgt := 239) hC dL_law_222 (by decide) (by omega) (fun c_222 => ?_) (fun c_222 => ?_)
              · exfalso
                omega
              · refine y_aload_n hC dL_law_225 (i := 1) rfl rfl ?_
                refine y_aload_n hC dL_law_226 (i := 3) rfl rfl ?_
                refine y_aload hC dL_law_227 rfl ?_
                refine y_callS hC mL_isTurn kXL_197 dL_law_229 (As := [rf (zE G T b 104) (0), rf (zE G T b 104) (101), rf (zE G T b 104) (102)]) (rest := []) (c_L_isTurn l (zE G T b 104) g_219 (zE G T b 100) S2 c2 r2 h2 p2 hL_219 (B + 100000) (M + 1000) (by omega) (by omega) ho2 a2 K2 hq2 hg2) rfl rfl rfl (Nat.le_of_ble_eq_true rfl) ⟨Nat.le_of_ble_eq_true rfl, Nat.le_of_ble_eq_true rfl⟩ (pk_i ?_)
                rintro r_229 g_229 ⟨hr_229, hL_229⟩
                rw [hr_229]
                clear hr_229 r_229
                refine y_if_eq_n (tgt := 239) hC dL_law_232 (by decide) (by omega) (fun c_232 => ?_) (fun c_232 => ?_)
                · exfalso
                  omega
                · refine y_iconst (v := nI 1) hC dL_law_235 (by decide) ?_
                  refine y_goto (tgt := 240) hC dL_law_236 (by decide) ?_
                  refine y_istore hC dL_law_240 (Nat.le_of_ble_eq_true rfl) rfl (lo' := [some (.ref bs), some (rf (zE G T b 104) (0)), some (rf (zE G T b 104) (100)), some (rf (zE G T b 104) (101)), some (rf (zE G T b 104) (102)), some (rf (zE G T b 104) (103)), some (.int (nI (1))), some (.int (nI (i))), some (.int (x_89)), some (.int (x_101)), some (.int (nI (kd)))]) rfl ?_
                  refine y_iinc_n hC dL_law_242 (a := i) (k := 1) rfl (by decide) (Nat.le_of_ble_eq_true rfl) rfl (lo' := [some (.ref bs), some (rf (zE G T b 104) (0)), some (rf (zE G T b 104) (100)), some (rf (zE G T b 104) (101)), some (rf (zE G T b 104) (102)), some (rf (zE G T b 104) (103)), some (.int (nI (1))), some (.int (nI (i + 1))), some (.int (x_89)), some (.int (x_101)), some (.int (nI (kd)))]) rfl ?_
                  refine y_goto (tgt := 72) hC dL_law_245 (by decide) ?_
                  refine y_fg 8 (lo' := [some (.ref bs), some (rf (zE G T b 104) (0)), some (rf (zE G T b 104) (100)), some (rf (zE G T b 104) (101)), some (rf (zE G T b 104) (102)), some (rf (zE G T b 104) (103)), some (.int (nI (1))), some (.int (nI (i + 1))), none, some (.int (x_101)), some (.int (nI (kd)))]) rfl ?_
                  refine y_fg 9 (lo' := [some (.ref bs), some (rf (zE G T b 104) (0)), some (rf (zE G T b 104) (100)), some (rf (zE G T b 104) (101)), some (rf (zE G T b 104) (102)), some (rf (zE G T b 104) (103)), some (.int (nI (1))), some (.int (nI (i + 1))), none, none, some (.int (nI (kd)))]) rfl ?_
                  refine y_fg 10 (lo' := [some (.ref bs), some (rf (zE G T b 104) (0)), some (rf (zE G T b 104) (100)), some (rf (zE G T b 104) (101)), some (rf (zE G T b 104) (102)), some (rf (zE G T b 104) (103)), some (.int (nI (1))), some (.int (nI (i + 1))), none, none, none]) rfl ?_
                  exact kk _ _ _ _ _ _ hL_229 hI2 hC
      refine y_iload hC dL_law_106 rfl ?_
      refine y_iconst (v := nI 3) hC dL_law_108 (by decide) ?_
      refine y_icmp_ge_n (tgt := 117) hC dL_law_109 (by decide) (by omega) (by omega) (fun c_109 => ?_) (fun c_109 => ?_)
      · refine y_iload hC dL_law_117 rfl ?_
        refine y_bipush (v := nI 6) hC dL_law_119 (by decide) ?_
        refine y_icmp_ge_n (tgt := 128) hC dL_law_121 (by decide) (by omega) (by omega) (fun c_121 => ?_) (fun c_121 => ?_)
        · refine y_iload hC dL_law_128 rfl ?_
          refine y_bipush (v := nI 6) hC dL_law_130 (by decide) ?_
          refine y_icmp_ne_n (tgt := 139) hC dL_law_132 (by decide) (by omega) (by omega) (fun c_132 => ?_) (fun c_132 => ?_)
          · refine y_iload hC dL_law_139 rfl ?_
            refine y_bipush (v := nI 11) hC dL_law_141 (by decide) ?_
            refine y_icmp_ge_n (tgt := 151) hC dL_law_143 (by decide) (by omega) (by omega) (fun c_143 => ?_) (fun c_143 => ?_)
            · refine y_iload hC dL_law_151 rfl ?_
              refine y_bipush (v := nI 17) hC dL_law_153 (by decide) ?_
              refine y_ishr hC dL_law_155 ?_
              refine y_bipush (v := nI 16) hC dL_law_156 (by decide) ?_
              refine y_callS hC mL_low kXL_64 dL_law_158 (As := [.int ((x_89) >>> (nI (17) &&& 31)), .int (nI (16))]) (rest := []) (c_L_low l (zE G T b 104) g (((x_89) >>> (nI (17) &&& 31))) (16) (by omega) (by omega)) rfl rfl rfl (Nat.le_of_ble_eq_true rfl) ⟨Nat.le_of_ble_eq_true rfl, Nat.le_of_ble_eq_true rfl⟩ (pk_i ?_)
              rintro r_158 g_158 ⟨hr_158, hq_158⟩
              obtain rfl := hq_158.symm
              rw [hr_158]
              clear hr_158 r_158
              have hlw := lw_lt (x := x_89 >>> (nI 17 &&& 31)) (n := 16) (by decide)
              exact J_161 (lw (((x_89) >>> (nI (17) &&& 31))) (16)) (by omega)
            · refine y_bipush (v := nI 10) hC dL_law_146 (by decide) ?_
              refine y_goto (tgt := 161) hC dL_law_148 (by decide) ?_
              exact J_161 (10) (by omega)
          · refine y_iconst (v := nI 5) hC dL_law_135 (by decide) ?_
            refine y_goto (tgt := 161) hC dL_law_136 (by decide) ?_
            exact J_161 (5) (by omega)
        · refine y_iconst (v := nI 0) hC dL_law_124 (by decide) ?_
          refine y_goto (tgt := 161) hC dL_law_125 (by decide) ?_
          exact J_161 (0) (by omega)
      · refine y_bipush (v := nI 7) hC dL_law_112 (by decide) ?_
        refine y_goto (tgt := 161) hC dL_law_114 (by decide) ?_
        exact J_161 (7) (by omega)

