/-! ===== the law: fill ===== -/
/-- the pixels while they are painted -/
def prF (p : Nat → Int32) (A : Nat → Bool) (z : Nat) : Nat → Int32 := fun j => if A j = true then nI z else p j
theorem prF_0 {p : Nat → Int32} {z : Nat} : prF p (fun _ => false) z = p := funext fun j => if_neg (fun h => by cases h)
theorem prF_s {p : Nat → Int32} {A : Nat → Bool} {z q : Nat} : upd (prF p A z) q (nI z) = prF p (va_up A q true) z := by
  funext j
  by_cases e : j = q
  · rw [e, pk_us]
    unfold prF
    rw [va_up_self, if_pos rfl]
  · rw [pk_un e]
    unfold prF
    rw [va_up_ne _ _ e]
theorem up_m {A : Nat → Bool} {q j : Nat} (h : A j = true) : va_up A q true j = true := by
  by_cases e : j = q
  · rw [e, va_up_self]
  · rw [va_up_ne _ _ e]; exact h
/-- the neighbour on one of four ways -/
def nb (c w q : Nat) : Prop := (w = 0 ∧ c % 8 + 1 < 8 ∧ q = c + 1) ∨ (w = 1 ∧ 0 < c % 8 ∧ q + 1 = c) ∨ (w = 2 ∧ c + 8 < 64 ∧ q = c + 8) ∨ (w = 3 ∧ 8 ≤ c ∧ q + 8 = c)
theorem adj_nb {c q : Nat} (h : adj c q) : ∃ w, w < 4 ∧ nb c w q := by
  unfold adj at h
  unfold nb
  rcases h with ⟨h1, h2⟩ | ⟨h1, h2⟩ | ⟨h1, h2⟩ | ⟨h1, h2⟩
  · exact ⟨1, by decide, by omega⟩
  · exact ⟨0, by decide, by omega⟩
  · exact ⟨3, by decide, by omega⟩
  · exact ⟨2, by decide, by omega⟩
theorem nb_adj {c w q : Nat} (h : nb c w q) : adj c q := by
  unfold nb at h
  unfold adj
  omega
theorem zdm0 {a : Nat} (h : a < 1000) (c : nI a + (-1) < 0) : a = 0 := by
  have e : (nI a + (-1)).toInt = (a : Int) - 1 := by
    have h1 : (-1 : Int32).toInt = -1 := by decide
    rw [zaddI (by rw [tI (by omega), h1]; omega) (by rw [tI (by omega), h1]; omega), tI (by omega), h1]
    omega
  rw [Int32.lt_iff_toInt_lt, e, show (0 : Int32).toInt = 0 from by decide] at c
  omega
theorem zdm1 {a : Nat} (h : a < 1000) (h0 : 0 < a) : nI a + (-1) = nI (a - 1) := by
  rw [show (-1 : Int32) = -nI 1 from by decide, ← Int32.sub_eq_add_neg]
  exact pk_sub (by omega)
theorem zdm2 {a : Nat} (h : a < 1000) (c : ¬ nI a + (-1) < 0) : 0 < a := by
  rcases Nat.eq_zero_or_pos a with e | e
  · rw [e] at c
    exact absurd (by decide) c
  · exact e
section QF
variable {S : AS} {k z : Nat}
theorem qf_5 (hk : k < 64) (hz : z < 32) (e : px S.r k = z) : qFill S (nI (k / 8)) (nI (k % 8)) (nI z) = (-5, S) := by
  unfold qFill
  rw [if_pos (by rw [tI (by omega), tI (by omega)]; omega), if_pos (by rw [tI (by omega)]; omega), nn_I (by omega), nn_I (by omega), nn_I (by omega), show 8 * (k / 8) + k % 8 = k by omega, if_pos e]
theorem qf_0 (hk : k < 64) (hz : z < 32) (e : ¬ px S.r k = z) : qFill S (nI (k / 8)) (nI (k % 8)) (nI z) = (nI (cn 64 (rcB S.r k)), S.rec.row (flR S.r (rcB S.r k) z)) := by
  unfold qFill
  rw [if_pos (by rw [tI (by omega), tI (by omega)]; omega), if_pos (by rw [tI (by omega)]; omega), nn_I (by omega), nn_I (by omega), nn_I (by omega), show 8 * (k / 8) + k % 8 = k by omega, if_neg e]
end QF
theorem fi_one {ρ : Row} {s : Nat} (hs : s < 64) : FI ρ s (va_up (fun _ => false) s true) (va_up (fun _ => 0) 0 s) 1 :=
  FI.add (n := 0) ⟨fun j hj => absurd hj (Nat.not_lt_zero j), fun i j hi => absurd hi (Nat.not_lt_zero i), fun p hp => by cases hp⟩ hs rfl (Rch.b s)
theorem fi_cl {ρ : Row} {s n : Nat} {A : Nat → Bool} {Q : Nat → Nat} (hI : FI ρ s A Q n) (hA : A s = true) (hcl : ∀ i, i < n → ∀ q, adj (Q i) q → px ρ q = px ρ s → A q = true) : ∀ p, p < 64 → A p = rcB ρ s p := by
  intro p hp
  have h1 : Rch ρ s p → A p = true := fun q => q.i (P := fun p => A p = true) hA (fun p q hp ha he => by
    obtain ⟨k1, k2, i, k3, k4⟩ := hI.2.2 p hp
    rw [← k4] at ha
    exact hcl i k3 q ha he)
  have h2 : A p = true → Rch ρ s p := fun q => (hI.2.2 p q).2.1
  cases e : A p with
  | true => exact (rcB_iff.mpr (h2 e)).symm
  | false =>
    cases e2 : rcB ρ s p with
    | false => rfl
    | true => rw [h1 (rcB_iff.mp e2)] at e; cases e
theorem dL_fills_0 : decode cL_fills 0 = .ok (.iload_n 3, 1) := by decide +kernel
theorem dL_fills_1 : decode cL_fills 1 = .ok (.bipush 6, 2) := by decide +kernel
theorem dL_fills_3 : decode cL_fills 3 = .ok (.invokestatic 64, 3) := by decide +kernel
theorem dL_fills_6 : decode cL_fills 6 = .ok (.istore 4, 2) := by decide +kernel
theorem dL_fills_8 : decode cL_fills 8 = .ok (.iload_n 2, 1) := by decide +kernel
theorem dL_fills_9 : decode cL_fills 9 = .ok (.bipush 64, 2) := by decide +kernel
theorem dL_fills_11 : decode cL_fills 11 = .ok (.invokestatic 64, 3) := by decide +kernel
theorem dL_fills_14 : decode cL_fills 14 = .ok (.istore 5, 2) := by decide +kernel
theorem dL_fills_16 : decode cL_fills 16 = .ok (.aload_n 1, 1) := by decide +kernel
theorem dL_fills_17 : decode cL_fills 17 = .ok (.iload 5, 2) := by decide +kernel
theorem dL_fills_19 : decode cL_fills 19 = .ok (.iaload, 1) := by decide +kernel
theorem dL_fills_20 : decode cL_fills 20 = .ok (.istore 6, 2) := by decide +kernel
theorem dL_fills_22 : decode cL_fills 22 = .ok (.iload 6, 2) := by decide +kernel
theorem dL_fills_24 : decode cL_fills 24 = .ok (.iload 4, 2) := by decide +kernel
theorem dL_fills_26 : decode cL_fills 26 = .ok (.if_icmp .ne 30, 3) := by decide +kernel
theorem dL_fills_29 : decode cL_fills 29 = .ok (.aload_n 0, 1) := by decide +kernel
theorem dL_fills_30 : decode cL_fills 30 = .ok (.iload 5, 2) := by decide +kernel
theorem dL_fills_32 : decode cL_fills 32 = .ok (.bipush 8, 2) := by decide +kernel
theorem dL_fills_34 : decode cL_fills 34 = .ok (.idiv, 1) := by decide +kernel
theorem dL_fills_35 : decode cL_fills 35 = .ok (.iload 5, 2) := by decide +kernel
theorem dL_fills_37 : decode cL_fills 37 = .ok (.bipush 8, 2) := by decide +kernel
theorem dL_fills_39 : decode cL_fills 39 = .ok (.irem, 1) := by decide +kernel
theorem dL_fills_40 : decode cL_fills 40 = .ok (.iload 4, 2) := by decide +kernel
theorem dL_fills_42 : decode cL_fills 42 = .ok (.invokevirtual 124, 3) := by decide +kernel
theorem dL_fills_45 : decode cL_fills 45 = .ok (.bipush (-5), 2) := by decide +kernel
theorem dL_fills_47 : decode cL_fills 47 = .ok (.if_icmp .ne 7, 3) := by decide +kernel
theorem dL_fills_50 : decode cL_fills 50 = .ok (.iconst 1, 1) := by decide +kernel
theorem dL_fills_51 : decode cL_fills 51 = .ok (.goto 4, 3) := by decide +kernel
theorem dL_fills_54 : decode cL_fills 54 = .ok (.iconst 0, 1) := by decide +kernel
theorem dL_fills_55 : decode cL_fills 55 = .ok (.ireturn, 1) := by decide +kernel
theorem dL_fills_56 : decode cL_fills 56 = .ok (.bipush 64, 2) := by decide +kernel
theorem dL_fills_58 : decode cL_fills 58 = .ok (.newarray .int, 2) := by decide +kernel
theorem dL_fills_60 : decode cL_fills 60 = .ok (.astore 7, 2) := by decide +kernel
theorem dL_fills_62 : decode cL_fills 62 = .ok (.iconst 1, 1) := by decide +kernel
theorem dL_fills_63 : decode cL_fills 63 = .ok (.istore 8, 2) := by decide +kernel
theorem dL_fills_65 : decode cL_fills 65 = .ok (.aload 7, 2) := by decide +kernel
theorem dL_fills_67 : decode cL_fills 67 = .ok (.iconst 0, 1) := by decide +kernel
theorem dL_fills_68 : decode cL_fills 68 = .ok (.iload 5, 2) := by decide +kernel
theorem dL_fills_70 : decode cL_fills 70 = .ok (.iastore, 1) := by decide +kernel
theorem dL_fills_71 : decode cL_fills 71 = .ok (.aload_n 1, 1) := by decide +kernel
theorem dL_fills_72 : decode cL_fills 72 = .ok (.iload 5, 2) := by decide +kernel
theorem dL_fills_74 : decode cL_fills 74 = .ok (.iload 4, 2) := by decide +kernel
theorem dL_fills_76 : decode cL_fills 76 = .ok (.iastore, 1) := by decide +kernel
theorem dL_fills_77 : decode cL_fills 77 = .ok (.iconst 0, 1) := by decide +kernel
theorem dL_fills_78 : decode cL_fills 78 = .ok (.istore 9, 2) := by decide +kernel
theorem dL_fills_80 : decode cL_fills 80 = .ok (.iload 9, 2) := by decide +kernel
theorem dL_fills_82 : decode cL_fills 82 = .ok (.iload 8, 2) := by decide +kernel
theorem dL_fills_84 : decode cL_fills 84 = .ok (.if_icmp .ge 154, 3) := by decide +kernel
theorem dL_fills_87 : decode cL_fills 87 = .ok (.iconst 0, 1) := by decide +kernel
theorem dL_fills_88 : decode cL_fills 88 = .ok (.istore 10, 2) := by decide +kernel
theorem dL_fills_90 : decode cL_fills 90 = .ok (.iload 10, 2) := by decide +kernel
theorem dL_fills_92 : decode cL_fills 92 = .ok (.iconst 4, 1) := by decide +kernel
theorem dL_fills_93 : decode cL_fills 93 = .ok (.if_icmp .ge 139, 3) := by decide +kernel
theorem dL_fills_96 : decode cL_fills 96 = .ok (.aload 7, 2) := by decide +kernel
theorem dL_fills_98 : decode cL_fills 98 = .ok (.iload 9, 2) := by decide +kernel
theorem dL_fills_100 : decode cL_fills 100 = .ok (.iaload, 1) := by decide +kernel
theorem dL_fills_101 : decode cL_fills 101 = .ok (.bipush 8, 2) := by decide +kernel
theorem dL_fills_103 : decode cL_fills 103 = .ok (.irem, 1) := by decide +kernel
theorem dL_fills_104 : decode cL_fills 104 = .ok (.iload 10, 2) := by decide +kernel
theorem dL_fills_106 : decode cL_fills 106 = .ok (.ifCond .ne 7, 3) := by decide +kernel
theorem dL_fills_109 : decode cL_fills 109 = .ok (.iconst 1, 1) := by decide +kernel
theorem dL_fills_110 : decode cL_fills 110 = .ok (.goto 14, 3) := by decide +kernel
theorem dL_fills_113 : decode cL_fills 113 = .ok (.iload 10, 2) := by decide +kernel
theorem dL_fills_115 : decode cL_fills 115 = .ok (.iconst 1, 1) := by decide +kernel
theorem dL_fills_116 : decode cL_fills 116 = .ok (.if_icmp .ne 7, 3) := by decide +kernel
theorem dL_fills_119 : decode cL_fills 119 = .ok (.iconst (-1), 1) := by decide +kernel
theorem dL_fills_120 : decode cL_fills 120 = .ok (.goto 4, 3) := by decide +kernel
theorem dL_fills_123 : decode cL_fills 123 = .ok (.iconst 0, 1) := by decide +kernel
theorem dL_fills_124 : decode cL_fills 124 = .ok (.iadd, 1) := by decide +kernel
theorem dL_fills_125 : decode cL_fills 125 = .ok (.istore 11, 2) := by decide +kernel
theorem dL_fills_127 : decode cL_fills 127 = .ok (.aload 7, 2) := by decide +kernel
theorem dL_fills_129 : decode cL_fills 129 = .ok (.iload 9, 2) := by decide +kernel
theorem dL_fills_131 : decode cL_fills 131 = .ok (.iaload, 1) := by decide +kernel
theorem dL_fills_132 : decode cL_fills 132 = .ok (.bipush 8, 2) := by decide +kernel
theorem dL_fills_134 : decode cL_fills 134 = .ok (.idiv, 1) := by decide +kernel
theorem dL_fills_135 : decode cL_fills 135 = .ok (.iload 10, 2) := by decide +kernel
theorem dL_fills_137 : decode cL_fills 137 = .ok (.iconst 2, 1) := by decide +kernel
theorem dL_fills_138 : decode cL_fills 138 = .ok (.if_icmp .ne 7, 3) := by decide +kernel
theorem dL_fills_141 : decode cL_fills 141 = .ok (.iconst 1, 1) := by decide +kernel
theorem dL_fills_142 : decode cL_fills 142 = .ok (.goto 14, 3) := by decide +kernel
theorem dL_fills_145 : decode cL_fills 145 = .ok (.iload 10, 2) := by decide +kernel
theorem dL_fills_147 : decode cL_fills 147 = .ok (.iconst 3, 1) := by decide +kernel
theorem dL_fills_148 : decode cL_fills 148 = .ok (.if_icmp .ne 7, 3) := by decide +kernel
theorem dL_fills_151 : decode cL_fills 151 = .ok (.iconst (-1), 1) := by decide +kernel
theorem dL_fills_152 : decode cL_fills 152 = .ok (.goto 4, 3) := by decide +kernel
theorem dL_fills_155 : decode cL_fills 155 = .ok (.iconst 0, 1) := by decide +kernel
theorem dL_fills_156 : decode cL_fills 156 = .ok (.iadd, 1) := by decide +kernel
theorem dL_fills_157 : decode cL_fills 157 = .ok (.istore 12, 2) := by decide +kernel
theorem dL_fills_159 : decode cL_fills 159 = .ok (.iload 11, 2) := by decide +kernel
theorem dL_fills_161 : decode cL_fills 161 = .ok (.ifCond .lt 65, 3) := by decide +kernel
theorem dL_fills_164 : decode cL_fills 164 = .ok (.iload 11, 2) := by decide +kernel
theorem dL_fills_166 : decode cL_fills 166 = .ok (.bipush 8, 2) := by decide +kernel
theorem dL_fills_168 : decode cL_fills 168 = .ok (.if_icmp .ge 58, 3) := by decide +kernel
theorem dL_fills_171 : decode cL_fills 171 = .ok (.iload 12, 2) := by decide +kernel
theorem dL_fills_173 : decode cL_fills 173 = .ok (.ifCond .lt 53, 3) := by decide +kernel
theorem dL_fills_176 : decode cL_fills 176 = .ok (.iload 12, 2) := by decide +kernel
theorem dL_fills_178 : decode cL_fills 178 = .ok (.bipush 8, 2) := by decide +kernel
theorem dL_fills_180 : decode cL_fills 180 = .ok (.if_icmp .ge 46, 3) := by decide +kernel
theorem dL_fills_183 : decode cL_fills 183 = .ok (.aload_n 1, 1) := by decide +kernel
theorem dL_fills_184 : decode cL_fills 184 = .ok (.bipush 8, 2) := by decide +kernel
theorem dL_fills_186 : decode cL_fills 186 = .ok (.iload 12, 2) := by decide +kernel
theorem dL_fills_188 : decode cL_fills 188 = .ok (.imul, 1) := by decide +kernel
theorem dL_fills_189 : decode cL_fills 189 = .ok (.iload 11, 2) := by decide +kernel
theorem dL_fills_191 : decode cL_fills 191 = .ok (.iadd, 1) := by decide +kernel
theorem dL_fills_192 : decode cL_fills 192 = .ok (.iaload, 1) := by decide +kernel
theorem dL_fills_193 : decode cL_fills 193 = .ok (.iload 6, 2) := by decide +kernel
theorem dL_fills_195 : decode cL_fills 195 = .ok (.if_icmp .ne 31, 3) := by decide +kernel
theorem dL_fills_198 : decode cL_fills 198 = .ok (.aload_n 1, 1) := by decide +kernel
theorem dL_fills_199 : decode cL_fills 199 = .ok (.bipush 8, 2) := by decide +kernel
theorem dL_fills_201 : decode cL_fills 201 = .ok (.iload 12, 2) := by decide +kernel
theorem dL_fills_203 : decode cL_fills 203 = .ok (.imul, 1) := by decide +kernel
theorem dL_fills_204 : decode cL_fills 204 = .ok (.iload 11, 2) := by decide +kernel
theorem dL_fills_206 : decode cL_fills 206 = .ok (.iadd, 1) := by decide +kernel
theorem dL_fills_207 : decode cL_fills 207 = .ok (.iload 4, 2) := by decide +kernel
theorem dL_fills_209 : decode cL_fills 209 = .ok (.iastore, 1) := by decide +kernel
theorem dL_fills_210 : decode cL_fills 210 = .ok (.aload 7, 2) := by decide +kernel
theorem dL_fills_212 : decode cL_fills 212 = .ok (.iload 8, 2) := by decide +kernel
theorem dL_fills_214 : decode cL_fills 214 = .ok (.bipush 8, 2) := by decide +kernel
theorem dL_fills_216 : decode cL_fills 216 = .ok (.iload 12, 2) := by decide +kernel
theorem dL_fills_218 : decode cL_fills 218 = .ok (.imul, 1) := by decide +kernel
theorem dL_fills_219 : decode cL_fills 219 = .ok (.iload 11, 2) := by decide +kernel
theorem dL_fills_221 : decode cL_fills 221 = .ok (.iadd, 1) := by decide +kernel
theorem dL_fills_222 : decode cL_fills 222 = .ok (.iastore, 1) := by decide +kernel
theorem dL_fills_223 : decode cL_fills 223 = .ok (.iinc 8 1, 3) := by decide +kernel
theorem dL_fills_226 : decode cL_fills 226 = .ok (.iinc 10 1, 3) := by decide +kernel
theorem dL_fills_229 : decode cL_fills 229 = .ok (.goto (-139), 3) := by decide +kernel
theorem dL_fills_232 : decode cL_fills 232 = .ok (.iinc 9 1, 3) := by decide +kernel
theorem dL_fills_235 : decode cL_fills 235 = .ok (.goto (-155), 3) := by decide +kernel
theorem dL_fills_238 : decode cL_fills 238 = .ok (.aload_n 0, 1) := by decide +kernel
theorem dL_fills_239 : decode cL_fills 239 = .ok (.iload 5, 2) := by decide +kernel
theorem dL_fills_241 : decode cL_fills 241 = .ok (.bipush 8, 2) := by decide +kernel
theorem dL_fills_243 : decode cL_fills 243 = .ok (.idiv, 1) := by decide +kernel
theorem dL_fills_244 : decode cL_fills 244 = .ok (.iload 5, 2) := by decide +kernel
theorem dL_fills_246 : decode cL_fills 246 = .ok (.bipush 8, 2) := by decide +kernel
theorem dL_fills_248 : decode cL_fills 248 = .ok (.irem, 1) := by decide +kernel
theorem dL_fills_249 : decode cL_fills 249 = .ok (.iload 4, 2) := by decide +kernel
theorem dL_fills_251 : decode cL_fills 251 = .ok (.invokevirtual 124, 3) := by decide +kernel
theorem dL_fills_254 : decode cL_fills 254 = .ok (.iload 8, 2) := by decide +kernel
theorem dL_fills_256 : decode cL_fills 256 = .ok (.if_icmp .ne 7, 3) := by decide +kernel
theorem dL_fills_259 : decode cL_fills 259 = .ok (.iconst 1, 1) := by decide +kernel
theorem dL_fills_260 : decode cL_fills 260 = .ok (.goto 4, 3) := by decide +kernel
theorem dL_fills_263 : decode cL_fills 263 = .ok (.iconst 0, 1) := by decide +kernel
theorem dL_fills_264 : decode cL_fills 264 = .ok (.ireturn, 1) := by decide +kernel
set_option maxHeartbeats 4000000 in
set_option maxRecDepth 100000 in
theorem w_fills2 (l : Launch) (E : gE) (X : gX) (Ec E1 : gE) (g : Mem) (S : AS) (c r h p : Nat → Int32) (hL : LWP Ec E g S c r h p) (hk5 : eK E = 105) (hs1 : eSub Ec E1) (hk1 : 104 ≤ eK E1) (ht1 : E1.2.1 = E.2.1) (B M : Nat) (hB : B ≤ 9000000) (hM : M ≤ 90000000) (hIV : IV S c r h p B M) (x y : Int32) (s z : Nat) (hs : s < 64) (hz : z < 32) (hzc : ¬ px S.r s = z) (w104 : Nat → Int32) (h104 : g 104 = aI E 0 64 w104) (hC : yC l E X RXL cL_fills 13 (some .boolean) 4 93) : Y l E X (pI (fun z g' => z = nI 1 ∧ ∃ (S' : AS) (c' r' h' p' : Nat → Int32), LWP Ec E1 g' S' c' r' h' p' ∧ IV S' c' r' h' p' (B + 100000) (M + 1000))) 62 [some (rf E (0)), some (rf E (103)), some (.int (x)), some (.int (y)), some (.int (nI (z))), some (.int (nI (s))), some (.int (nI (px S.r s))), some (rf E (104)), none, none, none, none, none] [] g := by
  obtain ⟨ho, ⟨a, K, hq⟩, hg, hcl0, hvc, hpi⟩ := id hIV
  have hv := ho.v
  have hpb := (hv.2.2.2.2.2.2.1 s hs).2
  have hcn64 := cn_le 64 (rcB S.r s)
  refine y_iconst (v := nI 1) hC dL_fills_62 (by decide) ?_
  refine y_istore hC dL_fills_63 (Nat.le_of_ble_eq_true rfl) rfl (lo' := [some (rf E (0)), some (rf E (103)), some (.int (x)), some (.int (y)), some (.int (nI (z))), some (.int (nI (s))), some (.int (nI (px S.r s))), some (rf E (104)), some (.int (nI (1))), none, none, none, none]) rfl ?_
  refine y_aload hC dL_fills_65 rfl ?_
  refine y_iconst (v := nI 0) hC dL_fills_67 (by decide) ?_
  refine y_iload hC dL_fills_68 rfl ?_
  refine y_iast hC dL_fills_70 (k := 104) (j := 0) (by omega) h104 (rfl) (by omega) (by decide) ?_
  have hL_70 := hL.ut (k := 104) (by decide) (aI E 0 64 (upd w104 (0) (nI (s))))
  have hx104_70 : (va_up g (104) (aI E 0 64 (upd w104 (0) (nI (s))))) 104 = _ := va_up_self _ _ _
  generalize (va_up g (104) (aI E 0 64 (upd w104 (0) (nI (s))))) = G_70 at hL_70 hx104_70 ⊢
  refine y_aload_n hC dL_fills_71 (i := 1) rfl rfl ?_
  refine y_iload hC dL_fills_72 rfl ?_
  refine y_iload hC dL_fills_74 rfl ?_
  refine y_iast hC dL_fills_76 (k := 103) (j := s) (by have := hL_70.k; omega) hL_70.a103 (rfl) (by omega) (by decide) ?_
  have hL_76 := hL_70.up (upd p (s) (nI (z)))
  have hx104_76 : (va_up G_70 (103) (aI E 0 64 (upd p (s) (nI (z))))) 104 = _ := (va_up_ne _ _ (by decide)).trans (hx104_70)
  generalize (va_up G_70 (103) (aI E 0 64 (upd p (s) (nI (z))))) = G_76 at hL_76 hx104_76 ⊢
  have hpr0 : upd p s (nI z) = prF p (va_up (fun _ => false) s true) z := by rw [← prF_s, prF_0]
  rw [show upd p (s) (nI (z)) = _ from hpr0] at hL_76
  refine y_iconst (v := nI 0) hC dL_fills_77 (by decide) ?_
  refine y_istore hC dL_fills_78 (Nat.le_of_ble_eq_true rfl) rfl (lo' := [some (rf E (0)), some (rf E (103)), some (.int (x)), some (.int (y)), some (.int (nI (z))), some (.int (nI (s))), some (.int (nI (px S.r s))), some (rf E (104)), some (.int (nI (1))), some (.int (nI (0))), none, none, none]) rfl ?_
  have L_80 : ∀ (m : Nat) (k n : Nat) (A : Nat → Bool) (Q : Nat → Nat) (wa : Nat → Int32) (gg : Mem), (hm : 64 - k < m) → (hk : k ≤ n) → (hL : LWP Ec E gg S c r h (prF p A z)) → (h104 : gg 104 = aI E 0 64 wa) → (hwa : ∀ j, j < n → wa j = nI (Q j)) → (hI : FI S.r s A Q n) → (hcl : ∀ i, i < k → ∀ q, adj (Q i) q → px S.r q = px S.r s → A q = true) → (hA : A s = true) → Y l E X (pI (fun z g' => z = nI 1 ∧ ∃ (S' : AS) (c' r' h' p' : Nat → Int32), LWP Ec E1 g' S' c' r' h' p' ∧ IV S' c' r' h' p' (B + 100000) (M + 1000))) 80 [some (rf E (0)), some (rf E (103)), some (.int (x)), some (.int (y)), some (.int (nI (z))), some (.int (nI (s))), some (.int (nI (px S.r s))), some (rf E (104)), some (.int (nI (n))), some (.int (nI (k))), none, none, none] [] gg := by
    intro m
    induction m with
    | zero => intro k n A Q wa gg hm hk hL h104 hwa hI hcl hA; exact absurd hm (Nat.not_lt_zero _)
    | succ m ih_80 =>
      intro k n A Q wa gg hm hk hL h104 hwa hI hcl hA
      have hnl0 := hI.le
      have hcl0b := cn_le 64 A
      refine y_iload hC dL_fills_80 rfl ?_
      refine y_iload hC dL_fills_82 rfl ?_
      refine y_icmp_ge_n (tgt := 238) hC dL_fills_84 (by decide) (by omega) (by omega) (fun c_84 => ?_) (fun c_84 => ?_)
      · obtain rfl : k = n := by omega
        have hRR := fi_cl hI hA hcl
        refine y_lo (lo' := [some (rf E (0)), some (rf E (103)), some (.int (x)), some (.int (y)), some (.int (nI (z))), some (.int (nI (s))), some (.int (nI (px S.r s))), some (rf E (104)), some (.int (nI (cn 64 (rcB S.r s)))), some (.int (nI (k))), none, none, none]) (by rw [← cn_cg hRR, ← hI.eq]) ?_
        refine y_aload_n hC dL_fills_238 (i := 0) rfl rfl ?_
        refine y_iload hC dL_fills_239 rfl ?_
        refine y_bipush (v := nI 8) hC dL_fills_241 (by decide) ?_
        refine y_idiv_n hC dL_fills_243 (by omega) (by omega) (by omega) ?_
        refine y_iload hC dL_fills_244 rfl ?_
        refine y_bipush (v := nI 8) hC dL_fills_246 (by decide) ?_
        refine y_irem_n hC dL_fills_248 (by omega) (by omega) (by omega) ?_
        refine y_iload hC dL_fills_249 rfl ?_
        refine y_callVF hC hL.s mX5_fill kXL_124 dL_fills_251 (b := 0) (As := [.int (nI ((s) / (8))), .int (nI ((s) % (8))), .int (nI (z))]) (rest := []) (CPm hL.cp (fun sh mk wa hcq => c_X5_fill l Ec gg S B (by omega) ho sh mk wa hcq (nI ((s) / (8))) (nI ((s) % (8))) (nI (z)))) hL.k0 hL.a0 rfl rfl rfl (Nat.le_of_ble_eq_true rfl) ⟨Nat.le_of_ble_eq_true rfl, Nat.le_of_ble_eq_true rfl⟩ (pkf_i ?_)
        rintro r_251 g_251 ⟨hr_251, hc_251⟩
        have he_251 := qf_0 (S := S) (k := s) (z := z) hs hz hzc
        rw [he_251] at hr_251 hc_251
        replace hr_251 : r_251 = nI (cn 64 (rcB S.r s)) := hr_251
        replace hc_251 : CP Ec g_251 (S.rec.row (flR S.r (rcB S.r s) z)) := hc_251
        rw [hr_251]
        clear hr_251 r_251
        have hL_251 := hL.call hc_251
        have hx104_251 := (mrg_hi (n := eK Ec) (g1 := g_251) (g := gg) (k := 104) (by rw [hL.kc]; decide)).trans (h104)
        generalize mrg (eK Ec) g_251 gg = G_251 at hL_251 hx104_251 ⊢
        refine y_iload hC dL_fills_254 rfl ?_
        refine y_icmp_ne_n (tgt := 263) hC dL_fills_256 (by decide) (by omega) (by omega) (fun c_256 => ?_) (fun c_256 => ?_)
        · exact absurd rfl c_256
        · refine y_iconst (v := nI 1) hC dL_fills_259 (by decide) ?_
          refine y_goto (tgt := 264) hC dL_fills_260 (by decide) ?_
          refine y_zret (hrt := rfl) (hn := rfl) (hC := hC) (hd := dL_fills_264) (hq := ?_)
          have hvr : OK (S.rec.row (flR S.r (rcB S.r s) z)) (B + 10000) := by
            have := ok_fill ho (nI (s / 8)) (nI (s % 8)) (nI z)
            rw [he_251] at this
            exact this
          exact ⟨rfl, _, _, _, _, _, hL_251.to hs1 hk1 ht1, (hIV.pi hvr (fun j hj => by
            rw [show px (S.rec.row (flR S.r (rcB S.r s) z)).r j = if rcB S.r s j = true then z else px S.r j from (flR_p hv hz hj).2]
            show prF p A z j = _
            unfold prF
            rw [hRR j hj]
            split
            · rfl
            · exact hpi j hj) (fun i hi => flR_o hi)).le (by omega) (by omega)⟩
      · have hkn : k < n := by omega
        obtain ⟨cc, hcce⟩ : ∃ cc, cc = Q k := ⟨_, rfl⟩
        have hcc : cc < 64 := by rw [hcce]; exact (hI.1 k hkn).1
        refine y_iconst (v := nI 0) hC dL_fills_87 (by decide) ?_
        refine y_istore hC dL_fills_88 (Nat.le_of_ble_eq_true rfl) rfl (lo' := [some (rf E (0)), some (rf E (103)), some (.int (x)), some (.int (y)), some (.int (nI (z))), some (.int (nI (s))), some (.int (nI (px S.r s))), some (rf E (104)), some (.int (nI (n))), some (.int (nI (k))), some (.int (nI (0))), none, none]) rfl ?_
        have L_90 : ∀ (m : Nat) (w n : Nat) (A : Nat → Bool) (Q : Nat → Nat) (wa : Nat → Int32) (gg : Mem), (hmw : 4 - w < m) → (hw : w ≤ 4) → (hkn : k < n) → (hL : LWP Ec E gg S c r h (prF p A z)) → (h104 : gg 104 = aI E 0 64 wa) → (hwa : ∀ j, j < n → wa j = nI (Q j)) → (hI : FI S.r s A Q n) → (hcl : ∀ i, i < k → ∀ q, adj (Q i) q → px S.r q = px S.r s → A q = true) → (hA : A s = true) → (hQk : Q k = cc) → (hws : ∀ w2, w2 < w → ∀ q, nb cc w2 q → px S.r q = px S.r s → A q = true) → Y l E X (pI (fun z g' => z = nI 1 ∧ ∃ (S' : AS) (c' r' h' p' : Nat → Int32), LWP Ec E1 g' S' c' r' h' p' ∧ IV S' c' r' h' p' (B + 100000) (M + 1000))) 90 [some (rf E (0)), some (rf E (103)), some (.int (x)), some (.int (y)), some (.int (nI (z))), some (.int (nI (s))), some (.int (nI (px S.r s))), some (rf E (104)), some (.int (nI (n))), some (.int (nI (k))), some (.int (nI (w))), none, none] [] gg := by
          intro m
          induction m with
          | zero => intro w n A Q wa gg hmw hw hkn hL h104 hwa hI hcl hA hQk hws; exact absurd hmw (Nat.not_lt_zero _)
          | succ m ih_90 =>
            intro w n A Q wa gg hmw hw hkn hL h104 hwa hI hcl hA hQk hws
            have hnl := hI.le
            have hcl0c := cn_le 64 A
            refine y_iload hC dL_fills_90 rfl ?_
            refine y_iconst (v := nI 4) hC dL_fills_92 (by decide) ?_
            refine y_icmp_ge_n (tgt := 232) hC dL_fills_93 (by decide) (by omega) (by omega) (fun c_93 => ?_) (fun c_93 => ?_)
            · obtain rfl : w = 4 := by omega
              refine y_iinc_n hC dL_fills_232 (a := k) (k := 1) rfl (by decide) (Nat.le_of_ble_eq_true rfl) rfl (lo' := [some (rf E (0)), some (rf E (103)), some (.int (x)), some (.int (y)), some (.int (nI (z))), some (.int (nI (s))), some (.int (nI (px S.r s))), some (rf E (104)), some (.int (nI (n))), some (.int (nI (k + 1))), some (.int (nI (4))), none, none]) rfl ?_
              refine y_goto (tgt := 80) hC dL_fills_235 (by decide) ?_
              refine y_fg 10 (lo' := [some (rf E (0)), some (rf E (103)), some (.int (x)), some (.int (y)), some (.int (nI (z))), some (.int (nI (s))), some (.int (nI (px S.r s))), some (rf E (104)), some (.int (nI (n))), some (.int (nI (k + 1))), none, none, none]) rfl ?_
              have hcl8 : ∀ i, i < k + 1 → ∀ q, adj (Q i) q → px S.r q = px S.r s → A q = true := fun i hi q ha hp => by
                by_cases e : i = k
                · rw [e, hQk] at ha
                  obtain ⟨w2, h2, h3⟩ := adj_nb ha
                  exact hws w2 (by omega) q h3 hp
                · exact hcl i (by omega) q ha hp
              exact ih_80 (k + 1) n A Q wa gg (by omega) (by omega) hL h104 hwa hI hcl8 hA
            · rcases (show w = 0 ∨ w = 1 ∨ w = 2 ∨ w = 3 by omega) with rfl | rfl | rfl | rfl
              · refine y_aload hC dL_fills_96 rfl ?_
                refine y_iload hC dL_fills_98 rfl ?_
                refine y_iald hC dL_fills_100 (k := 104) (j := k) (by omega) h104 (rfl) (by omega) (by decide) ?_
                refine y_top (y := nI (cc)) ((hwa k hkn).trans (congrArg nI hQk)) ?_
                refine y_bipush (v := nI 8) hC dL_fills_101 (by decide) ?_
                refine y_irem_n hC dL_fills_103 (by omega) (by omega) (by omega) ?_
                refine y_iload hC dL_fills_104 rfl ?_
                refine y_if_ne_n (tgt := 113) hC dL_fills_106 (by decide) (by omega) (fun c_106 => ?_) (fun c_106 => ?_)
                · exfalso
                  omega
                · refine y_iconst (v := nI 1) hC dL_fills_109 (by decide) ?_
                  refine y_goto (tgt := 124) hC dL_fills_110 (by decide) ?_
                  refine y_iadd_n hC dL_fills_124 ?_
                  refine y_istore hC dL_fills_125 (Nat.le_of_ble_eq_true rfl) rfl (lo' := [some (rf E (0)), some (rf E (103)), some (.int (x)), some (.int (y)), some (.int (nI (z))), some (.int (nI (s))), some (.int (nI (px S.r s))), some (rf E (104)), some (.int (nI (n))), some (.int (nI (k))), some (.int (nI (0))), some (.int (nI (((cc) % (8)) + 1))), none]) rfl ?_
                  refine y_aload hC dL_fills_127 rfl ?_
                  refine y_iload hC dL_fills_129 rfl ?_
                  refine y_iald hC dL_fills_131 (k := 104) (j := k) (by omega) h104 (rfl) (by omega) (by decide) ?_
                  refine y_top (y := nI (cc)) ((hwa k hkn).trans (congrArg nI hQk)) ?_
                  refine y_bipush (v := nI 8) hC dL_fills_132 (by decide) ?_
                  refine y_idiv_n hC dL_fills_134 (by omega) (by omega) (by omega) ?_
                  refine y_iload hC dL_fills_135 rfl ?_
                  refine y_iconst (v := nI 2) hC dL_fills_137 (by decide) ?_
                  refine y_icmp_ne_n (tgt := 145) hC dL_fills_138 (by decide) (by omega) (by omega) (fun c_138 => ?_) (fun c_138 => ?_)
                  · refine y_iload hC dL_fills_145 rfl ?_
                    refine y_iconst (v := nI 3) hC dL_fills_147 (by decide) ?_
                    refine y_icmp_ne_n (tgt := 155) hC dL_fills_148 (by decide) (by omega) (by omega) (fun c_148 => ?_) (fun c_148 => ?_)
                    · refine y_iconst (v := nI 0) hC dL_fills_155 (by decide) ?_
                      refine y_iadd_n hC dL_fills_156 ?_
                      refine y_top (y := nI (cc / 8)) (rfl) ?_
                      refine y_istore hC dL_fills_157 (Nat.le_of_ble_eq_true rfl) rfl (lo' := [some (rf E (0)), some (rf E (103)), some (.int (x)), some (.int (y)), some (.int (nI (z))), some (.int (nI (s))), some (.int (nI (px S.r s))), some (rf E (104)), some (.int (nI (n))), some (.int (nI (k))), some (.int (nI (0))), some (.int (nI (((cc) % (8)) + 1))), some (.int (nI (cc / 8)))]) rfl ?_
                      refine y_iload hC dL_fills_159 rfl ?_
                      refine y_if_lt_n (tgt := 226) hC dL_fills_161 (by decide) (by omega) (fun c_161 => ?_) (fun c_161 => ?_)
                      · exfalso
                        omega
                      · refine y_iload hC dL_fills_164 rfl ?_
                        refine y_bipush (v := nI 8) hC dL_fills_166 (by decide) ?_
                        refine y_icmp_ge_n (tgt := 226) hC dL_fills_168 (by decide) (by omega) (by omega) (fun c_168 => ?_) (fun c_168 => ?_)
                        · refine y_iinc_n hC dL_fills_226 (a := 0) (k := 1) rfl (by decide) (Nat.le_of_ble_eq_true rfl) rfl (lo' := [some (rf E (0)), some (rf E (103)), some (.int (x)), some (.int (y)), some (.int (nI (z))), some (.int (nI (s))), some (.int (nI (px S.r s))), some (rf E (104)), some (.int (nI (n))), some (.int (nI (k))), some (.int (nI (0 + 1))), some (.int (nI (((cc) % (8)) + 1))), some (.int (nI (cc / 8)))]) rfl ?_
                          refine y_goto (tgt := 90) hC dL_fills_229 (by decide) ?_
                          have hnw : ∀ q, nb cc 0 q → px S.r q = px S.r s → A q = true := fun q hq _ => by
                            unfold nb at hq
                            exfalso
                            omega
                          have hws9 : ∀ w2, w2 < 0 + 1 → ∀ q, nb cc w2 q → px S.r q = px S.r s → A q = true := fun w2 h2 q hq hp => by
                            by_cases e : w2 = 0
                            · rw [e] at hq; exact hnw q hq hp
                            · exact hws w2 (by omega) q hq hp
                          refine y_fg 11 (lo' := [some (rf E (0)), some (rf E (103)), some (.int (x)), some (.int (y)), some (.int (nI (z))), some (.int (nI (s))), some (.int (nI (px S.r s))), some (rf E (104)), some (.int (nI (n))), some (.int (nI (k))), some (.int (nI (0 + 1))), none, some (.int (nI (cc / 8)))]) rfl ?_
                          refine y_fg 12 (lo' := [some (rf E (0)), some (rf E (103)), some (.int (x)), some (.int (y)), some (.int (nI (z))), some (.int (nI (s))), some (.int (nI (px S.r s))), some (rf E (104)), some (.int (nI (n))), some (.int (nI (k))), some (.int (nI (0 + 1))), none, none]) rfl ?_
                          exact ih_90 (0 + 1) n A Q wa gg (by omega) (by omega) hkn hL h104 hwa hI hcl hA hQk hws9
                        · refine y_iload hC dL_fills_171 rfl ?_
                          refine y_if_lt_n (tgt := 226) hC dL_fills_173 (by decide) (by omega) (fun c_173 => ?_) (fun c_173 => ?_)
                          · exfalso
                            omega
                          · refine y_iload hC dL_fills_176 rfl ?_
                            refine y_bipush (v := nI 8) hC dL_fills_178 (by decide) ?_
                            refine y_icmp_ge_n (tgt := 226) hC dL_fills_180 (by decide) (by omega) (by omega) (fun c_180 => ?_) (fun c_180 => ?_)
                            · refine y_iinc_n hC dL_fills_226 (a := 0) (k := 1) rfl (by decide) (Nat.le_of_ble_eq_true rfl) rfl (lo' := [some (rf E (0)), some (rf E (103)), some (.int (x)), some (.int (y)), some (.int (nI (z))), some (.int (nI (s))), some (.int (nI (px S.r s))), some (rf E (104)), some (.int (nI (n))), some (.int (nI (k))), some (.int (nI (0 + 1))), some (.int (nI (((cc) % (8)) + 1))), some (.int (nI (cc / 8)))]) rfl ?_
                              refine y_goto (tgt := 90) hC dL_fills_229 (by decide) ?_
                              have hnw : ∀ q, nb cc 0 q → px S.r q = px S.r s → A q = true := fun q hq _ => by
                                unfold nb at hq
                                exfalso
                                omega
                              have hws9 : ∀ w2, w2 < 0 + 1 → ∀ q, nb cc w2 q → px S.r q = px S.r s → A q = true := fun w2 h2 q hq hp => by
                                by_cases e : w2 = 0
                                · rw [e] at hq; exact hnw q hq hp
                                · exact hws w2 (by omega) q hq hp
                              refine y_fg 11 (lo' := [some (rf E (0)), some (rf E (103)), some (.int (x)), some (.int (y)), some (.int (nI (z))), some (.int (nI (s))), some (.int (nI (px S.r s))), some (rf E (104)), some (.int (nI (n))), some (.int (nI (k))), some (.int (nI (0 + 1))), none, some (.int (nI (cc / 8)))]) rfl ?_
                              refine y_fg 12 (lo' := [some (rf E (0)), some (rf E (103)), some (.int (x)), some (.int (y)), some (.int (nI (z))), some (.int (nI (s))), some (.int (nI (px S.r s))), some (rf E (104)), some (.int (nI (n))), some (.int (nI (k))), some (.int (nI (0 + 1))), none, none]) rfl ?_
                              exact ih_90 (0 + 1) n A Q wa gg (by omega) (by omega) hkn hL h104 hwa hI hcl hA hQk hws9
                            · obtain ⟨qq, hqq⟩ : ∃ q, q = 8 * (cc / 8) + (cc % 8 + 1) := ⟨_, rfl⟩
                              have hq64 : qq < 64 := by omega
                              have hnq : nb cc 0 qq := by unfold nb; omega
                              have hone : ∀ q, nb cc 0 q → q = qq := fun q hq => by unfold nb at hq; omega
                              refine y_aload_n hC dL_fills_183 (i := 1) rfl rfl ?_
                              refine y_bipush (v := nI 8) hC dL_fills_184 (by decide) ?_
                              refine y_iload hC dL_fills_186 rfl ?_
                              refine y_imul_n hC dL_fills_188 ?_
                              refine y_iload hC dL_fills_189 rfl ?_
                              refine y_iadd_n hC dL_fills_191 ?_
                              refine y_iald hC dL_fills_192 (k := 103) (j := qq) (by have := hL.k; omega) hL.a103 (by rw [hqq]) (hq64) (by decide) ?_
                              refine y_iload hC dL_fills_193 rfl ?_
                              refine y_icmp_ne (tgt := 226) hC dL_fills_195 (by decide) (fun c_195 => ?_) (fun c_195 => ?_)
                              · refine y_iinc_n hC dL_fills_226 (a := 0) (k := 1) rfl (by decide) (Nat.le_of_ble_eq_true rfl) rfl (lo' := [some (rf E (0)), some (rf E (103)), some (.int (x)), some (.int (y)), some (.int (nI (z))), some (.int (nI (s))), some (.int (nI (px S.r s))), some (rf E (104)), some (.int (nI (n))), some (.int (nI (k))), some (.int (nI (0 + 1))), some (.int (nI (((cc) % (8)) + 1))), some (.int (nI (cc / 8)))]) rfl ?_
                                refine y_goto (tgt := 90) hC dL_fills_229 (by decide) ?_
                                have hnw : ∀ q, nb cc 0 q → px S.r q = px S.r s → A q = true := fun q hq hp => by
                                  rw [hone q hq] at hp ⊢
                                  apply Decidable.byContradiction
                                  intro hA9
                                  exact c_195 (by unfold prF; rw [if_neg hA9, hpi qq hq64, hp])
                                have hws9 : ∀ w2, w2 < 0 + 1 → ∀ q, nb cc w2 q → px S.r q = px S.r s → A q = true := fun w2 h2 q hq hp => by
                                  by_cases e : w2 = 0
                                  · rw [e] at hq; exact hnw q hq hp
                                  · exact hws w2 (by omega) q hq hp
                                refine y_fg 11 (lo' := [some (rf E (0)), some (rf E (103)), some (.int (x)), some (.int (y)), some (.int (nI (z))), some (.int (nI (s))), some (.int (nI (px S.r s))), some (rf E (104)), some (.int (nI (n))), some (.int (nI (k))), some (.int (nI (0 + 1))), none, some (.int (nI (cc / 8)))]) rfl ?_
                                refine y_fg 12 (lo' := [some (rf E (0)), some (rf E (103)), some (.int (x)), some (.int (y)), some (.int (nI (z))), some (.int (nI (s))), some (.int (nI (px S.r s))), some (rf E (104)), some (.int (nI (n))), some (.int (nI (k))), some (.int (nI (0 + 1))), none, none]) rfl ?_
                                exact ih_90 (0 + 1) n A Q wa gg (by omega) (by omega) hkn hL h104 hwa hI hcl hA hQk hws9
                              · have hAq : A qq = false := by
                                  cases e : A qq with
                                  | false => rfl
                                  | true =>
                                    exfalso
                                    unfold prF at c_195
                                    rw [if_pos e] at c_195
                                    exact hzc ((nI_eq (by omega) (by omega)).mp c_195).symm
                                have hpq : px S.r qq = px S.r s := by
                                  unfold prF at c_195
                                  rw [if_neg (by rw [hAq]; decide), hpi qq hq64] at c_195
                                  have hb9 := (hv.2.2.2.2.2.2.1 qq hq64).2
                                  exact (nI_eq (by omega) (by omega)).mp c_195
                                have hrch : Rch S.r s qq := (hI.2.2 cc (by rw [← hQk]; exact (hI.1 k hkn).2)).2.1.st (nb_adj hnq) hpq
                                have hn64 : n < 64 := by
                                  have h1 := hI.le
                                  have h2 := cn_lt hq64 hAq
                                  omega
                                refine y_aload_n hC dL_fills_198 (i := 1) rfl rfl ?_
                                refine y_bipush (v := nI 8) hC dL_fills_199 (by decide) ?_
                                refine y_iload hC dL_fills_201 rfl ?_
                                refine y_imul_n hC dL_fills_203 ?_
                                refine y_iload hC dL_fills_204 rfl ?_
                                refine y_iadd_n hC dL_fills_206 ?_
                                refine y_iload hC dL_fills_207 rfl ?_
                                refine y_iast hC dL_fills_209 (k := 103) (j := qq) (by have := hL.k; omega) hL.a103 (by rw [hqq]) (hq64) (by decide) ?_
                                have hL_209 := hL.up (upd (prF p A z) (qq) (nI (z)))
                                have hx104_209 : (va_up gg (103) (aI E 0 64 (upd (prF p A z) (qq) (nI (z))))) 104 = _ := (va_up_ne _ _ (by decide)).trans (h104)
                                generalize (va_up gg (103) (aI E 0 64 (upd (prF p A z) (qq) (nI (z))))) = G_209 at hL_209 hx104_209 ⊢
                                rw [prF_s] at hL_209
                                refine y_aload hC dL_fills_210 rfl ?_
                                refine y_iload hC dL_fills_212 rfl ?_
                                refine y_bipush (v := nI 8) hC dL_fills_214 (by decide) ?_
                                refine y_iload hC dL_fills_216 rfl ?_
                                refine y_imul_n hC dL_fills_218 ?_
                                refine y_iload hC dL_fills_219 rfl ?_
                                refine y_iadd_n hC dL_fills_221 ?_
                                refine y_top (y := nI (qq)) (congrArg nI hqq.symm) ?_
                                refine y_iast hC dL_fills_222 (k := 104) (j := n) (by omega) hx104_209 (rfl) (by omega) (by decide) ?_
                                have hL_222 := hL_209.ut (k := 104) (by decide) (aI E 0 64 (upd wa (n) (nI (qq))))
                                have hx104_222 : (va_up G_209 (104) (aI E 0 64 (upd wa (n) (nI (qq))))) 104 = _ := va_up_self _ _ _
                                generalize (va_up G_209 (104) (aI E 0 64 (upd wa (n) (nI (qq))))) = G_222 at hL_222 hx104_222 ⊢
                                refine y_iinc_n hC dL_fills_223 (a := n) (k := 1) rfl (by decide) (Nat.le_of_ble_eq_true rfl) rfl (lo' := [some (rf E (0)), some (rf E (103)), some (.int (x)), some (.int (y)), some (.int (nI (z))), some (.int (nI (s))), some (.int (nI (px S.r s))), some (rf E (104)), some (.int (nI (n + 1))), some (.int (nI (k))), some (.int (nI (0))), some (.int (nI (((cc) % (8)) + 1))), some (.int (nI (cc / 8)))]) rfl ?_
                                refine y_iinc_n hC dL_fills_226 (a := 0) (k := 1) rfl (by decide) (Nat.le_of_ble_eq_true rfl) rfl (lo' := [some (rf E (0)), some (rf E (103)), some (.int (x)), some (.int (y)), some (.int (nI (z))), some (.int (nI (s))), some (.int (nI (px S.r s))), some (rf E (104)), some (.int (nI (n + 1))), some (.int (nI (k))), some (.int (nI (0 + 1))), some (.int (nI (((cc) % (8)) + 1))), some (.int (nI (cc / 8)))]) rfl ?_
                                refine y_goto (tgt := 90) hC dL_fills_229 (by decide) ?_
                                have hcl9 : ∀ i, i < k → ∀ q, adj (va_up Q n qq i) q → px S.r q = px S.r s → va_up A qq true q = true := fun i hi q ha hp => by
                                  rw [va_up_ne _ _ (show i ≠ n by omega)] at ha
                                  exact up_m (hcl i hi q ha hp)
                                have hwa9 : ∀ j, j < n + 1 → upd wa n (nI qq) j = nI (va_up Q n qq j) := fun j hj => by
                                  by_cases e : j = n
                                  · rw [e, pk_us, va_up_self]
                                  · rw [pk_un e, va_up_ne _ _ e]; exact hwa j (by omega)
                                have hws9 : ∀ w2, w2 < 0 + 1 → ∀ q, nb cc w2 q → px S.r q = px S.r s → va_up A qq true q = true := fun w2 h2 q hq hp => by
                                  by_cases e : w2 = 0
                                  · rw [e] at hq; rw [hone q hq, va_up_self]
                                  · exact up_m (hws w2 (by omega) q hq hp)
                                refine y_fg 11 (lo' := [some (rf E (0)), some (rf E (103)), some (.int (x)), some (.int (y)), some (.int (nI (z))), some (.int (nI (s))), some (.int (nI (px S.r s))), some (rf E (104)), some (.int (nI (n + 1))), some (.int (nI (k))), some (.int (nI (0 + 1))), none, some (.int (nI (cc / 8)))]) rfl ?_
                                refine y_fg 12 (lo' := [some (rf E (0)), some (rf E (103)), some (.int (x)), some (.int (y)), some (.int (nI (z))), some (.int (nI (s))), some (.int (nI (px S.r s))), some (rf E (104)), some (.int (nI (n + 1))), some (.int (nI (k))), some (.int (nI (0 + 1))), none, none]) rfl ?_
                                exact ih_90 (0 + 1) (n + 1) (va_up A qq true) (va_up Q n qq) (upd wa n (nI qq)) G_222 (by omega) (by omega) (by omega) hL_222 hx104_222 hwa9 (hI.add hq64 hAq hrch) hcl9 (up_m hA) (by rw [va_up_ne _ _ (show k ≠ n by omega)]; exact hQk) hws9
                    · exfalso
                      omega
                  · exfalso
                    omega
              · refine y_aload hC dL_fills_96 rfl ?_
                refine y_iload hC dL_fills_98 rfl ?_
                refine y_iald hC dL_fills_100 (k := 104) (j := k) (by omega) h104 (rfl) (by omega) (by decide) ?_
                refine y_top (y := nI (cc)) ((hwa k hkn).trans (congrArg nI hQk)) ?_
                refine y_bipush (v := nI 8) hC dL_fills_101 (by decide) ?_
                refine y_irem_n hC dL_fills_103 (by omega) (by omega) (by omega) ?_
                refine y_iload hC dL_fills_104 rfl ?_
                refine y_if_ne_n (tgt := 113) hC dL_fills_106 (by decide) (by omega) (fun c_106 => ?_) (fun c_106 => ?_)
                · refine y_iload hC dL_fills_113 rfl ?_
                  refine y_iconst (v := nI 1) hC dL_fills_115 (by decide) ?_
                  refine y_icmp_ne_n (tgt := 123) hC dL_fills_116 (by decide) (by omega) (by omega) (fun c_116 => ?_) (fun c_116 => ?_)
                  · exfalso
                    omega
                  · refine y_iconst (v := (-1)) hC dL_fills_119 (by decide) ?_
                    refine y_goto (tgt := 124) hC dL_fills_120 (by decide) ?_
                    refine y_iadd hC dL_fills_124 ?_
                    refine y_istore hC dL_fills_125 (Nat.le_of_ble_eq_true rfl) rfl (lo' := [some (rf E (0)), some (rf E (103)), some (.int (x)), some (.int (y)), some (.int (nI (z))), some (.int (nI (s))), some (.int (nI (px S.r s))), some (rf E (104)), some (.int (nI (n))), some (.int (nI (k))), some (.int (nI (1))), some (.int (nI ((cc) % (8)) + ((-1)))), none]) rfl ?_
                    refine y_aload hC dL_fills_127 rfl ?_
                    refine y_iload hC dL_fills_129 rfl ?_
                    refine y_iald hC dL_fills_131 (k := 104) (j := k) (by omega) h104 (rfl) (by omega) (by decide) ?_
                    refine y_top (y := nI (cc)) ((hwa k hkn).trans (congrArg nI hQk)) ?_
                    refine y_bipush (v := nI 8) hC dL_fills_132 (by decide) ?_
                    refine y_idiv_n hC dL_fills_134 (by omega) (by omega) (by omega) ?_
                    refine y_iload hC dL_fills_135 rfl ?_
                    refine y_iconst (v := nI 2) hC dL_fills_137 (by decide) ?_
                    refine y_icmp_ne_n (tgt := 145) hC dL_fills_138 (by decide) (by omega) (by omega) (fun c_138 => ?_) (fun c_138 => ?_)
                    · refine y_iload hC dL_fills_145 rfl ?_
                      refine y_iconst (v := nI 3) hC dL_fills_147 (by decide) ?_
                      refine y_icmp_ne_n (tgt := 155) hC dL_fills_148 (by decide) (by omega) (by omega) (fun c_148 => ?_) (fun c_148 => ?_)
                      · refine y_iconst (v := nI 0) hC dL_fills_155 (by decide) ?_
                        refine y_iadd_n hC dL_fills_156 ?_
                        refine y_top (y := nI (cc / 8)) (rfl) ?_
                        refine y_istore hC dL_fills_157 (Nat.le_of_ble_eq_true rfl) rfl (lo' := [some (rf E (0)), some (rf E (103)), some (.int (x)), some (.int (y)), some (.int (nI (z))), some (.int (nI (s))), some (.int (nI (px S.r s))), some (rf E (104)), some (.int (nI (n))), some (.int (nI (k))), some (.int (nI (1))), some (.int (nI ((cc) % (8)) + ((-1)))), some (.int (nI (cc / 8)))]) rfl ?_
                        refine y_iload hC dL_fills_159 rfl ?_
                        refine y_if_lt (tgt := 226) hC dL_fills_161 (by decide) (fun c_161 => ?_) (fun c_161 => ?_)
                        · have hz0 := zdm0 (by omega) c_161
                          refine y_iinc_n hC dL_fills_226 (a := 1) (k := 1) rfl (by decide) (Nat.le_of_ble_eq_true rfl) rfl (lo' := [some (rf E (0)), some (rf E (103)), some (.int (x)), some (.int (y)), some (.int (nI (z))), some (.int (nI (s))), some (.int (nI (px S.r s))), some (rf E (104)), some (.int (nI (n))), some (.int (nI (k))), some (.int (nI (1 + 1))), some (.int (nI ((cc) % (8)) + ((-1)))), some (.int (nI (cc / 8)))]) rfl ?_
                          refine y_goto (tgt := 90) hC dL_fills_229 (by decide) ?_
                          have hnw : ∀ q, nb cc 1 q → px S.r q = px S.r s → A q = true := fun q hq _ => by
                            unfold nb at hq
                            exfalso
                            omega
                          have hws9 : ∀ w2, w2 < 1 + 1 → ∀ q, nb cc w2 q → px S.r q = px S.r s → A q = true := fun w2 h2 q hq hp => by
                            by_cases e : w2 = 1
                            · rw [e] at hq; exact hnw q hq hp
                            · exact hws w2 (by omega) q hq hp
                          refine y_fg 11 (lo' := [some (rf E (0)), some (rf E (103)), some (.int (x)), some (.int (y)), some (.int (nI (z))), some (.int (nI (s))), some (.int (nI (px S.r s))), some (rf E (104)), some (.int (nI (n))), some (.int (nI (k))), some (.int (nI (1 + 1))), none, some (.int (nI (cc / 8)))]) rfl ?_
                          refine y_fg 12 (lo' := [some (rf E (0)), some (rf E (103)), some (.int (x)), some (.int (y)), some (.int (nI (z))), some (.int (nI (s))), some (.int (nI (px S.r s))), some (rf E (104)), some (.int (nI (n))), some (.int (nI (k))), some (.int (nI (1 + 1))), none, none]) rfl ?_
                          exact ih_90 (1 + 1) n A Q wa gg (by omega) (by omega) hkn hL h104 hwa hI hcl hA hQk hws9
                        · have hz0 := zdm2 (by omega) c_161
                          refine y_lo (lo' := [some (rf E (0)), some (rf E (103)), some (.int (x)), some (.int (y)), some (.int (nI (z))), some (.int (nI (s))), some (.int (nI (px S.r s))), some (rf E (104)), some (.int (nI (n))), some (.int (nI (k))), some (.int (nI (1))), some (.int (nI (cc % 8 - 1))), some (.int (nI (cc / 8)))]) (by rw [zdm1 (by omega) hz0]) ?_
                          refine y_iload hC dL_fills_164 rfl ?_
                          refine y_bipush (v := nI 8) hC dL_fills_166 (by decide) ?_
                          refine y_icmp_ge_n (tgt := 226) hC dL_fills_168 (by decide) (by omega) (by omega) (fun c_168 => ?_) (fun c_168 => ?_)
                          · refine y_iinc_n hC dL_fills_226 (a := 1) (k := 1) rfl (by decide) (Nat.le_of_ble_eq_true rfl) rfl (lo' := [some (rf E (0)), some (rf E (103)), some (.int (x)), some (.int (y)), some (.int (nI (z))), some (.int (nI (s))), some (.int (nI (px S.r s))), some (rf E (104)), some (.int (nI (n))), some (.int (nI (k))), some (.int (nI (1 + 1))), some (.int (nI (cc % 8 - 1))), some (.int (nI (cc / 8)))]) rfl ?_
                            refine y_goto (tgt := 90) hC dL_fills_229 (by decide) ?_
                            have hnw : ∀ q, nb cc 1 q → px S.r q = px S.r s → A q = true := fun q hq _ => by
                              unfold nb at hq
                              exfalso
                              omega
                            have hws9 : ∀ w2, w2 < 1 + 1 → ∀ q, nb cc w2 q → px S.r q = px S.r s → A q = true := fun w2 h2 q hq hp => by
                              by_cases e : w2 = 1
                              · rw [e] at hq; exact hnw q hq hp
                              · exact hws w2 (by omega) q hq hp
                            refine y_fg 11 (lo' := [some (rf E (0)), some (rf E (103)), some (.int (x)), some (.int (y)), some (.int (nI (z))), some (.int (nI (s))), some (.int (nI (px S.r s))), some (rf E (104)), some (.int (nI (n))), some (.int (nI (k))), some (.int (nI (1 + 1))), none, some (.int (nI (cc / 8)))]) rfl ?_
                            refine y_fg 12 (lo' := [some (rf E (0)), some (rf E (103)), some (.int (x)), some (.int (y)), some (.int (nI (z))), some (.int (nI (s))), some (.int (nI (px S.r s))), some (rf E (104)), some (.int (nI (n))), some (.int (nI (k))), some (.int (nI (1 + 1))), none, none]) rfl ?_
                            exact ih_90 (1 + 1) n A Q wa gg (by omega) (by omega) hkn hL h104 hwa hI hcl hA hQk hws9
                          · refine y_iload hC dL_fills_171 rfl ?_
                            refine y_if_lt_n (tgt := 226) hC dL_fills_173 (by decide) (by omega) (fun c_173 => ?_) (fun c_173 => ?_)
                            · exfalso
                              omega
                            · refine y_iload hC dL_fills_176 rfl ?_
                              refine y_bipush (v := nI 8) hC dL_fills_178 (by decide) ?_
                              refine y_icmp_ge_n (tgt := 226) hC dL_fills_180 (by decide) (by omega) (by omega) (fun c_180 => ?_) (fun c_180 => ?_)
                              · refine y_iinc_n hC dL_fills_226 (a := 1) (k := 1) rfl (by decide) (Nat.le_of_ble_eq_true rfl) rfl (lo' := [some (rf E (0)), some (rf E (103)), some (.int (x)), some (.int (y)), some (.int (nI (z))), some (.int (nI (s))), some (.int (nI (px S.r s))), some (rf E (104)), some (.int (nI (n))), some (.int (nI (k))), some (.int (nI (1 + 1))), some (.int (nI (cc % 8 - 1))), some (.int (nI (cc / 8)))]) rfl ?_
                                refine y_goto (tgt := 90) hC dL_fills_229 (by decide) ?_
                                have hnw : ∀ q, nb cc 1 q → px S.r q = px S.r s → A q = true := fun q hq _ => by
                                  unfold nb at hq
                                  exfalso
                                  omega
                                have hws9 : ∀ w2, w2 < 1 + 1 → ∀ q, nb cc w2 q → px S.r q = px S.r s → A q = true := fun w2 h2 q hq hp => by
                                  by_cases e : w2 = 1
                                  · rw [e] at hq; exact hnw q hq hp
                                  · exact hws w2 (by omega) q hq hp
                                refine y_fg 11 (lo' := [some (rf E (0)), some (rf E (103)), some (.int (x)), some (.int (y)), some (.int (nI (z))), some (.int (nI (s))), some (.int (nI (px S.r s))), some (rf E (104)), some (.int (nI (n))), some (.int (nI (k))), some (.int (nI (1 + 1))), none, some (.int (nI (cc / 8)))]) rfl ?_
                                refine y_fg 12 (lo' := [some (rf E (0)), some (rf E (103)), some (.int (x)), some (.int (y)), some (.int (nI (z))), some (.int (nI (s))), some (.int (nI (px S.r s))), some (rf E (104)), some (.int (nI (n))), some (.int (nI (k))), some (.int (nI (1 + 1))), none, none]) rfl ?_
                                exact ih_90 (1 + 1) n A Q wa gg (by omega) (by omega) hkn hL h104 hwa hI hcl hA hQk hws9
                              · obtain ⟨qq, hqq⟩ : ∃ q, q = 8 * (cc / 8) + (cc % 8 - 1) := ⟨_, rfl⟩
                                have hq64 : qq < 64 := by omega
                                have hnq : nb cc 1 qq := by unfold nb; omega
                                have hone : ∀ q, nb cc 1 q → q = qq := fun q hq => by unfold nb at hq; omega
                                refine y_aload_n hC dL_fills_183 (i := 1) rfl rfl ?_
                                refine y_bipush (v := nI 8) hC dL_fills_184 (by decide) ?_
                                refine y_iload hC dL_fills_186 rfl ?_
                                refine y_imul_n hC dL_fills_188 ?_
                                refine y_iload hC dL_fills_189 rfl ?_
                                refine y_iadd_n hC dL_fills_191 ?_
                                refine y_iald hC dL_fills_192 (k := 103) (j := qq) (by have := hL.k; omega) hL.a103 (by rw [hqq]) (hq64) (by decide) ?_
                                refine y_iload hC dL_fills_193 rfl ?_
                                refine y_icmp_ne (tgt := 226) hC dL_fills_195 (by decide) (fun c_195 => ?_) (fun c_195 => ?_)
                                · refine y_iinc_n hC dL_fills_226 (a := 1) (k := 1) rfl (by decide) (Nat.le_of_ble_eq_true rfl) rfl (lo' := [some (rf E (0)), some (rf E (103)), some (.int (x)), some (.int (y)), some (.int (nI (z))), some (.int (nI (s))), some (.int (nI (px S.r s))), some (rf E (104)), some (.int (nI (n))), some (.int (nI (k))), some (.int (nI (1 + 1))), some (.int (nI (cc % 8 - 1))), some (.int (nI (cc / 8)))]) rfl ?_
                                  refine y_goto (tgt := 90) hC dL_fills_229 (by decide) ?_
                                  have hnw : ∀ q, nb cc 1 q → px S.r q = px S.r s → A q = true := fun q hq hp => by
                                    rw [hone q hq] at hp ⊢
                                    apply Decidable.byContradiction
                                    intro hA9
                                    exact c_195 (by unfold prF; rw [if_neg hA9, hpi qq hq64, hp])
                                  have hws9 : ∀ w2, w2 < 1 + 1 → ∀ q, nb cc w2 q → px S.r q = px S.r s → A q = true := fun w2 h2 q hq hp => by
                                    by_cases e : w2 = 1
                                    · rw [e] at hq; exact hnw q hq hp
                                    · exact hws w2 (by omega) q hq hp
                                  refine y_fg 11 (lo' := [some (rf E (0)), some (rf E (103)), some (.int (x)), some (.int (y)), some (.int (nI (z))), some (.int (nI (s))), some (.int (nI (px S.r s))), some (rf E (104)), some (.int (nI (n))), some (.int (nI (k))), some (.int (nI (1 + 1))), none, some (.int (nI (cc / 8)))]) rfl ?_
                                  refine y_fg 12 (lo' := [some (rf E (0)), some (rf E (103)), some (.int (x)), some (.int (y)), some (.int (nI (z))), some (.int (nI (s))), some (.int (nI (px S.r s))), some (rf E (104)), some (.int (nI (n))), some (.int (nI (k))), some (.int (nI (1 + 1))), none, none]) rfl ?_
                                  exact ih_90 (1 + 1) n A Q wa gg (by omega) (by omega) hkn hL h104 hwa hI hcl hA hQk hws9
                                · have hAq : A qq = false := by
                                    cases e : A qq with
                                    | false => rfl
                                    | true =>
                                      exfalso
                                      unfold prF at c_195
                                      rw [if_pos e] at c_195
                                      exact hzc ((nI_eq (by omega) (by omega)).mp c_195).symm
                                  have hpq : px S.r qq = px S.r s := by
                                    unfold prF at c_195
                                    rw [if_neg (by rw [hAq]; decide), hpi qq hq64] at c_195
                                    have hb9 := (hv.2.2.2.2.2.2.1 qq hq64).2
                                    exact (nI_eq (by omega) (by omega)).mp c_195
                                  have hrch : Rch S.r s qq := (hI.2.2 cc (by rw [← hQk]; exact (hI.1 k hkn).2)).2.1.st (nb_adj hnq) hpq
                                  have hn64 : n < 64 := by
                                    have h1 := hI.le
                                    have h2 := cn_lt hq64 hAq
                                    omega
                                  refine y_aload_n hC dL_fills_198 (i := 1) rfl rfl ?_
                                  refine y_bipush (v := nI 8) hC dL_fills_199 (by decide) ?_
                                  refine y_iload hC dL_fills_201 rfl ?_
                                  refine y_imul_n hC dL_fills_203 ?_
                                  refine y_iload hC dL_fills_204 rfl ?_
                                  refine y_iadd_n hC dL_fills_206 ?_
                                  refine y_iload hC dL_fills_207 rfl ?_
                                  refine y_iast hC dL_fills_209 (k := 103) (j := qq) (by have := hL.k; omega) hL.a103 (by rw [hqq]) (hq64) (by decide) ?_
                                  have hL_209 := hL.up (upd (prF p A z) (qq) (nI (z)))
                                  have hx104_209 : (va_up gg (103) (aI E 0 64 (upd (prF p A z) (qq) (nI (z))))) 104 = _ := (va_up_ne _ _ (by decide)).trans (h104)
                                  generalize (va_up gg (103) (aI E 0 64 (upd (prF p A z) (qq) (nI (z))))) = G_209 at hL_209 hx104_209 ⊢
                                  rw [prF_s] at hL_209
                                  refine y_aload hC dL_fills_210 rfl ?_
                                  refine y_iload hC dL_fills_212 rfl ?_
                                  refine y_bipush (v := nI 8) hC dL_fills_214 (by decide) ?_
                                  refine y_iload hC dL_fills_216 rfl ?_
                                  refine y_imul_n hC dL_fills_218 ?_
                                  refine y_iload hC dL_fills_219 rfl ?_
                                  refine y_iadd_n hC dL_fills_221 ?_
                                  refine y_top (y := nI (qq)) (congrArg nI hqq.symm) ?_
                                  refine y_iast hC dL_fills_222 (k := 104) (j := n) (by omega) hx104_209 (rfl) (by omega) (by decide) ?_
                                  have hL_222 := hL_209.ut (k := 104) (by decide) (aI E 0 64 (upd wa (n) (nI (qq))))
                                  have hx104_222 : (va_up G_209 (104) (aI E 0 64 (upd wa (n) (nI (qq))))) 104 = _ := va_up_self _ _ _
                                  generalize (va_up G_209 (104) (aI E 0 64 (upd wa (n) (nI (qq))))) = G_222 at hL_222 hx104_222 ⊢
                                  refine y_iinc_n hC dL_fills_223 (a := n) (k := 1) rfl (by decide) (Nat.le_of_ble_eq_true rfl) rfl (lo' := [some (rf E (0)), some (rf E (103)), some (.int (x)), some (.int (y)), some (.int (nI (z))), some (.int (nI (s))), some (.int (nI (px S.r s))), some (rf E (104)), some (.int (nI (n + 1))), some (.int (nI (k))), some (.int (nI (1))), some (.int (nI (cc % 8 - 1))), some (.int (nI (cc / 8)))]) rfl ?_
                                  refine y_iinc_n hC dL_fills_226 (a := 1) (k := 1) rfl (by decide) (Nat.le_of_ble_eq_true rfl) rfl (lo' := [some (rf E (0)), some (rf E (103)), some (.int (x)), some (.int (y)), some (.int (nI (z))), some (.int (nI (s))), some (.int (nI (px S.r s))), some (rf E (104)), some (.int (nI (n + 1))), some (.int (nI (k))), some (.int (nI (1 + 1))), some (.int (nI (cc % 8 - 1))), some (.int (nI (cc / 8)))]) rfl ?_
                                  refine y_goto (tgt := 90) hC dL_fills_229 (by decide) ?_
                                  have hcl9 : ∀ i, i < k → ∀ q, adj (va_up Q n qq i) q → px S.r q = px S.r s → va_up A qq true q = true := fun i hi q ha hp => by
                                    rw [va_up_ne _ _ (show i ≠ n by omega)] at ha
                                    exact up_m (hcl i hi q ha hp)
                                  have hwa9 : ∀ j, j < n + 1 → upd wa n (nI qq) j = nI (va_up Q n qq j) := fun j hj => by
                                    by_cases e : j = n
                                    · rw [e, pk_us, va_up_self]
                                    · rw [pk_un e, va_up_ne _ _ e]; exact hwa j (by omega)
                                  have hws9 : ∀ w2, w2 < 1 + 1 → ∀ q, nb cc w2 q → px S.r q = px S.r s → va_up A qq true q = true := fun w2 h2 q hq hp => by
                                    by_cases e : w2 = 1
                                    · rw [e] at hq; rw [hone q hq, va_up_self]
                                    · exact up_m (hws w2 (by omega) q hq hp)
                                  refine y_fg 11 (lo' := [some (rf E (0)), some (rf E (103)), some (.int (x)), some (.int (y)), some (.int (nI (z))), some (.int (nI (s))), some (.int (nI (px S.r s))), some (rf E (104)), some (.int (nI (n + 1))), some (.int (nI (k))), some (.int (nI (1 + 1))), none, some (.int (nI (cc / 8)))]) rfl ?_
                                  refine y_fg 12 (lo' := [some (rf E (0)), some (rf E (103)), some (.int (x)), some (.int (y)), some (.int (nI (z))), some (.int (nI (s))), some (.int (nI (px S.r s))), some (rf E (104)), some (.int (nI (n + 1))), some (.int (nI (k))), some (.int (nI (1 + 1))), none, none]) rfl ?_
                                  exact ih_90 (1 + 1) (n + 1) (va_up A qq true) (va_up Q n qq) (upd wa n (nI qq)) G_222 (by omega) (by omega) (by omega) hL_222 hx104_222 hwa9 (hI.add hq64 hAq hrch) hcl9 (up_m hA) (by rw [va_up_ne _ _ (show k ≠ n by omega)]; exact hQk) hws9
                      · exfalso
                        omega
                    · exfalso
                      omega
                · exfalso
                  omega
              · refine y_aload hC dL_fills_96 rfl ?_
                refine y_iload hC dL_fills_98 rfl ?_
                refine y_iald hC dL_fills_100 (k := 104) (j := k) (by omega) h104 (rfl) (by omega) (by decide) ?_
                refine y_top (y := nI (cc)) ((hwa k hkn).trans (congrArg nI hQk)) ?_
                refine y_bipush (v := nI 8) hC dL_fills_101 (by decide) ?_
                refine y_irem_n hC dL_fills_103 (by omega) (by omega) (by omega) ?_
                refine y_iload hC dL_fills_104 rfl ?_
                refine y_if_ne_n (tgt := 113) hC dL_fills_106 (by decide) (by omega) (fun c_106 => ?_) (fun c_106 => ?_)
                · refine y_iload hC dL_fills_113 rfl ?_
                  refine y_iconst (v := nI 1) hC dL_fills_115 (by decide) ?_
                  refine y_icmp_ne_n (tgt := 123) hC dL_fills_116 (by decide) (by omega) (by omega) (fun c_116 => ?_) (fun c_116 => ?_)
                  · refine y_iconst (v := nI 0) hC dL_fills_123 (by decide) ?_
                    refine y_iadd_n hC dL_fills_124 ?_
                    refine y_top (y := nI (cc % 8)) (rfl) ?_
                    refine y_istore hC dL_fills_125 (Nat.le_of_ble_eq_true rfl) rfl (lo' := [some (rf E (0)), some (rf E (103)), some (.int (x)), some (.int (y)), some (.int (nI (z))), some (.int (nI (s))), some (.int (nI (px S.r s))), some (rf E (104)), some (.int (nI (n))), some (.int (nI (k))), some (.int (nI (2))), some (.int (nI (cc % 8))), none]) rfl ?_
                    refine y_aload hC dL_fills_127 rfl ?_
                    refine y_iload hC dL_fills_129 rfl ?_
                    refine y_iald hC dL_fills_131 (k := 104) (j := k) (by omega) h104 (rfl) (by omega) (by decide) ?_
                    refine y_top (y := nI (cc)) ((hwa k hkn).trans (congrArg nI hQk)) ?_
                    refine y_bipush (v := nI 8) hC dL_fills_132 (by decide) ?_
                    refine y_idiv_n hC dL_fills_134 (by omega) (by omega) (by omega) ?_
                    refine y_iload hC dL_fills_135 rfl ?_
                    refine y_iconst (v := nI 2) hC dL_fills_137 (by decide) ?_
                    refine y_icmp_ne_n (tgt := 145) hC dL_fills_138 (by decide) (by omega) (by omega) (fun c_138 => ?_) (fun c_138 => ?_)
                    · exfalso
                      omega
                    · refine y_iconst (v := nI 1) hC dL_fills_141 (by decide) ?_
                      refine y_goto (tgt := 156) hC dL_fills_142 (by decide) ?_
                      refine y_iadd_n hC dL_fills_156 ?_
                      refine y_istore hC dL_fills_157 (Nat.le_of_ble_eq_true rfl) rfl (lo' := [some (rf E (0)), some (rf E (103)), some (.int (x)), some (.int (y)), some (.int (nI (z))), some (.int (nI (s))), some (.int (nI (px S.r s))), some (rf E (104)), some (.int (nI (n))), some (.int (nI (k))), some (.int (nI (2))), some (.int (nI (cc % 8))), some (.int (nI (((cc) / (8)) + 1)))]) rfl ?_
                      refine y_iload hC dL_fills_159 rfl ?_
                      refine y_if_lt_n (tgt := 226) hC dL_fills_161 (by decide) (by omega) (fun c_161 => ?_) (fun c_161 => ?_)
                      · exfalso
                        omega
                      · refine y_iload hC dL_fills_164 rfl ?_
                        refine y_bipush (v := nI 8) hC dL_fills_166 (by decide) ?_
                        refine y_icmp_ge_n (tgt := 226) hC dL_fills_168 (by decide) (by omega) (by omega) (fun c_168 => ?_) (fun c_168 => ?_)
                        · refine y_iinc_n hC dL_fills_226 (a := 2) (k := 1) rfl (by decide) (Nat.le_of_ble_eq_true rfl) rfl (lo' := [some (rf E (0)), some (rf E (103)), some (.int (x)), some (.int (y)), some (.int (nI (z))), some (.int (nI (s))), some (.int (nI (px S.r s))), some (rf E (104)), some (.int (nI (n))), some (.int (nI (k))), some (.int (nI (2 + 1))), some (.int (nI (cc % 8))), some (.int (nI (((cc) / (8)) + 1)))]) rfl ?_
                          refine y_goto (tgt := 90) hC dL_fills_229 (by decide) ?_
                          have hnw : ∀ q, nb cc 2 q → px S.r q = px S.r s → A q = true := fun q hq _ => by
                            unfold nb at hq
                            exfalso
                            omega
                          have hws9 : ∀ w2, w2 < 2 + 1 → ∀ q, nb cc w2 q → px S.r q = px S.r s → A q = true := fun w2 h2 q hq hp => by
                            by_cases e : w2 = 2
                            · rw [e] at hq; exact hnw q hq hp
                            · exact hws w2 (by omega) q hq hp
                          refine y_fg 11 (lo' := [some (rf E (0)), some (rf E (103)), some (.int (x)), some (.int (y)), some (.int (nI (z))), some (.int (nI (s))), some (.int (nI (px S.r s))), some (rf E (104)), some (.int (nI (n))), some (.int (nI (k))), some (.int (nI (2 + 1))), none, some (.int (nI (((cc) / (8)) + 1)))]) rfl ?_
                          refine y_fg 12 (lo' := [some (rf E (0)), some (rf E (103)), some (.int (x)), some (.int (y)), some (.int (nI (z))), some (.int (nI (s))), some (.int (nI (px S.r s))), some (rf E (104)), some (.int (nI (n))), some (.int (nI (k))), some (.int (nI (2 + 1))), none, none]) rfl ?_
                          exact ih_90 (2 + 1) n A Q wa gg (by omega) (by omega) hkn hL h104 hwa hI hcl hA hQk hws9
                        · refine y_iload hC dL_fills_171 rfl ?_
                          refine y_if_lt_n (tgt := 226) hC dL_fills_173 (by decide) (by omega) (fun c_173 => ?_) (fun c_173 => ?_)
                          · exfalso
                            omega
                          · refine y_iload hC dL_fills_176 rfl ?_
                            refine y_bipush (v := nI 8) hC dL_fills_178 (by decide) ?_
                            refine y_icmp_ge_n (tgt := 226) hC dL_fills_180 (by decide) (by omega) (by omega) (fun c_180 => ?_) (fun c_180 => ?_)
                            · refine y_iinc_n hC dL_fills_226 (a := 2) (k := 1) rfl (by decide) (Nat.le_of_ble_eq_true rfl) rfl (lo' := [some (rf E (0)), some (rf E (103)), some (.int (x)), some (.int (y)), some (.int (nI (z))), some (.int (nI (s))), some (.int (nI (px S.r s))), some (rf E (104)), some (.int (nI (n))), some (.int (nI (k))), some (.int (nI (2 + 1))), some (.int (nI (cc % 8))), some (.int (nI (((cc) / (8)) + 1)))]) rfl ?_
                              refine y_goto (tgt := 90) hC dL_fills_229 (by decide) ?_
                              have hnw : ∀ q, nb cc 2 q → px S.r q = px S.r s → A q = true := fun q hq _ => by
                                unfold nb at hq
                                exfalso
                                omega
                              have hws9 : ∀ w2, w2 < 2 + 1 → ∀ q, nb cc w2 q → px S.r q = px S.r s → A q = true := fun w2 h2 q hq hp => by
                                by_cases e : w2 = 2
                                · rw [e] at hq; exact hnw q hq hp
                                · exact hws w2 (by omega) q hq hp
                              refine y_fg 11 (lo' := [some (rf E (0)), some (rf E (103)), some (.int (x)), some (.int (y)), some (.int (nI (z))), some (.int (nI (s))), some (.int (nI (px S.r s))), some (rf E (104)), some (.int (nI (n))), some (.int (nI (k))), some (.int (nI (2 + 1))), none, some (.int (nI (((cc) / (8)) + 1)))]) rfl ?_
                              refine y_fg 12 (lo' := [some (rf E (0)), some (rf E (103)), some (.int (x)), some (.int (y)), some (.int (nI (z))), some (.int (nI (s))), some (.int (nI (px S.r s))), some (rf E (104)), some (.int (nI (n))), some (.int (nI (k))), some (.int (nI (2 + 1))), none, none]) rfl ?_
                              exact ih_90 (2 + 1) n A Q wa gg (by omega) (by omega) hkn hL h104 hwa hI hcl hA hQk hws9
                            · obtain ⟨qq, hqq⟩ : ∃ q, q = 8 * (cc / 8 + 1) + cc % 8 := ⟨_, rfl⟩
                              have hq64 : qq < 64 := by omega
                              have hnq : nb cc 2 qq := by unfold nb; omega
                              have hone : ∀ q, nb cc 2 q → q = qq := fun q hq => by unfold nb at hq; omega
                              refine y_aload_n hC dL_fills_183 (i := 1) rfl rfl ?_
                              refine y_bipush (v := nI 8) hC dL_fills_184 (by decide) ?_
                              refine y_iload hC dL_fills_186 rfl ?_
                              refine y_imul_n hC dL_fills_188 ?_
                              refine y_iload hC dL_fills_189 rfl ?_
                              refine y_iadd_n hC dL_fills_191 ?_
                              refine y_iald hC dL_fills_192 (k := 103) (j := qq) (by have := hL.k; omega) hL.a103 (by rw [hqq]) (hq64) (by decide) ?_
                              refine y_iload hC dL_fills_193 rfl ?_
                              refine y_icmp_ne (tgt := 226) hC dL_fills_195 (by decide) (fun c_195 => ?_) (fun c_195 => ?_)
                              · refine y_iinc_n hC dL_fills_226 (a := 2) (k := 1) rfl (by decide) (Nat.le_of_ble_eq_true rfl) rfl (lo' := [some (rf E (0)), some (rf E (103)), some (.int (x)), some (.int (y)), some (.int (nI (z))), some (.int (nI (s))), some (.int (nI (px S.r s))), some (rf E (104)), some (.int (nI (n))), some (.int (nI (k))), some (.int (nI (2 + 1))), some (.int (nI (cc % 8))), some (.int (nI (((cc) / (8)) + 1)))]) rfl ?_
                                refine y_goto (tgt := 90) hC dL_fills_229 (by decide) ?_
                                have hnw : ∀ q, nb cc 2 q → px S.r q = px S.r s → A q = true := fun q hq hp => by
                                  rw [hone q hq] at hp ⊢
                                  apply Decidable.byContradiction
                                  intro hA9
                                  exact c_195 (by unfold prF; rw [if_neg hA9, hpi qq hq64, hp])
                                have hws9 : ∀ w2, w2 < 2 + 1 → ∀ q, nb cc w2 q → px S.r q = px S.r s → A q = true := fun w2 h2 q hq hp => by
                                  by_cases e : w2 = 2
                                  · rw [e] at hq; exact hnw q hq hp
                                  · exact hws w2 (by omega) q hq hp
                                refine y_fg 11 (lo' := [some (rf E (0)), some (rf E (103)), some (.int (x)), some (.int (y)), some (.int (nI (z))), some (.int (nI (s))), some (.int (nI (px S.r s))), some (rf E (104)), some (.int (nI (n))), some (.int (nI (k))), some (.int (nI (2 + 1))), none, some (.int (nI (((cc) / (8)) + 1)))]) rfl ?_
                                refine y_fg 12 (lo' := [some (rf E (0)), some (rf E (103)), some (.int (x)), some (.int (y)), some (.int (nI (z))), some (.int (nI (s))), some (.int (nI (px S.r s))), some (rf E (104)), some (.int (nI (n))), some (.int (nI (k))), some (.int (nI (2 + 1))), none, none]) rfl ?_
                                exact ih_90 (2 + 1) n A Q wa gg (by omega) (by omega) hkn hL h104 hwa hI hcl hA hQk hws9
                              · have hAq : A qq = false := by
                                  cases e : A qq with
                                  | false => rfl
                                  | true =>
                                    exfalso
                                    unfold prF at c_195
                                    rw [if_pos e] at c_195
                                    exact hzc ((nI_eq (by omega) (by omega)).mp c_195).symm
                                have hpq : px S.r qq = px S.r s := by
                                  unfold prF at c_195
                                  rw [if_neg (by rw [hAq]; decide), hpi qq hq64] at c_195
                                  have hb9 := (hv.2.2.2.2.2.2.1 qq hq64).2
                                  exact (nI_eq (by omega) (by omega)).mp c_195
                                have hrch : Rch S.r s qq := (hI.2.2 cc (by rw [← hQk]; exact (hI.1 k hkn).2)).2.1.st (nb_adj hnq) hpq
                                have hn64 : n < 64 := by
                                  have h1 := hI.le
                                  have h2 := cn_lt hq64 hAq
                                  omega
                                refine y_aload_n hC dL_fills_198 (i := 1) rfl rfl ?_
                                refine y_bipush (v := nI 8) hC dL_fills_199 (by decide) ?_
                                refine y_iload hC dL_fills_201 rfl ?_
                                refine y_imul_n hC dL_fills_203 ?_
                                refine y_iload hC dL_fills_204 rfl ?_
                                refine y_iadd_n hC dL_fills_206 ?_
                                refine y_iload hC dL_fills_207 rfl ?_
                                refine y_iast hC dL_fills_209 (k := 103) (j := qq) (by have := hL.k; omega) hL.a103 (by rw [hqq]) (hq64) (by decide) ?_
                                have hL_209 := hL.up (upd (prF p A z) (qq) (nI (z)))
                                have hx104_209 : (va_up gg (103) (aI E 0 64 (upd (prF p A z) (qq) (nI (z))))) 104 = _ := (va_up_ne _ _ (by decide)).trans (h104)
                                generalize (va_up gg (103) (aI E 0 64 (upd (prF p A z) (qq) (nI (z))))) = G_209 at hL_209 hx104_209 ⊢
                                rw [prF_s] at hL_209
                                refine y_aload hC dL_fills_210 rfl ?_
                                refine y_iload hC dL_fills_212 rfl ?_
                                refine y_bipush (v := nI 8) hC dL_fills_214 (by decide) ?_
                                refine y_iload hC dL_fills_216 rfl ?_
                                refine y_imul_n hC dL_fills_218 ?_
                                refine y_iload hC dL_fills_219 rfl ?_
                                refine y_iadd_n hC dL_fills_221 ?_
                                refine y_top (y := nI (qq)) (congrArg nI hqq.symm) ?_
                                refine y_iast hC dL_fills_222 (k := 104) (j := n) (by omega) hx104_209 (rfl) (by omega) (by decide) ?_
                                have hL_222 := hL_209.ut (k := 104) (by decide) (aI E 0 64 (upd wa (n) (nI (qq))))
                                have hx104_222 : (va_up G_209 (104) (aI E 0 64 (upd wa (n) (nI (qq))))) 104 = _ := va_up_self _ _ _
                                generalize (va_up G_209 (104) (aI E 0 64 (upd wa (n) (nI (qq))))) = G_222 at hL_222 hx104_222 ⊢
                                refine y_iinc_n hC dL_fills_223 (a := n) (k := 1) rfl (by decide) (Nat.le_of_ble_eq_true rfl) rfl (lo' := [some (rf E (0)), some (rf E (103)), some (.int (x)), some (.int (y)), some (.int (nI (z))), some (.int (nI (s))), some (.int (nI (px S.r s))), some (rf E (104)), some (.int (nI (n + 1))), some (.int (nI (k))), some (.int (nI (2))), some (.int (nI (cc % 8))), some (.int (nI (((cc) / (8)) + 1)))]) rfl ?_
                                refine y_iinc_n hC dL_fills_226 (a := 2) (k := 1) rfl (by decide) (Nat.le_of_ble_eq_true rfl) rfl (lo' := [some (rf E (0)), some (rf E (103)), some (.int (x)), some (.int (y)), some (.int (nI (z))), some (.int (nI (s))), some (.int (nI (px S.r s))), some (rf E (104)), some (.int (nI (n + 1))), some (.int (nI (k))), some (.int (nI (2 + 1))), some (.int (nI (cc % 8))), some (.int (nI (((cc) / (8)) + 1)))]) rfl ?_
                                refine y_goto (tgt := 90) hC dL_fills_229 (by decide) ?_
                                have hcl9 : ∀ i, i < k → ∀ q, adj (va_up Q n qq i) q → px S.r q = px S.r s → va_up A qq true q = true := fun i hi q ha hp => by
                                  rw [va_up_ne _ _ (show i ≠ n by omega)] at ha
                                  exact up_m (hcl i hi q ha hp)
                                have hwa9 : ∀ j, j < n + 1 → upd wa n (nI qq) j = nI (va_up Q n qq j) := fun j hj => by
                                  by_cases e : j = n
                                  · rw [e, pk_us, va_up_self]
                                  · rw [pk_un e, va_up_ne _ _ e]; exact hwa j (by omega)
                                have hws9 : ∀ w2, w2 < 2 + 1 → ∀ q, nb cc w2 q → px S.r q = px S.r s → va_up A qq true q = true := fun w2 h2 q hq hp => by
                                  by_cases e : w2 = 2
                                  · rw [e] at hq; rw [hone q hq, va_up_self]
                                  · exact up_m (hws w2 (by omega) q hq hp)
                                refine y_fg 11 (lo' := [some (rf E (0)), some (rf E (103)), some (.int (x)), some (.int (y)), some (.int (nI (z))), some (.int (nI (s))), some (.int (nI (px S.r s))), some (rf E (104)), some (.int (nI (n + 1))), some (.int (nI (k))), some (.int (nI (2 + 1))), none, some (.int (nI (((cc) / (8)) + 1)))]) rfl ?_
                                refine y_fg 12 (lo' := [some (rf E (0)), some (rf E (103)), some (.int (x)), some (.int (y)), some (.int (nI (z))), some (.int (nI (s))), some (.int (nI (px S.r s))), some (rf E (104)), some (.int (nI (n + 1))), some (.int (nI (k))), some (.int (nI (2 + 1))), none, none]) rfl ?_
                                exact ih_90 (2 + 1) (n + 1) (va_up A qq true) (va_up Q n qq) (upd wa n (nI qq)) G_222 (by omega) (by omega) (by omega) hL_222 hx104_222 hwa9 (hI.add hq64 hAq hrch) hcl9 (up_m hA) (by rw [va_up_ne _ _ (show k ≠ n by omega)]; exact hQk) hws9
                  · exfalso
                    omega
                · exfalso
                  omega
              · refine y_aload hC dL_fills_96 rfl ?_
                refine y_iload hC dL_fills_98 rfl ?_
                refine y_iald hC dL_fills_100 (k := 104) (j := k) (by omega) h104 (rfl) (by omega) (by decide) ?_
                refine y_top (y := nI (cc)) ((hwa k hkn).trans (congrArg nI hQk)) ?_
                refine y_bipush (v := nI 8) hC dL_fills_101 (by decide) ?_
                refine y_irem_n hC dL_fills_103 (by omega) (by omega) (by omega) ?_
                refine y_iload hC dL_fills_104 rfl ?_
                refine y_if_ne_n (tgt := 113) hC dL_fills_106 (by decide) (by omega) (fun c_106 => ?_) (fun c_106 => ?_)
                · refine y_iload hC dL_fills_113 rfl ?_
                  refine y_iconst (v := nI 1) hC dL_fills_115 (by decide) ?_
                  refine y_icmp_ne_n (tgt := 123) hC dL_fills_116 (by decide) (by omega) (by omega) (fun c_116 => ?_) (fun c_116 => ?_)
                  · refine y_iconst (v := nI 0) hC dL_fills_123 (by decide) ?_
                    refine y_iadd_n hC dL_fills_124 ?_
                    refine y_top (y := nI (cc % 8)) (rfl) ?_
                    refine y_istore hC dL_fills_125 (Nat.le_of_ble_eq_true rfl) rfl (lo' := [some (rf E (0)), some (rf E (103)), some (.int (x)), some (.int (y)), some (.int (nI (z))), some (.int (nI (s))), some (.int (nI (px S.r s))), some (rf E (104)), some (.int (nI (n))), some (.int (nI (k))), some (.int (nI (3))), some (.int (nI (cc % 8))), none]) rfl ?_
                    refine y_aload hC dL_fills_127 rfl ?_
                    refine y_iload hC dL_fills_129 rfl ?_
                    refine y_iald hC dL_fills_131 (k := 104) (j := k) (by omega) h104 (rfl) (by omega) (by decide) ?_
                    refine y_top (y := nI (cc)) ((hwa k hkn).trans (congrArg nI hQk)) ?_
                    refine y_bipush (v := nI 8) hC dL_fills_132 (by decide) ?_
                    refine y_idiv_n hC dL_fills_134 (by omega) (by omega) (by omega) ?_
                    refine y_iload hC dL_fills_135 rfl ?_
                    refine y_iconst (v := nI 2) hC dL_fills_137 (by decide) ?_
                    refine y_icmp_ne_n (tgt := 145) hC dL_fills_138 (by decide) (by omega) (by omega) (fun c_138 => ?_) (fun c_138 => ?_)
                    · refine y_iload hC dL_fills_145 rfl ?_
                      refine y_iconst (v := nI 3) hC dL_fills_147 (by decide) ?_
                      refine y_icmp_ne_n (tgt := 155) hC dL_fills_148 (by decide) (by omega) (by omega) (fun c_148 => ?_) (fun c_148 => ?_)
                      · exfalso
                        omega
                      · refine y_iconst (v := (-1)) hC dL_fills_151 (by decide) ?_
                        refine y_goto (tgt := 156) hC dL_fills_152 (by decide) ?_
                        refine y_iadd hC dL_fills_156 ?_
                        refine y_istore hC dL_fills_157 (Nat.le_of_ble_eq_true rfl) rfl (lo' := [some (rf E (0)), some (rf E (103)), some (.int (x)), some (.int (y)), some (.int (nI (z))), some (.int (nI (s))), some (.int (nI (px S.r s))), some (rf E (104)), some (.int (nI (n))), some (.int (nI (k))), some (.int (nI (3))), some (.int (nI (cc % 8))), some (.int (nI ((cc) / (8)) + ((-1))))]) rfl ?_
                        refine y_iload hC dL_fills_159 rfl ?_
                        refine y_if_lt_n (tgt := 226) hC dL_fills_161 (by decide) (by omega) (fun c_161 => ?_) (fun c_161 => ?_)
                        · exfalso
                          omega
                        · refine y_iload hC dL_fills_164 rfl ?_
                          refine y_bipush (v := nI 8) hC dL_fills_166 (by decide) ?_
                          refine y_icmp_ge_n (tgt := 226) hC dL_fills_168 (by decide) (by omega) (by omega) (fun c_168 => ?_) (fun c_168 => ?_)
                          · refine y_iinc_n hC dL_fills_226 (a := 3) (k := 1) rfl (by decide) (Nat.le_of_ble_eq_true rfl) rfl (lo' := [some (rf E (0)), some (rf E (103)), some (.int (x)), some (.int (y)), some (.int (nI (z))), some (.int (nI (s))), some (.int (nI (px S.r s))), some (rf E (104)), some (.int (nI (n))), some (.int (nI (k))), some (.int (nI (3 + 1))), some (.int (nI (cc % 8))), some (.int (nI ((cc) / (8)) + ((-1))))]) rfl ?_
                            refine y_goto (tgt := 90) hC dL_fills_229 (by decide) ?_
                            have hnw : ∀ q, nb cc 3 q → px S.r q = px S.r s → A q = true := fun q hq _ => by
                              unfold nb at hq
                              exfalso
                              omega
                            have hws9 : ∀ w2, w2 < 3 + 1 → ∀ q, nb cc w2 q → px S.r q = px S.r s → A q = true := fun w2 h2 q hq hp => by
                              by_cases e : w2 = 3
                              · rw [e] at hq; exact hnw q hq hp
                              · exact hws w2 (by omega) q hq hp
                            refine y_fg 11 (lo' := [some (rf E (0)), some (rf E (103)), some (.int (x)), some (.int (y)), some (.int (nI (z))), some (.int (nI (s))), some (.int (nI (px S.r s))), some (rf E (104)), some (.int (nI (n))), some (.int (nI (k))), some (.int (nI (3 + 1))), none, some (.int (nI ((cc) / (8)) + ((-1))))]) rfl ?_
                            refine y_fg 12 (lo' := [some (rf E (0)), some (rf E (103)), some (.int (x)), some (.int (y)), some (.int (nI (z))), some (.int (nI (s))), some (.int (nI (px S.r s))), some (rf E (104)), some (.int (nI (n))), some (.int (nI (k))), some (.int (nI (3 + 1))), none, none]) rfl ?_
                            exact ih_90 (3 + 1) n A Q wa gg (by omega) (by omega) hkn hL h104 hwa hI hcl hA hQk hws9
                          · refine y_iload hC dL_fills_171 rfl ?_
                            refine y_if_lt (tgt := 226) hC dL_fills_173 (by decide) (fun c_173 => ?_) (fun c_173 => ?_)
                            · have hz0 := zdm0 (by omega) c_173
                              refine y_iinc_n hC dL_fills_226 (a := 3) (k := 1) rfl (by decide) (Nat.le_of_ble_eq_true rfl) rfl (lo' := [some (rf E (0)), some (rf E (103)), some (.int (x)), some (.int (y)), some (.int (nI (z))), some (.int (nI (s))), some (.int (nI (px S.r s))), some (rf E (104)), some (.int (nI (n))), some (.int (nI (k))), some (.int (nI (3 + 1))), some (.int (nI (cc % 8))), some (.int (nI ((cc) / (8)) + ((-1))))]) rfl ?_
                              refine y_goto (tgt := 90) hC dL_fills_229 (by decide) ?_
                              have hnw : ∀ q, nb cc 3 q → px S.r q = px S.r s → A q = true := fun q hq _ => by
                                unfold nb at hq
                                exfalso
                                omega
                              have hws9 : ∀ w2, w2 < 3 + 1 → ∀ q, nb cc w2 q → px S.r q = px S.r s → A q = true := fun w2 h2 q hq hp => by
                                by_cases e : w2 = 3
                                · rw [e] at hq; exact hnw q hq hp
                                · exact hws w2 (by omega) q hq hp
                              refine y_fg 11 (lo' := [some (rf E (0)), some (rf E (103)), some (.int (x)), some (.int (y)), some (.int (nI (z))), some (.int (nI (s))), some (.int (nI (px S.r s))), some (rf E (104)), some (.int (nI (n))), some (.int (nI (k))), some (.int (nI (3 + 1))), none, some (.int (nI ((cc) / (8)) + ((-1))))]) rfl ?_
                              refine y_fg 12 (lo' := [some (rf E (0)), some (rf E (103)), some (.int (x)), some (.int (y)), some (.int (nI (z))), some (.int (nI (s))), some (.int (nI (px S.r s))), some (rf E (104)), some (.int (nI (n))), some (.int (nI (k))), some (.int (nI (3 + 1))), none, none]) rfl ?_
                              exact ih_90 (3 + 1) n A Q wa gg (by omega) (by omega) hkn hL h104 hwa hI hcl hA hQk hws9
                            · have hz0 := zdm2 (by omega) c_173
                              refine y_lo (lo' := [some (rf E (0)), some (rf E (103)), some (.int (x)), some (.int (y)), some (.int (nI (z))), some (.int (nI (s))), some (.int (nI (px S.r s))), some (rf E (104)), some (.int (nI (n))), some (.int (nI (k))), some (.int (nI (3))), some (.int (nI (cc % 8))), some (.int (nI (cc / 8 - 1)))]) (by rw [zdm1 (by omega) hz0]) ?_
                              refine y_iload hC dL_fills_176 rfl ?_
                              refine y_bipush (v := nI 8) hC dL_fills_178 (by decide) ?_
                              refine y_icmp_ge_n (tgt := 226) hC dL_fills_180 (by decide) (by omega) (by omega) (fun c_180 => ?_) (fun c_180 => ?_)
                              · refine y_iinc_n hC dL_fills_226 (a := 3) (k := 1) rfl (by decide) (Nat.le_of_ble_eq_true rfl) rfl (lo' := [some (rf E (0)), some (rf E (103)), some (.int (x)), some (.int (y)), some (.int (nI (z))), some (.int (nI (s))), some (.int (nI (px S.r s))), some (rf E (104)), some (.int (nI (n))), some (.int (nI (k))), some (.int (nI (3 + 1))), some (.int (nI (cc % 8))), some (.int (nI (cc / 8 - 1)))]) rfl ?_
                                refine y_goto (tgt := 90) hC dL_fills_229 (by decide) ?_
                                have hnw : ∀ q, nb cc 3 q → px S.r q = px S.r s → A q = true := fun q hq _ => by
                                  unfold nb at hq
                                  exfalso
                                  omega
                                have hws9 : ∀ w2, w2 < 3 + 1 → ∀ q, nb cc w2 q → px S.r q = px S.r s → A q = true := fun w2 h2 q hq hp => by
                                  by_cases e : w2 = 3
                                  · rw [e] at hq; exact hnw q hq hp
                                  · exact hws w2 (by omega) q hq hp
                                refine y_fg 11 (lo' := [some (rf E (0)), some (rf E (103)), some (.int (x)), some (.int (y)), some (.int (nI (z))), some (.int (nI (s))), some (.int (nI (px S.r s))), some (rf E (104)), some (.int (nI (n))), some (.int (nI (k))), some (.int (nI (3 + 1))), none, some (.int (nI (cc / 8 - 1)))]) rfl ?_
                                refine y_fg 12 (lo' := [some (rf E (0)), some (rf E (103)), some (.int (x)), some (.int (y)), some (.int (nI (z))), some (.int (nI (s))), some (.int (nI (px S.r s))), some (rf E (104)), some (.int (nI (n))), some (.int (nI (k))), some (.int (nI (3 + 1))), none, none]) rfl ?_
                                exact ih_90 (3 + 1) n A Q wa gg (by omega) (by omega) hkn hL h104 hwa hI hcl hA hQk hws9
                              · obtain ⟨qq, hqq⟩ : ∃ q, q = 8 * (cc / 8 - 1) + cc % 8 := ⟨_, rfl⟩
                                have hq64 : qq < 64 := by omega
                                have hnq : nb cc 3 qq := by unfold nb; omega
                                have hone : ∀ q, nb cc 3 q → q = qq := fun q hq => by unfold nb at hq; omega
                                refine y_aload_n hC dL_fills_183 (i := 1) rfl rfl ?_
                                refine y_bipush (v := nI 8) hC dL_fills_184 (by decide) ?_
                                refine y_iload hC dL_fills_186 rfl ?_
                                refine y_imul_n hC dL_fills_188 ?_
                                refine y_iload hC dL_fills_189 rfl ?_
                                refine y_iadd_n hC dL_fills_191 ?_
                                refine y_iald hC dL_fills_192 (k := 103) (j := qq) (by have := hL.k; omega) hL.a103 (by rw [hqq]) (hq64) (by decide) ?_
                                refine y_iload hC dL_fills_193 rfl ?_
                                refine y_icmp_ne (tgt := 226) hC dL_fills_195 (by decide) (fun c_195 => ?_) (fun c_195 => ?_)
                                · refine y_iinc_n hC dL_fills_226 (a := 3) (k := 1) rfl (by decide) (Nat.le_of_ble_eq_true rfl) rfl (lo' := [some (rf E (0)), some (rf E (103)), some (.int (x)), some (.int (y)), some (.int (nI (z))), some (.int (nI (s))), some (.int (nI (px S.r s))), some (rf E (104)), some (.int (nI (n))), some (.int (nI (k))), some (.int (nI (3 + 1))), some (.int (nI (cc % 8))), some (.int (nI (cc / 8 - 1)))]) rfl ?_
                                  refine y_goto (tgt := 90) hC dL_fills_229 (by decide) ?_
                                  have hnw : ∀ q, nb cc 3 q → px S.r q = px S.r s → A q = true := fun q hq hp => by
                                    rw [hone q hq] at hp ⊢
                                    apply Decidable.byContradiction
                                    intro hA9
                                    exact c_195 (by unfold prF; rw [if_neg hA9, hpi qq hq64, hp])
                                  have hws9 : ∀ w2, w2 < 3 + 1 → ∀ q, nb cc w2 q → px S.r q = px S.r s → A q = true := fun w2 h2 q hq hp => by
                                    by_cases e : w2 = 3
                                    · rw [e] at hq; exact hnw q hq hp
                                    · exact hws w2 (by omega) q hq hp
                                  refine y_fg 11 (lo' := [some (rf E (0)), some (rf E (103)), some (.int (x)), some (.int (y)), some (.int (nI (z))), some (.int (nI (s))), some (.int (nI (px S.r s))), some (rf E (104)), some (.int (nI (n))), some (.int (nI (k))), some (.int (nI (3 + 1))), none, some (.int (nI (cc / 8 - 1)))]) rfl ?_
                                  refine y_fg 12 (lo' := [some (rf E (0)), some (rf E (103)), some (.int (x)), some (.int (y)), some (.int (nI (z))), some (.int (nI (s))), some (.int (nI (px S.r s))), some (rf E (104)), some (.int (nI (n))), some (.int (nI (k))), some (.int (nI (3 + 1))), none, none]) rfl ?_
                                  exact ih_90 (3 + 1) n A Q wa gg (by omega) (by omega) hkn hL h104 hwa hI hcl hA hQk hws9
                                · have hAq : A qq = false := by
                                    cases e : A qq with
                                    | false => rfl
                                    | true =>
                                      exfalso
                                      unfold prF at c_195
                                      rw [if_pos e] at c_195
                                      exact hzc ((nI_eq (by omega) (by omega)).mp c_195).symm
                                  have hpq : px S.r qq = px S.r s := by
                                    unfold prF at c_195
                                    rw [if_neg (by rw [hAq]; decide), hpi qq hq64] at c_195
                                    have hb9 := (hv.2.2.2.2.2.2.1 qq hq64).2
                                    exact (nI_eq (by omega) (by omega)).mp c_195
                                  have hrch : Rch S.r s qq := (hI.2.2 cc (by rw [← hQk]; exact (hI.1 k hkn).2)).2.1.st (nb_adj hnq) hpq
                                  have hn64 : n < 64 := by
                                    have h1 := hI.le
                                    have h2 := cn_lt hq64 hAq
                                    omega
                                  refine y_aload_n hC dL_fills_198 (i := 1) rfl rfl ?_
                                  refine y_bipush (v := nI 8) hC dL_fills_199 (by decide) ?_
                                  refine y_iload hC dL_fills_201 rfl ?_
                                  refine y_imul_n hC dL_fills_203 ?_
                                  refine y_iload hC dL_fills_204 rfl ?_
                                  refine y_iadd_n hC dL_fills_206 ?_
                                  refine y_iload hC dL_fills_207 rfl ?_
                                  refine y_iast hC dL_fills_209 (k := 103) (j := qq) (by have := hL.k; omega) hL.a103 (by rw [hqq]) (hq64) (by decide) ?_
                                  have hL_209 := hL.up (upd (prF p A z) (qq) (nI (z)))
                                  have hx104_209 : (va_up gg (103) (aI E 0 64 (upd (prF p A z) (qq) (nI (z))))) 104 = _ := (va_up_ne _ _ (by decide)).trans (h104)
                                  generalize (va_up gg (103) (aI E 0 64 (upd (prF p A z) (qq) (nI (z))))) = G_209 at hL_209 hx104_209 ⊢
                                  rw [prF_s] at hL_209
                                  refine y_aload hC dL_fills_210 rfl ?_
                                  refine y_iload hC dL_fills_212 rfl ?_
                                  refine y_bipush (v := nI 8) hC dL_fills_214 (by decide) ?_
                                  refine y_iload hC dL_fills_216 rfl ?_
                                  refine y_imul_n hC dL_fills_218 ?_
                                  refine y_iload hC dL_fills_219 rfl ?_
                                  refine y_iadd_n hC dL_fills_221 ?_
                                  refine y_top (y := nI (qq)) (congrArg nI hqq.symm) ?_
                                  refine y_iast hC dL_fills_222 (k := 104) (j := n) (by omega) hx104_209 (rfl) (by omega) (by decide) ?_
                                  have hL_222 := hL_209.ut (k := 104) (by decide) (aI E 0 64 (upd wa (n) (nI (qq))))
                                  have hx104_222 : (va_up G_209 (104) (aI E 0 64 (upd wa (n) (nI (qq))))) 104 = _ := va_up_self _ _ _
                                  generalize (va_up G_209 (104) (aI E 0 64 (upd wa (n) (nI (qq))))) = G_222 at hL_222 hx104_222 ⊢
                                  refine y_iinc_n hC dL_fills_223 (a := n) (k := 1) rfl (by decide) (Nat.le_of_ble_eq_true rfl) rfl (lo' := [some (rf E (0)), some (rf E (103)), some (.int (x)), some (.int (y)), some (.int (nI (z))), some (.int (nI (s))), some (.int (nI (px S.r s))), some (rf E (104)), some (.int (nI (n + 1))), some (.int (nI (k))), some (.int (nI (3))), some (.int (nI (cc % 8))), some (.int (nI (cc / 8 - 1)))]) rfl ?_
                                  refine y_iinc_n hC dL_fills_226 (a := 3) (k := 1) rfl (by decide) (Nat.le_of_ble_eq_true rfl) rfl (lo' := [some (rf E (0)), some (rf E (103)), some (.int (x)), some (.int (y)), some (.int (nI (z))), some (.int (nI (s))), some (.int (nI (px S.r s))), some (rf E (104)), some (.int (nI (n + 1))), some (.int (nI (k))), some (.int (nI (3 + 1))), some (.int (nI (cc % 8))), some (.int (nI (cc / 8 - 1)))]) rfl ?_
                                  refine y_goto (tgt := 90) hC dL_fills_229 (by decide) ?_
                                  have hcl9 : ∀ i, i < k → ∀ q, adj (va_up Q n qq i) q → px S.r q = px S.r s → va_up A qq true q = true := fun i hi q ha hp => by
                                    rw [va_up_ne _ _ (show i ≠ n by omega)] at ha
                                    exact up_m (hcl i hi q ha hp)
                                  have hwa9 : ∀ j, j < n + 1 → upd wa n (nI qq) j = nI (va_up Q n qq j) := fun j hj => by
                                    by_cases e : j = n
                                    · rw [e, pk_us, va_up_self]
                                    · rw [pk_un e, va_up_ne _ _ e]; exact hwa j (by omega)
                                  have hws9 : ∀ w2, w2 < 3 + 1 → ∀ q, nb cc w2 q → px S.r q = px S.r s → va_up A qq true q = true := fun w2 h2 q hq hp => by
                                    by_cases e : w2 = 3
                                    · rw [e] at hq; rw [hone q hq, va_up_self]
                                    · exact up_m (hws w2 (by omega) q hq hp)
                                  refine y_fg 11 (lo' := [some (rf E (0)), some (rf E (103)), some (.int (x)), some (.int (y)), some (.int (nI (z))), some (.int (nI (s))), some (.int (nI (px S.r s))), some (rf E (104)), some (.int (nI (n + 1))), some (.int (nI (k))), some (.int (nI (3 + 1))), none, some (.int (nI (cc / 8 - 1)))]) rfl ?_
                                  refine y_fg 12 (lo' := [some (rf E (0)), some (rf E (103)), some (.int (x)), some (.int (y)), some (.int (nI (z))), some (.int (nI (s))), some (.int (nI (px S.r s))), some (rf E (104)), some (.int (nI (n + 1))), some (.int (nI (k))), some (.int (nI (3 + 1))), none, none]) rfl ?_
                                  exact ih_90 (3 + 1) (n + 1) (va_up A qq true) (va_up Q n qq) (upd wa n (nI qq)) G_222 (by omega) (by omega) (by omega) hL_222 hx104_222 hwa9 (hI.add hq64 hAq hrch) hcl9 (up_m hA) (by rw [va_up_ne _ _ (show k ≠ n by omega)]; exact hQk) hws9
                    · exfalso
                      omega
                  · exfalso
                    omega
                · exfalso
                  omega
        exact L_90 5 0 n A Q wa gg (by omega) (by omega) hkn hL h104 hwa hI hcl hA hcce.symm (fun w2 h2 => absurd h2 (Nat.not_lt_zero w2))
  exact L_80 65 0 1 (va_up (fun _ => false) s true) (va_up (fun _ => 0) 0 s) (upd w104 0 (nI s)) G_76 (by omega) (by omega) hL_76 hx104_76 (fun j hj => by rw [show j = 0 by omega, pk_us, va_up_self]) (fi_one hs) (fun i hi => absurd hi (Nat.not_lt_zero i)) (va_up_self _ _ _)

set_option maxHeartbeats 4000000 in
set_option maxRecDepth 100000 in
theorem c_L_fills (l : Launch) (G : va_G) (T : Nat → ClassId) (b : Nat) (g : Mem) (S : AS) (c r h p : Nat → Int32) (hL : LWP (zE G T b 100) (zE G T b 104) g S c r h p) (B M : Nat) (hB : B ≤ 9000000) (hM : M ≤ 90000000) (hI : IV S c r h p B M) (x y : Int32) : Mta l (zE G T b 104) (zA b) yL_fills cL_fills 13 (some .boolean) 4 93 1 64 [rf (zE G T b 104) (0), rf (zE G T b 104) (103), .int (x), .int (y)] g (pI (fun z g' => z = nI 1 ∧ ∃ (S' : AS) (c' r' h' p' : Nat → Int32), LWP (zE G T b 100) (zE G T b 104) g' S' c' r' h' p' ∧ IV S' c' r' h' p' (B + 100000) (M + 1000))) := by
  obtain ⟨ho, ⟨a, K, hq⟩, hg, hcl, hvc, hpi⟩ := id hI
  have hv := ho.v
  obtain ⟨z, ze⟩ : ∃ f, f = lw (y) (6) := ⟨_, rfl⟩
  have hz6 := lw_lt (x := y) (n := 6) (by decide)
  rw [← ze] at hz6
  have hz : z < 32 := by omega
  obtain ⟨s, se⟩ : ∃ f, f = lw (x) (64) := ⟨_, rfl⟩
  have hs := lw_lt (x := x) (n := 64) (by decide)
  rw [← se] at hs
  have hpb := (hv.2.2.2.2.2.2.1 s hs).2
  refine mta_go (own := RXL) (by decide) rfl (fun q hq => zgA hq) (lo := [some (rf (zE G T b 104) (0)), some (rf (zE G T b 104) (103)), some (.int (x)), some (.int (y)), none, none, none, none, none, none, none, none, none]) rfl (Nat.le_of_ble_eq_true rfl) (fun p_ e_ R_ s_ m_ args_ below_ meth_ cd_ H_ hP_ hH_ hC => ?_)
  have hnew : ∀ q, s_.heap.size ≤ q → zA b q := fun q hq => Nat.le_trans (by rw [← hH_]; exact zgH hP_) hq
  refine y_iload_n hC dL_fills_0 (i := 3) rfl rfl ?_
  refine y_bipush (v := nI 6) hC dL_fills_1 (by decide) ?_
  refine y_callS hC mL_low kXL_64 dL_fills_3 (As := [.int (y), .int (nI (6))]) (rest := []) (c_L_low l (zE G T b 104) g ((y)) (6) (by omega) (by omega)) rfl rfl rfl (Nat.le_of_ble_eq_true rfl) ⟨Nat.le_of_ble_eq_true rfl, Nat.le_of_ble_eq_true rfl⟩ (pk_i ?_)
  rintro r_3 g_3 ⟨hr_3, hq_3⟩
  obtain rfl := hq_3.symm
  rw [hr_3]
  clear hr_3 r_3
  refine y_top (y := nI (z)) (congrArg nI ze.symm) ?_
  refine y_istore hC dL_fills_6 (Nat.le_of_ble_eq_true rfl) rfl (lo' := [some (rf (zE G T b 104) (0)), some (rf (zE G T b 104) (103)), some (.int (x)), some (.int (y)), some (.int (nI (z))), none, none, none, none, none, none, none, none]) rfl ?_
  refine y_iload_n hC dL_fills_8 (i := 2) rfl rfl ?_
  refine y_bipush (v := nI 64) hC dL_fills_9 (by decide) ?_
  refine y_callS hC mL_low kXL_64 dL_fills_11 (As := [.int (x), .int (nI (64))]) (rest := []) (c_L_low l (zE G T b 104) g ((x)) (64) (by omega) (by omega)) rfl rfl rfl (Nat.le_of_ble_eq_true rfl) ⟨Nat.le_of_ble_eq_true rfl, Nat.le_of_ble_eq_true rfl⟩ (pk_i ?_)
  rintro r_11 g_11 ⟨hr_11, hq_11⟩
  obtain rfl := hq_11.symm
  rw [hr_11]
  clear hr_11 r_11
  refine y_top (y := nI (s)) (congrArg nI se.symm) ?_
  refine y_istore hC dL_fills_14 (Nat.le_of_ble_eq_true rfl) rfl (lo' := [some (rf (zE G T b 104) (0)), some (rf (zE G T b 104) (103)), some (.int (x)), some (.int (y)), some (.int (nI (z))), some (.int (nI (s))), none, none, none, none, none, none, none]) rfl ?_
  refine y_aload_n hC dL_fills_16 (i := 1) rfl rfl ?_
  refine y_iload hC dL_fills_17 rfl ?_
  refine y_iald hC dL_fills_19 (k := 103) (j := s) (by have := hL.k; omega) hL.a103 (rfl) (by omega) (by decide) ?_
  refine y_top (y := nI (px S.r s)) (hpi _ hs) ?_
  refine y_istore hC dL_fills_20 (Nat.le_of_ble_eq_true rfl) rfl (lo' := [some (rf (zE G T b 104) (0)), some (rf (zE G T b 104) (103)), some (.int (x)), some (.int (y)), some (.int (nI (z))), some (.int (nI (s))), some (.int (nI (px S.r s))), none, none, none, none, none, none]) rfl ?_
  refine y_iload hC dL_fills_22 rfl ?_
  refine y_iload hC dL_fills_24 rfl ?_
  refine y_icmp_ne_n (tgt := 56) hC dL_fills_26 (by decide) (by omega) (by omega) (fun c_26 => ?_) (fun c_26 => ?_)
  · refine y_bipush (v := nI 64) hC dL_fills_56 (by decide) ?_
    refine y_newa hC dL_fills_58 (N := 64) (E' := fun a => zX1 G T b a) rfl (by decide) ⟨Nat.le_of_ble_eq_true rfl, Nat.le_of_ble_eq_true rfl⟩ (fun a => zX1_add G T b a) hnew (fun a1 hC1 => ?_)
    refine y_astore hC1 (o := some 104) dL_fills_60 (i := 7) (Nat.le_of_ble_eq_true rfl) rfl (lo' := [some (rf (zX1 G T b a1) 0), some (rf (zX1 G T b a1) 103), some (.int x), some (.int y), some (.int (nI (z))), some (.int (nI (s))), some (.int (nI (px S.r s))), some (rf (zX1 G T b a1) 104), none, none, none, none, none]) rfl ?_
    exact w_fills2 l (zX1 G T b a1) _ (zE G T b 100) (zE G T b 104) _ S c r h p ((hL.ut (k := 104) (by decide) _).to (zs2 G T b a1) (by decide : 104 ≤ 105) rfl) rfl (zs1 G T b) (by decide : 104 ≤ 104) rfl B M hB hM hI x y s z hs hz c_26 (fun _ => 0) (va_up_self _ _ _) hC1
  · refine y_aload_n hC dL_fills_29 (i := 0) rfl rfl ?_
    refine y_iload hC dL_fills_30 rfl ?_
    refine y_bipush (v := nI 8) hC dL_fills_32 (by decide) ?_
    refine y_idiv_n hC dL_fills_34 (by omega) (by omega) (by omega) ?_
    refine y_iload hC dL_fills_35 rfl ?_
    refine y_bipush (v := nI 8) hC dL_fills_37 (by decide) ?_
    refine y_irem_n hC dL_fills_39 (by omega) (by omega) (by omega) ?_
    refine y_iload hC dL_fills_40 rfl ?_
    refine y_callVF hC hL.s mX5_fill kXL_124 dL_fills_42 (b := 0) (As := [.int (nI ((s) / (8))), .int (nI ((s) % (8))), .int (nI (z))]) (rest := []) (CPm hL.cp (fun sh mk wa hcq => c_X5_fill l (zE G T b 100) g S B (by omega) ho sh mk wa hcq (nI ((s) / (8))) (nI ((s) % (8))) (nI (z)))) hL.k0 hL.a0 rfl rfl rfl (Nat.le_of_ble_eq_true rfl) ⟨Nat.le_of_ble_eq_true rfl, Nat.le_of_ble_eq_true rfl⟩ (pkf_i ?_)
    rintro r_42 g_42 ⟨hr_42, hc_42⟩
    have he_42 := qf_5 (S := S) (k := s) (z := z) hs hz c_26
    rw [he_42] at hr_42 hc_42
    replace hr_42 : r_42 = ((-5)) := hr_42
    replace hc_42 : CP (zE G T b 100) g_42 (S) := hc_42
    rw [hr_42]
    clear hr_42 r_42
    have hL_42 := hL.call hc_42
    generalize mrg (eK (zE G T b 100)) g_42 g = G_42 at hL_42  ⊢
    refine y_bipush (v := (-5)) hC dL_fills_45 (by decide) ?_
    refine y_icmp_ne (tgt := 54) hC dL_fills_47 (by decide) (fun c_47 => ?_) (fun c_47 => ?_)
    · exact absurd rfl c_47
    · refine y_iconst (v := nI 1) hC dL_fills_50 (by decide) ?_
      refine y_goto (tgt := 55) hC dL_fills_51 (by decide) ?_
      refine y_zret (hrt := rfl) (hn := rfl) (hC := hC) (hd := dL_fills_55) (hq := ?_)
      exact ⟨rfl, S, c, r, h, p, hL_42, hI.le (by omega) (by omega)⟩

