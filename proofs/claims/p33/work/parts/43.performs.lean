/-! ===== the law: it performs a program of one repeat ===== -/
theorem qcl2 (S : AS) (t q d n : Nat) : qClearText S = (nI S.ln, tyS S 0 (ptx S.tx t q d n 0)) := by
  rw [ptx_0]
  rfl
theorem ok_tyc {S : AS} {B : Nat} {t q d n : Nat} (ho : OK S B) : OK (tyS S 0 (ptx S.tx t q d n 0)) B := by
  rw [ptx_0]
  exact ok_ty0 ho
theorem rc_pbd {q d n : Nat} (ρ : Row) (hd : d ≤ 5) : rc (pbd q d n ρ) = rc ρ := by
  unfold pbd
  rw [tkR_rc]
  split
  · exact rc_of (if_neg (by omega))
  · exact rc_of ((if_neg (by omega)).trans (if_neg (by decide)))
theorem pbd_1 {d n : Nat} {ρ : Row} : pbd 112 d n ρ = tkR (flpR ρ d) n := by
  unfold pbd
  rw [if_pos rfl]
theorem pbd_0 {d n : Nat} {ρ : Row} : pbd 107 d n ρ = tkR (stpR ρ d) n := by
  unfold pbd
  rw [if_neg (by decide)]
theorem rc_itF {q d n : Nat} (hd : d ≤ 5) : ∀ (i : Nat) (ρ : Row), rc (itF (pbd q d n) i ρ) = rc ρ
  | 0, _ => rfl
  | i + 1, ρ => (rc_itF hd i _).trans (rc_pbd ρ hd)
theorem dL_performs_0 : decode cL_performs 0 = .ok (.iconst 2, 1) := by decide +kernel
theorem dL_performs_1 : decode cL_performs 1 = .ok (.iload_n 3, 1) := by decide +kernel
theorem dL_performs_2 : decode cL_performs 2 = .ok (.bipush 8, 2) := by decide +kernel
theorem dL_performs_4 : decode cL_performs 4 = .ok (.invokestatic 64, 3) := by decide +kernel
theorem dL_performs_7 : decode cL_performs 7 = .ok (.iadd, 1) := by decide +kernel
theorem dL_performs_8 : decode cL_performs 8 = .ok (.istore 4, 2) := by decide +kernel
theorem dL_performs_10 : decode cL_performs 10 = .ok (.iload_n 3, 1) := by decide +kernel
theorem dL_performs_11 : decode cL_performs 11 = .ok (.iconst 3, 1) := by decide +kernel
theorem dL_performs_12 : decode cL_performs 12 = .ok (.ishr, 1) := by decide +kernel
theorem dL_performs_13 : decode cL_performs 13 = .ok (.bipush 6, 2) := by decide +kernel
theorem dL_performs_15 : decode cL_performs 15 = .ok (.invokestatic 64, 3) := by decide +kernel
theorem dL_performs_18 : decode cL_performs 18 = .ok (.istore 5, 2) := by decide +kernel
theorem dL_performs_20 : decode cL_performs 20 = .ok (.iconst 1, 1) := by decide +kernel
theorem dL_performs_21 : decode cL_performs 21 = .ok (.iload_n 3, 1) := by decide +kernel
theorem dL_performs_22 : decode cL_performs 22 = .ok (.bipush 6, 2) := by decide +kernel
theorem dL_performs_24 : decode cL_performs 24 = .ok (.ishr, 1) := by decide +kernel
theorem dL_performs_25 : decode cL_performs 25 = .ok (.bipush 9, 2) := by decide +kernel
theorem dL_performs_27 : decode cL_performs 27 = .ok (.invokestatic 64, 3) := by decide +kernel
theorem dL_performs_30 : decode cL_performs 30 = .ok (.iadd, 1) := by decide +kernel
theorem dL_performs_31 : decode cL_performs 31 = .ok (.istore 6, 2) := by decide +kernel
theorem dL_performs_33 : decode cL_performs 33 = .ok (.iload_n 3, 1) := by decide +kernel
theorem dL_performs_34 : decode cL_performs 34 = .ok (.bipush 10, 2) := by decide +kernel
theorem dL_performs_36 : decode cL_performs 36 = .ok (.ishr, 1) := by decide +kernel
theorem dL_performs_37 : decode cL_performs 37 = .ok (.iconst 2, 1) := by decide +kernel
theorem dL_performs_38 : decode cL_performs 38 = .ok (.invokestatic 64, 3) := by decide +kernel
theorem dL_performs_41 : decode cL_performs 41 = .ok (.ifCond .ne 7, 3) := by decide +kernel
theorem dL_performs_44 : decode cL_performs 44 = .ok (.iconst 1, 1) := by decide +kernel
theorem dL_performs_45 : decode cL_performs 45 = .ok (.goto 4, 3) := by decide +kernel
theorem dL_performs_48 : decode cL_performs 48 = .ok (.iconst 0, 1) := by decide +kernel
theorem dL_performs_49 : decode cL_performs 49 = .ok (.istore 7, 2) := by decide +kernel
theorem dL_performs_51 : decode cL_performs 51 = .ok (.aload_n 0, 1) := by decide +kernel
theorem dL_performs_52 : decode cL_performs 52 = .ok (.invokevirtual 127, 3) := by decide +kernel
theorem dL_performs_55 : decode cL_performs 55 = .ok (.istore 8, 2) := by decide +kernel
theorem dL_performs_57 : decode cL_performs 57 = .ok (.aload_n 0, 1) := by decide +kernel
theorem dL_performs_58 : decode cL_performs 58 = .ok (.bipush 48, 2) := by decide +kernel
theorem dL_performs_60 : decode cL_performs 60 = .ok (.iload 4, 2) := by decide +kernel
theorem dL_performs_62 : decode cL_performs 62 = .ok (.iadd, 1) := by decide +kernel
theorem dL_performs_63 : decode cL_performs 63 = .ok (.i2c, 1) := by decide +kernel
theorem dL_performs_64 : decode cL_performs 64 = .ok (.invokevirtual 130, 3) := by decide +kernel
theorem dL_performs_67 : decode cL_performs 67 = .ok (.aload_n 0, 1) := by decide +kernel
theorem dL_performs_68 : decode cL_performs 68 = .ok (.bipush 40, 2) := by decide +kernel
theorem dL_performs_70 : decode cL_performs 70 = .ok (.invokevirtual 130, 3) := by decide +kernel
theorem dL_performs_73 : decode cL_performs 73 = .ok (.iadd, 1) := by decide +kernel
theorem dL_performs_74 : decode cL_performs 74 = .ok (.aload_n 0, 1) := by decide +kernel
theorem dL_performs_75 : decode cL_performs 75 = .ok (.iload 7, 2) := by decide +kernel
theorem dL_performs_77 : decode cL_performs 77 = .ok (.ifCond .eq 8, 3) := by decide +kernel
theorem dL_performs_80 : decode cL_performs 80 = .ok (.bipush 112, 2) := by decide +kernel
theorem dL_performs_82 : decode cL_performs 82 = .ok (.goto 5, 3) := by decide +kernel
theorem dL_performs_85 : decode cL_performs 85 = .ok (.bipush 107, 2) := by decide +kernel
theorem dL_performs_87 : decode cL_performs 87 = .ok (.invokevirtual 130, 3) := by decide +kernel
theorem dL_performs_90 : decode cL_performs 90 = .ok (.iadd, 1) := by decide +kernel
theorem dL_performs_91 : decode cL_performs 91 = .ok (.aload_n 0, 1) := by decide +kernel
theorem dL_performs_92 : decode cL_performs 92 = .ok (.bipush 48, 2) := by decide +kernel
theorem dL_performs_94 : decode cL_performs 94 = .ok (.iload 5, 2) := by decide +kernel
theorem dL_performs_96 : decode cL_performs 96 = .ok (.iadd, 1) := by decide +kernel
theorem dL_performs_97 : decode cL_performs 97 = .ok (.i2c, 1) := by decide +kernel
theorem dL_performs_98 : decode cL_performs 98 = .ok (.invokevirtual 130, 3) := by decide +kernel
theorem dL_performs_101 : decode cL_performs 101 = .ok (.iadd, 1) := by decide +kernel
theorem dL_performs_102 : decode cL_performs 102 = .ok (.aload_n 0, 1) := by decide +kernel
theorem dL_performs_103 : decode cL_performs 103 = .ok (.bipush 116, 2) := by decide +kernel
theorem dL_performs_105 : decode cL_performs 105 = .ok (.invokevirtual 130, 3) := by decide +kernel
theorem dL_performs_108 : decode cL_performs 108 = .ok (.iadd, 1) := by decide +kernel
theorem dL_performs_109 : decode cL_performs 109 = .ok (.aload_n 0, 1) := by decide +kernel
theorem dL_performs_110 : decode cL_performs 110 = .ok (.bipush 48, 2) := by decide +kernel
theorem dL_performs_112 : decode cL_performs 112 = .ok (.iload 6, 2) := by decide +kernel
theorem dL_performs_114 : decode cL_performs 114 = .ok (.iadd, 1) := by decide +kernel
theorem dL_performs_115 : decode cL_performs 115 = .ok (.i2c, 1) := by decide +kernel
theorem dL_performs_116 : decode cL_performs 116 = .ok (.invokevirtual 130, 3) := by decide +kernel
theorem dL_performs_119 : decode cL_performs 119 = .ok (.iadd, 1) := by decide +kernel
theorem dL_performs_120 : decode cL_performs 120 = .ok (.aload_n 0, 1) := by decide +kernel
theorem dL_performs_121 : decode cL_performs 121 = .ok (.bipush 41, 2) := by decide +kernel
theorem dL_performs_123 : decode cL_performs 123 = .ok (.invokevirtual 130, 3) := by decide +kernel
theorem dL_performs_126 : decode cL_performs 126 = .ok (.iadd, 1) := by decide +kernel
theorem dL_performs_127 : decode cL_performs 127 = .ok (.istore 9, 2) := by decide +kernel
theorem dL_performs_129 : decode cL_performs 129 = .ok (.iload 8, 2) := by decide +kernel
theorem dL_performs_131 : decode cL_performs 131 = .ok (.ifCond .lt 21, 3) := by decide +kernel
theorem dL_performs_134 : decode cL_performs 134 = .ok (.iload 9, 2) := by decide +kernel
theorem dL_performs_136 : decode cL_performs 136 = .ok (.bipush 28, 2) := by decide +kernel
theorem dL_performs_138 : decode cL_performs 138 = .ok (.if_icmp .ne 14, 3) := by decide +kernel
theorem dL_performs_141 : decode cL_performs 141 = .ok (.aload_n 0, 1) := by decide +kernel
theorem dL_performs_142 : decode cL_performs 142 = .ok (.bipush 9, 2) := by decide +kernel
theorem dL_performs_144 : decode cL_performs 144 = .ok (.invokevirtual 40, 3) := by decide +kernel
theorem dL_performs_147 : decode cL_performs 147 = .ok (.bipush 7, 2) := by decide +kernel
theorem dL_performs_149 : decode cL_performs 149 = .ok (.if_icmp .eq 5, 3) := by decide +kernel
theorem dL_performs_152 : decode cL_performs 152 = .ok (.iconst 0, 1) := by decide +kernel
theorem dL_performs_153 : decode cL_performs 153 = .ok (.ireturn, 1) := by decide +kernel
theorem dL_performs_154 : decode cL_performs 154 = .ok (.iload 5, 2) := by decide +kernel
theorem dL_performs_156 : decode cL_performs 156 = .ok (.aload_n 1, 1) := by decide +kernel
theorem dL_performs_157 : decode cL_performs 157 = .ok (.iconst 0, 1) := by decide +kernel
theorem dL_performs_158 : decode cL_performs 158 = .ok (.iaload, 1) := by decide +kernel
theorem dL_performs_159 : decode cL_performs 159 = .ok (.if_icmp .lt 17, 3) := by decide +kernel
theorem dL_performs_162 : decode cL_performs 162 = .ok (.aload_n 0, 1) := by decide +kernel
theorem dL_performs_163 : decode cL_performs 163 = .ok (.invokevirtual 134, 3) := by decide +kernel
theorem dL_performs_166 : decode cL_performs 166 = .ok (.iconst (-1), 1) := by decide +kernel
theorem dL_performs_167 : decode cL_performs 167 = .ok (.if_icmp .ne 7, 3) := by decide +kernel
theorem dL_performs_170 : decode cL_performs 170 = .ok (.iconst 1, 1) := by decide +kernel
theorem dL_performs_171 : decode cL_performs 171 = .ok (.goto 4, 3) := by decide +kernel
theorem dL_performs_174 : decode cL_performs 174 = .ok (.iconst 0, 1) := by decide +kernel
theorem dL_performs_175 : decode cL_performs 175 = .ok (.ireturn, 1) := by decide +kernel
theorem dL_performs_176 : decode cL_performs 176 = .ok (.iconst 0, 1) := by decide +kernel
theorem dL_performs_177 : decode cL_performs 177 = .ok (.istore 10, 2) := by decide +kernel
theorem dL_performs_179 : decode cL_performs 179 = .ok (.iload 10, 2) := by decide +kernel
theorem dL_performs_181 : decode cL_performs 181 = .ok (.iload 4, 2) := by decide +kernel
theorem dL_performs_183 : decode cL_performs 183 = .ok (.if_icmp .ge 68, 3) := by decide +kernel
theorem dL_performs_186 : decode cL_performs 186 = .ok (.bipush 8, 2) := by decide +kernel
theorem dL_performs_188 : decode cL_performs 188 = .ok (.bipush 8, 2) := by decide +kernel
theorem dL_performs_190 : decode cL_performs 190 = .ok (.iload 5, 2) := by decide +kernel
theorem dL_performs_192 : decode cL_performs 192 = .ok (.imul, 1) := by decide +kernel
theorem dL_performs_193 : decode cL_performs 193 = .ok (.iadd, 1) := by decide +kernel
theorem dL_performs_194 : decode cL_performs 194 = .ok (.istore 11, 2) := by decide +kernel
theorem dL_performs_196 : decode cL_performs 196 = .ok (.iload 7, 2) := by decide +kernel
theorem dL_performs_198 : decode cL_performs 198 = .ok (.ifCond .eq 20, 3) := by decide +kernel
theorem dL_performs_201 : decode cL_performs 201 = .ok (.aload_n 1, 1) := by decide +kernel
theorem dL_performs_202 : decode cL_performs 202 = .ok (.iload 11, 2) := by decide +kernel
theorem dL_performs_204 : decode cL_performs 204 = .ok (.iconst 4, 1) := by decide +kernel
theorem dL_performs_205 : decode cL_performs 205 = .ok (.iadd, 1) := by decide +kernel
theorem dL_performs_206 : decode cL_performs 206 = .ok (.iconst 1, 1) := by decide +kernel
theorem dL_performs_207 : decode cL_performs 207 = .ok (.aload_n 1, 1) := by decide +kernel
theorem dL_performs_208 : decode cL_performs 208 = .ok (.iload 11, 2) := by decide +kernel
theorem dL_performs_210 : decode cL_performs 210 = .ok (.iconst 4, 1) := by decide +kernel
theorem dL_performs_211 : decode cL_performs 211 = .ok (.iadd, 1) := by decide +kernel
theorem dL_performs_212 : decode cL_performs 212 = .ok (.iaload, 1) := by decide +kernel
theorem dL_performs_213 : decode cL_performs 213 = .ok (.isub, 1) := by decide +kernel
theorem dL_performs_214 : decode cL_performs 214 = .ok (.iastore, 1) := by decide +kernel
theorem dL_performs_215 : decode cL_performs 215 = .ok (.goto 21, 3) := by decide +kernel
theorem dL_performs_218 : decode cL_performs 218 = .ok (.aload_n 1, 1) := by decide +kernel
theorem dL_performs_219 : decode cL_performs 219 = .ok (.iload 11, 2) := by decide +kernel
theorem dL_performs_221 : decode cL_performs 221 = .ok (.bipush 6, 2) := by decide +kernel
theorem dL_performs_223 : decode cL_performs 223 = .ok (.iadd, 1) := by decide +kernel
theorem dL_performs_224 : decode cL_performs 224 = .ok (.dup2, 1) := by decide +kernel
theorem dL_performs_225 : decode cL_performs 225 = .ok (.iaload, 1) := by decide +kernel
theorem dL_performs_226 : decode cL_performs 226 = .ok (.iconst 1, 1) := by decide +kernel
theorem dL_performs_227 : decode cL_performs 227 = .ok (.iadd, 1) := by decide +kernel
theorem dL_performs_228 : decode cL_performs 228 = .ok (.iastore, 1) := by decide +kernel
theorem dL_performs_229 : decode cL_performs 229 = .ok (.aload_n 2, 1) := by decide +kernel
theorem dL_performs_230 : decode cL_performs 230 = .ok (.iconst 2, 1) := by decide +kernel
theorem dL_performs_231 : decode cL_performs 231 = .ok (.dup2, 1) := by decide +kernel
theorem dL_performs_232 : decode cL_performs 232 = .ok (.iaload, 1) := by decide +kernel
theorem dL_performs_233 : decode cL_performs 233 = .ok (.iconst 1, 1) := by decide +kernel
theorem dL_performs_234 : decode cL_performs 234 = .ok (.iadd, 1) := by decide +kernel
theorem dL_performs_235 : decode cL_performs 235 = .ok (.iastore, 1) := by decide +kernel
theorem dL_performs_236 : decode cL_performs 236 = .ok (.aload_n 1, 1) := by decide +kernel
theorem dL_performs_237 : decode cL_performs 237 = .ok (.aload_n 2, 1) := by decide +kernel
theorem dL_performs_238 : decode cL_performs 238 = .ok (.iload 6, 2) := by decide +kernel
theorem dL_performs_240 : decode cL_performs 240 = .ok (.invokestatic 72, 3) := by decide +kernel
theorem dL_performs_243 : decode cL_performs 243 = .ok (.istore 12, 2) := by decide +kernel
theorem dL_performs_245 : decode cL_performs 245 = .ok (.iinc 10 1, 3) := by decide +kernel
theorem dL_performs_248 : decode cL_performs 248 = .ok (.goto (-69), 3) := by decide +kernel
theorem dL_performs_251 : decode cL_performs 251 = .ok (.aload_n 0, 1) := by decide +kernel
theorem dL_performs_252 : decode cL_performs 252 = .ok (.invokevirtual 134, 3) := by decide +kernel
theorem dL_performs_255 : decode cL_performs 255 = .ok (.iload 4, 2) := by decide +kernel
theorem dL_performs_257 : decode cL_performs 257 = .ok (.iload 6, 2) := by decide +kernel
theorem dL_performs_259 : decode cL_performs 259 = .ok (.imul, 1) := by decide +kernel
theorem dL_performs_260 : decode cL_performs 260 = .ok (.if_icmp .ne 7, 3) := by decide +kernel
theorem dL_performs_263 : decode cL_performs 263 = .ok (.iconst 1, 1) := by decide +kernel
theorem dL_performs_264 : decode cL_performs 264 = .ok (.goto 4, 3) := by decide +kernel
theorem dL_performs_267 : decode cL_performs 267 = .ok (.iconst 0, 1) := by decide +kernel
theorem dL_performs_268 : decode cL_performs 268 = .ok (.ireturn, 1) := by decide +kernel
set_option maxHeartbeats 4000000 in
set_option maxRecDepth 100000 in
theorem w_performs_1 (l : Launch) (E : gE) (X : gX) (g : Mem) (Ec : gE) (S : AS) (c r h p : Nat → Int32) (hL : LWP Ec E g S c r h p) (B M : Nat) (hB : B ≤ 9000000) (hM : M ≤ 90000000) (hI : IV S c r h p B M) (x : Int32) (t d n : Nat) (ht : 2 ≤ t ∧ t ≤ 9) (hd : d ≤ 5) (hn : 1 ≤ n ∧ n ≤ 9) (hC : yC l E X RXL cL_performs 13 (some .boolean) 7 160) : Y l E X (pI (fun z g' => z = nI 1 ∧ ∃ (S' : AS) (c' r' h' p' : Nat → Int32), LWP Ec E g' S' c' r' h' p' ∧ IV S' c' r' h' p' (B + 100000) (M + 1000))) 51 [some (rf E (0)), some (rf E (101)), some (rf E (102)), some (.int (x)), some (.int (nI (t))), some (.int (nI (d))), some (.int (nI (n))), some (.int (nI (1))), none, none, none, none, none] [] g := by
  obtain ⟨ho, ⟨a, K, hq⟩, hg, hcl, hvc, hpi⟩ := id hI
  have hv := ho.v
  have hrc : rc S.r ≤ 6 := hv.1.2
  have hgc : gc S.r ≤ 4 := hv.2.1.2
  have hln : S.ln ≤ 60 := ho.2.2.2.2.2.1
  refine y_aload_n hC dL_performs_51 (i := 0) rfl rfl ?_
  refine y_callVF hC hL.s mX5_clearText kXL_127 dL_performs_52 (b := 0) (As := []) (rest := []) (CPm hL.cp (fun sh mk wa hcq => c_X5_clearText l Ec g S B (by omega) ho sh mk wa hcq)) hL.k0 hL.a0 rfl rfl rfl (Nat.le_of_ble_eq_true rfl) ⟨Nat.le_of_ble_eq_true rfl, Nat.le_of_ble_eq_true rfl⟩ (pkf_i ?_)
  rintro r_52 g_52 ⟨hr_52, hc_52⟩
  have he_52 := qcl2 S t 112 d n
  rw [he_52] at hr_52 hc_52
  replace hr_52 : r_52 = nI (S.ln) := hr_52
  replace hc_52 : CP Ec g_52 (tyS S 0 (ptx S.tx t 112 d n 0)) := hc_52
  rw [hr_52]
  clear hr_52 r_52
  have hL_52 := hL.call hc_52
  generalize mrg (eK Ec) g_52 g = G_52 at hL_52  ⊢
  refine y_istore hC dL_performs_55 (Nat.le_of_ble_eq_true rfl) rfl (lo' := [some (rf E (0)), some (rf E (101)), some (rf E (102)), some (.int (x)), some (.int (nI (t))), some (.int (nI (d))), some (.int (nI (n))), some (.int (nI (1))), some (.int (nI (S.ln))), none, none, none, none]) rfl ?_
  refine y_aload_n hC dL_performs_57 (i := 0) rfl rfl ?_
  refine y_bipush (v := nI 48) hC dL_performs_58 (by decide) ?_
  refine y_iload hC dL_performs_60 rfl ?_
  refine y_iadd_n hC dL_performs_62 ?_
  refine y_i2c hC dL_performs_63 rfl ?_
  refine y_top (y := nI (48 + t)) (i2c_n (by omega)) ?_
  refine y_callVF hC hL_52.s mX5_type kXL_130 dL_performs_64 (b := 0) (As := [.int (nI (48 + t))]) (rest := []) (CPm hL_52.cp (fun sh mk wa hcq => c_X5_type l Ec G_52 (tyS S 0 (ptx S.tx t 112 d n 0)) B (by omega) (ok_tyc ho) sh mk wa hcq (48 + t) (by omega))) hL_52.k0 hL_52.a0 rfl rfl rfl (Nat.le_of_ble_eq_true rfl) ⟨Nat.le_of_ble_eq_true rfl, Nat.le_of_ble_eq_true rfl⟩ (pkf_i ?_)
  rintro r_64 g_64 ⟨hr_64, hc_64⟩
  have he_64 := qty (S := S) (tx := S.tx) (t := t) (q := 112) (d := d) (n := n) (k := 0) (by decide) (c := 48 + t) rfl
  rw [he_64] at hr_64 hc_64
  replace hr_64 : r_64 = nI (1) := hr_64
  replace hc_64 : CP Ec g_64 (tyS S 1 (ptx S.tx t 112 d n 1)) := hc_64
  rw [hr_64]
  clear hr_64 r_64
  have hL_64 := hL_52.call hc_64
  generalize mrg (eK Ec) g_64 G_52 = G_64 at hL_64  ⊢
  refine y_aload_n hC dL_performs_67 (i := 0) rfl rfl ?_
  refine y_bipush (v := nI 40) hC dL_performs_68 (by decide) ?_
  refine y_callVF hC hL_64.s mX5_type kXL_130 dL_performs_70 (b := 0) (As := [.int (nI (40))]) (rest := [.int (nI (1))]) (CPm hL_64.cp (fun sh mk wa hcq => c_X5_type l Ec G_64 (tyS S 1 (ptx S.tx t 112 d n 1)) B (by omega) (ok_ty (k := 1) (t := t) (q := 112) (d := d) (n := n) ho (by decide) ht.2 (by decide) hd hn.2) sh mk wa hcq (40) (by omega))) hL_64.k0 hL_64.a0 rfl rfl rfl (Nat.le_of_ble_eq_true rfl) ⟨Nat.le_of_ble_eq_true rfl, Nat.le_of_ble_eq_true rfl⟩ (pkf_i ?_)
  rintro r_70 g_70 ⟨hr_70, hc_70⟩
  have he_70 := qty (S := S) (tx := S.tx) (t := t) (q := 112) (d := d) (n := n) (k := 1) (by decide) (c := 40) rfl
  rw [he_70] at hr_70 hc_70
  replace hr_70 : r_70 = nI (2) := hr_70
  replace hc_70 : CP Ec g_70 (tyS S 2 (ptx S.tx t 112 d n 2)) := hc_70
  rw [hr_70]
  clear hr_70 r_70
  have hL_70 := hL_64.call hc_70
  generalize mrg (eK Ec) g_70 G_64 = G_70 at hL_70  ⊢
  refine y_iadd_n hC dL_performs_73 ?_
  refine y_aload_n hC dL_performs_74 (i := 0) rfl rfl ?_
  refine y_iload hC dL_performs_75 rfl ?_
  refine y_if_eq_n (tgt := 85) hC dL_performs_77 (by decide) (by omega) (fun c_77 => ?_) (fun c_77 => ?_)
  · exfalso
    omega
  · refine y_bipush (v := nI 112) hC dL_performs_80 (by decide) ?_
    refine y_goto (tgt := 87) hC dL_performs_82 (by decide) ?_
    refine y_callVF hC hL_70.s mX5_type kXL_130 dL_performs_87 (b := 0) (As := [.int (nI (112))]) (rest := [.int (nI (1 + 2))]) (CPm hL_70.cp (fun sh mk wa hcq => c_X5_type l Ec G_70 (tyS S 2 (ptx S.tx t 112 d n 2)) B (by omega) (ok_ty (k := 2) (t := t) (q := 112) (d := d) (n := n) ho (by decide) ht.2 (by decide) hd hn.2) sh mk wa hcq (112) (by omega))) hL_70.k0 hL_70.a0 rfl rfl rfl (Nat.le_of_ble_eq_true rfl) ⟨Nat.le_of_ble_eq_true rfl, Nat.le_of_ble_eq_true rfl⟩ (pkf_i ?_)
    rintro r_87 g_87 ⟨hr_87, hc_87⟩
    have he_87 := qty (S := S) (tx := S.tx) (t := t) (q := 112) (d := d) (n := n) (k := 2) (by decide) (c := 112) rfl
    rw [he_87] at hr_87 hc_87
    replace hr_87 : r_87 = nI (3) := hr_87
    replace hc_87 : CP Ec g_87 (tyS S 3 (ptx S.tx t 112 d n 3)) := hc_87
    rw [hr_87]
    clear hr_87 r_87
    have hL_87 := hL_70.call hc_87
    generalize mrg (eK Ec) g_87 G_70 = G_87 at hL_87  ⊢
    refine y_iadd_n hC dL_performs_90 ?_
    refine y_aload_n hC dL_performs_91 (i := 0) rfl rfl ?_
    refine y_bipush (v := nI 48) hC dL_performs_92 (by decide) ?_
    refine y_iload hC dL_performs_94 rfl ?_
    refine y_iadd_n hC dL_performs_96 ?_
    refine y_i2c hC dL_performs_97 rfl ?_
    refine y_top (y := nI (48 + d)) (i2c_n (by omega)) ?_
    refine y_callVF hC hL_87.s mX5_type kXL_130 dL_performs_98 (b := 0) (As := [.int (nI (48 + d))]) (rest := [.int (nI ((1 + 2) + 3))]) (CPm hL_87.cp (fun sh mk wa hcq => c_X5_type l Ec G_87 (tyS S 3 (ptx S.tx t 112 d n 3)) B (by omega) (ok_ty (k := 3) (t := t) (q := 112) (d := d) (n := n) ho (by decide) ht.2 (by decide) hd hn.2) sh mk wa hcq (48 + d) (by omega))) hL_87.k0 hL_87.a0 rfl rfl rfl (Nat.le_of_ble_eq_true rfl) ⟨Nat.le_of_ble_eq_true rfl, Nat.le_of_ble_eq_true rfl⟩ (pkf_i ?_)
    rintro r_98 g_98 ⟨hr_98, hc_98⟩
    have he_98 := qty (S := S) (tx := S.tx) (t := t) (q := 112) (d := d) (n := n) (k := 3) (by decide) (c := 48 + d) rfl
    rw [he_98] at hr_98 hc_98
    replace hr_98 : r_98 = nI (4) := hr_98
    replace hc_98 : CP Ec g_98 (tyS S 4 (ptx S.tx t 112 d n 4)) := hc_98
    rw [hr_98]
    clear hr_98 r_98
    have hL_98 := hL_87.call hc_98
    generalize mrg (eK Ec) g_98 G_87 = G_98 at hL_98  ⊢
    refine y_iadd_n hC dL_performs_101 ?_
    refine y_aload_n hC dL_performs_102 (i := 0) rfl rfl ?_
    refine y_bipush (v := nI 116) hC dL_performs_103 (by decide) ?_
    refine y_callVF hC hL_98.s mX5_type kXL_130 dL_performs_105 (b := 0) (As := [.int (nI (116))]) (rest := [.int (nI (((1 + 2) + 3) + 4))]) (CPm hL_98.cp (fun sh mk wa hcq => c_X5_type l Ec G_98 (tyS S 4 (ptx S.tx t 112 d n 4)) B (by omega) (ok_ty (k := 4) (t := t) (q := 112) (d := d) (n := n) ho (by decide) ht.2 (by decide) hd hn.2) sh mk wa hcq (116) (by omega))) hL_98.k0 hL_98.a0 rfl rfl rfl (Nat.le_of_ble_eq_true rfl) ⟨Nat.le_of_ble_eq_true rfl, Nat.le_of_ble_eq_true rfl⟩ (pkf_i ?_)
    rintro r_105 g_105 ⟨hr_105, hc_105⟩
    have he_105 := qty (S := S) (tx := S.tx) (t := t) (q := 112) (d := d) (n := n) (k := 4) (by decide) (c := 116) rfl
    rw [he_105] at hr_105 hc_105
    replace hr_105 : r_105 = nI (5) := hr_105
    replace hc_105 : CP Ec g_105 (tyS S 5 (ptx S.tx t 112 d n 5)) := hc_105
    rw [hr_105]
    clear hr_105 r_105
    have hL_105 := hL_98.call hc_105
    generalize mrg (eK Ec) g_105 G_98 = G_105 at hL_105  ⊢
    refine y_iadd_n hC dL_performs_108 ?_
    refine y_aload_n hC dL_performs_109 (i := 0) rfl rfl ?_
    refine y_bipush (v := nI 48) hC dL_performs_110 (by decide) ?_
    refine y_iload hC dL_performs_112 rfl ?_
    refine y_iadd_n hC dL_performs_114 ?_
    refine y_i2c hC dL_performs_115 rfl ?_
    refine y_top (y := nI (48 + n)) (i2c_n (by omega)) ?_
    refine y_callVF hC hL_105.s mX5_type kXL_130 dL_performs_116 (b := 0) (As := [.int (nI (48 + n))]) (rest := [.int (nI ((((1 + 2) + 3) + 4) + 5))]) (CPm hL_105.cp (fun sh mk wa hcq => c_X5_type l Ec G_105 (tyS S 5 (ptx S.tx t 112 d n 5)) B (by omega) (ok_ty (k := 5) (t := t) (q := 112) (d := d) (n := n) ho (by decide) ht.2 (by decide) hd hn.2) sh mk wa hcq (48 + n) (by omega))) hL_105.k0 hL_105.a0 rfl rfl rfl (Nat.le_of_ble_eq_true rfl) ⟨Nat.le_of_ble_eq_true rfl, Nat.le_of_ble_eq_true rfl⟩ (pkf_i ?_)
    rintro r_116 g_116 ⟨hr_116, hc_116⟩
    have he_116 := qty (S := S) (tx := S.tx) (t := t) (q := 112) (d := d) (n := n) (k := 5) (by decide) (c := 48 + n) rfl
    rw [he_116] at hr_116 hc_116
    replace hr_116 : r_116 = nI (6) := hr_116
    replace hc_116 : CP Ec g_116 (tyS S 6 (ptx S.tx t 112 d n 6)) := hc_116
    rw [hr_116]
    clear hr_116 r_116
    have hL_116 := hL_105.call hc_116
    generalize mrg (eK Ec) g_116 G_105 = G_116 at hL_116  ⊢
    refine y_iadd_n hC dL_performs_119 ?_
    refine y_aload_n hC dL_performs_120 (i := 0) rfl rfl ?_
    refine y_bipush (v := nI 41) hC dL_performs_121 (by decide) ?_
    refine y_callVF hC hL_116.s mX5_type kXL_130 dL_performs_123 (b := 0) (As := [.int (nI (41))]) (rest := [.int (nI (((((1 + 2) + 3) + 4) + 5) + 6))]) (CPm hL_116.cp (fun sh mk wa hcq => c_X5_type l Ec G_116 (tyS S 6 (ptx S.tx t 112 d n 6)) B (by omega) (ok_ty (k := 6) (t := t) (q := 112) (d := d) (n := n) ho (by decide) ht.2 (by decide) hd hn.2) sh mk wa hcq (41) (by omega))) hL_116.k0 hL_116.a0 rfl rfl rfl (Nat.le_of_ble_eq_true rfl) ⟨Nat.le_of_ble_eq_true rfl, Nat.le_of_ble_eq_true rfl⟩ (pkf_i ?_)
    rintro r_123 g_123 ⟨hr_123, hc_123⟩
    have he_123 := qty (S := S) (tx := S.tx) (t := t) (q := 112) (d := d) (n := n) (k := 6) (by decide) (c := 41) rfl
    rw [he_123] at hr_123 hc_123
    replace hr_123 : r_123 = nI (7) := hr_123
    replace hc_123 : CP Ec g_123 (tyS S 7 (ptx S.tx t 112 d n 7)) := hc_123
    rw [hr_123]
    clear hr_123 r_123
    have hL_123 := hL_116.call hc_123
    generalize mrg (eK Ec) g_123 G_116 = G_123 at hL_123  ⊢
    refine y_iadd_n hC dL_performs_126 ?_
    refine y_top (y := nI (28)) (rfl) ?_
    refine y_istore hC dL_performs_127 (Nat.le_of_ble_eq_true rfl) rfl (lo' := [some (rf E (0)), some (rf E (101)), some (rf E (102)), some (.int (x)), some (.int (nI (t))), some (.int (nI (d))), some (.int (nI (n))), some (.int (nI (1))), some (.int (nI (S.ln))), some (.int (nI (28))), none, none, none]) rfl ?_
    refine y_iload hC dL_performs_129 rfl ?_
    refine y_if_lt_n (tgt := 152) hC dL_performs_131 (by decide) (by omega) (fun c_131 => ?_) (fun c_131 => ?_)
    · exfalso
      omega
    · refine y_iload hC dL_performs_134 rfl ?_
      refine y_bipush (v := nI 28) hC dL_performs_136 (by decide) ?_
      refine y_icmp_ne_n (tgt := 152) hC dL_performs_138 (by decide) (by omega) (by omega) (fun c_138 => ?_) (fun c_138 => ?_)
      · exfalso
        omega
      · refine y_aload_n hC dL_performs_141 (i := 0) rfl rfl ?_
        refine y_bipush (v := nI 9) hC dL_performs_142 (by decide) ?_
        refine y_callVF hC hL_123.s mX5_total kXL_40 dL_performs_144 (b := 0) (As := [.int (nI (9))]) (rest := []) (CPm hL_123.cp (fun sh mk wa hcq => c_X5_total l Ec G_123 (tyS S 7 (ptx S.tx t 112 d n 7)) B (by omega) (ok_ty (tx := S.tx) (k := 7) (t := t) (q := 112) (d := d) (n := n) ho (by decide) ht.2 (by decide) hd hn.2) sh mk wa hcq (nI (9)))) hL_123.k0 hL_123.a0 rfl rfl rfl (Nat.le_of_ble_eq_true rfl) ⟨Nat.le_of_ble_eq_true rfl, Nat.le_of_ble_eq_true rfl⟩ (pkf_i ?_)
        rintro r_144 g_144 ⟨hr_144, hc_144⟩
        rw [hr_144]
        clear hr_144 r_144
        have hL_144 := hL_123.call hc_144
        generalize mrg (eK Ec) g_144 G_123 = G_144 at hL_144  ⊢
        refine y_top (y := nI (7)) ((qTt (by decide)).trans rfl) ?_
        refine y_bipush (v := nI 7) hC dL_performs_147 (by decide) ?_
        refine y_icmp_eq_n (tgt := 154) hC dL_performs_149 (by decide) (by omega) (by omega) (fun c_149 => ?_) (fun c_149 => ?_)
        · refine y_iload hC dL_performs_154 rfl ?_
          refine y_aload_n hC dL_performs_156 (i := 1) rfl rfl ?_
          refine y_iconst (v := nI 0) hC dL_performs_157 (by decide) ?_
          refine y_iald hC dL_performs_158 (k := 101) (j := 0) (by have := hL_144.k; omega) hL_144.a101 (rfl) (by omega) (by decide) ?_
          refine y_top (y := nI (rc S.r)) (hq.n) ?_
          refine y_icmp_lt_n (tgt := 176) hC dL_performs_159 (by decide) (by omega) (by omega) (fun c_159 => ?_) (fun c_159 => ?_)
          · refine y_iconst (v := nI 0) hC dL_performs_176 (by decide) ?_
            refine y_istore hC dL_performs_177 (Nat.le_of_ble_eq_true rfl) rfl (lo' := [some (rf E (0)), some (rf E (101)), some (rf E (102)), some (.int (x)), some (.int (nI (t))), some (.int (nI (d))), some (.int (nI (n))), some (.int (nI (1))), some (.int (nI (S.ln))), some (.int (nI (28))), some (.int (nI (0))), none, none]) rfl ?_
            have L_179 : ∀ (m : Nat) (i : Nat) (gg : Mem) (r1 h1 : Nat → Int32), (hm : t - i < m) → (hi : i ≤ t) → (hL : LWP Ec E gg (tyS S 7 (ptx S.tx t 112 d n 7)) c r1 h1 p) → (hR : IR (itF (pbd 112 d n) i S.r) c r1 h1 p (B + 10 * i) (M + 10 * i)) → Y l E X (pI (fun z g' => z = nI 1 ∧ ∃ (S' : AS) (c' r' h' p' : Nat → Int32), LWP Ec E g' S' c' r' h' p' ∧ IV S' c' r' h' p' (B + 100000) (M + 1000))) 179 [some (rf E (0)), some (rf E (101)), some (rf E (102)), some (.int (x)), some (.int (nI (t))), some (.int (nI (d))), some (.int (nI (n))), some (.int (nI (1))), some (.int (nI (S.ln))), some (.int (nI (28))), some (.int (nI (i))), none, none] [] gg := by
              intro m
              induction m with
              | zero => intro i gg r1 h1 hm hi hL hR; exact absurd hm (Nat.not_lt_zero _)
              | succ m ih_179 =>
                intro i gg r1 h1 hm hi hL hR
                obtain ⟨hv1, ⟨a1, K1, hq1⟩, hg1, hcl1, hvc1, hpi1⟩ := id hR
                have hrc1 : rc (itF (pbd 112 d n) i S.r) = rc S.r := rc_itF hd i S.r
                have hd1 : d < rc (itF (pbd 112 d n) i S.r) := by omega
                obtain ⟨q1, q2, q3, q4, q5, q6, q7, q8, q9⟩ := hv1.rg hd1
                have h157 := hv1.2.2.2.2.2.2.2.2.1
                have h157b := hv1.2.2.2.2.2.2.2.2.2
                have hKb := Nat.le_add_left (K1 d) (a1 d / rg (itF (pbd 112 d n) i S.r) d 2)
                rw [hq1.dv hd1] at hKb
                refine y_iload hC dL_performs_179 rfl ?_
                refine y_iload hC dL_performs_181 rfl ?_
                refine y_icmp_ge_n (tgt := 251) hC dL_performs_183 (by decide) (by omega) (by omega) (fun c_183 => ?_) (fun c_183 => ?_)
                · obtain rfl : i = t := by omega
                  have htn : i * n ≤ 9 * 9 := Nat.mul_le_mul ht.2 hn.2
                  refine y_aload_n hC dL_performs_251 (i := 0) rfl rfl ?_
                  refine y_callVF hC hL.s mX5_perform kXL_134 dL_performs_252 (b := 0) (As := []) (rest := []) (CPm hL.cp (fun sh mk wa hcq => c_X5_perform l Ec gg (tyS S 7 (ptx S.tx i 112 d n 7)) B (by omega) (ok_ty (tx := S.tx) (k := 7) (t := i) (q := 112) (d := d) (n := n) ho (by decide) ht.2 (by decide) hd hn.2) sh mk wa hcq (by omega))) hL.k0 hL.a0 rfl rfl rfl (Nat.le_of_ble_eq_true rfl) ⟨Nat.le_of_ble_eq_true rfl, Nat.le_of_ble_eq_true rfl⟩ (pkf_i ?_)
                  rintro r_252 g_252 ⟨hr_252, hc_252⟩
                  have he_252 := qpf_0 (S := S) (tx := S.tx) (t := i) (q := 112) (d := d) (n := n) ht (by decide) hd hn (by omega)
                  rw [he_252] at hr_252 hc_252
                  replace hr_252 : r_252 = nI (i * n) := hr_252
                  replace hc_252 : CP Ec g_252 ((tyS S 7 (ptx S.tx i 112 d n 7)).rec.row (itF (pbd 112 d n) i S.r)) := hc_252
                  rw [hr_252]
                  clear hr_252 r_252
                  have hL_252 := hL.call hc_252
                  generalize mrg (eK Ec) g_252 gg = G_252 at hL_252  ⊢
                  refine y_iload hC dL_performs_255 rfl ?_
                  refine y_iload hC dL_performs_257 rfl ?_
                  refine y_imul_n hC dL_performs_259 ?_
                  refine y_icmp_ne_n (tgt := 267) hC dL_performs_260 (by decide) (by omega) (by omega) (fun c_260 => ?_) (fun c_260 => ?_)
                  · exact absurd rfl c_260
                  · refine y_iconst (v := nI 1) hC dL_performs_263 (by decide) ?_
                    refine y_goto (tgt := 268) hC dL_performs_264 (by decide) ?_
                    refine y_zret (hrt := rfl) (hn := rfl) (hC := hC) (hd := dL_performs_268) (hq := ?_)
                    have hvr : OK ((tyS S 7 (ptx S.tx i 112 d n 7)).rec.row (itF (pbd 112 d n) i S.r)) (B + 10000) := by
                      have := ok_perform (ok_ty (tx := S.tx) (k := 7) (t := i) (q := 112) (d := d) (n := n) ho (by decide) ht.2 (by decide) hd hn.2) (by omega)
                      rw [he_252] at this
                      exact this
                    exact ⟨rfl, _, _, _, _, _, hL_252, (show IV _ c r1 h1 p (B + 10000) (M + 10 * i) from ⟨hvr, hR.2⟩).le (by omega) (by omega)⟩
                · refine y_bipush (v := nI 8) hC dL_performs_186 (by decide) ?_
                  refine y_bipush (v := nI 8) hC dL_performs_188 (by decide) ?_
                  refine y_iload hC dL_performs_190 rfl ?_
                  refine y_imul_n hC dL_performs_192 ?_
                  refine y_iadd_n hC dL_performs_193 ?_
                  refine y_istore hC dL_performs_194 (Nat.le_of_ble_eq_true rfl) rfl (lo' := [some (rf E (0)), some (rf E (101)), some (rf E (102)), some (.int (x)), some (.int (nI (t))), some (.int (nI (d))), some (.int (nI (n))), some (.int (nI (1))), some (.int (nI (S.ln))), some (.int (nI (28))), some (.int (nI (i))), some (.int (nI (8 + (8 * d)))), none]) rfl ?_
                  refine y_iload hC dL_performs_196 rfl ?_
                  refine y_if_eq_n (tgt := 218) hC dL_performs_198 (by decide) (by omega) (fun c_198 => ?_) (fun c_198 => ?_)
                  · exfalso
                    omega
                  · refine y_aload_n hC dL_performs_201 (i := 1) rfl rfl ?_
                    refine y_iload hC dL_performs_202 rfl ?_
                    refine y_iconst (v := nI 4) hC dL_performs_204 (by decide) ?_
                    refine y_iadd_n hC dL_performs_205 ?_
                    refine y_iconst (v := nI 1) hC dL_performs_206 (by decide) ?_
                    refine y_aload_n hC dL_performs_207 (i := 1) rfl rfl ?_
                    refine y_iload hC dL_performs_208 rfl ?_
                    refine y_iconst (v := nI 4) hC dL_performs_210 (by decide) ?_
                    refine y_iadd_n hC dL_performs_211 ?_
                    refine y_iald hC dL_performs_212 (k := 101) (j := (8 + (8 * d)) + 4) (by have := hL.k; omega) hL.a101 (rfl) (by omega) (by decide) ?_
                    refine y_top (y := nI (rg (itF (pbd 112 d n) i S.r) d 4)) (hq1.f4 hd1) ?_
                    refine y_isub_n hC dL_performs_213 (by omega) ?_
                    refine y_iast hC dL_performs_214 (k := 101) (j := (8 + (8 * d)) + 4) (by have := hL.k; omega) hL.a101 (rfl) (by omega) (by decide) ?_
                    have hL_214 := hL.ur (upd r1 ((8 + (8 * d)) + 4) (nI (1 - (rg (itF (pbd 112 d n) i S.r) d 4))))
                    generalize (va_up gg (101) (aI E 0 56 (upd r1 ((8 + (8 * d)) + 4) (nI (1 - (rg (itF (pbd 112 d n) i S.r) d 4)))))) = G_214 at hL_214  ⊢
                    refine y_goto (tgt := 236) hC dL_performs_215 (by decide) ?_
                    have hR2 : IR (flpR (itF (pbd 112 d n) i S.r) d) c (upd r1 ((8 + (8 * d)) + 4) (nI (1 - (rg (itF (pbd 112 d n) i S.r) d 4)))) h1 p (B + 10 * i + 1) (M + 10 * i) := (hR.flp (by omega) hd1 (fun i h4 => pk_un (by omega)) pk_us).le (by omega) (Nat.le_refl _)
                    obtain ⟨hv2, ⟨a2, K2, hq2⟩, hg2, hcl2, hvc2, hpi2⟩ := id hR2
                    refine y_aload_n hC dL_performs_236 (i := 1) rfl rfl ?_
                    refine y_aload_n hC dL_performs_237 (i := 2) rfl rfl ?_
                    refine y_iload hC dL_performs_238 rfl ?_
                    refine y_callS hC mL_passes kXL_72 dL_performs_240 (As := [rf E (101), rf E (102), .int (nI (n))]) (rest := []) (c_L_passes l E G_214 101 102 (by have := hL_214.k; omega) (by have := hL_214.k; omega) (by decide) _ _ hL_214.a101 hL_214.a102 (flpR (itF (pbd 112 d n) i S.r) d) (B + 10 * i + 1) (M + 10 * i) hv2 (by omega) (by omega) a2 K2 hq2 hg2 n (by omega)) rfl rfl rfl (Nat.le_of_ble_eq_true rfl) ⟨Nat.le_of_ble_eq_true rfl, Nat.le_of_ble_eq_true rfl⟩ (pk_i ?_)
                    rintro r_240 g_240 ⟨hr_240, r3, h3, a3, h101_240, h102_240, ho_240, hq3, hg3⟩
                    rw [hr_240]
                    clear hr_240 r_240
                    have hL_240 := hL_214.wrh h101_240 h102_240 ho_240
                    have hR3 := (hR2.tk (by omega) (by omega) hq3 hg3).le (show B + 10 * i + 1 + n ≤ B + 10 * (i + 1) by omega) (show M + 10 * i + n ≤ M + 10 * (i + 1) by omega)
                    have he3 : tkR (flpR (itF (pbd 112 d n) i S.r) d) n = itF (pbd 112 d n) (i + 1) S.r := (pbd_1.symm).trans itF_s.symm
                    rw [he3] at hR3
                    refine y_istore hC dL_performs_243 (Nat.le_of_ble_eq_true rfl) rfl (lo' := [some (rf E (0)), some (rf E (101)), some (rf E (102)), some (.int (x)), some (.int (nI (t))), some (.int (nI (d))), some (.int (nI (n))), some (.int (nI (1))), some (.int (nI (S.ln))), some (.int (nI (28))), some (.int (nI (i))), some (.int (nI (8 + (8 * d)))), some (.int (nI (made (flpR (itF (pbd 112 d n) i S.r) d) n)))]) rfl ?_
                    refine y_iinc_n hC dL_performs_245 (a := i) (k := 1) rfl (by decide) (Nat.le_of_ble_eq_true rfl) rfl (lo' := [some (rf E (0)), some (rf E (101)), some (rf E (102)), some (.int (x)), some (.int (nI (t))), some (.int (nI (d))), some (.int (nI (n))), some (.int (nI (1))), some (.int (nI (S.ln))), some (.int (nI (28))), some (.int (nI (i + 1))), some (.int (nI (8 + (8 * d)))), some (.int (nI (made (flpR (itF (pbd 112 d n) i S.r) d) n)))]) rfl ?_
                    refine y_goto (tgt := 179) hC dL_performs_248 (by decide) ?_
                    refine y_fg 11 (lo' := [some (rf E (0)), some (rf E (101)), some (rf E (102)), some (.int (x)), some (.int (nI (t))), some (.int (nI (d))), some (.int (nI (n))), some (.int (nI (1))), some (.int (nI (S.ln))), some (.int (nI (28))), some (.int (nI (i + 1))), none, some (.int (nI (made (flpR (itF (pbd 112 d n) i S.r) d) n)))]) rfl ?_
                    refine y_fg 12 (lo' := [some (rf E (0)), some (rf E (101)), some (rf E (102)), some (.int (x)), some (.int (nI (t))), some (.int (nI (d))), some (.int (nI (n))), some (.int (nI (1))), some (.int (nI (S.ln))), some (.int (nI (28))), some (.int (nI (i + 1))), none, none]) rfl ?_
                    exact ih_179 (i + 1) g_240 r3 h3 (by omega) (by omega) hL_240 hR3
            exact L_179 (t + 1) 0 G_144 r h (by omega) (by omega) hL_144 hI.ir
          · refine y_aload_n hC dL_performs_162 (i := 0) rfl rfl ?_
            refine y_callVF hC hL_144.s mX5_perform kXL_134 dL_performs_163 (b := 0) (As := []) (rest := []) (CPm hL_144.cp (fun sh mk wa hcq => c_X5_perform l Ec G_144 (tyS S 7 (ptx S.tx t 112 d n 7)) B (by omega) (ok_ty (tx := S.tx) (k := 7) (t := t) (q := 112) (d := d) (n := n) ho (by decide) ht.2 (by decide) hd hn.2) sh mk wa hcq (by omega))) hL_144.k0 hL_144.a0 rfl rfl rfl (Nat.le_of_ble_eq_true rfl) ⟨Nat.le_of_ble_eq_true rfl, Nat.le_of_ble_eq_true rfl⟩ (pkf_i ?_)
            rintro r_163 g_163 ⟨hr_163, hc_163⟩
            have he_163 := qpf_1 (S := S) (tx := S.tx) (t := t) (q := 112) (d := d) (n := n) ht (by decide) hd hn (by omega)
            rw [he_163] at hr_163 hc_163
            replace hr_163 : r_163 = ((-1)) := hr_163
            replace hc_163 : CP Ec g_163 ((tyS S 7 (ptx S.tx t 112 d n 7))) := hc_163
            rw [hr_163]
            clear hr_163 r_163
            have hL_163 := hL_144.call hc_163
            generalize mrg (eK Ec) g_163 G_144 = G_163 at hL_163  ⊢
            refine y_iconst (v := (-1)) hC dL_performs_166 (by decide) ?_
            refine y_icmp_ne (tgt := 174) hC dL_performs_167 (by decide) (fun c_167 => ?_) (fun c_167 => ?_)
            · exact absurd rfl c_167
            · refine y_iconst (v := nI 1) hC dL_performs_170 (by decide) ?_
              refine y_goto (tgt := 175) hC dL_performs_171 (by decide) ?_
              refine y_zret (hrt := rfl) (hn := rfl) (hC := hC) (hd := dL_performs_175) (hq := ?_)
              exact ⟨rfl, (tyS S 7 (ptx S.tx t 112 d n 7)), c, r, h, p, hL_163, (show IV (tyS S 7 (ptx S.tx t 112 d n 7)) c r h p B M from ⟨(ok_ty (tx := S.tx) (k := 7) (t := t) (q := 112) (d := d) (n := n) ho (by decide) ht.2 (by decide) hd hn.2), hI.2⟩).le (by omega) (by omega)⟩
        · exact absurd rfl c_149

set_option maxHeartbeats 4000000 in
set_option maxRecDepth 100000 in
theorem w_performs_0 (l : Launch) (E : gE) (X : gX) (g : Mem) (Ec : gE) (S : AS) (c r h p : Nat → Int32) (hL : LWP Ec E g S c r h p) (B M : Nat) (hB : B ≤ 9000000) (hM : M ≤ 90000000) (hI : IV S c r h p B M) (x : Int32) (t d n : Nat) (ht : 2 ≤ t ∧ t ≤ 9) (hd : d ≤ 5) (hn : 1 ≤ n ∧ n ≤ 9) (hC : yC l E X RXL cL_performs 13 (some .boolean) 7 160) : Y l E X (pI (fun z g' => z = nI 1 ∧ ∃ (S' : AS) (c' r' h' p' : Nat → Int32), LWP Ec E g' S' c' r' h' p' ∧ IV S' c' r' h' p' (B + 100000) (M + 1000))) 51 [some (rf E (0)), some (rf E (101)), some (rf E (102)), some (.int (x)), some (.int (nI (t))), some (.int (nI (d))), some (.int (nI (n))), some (.int (nI (0))), none, none, none, none, none] [] g := by
  obtain ⟨ho, ⟨a, K, hq⟩, hg, hcl, hvc, hpi⟩ := id hI
  have hv := ho.v
  have hrc : rc S.r ≤ 6 := hv.1.2
  have hgc : gc S.r ≤ 4 := hv.2.1.2
  have hln : S.ln ≤ 60 := ho.2.2.2.2.2.1
  refine y_aload_n hC dL_performs_51 (i := 0) rfl rfl ?_
  refine y_callVF hC hL.s mX5_clearText kXL_127 dL_performs_52 (b := 0) (As := []) (rest := []) (CPm hL.cp (fun sh mk wa hcq => c_X5_clearText l Ec g S B (by omega) ho sh mk wa hcq)) hL.k0 hL.a0 rfl rfl rfl (Nat.le_of_ble_eq_true rfl) ⟨Nat.le_of_ble_eq_true rfl, Nat.le_of_ble_eq_true rfl⟩ (pkf_i ?_)
  rintro r_52 g_52 ⟨hr_52, hc_52⟩
  have he_52 := qcl2 S t 107 d n
  rw [he_52] at hr_52 hc_52
  replace hr_52 : r_52 = nI (S.ln) := hr_52
  replace hc_52 : CP Ec g_52 (tyS S 0 (ptx S.tx t 107 d n 0)) := hc_52
  rw [hr_52]
  clear hr_52 r_52
  have hL_52 := hL.call hc_52
  generalize mrg (eK Ec) g_52 g = G_52 at hL_52  ⊢
  refine y_istore hC dL_performs_55 (Nat.le_of_ble_eq_true rfl) rfl (lo' := [some (rf E (0)), some (rf E (101)), some (rf E (102)), some (.int (x)), some (.int (nI (t))), some (.int (nI (d))), some (.int (nI (n))), some (.int (nI (0))), some (.int (nI (S.ln))), none, none, none, none]) rfl ?_
  refine y_aload_n hC dL_performs_57 (i := 0) rfl rfl ?_
  refine y_bipush (v := nI 48) hC dL_performs_58 (by decide) ?_
  refine y_iload hC dL_performs_60 rfl ?_
  refine y_iadd_n hC dL_performs_62 ?_
  refine y_i2c hC dL_performs_63 rfl ?_
  refine y_top (y := nI (48 + t)) (i2c_n (by omega)) ?_
  refine y_callVF hC hL_52.s mX5_type kXL_130 dL_performs_64 (b := 0) (As := [.int (nI (48 + t))]) (rest := []) (CPm hL_52.cp (fun sh mk wa hcq => c_X5_type l Ec G_52 (tyS S 0 (ptx S.tx t 107 d n 0)) B (by omega) (ok_tyc ho) sh mk wa hcq (48 + t) (by omega))) hL_52.k0 hL_52.a0 rfl rfl rfl (Nat.le_of_ble_eq_true rfl) ⟨Nat.le_of_ble_eq_true rfl, Nat.le_of_ble_eq_true rfl⟩ (pkf_i ?_)
  rintro r_64 g_64 ⟨hr_64, hc_64⟩
  have he_64 := qty (S := S) (tx := S.tx) (t := t) (q := 107) (d := d) (n := n) (k := 0) (by decide) (c := 48 + t) rfl
  rw [he_64] at hr_64 hc_64
  replace hr_64 : r_64 = nI (1) := hr_64
  replace hc_64 : CP Ec g_64 (tyS S 1 (ptx S.tx t 107 d n 1)) := hc_64
  rw [hr_64]
  clear hr_64 r_64
  have hL_64 := hL_52.call hc_64
  generalize mrg (eK Ec) g_64 G_52 = G_64 at hL_64  ⊢
  refine y_aload_n hC dL_performs_67 (i := 0) rfl rfl ?_
  refine y_bipush (v := nI 40) hC dL_performs_68 (by decide) ?_
  refine y_callVF hC hL_64.s mX5_type kXL_130 dL_performs_70 (b := 0) (As := [.int (nI (40))]) (rest := [.int (nI (1))]) (CPm hL_64.cp (fun sh mk wa hcq => c_X5_type l Ec G_64 (tyS S 1 (ptx S.tx t 107 d n 1)) B (by omega) (ok_ty (k := 1) (t := t) (q := 107) (d := d) (n := n) ho (by decide) ht.2 (by decide) hd hn.2) sh mk wa hcq (40) (by omega))) hL_64.k0 hL_64.a0 rfl rfl rfl (Nat.le_of_ble_eq_true rfl) ⟨Nat.le_of_ble_eq_true rfl, Nat.le_of_ble_eq_true rfl⟩ (pkf_i ?_)
  rintro r_70 g_70 ⟨hr_70, hc_70⟩
  have he_70 := qty (S := S) (tx := S.tx) (t := t) (q := 107) (d := d) (n := n) (k := 1) (by decide) (c := 40) rfl
  rw [he_70] at hr_70 hc_70
  replace hr_70 : r_70 = nI (2) := hr_70
  replace hc_70 : CP Ec g_70 (tyS S 2 (ptx S.tx t 107 d n 2)) := hc_70
  rw [hr_70]
  clear hr_70 r_70
  have hL_70 := hL_64.call hc_70
  generalize mrg (eK Ec) g_70 G_64 = G_70 at hL_70  ⊢
  refine y_iadd_n hC dL_performs_73 ?_
  refine y_aload_n hC dL_performs_74 (i := 0) rfl rfl ?_
  refine y_iload hC dL_performs_75 rfl ?_
  refine y_if_eq_n (tgt := 85) hC dL_performs_77 (by decide) (by omega) (fun c_77 => ?_) (fun c_77 => ?_)
  · refine y_bipush (v := nI 107) hC dL_performs_85 (by decide) ?_
    refine y_callVF hC hL_70.s mX5_type kXL_130 dL_performs_87 (b := 0) (As := [.int (nI (107))]) (rest := [.int (nI (1 + 2))]) (CPm hL_70.cp (fun sh mk wa hcq => c_X5_type l Ec G_70 (tyS S 2 (ptx S.tx t 107 d n 2)) B (by omega) (ok_ty (k := 2) (t := t) (q := 107) (d := d) (n := n) ho (by decide) ht.2 (by decide) hd hn.2) sh mk wa hcq (107) (by omega))) hL_70.k0 hL_70.a0 rfl rfl rfl (Nat.le_of_ble_eq_true rfl) ⟨Nat.le_of_ble_eq_true rfl, Nat.le_of_ble_eq_true rfl⟩ (pkf_i ?_)
    rintro r_87 g_87 ⟨hr_87, hc_87⟩
    have he_87 := qty (S := S) (tx := S.tx) (t := t) (q := 107) (d := d) (n := n) (k := 2) (by decide) (c := 107) rfl
    rw [he_87] at hr_87 hc_87
    replace hr_87 : r_87 = nI (3) := hr_87
    replace hc_87 : CP Ec g_87 (tyS S 3 (ptx S.tx t 107 d n 3)) := hc_87
    rw [hr_87]
    clear hr_87 r_87
    have hL_87 := hL_70.call hc_87
    generalize mrg (eK Ec) g_87 G_70 = G_87 at hL_87  ⊢
    refine y_iadd_n hC dL_performs_90 ?_
    refine y_aload_n hC dL_performs_91 (i := 0) rfl rfl ?_
    refine y_bipush (v := nI 48) hC dL_performs_92 (by decide) ?_
    refine y_iload hC dL_performs_94 rfl ?_
    refine y_iadd_n hC dL_performs_96 ?_
    refine y_i2c hC dL_performs_97 rfl ?_
    refine y_top (y := nI (48 + d)) (i2c_n (by omega)) ?_
    refine y_callVF hC hL_87.s mX5_type kXL_130 dL_performs_98 (b := 0) (As := [.int (nI (48 + d))]) (rest := [.int (nI ((1 + 2) + 3))]) (CPm hL_87.cp (fun sh mk wa hcq => c_X5_type l Ec G_87 (tyS S 3 (ptx S.tx t 107 d n 3)) B (by omega) (ok_ty (k := 3) (t := t) (q := 107) (d := d) (n := n) ho (by decide) ht.2 (by decide) hd hn.2) sh mk wa hcq (48 + d) (by omega))) hL_87.k0 hL_87.a0 rfl rfl rfl (Nat.le_of_ble_eq_true rfl) ⟨Nat.le_of_ble_eq_true rfl, Nat.le_of_ble_eq_true rfl⟩ (pkf_i ?_)
    rintro r_98 g_98 ⟨hr_98, hc_98⟩
    have he_98 := qty (S := S) (tx := S.tx) (t := t) (q := 107) (d := d) (n := n) (k := 3) (by decide) (c := 48 + d) rfl
    rw [he_98] at hr_98 hc_98
    replace hr_98 : r_98 = nI (4) := hr_98
    replace hc_98 : CP Ec g_98 (tyS S 4 (ptx S.tx t 107 d n 4)) := hc_98
    rw [hr_98]
    clear hr_98 r_98
    have hL_98 := hL_87.call hc_98
    generalize mrg (eK Ec) g_98 G_87 = G_98 at hL_98  ⊢
    refine y_iadd_n hC dL_performs_101 ?_
    refine y_aload_n hC dL_performs_102 (i := 0) rfl rfl ?_
    refine y_bipush (v := nI 116) hC dL_performs_103 (by decide) ?_
    refine y_callVF hC hL_98.s mX5_type kXL_130 dL_performs_105 (b := 0) (As := [.int (nI (116))]) (rest := [.int (nI (((1 + 2) + 3) + 4))]) (CPm hL_98.cp (fun sh mk wa hcq => c_X5_type l Ec G_98 (tyS S 4 (ptx S.tx t 107 d n 4)) B (by omega) (ok_ty (k := 4) (t := t) (q := 107) (d := d) (n := n) ho (by decide) ht.2 (by decide) hd hn.2) sh mk wa hcq (116) (by omega))) hL_98.k0 hL_98.a0 rfl rfl rfl (Nat.le_of_ble_eq_true rfl) ⟨Nat.le_of_ble_eq_true rfl, Nat.le_of_ble_eq_true rfl⟩ (pkf_i ?_)
    rintro r_105 g_105 ⟨hr_105, hc_105⟩
    have he_105 := qty (S := S) (tx := S.tx) (t := t) (q := 107) (d := d) (n := n) (k := 4) (by decide) (c := 116) rfl
    rw [he_105] at hr_105 hc_105
    replace hr_105 : r_105 = nI (5) := hr_105
    replace hc_105 : CP Ec g_105 (tyS S 5 (ptx S.tx t 107 d n 5)) := hc_105
    rw [hr_105]
    clear hr_105 r_105
    have hL_105 := hL_98.call hc_105
    generalize mrg (eK Ec) g_105 G_98 = G_105 at hL_105  ⊢
    refine y_iadd_n hC dL_performs_108 ?_
    refine y_aload_n hC dL_performs_109 (i := 0) rfl rfl ?_
    refine y_bipush (v := nI 48) hC dL_performs_110 (by decide) ?_
    refine y_iload hC dL_performs_112 rfl ?_
    refine y_iadd_n hC dL_performs_114 ?_
    refine y_i2c hC dL_performs_115 rfl ?_
    refine y_top (y := nI (48 + n)) (i2c_n (by omega)) ?_
    refine y_callVF hC hL_105.s mX5_type kXL_130 dL_performs_116 (b := 0) (As := [.int (nI (48 + n))]) (rest := [.int (nI ((((1 + 2) + 3) + 4) + 5))]) (CPm hL_105.cp (fun sh mk wa hcq => c_X5_type l Ec G_105 (tyS S 5 (ptx S.tx t 107 d n 5)) B (by omega) (ok_ty (k := 5) (t := t) (q := 107) (d := d) (n := n) ho (by decide) ht.2 (by decide) hd hn.2) sh mk wa hcq (48 + n) (by omega))) hL_105.k0 hL_105.a0 rfl rfl rfl (Nat.le_of_ble_eq_true rfl) ⟨Nat.le_of_ble_eq_true rfl, Nat.le_of_ble_eq_true rfl⟩ (pkf_i ?_)
    rintro r_116 g_116 ⟨hr_116, hc_116⟩
    have he_116 := qty (S := S) (tx := S.tx) (t := t) (q := 107) (d := d) (n := n) (k := 5) (by decide) (c := 48 + n) rfl
    rw [he_116] at hr_116 hc_116
    replace hr_116 : r_116 = nI (6) := hr_116
    replace hc_116 : CP Ec g_116 (tyS S 6 (ptx S.tx t 107 d n 6)) := hc_116
    rw [hr_116]
    clear hr_116 r_116
    have hL_116 := hL_105.call hc_116
    generalize mrg (eK Ec) g_116 G_105 = G_116 at hL_116  ⊢
    refine y_iadd_n hC dL_performs_119 ?_
    refine y_aload_n hC dL_performs_120 (i := 0) rfl rfl ?_
    refine y_bipush (v := nI 41) hC dL_performs_121 (by decide) ?_
    refine y_callVF hC hL_116.s mX5_type kXL_130 dL_performs_123 (b := 0) (As := [.int (nI (41))]) (rest := [.int (nI (((((1 + 2) + 3) + 4) + 5) + 6))]) (CPm hL_116.cp (fun sh mk wa hcq => c_X5_type l Ec G_116 (tyS S 6 (ptx S.tx t 107 d n 6)) B (by omega) (ok_ty (k := 6) (t := t) (q := 107) (d := d) (n := n) ho (by decide) ht.2 (by decide) hd hn.2) sh mk wa hcq (41) (by omega))) hL_116.k0 hL_116.a0 rfl rfl rfl (Nat.le_of_ble_eq_true rfl) ⟨Nat.le_of_ble_eq_true rfl, Nat.le_of_ble_eq_true rfl⟩ (pkf_i ?_)
    rintro r_123 g_123 ⟨hr_123, hc_123⟩
    have he_123 := qty (S := S) (tx := S.tx) (t := t) (q := 107) (d := d) (n := n) (k := 6) (by decide) (c := 41) rfl
    rw [he_123] at hr_123 hc_123
    replace hr_123 : r_123 = nI (7) := hr_123
    replace hc_123 : CP Ec g_123 (tyS S 7 (ptx S.tx t 107 d n 7)) := hc_123
    rw [hr_123]
    clear hr_123 r_123
    have hL_123 := hL_116.call hc_123
    generalize mrg (eK Ec) g_123 G_116 = G_123 at hL_123  ⊢
    refine y_iadd_n hC dL_performs_126 ?_
    refine y_top (y := nI (28)) (rfl) ?_
    refine y_istore hC dL_performs_127 (Nat.le_of_ble_eq_true rfl) rfl (lo' := [some (rf E (0)), some (rf E (101)), some (rf E (102)), some (.int (x)), some (.int (nI (t))), some (.int (nI (d))), some (.int (nI (n))), some (.int (nI (0))), some (.int (nI (S.ln))), some (.int (nI (28))), none, none, none]) rfl ?_
    refine y_iload hC dL_performs_129 rfl ?_
    refine y_if_lt_n (tgt := 152) hC dL_performs_131 (by decide) (by omega) (fun c_131 => ?_) (fun c_131 => ?_)
    · exfalso
      omega
    · refine y_iload hC dL_performs_134 rfl ?_
      refine y_bipush (v := nI 28) hC dL_performs_136 (by decide) ?_
      refine y_icmp_ne_n (tgt := 152) hC dL_performs_138 (by decide) (by omega) (by omega) (fun c_138 => ?_) (fun c_138 => ?_)
      · exfalso
        omega
      · refine y_aload_n hC dL_performs_141 (i := 0) rfl rfl ?_
        refine y_bipush (v := nI 9) hC dL_performs_142 (by decide) ?_
        refine y_callVF hC hL_123.s mX5_total kXL_40 dL_performs_144 (b := 0) (As := [.int (nI (9))]) (rest := []) (CPm hL_123.cp (fun sh mk wa hcq => c_X5_total l Ec G_123 (tyS S 7 (ptx S.tx t 107 d n 7)) B (by omega) (ok_ty (tx := S.tx) (k := 7) (t := t) (q := 107) (d := d) (n := n) ho (by decide) ht.2 (by decide) hd hn.2) sh mk wa hcq (nI (9)))) hL_123.k0 hL_123.a0 rfl rfl rfl (Nat.le_of_ble_eq_true rfl) ⟨Nat.le_of_ble_eq_true rfl, Nat.le_of_ble_eq_true rfl⟩ (pkf_i ?_)
        rintro r_144 g_144 ⟨hr_144, hc_144⟩
        rw [hr_144]
        clear hr_144 r_144
        have hL_144 := hL_123.call hc_144
        generalize mrg (eK Ec) g_144 G_123 = G_144 at hL_144  ⊢
        refine y_top (y := nI (7)) ((qTt (by decide)).trans rfl) ?_
        refine y_bipush (v := nI 7) hC dL_performs_147 (by decide) ?_
        refine y_icmp_eq_n (tgt := 154) hC dL_performs_149 (by decide) (by omega) (by omega) (fun c_149 => ?_) (fun c_149 => ?_)
        · refine y_iload hC dL_performs_154 rfl ?_
          refine y_aload_n hC dL_performs_156 (i := 1) rfl rfl ?_
          refine y_iconst (v := nI 0) hC dL_performs_157 (by decide) ?_
          refine y_iald hC dL_performs_158 (k := 101) (j := 0) (by have := hL_144.k; omega) hL_144.a101 (rfl) (by omega) (by decide) ?_
          refine y_top (y := nI (rc S.r)) (hq.n) ?_
          refine y_icmp_lt_n (tgt := 176) hC dL_performs_159 (by decide) (by omega) (by omega) (fun c_159 => ?_) (fun c_159 => ?_)
          · refine y_iconst (v := nI 0) hC dL_performs_176 (by decide) ?_
            refine y_istore hC dL_performs_177 (Nat.le_of_ble_eq_true rfl) rfl (lo' := [some (rf E (0)), some (rf E (101)), some (rf E (102)), some (.int (x)), some (.int (nI (t))), some (.int (nI (d))), some (.int (nI (n))), some (.int (nI (0))), some (.int (nI (S.ln))), some (.int (nI (28))), some (.int (nI (0))), none, none]) rfl ?_
            have L_179 : ∀ (m : Nat) (i : Nat) (gg : Mem) (r1 h1 : Nat → Int32), (hm : t - i < m) → (hi : i ≤ t) → (hL : LWP Ec E gg (tyS S 7 (ptx S.tx t 107 d n 7)) c r1 h1 p) → (hR : IR (itF (pbd 107 d n) i S.r) c r1 h1 p (B + 10 * i) (M + 10 * i)) → Y l E X (pI (fun z g' => z = nI 1 ∧ ∃ (S' : AS) (c' r' h' p' : Nat → Int32), LWP Ec E g' S' c' r' h' p' ∧ IV S' c' r' h' p' (B + 100000) (M + 1000))) 179 [some (rf E (0)), some (rf E (101)), some (rf E (102)), some (.int (x)), some (.int (nI (t))), some (.int (nI (d))), some (.int (nI (n))), some (.int (nI (0))), some (.int (nI (S.ln))), some (.int (nI (28))), some (.int (nI (i))), none, none] [] gg := by
              intro m
              induction m with
              | zero => intro i gg r1 h1 hm hi hL hR; exact absurd hm (Nat.not_lt_zero _)
              | succ m ih_179 =>
                intro i gg r1 h1 hm hi hL hR
                obtain ⟨hv1, ⟨a1, K1, hq1⟩, hg1, hcl1, hvc1, hpi1⟩ := id hR
                have hrc1 : rc (itF (pbd 107 d n) i S.r) = rc S.r := rc_itF hd i S.r
                have hd1 : d < rc (itF (pbd 107 d n) i S.r) := by omega
                obtain ⟨q1, q2, q3, q4, q5, q6, q7, q8, q9⟩ := hv1.rg hd1
                have h157 := hv1.2.2.2.2.2.2.2.2.1
                have h157b := hv1.2.2.2.2.2.2.2.2.2
                have hKb := Nat.le_add_left (K1 d) (a1 d / rg (itF (pbd 107 d n) i S.r) d 2)
                rw [hq1.dv hd1] at hKb
                refine y_iload hC dL_performs_179 rfl ?_
                refine y_iload hC dL_performs_181 rfl ?_
                refine y_icmp_ge_n (tgt := 251) hC dL_performs_183 (by decide) (by omega) (by omega) (fun c_183 => ?_) (fun c_183 => ?_)
                · obtain rfl : i = t := by omega
                  have htn : i * n ≤ 9 * 9 := Nat.mul_le_mul ht.2 hn.2
                  refine y_aload_n hC dL_performs_251 (i := 0) rfl rfl ?_
                  refine y_callVF hC hL.s mX5_perform kXL_134 dL_performs_252 (b := 0) (As := []) (rest := []) (CPm hL.cp (fun sh mk wa hcq => c_X5_perform l Ec gg (tyS S 7 (ptx S.tx i 107 d n 7)) B (by omega) (ok_ty (tx := S.tx) (k := 7) (t := i) (q := 107) (d := d) (n := n) ho (by decide) ht.2 (by decide) hd hn.2) sh mk wa hcq (by omega))) hL.k0 hL.a0 rfl rfl rfl (Nat.le_of_ble_eq_true rfl) ⟨Nat.le_of_ble_eq_true rfl, Nat.le_of_ble_eq_true rfl⟩ (pkf_i ?_)
                  rintro r_252 g_252 ⟨hr_252, hc_252⟩
                  have he_252 := qpf_0 (S := S) (tx := S.tx) (t := i) (q := 107) (d := d) (n := n) ht (by decide) hd hn (by omega)
                  rw [he_252] at hr_252 hc_252
                  replace hr_252 : r_252 = nI (i * n) := hr_252
                  replace hc_252 : CP Ec g_252 ((tyS S 7 (ptx S.tx i 107 d n 7)).rec.row (itF (pbd 107 d n) i S.r)) := hc_252
                  rw [hr_252]
                  clear hr_252 r_252
                  have hL_252 := hL.call hc_252
                  generalize mrg (eK Ec) g_252 gg = G_252 at hL_252  ⊢
                  refine y_iload hC dL_performs_255 rfl ?_
                  refine y_iload hC dL_performs_257 rfl ?_
                  refine y_imul_n hC dL_performs_259 ?_
                  refine y_icmp_ne_n (tgt := 267) hC dL_performs_260 (by decide) (by omega) (by omega) (fun c_260 => ?_) (fun c_260 => ?_)
                  · exact absurd rfl c_260
                  · refine y_iconst (v := nI 1) hC dL_performs_263 (by decide) ?_
                    refine y_goto (tgt := 268) hC dL_performs_264 (by decide) ?_
                    refine y_zret (hrt := rfl) (hn := rfl) (hC := hC) (hd := dL_performs_268) (hq := ?_)
                    have hvr : OK ((tyS S 7 (ptx S.tx i 107 d n 7)).rec.row (itF (pbd 107 d n) i S.r)) (B + 10000) := by
                      have := ok_perform (ok_ty (tx := S.tx) (k := 7) (t := i) (q := 107) (d := d) (n := n) ho (by decide) ht.2 (by decide) hd hn.2) (by omega)
                      rw [he_252] at this
                      exact this
                    exact ⟨rfl, _, _, _, _, _, hL_252, (show IV _ c r1 h1 p (B + 10000) (M + 10 * i) from ⟨hvr, hR.2⟩).le (by omega) (by omega)⟩
                · refine y_bipush (v := nI 8) hC dL_performs_186 (by decide) ?_
                  refine y_bipush (v := nI 8) hC dL_performs_188 (by decide) ?_
                  refine y_iload hC dL_performs_190 rfl ?_
                  refine y_imul_n hC dL_performs_192 ?_
                  refine y_iadd_n hC dL_performs_193 ?_
                  refine y_istore hC dL_performs_194 (Nat.le_of_ble_eq_true rfl) rfl (lo' := [some (rf E (0)), some (rf E (101)), some (rf E (102)), some (.int (x)), some (.int (nI (t))), some (.int (nI (d))), some (.int (nI (n))), some (.int (nI (0))), some (.int (nI (S.ln))), some (.int (nI (28))), some (.int (nI (i))), some (.int (nI (8 + (8 * d)))), none]) rfl ?_
                  refine y_iload hC dL_performs_196 rfl ?_
                  refine y_if_eq_n (tgt := 218) hC dL_performs_198 (by decide) (by omega) (fun c_198 => ?_) (fun c_198 => ?_)
                  · refine y_aload_n hC dL_performs_218 (i := 1) rfl rfl ?_
                    refine y_iload hC dL_performs_219 rfl ?_
                    refine y_bipush (v := nI 6) hC dL_performs_221 (by decide) ?_
                    refine y_iadd_n hC dL_performs_223 ?_
                    refine y_dup2 hC dL_performs_224 rfl rfl ?_
                    refine y_iald hC dL_performs_225 (k := 101) (j := (8 + (8 * d)) + 6) (by have := hL.k; omega) hL.a101 (rfl) (by omega) (by decide) ?_
                    refine y_top (y := nI (K1 d)) (hq1.f6 hd1) ?_
                    refine y_iconst (v := nI 1) hC dL_performs_226 (by decide) ?_
                    refine y_iadd_n hC dL_performs_227 ?_
                    refine y_iast hC dL_performs_228 (k := 101) (j := (8 + (8 * d)) + 6) (by have := hL.k; omega) hL.a101 (rfl) (by omega) (by decide) ?_
                    have hL_228 := hL.ur (upd r1 ((8 + (8 * d)) + 6) (nI ((K1 d) + 1)))
                    generalize (va_up gg (101) (aI E 0 56 (upd r1 ((8 + (8 * d)) + 6) (nI ((K1 d) + 1))))) = G_228 at hL_228  ⊢
                    refine y_aload_n hC dL_performs_229 (i := 2) rfl rfl ?_
                    refine y_iconst (v := nI 2) hC dL_performs_230 (by decide) ?_
                    refine y_dup2 hC dL_performs_231 rfl rfl ?_
                    refine y_iald hC dL_performs_232 (k := 102) (j := 2) (by have := hL_228.k; omega) hL_228.a102 (rfl) (by omega) (by decide) ?_
                    refine y_top (y := nI (nn ((itF (pbd 107 d n) i S.r) 157))) (hg1.s.trans h157) ?_
                    refine y_iconst (v := nI 1) hC dL_performs_233 (by decide) ?_
                    refine y_iadd_n hC dL_performs_234 ?_
                    refine y_iast hC dL_performs_235 (k := 102) (j := 2) (by have := hL_228.k; omega) hL_228.a102 (rfl) (by omega) (by decide) ?_
                    have hL_235 := hL_228.uh (upd h1 (2) (nI ((nn ((itF (pbd 107 d n) i S.r) 157)) + 1)))
                    generalize (va_up G_228 (102) (aI E 0 20 (upd h1 (2) (nI ((nn ((itF (pbd 107 d n) i S.r) 157)) + 1))))) = G_235 at hL_235  ⊢
                    have hR2 : IR (stpR (itF (pbd 107 d n) i S.r) d) c (upd r1 ((8 + (8 * d)) + 6) (nI ((K1 d) + 1))) (upd h1 (2) (nI ((nn ((itF (pbd 107 d n) i S.r) 157)) + 1))) p (B + 10 * i + 1) (M + 10 * i) := hR.stp (by omega) hd1 (fun i h4 => pk_un (by omega)) (hq1.f6 hd1) pk_us (fun i h2 => pk_un (by omega)) pk_us (by omega)
                    obtain ⟨hv2, ⟨a2, K2, hq2⟩, hg2, hcl2, hvc2, hpi2⟩ := id hR2
                    refine y_aload_n hC dL_performs_236 (i := 1) rfl rfl ?_
                    refine y_aload_n hC dL_performs_237 (i := 2) rfl rfl ?_
                    refine y_iload hC dL_performs_238 rfl ?_
                    refine y_callS hC mL_passes kXL_72 dL_performs_240 (As := [rf E (101), rf E (102), .int (nI (n))]) (rest := []) (c_L_passes l E G_235 101 102 (by have := hL_235.k; omega) (by have := hL_235.k; omega) (by decide) _ _ hL_235.a101 hL_235.a102 (stpR (itF (pbd 107 d n) i S.r) d) (B + 10 * i + 1) (M + 10 * i) hv2 (by omega) (by omega) a2 K2 hq2 hg2 n (by omega)) rfl rfl rfl (Nat.le_of_ble_eq_true rfl) ⟨Nat.le_of_ble_eq_true rfl, Nat.le_of_ble_eq_true rfl⟩ (pk_i ?_)
                    rintro r_240 g_240 ⟨hr_240, r3, h3, a3, h101_240, h102_240, ho_240, hq3, hg3⟩
                    rw [hr_240]
                    clear hr_240 r_240
                    have hL_240 := hL_235.wrh h101_240 h102_240 ho_240
                    have hR3 := (hR2.tk (by omega) (by omega) hq3 hg3).le (show B + 10 * i + 1 + n ≤ B + 10 * (i + 1) by omega) (show M + 10 * i + n ≤ M + 10 * (i + 1) by omega)
                    have he3 : tkR (stpR (itF (pbd 107 d n) i S.r) d) n = itF (pbd 107 d n) (i + 1) S.r := (pbd_0.symm).trans itF_s.symm
                    rw [he3] at hR3
                    refine y_istore hC dL_performs_243 (Nat.le_of_ble_eq_true rfl) rfl (lo' := [some (rf E (0)), some (rf E (101)), some (rf E (102)), some (.int (x)), some (.int (nI (t))), some (.int (nI (d))), some (.int (nI (n))), some (.int (nI (0))), some (.int (nI (S.ln))), some (.int (nI (28))), some (.int (nI (i))), some (.int (nI (8 + (8 * d)))), some (.int (nI (made (stpR (itF (pbd 107 d n) i S.r) d) n)))]) rfl ?_
                    refine y_iinc_n hC dL_performs_245 (a := i) (k := 1) rfl (by decide) (Nat.le_of_ble_eq_true rfl) rfl (lo' := [some (rf E (0)), some (rf E (101)), some (rf E (102)), some (.int (x)), some (.int (nI (t))), some (.int (nI (d))), some (.int (nI (n))), some (.int (nI (0))), some (.int (nI (S.ln))), some (.int (nI (28))), some (.int (nI (i + 1))), some (.int (nI (8 + (8 * d)))), some (.int (nI (made (stpR (itF (pbd 107 d n) i S.r) d) n)))]) rfl ?_
                    refine y_goto (tgt := 179) hC dL_performs_248 (by decide) ?_
                    refine y_fg 11 (lo' := [some (rf E (0)), some (rf E (101)), some (rf E (102)), some (.int (x)), some (.int (nI (t))), some (.int (nI (d))), some (.int (nI (n))), some (.int (nI (0))), some (.int (nI (S.ln))), some (.int (nI (28))), some (.int (nI (i + 1))), none, some (.int (nI (made (stpR (itF (pbd 107 d n) i S.r) d) n)))]) rfl ?_
                    refine y_fg 12 (lo' := [some (rf E (0)), some (rf E (101)), some (rf E (102)), some (.int (x)), some (.int (nI (t))), some (.int (nI (d))), some (.int (nI (n))), some (.int (nI (0))), some (.int (nI (S.ln))), some (.int (nI (28))), some (.int (nI (i + 1))), none, none]) rfl ?_
                    exact ih_179 (i + 1) g_240 r3 h3 (by omega) (by omega) hL_240 hR3
                  · exfalso
                    omega
            exact L_179 (t + 1) 0 G_144 r h (by omega) (by omega) hL_144 hI.ir
          · refine y_aload_n hC dL_performs_162 (i := 0) rfl rfl ?_
            refine y_callVF hC hL_144.s mX5_perform kXL_134 dL_performs_163 (b := 0) (As := []) (rest := []) (CPm hL_144.cp (fun sh mk wa hcq => c_X5_perform l Ec G_144 (tyS S 7 (ptx S.tx t 107 d n 7)) B (by omega) (ok_ty (tx := S.tx) (k := 7) (t := t) (q := 107) (d := d) (n := n) ho (by decide) ht.2 (by decide) hd hn.2) sh mk wa hcq (by omega))) hL_144.k0 hL_144.a0 rfl rfl rfl (Nat.le_of_ble_eq_true rfl) ⟨Nat.le_of_ble_eq_true rfl, Nat.le_of_ble_eq_true rfl⟩ (pkf_i ?_)
            rintro r_163 g_163 ⟨hr_163, hc_163⟩
            have he_163 := qpf_1 (S := S) (tx := S.tx) (t := t) (q := 107) (d := d) (n := n) ht (by decide) hd hn (by omega)
            rw [he_163] at hr_163 hc_163
            replace hr_163 : r_163 = ((-1)) := hr_163
            replace hc_163 : CP Ec g_163 ((tyS S 7 (ptx S.tx t 107 d n 7))) := hc_163
            rw [hr_163]
            clear hr_163 r_163
            have hL_163 := hL_144.call hc_163
            generalize mrg (eK Ec) g_163 G_144 = G_163 at hL_163  ⊢
            refine y_iconst (v := (-1)) hC dL_performs_166 (by decide) ?_
            refine y_icmp_ne (tgt := 174) hC dL_performs_167 (by decide) (fun c_167 => ?_) (fun c_167 => ?_)
            · exact absurd rfl c_167
            · refine y_iconst (v := nI 1) hC dL_performs_170 (by decide) ?_
              refine y_goto (tgt := 175) hC dL_performs_171 (by decide) ?_
              refine y_zret (hrt := rfl) (hn := rfl) (hC := hC) (hd := dL_performs_175) (hq := ?_)
              exact ⟨rfl, (tyS S 7 (ptx S.tx t 107 d n 7)), c, r, h, p, hL_163, (show IV (tyS S 7 (ptx S.tx t 107 d n 7)) c r h p B M from ⟨(ok_ty (tx := S.tx) (k := 7) (t := t) (q := 107) (d := d) (n := n) ho (by decide) ht.2 (by decide) hd hn.2), hI.2⟩).le (by omega) (by omega)⟩
        · exact absurd rfl c_149
  · exfalso
    omega

set_option maxHeartbeats 4000000 in
set_option maxRecDepth 100000 in
theorem c_L_performs (l : Launch) (E : gE) (g : Mem) (Ec : gE) (S : AS) (c r h p : Nat → Int32) (hL : LWP Ec E g S c r h p) (B M : Nat) (hB : B ≤ 9000000) (hM : M ≤ 90000000) (hI : IV S c r h p B M) (x : Int32) : Mt l E yL_performs cL_performs 13 (some .boolean) 7 160 [rf E (0), rf E (101), rf E (102), .int (x)] g (pI (fun z g' => z = nI 1 ∧ ∃ (S' : AS) (c' r' h' p' : Nat → Int32), LWP Ec E g' S' c' r' h' p' ∧ IV S' c' r' h' p' (B + 100000) (M + 1000))) := by
  have l1 := lw_lt (x := x) (n := 8) (by decide)
  have l2 := lw_lt (x := (x) >>> (nI (3) &&& 31)) (n := 6) (by decide)
  have l3 := lw_lt (x := (x) >>> (nI (6) &&& 31)) (n := 9) (by decide)
  have l4 := lw_lt (x := (x) >>> (nI (10) &&& 31)) (n := 2) (by decide)
  refine mt_go (own := RXL) (by decide) rfl (lo := [some (rf E (0)), some (rf E (101)), some (rf E (102)), some (.int (x)), none, none, none, none, none, none, none, none, none]) rfl (Nat.le_of_ble_eq_true rfl) (fun X hC => ?_)
  refine y_iconst (v := nI 2) hC dL_performs_0 (by decide) ?_
  refine y_iload_n hC dL_performs_1 (i := 3) rfl rfl ?_
  refine y_bipush (v := nI 8) hC dL_performs_2 (by decide) ?_
  refine y_callS hC mL_low kXL_64 dL_performs_4 (As := [.int (x), .int (nI (8))]) (rest := [.int (nI (2))]) (c_L_low l E g ((x)) (8) (by omega) (by omega)) rfl rfl rfl (Nat.le_of_ble_eq_true rfl) ⟨Nat.le_of_ble_eq_true rfl, Nat.le_of_ble_eq_true rfl⟩ (pk_i ?_)
  rintro r_4 g_4 ⟨hr_4, hq_4⟩
  obtain rfl := hq_4.symm
  rw [hr_4]
  clear hr_4 r_4
  refine y_iadd_n hC dL_performs_7 ?_
  refine y_istore hC dL_performs_8 (Nat.le_of_ble_eq_true rfl) rfl (lo' := [some (rf E (0)), some (rf E (101)), some (rf E (102)), some (.int (x)), some (.int (nI (2 + (lw ((x)) (8))))), none, none, none, none, none, none, none, none]) rfl ?_
  refine y_iload_n hC dL_performs_10 (i := 3) rfl rfl ?_
  refine y_iconst (v := nI 3) hC dL_performs_11 (by decide) ?_
  refine y_ishr hC dL_performs_12 ?_
  refine y_bipush (v := nI 6) hC dL_performs_13 (by decide) ?_
  refine y_callS hC mL_low kXL_64 dL_performs_15 (As := [.int ((x) >>> (nI (3) &&& 31)), .int (nI (6))]) (rest := []) (c_L_low l E g (((x) >>> (nI (3) &&& 31))) (6) (by omega) (by omega)) rfl rfl rfl (Nat.le_of_ble_eq_true rfl) ⟨Nat.le_of_ble_eq_true rfl, Nat.le_of_ble_eq_true rfl⟩ (pk_i ?_)
  rintro r_15 g_15 ⟨hr_15, hq_15⟩
  obtain rfl := hq_15.symm
  rw [hr_15]
  clear hr_15 r_15
  refine y_istore hC dL_performs_18 (Nat.le_of_ble_eq_true rfl) rfl (lo' := [some (rf E (0)), some (rf E (101)), some (rf E (102)), some (.int (x)), some (.int (nI (2 + (lw ((x)) (8))))), some (.int (nI (lw (((x) >>> (nI (3) &&& 31))) (6)))), none, none, none, none, none, none, none]) rfl ?_
  refine y_iconst (v := nI 1) hC dL_performs_20 (by decide) ?_
  refine y_iload_n hC dL_performs_21 (i := 3) rfl rfl ?_
  refine y_bipush (v := nI 6) hC dL_performs_22 (by decide) ?_
  refine y_ishr hC dL_performs_24 ?_
  refine y_bipush (v := nI 9) hC dL_performs_25 (by decide) ?_
  refine y_callS hC mL_low kXL_64 dL_performs_27 (As := [.int ((x) >>> (nI (6) &&& 31)), .int (nI (9))]) (rest := [.int (nI (1))]) (c_L_low l E g (((x) >>> (nI (6) &&& 31))) (9) (by omega) (by omega)) rfl rfl rfl (Nat.le_of_ble_eq_true rfl) ⟨Nat.le_of_ble_eq_true rfl, Nat.le_of_ble_eq_true rfl⟩ (pk_i ?_)
  rintro r_27 g_27 ⟨hr_27, hq_27⟩
  obtain rfl := hq_27.symm
  rw [hr_27]
  clear hr_27 r_27
  refine y_iadd_n hC dL_performs_30 ?_
  refine y_istore hC dL_performs_31 (Nat.le_of_ble_eq_true rfl) rfl (lo' := [some (rf E (0)), some (rf E (101)), some (rf E (102)), some (.int (x)), some (.int (nI (2 + (lw ((x)) (8))))), some (.int (nI (lw (((x) >>> (nI (3) &&& 31))) (6)))), some (.int (nI (1 + (lw (((x) >>> (nI (6) &&& 31))) (9))))), none, none, none, none, none, none]) rfl ?_
  refine y_iload_n hC dL_performs_33 (i := 3) rfl rfl ?_
  refine y_bipush (v := nI 10) hC dL_performs_34 (by decide) ?_
  refine y_ishr hC dL_performs_36 ?_
  refine y_iconst (v := nI 2) hC dL_performs_37 (by decide) ?_
  refine y_callS hC mL_low kXL_64 dL_performs_38 (As := [.int ((x) >>> (nI (10) &&& 31)), .int (nI (2))]) (rest := []) (c_L_low l E g (((x) >>> (nI (10) &&& 31))) (2) (by omega) (by omega)) rfl rfl rfl (Nat.le_of_ble_eq_true rfl) ⟨Nat.le_of_ble_eq_true rfl, Nat.le_of_ble_eq_true rfl⟩ (pk_i ?_)
  rintro r_38 g_38 ⟨hr_38, hq_38⟩
  obtain rfl := hq_38.symm
  rw [hr_38]
  clear hr_38 r_38
  refine y_if_ne_n (tgt := 48) hC dL_performs_41 (by decide) (by omega) (fun c_41 => ?_) (fun c_41 => ?_)
  · refine y_iconst (v := nI 0) hC dL_performs_48 (by decide) ?_
    refine y_istore hC dL_performs_49 (Nat.le_of_ble_eq_true rfl) rfl (lo' := [some (rf E (0)), some (rf E (101)), some (rf E (102)), some (.int (x)), some (.int (nI (2 + (lw ((x)) (8))))), some (.int (nI (lw (((x) >>> (nI (3) &&& 31))) (6)))), some (.int (nI (1 + (lw (((x) >>> (nI (6) &&& 31))) (9))))), some (.int (nI (0))), none, none, none, none, none]) rfl ?_
    exact w_performs_0 l E X g Ec S c r h p hL B M hB hM hI x (2 + (lw ((x)) (8))) (lw (((x) >>> (nI (3) &&& 31))) (6)) (1 + (lw (((x) >>> (nI (6) &&& 31))) (9))) ⟨by omega, by omega⟩ (by omega) ⟨by omega, by omega⟩ hC
  · refine y_iconst (v := nI 1) hC dL_performs_44 (by decide) ?_
    refine y_goto (tgt := 49) hC dL_performs_45 (by decide) ?_
    refine y_istore hC dL_performs_49 (Nat.le_of_ble_eq_true rfl) rfl (lo' := [some (rf E (0)), some (rf E (101)), some (rf E (102)), some (.int (x)), some (.int (nI (2 + (lw ((x)) (8))))), some (.int (nI (lw (((x) >>> (nI (3) &&& 31))) (6)))), some (.int (nI (1 + (lw (((x) >>> (nI (6) &&& 31))) (9))))), some (.int (nI (1))), none, none, none, none, none]) rfl ?_
    exact w_performs_1 l E X g Ec S c r h p hL B M hB hM hI x (2 + (lw ((x)) (8))) (lw (((x) >>> (nI (3) &&& 31))) (6)) (1 + (lw (((x) >>> (nI (6) &&& 31))) (9))) ⟨by omega, by omega⟩ (by omega) ⟨by omega, by omega⟩ hC

