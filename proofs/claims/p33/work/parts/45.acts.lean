/-! ===== the law: one act ===== -/
theorem pksa_i {l : Launch} {E : gE} {X : gX} {post : Option Value → Mem → Prop} {pc : Nat} {lo : List (Option Value)} {P : Prop} {p : Int32 → Mem → Prop} {rest : List Value} (kk : ∀ (r : Int32) (g' : Mem), p r g' → P → Y l E X post pc lo (.int r :: rest) g') : ∀ (v : Option Value) (g' : Mem), pI p v g' → P → Y l E X post pc lo (v.toList ++ rest) g' := fun v g' h hp => by
  obtain ⟨r, rfl, h⟩ := h
  exact kk r g' h hp
theorem qps {S : AS} {t : Nat} (h1 : 1 ≤ t) (h2 : t ≤ 1000) : qPass S (nI t) = (nI (made S.r t), S.rec.row (tkR S.r t)) := by
  unfold qPass
  rw [if_pos (by rw [tI (by omega)]; omega), nn_I (by omega)]
/-- ticks have passed -/
theorem IV.tk {S S2 : AS} {c r h p r2 h2 : Nat → Int32} {a2 K2 : Nat → Nat} {B M B2 n : Nat} (q : IV S c r h p B M) (ho : OK S2 B2) (e : S2.r = tkR S.r n) (hn : n ≤ 1000) (hB : B ≤ 9000000) (hq : RgL (tkR S.r n) r2 a2 K2 (M + n)) (hg : GlL (tkR S.r n) h2) : IV S2 c r2 h2 p B2 (M + n) := by
  have h9 := q.ir.tk (by omega) hn hq hg
  rw [← e] at h9
  exact ⟨ho, h9.2⟩
theorem dL_acts_0 : decode cL_acts 0 = .ok (.iload 5, 2) := by decide +kernel
theorem dL_acts_2 : decode cL_acts 2 = .ok (.tableswitch 245 0 13 #[70, 70, 80, 110, 125, 140, 150, 179, 179, 189, 214, 225, 225, 236], 70) := by decide +kernel
theorem dL_acts_72 : decode cL_acts 72 = .ok (.aload_n 0, 1) := by decide +kernel
theorem dL_acts_73 : decode cL_acts 73 = .ok (.aload_n 2, 1) := by decide +kernel
theorem dL_acts_74 : decode cL_acts 74 = .ok (.iload 6, 2) := by decide +kernel
theorem dL_acts_76 : decode cL_acts 76 = .ok (.iload 7, 2) := by decide +kernel
theorem dL_acts_78 : decode cL_acts 78 = .ok (.invokestatic 137, 3) := by decide +kernel
theorem dL_acts_81 : decode cL_acts 81 = .ok (.ireturn, 1) := by decide +kernel
theorem dL_acts_82 : decode cL_acts 82 = .ok (.iload 7, 2) := by decide +kernel
theorem dL_acts_84 : decode cL_acts 84 = .ok (.iconst 2, 1) := by decide +kernel
theorem dL_acts_85 : decode cL_acts 85 = .ok (.invokestatic 64, 3) := by decide +kernel
theorem dL_acts_88 : decode cL_acts 88 = .ok (.ifCond .eq 18, 3) := by decide +kernel
theorem dL_acts_91 : decode cL_acts 91 = .ok (.aload_n 0, 1) := by decide +kernel
theorem dL_acts_92 : decode cL_acts 92 = .ok (.aload_n 2, 1) := by decide +kernel
theorem dL_acts_93 : decode cL_acts 93 = .ok (.iload 6, 2) := by decide +kernel
theorem dL_acts_95 : decode cL_acts 95 = .ok (.bipush 7, 2) := by decide +kernel
theorem dL_acts_97 : decode cL_acts 97 = .ok (.invokestatic 64, 3) := by decide +kernel
theorem dL_acts_100 : decode cL_acts 100 = .ok (.invokestatic 141, 3) := by decide +kernel
theorem dL_acts_103 : decode cL_acts 103 = .ok (.ifCond .eq 7, 3) := by decide +kernel
theorem dL_acts_106 : decode cL_acts 106 = .ok (.iconst 1, 1) := by decide +kernel
theorem dL_acts_107 : decode cL_acts 107 = .ok (.goto 4, 3) := by decide +kernel
theorem dL_acts_110 : decode cL_acts 110 = .ok (.iconst 0, 1) := by decide +kernel
theorem dL_acts_111 : decode cL_acts 111 = .ok (.ireturn, 1) := by decide +kernel
theorem dL_acts_112 : decode cL_acts 112 = .ok (.aload_n 0, 1) := by decide +kernel
theorem dL_acts_113 : decode cL_acts 113 = .ok (.aload_n 2, 1) := by decide +kernel
theorem dL_acts_114 : decode cL_acts 114 = .ok (.iload 6, 2) := by decide +kernel
theorem dL_acts_116 : decode cL_acts 116 = .ok (.bipush 6, 2) := by decide +kernel
theorem dL_acts_118 : decode cL_acts 118 = .ok (.invokestatic 64, 3) := by decide +kernel
theorem dL_acts_121 : decode cL_acts 121 = .ok (.iload 7, 2) := by decide +kernel
theorem dL_acts_123 : decode cL_acts 123 = .ok (.invokestatic 145, 3) := by decide +kernel
theorem dL_acts_126 : decode cL_acts 126 = .ok (.ireturn, 1) := by decide +kernel
theorem dL_acts_127 : decode cL_acts 127 = .ok (.aload_n 0, 1) := by decide +kernel
theorem dL_acts_128 : decode cL_acts 128 = .ok (.aload_n 2, 1) := by decide +kernel
theorem dL_acts_129 : decode cL_acts 129 = .ok (.iload 6, 2) := by decide +kernel
theorem dL_acts_131 : decode cL_acts 131 = .ok (.bipush 6, 2) := by decide +kernel
theorem dL_acts_133 : decode cL_acts 133 = .ok (.invokestatic 64, 3) := by decide +kernel
theorem dL_acts_136 : decode cL_acts 136 = .ok (.iload 7, 2) := by decide +kernel
theorem dL_acts_138 : decode cL_acts 138 = .ok (.invokestatic 148, 3) := by decide +kernel
theorem dL_acts_141 : decode cL_acts 141 = .ok (.ireturn, 1) := by decide +kernel
theorem dL_acts_142 : decode cL_acts 142 = .ok (.aload_n 0, 1) := by decide +kernel
theorem dL_acts_143 : decode cL_acts 143 = .ok (.aload_n 3, 1) := by decide +kernel
theorem dL_acts_144 : decode cL_acts 144 = .ok (.iload 6, 2) := by decide +kernel
theorem dL_acts_146 : decode cL_acts 146 = .ok (.iload 7, 2) := by decide +kernel
theorem dL_acts_148 : decode cL_acts 148 = .ok (.invokestatic 151, 3) := by decide +kernel
theorem dL_acts_151 : decode cL_acts 151 = .ok (.ireturn, 1) := by decide +kernel
theorem dL_acts_152 : decode cL_acts 152 = .ok (.iload 7, 2) := by decide +kernel
theorem dL_acts_154 : decode cL_acts 154 = .ok (.iconst 3, 1) := by decide +kernel
theorem dL_acts_155 : decode cL_acts 155 = .ok (.invokestatic 64, 3) := by decide +kernel
theorem dL_acts_158 : decode cL_acts 158 = .ok (.ifCond .gt 17, 3) := by decide +kernel
theorem dL_acts_161 : decode cL_acts 161 = .ok (.aload_n 0, 1) := by decide +kernel
theorem dL_acts_162 : decode cL_acts 162 = .ok (.aload_n 3, 1) := by decide +kernel
theorem dL_acts_163 : decode cL_acts 163 = .ok (.iload 6, 2) := by decide +kernel
theorem dL_acts_165 : decode cL_acts 165 = .ok (.iconst 5, 1) := by decide +kernel
theorem dL_acts_166 : decode cL_acts 166 = .ok (.invokestatic 64, 3) := by decide +kernel
theorem dL_acts_169 : decode cL_acts 169 = .ok (.invokestatic 154, 3) := by decide +kernel
theorem dL_acts_172 : decode cL_acts 172 = .ok (.ifCond .eq 7, 3) := by decide +kernel
theorem dL_acts_175 : decode cL_acts 175 = .ok (.iconst 1, 1) := by decide +kernel
theorem dL_acts_176 : decode cL_acts 176 = .ok (.goto 4, 3) := by decide +kernel
theorem dL_acts_179 : decode cL_acts 179 = .ok (.iconst 0, 1) := by decide +kernel
theorem dL_acts_180 : decode cL_acts 180 = .ok (.ireturn, 1) := by decide +kernel
theorem dL_acts_181 : decode cL_acts 181 = .ok (.aload_n 0, 1) := by decide +kernel
theorem dL_acts_182 : decode cL_acts 182 = .ok (.aload_n 1, 1) := by decide +kernel
theorem dL_acts_183 : decode cL_acts 183 = .ok (.iload 6, 2) := by decide +kernel
theorem dL_acts_185 : decode cL_acts 185 = .ok (.iload 7, 2) := by decide +kernel
theorem dL_acts_187 : decode cL_acts 187 = .ok (.invokestatic 157, 3) := by decide +kernel
theorem dL_acts_190 : decode cL_acts 190 = .ok (.ireturn, 1) := by decide +kernel
theorem dL_acts_191 : decode cL_acts 191 = .ok (.iload 7, 2) := by decide +kernel
theorem dL_acts_193 : decode cL_acts 193 = .ok (.iconst 3, 1) := by decide +kernel
theorem dL_acts_194 : decode cL_acts 194 = .ok (.invokestatic 64, 3) := by decide +kernel
theorem dL_acts_197 : decode cL_acts 197 = .ok (.ifCond .gt 13, 3) := by decide +kernel
theorem dL_acts_200 : decode cL_acts 200 = .ok (.aload_n 0, 1) := by decide +kernel
theorem dL_acts_201 : decode cL_acts 201 = .ok (.aload_n 1, 1) := by decide +kernel
theorem dL_acts_202 : decode cL_acts 202 = .ok (.aload_n 2, 1) := by decide +kernel
theorem dL_acts_203 : decode cL_acts 203 = .ok (.aload_n 3, 1) := by decide +kernel
theorem dL_acts_204 : decode cL_acts 204 = .ok (.invokestatic 160, 3) := by decide +kernel
theorem dL_acts_207 : decode cL_acts 207 = .ok (.ifCond .eq 7, 3) := by decide +kernel
theorem dL_acts_210 : decode cL_acts 210 = .ok (.iconst 1, 1) := by decide +kernel
theorem dL_acts_211 : decode cL_acts 211 = .ok (.goto 4, 3) := by decide +kernel
theorem dL_acts_214 : decode cL_acts 214 = .ok (.iconst 0, 1) := by decide +kernel
theorem dL_acts_215 : decode cL_acts 215 = .ok (.ireturn, 1) := by decide +kernel
theorem dL_acts_216 : decode cL_acts 216 = .ok (.aload_n 0, 1) := by decide +kernel
theorem dL_acts_217 : decode cL_acts 217 = .ok (.aload 4, 2) := by decide +kernel
theorem dL_acts_219 : decode cL_acts 219 = .ok (.iload 6, 2) := by decide +kernel
theorem dL_acts_221 : decode cL_acts 221 = .ok (.iload 7, 2) := by decide +kernel
theorem dL_acts_223 : decode cL_acts 223 = .ok (.invokestatic 164, 3) := by decide +kernel
theorem dL_acts_226 : decode cL_acts 226 = .ok (.ireturn, 1) := by decide +kernel
theorem dL_acts_227 : decode cL_acts 227 = .ok (.aload_n 0, 1) := by decide +kernel
theorem dL_acts_228 : decode cL_acts 228 = .ok (.aload 4, 2) := by decide +kernel
theorem dL_acts_230 : decode cL_acts 230 = .ok (.iload 6, 2) := by decide +kernel
theorem dL_acts_232 : decode cL_acts 232 = .ok (.iload 7, 2) := by decide +kernel
theorem dL_acts_234 : decode cL_acts 234 = .ok (.invokestatic 167, 3) := by decide +kernel
theorem dL_acts_237 : decode cL_acts 237 = .ok (.ireturn, 1) := by decide +kernel
theorem dL_acts_238 : decode cL_acts 238 = .ok (.aload_n 0, 1) := by decide +kernel
theorem dL_acts_239 : decode cL_acts 239 = .ok (.aload_n 2, 1) := by decide +kernel
theorem dL_acts_240 : decode cL_acts 240 = .ok (.aload_n 3, 1) := by decide +kernel
theorem dL_acts_241 : decode cL_acts 241 = .ok (.iload 6, 2) := by decide +kernel
theorem dL_acts_243 : decode cL_acts 243 = .ok (.invokestatic 170, 3) := by decide +kernel
theorem dL_acts_246 : decode cL_acts 246 = .ok (.ireturn, 1) := by decide +kernel
theorem dL_acts_247 : decode cL_acts 247 = .ok (.iconst 1, 1) := by decide +kernel
theorem dL_acts_248 : decode cL_acts 248 = .ok (.iload 6, 2) := by decide +kernel
theorem dL_acts_250 : decode cL_acts 250 = .ok (.iload 7, 2) := by decide +kernel
theorem dL_acts_252 : decode cL_acts 252 = .ok (.iconst 4, 1) := by decide +kernel
theorem dL_acts_253 : decode cL_acts 253 = .ok (.invokestatic 64, 3) := by decide +kernel
theorem dL_acts_256 : decode cL_acts 256 = .ok (.ifCond .ne 9, 3) := by decide +kernel
theorem dL_acts_259 : decode cL_acts 259 = .ok (.sipush 1000, 3) := by decide +kernel
theorem dL_acts_262 : decode cL_acts 262 = .ok (.goto 5, 3) := by decide +kernel
theorem dL_acts_265 : decode cL_acts 265 = .ok (.bipush 25, 2) := by decide +kernel
theorem dL_acts_267 : decode cL_acts 267 = .ok (.invokestatic 64, 3) := by decide +kernel
theorem dL_acts_270 : decode cL_acts 270 = .ok (.iadd, 1) := by decide +kernel
theorem dL_acts_271 : decode cL_acts 271 = .ok (.istore 8, 2) := by decide +kernel
theorem dL_acts_273 : decode cL_acts 273 = .ok (.aload_n 0, 1) := by decide +kernel
theorem dL_acts_274 : decode cL_acts 274 = .ok (.iload 8, 2) := by decide +kernel
theorem dL_acts_276 : decode cL_acts 276 = .ok (.invokevirtual 174, 3) := by decide +kernel
theorem dL_acts_279 : decode cL_acts 279 = .ok (.aload_n 2, 1) := by decide +kernel
theorem dL_acts_280 : decode cL_acts 280 = .ok (.aload_n 3, 1) := by decide +kernel
theorem dL_acts_281 : decode cL_acts 281 = .ok (.iload 8, 2) := by decide +kernel
theorem dL_acts_283 : decode cL_acts 283 = .ok (.invokestatic 72, 3) := by decide +kernel
theorem dL_acts_286 : decode cL_acts 286 = .ok (.if_icmp .ne 7, 3) := by decide +kernel
theorem dL_acts_289 : decode cL_acts 289 = .ok (.iconst 1, 1) := by decide +kernel
theorem dL_acts_290 : decode cL_acts 290 = .ok (.goto 4, 3) := by decide +kernel
theorem dL_acts_293 : decode cL_acts 293 = .ok (.iconst 0, 1) := by decide +kernel
theorem dL_acts_294 : decode cL_acts 294 = .ok (.ireturn, 1) := by decide +kernel
set_option maxHeartbeats 4000000 in
set_option maxRecDepth 100000 in
theorem c_L_acts (l : Launch) (G : va_G) (T : Nat → ClassId) (b : Nat) (g : Mem) (S : AS) (c r h p : Nat → Int32) (hL : LWP (zE G T b 100) (zE G T b 104) g S c r h p) (B M : Nat) (hB : B ≤ 9000000) (hM : M ≤ 90000000) (hI : IV S c r h p B M) (kind : Nat) (hk : kind < 16) (x y : Int32) : Mta l (zE G T b 104) (zA b) yL_acts cL_acts 9 (some .boolean) 8 192 1 64 [rf (zE G T b 104) (0), rf (zE G T b 104) (100), rf (zE G T b 104) (101), rf (zE G T b 104) (102), rf (zE G T b 104) (103), .int (nI (kind)), .int (x), .int (y)] g (pI (fun z g' => z = nI 1 ∧ ∃ (S' : AS) (c' r' h' p' : Nat → Int32), LWP (zE G T b 100) (zE G T b 104) g' S' c' r' h' p' ∧ IV S' c' r' h' p' (B + 100000) (M + 1000))) := by
  obtain ⟨ho, ⟨a, K, hq⟩, hg, hcl, hvc, hpi⟩ := id hI
  have hb1 := lw_lt (x := y) (n := 2) (by decide)
  have hb3 := lw_lt (x := y) (n := 3) (by decide)
  have hb4 := lw_lt (x := y) (n := 4) (by decide)
  have hx1 := lw_lt (x := x) (n := 1000) (by decide)
  have hx2 := lw_lt (x := x) (n := 25) (by decide)
  refine mta_go (own := RXL) (by decide) rfl (fun q hq => zgA hq) (lo := [some (rf (zE G T b 104) (0)), some (rf (zE G T b 104) (100)), some (rf (zE G T b 104) (101)), some (rf (zE G T b 104) (102)), some (rf (zE G T b 104) (103)), some (.int (nI (kind))), some (.int (x)), some (.int (y)), none]) rfl (Nat.le_of_ble_eq_true rfl) (fun p_ e_ R_ s_ m_ args_ below_ meth_ cd_ H_ hP_ hH_ hC => ?_)
  have hnew : ∀ q, s_.heap.size ≤ q → zA b q := fun q hq => Nat.le_trans (by rw [← hH_]; exact zgH hP_) hq
  refine y_iload hC dL_acts_0 rfl ?_
  rcases (show kind = 0 ∨ kind = 1 ∨ kind = 2 ∨ kind = 3 ∨ kind = 4 ∨ kind = 5 ∨ kind = 6 ∨ kind = 7 ∨ kind = 8 ∨ kind = 9 ∨ kind = 10 ∨ kind = 11 ∨ kind = 12 ∨ kind = 13 ∨ kind = 14 ∨ kind = 15 by omega) with rfl | rfl | rfl | rfl | rfl | rfl | rfl | rfl | rfl | rfl | rfl | rfl | rfl | rfl | rfl | rfl
  · refine y_tabIn hC dL_acts_2 (by decide) (by decide) (off := 70) (by decide) (tgt := 72) (by decide) ?_
    refine y_aload_n hC dL_acts_72 (i := 0) rfl rfl ?_
    refine y_aload_n hC dL_acts_73 (i := 2) rfl rfl ?_
    refine y_iload hC dL_acts_74 rfl ?_
    refine y_iload hC dL_acts_76 rfl ?_
    refine y_callS hC mL_adds kXL_137 dL_acts_78 (As := [rf (zE G T b 104) (0), rf (zE G T b 104) (101), .int (x), .int (y)]) (rest := []) (c_L_adds l (zE G T b 104) g (zE G T b 100) S c r h p hL B M hB hM hI x y) rfl rfl rfl (Nat.le_of_ble_eq_true rfl) ⟨Nat.le_of_ble_eq_true rfl, Nat.le_of_ble_eq_true rfl⟩ (pk_i ?_)
    rintro r_78 g_78 ⟨hr_78, S2, c2, r2, h2, p2, hL2, hI2⟩
    rw [hr_78]
    clear hr_78 r_78
    refine y_zret (hrt := rfl) (hn := rfl) (hC := hC) (hd := dL_acts_81) (hq := ?_)
    exact ⟨rfl, S2, c2, r2, h2, p2, hL2, hI2⟩
  · refine y_tabIn hC dL_acts_2 (by decide) (by decide) (off := 70) (by decide) (tgt := 72) (by decide) ?_
    refine y_aload_n hC dL_acts_72 (i := 0) rfl rfl ?_
    refine y_aload_n hC dL_acts_73 (i := 2) rfl rfl ?_
    refine y_iload hC dL_acts_74 rfl ?_
    refine y_iload hC dL_acts_76 rfl ?_
    refine y_callS hC mL_adds kXL_137 dL_acts_78 (As := [rf (zE G T b 104) (0), rf (zE G T b 104) (101), .int (x), .int (y)]) (rest := []) (c_L_adds l (zE G T b 104) g (zE G T b 100) S c r h p hL B M hB hM hI x y) rfl rfl rfl (Nat.le_of_ble_eq_true rfl) ⟨Nat.le_of_ble_eq_true rfl, Nat.le_of_ble_eq_true rfl⟩ (pk_i ?_)
    rintro r_78 g_78 ⟨hr_78, S2, c2, r2, h2, p2, hL2, hI2⟩
    rw [hr_78]
    clear hr_78 r_78
    refine y_zret (hrt := rfl) (hn := rfl) (hC := hC) (hd := dL_acts_81) (hq := ?_)
    exact ⟨rfl, S2, c2, r2, h2, p2, hL2, hI2⟩
  · refine y_tabIn hC dL_acts_2 (by decide) (by decide) (off := 80) (by decide) (tgt := 82) (by decide) ?_
    refine y_iload hC dL_acts_82 rfl ?_
    refine y_iconst (v := nI 2) hC dL_acts_84 (by decide) ?_
    refine y_callS hC mL_low kXL_64 dL_acts_85 (As := [.int (y), .int (nI (2))]) (rest := []) (c_L_low l (zE G T b 104) g ((y)) (2) (by omega) (by omega)) rfl rfl rfl (Nat.le_of_ble_eq_true rfl) ⟨Nat.le_of_ble_eq_true rfl, Nat.le_of_ble_eq_true rfl⟩ (pk_i ?_)
    rintro r_85 g_85 ⟨hr_85, hq_85⟩
    obtain rfl := hq_85.symm
    rw [hr_85]
    clear hr_85 r_85
    refine y_if_eq_n (tgt := 106) hC dL_acts_88 (by decide) (by omega) (fun c_88 => ?_) (fun c_88 => ?_)
    · refine y_iconst (v := nI 1) hC dL_acts_106 (by decide) ?_
      refine y_goto (tgt := 111) hC dL_acts_107 (by decide) ?_
      refine y_zret (hrt := rfl) (hn := rfl) (hC := hC) (hd := dL_acts_111) (hq := ?_)
      exact ⟨rfl, S, c, r, h, p, hL, hI.le (by omega) (by omega)⟩
    · refine y_aload_n hC dL_acts_91 (i := 0) rfl rfl ?_
      refine y_aload_n hC dL_acts_92 (i := 2) rfl rfl ?_
      refine y_iload hC dL_acts_93 rfl ?_
      refine y_bipush (v := nI 7) hC dL_acts_95 (by decide) ?_
      refine y_callS hC mL_low kXL_64 dL_acts_97 (As := [.int (x), .int (nI (7))]) (rest := [rf (zE G T b 104) (101), rf (zE G T b 104) (0)]) (c_L_low l (zE G T b 104) g ((x)) (7) (by omega) (by omega)) rfl rfl rfl (Nat.le_of_ble_eq_true rfl) ⟨Nat.le_of_ble_eq_true rfl, Nat.le_of_ble_eq_true rfl⟩ (pk_i ?_)
      rintro r_97 g_97 ⟨hr_97, hq_97⟩
      obtain rfl := hq_97.symm
      rw [hr_97]
      clear hr_97 r_97
      refine y_callS hC mL_removes kXL_141 dL_acts_100 (As := [rf (zE G T b 104) (0), rf (zE G T b 104) (101), .int (nI (lw ((x)) (7)))]) (rest := []) (c_L_removes l (zE G T b 104) g (zE G T b 100) S c r h p hL B M hB hM hI (lw ((x)) (7)) (by have := lw_lt (x := x) (n := 7) (by decide); omega)) rfl rfl rfl (Nat.le_of_ble_eq_true rfl) ⟨Nat.le_of_ble_eq_true rfl, Nat.le_of_ble_eq_true rfl⟩ (pk_i ?_)
      rintro r_100 g_100 ⟨hr_100, S2, c2, r2, h2, p2, hL2, hI2⟩
      rw [hr_100]
      clear hr_100 r_100
      refine y_if_eq_n (tgt := 110) hC dL_acts_103 (by decide) (by omega) (fun c_103 => ?_) (fun c_103 => ?_)
      · exfalso
        omega
      · refine y_iconst (v := nI 1) hC dL_acts_106 (by decide) ?_
        refine y_goto (tgt := 111) hC dL_acts_107 (by decide) ?_
        refine y_zret (hrt := rfl) (hn := rfl) (hC := hC) (hd := dL_acts_111) (hq := ?_)
        exact ⟨rfl, S2, c2, r2, h2, p2, hL2, hI2⟩
  · refine y_tabIn hC dL_acts_2 (by decide) (by decide) (off := 110) (by decide) (tgt := 112) (by decide) ?_
    refine y_aload_n hC dL_acts_112 (i := 0) rfl rfl ?_
    refine y_aload_n hC dL_acts_113 (i := 2) rfl rfl ?_
    refine y_iload hC dL_acts_114 rfl ?_
    refine y_bipush (v := nI 6) hC dL_acts_116 (by decide) ?_
    refine y_callS hC mL_low kXL_64 dL_acts_118 (As := [.int (x), .int (nI (6))]) (rest := [rf (zE G T b 104) (101), rf (zE G T b 104) (0)]) (c_L_low l (zE G T b 104) g ((x)) (6) (by omega) (by omega)) rfl rfl rfl (Nat.le_of_ble_eq_true rfl) ⟨Nat.le_of_ble_eq_true rfl, Nat.le_of_ble_eq_true rfl⟩ (pk_i ?_)
    rintro r_118 g_118 ⟨hr_118, hq_118⟩
    obtain rfl := hq_118.symm
    rw [hr_118]
    clear hr_118 r_118
    refine y_iload hC dL_acts_121 rfl ?_
    refine y_callS hC mL_speeds kXL_145 dL_acts_123 (As := [rf (zE G T b 104) (0), rf (zE G T b 104) (101), .int (nI (lw ((x)) (6))), .int (y)]) (rest := []) (c_L_speeds l (zE G T b 104) g (zE G T b 100) S c r h p hL B M hB hM hI (lw ((x)) (6)) (by have := lw_lt (x := x) (n := 6) (by decide); omega) y) rfl rfl rfl (Nat.le_of_ble_eq_true rfl) ⟨Nat.le_of_ble_eq_true rfl, Nat.le_of_ble_eq_true rfl⟩ (pk_i ?_)
    rintro r_123 g_123 ⟨hr_123, S2, c2, r2, h2, p2, hL2, hI2⟩
    rw [hr_123]
    clear hr_123 r_123
    refine y_zret (hrt := rfl) (hn := rfl) (hC := hC) (hd := dL_acts_126) (hq := ?_)
    exact ⟨rfl, S2, c2, r2, h2, p2, hL2, hI2⟩
  · refine y_tabIn hC dL_acts_2 (by decide) (by decide) (off := 125) (by decide) (tgt := 127) (by decide) ?_
    refine y_aload_n hC dL_acts_127 (i := 0) rfl rfl ?_
    refine y_aload_n hC dL_acts_128 (i := 2) rfl rfl ?_
    refine y_iload hC dL_acts_129 rfl ?_
    refine y_bipush (v := nI 6) hC dL_acts_131 (by decide) ?_
    refine y_callS hC mL_low kXL_64 dL_acts_133 (As := [.int (x), .int (nI (6))]) (rest := [rf (zE G T b 104) (101), rf (zE G T b 104) (0)]) (c_L_low l (zE G T b 104) g ((x)) (6) (by omega) (by omega)) rfl rfl rfl (Nat.le_of_ble_eq_true rfl) ⟨Nat.le_of_ble_eq_true rfl, Nat.le_of_ble_eq_true rfl⟩ (pk_i ?_)
    rintro r_133 g_133 ⟨hr_133, hq_133⟩
    obtain rfl := hq_133.symm
    rw [hr_133]
    clear hr_133 r_133
    refine y_iload hC dL_acts_136 rfl ?_
    refine y_callS hC mL_runs kXL_148 dL_acts_138 (As := [rf (zE G T b 104) (0), rf (zE G T b 104) (101), .int (nI (lw ((x)) (6))), .int (y)]) (rest := []) (c_L_runs l (zE G T b 104) g (zE G T b 100) S c r h p hL B M hB hM hI (lw ((x)) (6)) (by have := lw_lt (x := x) (n := 6) (by decide); omega) y) rfl rfl rfl (Nat.le_of_ble_eq_true rfl) ⟨Nat.le_of_ble_eq_true rfl, Nat.le_of_ble_eq_true rfl⟩ (pk_i ?_)
    rintro r_138 g_138 ⟨hr_138, S2, c2, r2, h2, p2, hL2, hI2⟩
    rw [hr_138]
    clear hr_138 r_138
    refine y_zret (hrt := rfl) (hn := rfl) (hC := hC) (hd := dL_acts_141) (hq := ?_)
    exact ⟨rfl, S2, c2, r2, h2, p2, hL2, hI2⟩
  · refine y_tabIn hC dL_acts_2 (by decide) (by decide) (off := 140) (by decide) (tgt := 142) (by decide) ?_
    refine y_aload_n hC dL_acts_142 (i := 0) rfl rfl ?_
    refine y_aload_n hC dL_acts_143 (i := 3) rfl rfl ?_
    refine y_iload hC dL_acts_144 rfl ?_
    refine y_iload hC dL_acts_146 rfl ?_
    refine y_callS hC mL_glows kXL_151 dL_acts_148 (As := [rf (zE G T b 104) (0), rf (zE G T b 104) (102), .int (x), .int (y)]) (rest := []) (c_L_glows l (zE G T b 104) g (zE G T b 100) S c r h p hL B M hB hM hI x y) rfl rfl rfl (Nat.le_of_ble_eq_true rfl) ⟨Nat.le_of_ble_eq_true rfl, Nat.le_of_ble_eq_true rfl⟩ (pk_i ?_)
    rintro r_148 g_148 ⟨hr_148, S2, c2, r2, h2, p2, hL2, hI2⟩
    rw [hr_148]
    clear hr_148 r_148
    refine y_zret (hrt := rfl) (hn := rfl) (hC := hC) (hd := dL_acts_151) (hq := ?_)
    exact ⟨rfl, S2, c2, r2, h2, p2, hL2, hI2⟩
  · refine y_tabIn hC dL_acts_2 (by decide) (by decide) (off := 150) (by decide) (tgt := 152) (by decide) ?_
    refine y_iload hC dL_acts_152 rfl ?_
    refine y_iconst (v := nI 3) hC dL_acts_154 (by decide) ?_
    refine y_callS hC mL_low kXL_64 dL_acts_155 (As := [.int (y), .int (nI (3))]) (rest := []) (c_L_low l (zE G T b 104) g ((y)) (3) (by omega) (by omega)) rfl rfl rfl (Nat.le_of_ble_eq_true rfl) ⟨Nat.le_of_ble_eq_true rfl, Nat.le_of_ble_eq_true rfl⟩ (pk_i ?_)
    rintro r_155 g_155 ⟨hr_155, hq_155⟩
    obtain rfl := hq_155.symm
    rw [hr_155]
    clear hr_155 r_155
    refine y_if_gt_n (tgt := 175) hC dL_acts_158 (by decide) (by omega) (fun c_158 => ?_) (fun c_158 => ?_)
    · refine y_iconst (v := nI 1) hC dL_acts_175 (by decide) ?_
      refine y_goto (tgt := 180) hC dL_acts_176 (by decide) ?_
      refine y_zret (hrt := rfl) (hn := rfl) (hC := hC) (hd := dL_acts_180) (hq := ?_)
      exact ⟨rfl, S, c, r, h, p, hL, hI.le (by omega) (by omega)⟩
    · refine y_aload_n hC dL_acts_161 (i := 0) rfl rfl ?_
      refine y_aload_n hC dL_acts_162 (i := 3) rfl rfl ?_
      refine y_iload hC dL_acts_163 rfl ?_
      refine y_iconst (v := nI 5) hC dL_acts_165 (by decide) ?_
      refine y_callS hC mL_low kXL_64 dL_acts_166 (As := [.int (x), .int (nI (5))]) (rest := [rf (zE G T b 104) (102), rf (zE G T b 104) (0)]) (c_L_low l (zE G T b 104) g ((x)) (5) (by omega) (by omega)) rfl rfl rfl (Nat.le_of_ble_eq_true rfl) ⟨Nat.le_of_ble_eq_true rfl, Nat.le_of_ble_eq_true rfl⟩ (pk_i ?_)
      rintro r_166 g_166 ⟨hr_166, hq_166⟩
      obtain rfl := hq_166.symm
      rw [hr_166]
      clear hr_166 r_166
      refine y_callS hC mL_darkens kXL_154 dL_acts_169 (As := [rf (zE G T b 104) (0), rf (zE G T b 104) (102), .int (nI (lw ((x)) (5)))]) (rest := []) (c_L_darkens l (zE G T b 104) g (zE G T b 100) S c r h p hL B M hB hM hI (lw ((x)) (5)) (by have := lw_lt (x := x) (n := 5) (by decide); omega)) rfl rfl rfl (Nat.le_of_ble_eq_true rfl) ⟨Nat.le_of_ble_eq_true rfl, Nat.le_of_ble_eq_true rfl⟩ (pk_i ?_)
      rintro r_169 g_169 ⟨hr_169, S2, c2, r2, h2, p2, hL2, hI2⟩
      rw [hr_169]
      clear hr_169 r_169
      refine y_if_eq_n (tgt := 179) hC dL_acts_172 (by decide) (by omega) (fun c_172 => ?_) (fun c_172 => ?_)
      · exfalso
        omega
      · refine y_iconst (v := nI 1) hC dL_acts_175 (by decide) ?_
        refine y_goto (tgt := 180) hC dL_acts_176 (by decide) ?_
        refine y_zret (hrt := rfl) (hn := rfl) (hC := hC) (hd := dL_acts_180) (hq := ?_)
        exact ⟨rfl, S2, c2, r2, h2, p2, hL2, hI2⟩
  · refine y_tabIn hC dL_acts_2 (by decide) (by decide) (off := 179) (by decide) (tgt := 181) (by decide) ?_
    refine y_aload_n hC dL_acts_181 (i := 0) rfl rfl ?_
    refine y_aload_n hC dL_acts_182 (i := 1) rfl rfl ?_
    refine y_iload hC dL_acts_183 rfl ?_
    refine y_iload hC dL_acts_185 rfl ?_
    refine y_callS hC mL_blends kXL_157 dL_acts_187 (As := [rf (zE G T b 104) (0), rf (zE G T b 104) (100), .int (x), .int (y)]) (rest := []) (c_L_blends l (zE G T b 104) g (zE G T b 100) S c r h p hL B M hB hM hI x y) rfl rfl rfl (Nat.le_of_ble_eq_true rfl) ⟨Nat.le_of_ble_eq_true rfl, Nat.le_of_ble_eq_true rfl⟩ (pk_i ?_)
    rintro r_187 g_187 ⟨hr_187, S2, c2, r2, h2, p2, hL2, hI2⟩
    rw [hr_187]
    clear hr_187 r_187
    refine y_zret (hrt := rfl) (hn := rfl) (hC := hC) (hd := dL_acts_190) (hq := ?_)
    exact ⟨rfl, S2, c2, r2, h2, p2, hL2, hI2⟩
  · refine y_tabIn hC dL_acts_2 (by decide) (by decide) (off := 179) (by decide) (tgt := 181) (by decide) ?_
    refine y_aload_n hC dL_acts_181 (i := 0) rfl rfl ?_
    refine y_aload_n hC dL_acts_182 (i := 1) rfl rfl ?_
    refine y_iload hC dL_acts_183 rfl ?_
    refine y_iload hC dL_acts_185 rfl ?_
    refine y_callS hC mL_blends kXL_157 dL_acts_187 (As := [rf (zE G T b 104) (0), rf (zE G T b 104) (100), .int (x), .int (y)]) (rest := []) (c_L_blends l (zE G T b 104) g (zE G T b 100) S c r h p hL B M hB hM hI x y) rfl rfl rfl (Nat.le_of_ble_eq_true rfl) ⟨Nat.le_of_ble_eq_true rfl, Nat.le_of_ble_eq_true rfl⟩ (pk_i ?_)
    rintro r_187 g_187 ⟨hr_187, S2, c2, r2, h2, p2, hL2, hI2⟩
    rw [hr_187]
    clear hr_187 r_187
    refine y_zret (hrt := rfl) (hn := rfl) (hC := hC) (hd := dL_acts_190) (hq := ?_)
    exact ⟨rfl, S2, c2, r2, h2, p2, hL2, hI2⟩
  · refine y_tabIn hC dL_acts_2 (by decide) (by decide) (off := 189) (by decide) (tgt := 191) (by decide) ?_
    refine y_iload hC dL_acts_191 rfl ?_
    refine y_iconst (v := nI 3) hC dL_acts_193 (by decide) ?_
    refine y_callS hC mL_low kXL_64 dL_acts_194 (As := [.int (y), .int (nI (3))]) (rest := []) (c_L_low l (zE G T b 104) g ((y)) (3) (by omega) (by omega)) rfl rfl rfl (Nat.le_of_ble_eq_true rfl) ⟨Nat.le_of_ble_eq_true rfl, Nat.le_of_ble_eq_true rfl⟩ (pk_i ?_)
    rintro r_194 g_194 ⟨hr_194, hq_194⟩
    obtain rfl := hq_194.symm
    rw [hr_194]
    clear hr_194 r_194
    refine y_if_gt_n (tgt := 210) hC dL_acts_197 (by decide) (by omega) (fun c_197 => ?_) (fun c_197 => ?_)
    · refine y_iconst (v := nI 1) hC dL_acts_210 (by decide) ?_
      refine y_goto (tgt := 215) hC dL_acts_211 (by decide) ?_
      refine y_zret (hrt := rfl) (hn := rfl) (hC := hC) (hd := dL_acts_215) (hq := ?_)
      exact ⟨rfl, S, c, r, h, p, hL, hI.le (by omega) (by omega)⟩
    · refine y_aload_n hC dL_acts_200 (i := 0) rfl rfl ?_
      refine y_aload_n hC dL_acts_201 (i := 1) rfl rfl ?_
      refine y_aload_n hC dL_acts_202 (i := 2) rfl rfl ?_
      refine y_aload_n hC dL_acts_203 (i := 3) rfl rfl ?_
      refine y_callSA hC mL_freezes kXL_160 dL_acts_204 (As := [rf (zE G T b 104) (0), rf (zE G T b 104) (100), rf (zE G T b 104) (101), rf (zE G T b 104) (102)]) (rest := []) (c_L_freezes l G T b g S c r h p hL B M hB hM hI) (fun q hq => hq) ⟨Nat.le_of_ble_eq_true rfl, Nat.le_of_ble_eq_true rfl⟩ rfl rfl rfl (Nat.le_of_ble_eq_true rfl) ⟨Nat.le_of_ble_eq_true rfl, Nat.le_of_ble_eq_true rfl⟩ (pksa_i ?_)
      rintro r_204 g_204 ⟨hr_204, S2, c2, r2, h2, p2, hL2, hI2⟩ hC
      rw [hr_204]
      clear hr_204 r_204
      refine y_if_eq_n (tgt := 214) hC dL_acts_207 (by decide) (by omega) (fun c_207 => ?_) (fun c_207 => ?_)
      · exfalso
        omega
      · refine y_iconst (v := nI 1) hC dL_acts_210 (by decide) ?_
        refine y_goto (tgt := 215) hC dL_acts_211 (by decide) ?_
        refine y_zret (hrt := rfl) (hn := rfl) (hC := hC) (hd := dL_acts_215) (hq := ?_)
        exact ⟨rfl, S2, c2, r2, h2, p2, hL2, hI2⟩
  · refine y_tabIn hC dL_acts_2 (by decide) (by decide) (off := 214) (by decide) (tgt := 216) (by decide) ?_
    refine y_aload_n hC dL_acts_216 (i := 0) rfl rfl ?_
    refine y_aload hC dL_acts_217 rfl ?_
    refine y_iload hC dL_acts_219 rfl ?_
    refine y_iload hC dL_acts_221 rfl ?_
    refine y_callS hC mL_paints kXL_164 dL_acts_223 (As := [rf (zE G T b 104) (0), rf (zE G T b 104) (103), .int (x), .int (y)]) (rest := []) (c_L_paints l (zE G T b 104) g (zE G T b 100) S c r h p hL B M hB hM hI x y) rfl rfl rfl (Nat.le_of_ble_eq_true rfl) ⟨Nat.le_of_ble_eq_true rfl, Nat.le_of_ble_eq_true rfl⟩ (pk_i ?_)
    rintro r_223 g_223 ⟨hr_223, S2, c2, r2, h2, p2, hL2, hI2⟩
    rw [hr_223]
    clear hr_223 r_223
    refine y_zret (hrt := rfl) (hn := rfl) (hC := hC) (hd := dL_acts_226) (hq := ?_)
    exact ⟨rfl, S2, c2, r2, h2, p2, hL2, hI2⟩
  · refine y_tabIn hC dL_acts_2 (by decide) (by decide) (off := 225) (by decide) (tgt := 227) (by decide) ?_
    refine y_aload_n hC dL_acts_227 (i := 0) rfl rfl ?_
    refine y_aload hC dL_acts_228 rfl ?_
    refine y_iload hC dL_acts_230 rfl ?_
    refine y_iload hC dL_acts_232 rfl ?_
    refine y_callSA hC mL_fills kXL_167 dL_acts_234 (As := [rf (zE G T b 104) (0), rf (zE G T b 104) (103), .int (x), .int (y)]) (rest := []) (c_L_fills l G T b g S c r h p hL B M hB hM hI x y) (fun q hq => hq) ⟨Nat.le_of_ble_eq_true rfl, Nat.le_of_ble_eq_true rfl⟩ rfl rfl rfl (Nat.le_of_ble_eq_true rfl) ⟨Nat.le_of_ble_eq_true rfl, Nat.le_of_ble_eq_true rfl⟩ (pksa_i ?_)
    rintro r_234 g_234 ⟨hr_234, S2, c2, r2, h2, p2, hL2, hI2⟩ hC
    rw [hr_234]
    clear hr_234 r_234
    refine y_zret (hrt := rfl) (hn := rfl) (hC := hC) (hd := dL_acts_237) (hq := ?_)
    exact ⟨rfl, S2, c2, r2, h2, p2, hL2, hI2⟩
  · refine y_tabIn hC dL_acts_2 (by decide) (by decide) (off := 225) (by decide) (tgt := 227) (by decide) ?_
    refine y_aload_n hC dL_acts_227 (i := 0) rfl rfl ?_
    refine y_aload hC dL_acts_228 rfl ?_
    refine y_iload hC dL_acts_230 rfl ?_
    refine y_iload hC dL_acts_232 rfl ?_
    refine y_callSA hC mL_fills kXL_167 dL_acts_234 (As := [rf (zE G T b 104) (0), rf (zE G T b 104) (103), .int (x), .int (y)]) (rest := []) (c_L_fills l G T b g S c r h p hL B M hB hM hI x y) (fun q hq => hq) ⟨Nat.le_of_ble_eq_true rfl, Nat.le_of_ble_eq_true rfl⟩ rfl rfl rfl (Nat.le_of_ble_eq_true rfl) ⟨Nat.le_of_ble_eq_true rfl, Nat.le_of_ble_eq_true rfl⟩ (pksa_i ?_)
    rintro r_234 g_234 ⟨hr_234, S2, c2, r2, h2, p2, hL2, hI2⟩ hC
    rw [hr_234]
    clear hr_234 r_234
    refine y_zret (hrt := rfl) (hn := rfl) (hC := hC) (hd := dL_acts_237) (hq := ?_)
    exact ⟨rfl, S2, c2, r2, h2, p2, hL2, hI2⟩
  · refine y_tabIn hC dL_acts_2 (by decide) (by decide) (off := 236) (by decide) (tgt := 238) (by decide) ?_
    refine y_aload_n hC dL_acts_238 (i := 0) rfl rfl ?_
    refine y_aload_n hC dL_acts_239 (i := 2) rfl rfl ?_
    refine y_aload_n hC dL_acts_240 (i := 3) rfl rfl ?_
    refine y_iload hC dL_acts_241 rfl ?_
    refine y_callS hC mL_performs kXL_170 dL_acts_243 (As := [rf (zE G T b 104) (0), rf (zE G T b 104) (101), rf (zE G T b 104) (102), .int (x)]) (rest := []) (c_L_performs l (zE G T b 104) g (zE G T b 100) S c r h p hL B M hB hM hI x) rfl rfl rfl (Nat.le_of_ble_eq_true rfl) ⟨Nat.le_of_ble_eq_true rfl, Nat.le_of_ble_eq_true rfl⟩ (pk_i ?_)
    rintro r_243 g_243 ⟨hr_243, S2, c2, r2, h2, p2, hL2, hI2⟩
    rw [hr_243]
    clear hr_243 r_243
    refine y_zret (hrt := rfl) (hn := rfl) (hC := hC) (hd := dL_acts_246) (hq := ?_)
    exact ⟨rfl, S2, c2, r2, h2, p2, hL2, hI2⟩
  · refine y_tabOut hC dL_acts_2 (Or.inr (by decide)) (tgt := 247) (by decide) ?_
    refine y_iconst (v := nI 1) hC dL_acts_247 (by decide) ?_
    refine y_iload hC dL_acts_248 rfl ?_
    refine y_iload hC dL_acts_250 rfl ?_
    refine y_iconst (v := nI 4) hC dL_acts_252 (by decide) ?_
    refine y_callS hC mL_low kXL_64 dL_acts_253 (As := [.int (y), .int (nI (4))]) (rest := [.int (x), .int (nI (1))]) (c_L_low l (zE G T b 104) g ((y)) (4) (by omega) (by omega)) rfl rfl rfl (Nat.le_of_ble_eq_true rfl) ⟨Nat.le_of_ble_eq_true rfl, Nat.le_of_ble_eq_true rfl⟩ (pk_i ?_)
    rintro r_253 g_253 ⟨hr_253, hq_253⟩
    obtain rfl := hq_253.symm
    rw [hr_253]
    clear hr_253 r_253
    refine y_if_ne_n (tgt := 265) hC dL_acts_256 (by decide) (by omega) (fun c_256 => ?_) (fun c_256 => ?_)
    · refine y_bipush (v := nI 25) hC dL_acts_265 (by decide) ?_
      refine y_callS hC mL_low kXL_64 dL_acts_267 (As := [.int (x), .int (nI (25))]) (rest := [.int (nI (1))]) (c_L_low l (zE G T b 104) g ((x)) (25) (by omega) (by omega)) rfl rfl rfl (Nat.le_of_ble_eq_true rfl) ⟨Nat.le_of_ble_eq_true rfl, Nat.le_of_ble_eq_true rfl⟩ (pk_i ?_)
      rintro r_267 g_267 ⟨hr_267, hq_267⟩
      obtain rfl := hq_267.symm
      rw [hr_267]
      clear hr_267 r_267
      refine y_iadd_n hC dL_acts_270 ?_
      refine y_istore hC dL_acts_271 (Nat.le_of_ble_eq_true rfl) rfl (lo' := [some (rf (zE G T b 104) (0)), some (rf (zE G T b 104) (100)), some (rf (zE G T b 104) (101)), some (rf (zE G T b 104) (102)), some (rf (zE G T b 104) (103)), some (.int (nI (14))), some (.int (x)), some (.int (y)), some (.int (nI (1 + (lw ((x)) (25)))))]) rfl ?_
      refine y_aload_n hC dL_acts_273 (i := 0) rfl rfl ?_
      refine y_iload hC dL_acts_274 rfl ?_
      refine y_callVF hC hL.s mX5_pass kXL_174 dL_acts_276 (b := 0) (As := [.int (nI (1 + (lw ((x)) (25))))]) (rest := []) (CPm hL.cp (fun sh mk wa hcq => c_X5_pass l (zE G T b 100) g S B (by omega) ho sh mk wa hcq (nI (1 + (lw ((x)) (25)))))) hL.k0 hL.a0 rfl rfl rfl (Nat.le_of_ble_eq_true rfl) ⟨Nat.le_of_ble_eq_true rfl, Nat.le_of_ble_eq_true rfl⟩ (pkf_i ?_)
      rintro r_276 g_276 ⟨hr_276, hc_276⟩
      have he_276 := qps (S := S) (t := 1 + (lw ((x)) (25))) (by omega) (by omega)
      rw [he_276] at hr_276 hc_276
      replace hr_276 : r_276 = nI (made S.r (1 + (lw ((x)) (25)))) := hr_276
      replace hc_276 : CP (zE G T b 100) g_276 (S.rec.row (tkR S.r (1 + (lw ((x)) (25))))) := hc_276
      rw [hr_276]
      clear hr_276 r_276
      have hL_276 := hL.call hc_276
      generalize mrg (eK (zE G T b 100)) g_276 g = G_276 at hL_276  ⊢
      refine y_aload_n hC dL_acts_279 (i := 2) rfl rfl ?_
      refine y_aload_n hC dL_acts_280 (i := 3) rfl rfl ?_
      refine y_iload hC dL_acts_281 rfl ?_
      refine y_callS hC mL_passes kXL_72 dL_acts_283 (As := [rf (zE G T b 104) (101), rf (zE G T b 104) (102), .int (nI (1 + (lw ((x)) (25))))]) (rest := [.int (nI (made S.r (1 + (lw ((x)) (25)))))]) (c_L_passes l (zE G T b 104) G_276 101 102 (by decide : 101 < 104) (by decide : 102 < 104) (by decide) r h hL_276.a101 hL_276.a102 S.r B M ho.v (by omega) (by omega) a K hq hg (1 + (lw ((x)) (25))) (by omega)) rfl rfl rfl (Nat.le_of_ble_eq_true rfl) ⟨Nat.le_of_ble_eq_true rfl, Nat.le_of_ble_eq_true rfl⟩ (pk_i ?_)
      rintro r_283 g_283 ⟨hr_283, r3, h3, a3, h101_283, h102_283, ho_283, hq3, hg3⟩
      rw [hr_283]
      clear hr_283 r_283
      have hL_283 := hL_276.wrh h101_283 h102_283 ho_283
      have hmb := sm_mle (t := 1 + (lw ((x)) (25))) ho.v (rc S.r) (Nat.le_refl _)
      rw [← made_S] at hmb
      refine y_icmp_ne_n (tgt := 293) hC dL_acts_286 (by decide) (by omega) (by omega) (fun c_286 => ?_) (fun c_286 => ?_)
      · exact absurd rfl c_286
      · refine y_iconst (v := nI 1) hC dL_acts_289 (by decide) ?_
        refine y_goto (tgt := 294) hC dL_acts_290 (by decide) ?_
        refine y_zret (hrt := rfl) (hn := rfl) (hC := hC) (hd := dL_acts_294) (hq := ?_)
        have hvr : OK (S.rec.row (tkR S.r (1 + (lw ((x)) (25))))) (B + 10000) := by
          have := ok_pass ho (by omega) (nI (1 + (lw ((x)) (25))))
          rw [he_276] at this
          exact this
        exact ⟨rfl, _, _, _, _, _, hL_283, (hI.tk hvr rfl (by omega) hB hq3 hg3).le (by omega) (by omega)⟩
    · refine y_sipush (v := nI 1000) hC dL_acts_259 (by decide) ?_
      refine y_goto (tgt := 267) hC dL_acts_262 (by decide) ?_
      refine y_callS hC mL_low kXL_64 dL_acts_267 (As := [.int (x), .int (nI (1000))]) (rest := [.int (nI (1))]) (c_L_low l (zE G T b 104) g ((x)) (1000) (by omega) (by omega)) rfl rfl rfl (Nat.le_of_ble_eq_true rfl) ⟨Nat.le_of_ble_eq_true rfl, Nat.le_of_ble_eq_true rfl⟩ (pk_i ?_)
      rintro r_267 g_267 ⟨hr_267, hq_267⟩
      obtain rfl := hq_267.symm
      rw [hr_267]
      clear hr_267 r_267
      refine y_iadd_n hC dL_acts_270 ?_
      refine y_istore hC dL_acts_271 (Nat.le_of_ble_eq_true rfl) rfl (lo' := [some (rf (zE G T b 104) (0)), some (rf (zE G T b 104) (100)), some (rf (zE G T b 104) (101)), some (rf (zE G T b 104) (102)), some (rf (zE G T b 104) (103)), some (.int (nI (14))), some (.int (x)), some (.int (y)), some (.int (nI (1 + (lw ((x)) (1000)))))]) rfl ?_
      refine y_aload_n hC dL_acts_273 (i := 0) rfl rfl ?_
      refine y_iload hC dL_acts_274 rfl ?_
      refine y_callVF hC hL.s mX5_pass kXL_174 dL_acts_276 (b := 0) (As := [.int (nI (1 + (lw ((x)) (1000))))]) (rest := []) (CPm hL.cp (fun sh mk wa hcq => c_X5_pass l (zE G T b 100) g S B (by omega) ho sh mk wa hcq (nI (1 + (lw ((x)) (1000)))))) hL.k0 hL.a0 rfl rfl rfl (Nat.le_of_ble_eq_true rfl) ⟨Nat.le_of_ble_eq_true rfl, Nat.le_of_ble_eq_true rfl⟩ (pkf_i ?_)
      rintro r_276 g_276 ⟨hr_276, hc_276⟩
      have he_276 := qps (S := S) (t := 1 + (lw ((x)) (1000))) (by omega) (by omega)
      rw [he_276] at hr_276 hc_276
      replace hr_276 : r_276 = nI (made S.r (1 + (lw ((x)) (1000)))) := hr_276
      replace hc_276 : CP (zE G T b 100) g_276 (S.rec.row (tkR S.r (1 + (lw ((x)) (1000))))) := hc_276
      rw [hr_276]
      clear hr_276 r_276
      have hL_276 := hL.call hc_276
      generalize mrg (eK (zE G T b 100)) g_276 g = G_276 at hL_276  ⊢
      refine y_aload_n hC dL_acts_279 (i := 2) rfl rfl ?_
      refine y_aload_n hC dL_acts_280 (i := 3) rfl rfl ?_
      refine y_iload hC dL_acts_281 rfl ?_
      refine y_callS hC mL_passes kXL_72 dL_acts_283 (As := [rf (zE G T b 104) (101), rf (zE G T b 104) (102), .int (nI (1 + (lw ((x)) (1000))))]) (rest := [.int (nI (made S.r (1 + (lw ((x)) (1000)))))]) (c_L_passes l (zE G T b 104) G_276 101 102 (by decide : 101 < 104) (by decide : 102 < 104) (by decide) r h hL_276.a101 hL_276.a102 S.r B M ho.v (by omega) (by omega) a K hq hg (1 + (lw ((x)) (1000))) (by omega)) rfl rfl rfl (Nat.le_of_ble_eq_true rfl) ⟨Nat.le_of_ble_eq_true rfl, Nat.le_of_ble_eq_true rfl⟩ (pk_i ?_)
      rintro r_283 g_283 ⟨hr_283, r3, h3, a3, h101_283, h102_283, ho_283, hq3, hg3⟩
      rw [hr_283]
      clear hr_283 r_283
      have hL_283 := hL_276.wrh h101_283 h102_283 ho_283
      have hmb := sm_mle (t := 1 + (lw ((x)) (1000))) ho.v (rc S.r) (Nat.le_refl _)
      rw [← made_S] at hmb
      refine y_icmp_ne_n (tgt := 293) hC dL_acts_286 (by decide) (by omega) (by omega) (fun c_286 => ?_) (fun c_286 => ?_)
      · exact absurd rfl c_286
      · refine y_iconst (v := nI 1) hC dL_acts_289 (by decide) ?_
        refine y_goto (tgt := 294) hC dL_acts_290 (by decide) ?_
        refine y_zret (hrt := rfl) (hn := rfl) (hC := hC) (hd := dL_acts_294) (hq := ?_)
        have hvr : OK (S.rec.row (tkR S.r (1 + (lw ((x)) (1000))))) (B + 10000) := by
          have := ok_pass ho (by omega) (nI (1 + (lw ((x)) (1000))))
          rw [he_276] at this
          exact this
        exact ⟨rfl, _, _, _, _, _, hL_283, (hI.tk hvr rfl (by omega) hB hq3 hg3).le (by omega) (by omega)⟩
  · refine y_tabOut hC dL_acts_2 (Or.inr (by decide)) (tgt := 247) (by decide) ?_
    refine y_iconst (v := nI 1) hC dL_acts_247 (by decide) ?_
    refine y_iload hC dL_acts_248 rfl ?_
    refine y_iload hC dL_acts_250 rfl ?_
    refine y_iconst (v := nI 4) hC dL_acts_252 (by decide) ?_
    refine y_callS hC mL_low kXL_64 dL_acts_253 (As := [.int (y), .int (nI (4))]) (rest := [.int (x), .int (nI (1))]) (c_L_low l (zE G T b 104) g ((y)) (4) (by omega) (by omega)) rfl rfl rfl (Nat.le_of_ble_eq_true rfl) ⟨Nat.le_of_ble_eq_true rfl, Nat.le_of_ble_eq_true rfl⟩ (pk_i ?_)
    rintro r_253 g_253 ⟨hr_253, hq_253⟩
    obtain rfl := hq_253.symm
    rw [hr_253]
    clear hr_253 r_253
    refine y_if_ne_n (tgt := 265) hC dL_acts_256 (by decide) (by omega) (fun c_256 => ?_) (fun c_256 => ?_)
    · refine y_bipush (v := nI 25) hC dL_acts_265 (by decide) ?_
      refine y_callS hC mL_low kXL_64 dL_acts_267 (As := [.int (x), .int (nI (25))]) (rest := [.int (nI (1))]) (c_L_low l (zE G T b 104) g ((x)) (25) (by omega) (by omega)) rfl rfl rfl (Nat.le_of_ble_eq_true rfl) ⟨Nat.le_of_ble_eq_true rfl, Nat.le_of_ble_eq_true rfl⟩ (pk_i ?_)
      rintro r_267 g_267 ⟨hr_267, hq_267⟩
      obtain rfl := hq_267.symm
      rw [hr_267]
      clear hr_267 r_267
      refine y_iadd_n hC dL_acts_270 ?_
      refine y_istore hC dL_acts_271 (Nat.le_of_ble_eq_true rfl) rfl (lo' := [some (rf (zE G T b 104) (0)), some (rf (zE G T b 104) (100)), some (rf (zE G T b 104) (101)), some (rf (zE G T b 104) (102)), some (rf (zE G T b 104) (103)), some (.int (nI (15))), some (.int (x)), some (.int (y)), some (.int (nI (1 + (lw ((x)) (25)))))]) rfl ?_
      refine y_aload_n hC dL_acts_273 (i := 0) rfl rfl ?_
      refine y_iload hC dL_acts_274 rfl ?_
      refine y_callVF hC hL.s mX5_pass kXL_174 dL_acts_276 (b := 0) (As := [.int (nI (1 + (lw ((x)) (25))))]) (rest := []) (CPm hL.cp (fun sh mk wa hcq => c_X5_pass l (zE G T b 100) g S B (by omega) ho sh mk wa hcq (nI (1 + (lw ((x)) (25)))))) hL.k0 hL.a0 rfl rfl rfl (Nat.le_of_ble_eq_true rfl) ⟨Nat.le_of_ble_eq_true rfl, Nat.le_of_ble_eq_true rfl⟩ (pkf_i ?_)
      rintro r_276 g_276 ⟨hr_276, hc_276⟩
      have he_276 := qps (S := S) (t := 1 + (lw ((x)) (25))) (by omega) (by omega)
      rw [he_276] at hr_276 hc_276
      replace hr_276 : r_276 = nI (made S.r (1 + (lw ((x)) (25)))) := hr_276
      replace hc_276 : CP (zE G T b 100) g_276 (S.rec.row (tkR S.r (1 + (lw ((x)) (25))))) := hc_276
      rw [hr_276]
      clear hr_276 r_276
      have hL_276 := hL.call hc_276
      generalize mrg (eK (zE G T b 100)) g_276 g = G_276 at hL_276  ⊢
      refine y_aload_n hC dL_acts_279 (i := 2) rfl rfl ?_
      refine y_aload_n hC dL_acts_280 (i := 3) rfl rfl ?_
      refine y_iload hC dL_acts_281 rfl ?_
      refine y_callS hC mL_passes kXL_72 dL_acts_283 (As := [rf (zE G T b 104) (101), rf (zE G T b 104) (102), .int (nI (1 + (lw ((x)) (25))))]) (rest := [.int (nI (made S.r (1 + (lw ((x)) (25)))))]) (c_L_passes l (zE G T b 104) G_276 101 102 (by decide : 101 < 104) (by decide : 102 < 104) (by decide) r h hL_276.a101 hL_276.a102 S.r B M ho.v (by omega) (by omega) a K hq hg (1 + (lw ((x)) (25))) (by omega)) rfl rfl rfl (Nat.le_of_ble_eq_true rfl) ⟨Nat.le_of_ble_eq_true rfl, Nat.le_of_ble_eq_true rfl⟩ (pk_i ?_)
      rintro r_283 g_283 ⟨hr_283, r3, h3, a3, h101_283, h102_283, ho_283, hq3, hg3⟩
      rw [hr_283]
      clear hr_283 r_283
      have hL_283 := hL_276.wrh h101_283 h102_283 ho_283
      have hmb := sm_mle (t := 1 + (lw ((x)) (25))) ho.v (rc S.r) (Nat.le_refl _)
      rw [← made_S] at hmb
      refine y_icmp_ne_n (tgt := 293) hC dL_acts_286 (by decide) (by omega) (by omega) (fun c_286 => ?_) (fun c_286 => ?_)
      · exact absurd rfl c_286
      · refine y_iconst (v := nI 1) hC dL_acts_289 (by decide) ?_
        refine y_goto (tgt := 294) hC dL_acts_290 (by decide) ?_
        refine y_zret (hrt := rfl) (hn := rfl) (hC := hC) (hd := dL_acts_294) (hq := ?_)
        have hvr : OK (S.rec.row (tkR S.r (1 + (lw ((x)) (25))))) (B + 10000) := by
          have := ok_pass ho (by omega) (nI (1 + (lw ((x)) (25))))
          rw [he_276] at this
          exact this
        exact ⟨rfl, _, _, _, _, _, hL_283, (hI.tk hvr rfl (by omega) hB hq3 hg3).le (by omega) (by omega)⟩
    · refine y_sipush (v := nI 1000) hC dL_acts_259 (by decide) ?_
      refine y_goto (tgt := 267) hC dL_acts_262 (by decide) ?_
      refine y_callS hC mL_low kXL_64 dL_acts_267 (As := [.int (x), .int (nI (1000))]) (rest := [.int (nI (1))]) (c_L_low l (zE G T b 104) g ((x)) (1000) (by omega) (by omega)) rfl rfl rfl (Nat.le_of_ble_eq_true rfl) ⟨Nat.le_of_ble_eq_true rfl, Nat.le_of_ble_eq_true rfl⟩ (pk_i ?_)
      rintro r_267 g_267 ⟨hr_267, hq_267⟩
      obtain rfl := hq_267.symm
      rw [hr_267]
      clear hr_267 r_267
      refine y_iadd_n hC dL_acts_270 ?_
      refine y_istore hC dL_acts_271 (Nat.le_of_ble_eq_true rfl) rfl (lo' := [some (rf (zE G T b 104) (0)), some (rf (zE G T b 104) (100)), some (rf (zE G T b 104) (101)), some (rf (zE G T b 104) (102)), some (rf (zE G T b 104) (103)), some (.int (nI (15))), some (.int (x)), some (.int (y)), some (.int (nI (1 + (lw ((x)) (1000)))))]) rfl ?_
      refine y_aload_n hC dL_acts_273 (i := 0) rfl rfl ?_
      refine y_iload hC dL_acts_274 rfl ?_
      refine y_callVF hC hL.s mX5_pass kXL_174 dL_acts_276 (b := 0) (As := [.int (nI (1 + (lw ((x)) (1000))))]) (rest := []) (CPm hL.cp (fun sh mk wa hcq => c_X5_pass l (zE G T b 100) g S B (by omega) ho sh mk wa hcq (nI (1 + (lw ((x)) (1000)))))) hL.k0 hL.a0 rfl rfl rfl (Nat.le_of_ble_eq_true rfl) ⟨Nat.le_of_ble_eq_true rfl, Nat.le_of_ble_eq_true rfl⟩ (pkf_i ?_)
      rintro r_276 g_276 ⟨hr_276, hc_276⟩
      have he_276 := qps (S := S) (t := 1 + (lw ((x)) (1000))) (by omega) (by omega)
      rw [he_276] at hr_276 hc_276
      replace hr_276 : r_276 = nI (made S.r (1 + (lw ((x)) (1000)))) := hr_276
      replace hc_276 : CP (zE G T b 100) g_276 (S.rec.row (tkR S.r (1 + (lw ((x)) (1000))))) := hc_276
      rw [hr_276]
      clear hr_276 r_276
      have hL_276 := hL.call hc_276
      generalize mrg (eK (zE G T b 100)) g_276 g = G_276 at hL_276  ⊢
      refine y_aload_n hC dL_acts_279 (i := 2) rfl rfl ?_
      refine y_aload_n hC dL_acts_280 (i := 3) rfl rfl ?_
      refine y_iload hC dL_acts_281 rfl ?_
      refine y_callS hC mL_passes kXL_72 dL_acts_283 (As := [rf (zE G T b 104) (101), rf (zE G T b 104) (102), .int (nI (1 + (lw ((x)) (1000))))]) (rest := [.int (nI (made S.r (1 + (lw ((x)) (1000)))))]) (c_L_passes l (zE G T b 104) G_276 101 102 (by decide : 101 < 104) (by decide : 102 < 104) (by decide) r h hL_276.a101 hL_276.a102 S.r B M ho.v (by omega) (by omega) a K hq hg (1 + (lw ((x)) (1000))) (by omega)) rfl rfl rfl (Nat.le_of_ble_eq_true rfl) ⟨Nat.le_of_ble_eq_true rfl, Nat.le_of_ble_eq_true rfl⟩ (pk_i ?_)
      rintro r_283 g_283 ⟨hr_283, r3, h3, a3, h101_283, h102_283, ho_283, hq3, hg3⟩
      rw [hr_283]
      clear hr_283 r_283
      have hL_283 := hL_276.wrh h101_283 h102_283 ho_283
      have hmb := sm_mle (t := 1 + (lw ((x)) (1000))) ho.v (rc S.r) (Nat.le_refl _)
      rw [← made_S] at hmb
      refine y_icmp_ne_n (tgt := 293) hC dL_acts_286 (by decide) (by omega) (by omega) (fun c_286 => ?_) (fun c_286 => ?_)
      · exact absurd rfl c_286
      · refine y_iconst (v := nI 1) hC dL_acts_289 (by decide) ?_
        refine y_goto (tgt := 294) hC dL_acts_290 (by decide) ?_
        refine y_zret (hrt := rfl) (hn := rfl) (hC := hC) (hd := dL_acts_294) (hq := ?_)
        have hvr : OK (S.rec.row (tkR S.r (1 + (lw ((x)) (1000))))) (B + 10000) := by
          have := ok_pass ho (by omega) (nI (1 + (lw ((x)) (1000))))
          rw [he_276] at this
          exact this
        exact ⟨rfl, _, _, _, _, _, hL_283, (hI.tk hvr rfl (by omega) hB hq3 hg3).le (by omega) (by omega)⟩

