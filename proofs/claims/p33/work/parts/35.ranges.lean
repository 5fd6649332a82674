/-! ===== the law: all ranges and glows, the totals ===== -/
theorem zin {k n : Nat} (h : k < n) (hn : n < 1000) : 0 ≤ (nI k).toInt ∧ (nI k).toInt < (n : Int) := by
  rw [tI (by omega)]
  omega
theorem zle {k n : Nat} (h : k ≤ n) (hn : n < 2147483648) : 0 ≤ (nI k).toInt ∧ (nI k).toInt ≤ (n : Int) := by
  rw [tI (by omega)]
  omega
theorem qRg {S : AS} {B k w : Nat} (ho : OK S B) (hk : k < rc S.r) (hw : w < 7) : qRange S (nI k) (nI w) = nI (rg S.r k w) := by
  have h6 := ho.v.1.2
  unfold qRange
  rw [if_pos (zin hk (by omega)), if_pos (show 0 ≤ (nI w).toInt ∧ (nI w).toInt ≤ 7 by rw [tI (by omega)]; omega), nn_I (by omega), nn_I (by omega)]
  exact if_pos hw
theorem qRg7 {S : AS} {B k : Nat} (ho : OK S B) (hk : k < rc S.r) : qRange S (nI k) (nI 7) = nI (tuN S.r k 0) := by
  have h6 := ho.v.1.2
  unfold qRange
  rw [if_pos (zin hk (by omega)), if_pos (show 0 ≤ (nI 7).toInt ∧ (nI 7).toInt ≤ 7 by rw [tI (by omega)]; omega), nn_I (by omega), nn_I (by omega)]
  rfl
theorem qRg8 {S : AS} {B k : Nat} (ho : OK S B) (hk : k < rc S.r) : qRange S (nI k) (nI 8) = -2 := by
  have h6 := ho.v.1.2
  unfold qRange
  rw [if_pos (zin hk (by omega)), if_neg (by decide)]
theorem qRgn {S : AS} {B : Nat} (ho : OK S B) (x : Int32) : qRange S (nI (rc S.r)) x = -1 := by
  have h6 := ho.v.1.2
  unfold qRange
  rw [if_neg (fun h => by rw [tI (by omega)] at h; omega)]
theorem qGl0 {S : AS} {B k w : Nat} (ho : OK S B) (hk : k < gc S.r) (hw : w < 4) : qGlow S (nI k) (nI w) = S.r (76 + 4 * k + w) := by
  have h6 := ho.v.2.1.2
  unfold qGlow
  rw [if_pos (zin hk (by omega)), if_pos (show 0 ≤ (nI w).toInt ∧ (nI w).toInt ≤ 4 by rw [tI (by omega)]; omega), nn_I (by omega), nn_I (by omega)]
  exact if_pos hw
theorem qGl4 {S : AS} {B k : Nat} (ho : OK S B) (hk : k < gc S.r) : qGlow S (nI k) (nI 4) = nI (stN (gl S.r k 2) (gl S.r k 3) 0) := by
  have h6 := ho.v.2.1.2
  unfold qGlow
  rw [if_pos (zin hk (by omega)), if_pos (show 0 ≤ (nI 4).toInt ∧ (nI 4).toInt ≤ 4 by rw [tI (by omega)]; omega), nn_I (by omega), nn_I (by omega)]
  rfl
theorem qGl5 {S : AS} {B k : Nat} (ho : OK S B) (hk : k < gc S.r) : qGlow S (nI k) (nI 5) = -2 := by
  have h6 := ho.v.2.1.2
  unfold qGlow
  rw [if_pos (zin hk (by omega)), if_neg (by decide)]
theorem qGln {S : AS} {B : Nat} (ho : OK S B) (x : Int32) : qGlow S (nI (gc S.r)) x = -1 := by
  have h6 := ho.v.2.1.2
  unfold qGlow
  rw [if_neg (fun h => by rw [tI (by omega)] at h; omega)]
theorem qTt {S : AS} {w : Nat} (hw : w ≤ 9) : qTotal S (nI w) = rgT S w := by
  unfold qTotal
  rw [if_pos (show 0 ≤ (nI w).toInt ∧ (nI w).toInt ≤ 9 by rw [tI (by omega)]; omega), nn_I (by omega)]
theorem dL_areRanges_0 : decode cL_areRanges 0 = .ok (.iconst 0, 1) := by decide +kernel
theorem dL_areRanges_1 : decode cL_areRanges 1 = .ok (.istore_n 3, 1) := by decide +kernel
theorem dL_areRanges_2 : decode cL_areRanges 2 = .ok (.iconst 0, 1) := by decide +kernel
theorem dL_areRanges_3 : decode cL_areRanges 3 = .ok (.istore 4, 2) := by decide +kernel
theorem dL_areRanges_5 : decode cL_areRanges 5 = .ok (.iconst 1, 1) := by decide +kernel
theorem dL_areRanges_6 : decode cL_areRanges 6 = .ok (.istore 5, 2) := by decide +kernel
theorem dL_areRanges_8 : decode cL_areRanges 8 = .ok (.iconst 0, 1) := by decide +kernel
theorem dL_areRanges_9 : decode cL_areRanges 9 = .ok (.istore 6, 2) := by decide +kernel
theorem dL_areRanges_11 : decode cL_areRanges 11 = .ok (.iload 6, 2) := by decide +kernel
theorem dL_areRanges_13 : decode cL_areRanges 13 = .ok (.aload_n 1, 1) := by decide +kernel
theorem dL_areRanges_14 : decode cL_areRanges 14 = .ok (.iconst 0, 1) := by decide +kernel
theorem dL_areRanges_15 : decode cL_areRanges 15 = .ok (.iaload, 1) := by decide +kernel
theorem dL_areRanges_16 : decode cL_areRanges 16 = .ok (.if_icmp .ge 206, 3) := by decide +kernel
theorem dL_areRanges_19 : decode cL_areRanges 19 = .ok (.iload 5, 2) := by decide +kernel
theorem dL_areRanges_21 : decode cL_areRanges 21 = .ok (.ifCond .eq 201, 3) := by decide +kernel
theorem dL_areRanges_24 : decode cL_areRanges 24 = .ok (.bipush 8, 2) := by decide +kernel
theorem dL_areRanges_26 : decode cL_areRanges 26 = .ok (.bipush 8, 2) := by decide +kernel
theorem dL_areRanges_28 : decode cL_areRanges 28 = .ok (.iload 6, 2) := by decide +kernel
theorem dL_areRanges_30 : decode cL_areRanges 30 = .ok (.imul, 1) := by decide +kernel
theorem dL_areRanges_31 : decode cL_areRanges 31 = .ok (.iadd, 1) := by decide +kernel
theorem dL_areRanges_32 : decode cL_areRanges 32 = .ok (.istore 7, 2) := by decide +kernel
theorem dL_areRanges_34 : decode cL_areRanges 34 = .ok (.iload_n 3, 1) := by decide +kernel
theorem dL_areRanges_35 : decode cL_areRanges 35 = .ok (.aload_n 1, 1) := by decide +kernel
theorem dL_areRanges_36 : decode cL_areRanges 36 = .ok (.iload 7, 2) := by decide +kernel
theorem dL_areRanges_38 : decode cL_areRanges 38 = .ok (.iconst 4, 1) := by decide +kernel
theorem dL_areRanges_39 : decode cL_areRanges 39 = .ok (.iadd, 1) := by decide +kernel
theorem dL_areRanges_40 : decode cL_areRanges 40 = .ok (.iaload, 1) := by decide +kernel
theorem dL_areRanges_41 : decode cL_areRanges 41 = .ok (.iadd, 1) := by decide +kernel
theorem dL_areRanges_42 : decode cL_areRanges 42 = .ok (.istore_n 3, 1) := by decide +kernel
theorem dL_areRanges_43 : decode cL_areRanges 43 = .ok (.iload 4, 2) := by decide +kernel
theorem dL_areRanges_45 : decode cL_areRanges 45 = .ok (.aload_n 1, 1) := by decide +kernel
theorem dL_areRanges_46 : decode cL_areRanges 46 = .ok (.iload 7, 2) := by decide +kernel
theorem dL_areRanges_48 : decode cL_areRanges 48 = .ok (.iconst 1, 1) := by decide +kernel
theorem dL_areRanges_49 : decode cL_areRanges 49 = .ok (.iadd, 1) := by decide +kernel
theorem dL_areRanges_50 : decode cL_areRanges 50 = .ok (.iaload, 1) := by decide +kernel
theorem dL_areRanges_51 : decode cL_areRanges 51 = .ok (.iadd, 1) := by decide +kernel
theorem dL_areRanges_52 : decode cL_areRanges 52 = .ok (.istore 4, 2) := by decide +kernel
theorem dL_areRanges_54 : decode cL_areRanges 54 = .ok (.aload_n 0, 1) := by decide +kernel
theorem dL_areRanges_55 : decode cL_areRanges 55 = .ok (.iload 6, 2) := by decide +kernel
theorem dL_areRanges_57 : decode cL_areRanges 57 = .ok (.iconst 0, 1) := by decide +kernel
theorem dL_areRanges_58 : decode cL_areRanges 58 = .ok (.invokevirtual 31, 3) := by decide +kernel
theorem dL_areRanges_61 : decode cL_areRanges 61 = .ok (.aload_n 1, 1) := by decide +kernel
theorem dL_areRanges_62 : decode cL_areRanges 62 = .ok (.iload 7, 2) := by decide +kernel
theorem dL_areRanges_64 : decode cL_areRanges 64 = .ok (.iaload, 1) := by decide +kernel
theorem dL_areRanges_65 : decode cL_areRanges 65 = .ok (.if_icmp .ne 148, 3) := by decide +kernel
theorem dL_areRanges_68 : decode cL_areRanges 68 = .ok (.aload_n 0, 1) := by decide +kernel
theorem dL_areRanges_69 : decode cL_areRanges 69 = .ok (.iload 6, 2) := by decide +kernel
theorem dL_areRanges_71 : decode cL_areRanges 71 = .ok (.iconst 1, 1) := by decide +kernel
theorem dL_areRanges_72 : decode cL_areRanges 72 = .ok (.invokevirtual 31, 3) := by decide +kernel
theorem dL_areRanges_75 : decode cL_areRanges 75 = .ok (.aload_n 1, 1) := by decide +kernel
theorem dL_areRanges_76 : decode cL_areRanges 76 = .ok (.iload 7, 2) := by decide +kernel
theorem dL_areRanges_78 : decode cL_areRanges 78 = .ok (.iaload, 1) := by decide +kernel
theorem dL_areRanges_79 : decode cL_areRanges 79 = .ok (.aload_n 1, 1) := by decide +kernel
theorem dL_areRanges_80 : decode cL_areRanges 80 = .ok (.iload 7, 2) := by decide +kernel
theorem dL_areRanges_82 : decode cL_areRanges 82 = .ok (.iconst 1, 1) := by decide +kernel
theorem dL_areRanges_83 : decode cL_areRanges 83 = .ok (.iadd, 1) := by decide +kernel
theorem dL_areRanges_84 : decode cL_areRanges 84 = .ok (.iaload, 1) := by decide +kernel
theorem dL_areRanges_85 : decode cL_areRanges 85 = .ok (.iadd, 1) := by decide +kernel
theorem dL_areRanges_86 : decode cL_areRanges 86 = .ok (.iconst 1, 1) := by decide +kernel
theorem dL_areRanges_87 : decode cL_areRanges 87 = .ok (.isub, 1) := by decide +kernel
theorem dL_areRanges_88 : decode cL_areRanges 88 = .ok (.if_icmp .ne 125, 3) := by decide +kernel
theorem dL_areRanges_91 : decode cL_areRanges 91 = .ok (.aload_n 0, 1) := by decide +kernel
theorem dL_areRanges_92 : decode cL_areRanges 92 = .ok (.iload 6, 2) := by decide +kernel
theorem dL_areRanges_94 : decode cL_areRanges 94 = .ok (.iconst 2, 1) := by decide +kernel
theorem dL_areRanges_95 : decode cL_areRanges 95 = .ok (.invokevirtual 31, 3) := by decide +kernel
theorem dL_areRanges_98 : decode cL_areRanges 98 = .ok (.aload_n 1, 1) := by decide +kernel
theorem dL_areRanges_99 : decode cL_areRanges 99 = .ok (.iload 7, 2) := by decide +kernel
theorem dL_areRanges_101 : decode cL_areRanges 101 = .ok (.iconst 2, 1) := by decide +kernel
theorem dL_areRanges_102 : decode cL_areRanges 102 = .ok (.iadd, 1) := by decide +kernel
theorem dL_areRanges_103 : decode cL_areRanges 103 = .ok (.iaload, 1) := by decide +kernel
theorem dL_areRanges_104 : decode cL_areRanges 104 = .ok (.if_icmp .ne 109, 3) := by decide +kernel
theorem dL_areRanges_107 : decode cL_areRanges 107 = .ok (.aload_n 0, 1) := by decide +kernel
theorem dL_areRanges_108 : decode cL_areRanges 108 = .ok (.iload 6, 2) := by decide +kernel
theorem dL_areRanges_110 : decode cL_areRanges 110 = .ok (.iconst 3, 1) := by decide +kernel
theorem dL_areRanges_111 : decode cL_areRanges 111 = .ok (.invokevirtual 31, 3) := by decide +kernel
theorem dL_areRanges_114 : decode cL_areRanges 114 = .ok (.aload_n 1, 1) := by decide +kernel
theorem dL_areRanges_115 : decode cL_areRanges 115 = .ok (.iload 7, 2) := by decide +kernel
theorem dL_areRanges_117 : decode cL_areRanges 117 = .ok (.iconst 3, 1) := by decide +kernel
theorem dL_areRanges_118 : decode cL_areRanges 118 = .ok (.iadd, 1) := by decide +kernel
theorem dL_areRanges_119 : decode cL_areRanges 119 = .ok (.iaload, 1) := by decide +kernel
theorem dL_areRanges_120 : decode cL_areRanges 120 = .ok (.if_icmp .ne 93, 3) := by decide +kernel
theorem dL_areRanges_123 : decode cL_areRanges 123 = .ok (.aload_n 0, 1) := by decide +kernel
theorem dL_areRanges_124 : decode cL_areRanges 124 = .ok (.iload 6, 2) := by decide +kernel
theorem dL_areRanges_126 : decode cL_areRanges 126 = .ok (.iconst 4, 1) := by decide +kernel
theorem dL_areRanges_127 : decode cL_areRanges 127 = .ok (.invokevirtual 31, 3) := by decide +kernel
theorem dL_areRanges_130 : decode cL_areRanges 130 = .ok (.aload_n 1, 1) := by decide +kernel
theorem dL_areRanges_131 : decode cL_areRanges 131 = .ok (.iload 7, 2) := by decide +kernel
theorem dL_areRanges_133 : decode cL_areRanges 133 = .ok (.iconst 4, 1) := by decide +kernel
theorem dL_areRanges_134 : decode cL_areRanges 134 = .ok (.iadd, 1) := by decide +kernel
theorem dL_areRanges_135 : decode cL_areRanges 135 = .ok (.iaload, 1) := by decide +kernel
theorem dL_areRanges_136 : decode cL_areRanges 136 = .ok (.if_icmp .ne 77, 3) := by decide +kernel
theorem dL_areRanges_139 : decode cL_areRanges 139 = .ok (.aload_n 0, 1) := by decide +kernel
theorem dL_areRanges_140 : decode cL_areRanges 140 = .ok (.iload 6, 2) := by decide +kernel
theorem dL_areRanges_142 : decode cL_areRanges 142 = .ok (.iconst 5, 1) := by decide +kernel
theorem dL_areRanges_143 : decode cL_areRanges 143 = .ok (.invokevirtual 31, 3) := by decide +kernel
theorem dL_areRanges_146 : decode cL_areRanges 146 = .ok (.aload_n 1, 1) := by decide +kernel
theorem dL_areRanges_147 : decode cL_areRanges 147 = .ok (.iload 7, 2) := by decide +kernel
theorem dL_areRanges_149 : decode cL_areRanges 149 = .ok (.iconst 5, 1) := by decide +kernel
theorem dL_areRanges_150 : decode cL_areRanges 150 = .ok (.iadd, 1) := by decide +kernel
theorem dL_areRanges_151 : decode cL_areRanges 151 = .ok (.iaload, 1) := by decide +kernel
theorem dL_areRanges_152 : decode cL_areRanges 152 = .ok (.aload_n 1, 1) := by decide +kernel
theorem dL_areRanges_153 : decode cL_areRanges 153 = .ok (.iload 7, 2) := by decide +kernel
theorem dL_areRanges_155 : decode cL_areRanges 155 = .ok (.iconst 2, 1) := by decide +kernel
theorem dL_areRanges_156 : decode cL_areRanges 156 = .ok (.iadd, 1) := by decide +kernel
theorem dL_areRanges_157 : decode cL_areRanges 157 = .ok (.iaload, 1) := by decide +kernel
theorem dL_areRanges_158 : decode cL_areRanges 158 = .ok (.irem, 1) := by decide +kernel
theorem dL_areRanges_159 : decode cL_areRanges 159 = .ok (.if_icmp .ne 54, 3) := by decide +kernel
theorem dL_areRanges_162 : decode cL_areRanges 162 = .ok (.aload_n 0, 1) := by decide +kernel
theorem dL_areRanges_163 : decode cL_areRanges 163 = .ok (.iload 6, 2) := by decide +kernel
theorem dL_areRanges_165 : decode cL_areRanges 165 = .ok (.bipush 6, 2) := by decide +kernel
theorem dL_areRanges_167 : decode cL_areRanges 167 = .ok (.invokevirtual 31, 3) := by decide +kernel
theorem dL_areRanges_170 : decode cL_areRanges 170 = .ok (.aload_n 1, 1) := by decide +kernel
theorem dL_areRanges_171 : decode cL_areRanges 171 = .ok (.iload 7, 2) := by decide +kernel
theorem dL_areRanges_173 : decode cL_areRanges 173 = .ok (.invokestatic 9, 3) := by decide +kernel
theorem dL_areRanges_176 : decode cL_areRanges 176 = .ok (.if_icmp .ne 37, 3) := by decide +kernel
theorem dL_areRanges_179 : decode cL_areRanges 179 = .ok (.aload_n 0, 1) := by decide +kernel
theorem dL_areRanges_180 : decode cL_areRanges 180 = .ok (.iload 6, 2) := by decide +kernel
theorem dL_areRanges_182 : decode cL_areRanges 182 = .ok (.bipush 7, 2) := by decide +kernel
theorem dL_areRanges_184 : decode cL_areRanges 184 = .ok (.invokevirtual 31, 3) := by decide +kernel
theorem dL_areRanges_187 : decode cL_areRanges 187 = .ok (.aload_n 1, 1) := by decide +kernel
theorem dL_areRanges_188 : decode cL_areRanges 188 = .ok (.iload 7, 2) := by decide +kernel
theorem dL_areRanges_190 : decode cL_areRanges 190 = .ok (.invokestatic 18, 3) := by decide +kernel
theorem dL_areRanges_193 : decode cL_areRanges 193 = .ok (.if_icmp .ne 20, 3) := by decide +kernel
theorem dL_areRanges_196 : decode cL_areRanges 196 = .ok (.aload_n 0, 1) := by decide +kernel
theorem dL_areRanges_197 : decode cL_areRanges 197 = .ok (.iload 6, 2) := by decide +kernel
theorem dL_areRanges_199 : decode cL_areRanges 199 = .ok (.bipush 8, 2) := by decide +kernel
theorem dL_areRanges_201 : decode cL_areRanges 201 = .ok (.invokevirtual 31, 3) := by decide +kernel
theorem dL_areRanges_204 : decode cL_areRanges 204 = .ok (.bipush (-2), 2) := by decide +kernel
theorem dL_areRanges_206 : decode cL_areRanges 206 = .ok (.if_icmp .ne 7, 3) := by decide +kernel
theorem dL_areRanges_209 : decode cL_areRanges 209 = .ok (.iconst 1, 1) := by decide +kernel
theorem dL_areRanges_210 : decode cL_areRanges 210 = .ok (.goto 4, 3) := by decide +kernel
theorem dL_areRanges_213 : decode cL_areRanges 213 = .ok (.iconst 0, 1) := by decide +kernel
theorem dL_areRanges_214 : decode cL_areRanges 214 = .ok (.istore 5, 2) := by decide +kernel
theorem dL_areRanges_216 : decode cL_areRanges 216 = .ok (.iinc 6 1, 3) := by decide +kernel
theorem dL_areRanges_219 : decode cL_areRanges 219 = .ok (.goto (-208), 3) := by decide +kernel
theorem dL_areRanges_222 : decode cL_areRanges 222 = .ok (.iconst 0, 1) := by decide +kernel
theorem dL_areRanges_223 : decode cL_areRanges 223 = .ok (.istore 6, 2) := by decide +kernel
theorem dL_areRanges_225 : decode cL_areRanges 225 = .ok (.iload 6, 2) := by decide +kernel
theorem dL_areRanges_227 : decode cL_areRanges 227 = .ok (.aload_n 2, 1) := by decide +kernel
theorem dL_areRanges_228 : decode cL_areRanges 228 = .ok (.iconst 0, 1) := by decide +kernel
theorem dL_areRanges_229 : decode cL_areRanges 229 = .ok (.iaload, 1) := by decide +kernel
theorem dL_areRanges_230 : decode cL_areRanges 230 = .ok (.if_icmp .ge 119, 3) := by decide +kernel
theorem dL_areRanges_233 : decode cL_areRanges 233 = .ok (.iload 5, 2) := by decide +kernel
theorem dL_areRanges_235 : decode cL_areRanges 235 = .ok (.ifCond .eq 114, 3) := by decide +kernel
theorem dL_areRanges_238 : decode cL_areRanges 238 = .ok (.iconst 4, 1) := by decide +kernel
theorem dL_areRanges_239 : decode cL_areRanges 239 = .ok (.iconst 4, 1) := by decide +kernel
theorem dL_areRanges_240 : decode cL_areRanges 240 = .ok (.iload 6, 2) := by decide +kernel
theorem dL_areRanges_242 : decode cL_areRanges 242 = .ok (.imul, 1) := by decide +kernel
theorem dL_areRanges_243 : decode cL_areRanges 243 = .ok (.iadd, 1) := by decide +kernel
theorem dL_areRanges_244 : decode cL_areRanges 244 = .ok (.istore 7, 2) := by decide +kernel
theorem dL_areRanges_246 : decode cL_areRanges 246 = .ok (.aload_n 0, 1) := by decide +kernel
theorem dL_areRanges_247 : decode cL_areRanges 247 = .ok (.iload 6, 2) := by decide +kernel
theorem dL_areRanges_249 : decode cL_areRanges 249 = .ok (.iconst 0, 1) := by decide +kernel
theorem dL_areRanges_250 : decode cL_areRanges 250 = .ok (.invokevirtual 37, 3) := by decide +kernel
theorem dL_areRanges_253 : decode cL_areRanges 253 = .ok (.aload_n 2, 1) := by decide +kernel
theorem dL_areRanges_254 : decode cL_areRanges 254 = .ok (.iload 7, 2) := by decide +kernel
theorem dL_areRanges_256 : decode cL_areRanges 256 = .ok (.iaload, 1) := by decide +kernel
theorem dL_areRanges_257 : decode cL_areRanges 257 = .ok (.if_icmp .ne 83, 3) := by decide +kernel
theorem dL_areRanges_260 : decode cL_areRanges 260 = .ok (.aload_n 0, 1) := by decide +kernel
theorem dL_areRanges_261 : decode cL_areRanges 261 = .ok (.iload 6, 2) := by decide +kernel
theorem dL_areRanges_263 : decode cL_areRanges 263 = .ok (.iconst 1, 1) := by decide +kernel
theorem dL_areRanges_264 : decode cL_areRanges 264 = .ok (.invokevirtual 37, 3) := by decide +kernel
theorem dL_areRanges_267 : decode cL_areRanges 267 = .ok (.aload_n 2, 1) := by decide +kernel
theorem dL_areRanges_268 : decode cL_areRanges 268 = .ok (.iload 7, 2) := by decide +kernel
theorem dL_areRanges_270 : decode cL_areRanges 270 = .ok (.iconst 1, 1) := by decide +kernel
theorem dL_areRanges_271 : decode cL_areRanges 271 = .ok (.iadd, 1) := by decide +kernel
theorem dL_areRanges_272 : decode cL_areRanges 272 = .ok (.iaload, 1) := by decide +kernel
theorem dL_areRanges_273 : decode cL_areRanges 273 = .ok (.if_icmp .ne 67, 3) := by decide +kernel
theorem dL_areRanges_276 : decode cL_areRanges 276 = .ok (.aload_n 0, 1) := by decide +kernel
theorem dL_areRanges_277 : decode cL_areRanges 277 = .ok (.iload 6, 2) := by decide +kernel
theorem dL_areRanges_279 : decode cL_areRanges 279 = .ok (.iconst 2, 1) := by decide +kernel
theorem dL_areRanges_280 : decode cL_areRanges 280 = .ok (.invokevirtual 37, 3) := by decide +kernel
theorem dL_areRanges_283 : decode cL_areRanges 283 = .ok (.aload_n 2, 1) := by decide +kernel
theorem dL_areRanges_284 : decode cL_areRanges 284 = .ok (.iload 7, 2) := by decide +kernel
theorem dL_areRanges_286 : decode cL_areRanges 286 = .ok (.iconst 2, 1) := by decide +kernel
theorem dL_areRanges_287 : decode cL_areRanges 287 = .ok (.iadd, 1) := by decide +kernel
theorem dL_areRanges_288 : decode cL_areRanges 288 = .ok (.iaload, 1) := by decide +kernel
theorem dL_areRanges_289 : decode cL_areRanges 289 = .ok (.if_icmp .ne 51, 3) := by decide +kernel
theorem dL_areRanges_292 : decode cL_areRanges 292 = .ok (.aload_n 0, 1) := by decide +kernel
theorem dL_areRanges_293 : decode cL_areRanges 293 = .ok (.iload 6, 2) := by decide +kernel
theorem dL_areRanges_295 : decode cL_areRanges 295 = .ok (.iconst 3, 1) := by decide +kernel
theorem dL_areRanges_296 : decode cL_areRanges 296 = .ok (.invokevirtual 37, 3) := by decide +kernel
theorem dL_areRanges_299 : decode cL_areRanges 299 = .ok (.aload_n 2, 1) := by decide +kernel
theorem dL_areRanges_300 : decode cL_areRanges 300 = .ok (.iload 7, 2) := by decide +kernel
theorem dL_areRanges_302 : decode cL_areRanges 302 = .ok (.iconst 3, 1) := by decide +kernel
theorem dL_areRanges_303 : decode cL_areRanges 303 = .ok (.iadd, 1) := by decide +kernel
theorem dL_areRanges_304 : decode cL_areRanges 304 = .ok (.iaload, 1) := by decide +kernel
theorem dL_areRanges_305 : decode cL_areRanges 305 = .ok (.if_icmp .ne 35, 3) := by decide +kernel
theorem dL_areRanges_308 : decode cL_areRanges 308 = .ok (.aload_n 0, 1) := by decide +kernel
theorem dL_areRanges_309 : decode cL_areRanges 309 = .ok (.iload 6, 2) := by decide +kernel
theorem dL_areRanges_311 : decode cL_areRanges 311 = .ok (.iconst 4, 1) := by decide +kernel
theorem dL_areRanges_312 : decode cL_areRanges 312 = .ok (.invokevirtual 37, 3) := by decide +kernel
theorem dL_areRanges_315 : decode cL_areRanges 315 = .ok (.aload_n 2, 1) := by decide +kernel
theorem dL_areRanges_316 : decode cL_areRanges 316 = .ok (.iload 7, 2) := by decide +kernel
theorem dL_areRanges_318 : decode cL_areRanges 318 = .ok (.invokestatic 24, 3) := by decide +kernel
theorem dL_areRanges_321 : decode cL_areRanges 321 = .ok (.if_icmp .ne 19, 3) := by decide +kernel
theorem dL_areRanges_324 : decode cL_areRanges 324 = .ok (.aload_n 0, 1) := by decide +kernel
theorem dL_areRanges_325 : decode cL_areRanges 325 = .ok (.iload 6, 2) := by decide +kernel
theorem dL_areRanges_327 : decode cL_areRanges 327 = .ok (.iconst 5, 1) := by decide +kernel
theorem dL_areRanges_328 : decode cL_areRanges 328 = .ok (.invokevirtual 37, 3) := by decide +kernel
theorem dL_areRanges_331 : decode cL_areRanges 331 = .ok (.bipush (-2), 2) := by decide +kernel
theorem dL_areRanges_333 : decode cL_areRanges 333 = .ok (.if_icmp .ne 7, 3) := by decide +kernel
theorem dL_areRanges_336 : decode cL_areRanges 336 = .ok (.iconst 1, 1) := by decide +kernel
theorem dL_areRanges_337 : decode cL_areRanges 337 = .ok (.goto 4, 3) := by decide +kernel
theorem dL_areRanges_340 : decode cL_areRanges 340 = .ok (.iconst 0, 1) := by decide +kernel
theorem dL_areRanges_341 : decode cL_areRanges 341 = .ok (.istore 5, 2) := by decide +kernel
theorem dL_areRanges_343 : decode cL_areRanges 343 = .ok (.iinc 6 1, 3) := by decide +kernel
theorem dL_areRanges_346 : decode cL_areRanges 346 = .ok (.goto (-121), 3) := by decide +kernel
theorem dL_areRanges_349 : decode cL_areRanges 349 = .ok (.iload 5, 2) := by decide +kernel
theorem dL_areRanges_351 : decode cL_areRanges 351 = .ok (.ifCond .eq 63, 3) := by decide +kernel
theorem dL_areRanges_354 : decode cL_areRanges 354 = .ok (.aload_n 0, 1) := by decide +kernel
theorem dL_areRanges_355 : decode cL_areRanges 355 = .ok (.aload_n 1, 1) := by decide +kernel
theorem dL_areRanges_356 : decode cL_areRanges 356 = .ok (.iconst 0, 1) := by decide +kernel
theorem dL_areRanges_357 : decode cL_areRanges 357 = .ok (.iaload, 1) := by decide +kernel
theorem dL_areRanges_358 : decode cL_areRanges 358 = .ok (.bipush 9, 2) := by decide +kernel
theorem dL_areRanges_360 : decode cL_areRanges 360 = .ok (.invokevirtual 31, 3) := by decide +kernel
theorem dL_areRanges_363 : decode cL_areRanges 363 = .ok (.iconst (-1), 1) := by decide +kernel
theorem dL_areRanges_364 : decode cL_areRanges 364 = .ok (.if_icmp .ne 50, 3) := by decide +kernel
theorem dL_areRanges_367 : decode cL_areRanges 367 = .ok (.aload_n 0, 1) := by decide +kernel
theorem dL_areRanges_368 : decode cL_areRanges 368 = .ok (.aload_n 2, 1) := by decide +kernel
theorem dL_areRanges_369 : decode cL_areRanges 369 = .ok (.iconst 0, 1) := by decide +kernel
theorem dL_areRanges_370 : decode cL_areRanges 370 = .ok (.iaload, 1) := by decide +kernel
theorem dL_areRanges_371 : decode cL_areRanges 371 = .ok (.iconst (-1), 1) := by decide +kernel
theorem dL_areRanges_372 : decode cL_areRanges 372 = .ok (.invokevirtual 37, 3) := by decide +kernel
theorem dL_areRanges_375 : decode cL_areRanges 375 = .ok (.iconst (-1), 1) := by decide +kernel
theorem dL_areRanges_376 : decode cL_areRanges 376 = .ok (.if_icmp .ne 38, 3) := by decide +kernel
theorem dL_areRanges_379 : decode cL_areRanges 379 = .ok (.aload_n 0, 1) := by decide +kernel
theorem dL_areRanges_380 : decode cL_areRanges 380 = .ok (.iconst 0, 1) := by decide +kernel
theorem dL_areRanges_381 : decode cL_areRanges 381 = .ok (.invokevirtual 40, 3) := by decide +kernel
theorem dL_areRanges_384 : decode cL_areRanges 384 = .ok (.aload_n 1, 1) := by decide +kernel
theorem dL_areRanges_385 : decode cL_areRanges 385 = .ok (.iconst 0, 1) := by decide +kernel
theorem dL_areRanges_386 : decode cL_areRanges 386 = .ok (.iaload, 1) := by decide +kernel
theorem dL_areRanges_387 : decode cL_areRanges 387 = .ok (.if_icmp .ne 27, 3) := by decide +kernel
theorem dL_areRanges_390 : decode cL_areRanges 390 = .ok (.aload_n 0, 1) := by decide +kernel
theorem dL_areRanges_391 : decode cL_areRanges 391 = .ok (.iconst 1, 1) := by decide +kernel
theorem dL_areRanges_392 : decode cL_areRanges 392 = .ok (.invokevirtual 40, 3) := by decide +kernel
theorem dL_areRanges_395 : decode cL_areRanges 395 = .ok (.iload_n 3, 1) := by decide +kernel
theorem dL_areRanges_396 : decode cL_areRanges 396 = .ok (.if_icmp .ne 18, 3) := by decide +kernel
theorem dL_areRanges_399 : decode cL_areRanges 399 = .ok (.aload_n 0, 1) := by decide +kernel
theorem dL_areRanges_400 : decode cL_areRanges 400 = .ok (.iconst 2, 1) := by decide +kernel
theorem dL_areRanges_401 : decode cL_areRanges 401 = .ok (.invokevirtual 40, 3) := by decide +kernel
theorem dL_areRanges_404 : decode cL_areRanges 404 = .ok (.aload_n 2, 1) := by decide +kernel
theorem dL_areRanges_405 : decode cL_areRanges 405 = .ok (.iconst 0, 1) := by decide +kernel
theorem dL_areRanges_406 : decode cL_areRanges 406 = .ok (.iaload, 1) := by decide +kernel
theorem dL_areRanges_407 : decode cL_areRanges 407 = .ok (.if_icmp .ne 7, 3) := by decide +kernel
theorem dL_areRanges_410 : decode cL_areRanges 410 = .ok (.iconst 1, 1) := by decide +kernel
theorem dL_areRanges_411 : decode cL_areRanges 411 = .ok (.goto 4, 3) := by decide +kernel
theorem dL_areRanges_414 : decode cL_areRanges 414 = .ok (.iconst 0, 1) := by decide +kernel
theorem dL_areRanges_415 : decode cL_areRanges 415 = .ok (.istore 5, 2) := by decide +kernel
theorem dL_areRanges_417 : decode cL_areRanges 417 = .ok (.iload 5, 2) := by decide +kernel
theorem dL_areRanges_419 : decode cL_areRanges 419 = .ok (.ifCond .eq 39, 3) := by decide +kernel
theorem dL_areRanges_422 : decode cL_areRanges 422 = .ok (.aload_n 0, 1) := by decide +kernel
theorem dL_areRanges_423 : decode cL_areRanges 423 = .ok (.iconst 3, 1) := by decide +kernel
theorem dL_areRanges_424 : decode cL_areRanges 424 = .ok (.invokevirtual 40, 3) := by decide +kernel
theorem dL_areRanges_427 : decode cL_areRanges 427 = .ok (.aload_n 2, 1) := by decide +kernel
theorem dL_areRanges_428 : decode cL_areRanges 428 = .ok (.iconst 1, 1) := by decide +kernel
theorem dL_areRanges_429 : decode cL_areRanges 429 = .ok (.iaload, 1) := by decide +kernel
theorem dL_areRanges_430 : decode cL_areRanges 430 = .ok (.if_icmp .ne 28, 3) := by decide +kernel
theorem dL_areRanges_433 : decode cL_areRanges 433 = .ok (.aload_n 0, 1) := by decide +kernel
theorem dL_areRanges_434 : decode cL_areRanges 434 = .ok (.iconst 4, 1) := by decide +kernel
theorem dL_areRanges_435 : decode cL_areRanges 435 = .ok (.invokevirtual 40, 3) := by decide +kernel
theorem dL_areRanges_438 : decode cL_areRanges 438 = .ok (.aload_n 2, 1) := by decide +kernel
theorem dL_areRanges_439 : decode cL_areRanges 439 = .ok (.iconst 2, 1) := by decide +kernel
theorem dL_areRanges_440 : decode cL_areRanges 440 = .ok (.iaload, 1) := by decide +kernel
theorem dL_areRanges_441 : decode cL_areRanges 441 = .ok (.if_icmp .ne 17, 3) := by decide +kernel
theorem dL_areRanges_444 : decode cL_areRanges 444 = .ok (.aload_n 0, 1) := by decide +kernel
theorem dL_areRanges_445 : decode cL_areRanges 445 = .ok (.iconst 5, 1) := by decide +kernel
theorem dL_areRanges_446 : decode cL_areRanges 446 = .ok (.invokevirtual 40, 3) := by decide +kernel
theorem dL_areRanges_449 : decode cL_areRanges 449 = .ok (.iload 4, 2) := by decide +kernel
theorem dL_areRanges_451 : decode cL_areRanges 451 = .ok (.if_icmp .ne 7, 3) := by decide +kernel
theorem dL_areRanges_454 : decode cL_areRanges 454 = .ok (.iconst 1, 1) := by decide +kernel
theorem dL_areRanges_455 : decode cL_areRanges 455 = .ok (.goto 4, 3) := by decide +kernel
theorem dL_areRanges_458 : decode cL_areRanges 458 = .ok (.iconst 0, 1) := by decide +kernel
theorem dL_areRanges_459 : decode cL_areRanges 459 = .ok (.ireturn, 1) := by decide +kernel
set_option maxHeartbeats 4000000 in
set_option maxRecDepth 100000 in
theorem c_L_areRanges (l : Launch) (E : gE) (g : Mem) (Ec : gE) (S : AS) (c r h p : Nat → Int32) (hL : LWP Ec E g S c r h p) (B M : Nat) (hB : B ≤ 10000000) (hM : M ≤ 100000000) (ho : OK S B) (a K : Nat → Nat)(hq : RgL S.r r a K M) (hg : GlL S.r h) : Mt l E yL_areRanges cL_areRanges 8 (some .boolean) 7 160 [rf E (0), rf E (101), rf E (102)] g (pI (fun z g' => z = nI 1 ∧ LWP Ec E g' S c r h p)) := by
  have hv := ho.v
  have hrc : rc S.r ≤ 6 := hv.1.2
  have hgc : gc S.r ≤ 4 := hv.2.1.2
  have hrb0 := cn_le (rc S.r) (fun i => decide (rg S.r i 4 = 1))
  have hib0 := nP_sum hv (Nat.le_refl _)
  refine mt_go (own := RXL) (by decide) rfl (lo := [some (rf E (0)), some (rf E (101)), some (rf E (102)), none, none, none, none, none]) rfl (Nat.le_of_ble_eq_true rfl) (fun X hC => ?_)
  refine y_iconst (v := nI 0) hC dL_areRanges_0 (by decide) ?_
  refine y_istore_n hC dL_areRanges_1 (i := 3) rfl (Nat.le_of_ble_eq_true rfl) rfl (lo' := [some (rf E (0)), some (rf E (101)), some (rf E (102)), some (.int (nI (0))), none, none, none, none]) rfl ?_
  refine y_iconst (v := nI 0) hC dL_areRanges_2 (by decide) ?_
  refine y_istore hC dL_areRanges_3 (Nat.le_of_ble_eq_true rfl) rfl (lo' := [some (rf E (0)), some (rf E (101)), some (rf E (102)), some (.int (nI (0))), some (.int (nI (0))), none, none, none]) rfl ?_
  refine y_iconst (v := nI 1) hC dL_areRanges_5 (by decide) ?_
  refine y_istore hC dL_areRanges_6 (Nat.le_of_ble_eq_true rfl) rfl (lo' := [some (rf E (0)), some (rf E (101)), some (rf E (102)), some (.int (nI (0))), some (.int (nI (0))), some (.int (nI (1))), none, none]) rfl ?_
  refine y_iconst (v := nI 0) hC dL_areRanges_8 (by decide) ?_
  refine y_istore hC dL_areRanges_9 (Nat.le_of_ble_eq_true rfl) rfl (lo' := [some (rf E (0)), some (rf E (101)), some (rf E (102)), some (.int (nI (0))), some (.int (nI (0))), some (.int (nI (1))), some (.int (nI (0))), none]) rfl ?_
  have L_11 : ∀ (m : Nat) (k : Nat) (gg : Mem), (hm : rc S.r - k < m) → (hk : k ≤ rc S.r) → (hL : LWP Ec E gg S c r h p) → Y l E X (pI (fun z g' => z = nI 1 ∧ LWP Ec E g' S c r h p)) 11 [some (rf E (0)), some (rf E (101)), some (rf E (102)), some (.int (nI (cn k (fun i => decide (rg S.r i 4 = 1))))), some (.int (nI (sm k (fun i => nP S.r i)))), some (.int (nI (1))), some (.int (nI (k))), none] [] gg := by
    intro m
    induction m with
    | zero => intro k gg hm hk hL; exact absurd hm (Nat.not_lt_zero _)
    | succ m ih_11 =>
      intro k gg hm hk hL
      refine y_iload hC dL_areRanges_11 rfl ?_
      refine y_aload_n hC dL_areRanges_13 (i := 1) rfl rfl ?_
      refine y_iconst (v := nI 0) hC dL_areRanges_14 (by decide) ?_
      refine y_iald hC dL_areRanges_15 (k := 101) (j := 0) (by have := hL.k; omega) hL.a101 (rfl) (by omega) (by decide) ?_
      refine y_top (y := nI (rc S.r)) (hq.n) ?_
      refine y_icmp_ge_n (tgt := 222) hC dL_areRanges_16 (by decide) (by omega) (by omega) (fun c_16 => ?_) (fun c_16 => ?_)
      · obtain rfl : k = rc S.r := by omega
        refine y_iconst (v := nI 0) hC dL_areRanges_222 (by decide) ?_
        refine y_istore hC dL_areRanges_223 (Nat.le_of_ble_eq_true rfl) rfl (lo' := [some (rf E (0)), some (rf E (101)), some (rf E (102)), some (.int (nI (cn (rc S.r) (fun i => decide (rg S.r i 4 = 1))))), some (.int (nI (sm (rc S.r) (fun i => nP S.r i)))), some (.int (nI (1))), some (.int (nI (0))), none]) rfl ?_
        have L_225 : ∀ (m : Nat) (k : Nat) (gg : Mem), (hm : gc S.r - k < m) → (hk : k ≤ gc S.r) → (hL : LWP Ec E gg S c r h p) → Y l E X (pI (fun z g' => z = nI 1 ∧ LWP Ec E g' S c r h p)) 225 [some (rf E (0)), some (rf E (101)), some (rf E (102)), some (.int (nI (cn (rc S.r) (fun i => decide (rg S.r i 4 = 1))))), some (.int (nI (sm (rc S.r) (fun i => nP S.r i)))), some (.int (nI (1))), some (.int (nI (k))), none] [] gg := by
          intro m
          induction m with
          | zero => intro k gg hm hk hL; exact absurd hm (Nat.not_lt_zero _)
          | succ m ih_225 =>
            intro k gg hm hk hL
            refine y_iload hC dL_areRanges_225 rfl ?_
            refine y_aload_n hC dL_areRanges_227 (i := 2) rfl rfl ?_
            refine y_iconst (v := nI 0) hC dL_areRanges_228 (by decide) ?_
            refine y_iald hC dL_areRanges_229 (k := 102) (j := 0) (by have := hL.k; omega) hL.a102 (rfl) (by omega) (by decide) ?_
            refine y_top (y := nI (gc S.r)) (hg.n) ?_
            refine y_icmp_ge_n (tgt := 349) hC dL_areRanges_230 (by decide) (by omega) (by omega) (fun c_230 => ?_) (fun c_230 => ?_)
            · obtain rfl : k = gc S.r := by omega
              refine y_iload hC dL_areRanges_349 rfl ?_
              refine y_if_eq_n (tgt := 414) hC dL_areRanges_351 (by decide) (by omega) (fun c_351 => ?_) (fun c_351 => ?_)
              · exfalso
                omega
              · refine y_aload_n hC dL_areRanges_354 (i := 0) rfl rfl ?_
                refine y_aload_n hC dL_areRanges_355 (i := 1) rfl rfl ?_
                refine y_iconst (v := nI 0) hC dL_areRanges_356 (by decide) ?_
                refine y_iald hC dL_areRanges_357 (k := 101) (j := 0) (by have := hL.k; omega) hL.a101 (rfl) (by omega) (by decide) ?_
                refine y_top (y := nI (rc S.r)) (hq.n) ?_
                refine y_bipush (v := nI 9) hC dL_areRanges_358 (by decide) ?_
                refine y_callVF hC hL.s mX5_range kXL_31 dL_areRanges_360 (b := 0) (As := [.int (nI (rc S.r)), .int (nI (9))]) (rest := []) (CPm hL.cp (fun sh mk wa hcq => c_X5_range l Ec gg S B (by omega) ho sh mk wa hcq (nI (rc S.r)) (nI (9)))) hL.k0 hL.a0 rfl rfl rfl (Nat.le_of_ble_eq_true rfl) ⟨Nat.le_of_ble_eq_true rfl, Nat.le_of_ble_eq_true rfl⟩ (pkf_i ?_)
                rintro r_360 g_360 ⟨hr_360, hc_360⟩
                rw [hr_360]
                clear hr_360 r_360
                have hL_360 := hL.call hc_360
                generalize mrg (eK Ec) g_360 gg = G_360 at hL_360  ⊢
                refine y_top (y := ((-1))) (qRgn ho _) ?_
                refine y_iconst (v := (-1)) hC dL_areRanges_363 (by decide) ?_
                refine y_icmp_ne (tgt := 414) hC dL_areRanges_364 (by decide) (fun c_364 => ?_) (fun c_364 => ?_)
                · first | exact absurd rfl c_364 | (exfalso; omega)
                · refine y_aload_n hC dL_areRanges_367 (i := 0) rfl rfl ?_
                  refine y_aload_n hC dL_areRanges_368 (i := 2) rfl rfl ?_
                  refine y_iconst (v := nI 0) hC dL_areRanges_369 (by decide) ?_
                  refine y_iald hC dL_areRanges_370 (k := 102) (j := 0) (by have := hL_360.k; omega) hL_360.a102 (rfl) (by omega) (by decide) ?_
                  refine y_top (y := nI (gc S.r)) (hg.n) ?_
                  refine y_iconst (v := (-1)) hC dL_areRanges_371 (by decide) ?_
                  refine y_callVF hC hL_360.s mX5_glow kXL_37 dL_areRanges_372 (b := 0) (As := [.int (nI (gc S.r)), .int ((-1))]) (rest := []) (CPm hL_360.cp (fun sh mk wa hcq => c_X5_glow l Ec G_360 S B (by omega) ho sh mk wa hcq (nI (gc S.r)) (((-1))))) hL_360.k0 hL_360.a0 rfl rfl rfl (Nat.le_of_ble_eq_true rfl) ⟨Nat.le_of_ble_eq_true rfl, Nat.le_of_ble_eq_true rfl⟩ (pkf_i ?_)
                  rintro r_372 g_372 ⟨hr_372, hc_372⟩
                  rw [hr_372]
                  clear hr_372 r_372
                  have hL_372 := hL_360.call hc_372
                  generalize mrg (eK Ec) g_372 G_360 = G_372 at hL_372  ⊢
                  refine y_top (y := ((-1))) (qGln ho _) ?_
                  refine y_iconst (v := (-1)) hC dL_areRanges_375 (by decide) ?_
                  refine y_icmp_ne (tgt := 414) hC dL_areRanges_376 (by decide) (fun c_376 => ?_) (fun c_376 => ?_)
                  · first | exact absurd rfl c_376 | (exfalso; omega)
                  · refine y_aload_n hC dL_areRanges_379 (i := 0) rfl rfl ?_
                    refine y_iconst (v := nI 0) hC dL_areRanges_380 (by decide) ?_
                    refine y_callVF hC hL_372.s mX5_total kXL_40 dL_areRanges_381 (b := 0) (As := [.int (nI (0))]) (rest := []) (CPm hL_372.cp (fun sh mk wa hcq => c_X5_total l Ec G_372 S B (by omega) ho sh mk wa hcq (nI (0)))) hL_372.k0 hL_372.a0 rfl rfl rfl (Nat.le_of_ble_eq_true rfl) ⟨Nat.le_of_ble_eq_true rfl, Nat.le_of_ble_eq_true rfl⟩ (pkf_i ?_)
                    rintro r_381 g_381 ⟨hr_381, hc_381⟩
                    rw [hr_381]
                    clear hr_381 r_381
                    have hL_381 := hL_372.call hc_381
                    generalize mrg (eK Ec) g_381 G_372 = G_381 at hL_381  ⊢
                    refine y_top (y := nI (rc S.r)) (qTt (by decide)) ?_
                    refine y_aload_n hC dL_areRanges_384 (i := 1) rfl rfl ?_
                    refine y_iconst (v := nI 0) hC dL_areRanges_385 (by decide) ?_
                    refine y_iald hC dL_areRanges_386 (k := 101) (j := 0) (by have := hL_381.k; omega) hL_381.a101 (rfl) (by omega) (by decide) ?_
                    refine y_top (y := nI (rc S.r)) (hq.n) ?_
                    refine y_icmp_ne_n (tgt := 414) hC dL_areRanges_387 (by decide) (by omega) (by omega) (fun c_387 => ?_) (fun c_387 => ?_)
                    · first | exact absurd rfl c_387 | (exfalso; omega)
                    · refine y_aload_n hC dL_areRanges_390 (i := 0) rfl rfl ?_
                      refine y_iconst (v := nI 1) hC dL_areRanges_391 (by decide) ?_
                      refine y_callVF hC hL_381.s mX5_total kXL_40 dL_areRanges_392 (b := 0) (As := [.int (nI (1))]) (rest := []) (CPm hL_381.cp (fun sh mk wa hcq => c_X5_total l Ec G_381 S B (by omega) ho sh mk wa hcq (nI (1)))) hL_381.k0 hL_381.a0 rfl rfl rfl (Nat.le_of_ble_eq_true rfl) ⟨Nat.le_of_ble_eq_true rfl, Nat.le_of_ble_eq_true rfl⟩ (pkf_i ?_)
                      rintro r_392 g_392 ⟨hr_392, hc_392⟩
                      rw [hr_392]
                      clear hr_392 r_392
                      have hL_392 := hL_381.call hc_392
                      generalize mrg (eK Ec) g_392 G_381 = G_392 at hL_392  ⊢
                      refine y_top (y := nI (cn (rc S.r) (fun i => decide (rg S.r i 4 = 1)))) (qTt (by decide)) ?_
                      refine y_iload_n hC dL_areRanges_395 (i := 3) rfl rfl ?_
                      refine y_icmp_ne_n (tgt := 414) hC dL_areRanges_396 (by decide) (by omega) (by omega) (fun c_396 => ?_) (fun c_396 => ?_)
                      · first | exact absurd rfl c_396 | (exfalso; omega)
                      · refine y_aload_n hC dL_areRanges_399 (i := 0) rfl rfl ?_
                        refine y_iconst (v := nI 2) hC dL_areRanges_400 (by decide) ?_
                        refine y_callVF hC hL_392.s mX5_total kXL_40 dL_areRanges_401 (b := 0) (As := [.int (nI (2))]) (rest := []) (CPm hL_392.cp (fun sh mk wa hcq => c_X5_total l Ec G_392 S B (by omega) ho sh mk wa hcq (nI (2)))) hL_392.k0 hL_392.a0 rfl rfl rfl (Nat.le_of_ble_eq_true rfl) ⟨Nat.le_of_ble_eq_true rfl, Nat.le_of_ble_eq_true rfl⟩ (pkf_i ?_)
                        rintro r_401 g_401 ⟨hr_401, hc_401⟩
                        rw [hr_401]
                        clear hr_401 r_401
                        have hL_401 := hL_392.call hc_401
                        generalize mrg (eK Ec) g_401 G_392 = G_401 at hL_401  ⊢
                        refine y_top (y := nI (gc S.r)) (qTt (by decide)) ?_
                        refine y_aload_n hC dL_areRanges_404 (i := 2) rfl rfl ?_
                        refine y_iconst (v := nI 0) hC dL_areRanges_405 (by decide) ?_
                        refine y_iald hC dL_areRanges_406 (k := 102) (j := 0) (by have := hL_401.k; omega) hL_401.a102 (rfl) (by omega) (by decide) ?_
                        refine y_top (y := nI (gc S.r)) (hg.n) ?_
                        refine y_icmp_ne_n (tgt := 414) hC dL_areRanges_407 (by decide) (by omega) (by omega) (fun c_407 => ?_) (fun c_407 => ?_)
                        · first | exact absurd rfl c_407 | (exfalso; omega)
                        · refine y_iconst (v := nI 1) hC dL_areRanges_410 (by decide) ?_
                          refine y_goto (tgt := 415) hC dL_areRanges_411 (by decide) ?_
                          refine y_istore hC dL_areRanges_415 (Nat.le_of_ble_eq_true rfl) rfl (lo' := [some (rf E (0)), some (rf E (101)), some (rf E (102)), some (.int (nI (cn (rc S.r) (fun i => decide (rg S.r i 4 = 1))))), some (.int (nI (sm (rc S.r) (fun i => nP S.r i)))), some (.int (nI (1))), some (.int (nI (gc S.r))), none]) rfl ?_
                          refine y_iload hC dL_areRanges_417 rfl ?_
                          refine y_if_eq_n (tgt := 458) hC dL_areRanges_419 (by decide) (by omega) (fun c_419 => ?_) (fun c_419 => ?_)
                          · exfalso
                            omega
                          · refine y_aload_n hC dL_areRanges_422 (i := 0) rfl rfl ?_
                            refine y_iconst (v := nI 3) hC dL_areRanges_423 (by decide) ?_
                            refine y_callVF hC hL_401.s mX5_total kXL_40 dL_areRanges_424 (b := 0) (As := [.int (nI (3))]) (rest := []) (CPm hL_401.cp (fun sh mk wa hcq => c_X5_total l Ec G_401 S B (by omega) ho sh mk wa hcq (nI (3)))) hL_401.k0 hL_401.a0 rfl rfl rfl (Nat.le_of_ble_eq_true rfl) ⟨Nat.le_of_ble_eq_true rfl, Nat.le_of_ble_eq_true rfl⟩ (pkf_i ?_)
                            rintro r_424 g_424 ⟨hr_424, hc_424⟩
                            rw [hr_424]
                            clear hr_424 r_424
                            have hL_424 := hL_401.call hc_424
                            generalize mrg (eK Ec) g_424 G_401 = G_424 at hL_424  ⊢
                            refine y_top (y := (S.r 156)) (qTt (by decide)) ?_
                            refine y_aload_n hC dL_areRanges_427 (i := 2) rfl rfl ?_
                            refine y_iconst (v := nI 1) hC dL_areRanges_428 (by decide) ?_
                            refine y_iald hC dL_areRanges_429 (k := 102) (j := 1) (by have := hL_424.k; omega) hL_424.a102 (rfl) (by omega) (by decide) ?_
                            refine y_top (y := (S.r 156)) (hg.t) ?_
                            refine y_icmp_ne (tgt := 458) hC dL_areRanges_430 (by decide) (fun c_430 => ?_) (fun c_430 => ?_)
                            · first | exact absurd rfl c_430 | (exfalso; omega)
                            · refine y_aload_n hC dL_areRanges_433 (i := 0) rfl rfl ?_
                              refine y_iconst (v := nI 4) hC dL_areRanges_434 (by decide) ?_
                              refine y_callVF hC hL_424.s mX5_total kXL_40 dL_areRanges_435 (b := 0) (As := [.int (nI (4))]) (rest := []) (CPm hL_424.cp (fun sh mk wa hcq => c_X5_total l Ec G_424 S B (by omega) ho sh mk wa hcq (nI (4)))) hL_424.k0 hL_424.a0 rfl rfl rfl (Nat.le_of_ble_eq_true rfl) ⟨Nat.le_of_ble_eq_true rfl, Nat.le_of_ble_eq_true rfl⟩ (pkf_i ?_)
                              rintro r_435 g_435 ⟨hr_435, hc_435⟩
                              rw [hr_435]
                              clear hr_435 r_435
                              have hL_435 := hL_424.call hc_435
                              generalize mrg (eK Ec) g_435 G_424 = G_435 at hL_435  ⊢
                              refine y_top (y := (S.r 157)) (qTt (by decide)) ?_
                              refine y_aload_n hC dL_areRanges_438 (i := 2) rfl rfl ?_
                              refine y_iconst (v := nI 2) hC dL_areRanges_439 (by decide) ?_
                              refine y_iald hC dL_areRanges_440 (k := 102) (j := 2) (by have := hL_435.k; omega) hL_435.a102 (rfl) (by omega) (by decide) ?_
                              refine y_top (y := (S.r 157)) (hg.s) ?_
                              refine y_icmp_ne (tgt := 458) hC dL_areRanges_441 (by decide) (fun c_441 => ?_) (fun c_441 => ?_)
                              · first | exact absurd rfl c_441 | (exfalso; omega)
                              · refine y_aload_n hC dL_areRanges_444 (i := 0) rfl rfl ?_
                                refine y_iconst (v := nI 5) hC dL_areRanges_445 (by decide) ?_
                                refine y_callVF hC hL_435.s mX5_total kXL_40 dL_areRanges_446 (b := 0) (As := [.int (nI (5))]) (rest := []) (CPm hL_435.cp (fun sh mk wa hcq => c_X5_total l Ec G_435 S B (by omega) ho sh mk wa hcq (nI (5)))) hL_435.k0 hL_435.a0 rfl rfl rfl (Nat.le_of_ble_eq_true rfl) ⟨Nat.le_of_ble_eq_true rfl, Nat.le_of_ble_eq_true rfl⟩ (pkf_i ?_)
                                rintro r_446 g_446 ⟨hr_446, hc_446⟩
                                rw [hr_446]
                                clear hr_446 r_446
                                have hL_446 := hL_435.call hc_446
                                generalize mrg (eK Ec) g_446 G_435 = G_446 at hL_446  ⊢
                                refine y_top (y := nI (sm (rc S.r) (fun i => nP S.r i))) (qTt (by decide)) ?_
                                refine y_iload hC dL_areRanges_449 rfl ?_
                                refine y_icmp_ne_n (tgt := 458) hC dL_areRanges_451 (by decide) (by omega) (by omega) (fun c_451 => ?_) (fun c_451 => ?_)
                                · first | exact absurd rfl c_451 | (exfalso; omega)
                                · refine y_iconst (v := nI 1) hC dL_areRanges_454 (by decide) ?_
                                  refine y_goto (tgt := 459) hC dL_areRanges_455 (by decide) ?_
                                  refine y_zret (hrt := rfl) (hn := rfl) (hC := hC) (hd := dL_areRanges_459) (hq := ?_)
                                  exact ⟨rfl, hL_446⟩
            · have hkk : k < gc S.r := by omega
              obtain ⟨w1, w2, w3, w4, w5⟩ := hv.gl hkk
              have hst := stN_le (gl S.r k 2) (gl S.r k 3) 0
              refine y_iload hC dL_areRanges_233 rfl ?_
              refine y_if_eq_n (tgt := 349) hC dL_areRanges_235 (by decide) (by omega) (fun c_235 => ?_) (fun c_235 => ?_)
              · exfalso
                omega
              · refine y_iconst (v := nI 4) hC dL_areRanges_238 (by decide) ?_
                refine y_iconst (v := nI 4) hC dL_areRanges_239 (by decide) ?_
                refine y_iload hC dL_areRanges_240 rfl ?_
                refine y_imul_n hC dL_areRanges_242 ?_
                refine y_iadd_n hC dL_areRanges_243 ?_
                refine y_istore hC dL_areRanges_244 (Nat.le_of_ble_eq_true rfl) rfl (lo' := [some (rf E (0)), some (rf E (101)), some (rf E (102)), some (.int (nI (cn (rc S.r) (fun i => decide (rg S.r i 4 = 1))))), some (.int (nI (sm (rc S.r) (fun i => nP S.r i)))), some (.int (nI (1))), some (.int (nI (k))), some (.int (nI (4 + (4 * k))))]) rfl ?_
                refine y_aload_n hC dL_areRanges_246 (i := 0) rfl rfl ?_
                refine y_iload hC dL_areRanges_247 rfl ?_
                refine y_iconst (v := nI 0) hC dL_areRanges_249 (by decide) ?_
                refine y_callVF hC hL.s mX5_glow kXL_37 dL_areRanges_250 (b := 0) (As := [.int (nI (k)), .int (nI (0))]) (rest := []) (CPm hL.cp (fun sh mk wa hcq => c_X5_glow l Ec gg S B (by omega) ho sh mk wa hcq (nI (k)) (nI (0)))) hL.k0 hL.a0 rfl rfl rfl (Nat.le_of_ble_eq_true rfl) ⟨Nat.le_of_ble_eq_true rfl, Nat.le_of_ble_eq_true rfl⟩ (pkf_i ?_)
                rintro r_250 g_250 ⟨hr_250, hc_250⟩
                rw [hr_250]
                clear hr_250 r_250
                have hL_250 := hL.call hc_250
                generalize mrg (eK Ec) g_250 gg = G_250 at hL_250  ⊢
                refine y_top (y := nI (gl S.r k 0)) ((qGl0 ho hkk (by decide)).trans w1.1) ?_
                refine y_aload_n hC dL_areRanges_253 (i := 2) rfl rfl ?_
                refine y_iload hC dL_areRanges_254 rfl ?_
                refine y_iald hC dL_areRanges_256 (k := 102) (j := 4 + (4 * k)) (by have := hL_250.k; omega) hL_250.a102 (rfl) (by omega) (by decide) ?_
                refine y_top (y := nI (gl S.r k 0)) (hg.f0 hkk) ?_
                refine y_icmp_ne_n (tgt := 340) hC dL_areRanges_257 (by decide) (by omega) (by omega) (fun c_257 => ?_) (fun c_257 => ?_)
                · first | exact absurd rfl c_257 | (exfalso; omega)
                · refine y_aload_n hC dL_areRanges_260 (i := 0) rfl rfl ?_
                  refine y_iload hC dL_areRanges_261 rfl ?_
                  refine y_iconst (v := nI 1) hC dL_areRanges_263 (by decide) ?_
                  refine y_callVF hC hL_250.s mX5_glow kXL_37 dL_areRanges_264 (b := 0) (As := [.int (nI (k)), .int (nI (1))]) (rest := []) (CPm hL_250.cp (fun sh mk wa hcq => c_X5_glow l Ec G_250 S B (by omega) ho sh mk wa hcq (nI (k)) (nI (1)))) hL_250.k0 hL_250.a0 rfl rfl rfl (Nat.le_of_ble_eq_true rfl) ⟨Nat.le_of_ble_eq_true rfl, Nat.le_of_ble_eq_true rfl⟩ (pkf_i ?_)
                  rintro r_264 g_264 ⟨hr_264, hc_264⟩
                  rw [hr_264]
                  clear hr_264 r_264
                  have hL_264 := hL_250.call hc_264
                  generalize mrg (eK Ec) g_264 G_250 = G_264 at hL_264  ⊢
                  refine y_top (y := (S.r (76 + 4 * k + 1))) (qGl0 ho hkk (by decide)) ?_
                  refine y_aload_n hC dL_areRanges_267 (i := 2) rfl rfl ?_
                  refine y_iload hC dL_areRanges_268 rfl ?_
                  refine y_iconst (v := nI 1) hC dL_areRanges_270 (by decide) ?_
                  refine y_iadd_n hC dL_areRanges_271 ?_
                  refine y_iald hC dL_areRanges_272 (k := 102) (j := (4 + (4 * k)) + 1) (by have := hL_264.k; omega) hL_264.a102 (rfl) (by omega) (by decide) ?_
                  refine y_top (y := (S.r (76 + 4 * k + 1))) (hg.f1 hkk) ?_
                  refine y_icmp_ne (tgt := 340) hC dL_areRanges_273 (by decide) (fun c_273 => ?_) (fun c_273 => ?_)
                  · first | exact absurd rfl c_273 | (exfalso; omega)
                  · refine y_aload_n hC dL_areRanges_276 (i := 0) rfl rfl ?_
                    refine y_iload hC dL_areRanges_277 rfl ?_
                    refine y_iconst (v := nI 2) hC dL_areRanges_279 (by decide) ?_
                    refine y_callVF hC hL_264.s mX5_glow kXL_37 dL_areRanges_280 (b := 0) (As := [.int (nI (k)), .int (nI (2))]) (rest := []) (CPm hL_264.cp (fun sh mk wa hcq => c_X5_glow l Ec G_264 S B (by omega) ho sh mk wa hcq (nI (k)) (nI (2)))) hL_264.k0 hL_264.a0 rfl rfl rfl (Nat.le_of_ble_eq_true rfl) ⟨Nat.le_of_ble_eq_true rfl, Nat.le_of_ble_eq_true rfl⟩ (pkf_i ?_)
                    rintro r_280 g_280 ⟨hr_280, hc_280⟩
                    rw [hr_280]
                    clear hr_280 r_280
                    have hL_280 := hL_264.call hc_280
                    generalize mrg (eK Ec) g_280 G_264 = G_280 at hL_280  ⊢
                    refine y_top (y := nI (gl S.r k 2)) ((qGl0 ho hkk (by decide)).trans w1.2.1) ?_
                    refine y_aload_n hC dL_areRanges_283 (i := 2) rfl rfl ?_
                    refine y_iload hC dL_areRanges_284 rfl ?_
                    refine y_iconst (v := nI 2) hC dL_areRanges_286 (by decide) ?_
                    refine y_iadd_n hC dL_areRanges_287 ?_
                    refine y_iald hC dL_areRanges_288 (k := 102) (j := (4 + (4 * k)) + 2) (by have := hL_280.k; omega) hL_280.a102 (rfl) (by omega) (by decide) ?_
                    refine y_top (y := nI (gl S.r k 2)) (hg.f2 hkk) ?_
                    refine y_icmp_ne_n (tgt := 340) hC dL_areRanges_289 (by decide) (by omega) (by omega) (fun c_289 => ?_) (fun c_289 => ?_)
                    · first | exact absurd rfl c_289 | (exfalso; omega)
                    · refine y_aload_n hC dL_areRanges_292 (i := 0) rfl rfl ?_
                      refine y_iload hC dL_areRanges_293 rfl ?_
                      refine y_iconst (v := nI 3) hC dL_areRanges_295 (by decide) ?_
                      refine y_callVF hC hL_280.s mX5_glow kXL_37 dL_areRanges_296 (b := 0) (As := [.int (nI (k)), .int (nI (3))]) (rest := []) (CPm hL_280.cp (fun sh mk wa hcq => c_X5_glow l Ec G_280 S B (by omega) ho sh mk wa hcq (nI (k)) (nI (3)))) hL_280.k0 hL_280.a0 rfl rfl rfl (Nat.le_of_ble_eq_true rfl) ⟨Nat.le_of_ble_eq_true rfl, Nat.le_of_ble_eq_true rfl⟩ (pkf_i ?_)
                      rintro r_296 g_296 ⟨hr_296, hc_296⟩
                      rw [hr_296]
                      clear hr_296 r_296
                      have hL_296 := hL_280.call hc_296
                      generalize mrg (eK Ec) g_296 G_280 = G_296 at hL_296  ⊢
                      refine y_top (y := nI (gl S.r k 3)) ((qGl0 ho hkk (by decide)).trans w1.2.2) ?_
                      refine y_aload_n hC dL_areRanges_299 (i := 2) rfl rfl ?_
                      refine y_iload hC dL_areRanges_300 rfl ?_
                      refine y_iconst (v := nI 3) hC dL_areRanges_302 (by decide) ?_
                      refine y_iadd_n hC dL_areRanges_303 ?_
                      refine y_iald hC dL_areRanges_304 (k := 102) (j := (4 + (4 * k)) + 3) (by have := hL_296.k; omega) hL_296.a102 (rfl) (by omega) (by decide) ?_
                      refine y_top (y := nI (gl S.r k 3)) (hg.f3 hkk) ?_
                      refine y_icmp_ne_n (tgt := 340) hC dL_areRanges_305 (by decide) (by omega) (by omega) (fun c_305 => ?_) (fun c_305 => ?_)
                      · first | exact absurd rfl c_305 | (exfalso; omega)
                      · refine y_aload_n hC dL_areRanges_308 (i := 0) rfl rfl ?_
                        refine y_iload hC dL_areRanges_309 rfl ?_
                        refine y_iconst (v := nI 4) hC dL_areRanges_311 (by decide) ?_
                        refine y_callVF hC hL_296.s mX5_glow kXL_37 dL_areRanges_312 (b := 0) (As := [.int (nI (k)), .int (nI (4))]) (rest := []) (CPm hL_296.cp (fun sh mk wa hcq => c_X5_glow l Ec G_296 S B (by omega) ho sh mk wa hcq (nI (k)) (nI (4)))) hL_296.k0 hL_296.a0 rfl rfl rfl (Nat.le_of_ble_eq_true rfl) ⟨Nat.le_of_ble_eq_true rfl, Nat.le_of_ble_eq_true rfl⟩ (pkf_i ?_)
                        rintro r_312 g_312 ⟨hr_312, hc_312⟩
                        rw [hr_312]
                        clear hr_312 r_312
                        have hL_312 := hL_296.call hc_312
                        generalize mrg (eK Ec) g_312 G_296 = G_312 at hL_312  ⊢
                        refine y_top (y := nI (stN (gl S.r k 2) (gl S.r k 3) 0)) (qGl4 ho hkk) ?_
                        refine y_aload_n hC dL_areRanges_315 (i := 2) rfl rfl ?_
                        refine y_iload hC dL_areRanges_316 rfl ?_
                        refine y_callS hC mL_strength kXL_24 dL_areRanges_318 (As := [rf E (102), .int (nI (4 + (4 * k)))]) (rest := [.int (nI (stN (gl S.r k 2) (gl S.r k 3) 0))]) (c_L_strength l E G_312 102 (by have := hL_312.k; omega) h hL_312.a102 (4 + 4 * k) (by omega) (gl S.r k 2) (gl S.r k 3) (hg.f2 hkk) (hg.f3 hkk) (by omega) (by omega) (by omega)) rfl rfl rfl (Nat.le_of_ble_eq_true rfl) ⟨Nat.le_of_ble_eq_true rfl, Nat.le_of_ble_eq_true rfl⟩ (pk_i ?_)
                        rintro r_318 g_318 ⟨hr_318, hq_318⟩
                        obtain rfl := hq_318.symm
                        rw [hr_318]
                        clear hr_318 r_318
                        refine y_icmp_ne_n (tgt := 340) hC dL_areRanges_321 (by decide) (by omega) (by omega) (fun c_321 => ?_) (fun c_321 => ?_)
                        · first | exact absurd rfl c_321 | (exfalso; omega)
                        · refine y_aload_n hC dL_areRanges_324 (i := 0) rfl rfl ?_
                          refine y_iload hC dL_areRanges_325 rfl ?_
                          refine y_iconst (v := nI 5) hC dL_areRanges_327 (by decide) ?_
                          refine y_callVF hC hL_312.s mX5_glow kXL_37 dL_areRanges_328 (b := 0) (As := [.int (nI (k)), .int (nI (5))]) (rest := []) (CPm hL_312.cp (fun sh mk wa hcq => c_X5_glow l Ec G_312 S B (by omega) ho sh mk wa hcq (nI (k)) (nI (5)))) hL_312.k0 hL_312.a0 rfl rfl rfl (Nat.le_of_ble_eq_true rfl) ⟨Nat.le_of_ble_eq_true rfl, Nat.le_of_ble_eq_true rfl⟩ (pkf_i ?_)
                          rintro r_328 g_328 ⟨hr_328, hc_328⟩
                          rw [hr_328]
                          clear hr_328 r_328
                          have hL_328 := hL_312.call hc_328
                          generalize mrg (eK Ec) g_328 G_312 = G_328 at hL_328  ⊢
                          refine y_top (y := ((-2))) (qGl5 ho hkk) ?_
                          refine y_bipush (v := (-2)) hC dL_areRanges_331 (by decide) ?_
                          refine y_icmp_ne (tgt := 340) hC dL_areRanges_333 (by decide) (fun c_333 => ?_) (fun c_333 => ?_)
                          · first | exact absurd rfl c_333 | (exfalso; omega)
                          · refine y_iconst (v := nI 1) hC dL_areRanges_336 (by decide) ?_
                            refine y_goto (tgt := 341) hC dL_areRanges_337 (by decide) ?_
                            refine y_istore hC dL_areRanges_341 (Nat.le_of_ble_eq_true rfl) rfl (lo' := [some (rf E (0)), some (rf E (101)), some (rf E (102)), some (.int (nI (cn (rc S.r) (fun i => decide (rg S.r i 4 = 1))))), some (.int (nI (sm (rc S.r) (fun i => nP S.r i)))), some (.int (nI (1))), some (.int (nI (k))), some (.int (nI (4 + (4 * k))))]) rfl ?_
                            refine y_iinc_n hC dL_areRanges_343 (a := k) (k := 1) rfl (by decide) (Nat.le_of_ble_eq_true rfl) rfl (lo' := [some (rf E (0)), some (rf E (101)), some (rf E (102)), some (.int (nI (cn (rc S.r) (fun i => decide (rg S.r i 4 = 1))))), some (.int (nI (sm (rc S.r) (fun i => nP S.r i)))), some (.int (nI (1))), some (.int (nI (k + 1))), some (.int (nI (4 + (4 * k))))]) rfl ?_
                            refine y_goto (tgt := 225) hC dL_areRanges_346 (by decide) ?_
                            refine y_fg 7 (lo' := [some (rf E (0)), some (rf E (101)), some (rf E (102)), some (.int (nI (cn (rc S.r) (fun i => decide (rg S.r i 4 = 1))))), some (.int (nI (sm (rc S.r) (fun i => nP S.r i)))), some (.int (nI (1))), some (.int (nI (k + 1))), none]) rfl ?_
                            exact ih_225 (k + 1) G_328 (by omega) (by omega) hL_328
        exact L_225 (gc S.r + 1) 0 gg (by omega) (by omega) hL
      · have hkk : k < rc S.r := by omega
        obtain ⟨q1, q2, q3, q4, q5, q6, q7, q8, q9⟩ := hv.rg hkk
        have hn2 := nP_b hv hkk
        have hn3 := nP_l hv hkk
        have hl := hq.le hkk
        have htu := tnN_lt (n := nP S.r k) (wy := rg S.r k 3) (m := rg S.r k 6) hn2.1
        rw [← tu0 hv hkk] at htu
        have hrb := cn_le k (fun i => decide (rg S.r i 4 = 1))
        have hib := nP_sum hv (k := k) (by omega)
        refine y_iload hC dL_areRanges_19 rfl ?_
        refine y_if_eq_n (tgt := 222) hC dL_areRanges_21 (by decide) (by omega) (fun c_21 => ?_) (fun c_21 => ?_)
        · exfalso
          omega
        · refine y_bipush (v := nI 8) hC dL_areRanges_24 (by decide) ?_
          refine y_bipush (v := nI 8) hC dL_areRanges_26 (by decide) ?_
          refine y_iload hC dL_areRanges_28 rfl ?_
          refine y_imul_n hC dL_areRanges_30 ?_
          refine y_iadd_n hC dL_areRanges_31 ?_
          refine y_istore hC dL_areRanges_32 (Nat.le_of_ble_eq_true rfl) rfl (lo' := [some (rf E (0)), some (rf E (101)), some (rf E (102)), some (.int (nI (cn k (fun i => decide (rg S.r i 4 = 1))))), some (.int (nI (sm k (fun i => nP S.r i)))), some (.int (nI (1))), some (.int (nI (k))), some (.int (nI (8 + (8 * k))))]) rfl ?_
          refine y_iload_n hC dL_areRanges_34 (i := 3) rfl rfl ?_
          refine y_aload_n hC dL_areRanges_35 (i := 1) rfl rfl ?_
          refine y_iload hC dL_areRanges_36 rfl ?_
          refine y_iconst (v := nI 4) hC dL_areRanges_38 (by decide) ?_
          refine y_iadd_n hC dL_areRanges_39 ?_
          refine y_iald hC dL_areRanges_40 (k := 101) (j := (8 + (8 * k)) + 4) (by have := hL.k; omega) hL.a101 (rfl) (by omega) (by decide) ?_
          refine y_top (y := nI (rg S.r k 4)) (hq.f4 hkk) ?_
          refine y_iadd_n hC dL_areRanges_41 ?_
          refine y_top (y := nI (cn (k + 1) (fun i => decide (rg S.r i 4 = 1)))) (congrArg nI (by rw [cn_s]; by_cases e : rg S.r k 4 = 1; (rw [if_pos (by simpa using e), e]); (rw [if_neg (by simpa using e)]; omega))) ?_
          refine y_istore_n hC dL_areRanges_42 (i := 3) rfl (Nat.le_of_ble_eq_true rfl) rfl (lo' := [some (rf E (0)), some (rf E (101)), some (rf E (102)), some (.int (nI (cn (k + 1) (fun i => decide (rg S.r i 4 = 1))))), some (.int (nI (sm k (fun i => nP S.r i)))), some (.int (nI (1))), some (.int (nI (k))), some (.int (nI (8 + (8 * k))))]) rfl ?_
          refine y_iload hC dL_areRanges_43 rfl ?_
          refine y_aload_n hC dL_areRanges_45 (i := 1) rfl rfl ?_
          refine y_iload hC dL_areRanges_46 rfl ?_
          refine y_iconst (v := nI 1) hC dL_areRanges_48 (by decide) ?_
          refine y_iadd_n hC dL_areRanges_49 ?_
          refine y_iald hC dL_areRanges_50 (k := 101) (j := (8 + (8 * k)) + 1) (by have := hL.k; omega) hL.a101 (rfl) (by omega) (by decide) ?_
          refine y_top (y := nI (nP S.r k)) (hq.f1 hkk) ?_
          refine y_iadd_n hC dL_areRanges_51 ?_
          refine y_top (y := nI (sm (k + 1) (fun i => nP S.r i))) (rfl) ?_
          refine y_istore hC dL_areRanges_52 (Nat.le_of_ble_eq_true rfl) rfl (lo' := [some (rf E (0)), some (rf E (101)), some (rf E (102)), some (.int (nI (cn (k + 1) (fun i => decide (rg S.r i 4 = 1))))), some (.int (nI (sm (k + 1) (fun i => nP S.r i)))), some (.int (nI (1))), some (.int (nI (k))), some (.int (nI (8 + (8 * k))))]) rfl ?_
          refine y_aload_n hC dL_areRanges_54 (i := 0) rfl rfl ?_
          refine y_iload hC dL_areRanges_55 rfl ?_
          refine y_iconst (v := nI 0) hC dL_areRanges_57 (by decide) ?_
          refine y_callVF hC hL.s mX5_range kXL_31 dL_areRanges_58 (b := 0) (As := [.int (nI (k)), .int (nI (0))]) (rest := []) (CPm hL.cp (fun sh mk wa hcq => c_X5_range l Ec gg S B (by omega) ho sh mk wa hcq (nI (k)) (nI (0)))) hL.k0 hL.a0 rfl rfl rfl (Nat.le_of_ble_eq_true rfl) ⟨Nat.le_of_ble_eq_true rfl, Nat.le_of_ble_eq_true rfl⟩ (pkf_i ?_)
          rintro r_58 g_58 ⟨hr_58, hc_58⟩
          rw [hr_58]
          clear hr_58 r_58
          have hL_58 := hL.call hc_58
          generalize mrg (eK Ec) g_58 gg = G_58 at hL_58  ⊢
          refine y_top (y := nI (rg S.r k 0)) (qRg ho hkk (by decide)) ?_
          refine y_aload_n hC dL_areRanges_61 (i := 1) rfl rfl ?_
          refine y_iload hC dL_areRanges_62 rfl ?_
          refine y_iald hC dL_areRanges_64 (k := 101) (j := 8 + (8 * k)) (by have := hL_58.k; omega) hL_58.a101 (rfl) (by omega) (by decide) ?_
          refine y_top (y := nI (rg S.r k 0)) (hq.f0 hkk) ?_
          refine y_icmp_ne_n (tgt := 213) hC dL_areRanges_65 (by decide) (by omega) (by omega) (fun c_65 => ?_) (fun c_65 => ?_)
          · first | exact absurd rfl c_65 | (exfalso; omega)
          · refine y_aload_n hC dL_areRanges_68 (i := 0) rfl rfl ?_
            refine y_iload hC dL_areRanges_69 rfl ?_
            refine y_iconst (v := nI 1) hC dL_areRanges_71 (by decide) ?_
            refine y_callVF hC hL_58.s mX5_range kXL_31 dL_areRanges_72 (b := 0) (As := [.int (nI (k)), .int (nI (1))]) (rest := []) (CPm hL_58.cp (fun sh mk wa hcq => c_X5_range l Ec G_58 S B (by omega) ho sh mk wa hcq (nI (k)) (nI (1)))) hL_58.k0 hL_58.a0 rfl rfl rfl (Nat.le_of_ble_eq_true rfl) ⟨Nat.le_of_ble_eq_true rfl, Nat.le_of_ble_eq_true rfl⟩ (pkf_i ?_)
            rintro r_72 g_72 ⟨hr_72, hc_72⟩
            rw [hr_72]
            clear hr_72 r_72
            have hL_72 := hL_58.call hc_72
            generalize mrg (eK Ec) g_72 G_58 = G_72 at hL_72  ⊢
            refine y_top (y := nI (rg S.r k 1)) (qRg ho hkk (by decide)) ?_
            refine y_aload_n hC dL_areRanges_75 (i := 1) rfl rfl ?_
            refine y_iload hC dL_areRanges_76 rfl ?_
            refine y_iald hC dL_areRanges_78 (k := 101) (j := 8 + (8 * k)) (by have := hL_72.k; omega) hL_72.a101 (rfl) (by omega) (by decide) ?_
            refine y_top (y := nI (rg S.r k 0)) (hq.f0 hkk) ?_
            refine y_aload_n hC dL_areRanges_79 (i := 1) rfl rfl ?_
            refine y_iload hC dL_areRanges_80 rfl ?_
            refine y_iconst (v := nI 1) hC dL_areRanges_82 (by decide) ?_
            refine y_iadd_n hC dL_areRanges_83 ?_
            refine y_iald hC dL_areRanges_84 (k := 101) (j := (8 + (8 * k)) + 1) (by have := hL_72.k; omega) hL_72.a101 (rfl) (by omega) (by decide) ?_
            refine y_top (y := nI (nP S.r k)) (hq.f1 hkk) ?_
            refine y_iadd_n hC dL_areRanges_85 ?_
            refine y_iconst (v := nI 1) hC dL_areRanges_86 (by decide) ?_
            refine y_isub_n hC dL_areRanges_87 (by omega) ?_
            refine y_icmp_ne_n (tgt := 213) hC dL_areRanges_88 (by decide) (by omega) (by omega) (fun c_88 => ?_) (fun c_88 => ?_)
            · first | exact absurd rfl c_88 | (exfalso; omega)
            · refine y_aload_n hC dL_areRanges_91 (i := 0) rfl rfl ?_
              refine y_iload hC dL_areRanges_92 rfl ?_
              refine y_iconst (v := nI 2) hC dL_areRanges_94 (by decide) ?_
              refine y_callVF hC hL_72.s mX5_range kXL_31 dL_areRanges_95 (b := 0) (As := [.int (nI (k)), .int (nI (2))]) (rest := []) (CPm hL_72.cp (fun sh mk wa hcq => c_X5_range l Ec G_72 S B (by omega) ho sh mk wa hcq (nI (k)) (nI (2)))) hL_72.k0 hL_72.a0 rfl rfl rfl (Nat.le_of_ble_eq_true rfl) ⟨Nat.le_of_ble_eq_true rfl, Nat.le_of_ble_eq_true rfl⟩ (pkf_i ?_)
              rintro r_95 g_95 ⟨hr_95, hc_95⟩
              rw [hr_95]
              clear hr_95 r_95
              have hL_95 := hL_72.call hc_95
              generalize mrg (eK Ec) g_95 G_72 = G_95 at hL_95  ⊢
              refine y_top (y := nI (rg S.r k 2)) (qRg ho hkk (by decide)) ?_
              refine y_aload_n hC dL_areRanges_98 (i := 1) rfl rfl ?_
              refine y_iload hC dL_areRanges_99 rfl ?_
              refine y_iconst (v := nI 2) hC dL_areRanges_101 (by decide) ?_
              refine y_iadd_n hC dL_areRanges_102 ?_
              refine y_iald hC dL_areRanges_103 (k := 101) (j := (8 + (8 * k)) + 2) (by have := hL_95.k; omega) hL_95.a101 (rfl) (by omega) (by decide) ?_
              refine y_top (y := nI (rg S.r k 2)) (hq.f2 hkk) ?_
              refine y_icmp_ne_n (tgt := 213) hC dL_areRanges_104 (by decide) (by omega) (by omega) (fun c_104 => ?_) (fun c_104 => ?_)
              · first | exact absurd rfl c_104 | (exfalso; omega)
              · refine y_aload_n hC dL_areRanges_107 (i := 0) rfl rfl ?_
                refine y_iload hC dL_areRanges_108 rfl ?_
                refine y_iconst (v := nI 3) hC dL_areRanges_110 (by decide) ?_
                refine y_callVF hC hL_95.s mX5_range kXL_31 dL_areRanges_111 (b := 0) (As := [.int (nI (k)), .int (nI (3))]) (rest := []) (CPm hL_95.cp (fun sh mk wa hcq => c_X5_range l Ec G_95 S B (by omega) ho sh mk wa hcq (nI (k)) (nI (3)))) hL_95.k0 hL_95.a0 rfl rfl rfl (Nat.le_of_ble_eq_true rfl) ⟨Nat.le_of_ble_eq_true rfl, Nat.le_of_ble_eq_true rfl⟩ (pkf_i ?_)
                rintro r_111 g_111 ⟨hr_111, hc_111⟩
                rw [hr_111]
                clear hr_111 r_111
                have hL_111 := hL_95.call hc_111
                generalize mrg (eK Ec) g_111 G_95 = G_111 at hL_111  ⊢
                refine y_top (y := nI (rg S.r k 3)) (qRg ho hkk (by decide)) ?_
                refine y_aload_n hC dL_areRanges_114 (i := 1) rfl rfl ?_
                refine y_iload hC dL_areRanges_115 rfl ?_
                refine y_iconst (v := nI 3) hC dL_areRanges_117 (by decide) ?_
                refine y_iadd_n hC dL_areRanges_118 ?_
                refine y_iald hC dL_areRanges_119 (k := 101) (j := (8 + (8 * k)) + 3) (by have := hL_111.k; omega) hL_111.a101 (rfl) (by omega) (by decide) ?_
                refine y_top (y := nI (rg S.r k 3)) (hq.f3 hkk) ?_
                refine y_icmp_ne_n (tgt := 213) hC dL_areRanges_120 (by decide) (by omega) (by omega) (fun c_120 => ?_) (fun c_120 => ?_)
                · first | exact absurd rfl c_120 | (exfalso; omega)
                · refine y_aload_n hC dL_areRanges_123 (i := 0) rfl rfl ?_
                  refine y_iload hC dL_areRanges_124 rfl ?_
                  refine y_iconst (v := nI 4) hC dL_areRanges_126 (by decide) ?_
                  refine y_callVF hC hL_111.s mX5_range kXL_31 dL_areRanges_127 (b := 0) (As := [.int (nI (k)), .int (nI (4))]) (rest := []) (CPm hL_111.cp (fun sh mk wa hcq => c_X5_range l Ec G_111 S B (by omega) ho sh mk wa hcq (nI (k)) (nI (4)))) hL_111.k0 hL_111.a0 rfl rfl rfl (Nat.le_of_ble_eq_true rfl) ⟨Nat.le_of_ble_eq_true rfl, Nat.le_of_ble_eq_true rfl⟩ (pkf_i ?_)
                  rintro r_127 g_127 ⟨hr_127, hc_127⟩
                  rw [hr_127]
                  clear hr_127 r_127
                  have hL_127 := hL_111.call hc_127
                  generalize mrg (eK Ec) g_127 G_111 = G_127 at hL_127  ⊢
                  refine y_top (y := nI (rg S.r k 4)) (qRg ho hkk (by decide)) ?_
                  refine y_aload_n hC dL_areRanges_130 (i := 1) rfl rfl ?_
                  refine y_iload hC dL_areRanges_131 rfl ?_
                  refine y_iconst (v := nI 4) hC dL_areRanges_133 (by decide) ?_
                  refine y_iadd_n hC dL_areRanges_134 ?_
                  refine y_iald hC dL_areRanges_135 (k := 101) (j := (8 + (8 * k)) + 4) (by have := hL_127.k; omega) hL_127.a101 (rfl) (by omega) (by decide) ?_
                  refine y_top (y := nI (rg S.r k 4)) (hq.f4 hkk) ?_
                  refine y_icmp_ne_n (tgt := 213) hC dL_areRanges_136 (by decide) (by omega) (by omega) (fun c_136 => ?_) (fun c_136 => ?_)
                  · first | exact absurd rfl c_136 | (exfalso; omega)
                  · refine y_aload_n hC dL_areRanges_139 (i := 0) rfl rfl ?_
                    refine y_iload hC dL_areRanges_140 rfl ?_
                    refine y_iconst (v := nI 5) hC dL_areRanges_142 (by decide) ?_
                    refine y_callVF hC hL_127.s mX5_range kXL_31 dL_areRanges_143 (b := 0) (As := [.int (nI (k)), .int (nI (5))]) (rest := []) (CPm hL_127.cp (fun sh mk wa hcq => c_X5_range l Ec G_127 S B (by omega) ho sh mk wa hcq (nI (k)) (nI (5)))) hL_127.k0 hL_127.a0 rfl rfl rfl (Nat.le_of_ble_eq_true rfl) ⟨Nat.le_of_ble_eq_true rfl, Nat.le_of_ble_eq_true rfl⟩ (pkf_i ?_)
                    rintro r_143 g_143 ⟨hr_143, hc_143⟩
                    rw [hr_143]
                    clear hr_143 r_143
                    have hL_143 := hL_127.call hc_143
                    generalize mrg (eK Ec) g_143 G_127 = G_143 at hL_143  ⊢
                    refine y_top (y := nI (rg S.r k 5)) (qRg ho hkk (by decide)) ?_
                    refine y_aload_n hC dL_areRanges_146 (i := 1) rfl rfl ?_
                    refine y_iload hC dL_areRanges_147 rfl ?_
                    refine y_iconst (v := nI 5) hC dL_areRanges_149 (by decide) ?_
                    refine y_iadd_n hC dL_areRanges_150 ?_
                    refine y_iald hC dL_areRanges_151 (k := 101) (j := (8 + (8 * k)) + 5) (by have := hL_143.k; omega) hL_143.a101 (rfl) (by omega) (by decide) ?_
                    refine y_top (y := nI (a k)) (hq.f5 hkk) ?_
                    refine y_aload_n hC dL_areRanges_152 (i := 1) rfl rfl ?_
                    refine y_iload hC dL_areRanges_153 rfl ?_
                    refine y_iconst (v := nI 2) hC dL_areRanges_155 (by decide) ?_
                    refine y_iadd_n hC dL_areRanges_156 ?_
                    refine y_iald hC dL_areRanges_157 (k := 101) (j := (8 + (8 * k)) + 2) (by have := hL_143.k; omega) hL_143.a101 (rfl) (by omega) (by decide) ?_
                    refine y_top (y := nI (rg S.r k 2)) (hq.f2 hkk) ?_
                    refine y_irem_n hC dL_areRanges_158 (by omega) (by omega) (by omega) ?_
                    refine y_top (y := nI (rg S.r k 5)) (congrArg nI (hq.md hkk)) ?_
                    refine y_icmp_ne_n (tgt := 213) hC dL_areRanges_159 (by decide) (by omega) (by omega) (fun c_159 => ?_) (fun c_159 => ?_)
                    · first | exact absurd rfl c_159 | (exfalso; omega)
                    · refine y_aload_n hC dL_areRanges_162 (i := 0) rfl rfl ?_
                      refine y_iload hC dL_areRanges_163 rfl ?_
                      refine y_bipush (v := nI 6) hC dL_areRanges_165 (by decide) ?_
                      refine y_callVF hC hL_143.s mX5_range kXL_31 dL_areRanges_167 (b := 0) (As := [.int (nI (k)), .int (nI (6))]) (rest := []) (CPm hL_143.cp (fun sh mk wa hcq => c_X5_range l Ec G_143 S B (by omega) ho sh mk wa hcq (nI (k)) (nI (6)))) hL_143.k0 hL_143.a0 rfl rfl rfl (Nat.le_of_ble_eq_true rfl) ⟨Nat.le_of_ble_eq_true rfl, Nat.le_of_ble_eq_true rfl⟩ (pkf_i ?_)
                      rintro r_167 g_167 ⟨hr_167, hc_167⟩
                      rw [hr_167]
                      clear hr_167 r_167
                      have hL_167 := hL_143.call hc_167
                      generalize mrg (eK Ec) g_167 G_143 = G_167 at hL_167  ⊢
                      refine y_top (y := nI (rg S.r k 6)) (qRg ho hkk (by decide)) ?_
                      refine y_aload_n hC dL_areRanges_170 (i := 1) rfl rfl ?_
                      refine y_iload hC dL_areRanges_171 rfl ?_
                      refine y_callS hC mL_steps kXL_9 dL_areRanges_173 (As := [rf E (101), .int (nI (8 + (8 * k)))]) (rest := [.int (nI (rg S.r k 6))]) (c_L_steps l E G_167 101 (by have := hL_167.k; omega) r hL_167.a101 (8 + 8 * k) (by omega) (rg S.r k 2) (a k) (K k) (hq.f2 hkk) (hq.f5 hkk) (hq.f6 hkk) (by omega) (by omega) (by omega)) rfl rfl rfl (Nat.le_of_ble_eq_true rfl) ⟨Nat.le_of_ble_eq_true rfl, Nat.le_of_ble_eq_true rfl⟩ (pk_i ?_)
                      rintro r_173 g_173 ⟨hr_173, hq_173⟩
                      obtain rfl := hq_173.symm
                      rw [hr_173]
                      clear hr_173 r_173
                      refine y_top (y := nI (rg S.r k 6)) (congrArg nI (hq.dv hkk)) ?_
                      refine y_icmp_ne_n (tgt := 213) hC dL_areRanges_176 (by decide) (by omega) (by omega) (fun c_176 => ?_) (fun c_176 => ?_)
                      · first | exact absurd rfl c_176 | (exfalso; omega)
                      · refine y_aload_n hC dL_areRanges_179 (i := 0) rfl rfl ?_
                        refine y_iload hC dL_areRanges_180 rfl ?_
                        refine y_bipush (v := nI 7) hC dL_areRanges_182 (by decide) ?_
                        refine y_callVF hC hL_167.s mX5_range kXL_31 dL_areRanges_184 (b := 0) (As := [.int (nI (k)), .int (nI (7))]) (rest := []) (CPm hL_167.cp (fun sh mk wa hcq => c_X5_range l Ec G_167 S B (by omega) ho sh mk wa hcq (nI (k)) (nI (7)))) hL_167.k0 hL_167.a0 rfl rfl rfl (Nat.le_of_ble_eq_true rfl) ⟨Nat.le_of_ble_eq_true rfl, Nat.le_of_ble_eq_true rfl⟩ (pkf_i ?_)
                        rintro r_184 g_184 ⟨hr_184, hc_184⟩
                        rw [hr_184]
                        clear hr_184 r_184
                        have hL_184 := hL_167.call hc_184
                        generalize mrg (eK Ec) g_184 G_167 = G_184 at hL_184  ⊢
                        refine y_top (y := nI (tuN S.r k 0)) (qRg7 ho hkk) ?_
                        refine y_aload_n hC dL_areRanges_187 (i := 1) rfl rfl ?_
                        refine y_iload hC dL_areRanges_188 rfl ?_
                        refine y_callS hC mL_turn kXL_18 dL_areRanges_190 (As := [rf E (101), .int (nI (8 + (8 * k)))]) (rest := [.int (nI (tuN S.r k 0))]) (c_L_turn l E G_184 101 (by have := hL_184.k; omega) r hL_184.a101 (8 + 8 * k) (by omega) (nP S.r k) (rg S.r k 3) (rg S.r k 2) (a k) (K k) (hq.f1 hkk) (hq.f2 hkk) (hq.f3 hkk) (hq.f5 hkk) (hq.f6 hkk) (by omega) (by omega) (by omega) hn2.1 (by omega) (by omega) (by rw [hq.dv hkk]; omega)) rfl rfl rfl (Nat.le_of_ble_eq_true rfl) ⟨Nat.le_of_ble_eq_true rfl, Nat.le_of_ble_eq_true rfl⟩ (pk_i ?_)
                        rintro r_190 g_190 ⟨hr_190, hq_190⟩
                        obtain rfl := hq_190.symm
                        rw [hr_190]
                        clear hr_190 r_190
                        refine y_top (y := nI (tuN S.r k 0)) (congrArg nI (by rw [tu0 hv hkk, hq.dv hkk])) ?_
                        refine y_icmp_ne_n (tgt := 213) hC dL_areRanges_193 (by decide) (by omega) (by omega) (fun c_193 => ?_) (fun c_193 => ?_)
                        · first | exact absurd rfl c_193 | (exfalso; omega)
                        · refine y_aload_n hC dL_areRanges_196 (i := 0) rfl rfl ?_
                          refine y_iload hC dL_areRanges_197 rfl ?_
                          refine y_bipush (v := nI 8) hC dL_areRanges_199 (by decide) ?_
                          refine y_callVF hC hL_184.s mX5_range kXL_31 dL_areRanges_201 (b := 0) (As := [.int (nI (k)), .int (nI (8))]) (rest := []) (CPm hL_184.cp (fun sh mk wa hcq => c_X5_range l Ec G_184 S B (by omega) ho sh mk wa hcq (nI (k)) (nI (8)))) hL_184.k0 hL_184.a0 rfl rfl rfl (Nat.le_of_ble_eq_true rfl) ⟨Nat.le_of_ble_eq_true rfl, Nat.le_of_ble_eq_true rfl⟩ (pkf_i ?_)
                          rintro r_201 g_201 ⟨hr_201, hc_201⟩
                          rw [hr_201]
                          clear hr_201 r_201
                          have hL_201 := hL_184.call hc_201
                          generalize mrg (eK Ec) g_201 G_184 = G_201 at hL_201  ⊢
                          refine y_top (y := ((-2))) (qRg8 ho hkk) ?_
                          refine y_bipush (v := (-2)) hC dL_areRanges_204 (by decide) ?_
                          refine y_icmp_ne (tgt := 213) hC dL_areRanges_206 (by decide) (fun c_206 => ?_) (fun c_206 => ?_)
                          · first | exact absurd rfl c_206 | (exfalso; omega)
                          · refine y_iconst (v := nI 1) hC dL_areRanges_209 (by decide) ?_
                            refine y_goto (tgt := 214) hC dL_areRanges_210 (by decide) ?_
                            refine y_istore hC dL_areRanges_214 (Nat.le_of_ble_eq_true rfl) rfl (lo' := [some (rf E (0)), some (rf E (101)), some (rf E (102)), some (.int (nI (cn (k + 1) (fun i => decide (rg S.r i 4 = 1))))), some (.int (nI (sm (k + 1) (fun i => nP S.r i)))), some (.int (nI (1))), some (.int (nI (k))), some (.int (nI (8 + (8 * k))))]) rfl ?_
                            refine y_iinc_n hC dL_areRanges_216 (a := k) (k := 1) rfl (by decide) (Nat.le_of_ble_eq_true rfl) rfl (lo' := [some (rf E (0)), some (rf E (101)), some (rf E (102)), some (.int (nI (cn (k + 1) (fun i => decide (rg S.r i 4 = 1))))), some (.int (nI (sm (k + 1) (fun i => nP S.r i)))), some (.int (nI (1))), some (.int (nI (k + 1))), some (.int (nI (8 + (8 * k))))]) rfl ?_
                            refine y_goto (tgt := 11) hC dL_areRanges_219 (by decide) ?_
                            refine y_fg 7 (lo' := [some (rf E (0)), some (rf E (101)), some (rf E (102)), some (.int (nI (cn (k + 1) (fun i => decide (rg S.r i 4 = 1))))), some (.int (nI (sm (k + 1) (fun i => nP S.r i)))), some (.int (nI (1))), some (.int (nI (k + 1))), none]) rfl ?_
                            exact ih_11 (k + 1) G_201 (by omega) (by omega) hL_201
  exact L_11 (rc S.r + 1) 0 g (by omega) (by omega) hL

