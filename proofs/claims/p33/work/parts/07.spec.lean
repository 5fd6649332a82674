/-! ===== numbers, and the words of a row ===== -/
abbrev nn (x : Int32) : Nat := x.toNatClampNeg
theorem nn_I {n : Nat} (h : n < 2147483648) : nn (nI n) = n := nI_clamp h
theorem tI {n : Nat} (h : n < 2147483648) : (nI n).toInt = (n : Int) := nI_toInt h
theorem sI {a b : Nat} (ha : a < 1073741824) (hb : b < 1073741824) : (nI a - nI b).toInt = (a : Int) - b := pk_sub_toInt ha hb
theorem zrng (x : Int32) : -2147483648 ≤ x.toInt ∧ x.toInt < 2147483648 := ⟨Int32.le_toInt x, Int32.toInt_lt x⟩
theorem zaddI {x y : Int32} (h1 : -2147483648 ≤ x.toInt + y.toInt) (h2 : x.toInt + y.toInt < 2147483648) : (x + y).toInt = x.toInt + y.toInt := by
  rw [Int32.toInt_add]
  exact Int.bmod_eq_of_le (by omega) (by omega)
theorem zsubI {x y : Int32} (h1 : -2147483648 ≤ x.toInt - y.toInt) (h2 : x.toInt - y.toInt < 2147483648) : (x - y).toInt = x.toInt - y.toInt := by
  rw [Int32.toInt_sub]
  exact Int.bmod_eq_of_le (by omega) (by omega)
theorem zmulI {x y : Int32} (h1 : -2147483648 ≤ x.toInt * y.toInt) (h2 : x.toInt * y.toInt < 2147483648) : (x * y).toInt = x.toInt * y.toInt := by
  rw [Int32.toInt_mul]
  exact Int.bmod_eq_of_le (by omega) (by omega)
theorem zI_of {x : Int32} {n : Nat} (h : x.toInt = (n : Int)) (hn : n < 2147483648) : x = nI n := Int32.toInt_inj.mp (by rw [h, tI hn])
/-- the rest of a division that is rounded towards 0 -/
theorem zrem_toInt {x y : Int32} {k : Nat} (hy : y = nI k) (h0 : 0 < k) (hk : k < 1048576) (h1 : -1073741824 ≤ x.toInt) (h2 : x.toInt < 1073741824) : (x - x / y * y).toInt = x.toInt.tmod k := by
  subst hy
  have ty : (nI k).toInt = (k : Int) := tI (by omega)
  have hne : nI k ≠ -1 := fun q => by
    have := congrArg Int32.toInt q
    rw [ty] at this
    have h3 : (-1 : Int32).toInt = -1 := by decide
    omega
  have hq : (x / nI k).toInt = x.toInt.tdiv k := by rw [Int32.toInt_div_of_ne_right _ _ hne, ty]
  have hd : (k : Int) * x.toInt.tdiv k + x.toInt.tmod k = x.toInt := Int.mul_tdiv_add_tmod _ _
  obtain ⟨b1, b2⟩ := tmod_bounds (a := x.toInt) (M := (k : Int)) (by omega)
  have hm : (x / nI k * nI k).toInt = x.toInt.tdiv k * k := by
    have e := Int.mul_comm (x.toInt.tdiv k) (k : Int)
    have := zmulI (x := x / nI k) (y := nI k) (by rw [hq, ty]; omega) (by rw [hq, ty]; omega)
    rw [this, hq, ty]
  have e := Int.mul_comm (x.toInt.tdiv k) (k : Int)
  have := zsubI (x := x) (y := x / nI k * nI k) (by rw [hm]; omega) (by rw [hm]; omega)
  rw [this, hm]
  omega
theorem zxor_neg (x : Int32) {k : Nat} (hk : k < 2147483648) : (x ^^^ nI k).toInt < 0 ↔ x.toInt < 0 := by
  have e : ∀ z : Int32, z.toInt < 0 ↔ z.toBitVec.msb = true := fun z => by
    rw [BitVec.msb_eq_toInt, decide_eq_true_iff]
    exact Iff.rfl
  have h : (nI k).toBitVec.msb = false := by
    have h1 : ¬ (nI k).toInt < 0 := by rw [tI hk]; omega
    rw [e] at h1
    simpa using h1
  rw [e, e, Int32.toBitVec_xor, BitVec.msb_xor, h]
  simp
/-- of a part of a colour, and of colours between: the machine's own words, as both sides reckon them -/
def cPart (c : Int32) (s : Nat) : Int32 := (c >>> (nI s &&& 31)) &&& nI 63
def cMix1 (a b k n : Int32) : Int32 := a + (b - a) * k / n
def cMix (a b k n : Int32) : Int32 := (cMix1 (cPart a 12) (cPart b 12) k n <<< (nI 12 &&& 31) + cMix1 (cPart a 6) (cPart b 6) k n <<< (nI 6 &&& 31)) + cMix1 (cPart a 0) (cPart b 0) k n
def cDist (a b : Int32) : Int32 := ((cPart a 12 - cPart b 12) * (cPart a 12 - cPart b 12) + (cPart a 6 - cPart b 6) * (cPart a 6 - cPart b 6)) + (cPart a 0 - cPart b 0) * (cPart a 0 - cPart b 0)
abbrev Row : Type := Nat → Int32
/-- how many ranges, glows; what a range, a glow has; a pixel's place -/
def rc (r : Row) : Nat := nn (r 32)
def gc (r : Row) : Nat := nn (r 75)
def rg (r : Row) (i j : Nat) : Nat := nn (r (33 + 7 * i + j))
def gl (r : Row) (i j : Nat) : Nat := nn (r (76 + 4 * i + j))
def px (r : Row) (p : Nat) : Nat := nn (r (92 + p))
/-- full steps, steps made, the turn: of n places, by the way -/
def fsN (n wy : Nat) : Nat := if wy = 2 then 2 * n - 2 else n
def mdN (sp ru ti st t : Nat) : Nat := if ru = 1 then st + (ti + t) / sp else st
def tnN (n wy m : Nat) : Nat := if wy = 1 then (if m % n = 0 then 0 else n - m % n) else if wy = 2 then (if m % (2 * n - 2) < n then m % (2 * n - 2) else 2 * n - 2 - m % (2 * n - 2)) else m % n
/-- the place whose set colour is turned to place p of the range from f with n places -/
def srN (f n p tn : Nat) : Nat := f + (p - f + n - tn) % n
/-- a glow's strength -/
def stN (len ti t : Nat) : Nat := if (ti + t) % (2 * len) ≤ len then (ti + t) % (2 * len) else 2 * len - (ti + t) % (2 * len)
theorem tnN_lt {n wy m : Nat} (hn : 2 ≤ n) : tnN n wy m < n := by
  unfold tnN
  have h1 := Nat.mod_lt m (show 0 < n by omega)
  have h2 := Nat.mod_lt m (show 0 < 2 * n - 2 by omega)
  split
  · split <;> omega
  · split
    · split <;> omega
    · exact h1
theorem srN_in {f n p tn : Nat} (hn : 2 ≤ n) : f ≤ srN f n p tn ∧ srN f n p tn < f + n := by
  unfold srN
  have := Nat.mod_lt (p - f + n - tn) (show 0 < n by omega)
  omega
theorem stN_le (len ti t : Nat) : stN len ti t ≤ len ∨ len = 0 := by
  unfold stN
  by_cases h : len = 0
  · exact Or.inr h
  · have := Nat.mod_lt (ti + t) (show 0 < 2 * len by omega)
    left
    split <;> omega
