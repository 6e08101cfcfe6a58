/-! NUMS: the machine's numbers as whole numbers -/
def iZ (z : Int) : Int32 := Int32.ofInt z
def lZ (z : Int) : Int64 := Int64.ofInt z
abbrev r32 (z : Int) : Prop := -2147483648 ≤ z ∧ z < 2147483648
abbrev r64 (z : Int) : Prop := -9223372036854775808 ≤ z ∧ z < 9223372036854775808
theorem iZ_toInt {z : Int} (h : r32 z) : (iZ z).toInt = z := Int32.toInt_ofInt_of_le h.1 h.2
theorem lZ_toInt {z : Int} (h : r64 z) : (lZ z).toInt = z := Int64.toInt_ofInt_of_le h.1 h.2
theorem iZ_of (x : Int32) : iZ x.toInt = x := Int32.ofInt_toInt x
theorem lZ_of (x : Int64) : lZ x.toInt = x := Int64.ofInt_toInt x
theorem r32_of (x : Int32) : r32 x.toInt := ⟨Int32.le_toInt x, Int32.toInt_lt x⟩
theorem r64_of (x : Int64) : r64 x.toInt := ⟨Int64.le_toInt x, Int64.toInt_lt x⟩
theorem iZ_add (a b : Int) : iZ a + iZ b = iZ (a + b) := (Int32.ofInt_add a b).symm
theorem iZ_sub (a b : Int) : iZ a - iZ b = iZ (a - b) := (Int32.ofInt_sub a b).symm
theorem iZ_mul (a b : Int) : iZ a * iZ b = iZ (a * b) := (Int32.ofInt_mul a b).symm
theorem iZ_neg (a : Int) : -iZ a = iZ (-a) := (Int32.ofInt_neg a).symm
theorem lZ_add (a b : Int) : lZ a + lZ b = lZ (a + b) := (Int64.ofInt_add a b).symm
theorem lZ_sub (a b : Int) : lZ a - lZ b = lZ (a - b) := (Int64.ofInt_sub a b).symm
theorem lZ_mul (a b : Int) : lZ a * lZ b = lZ (a * b) := (Int64.ofInt_mul a b).symm
theorem lZ_neg (a : Int) : -lZ a = lZ (-a) := (Int64.ofInt_neg a).symm
theorem iZ_l {z : Int} (h : r32 z) : (iZ z).toInt64 = lZ z := by
  rw [← lZ_of (iZ z).toInt64, Int32.toInt_toInt64, iZ_toInt h]
theorem lZ_i (z : Int) : (lZ z).toInt32 = iZ z := by
  unfold lZ iZ
  simp
theorem iZ_lt {a b : Int} (ha : r32 a) (hb : r32 b) : iZ a < iZ b ↔ a < b := by rw [Int32.lt_iff_toInt_lt, iZ_toInt ha, iZ_toInt hb]
theorem iZ_le {a b : Int} (ha : r32 a) (hb : r32 b) : iZ a ≤ iZ b ↔ a ≤ b := by rw [Int32.le_iff_toInt_le, iZ_toInt ha, iZ_toInt hb]
theorem iZ_eq {a b : Int} (ha : r32 a) (hb : r32 b) : iZ a = iZ b ↔ a = b := ⟨fun h => by rw [← iZ_toInt ha, h, iZ_toInt hb], fun h => by rw [h]⟩
theorem lZ_lt {a b : Int} (ha : r64 a) (hb : r64 b) : lZ a < lZ b ↔ a < b := by rw [Int64.lt_iff_toInt_lt, lZ_toInt ha, lZ_toInt hb]
theorem lZ_le {a b : Int} (ha : r64 a) (hb : r64 b) : lZ a ≤ lZ b ↔ a ≤ b := by rw [Int64.le_iff_toInt_le, lZ_toInt ha, lZ_toInt hb]
theorem lZ_eq {a b : Int} (ha : r64 a) (hb : r64 b) : lZ a = lZ b ↔ a = b := ⟨fun h => by rw [← lZ_toInt ha, h, lZ_toInt hb], fun h => by rw [h]⟩
theorem nI_iZ (k : Nat) : nI k = iZ (k : Int) := rfl
theorem lZ_div {a b : Int} (ha : r64 a) (hb : r64 b) (h1 : 0 < b) : lZ a / lZ b = lZ (a.tdiv b) := by
  rw [← lZ_of (lZ a / lZ b)]
  have : (lZ a / lZ b).toInt = ((lZ a).toInt.tdiv (lZ b).toInt).bmod (2 ^ 64) := Int64.toInt_div _ _
  rw [this, lZ_toInt ha, lZ_toInt hb]
  unfold lZ
  apply Int64.toInt_inj.mp
  rw [Int64.toInt_ofInt, Int64.toInt_ofInt]
  simp
/-- rounded to the nearest, of two the greater -/
def rnd (a b : Int) : Int := (2 * a + b) / (2 * b)
theorem fdiv_of_tdiv (a b : Int) (h : 0 < b) : a / b = if a - a.tdiv b * b < 0 then a.tdiv b - 1 else a.tdiv b := by
  have e1 := Int.mul_tdiv_add_tmod a b
  have h1 := Int.tmod_lt_of_pos a h
  have h2 := Int.lt_tmod_of_pos a h
  have h3 : a - a.tdiv b * b = a.tmod b := by rw [Int.mul_comm (a.tdiv b) b]; omega
  rw [h3]
  split
  · exact ((Int.ediv_emod_unique (r := a.tmod b + b) (q := a.tdiv b - 1) h).mpr ⟨by rw [Int.mul_sub]; omega, by omega, by omega⟩).1
  · exact ((Int.ediv_emod_unique (r := a.tmod b) (q := a.tdiv b) h).mpr ⟨by omega, by omega, by omega⟩).1
theorem l_neg (x : Int64) : (x < 0) ↔ x.toInt < 0 := Int64.lt_iff_toInt_lt
theorem lxor_neg (x y : Int64) (hy : 0 ≤ y.toInt) : (x ^^^ y < 0) ↔ x.toInt < 0 := by
  rw [l_neg]
  have e : ((x ^^^ y).toBitVec.msb) = (x.toBitVec.msb ^^ y.toBitVec.msb) := by
    rw [Int64.toBitVec_xor, BitVec.msb_xor]
  rw [BitVec.msb_eq_toInt, BitVec.msb_eq_toInt, BitVec.msb_eq_toInt] at e
  have e2 : decide ((x ^^^ y).toInt < 0) = (decide (x.toInt < 0) ^^ decide (y.toInt < 0)) := e
  rw [show decide (y.toInt < 0) = false from decide_eq_false (by omega)] at e2
  simp at e2
  exact e2
/-- the root, rounded down, by bits -/
def rtL : Nat → Int → Int → Int
  | 0, r, _ => r
  | n + 1, r, v => rtL n (if (r + 2 ^ n) * (r + 2 ^ n) ≤ v then r + 2 ^ n else r) v
def isq (v : Int) : Int := rtL 31 0 v
theorem rtL_spec (v : Int) : ∀ (n : Nat) (r : Int), 0 ≤ r → r * r ≤ v → 0 ≤ rtL n r v ∧ rtL n r v * rtL n r v ≤ v := by
  intro n
  induction n with
  | zero => intro r h1 h2; exact ⟨h1, h2⟩
  | succ n ih =>
    intro r h1 h2
    unfold rtL
    have hp : (0 : Int) ≤ 2 ^ n := Int.pow_nonneg (by decide)
    split
    · rename_i h; exact ih _ (by omega) h
    · exact ih _ h1 h2
theorem isq_spec {v : Int} (h : 0 ≤ v) : 0 ≤ isq v ∧ isq v * isq v ≤ v := rtL_spec v 31 0 (by decide) h
theorem rtL_32 {v : Int} (h : v < 4611686018427387904) : rtL 32 0 v = isq v := by
  show rtL 31 (if ((0 : Int) + 2 ^ 31) * (0 + 2 ^ 31) ≤ v then 0 + 2 ^ 31 else 0) v = isq v
  rw [if_neg (by omega)]
  rfl
