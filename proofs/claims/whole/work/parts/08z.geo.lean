/-! GEO: places as whole numbers: where circles meet, how far a place may be -/
abbrev bd (x : Int) : Prop := -100000 ≤ x ∧ x ≤ 100000
theorem mulB {x y A B : Int} (hx : -A ≤ x ∧ x ≤ A) (hy : -B ≤ y ∧ y ≤ B) : -(A * B) ≤ x * y ∧ x * y ≤ A * B := by
  have h1 : 0 ≤ (A - x) * (B - y) := Int.mul_nonneg (by omega) (by omega)
  have h2 : 0 ≤ (A - x) * (B + y) := Int.mul_nonneg (by omega) (by omega)
  have h3 : 0 ≤ (A + x) * (B - y) := Int.mul_nonneg (by omega) (by omega)
  have h4 : 0 ≤ (A + x) * (B + y) := Int.mul_nonneg (by omega) (by omega)
  constructor <;> grind
theorem sqN (x : Int) : 0 ≤ x * x := by
  rcases Int.le_total 0 x with h | h
  · exact Int.mul_nonneg h h
  · have := Int.mul_nonneg (a := -x) (b := -x) (by omega) (by omega); grind
theorem sq_le {x B : Int} (hB : 0 ≤ B) (h : x * x ≤ B * B) : -B ≤ x ∧ x ≤ B := by
  constructor
  · apply Int.le_of_not_gt; intro q
    have : 0 < (-x - B) * (-x + B) := Int.mul_pos (by omega) (by omega)
    grind
  · apply Int.le_of_not_gt; intro q
    have : 0 < (x - B) * (x + B) := Int.mul_pos (by omega) (by omega)
    grind
/-- what is at most n times as large, is at most n when divided and rounded -/
theorem rnd_le {a b n : Int} (hb : 0 < b) (h : -(n * b) ≤ a ∧ a ≤ n * b) : -n ≤ rnd a b ∧ rnd a b ≤ n := by
  unfold rnd
  have e1 : -n * (2 * b) ≤ 2 * a + b := by have := h.1; grind
  have e2 : 2 * a + b < (n + 1) * (2 * b) := by have := h.2; grind
  exact ⟨(Int.le_ediv_iff_mul_le (by omega)).mpr e1, Int.lt_add_one_iff.mp ((Int.ediv_lt_iff_lt_mul (by omega)).mpr e2)⟩
/-- where the circles around A and B meet -/
def foldZ (ax ay bx by_ c d : Int) (lf : Int) : Option (Int × Int) :=
  let dx := bx - ax
  let dy := by_ - ay
  let sq := dx * dx + dy * dy
  if sq = 0 then (if c = d then some (ax + c, ay) else none)
  else if (c + d) * (c + d) < sq then none
  else
    let e := c * c - d * d + sq
    let r := 4 * c * c * sq - e * e
    if r < 0 then none
    else
      let s := if lf = 0 then - isq r else isq r
      some (ax + rnd (dx * e - dy * s) (2 * sq), ay + rnd (dy * e + dx * s) (2 * sq))
theorem fold_aux {dx dy sq c e s : Int} (hsq : sq = dx * dx + dy * dy) (hp : 0 < sq) (hc : 0 ≤ c) (hs : s * s ≤ 4 * c * c * sq - e * e) :
    (-(c * (2 * sq)) ≤ dx * e - dy * s ∧ dx * e - dy * s ≤ c * (2 * sq)) ∧ (-(c * (2 * sq)) ≤ dy * e + dx * s ∧ dy * e + dx * s ≤ c * (2 * sq)) := by
  have id1 : (dx * e - dy * s) * (dx * e - dy * s) + (dy * e + dx * s) * (dy * e + dx * s) = sq * (e * e + s * s) := by rw [hsq]; grind
  have h1 : sq * (e * e + s * s) ≤ sq * (4 * c * c * sq) := Int.mul_le_mul_of_nonneg_left (by omega) (by omega)
  have h2 : sq * (4 * c * c * sq) = (c * (2 * sq)) * (c * (2 * sq)) := by grind
  have h0 : 0 ≤ c * (2 * sq) := Int.mul_nonneg hc (by omega)
  have n1 := sqN (dx * e - dy * s)
  have n2 := sqN (dy * e + dx * s)
  exact ⟨sq_le h0 (by omega), sq_le h0 (by omega)⟩
theorem rnd_shift (a b k : Int) (hb : 0 < b) : rnd (a - k * b) b = rnd a b - k := by
  unfold rnd
  rw [show 2 * (a - k * b) + b = 2 * a + b + (-k) * (2 * b) by grind, Int.add_mul_ediv_right _ _ (by omega)]
  omega
theorem foldZ_bd {ax ay bx by_ c d lf x y : Int} (hc : 0 ≤ c) (hd : 0 ≤ d) (h : foldZ ax ay bx by_ c d lf = some (x, y)) :
    ((-c ≤ x - ax ∧ x - ax ≤ c) ∧ (-c ≤ y - ay ∧ y - ay ≤ c)) ∧ ((-d ≤ x - bx ∧ x - bx ≤ d) ∧ (-d ≤ y - by_ ∧ y - by_ ≤ d)) := by
  unfold foldZ at h
  simp only at h
  generalize hdx : bx - ax = dx at h
  generalize hdy : by_ - ay = dy at h
  generalize hsq : dx * dx + dy * dy = sq at h
  have n1 := sqN dx
  have n2 := sqN dy
  split at h
  · rename_i h0
    split at h
    · rename_i h1
      simp only [Option.some.injEq, Prod.mk.injEq] at h
      obtain ⟨rfl, rfl⟩ := h
      have z1 : dx * dx = 0 := by omega
      have z2 : dy * dy = 0 := by omega
      have y1 : dx = 0 := by rcases Int.mul_eq_zero.mp z1 with q | q <;> exact q
      have y2 : dy = 0 := by rcases Int.mul_eq_zero.mp z2 with q | q <;> exact q
      omega
    · cases h
  · rename_i h0
    split at h
    · cases h
    · split at h
      · cases h
      · rename_i hr
        generalize he : c * c - d * d + sq = e at h hr
        have hp : 0 < sq := by omega
        have hi := isq_spec (v := 4 * c * c * sq - e * e) (by omega)
        have hs : ∀ s : Int, (s = isq (4 * c * c * sq - e * e) ∨ s = -isq (4 * c * c * sq - e * e)) → s * s ≤ 4 * c * c * sq - e * e := by
          intro s q
          rcases q with rfl | rfl
          · exact hi.2
          · have := hi.2; grind
        generalize hss : (if lf = 0 then -isq (4 * c * c * sq - e * e) else isq (4 * c * c * sq - e * e)) = s at h
        have hs2 : s * s ≤ 4 * c * c * sq - e * e := hs s (by rw [← hss]; split <;> simp)
        simp only [Option.some.injEq, Prod.mk.injEq] at h
        obtain ⟨hx, hy⟩ := h
        have a1 := fold_aux hsq.symm hp hc hs2
        have r1 := rnd_le (b := 2 * sq) (by omega) a1.1
        have r2 := rnd_le (b := 2 * sq) (by omega) a1.2
        have hs3 : s * s ≤ 4 * d * d * sq - (e - 2 * sq) * (e - 2 * sq) := by rw [← he] at hs2 ⊢; grind
        have a2 := fold_aux hsq.symm hp hd hs3
        have r3 := rnd_le (b := 2 * sq) (by omega) a2.1
        have r4 := rnd_le (b := 2 * sq) (by omega) a2.2
        rw [show dx * (e - 2 * sq) - dy * s = dx * e - dy * s - dx * (2 * sq) by grind, rnd_shift _ _ _ (by omega)] at r3
        rw [show dy * (e - 2 * sq) + dx * s = dy * e + dx * s - dy * (2 * sq) by grind, rnd_shift _ _ _ (by omega)] at r4
        omega
