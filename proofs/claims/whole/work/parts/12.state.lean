/-! STATE: what a page is, in numbers; how the class's cells and the model's cells hold it -/
/-- 0: how many parts; 1: width; 2: tol; 3 k: kind; 4 i: on; 5 i: far; 6 i: flat (i = 2 k, 2 k + 1); 7 k: side; 8 k: is there; 9 r: refusals -/
abbrev Bs : Type := Nat → Nat → Int
/-- 0, 1 i s: the hinge's place; 2, 3 k s: the crease's place; 4 k s: stuck -/
abbrev Ts : Type := Nat → Nat → Nat → Int
def upB (b : Bs) (f i : Nat) (v : Int) : Bs := fun g j => if g = f ∧ j = i then v else b g j
theorem upB_s (b : Bs) (f i : Nat) (v : Int) : upB b f i v f i = v := by simp [upB]
theorem upB_f {b : Bs} {f i g j : Nat} {v : Int} (h : g ≠ f) : upB b f i v g j = b g j := by simp [upB, h]
theorem upB_i {b : Bs} {f i g j : Nat} {v : Int} (h : j ≠ i) : upB b f i v g j = b g j := by simp [upB, h]
def bn (b : Bs) : Nat := (b 0 0).toNat
def wT (i : Nat) : Int := [10000, 9808, 9239, 8315, 7071, 5556, 3827, 1951, 0].getD i 0
def wx (s : Nat) : Int := if s ≤ 8 then wT s else - wT (16 - s)
def wy (s : Nat) : Int := if s ≤ 8 then wT (8 - s) else wT (s - 8)
theorem w_b : ∀ s, s < 17 → (-10000 ≤ wx s ∧ wx s ≤ 10000) ∧ (-10000 ≤ wy s ∧ wy s ≤ 10000) := by decide
/-- is a part there; is a plane there -/
def isP (b : Bs) (z : Int) : Prop := 0 ≤ z ∧ z < b 0 0 ∧ b 8 z.toNat = 1
def thL (b : Bs) (p : Nat) : Prop := p < 2 ∨ (2 ≤ p ∧ p / 2 - 1 < bn b ∧ b 8 (p / 2 - 1) = 1)
def isL (b : Bs) (z : Int) : Prop := 0 ≤ z ∧ thL b z.toNat
/-- what holds of every page (but for the places) -/
def Inv (b : Bs) : Prop := (b 0 0 = (bn b : Int) ∧ bn b ≤ 30) ∧ (1 ≤ b 1 0 ∧ b 1 0 ≤ 1000) ∧ (0 ≤ b 2 0 ∧ b 2 0 ≤ 100) ∧
  (∀ k, k < bn b → (0 ≤ b 3 k ∧ b 3 k ≤ 2) ∧ b01 (b 7 k) ∧ b01 (b 8 k) ∧ (b 3 k = 1 → b 6 (2 * k) = b 5 (2 * k + 1) ∧ b 6 (2 * k + 1) = b 5 (2 * k))) ∧
  (∀ k, k < bn b → ∀ i, (i = 2 * k ∨ i = 2 * k + 1) → (0 ≤ b 4 i ∧ b 4 i < 2 * k + 2) ∧ (0 ≤ b 5 i ∧ b 5 i ≤ 1000) ∧ (1 ≤ b 6 i ∧ b 6 i ≤ 1000) ∧ (b 8 k = 1 → thL b (b 4 i).toNat))
/-- a plane's place at a distance, at a step -/
def PLx (b : Bs) (t : Ts) (s p : Nat) (n : Int) : Int := if p = 0 then n else if p = 1 then rnd (wx s * n) 10000 else t 0 (p - 2) s + rnd ((t 2 (p / 2 - 1) s - t 0 (p - 2) s) * n) (b 6 (p - 2))
def PLy (b : Bs) (t : Ts) (s p : Nat) (n : Int) : Int := if p = 0 then 0 else if p = 1 then rnd (wy s * n) 10000 else t 1 (p - 2) s + rnd ((t 3 (p / 2 - 1) s - t 1 (p - 2) s) * n) (b 6 (p - 2))
def PS (t : Ts) (s p : Nat) : Int := if p < 2 then 0 else t 4 (p / 2 - 1) s
/-- a part's places at a step are as the planes that it hangs on have them -/
def LE1 (b : Bs) (t : Ts) (k s : Nat) : Prop :=
  b01 (t 4 k s) ∧
  (¬ (PS t s (b 4 (2 * k)).toNat = 0 ∧ PS t s (b 4 (2 * k + 1)).toNat = 0) → t 4 k s = 1) ∧
  (PS t s (b 4 (2 * k)).toNat = 0 → PS t s (b 4 (2 * k + 1)).toNat = 0 →
    (t 0 (2 * k) s = PLx b t s (b 4 (2 * k)).toNat (b 5 (2 * k)) ∧ t 1 (2 * k) s = PLy b t s (b 4 (2 * k)).toNat (b 5 (2 * k)) ∧
     t 0 (2 * k + 1) s = PLx b t s (b 4 (2 * k + 1)).toNat (b 5 (2 * k + 1)) ∧ t 1 (2 * k + 1) s = PLy b t s (b 4 (2 * k + 1)).toNat (b 5 (2 * k + 1))) ∧
    ((foldZ (t 0 (2 * k) s) (t 1 (2 * k) s) (t 0 (2 * k + 1) s) (t 1 (2 * k + 1) s) (b 6 (2 * k)) (b 6 (2 * k + 1)) (b 7 k) = none ∧ t 4 k s = 1) ∨
     (foldZ (t 0 (2 * k) s) (t 1 (2 * k) s) (t 0 (2 * k + 1) s) (t 1 (2 * k + 1) s) (b 6 (2 * k)) (b 6 (2 * k + 1)) (b 7 k) = some (t 2 k s, t 3 k s) ∧ t 4 k s = 0)))
/-- all parts before K -/
def LEk (b : Bs) (t : Ts) (K : Nat) : Prop := ∀ k, k < K → k < bn b → b 8 k = 1 → ∀ s, s < 17 → LE1 b t k s
def LE (b : Bs) (t : Ts) : Prop := LEk b t (bn b)
/-- how far places can be -/
def BD1 (b : Bs) (t : Ts) (k s : Nat) : Prop := t 4 k s = 0 →
  (∀ i, (i = 2 * k ∨ i = 2 * k + 1) → (-(1000 * ((k : Int) + 1)) ≤ t 0 i s ∧ t 0 i s ≤ 1000 * ((k : Int) + 1)) ∧ (-(1000 * ((k : Int) + 1)) ≤ t 1 i s ∧ t 1 i s ≤ 1000 * ((k : Int) + 1)) ∧
    (-(b 6 i) ≤ t 2 k s - t 0 i s ∧ t 2 k s - t 0 i s ≤ b 6 i) ∧ (-(b 6 i) ≤ t 3 k s - t 1 i s ∧ t 3 k s - t 1 i s ≤ b 6 i))
theorem way_le {w n : Int} (hw : -10000 ≤ w ∧ w ≤ 10000) (hn : 0 ≤ n) : -n ≤ rnd (w * n) 10000 ∧ rnd (w * n) 10000 ≤ n := by
  refine rnd_le (by decide) ?_
  have := mulB (A := 10000) (B := n) (x := w) (y := n) (by omega) (by omega)
  omega
/-- a place on a plane is not far -/
theorem PL_b {b : Bs} {t : Ts} {s p : Nat} {n K : Int} (hs : s < 17) (hn : 0 ≤ n ∧ n ≤ 1000) (hK : 1000 ≤ K) (hp : 2 ≤ p → 0 < b 6 (p - 2) ∧ BD1 b t (p / 2 - 1) s ∧ t 4 (p / 2 - 1) s = 0 ∧ 1000 * (((p / 2 - 1 : Nat) : Int) + 1) + 1000 ≤ K) :
    (-K ≤ PLx b t s p n ∧ PLx b t s p n ≤ K) ∧ (-K ≤ PLy b t s p n ∧ PLy b t s p n ≤ K) := by
  unfold PLx PLy
  by_cases h0 : p = 0
  · rw [if_pos h0, if_pos h0]; omega
  · rw [if_neg h0, if_neg h0]
    by_cases h1 : p = 1
    · rw [if_pos h1, if_pos h1]
      have w := w_b s hs
      have a1 := way_le w.1 hn.1
      have a2 := way_le w.2 hn.1
      omega
    · rw [if_neg h1, if_neg h1]
      obtain ⟨g1, g2, g3, g4⟩ := hp (by omega)
      obtain ⟨x1, x2, x3, x4⟩ := g2 g3 (p - 2) (by omega)
      have m1 := mulB (A := b 6 (p - 2)) (B := n) (y := n) x3 (by omega)
      have m2 := mulB (A := b 6 (p - 2)) (B := n) (y := n) x4 (by omega)
      have r1 := rnd_le g1 (n := n) (by rw [Int.mul_comm n]; exact m1)
      have r2 := rnd_le g1 (n := n) (by rw [Int.mul_comm n]; exact m2)
      omega
theorem thL_lt {b : Bs} {p : Nat} (h : thL b p) (h2 : 2 ≤ p) : p / 2 - 1 < bn b ∧ b 8 (p / 2 - 1) = 1 := by
  rcases h with h | h
  · omega
  · exact h.2
/-- the places of a part that is not stuck are not far -/
theorem LE_bd {b : Bs} {t : Ts} {K : Nat} (hI : Inv b) (hL : LEk b t K) : ∀ n k, k < n → k < K → k < bn b → b 8 k = 1 → ∀ s, s < 17 → BD1 b t k s := by
  intro n
  induction n with
  | zero => intro k h; omega
  | succ n ih =>
    intro k hk hkK hkn ht s hs h0
    have L := hL k hkK hkn ht s hs
    have I5 := hI.2.2.2.2 k hkn
    obtain ⟨L1, L2, L3⟩ := L
    have hps : PS t s (b 4 (2 * k)).toNat = 0 ∧ PS t s (b 4 (2 * k + 1)).toNat = 0 := by
      by_cases q : PS t s (b 4 (2 * k)).toNat = 0 ∧ PS t s (b 4 (2 * k + 1)).toNat = 0
      · exact q
      · have := L2 q; omega
    obtain ⟨⟨e1, e2, e3, e4⟩, hf⟩ := L3 hps.1 hps.2
    have key : ∀ i, (i = 2 * k ∨ i = 2 * k + 1) → PS t s (b 4 i).toNat = 0 → (-(1000 * ((k : Int) + 1)) ≤ PLx b t s (b 4 i).toNat (b 5 i) ∧ PLx b t s (b 4 i).toNat (b 5 i) ≤ 1000 * ((k : Int) + 1)) ∧ (-(1000 * ((k : Int) + 1)) ≤ PLy b t s (b 4 i).toNat (b 5 i) ∧ PLy b t s (b 4 i).toNat (b 5 i) ≤ 1000 * ((k : Int) + 1)) := by
      intro i hi hz
      have J := I5 i hi
      refine PL_b hs J.2.1 (by omega) (fun h2 => ?_)
      have T := thL_lt (J.2.2.2 ht) h2
      have hz2 : t 4 ((b 4 i).toNat / 2 - 1) s = 0 := by unfold PS at hz; rw [if_neg (by omega)] at hz; exact hz
      have hI2 := hI.2.2.2.2 _ T.1 ((b 4 i).toNat - 2) (by omega)
      exact ⟨by omega, ih _ (by omega) (by omega) T.1 T.2 s hs, hz2, by omega⟩
    rcases hf with ⟨hf, q⟩ | ⟨hf, q⟩
    · omega
    · have J0 := I5 (2 * k) (Or.inl rfl)
      have J1 := I5 (2 * k + 1) (Or.inr rfl)
      have F := foldZ_bd (by omega) (by omega) hf
      have k0 := key _ (Or.inl rfl) hps.1
      have k1 := key _ (Or.inr rfl) hps.2
      intro i hi
      rcases hi with rfl | rfl
      · rw [e1] at F ⊢; rw [e2] at F ⊢; exact ⟨k0.1, k0.2, F.1.1, F.1.2⟩
      · rw [e3] at F ⊢; rw [e4] at F ⊢; exact ⟨k1.1, k1.2, F.2.1, F.2.2⟩
/-- the class's cells: the numbers of the page -/
def plN (p : Nat) : Nat := if p = 0 then 35 else if p = 1 then 40 else 66 + 15 * (p / 2 - 1) + 13 + p % 2
def plI (b : Bs) (p : Nat) : Option Nat := if p < 2 ∨ (p / 2 - 1 < bn b ∧ b 8 (p / 2 - 1) = 1) then some (plN p) else none
def RP (S : St) (b : Bs) : Prop := (gI S 0 5 = iZ (b 1 0) ∧ gI S 0 6 = iZ (b 2 0) ∧ gI S 0 7 = iZ (b 0 0)) ∧ (∀ r, r < 7 → gA S 3 r = iZ (b 9 r)) ∧
  (∀ k, k < 30 → gR S 1 k = if k < bn b then some (66 + 15 * k) else none) ∧ (∀ p, p < 62 → gR S 2 p = plI b p) ∧ (gI S 35 4 = iZ (b 1 0) ∧ gI S 40 4 = iZ (b 1 0)) ∧
  (∀ k, k < bn b → gI S (66 + 15 * k) 5 = iZ (b 3 k) ∧ gI S (66 + 15 * k) 6 = iZ (b 4 (2 * k)) ∧ gI S (66 + 15 * k) 7 = iZ (b 5 (2 * k)) ∧ gI S (66 + 15 * k) 8 = iZ (b 4 (2 * k + 1)) ∧ gI S (66 + 15 * k) 9 = iZ (b 5 (2 * k + 1)) ∧ gI S (66 + 15 * k) 10 = iZ (b 7 k) ∧ gI S (66 + 15 * k) 11 = iZ (b 8 k) ∧ gI S (66 + 15 * k + 13) 4 = iZ (b 6 (2 * k)) ∧ gI S (66 + 15 * k + 14) 4 = iZ (b 6 (2 * k + 1)))
/-- the leaves' tracks, but for their ends -/
def RW (S : St) : Prop := ∀ s, s < 17 → (gA S 24 s = iZ 0 ∧ gA S 25 s = iZ 0) ∧ (gA S 28 s = iZ 10000 ∧ gA S 29 s = iZ 0) ∧ (gA S 32 s = iZ (wx s) ∧ gA S 33 s = iZ (wy s)) ∧ (gA S 39 s = iZ 0 ∧ gA S 44 s = iZ 0)
/-- the leaves' ends, of a page of width w -/
def RE (S : St) (w : Int) : Prop := ∀ s, s < 17 → (gA S 37 s = iZ w ∧ gA S 38 s = iZ 0) ∧ (gA S 42 s = iZ (rnd (wx s * w) 10000) ∧ gA S 43 s = iZ (rnd (wy s * w) 10000))
/-- a part's tracks at a step -/
def RT1 (S : St) (t : Ts) (k s : Nat) : Prop := gA S (66 + 15 * k + 9 + 3) s = iZ (t 4 k s) ∧ (t 4 k s = 0 →
  (gA S (66 + 15 * k + 1 + 1) s = iZ (t 0 (2 * k) s) ∧ gA S (66 + 15 * k + 1 + 2) s = iZ (t 1 (2 * k) s)) ∧ (gA S (66 + 15 * k + 5 + 1) s = iZ (t 0 (2 * k + 1) s) ∧ gA S (66 + 15 * k + 5 + 2) s = iZ (t 1 (2 * k + 1) s)) ∧ (gA S (66 + 15 * k + 9 + 1) s = iZ (t 2 k s) ∧ gA S (66 + 15 * k + 9 + 2) s = iZ (t 3 k s)))
def RTk (S : St) (b : Bs) (t : Ts) (K : Nat) : Prop := ∀ k, k < K → k < bn b → b 8 k = 1 → ∀ s, s < 17 → RT1 S t k s
def RC (S : St) (b : Bs) (t : Ts) : Prop := RP S b ∧ RW S ∧ RE S (b 1 0) ∧ RTk S b t (bn b)
/-- the model's cells -/
def RM (S : St) (b : Bs) : Prop := (gI S 45 0 = iZ (b 1 0) ∧ gI S 45 1 = iZ (b 2 0) ∧ gI S 45 2 = iZ (b 0 0)) ∧ (∀ k, k < bn b → gA S 46 k = iZ (b 3 k) ∧ gA S 50 k = iZ (b 7 k) ∧ gA S 51 k = iZ (b 8 k)) ∧ (∀ i, i < 2 * bn b → gA S 47 i = iZ (b 4 i) ∧ gA S 48 i = iZ (b 5 i) ∧ gA S 49 i = iZ (b 6 i)) ∧ (∀ r, r < 7 → gA S 52 r = iZ (b 9 r)) ∧ (∀ i, i < 9 → gA S 53 i = iZ (wT i))
/-- nothing but cells of the class, of the model, has changed -/
def sameOn (P : Nat → Prop) (S S' : St) : Prop := ∀ i, P i → ∀ k, gI S' i k = gI S i k ∧ gA S' i k = gA S i k ∧ gL S' i k = gL S i k ∧ gJ S' i k = gJ S i k ∧ gR S' i k = gR S i k
def atM (i : Nat) : Prop := 45 ≤ i ∧ i < 66
def atC (i : Nat) : Prop := i < 45 ∨ 66 ≤ i
theorem sameOn.rf {P : Nat → Prop} {S : St} : sameOn P S S := fun _ _ _ => ⟨rfl, rfl, rfl, rfl, rfl⟩
theorem sameOn.tr {P : Nat → Prop} {S T U : St} (h1 : sameOn P S T) (h2 : sameOn P T U) : sameOn P S U := fun i hi k => by
  obtain ⟨a1, a2, a3, a4, a5⟩ := h1 i hi k
  obtain ⟨c1, c2, c3, c4, c5⟩ := h2 i hi k
  exact ⟨c1.trans a1, c2.trans a2, c3.trans a3, c4.trans a4, c5.trans a5⟩
theorem RM.keep {S S' : St} {b : Bs} (h : RM S b) (hs : sameOn atM S S') (hI : Inv b) : RM S' b := by
  obtain ⟨⟨a1, a2, a3⟩, c, d, e, f⟩ := h
  have m : ∀ i, 45 ≤ i → i < 66 → atM i := fun i x y => ⟨x, y⟩
  refine ⟨⟨?_, ?_, ?_⟩, fun k hk => ⟨?_, ?_, ?_⟩, fun i hi => ⟨?_, ?_, ?_⟩, fun r hr => ?_, fun i hi => ?_⟩
  · rw [(hs 45 (m _ (by decide) (by decide)) 0).1]; exact a1
  · rw [(hs 45 (m _ (by decide) (by decide)) 1).1]; exact a2
  · rw [(hs 45 (m _ (by decide) (by decide)) 2).1]; exact a3
  · rw [(hs 46 (m _ (by decide) (by decide)) k).2.1]; exact (c k hk).1
  · rw [(hs 50 (m _ (by decide) (by decide)) k).2.1]; exact (c k hk).2.1
  · rw [(hs 51 (m _ (by decide) (by decide)) k).2.1]; exact (c k hk).2.2
  · rw [(hs 47 (m _ (by decide) (by decide)) i).2.1]; exact (d i hi).1
  · rw [(hs 48 (m _ (by decide) (by decide)) i).2.1]; exact (d i hi).2.1
  · rw [(hs 49 (m _ (by decide) (by decide)) i).2.1]; exact (d i hi).2.2
  · rw [(hs 52 (m _ (by decide) (by decide)) r).2.1]; exact e r hr
  · rw [(hs 53 (m _ (by decide) (by decide)) i).2.1]; exact f i hi
theorem RC.keep {S S' : St} {b : Bs} {t : Ts} (h : RC S b t) (hs : sameOn atC S S') : RC S' b t := by
  obtain ⟨⟨⟨a1, a2, a3⟩, a4, a5, a6, ⟨a7, a8⟩, a9⟩, hw, he, ht⟩ := h
  have lo : ∀ i, i < 45 → atC i := fun i x => Or.inl x
  have hi : ∀ i, 66 ≤ i → atC i := fun i x => Or.inr x
  have I : ∀ i k, atC i → gI S' i k = gI S i k := fun i k x => (hs i x k).1
  have A : ∀ i k, atC i → gA S' i k = gA S i k := fun i k x => (hs i x k).2.1
  have Q : ∀ i k, atC i → gR S' i k = gR S i k := fun i k x => (hs i x k).2.2.2.2
  refine ⟨⟨⟨?_, ?_, ?_⟩, fun r hr => ?_, fun k hk => ?_, fun p hp => ?_, ⟨?_, ?_⟩, fun k hk => ?_⟩, fun s hs => ?_, fun s hs => ?_, fun k h1 h2 h3 s hs => ?_⟩
  · rw [I _ _ (lo _ (by decide))]; exact a1
  · rw [I _ _ (lo _ (by decide))]; exact a2
  · rw [I _ _ (lo _ (by decide))]; exact a3
  · rw [A _ _ (lo _ (by decide))]; exact a4 r hr
  · rw [Q _ _ (lo _ (by decide))]; exact a5 k hk
  · rw [Q _ _ (lo _ (by decide))]; exact a6 p hp
  · rw [I _ _ (lo _ (by decide))]; exact a7
  · rw [I _ _ (lo _ (by decide))]; exact a8
  · rw [I _ _ (hi (66 + 15 * k) (by omega)), I _ _ (hi (66 + 15 * k) (by omega)), I _ _ (hi (66 + 15 * k) (by omega)), I _ _ (hi (66 + 15 * k) (by omega)), I _ _ (hi (66 + 15 * k) (by omega)), I _ _ (hi (66 + 15 * k) (by omega)), I _ _ (hi (66 + 15 * k) (by omega)), I _ _ (hi (66 + 15 * k + 13) (by omega)), I _ _ (hi (66 + 15 * k + 14) (by omega))]
    exact a9 k hk
  · rw [A _ _ (lo 24 (by decide)), A _ _ (lo 25 (by decide)), A _ _ (lo 28 (by decide)), A _ _ (lo 29 (by decide)), A _ _ (lo 32 (by decide)), A _ _ (lo 33 (by decide)), A _ _ (lo 39 (by decide)), A _ _ (lo 44 (by decide))]
    exact hw s hs
  · rw [A _ _ (lo 37 (by decide)), A _ _ (lo 38 (by decide)), A _ _ (lo 42 (by decide)), A _ _ (lo 43 (by decide))]
    exact he s hs
  · unfold RT1
    rw [A _ _ (hi (66 + 15 * k + 9 + 3) (by omega)), A _ _ (hi (66 + 15 * k + 1 + 1) (by omega)), A _ _ (hi (66 + 15 * k + 1 + 2) (by omega)), A _ _ (hi (66 + 15 * k + 5 + 1) (by omega)), A _ _ (hi (66 + 15 * k + 5 + 2) (by omega)), A _ _ (hi (66 + 15 * k + 9 + 1) (by omega)), A _ _ (hi (66 + 15 * k + 9 + 2) (by omega))]
    exact ht k h1 h2 h3 s hs
