/-! PAGE: its helpers -/
theorem isP_or {b : Bs} (hI : Inv b) (z : Int) : ¬ isP b z ∨ ∃ k : Nat, z = (k : Int) ∧ k < bn b ∧ b 8 k = 1 := by
  by_cases h0 : 0 ≤ z
  · by_cases h1 : z < b 0 0
    · by_cases h2 : b 8 z.toNat = 1
      · exact Or.inr ⟨z.toNat, by omega, by have := hI.1.1; omega, h2⟩
      · exact Or.inl (fun q => h2 q.2.2)
    · exact Or.inl (fun q => h1 q.2.1)
  · exact Or.inl (fun q => h0 q.1)
theorem isP_k {b : Bs} (hI : Inv b) {k : Nat} (hk : k < bn b) (ht : b 8 k = 1) : isP b (k : Int) := ⟨by omega, by have := hI.1.1; omega, ht⟩
theorem isL_or (b : Bs) (z : Int) : ¬ isL b z ∨ ∃ p : Nat, z = (p : Int) ∧ thL b p := by
  by_cases h0 : 0 ≤ z
  · by_cases h1 : thL b z.toNat
    · exact Or.inr ⟨z.toNat, by omega, h1⟩
    · exact Or.inl (fun q => h1 q.2)
  · exact Or.inl (fun q => h0 q.1)
theorem vp_k {N : Nat} {b : Bs} {k : Nat} (hN : N = 66 + 15 * bn b) (hk : k < bn b) : vp N (66 + 15 * k) := vp_part k (by omega)
theorem plN_0 : plN 0 = 35 := rfl
theorem plN_1 : plN 1 = 40 := rfl
theorem plN_p (k w : Nat) (hw : w < 2) : plN (2 * k + 2 + w) = 66 + 15 * k + 13 + w := by
  unfold plN
  rw [if_neg (by omega), if_neg (by omega), show (2 * k + 2 + w) / 2 - 1 = k by omega, show (2 * k + 2 + w) % 2 = w by omega]
theorem thL_or {b : Bs} {p : Nat} (h : thL b p) : p = 0 ∨ p = 1 ∨ ∃ k w : Nat, w < 2 ∧ p = 2 * k + 2 + w ∧ k < bn b ∧ b 8 k = 1 := by
  rcases h with h | ⟨h1, h2, h3⟩
  · omega
  · exact Or.inr (Or.inr ⟨p / 2 - 1, p % 2, by omega, by omega, h2, h3⟩)
theorem vl_p {N : Nat} {b : Bs} {p : Nat} (hg : vg N) (hN : N = 66 + 15 * bn b) (h : thL b p) : vl N (plN p) := by
  rcases thL_or h with rfl | rfl | ⟨k, w, hw, rfl, hk, ht⟩
  · exact vl_0 hg
  · exact vl_1 hg
  · rw [plN_p k w hw]
    have h2 := vp_k hN hk
    rcases (show w = 0 ∨ w = 1 by omega) with rfl | rfl
    · exact vp.fA h2
    · exact vp.fB h2
theorem thL_62 {b : Bs} (hI : Inv b) {p : Nat} (h : thL b p) : p < 62 := by
  rcases thL_or h with rfl | rfl | ⟨k, w, hw, rfl, hk, ht⟩
  · decide
  · decide
  · have := hI.1.2; omega
theorem plI_y {b : Bs} {p : Nat} (h : thL b p) : plI b p = some (plN p) := by
  unfold plI
  rw [if_pos]
  rcases h with h | ⟨h1, h2, h3⟩
  · exact Or.inl h
  · exact Or.inr ⟨h2, h3⟩
theorem plI_n {b : Bs} {p : Nat} (h : ¬ thL b p) : plI b p = none := by
  unfold plI
  rw [if_neg]
  intro q
  rcases q with q | q
  · exact h (Or.inl q)
  · by_cases z : p < 2
    · exact h (Or.inl z)
    · exact h (Or.inr ⟨by omega, q⟩)
def refS (S : St) (b : Bs) (w : Nat) : St := pA S 3 w (iZ (b 9 w + 1))
def refB (b : Bs) (w : Nat) : Bs := upB b 9 w (b 9 w + 1)
theorem refInv {b : Bs} {w : Nat} (h : Inv b) : Inv (refB b w) := h
theorem refLE {b : Bs} {t : Ts} {w : Nat} (h : LE b t) : LE (refB b w) t := h
theorem refRC {S : St} {b : Bs} {t : Ts} {w : Nat} (h : RC S b t) : RC (refS S b w) (refB b w) t := by
  obtain ⟨⟨a1, a2, a3, a4, a5, a6⟩, hw, he, ht⟩ := h
  have A : ∀ i k, i ≠ 3 → gA (refS S b w) i k = gA S i k := fun i k q => by unfold refS; rw [gA_pA, if_neg (fun z => q z.1)]
  refine ⟨⟨a1, fun r hr => ?_, a3, a4, a5, a6⟩, fun s hs => ?_, fun s hs => ?_, fun k h1 h2 h3 s hs => ?_⟩
  · unfold refS refB
    rw [gA_pA]
    by_cases q : r = w
    · subst q; rw [if_pos ⟨rfl, rfl⟩, upB_s]
    · rw [if_neg (fun z => q z.2), upB_i q]; exact a2 r hr
  · rw [A _ _ (show 24 ≠ 3 by decide), A _ _ (show 25 ≠ 3 by decide), A _ _ (show 28 ≠ 3 by decide), A _ _ (show 29 ≠ 3 by decide), A _ _ (show 32 ≠ 3 by decide), A _ _ (show 33 ≠ 3 by decide), A _ _ (show 39 ≠ 3 by decide), A _ _ (show 44 ≠ 3 by decide)]
    exact hw s hs
  · rw [A _ _ (show 37 ≠ 3 by decide), A _ _ (show 38 ≠ 3 by decide), A _ _ (show 42 ≠ 3 by decide), A _ _ (show 43 ≠ 3 by decide)]
    exact he s hs
  · unfold RT1
    rw [A _ _ (show 66 + 15 * k + 9 + 3 ≠ 3 by omega), A _ _ (show 66 + 15 * k + 1 + 1 ≠ 3 by omega), A _ _ (show 66 + 15 * k + 1 + 2 ≠ 3 by omega), A _ _ (show 66 + 15 * k + 5 + 1 ≠ 3 by omega), A _ _ (show 66 + 15 * k + 5 + 2 ≠ 3 by omega), A _ _ (show 66 + 15 * k + 9 + 1 ≠ 3 by omega), A _ _ (show 66 + 15 * k + 9 + 2 ≠ 3 by omega)]
    exact ht k h1 h2 h3 s hs
theorem refM {S : St} {b : Bs} {w : Nat} : sameOn atM S (refS S b w) := fun i hi k => ⟨rfl, by unfold refS; rw [gA_pA, if_neg (fun z => by have := hi.1; omega)], rfl, rfl, rfl⟩
def cnt (P : Nat → Bool) : Nat → Int
  | 0 => 0
  | n + 1 => cnt P n + (if P n = true then 1 else 0)
theorem cnt_T {P : Nat → Bool} {i : Nat} (h : P i = true) : cnt P (i + 1) = cnt P i + 1 := by show _ + _ = _; rw [if_pos h]
theorem cnt_F {P : Nat → Bool} {i : Nat} (h : P i = false) : cnt P (i + 1) = cnt P i := by show _ + _ = _; rw [if_neg (by rw [h]; decide)]; omega
theorem cnt_b (P : Nat → Bool) (n : Nat) : 0 ≤ cnt P n ∧ cnt P n ≤ n := by
  induction n with
  | zero => exact ⟨Int.le_refl 0, Int.le_refl 0⟩
  | succ n ih => show 0 ≤ _ + _ ∧ _ + _ ≤ _; split <;> omega
/-- the first step at which it is stuck -/
def fsF (k : Nat → Int) : Nat → Nat → Int
  | 0, _ => -9
  | n + 1, j => if k j = 0 then fsF k n (j + 1) else (j : Int)
def fsZ (k : Nat → Int) : Int := fsF k 17 0
theorem fsF_b (k : Nat → Int) : ∀ n j, fsF k n j = -9 ∨ (0 ≤ fsF k n j ∧ fsF k n j < (n : Int) + j) := by
  intro n
  induction n with
  | zero => intro j; exact Or.inl rfl
  | succ n ih =>
    intro j
    unfold fsF
    split
    · rcases ih (j + 1) with h | h
      · exact Or.inl h
      · right; omega
    · right; omega
set_option maxHeartbeats 4000000 in
set_option maxRecDepth 100000 in
theorem m_isStep {l : Launch} {D : va_G} {kc : Nat → ClassId} {N : Nat} {ad : Nat → Nat} {S : St} {z : Int} (rz : r32 z) : MetK l yX3_isStep cX3_isStep 1 (some FieldType.boolean) 1 0 0 24 D kc (wl kc N ad S) [.int (iZ z)] (QI D kc (wl kc N ad S) (fun r ws' => r = iZ (bz (decide (0 ≤ z ∧ z < 17))) ∧ ws' = wl kc N ad S)) := by
  refine MetK.of (by decide +kernel) (Nat.le_of_ble_eq_true rfl) ?_
  intro p e s m below meth c C
  have hA : ∀ q, s.heap.size ≤ q → va_A (wl kc N ad S) s.heap.size q := fun _ h => Or.inr h
  show V p l e { frames := 1, cells := 0, slots := 0, locals := 24 } s m ([.int (iZ z)] : List Value).toArray below meth c (MQ below (QI D kc (wl kc N ad S) (fun r ws' => r = iZ (bz (decide (0 ≤ z ∧ z < 17))) ∧ ws' = wl kc N ad S) s.heap.size) ([.int (iZ z)] : List Value).toArray s 0 0 (va_A (wl kc N ad S) s.heap.size)) D (va_A (wl kc N ad S) s.heap.size) 1 0 0 (wl kc N ad S) 0 [(0, .int (iZ z))] []
  refine v_iload_n 0 0 C dX3_isStep_0 rfl ?_
  refine z_if_lt 1 14 C (by first | assumption | exact ⟨by omega, by omega⟩) dX3_isStep_1 (by decide) (fun c1_0 => ?_) (fun c1_0 => ?_)
  · skip
    refine v_iconst 14 C (iZ 0) dX3_isStep_14 rfl ?_
    exact v_zret 15 C (rfl) (⟨bzF (decide_eq_false (by omega)), rfl⟩) dX3_isStep_15
  · skip
    refine v_iload_n 4 0 C dX3_isStep_4 rfl ?_
    refine v_bipush 5 C (iZ 17) dX3_isStep_5 (by decide) ?_
    refine z_icmp_ge 7 14 C (by first | assumption | exact ⟨by omega, by omega⟩) (by first | assumption | exact ⟨by omega, by omega⟩) dX3_isStep_7 (by decide) (fun c7_1 => ?_) (fun c7_1 => ?_)
    · skip
      refine v_iconst 14 C (iZ 0) dX3_isStep_14 rfl ?_
      exact v_zret 15 C (rfl) (⟨bzF (decide_eq_false (by omega)), rfl⟩) dX3_isStep_15
    · skip
      refine v_iconst 10 C (iZ 1) dX3_isStep_10 rfl ?_
      refine v_goto 11 15 C dX3_isStep_11 (by decide) ?_
      exact v_zret 15 C (rfl) (⟨bzT (decide_eq_true (by omega)), rfl⟩) dX3_isStep_15

set_option maxHeartbeats 4000000 in
set_option maxRecDepth 100000 in
theorem m_pair {l : Launch} {D : va_G} {kc : Nat → ClassId} {N : Nat} {ad : Nat → Nat} {S : St} {z y : Int} (rz : r32 z) (ry : -2 ≤ y ∧ y ≤ 1000) : MetK l yX3_isOneOfPair cX3_isOneOfPair 2 (some FieldType.boolean) 1 0 0 24 D kc (wl kc N ad S) [.int (iZ z), .int (iZ y)] (QI D kc (wl kc N ad S) (fun r ws' => r = iZ (bz (decide (z = y ∨ z = y + 1))) ∧ ws' = wl kc N ad S)) := by
  refine MetK.of (by decide +kernel) (Nat.le_of_ble_eq_true rfl) ?_
  intro p e s m below meth c C
  have hA : ∀ q, s.heap.size ≤ q → va_A (wl kc N ad S) s.heap.size q := fun _ h => Or.inr h
  show V p l e { frames := 1, cells := 0, slots := 0, locals := 24 } s m ([.int (iZ z), .int (iZ y)] : List Value).toArray below meth c (MQ below (QI D kc (wl kc N ad S) (fun r ws' => r = iZ (bz (decide (z = y ∨ z = y + 1))) ∧ ws' = wl kc N ad S) s.heap.size) ([.int (iZ z), .int (iZ y)] : List Value).toArray s 0 0 (va_A (wl kc N ad S) s.heap.size)) D (va_A (wl kc N ad S) s.heap.size) 2 0 0 (wl kc N ad S) 0 [(0, .int (iZ z)), (1, .int (iZ y))] []
  refine v_iload_n 0 0 C dX3_isOneOfPair_0 rfl ?_
  refine v_iload_n 1 1 C dX3_isOneOfPair_1 rfl ?_
  refine z_icmp_eq 2 12 C (by first | assumption | exact ⟨by omega, by omega⟩) (by first | assumption | exact ⟨by omega, by omega⟩) dX3_isOneOfPair_2 (by decide) (fun c2_0 => ?_) (fun c2_0 => ?_)
  · skip
    refine v_iconst 12 C (iZ 1) dX3_isOneOfPair_12 rfl ?_
    refine v_goto 13 17 C dX3_isOneOfPair_13 (by decide) ?_
    exact v_zret 17 C (rfl) (⟨bzT (decide_eq_true (by omega)), rfl⟩) dX3_isOneOfPair_17
  · skip
    refine v_iload_n 5 0 C dX3_isOneOfPair_5 rfl ?_
    refine v_iload_n 6 1 C dX3_isOneOfPair_6 rfl ?_
    refine v_iconst 7 C (iZ 1) dX3_isOneOfPair_7 rfl ?_
    refine z_iadd 8 C dX3_isOneOfPair_8 ?_
    refine z_icmp_ne 9 16 C (by first | assumption | exact ⟨by omega, by omega⟩) (by first | assumption | exact ⟨by omega, by omega⟩) dX3_isOneOfPair_9 (by decide) (fun c9_1 => ?_) (fun c9_1 => ?_)
    · skip
      refine v_iconst 16 C (iZ 0) dX3_isOneOfPair_16 rfl ?_
      exact v_zret 17 C (rfl) (⟨bzF (decide_eq_false (by omega)), rfl⟩) dX3_isOneOfPair_17
    · skip
      refine v_iconst 12 C (iZ 1) dX3_isOneOfPair_12 rfl ?_
      refine v_goto 13 17 C dX3_isOneOfPair_13 (by decide) ?_
      exact v_zret 17 C (rfl) (⟨bzT (decide_eq_true (by omega)), rfl⟩) dX3_isOneOfPair_17

set_option maxHeartbeats 4000000 in
set_option maxRecDepth 100000 in
theorem m_coord {l : Launch} {D : va_G} {kc : Nat → ClassId} {N : Nat} {ad : Nat → Nat} {S : St} {t j : Nat} {v x y z : Int} (h : vt N t) (hj : j < 17) (rz : r32 z) (s1 : gA S (t + 3) j = iZ v) (hv : b01 v) (E : v = 0 → gA S (t + 1) j = iZ x ∧ gA S (t + 2) j = iZ y) : MetK l yX3_coordinate cX3_coordinate 3 (some FieldType.int) 1 0 0 24 D kc (wl kc N ad S) [.ref (ad t), .int (iZ (j : Int)), .int (iZ z)] (QI D kc (wl kc N ad S) (fun r ws' => r = iZ (if v = 0 then (if z = 0 then x else y) else 1000000000) ∧ ws' = wl kc N ad S)) := by
  refine MetK.of (by decide +kernel) (Nat.le_of_ble_eq_true rfl) ?_
  intro p e s m below meth c C
  have hA : ∀ q, s.heap.size ≤ q → va_A (wl kc N ad S) s.heap.size q := fun _ h => Or.inr h
  show V p l e { frames := 1, cells := 0, slots := 0, locals := 24 } s m ([.ref (ad t), .int (iZ (j : Int)), .int (iZ z)] : List Value).toArray below meth c (MQ below (QI D kc (wl kc N ad S) (fun r ws' => r = iZ (if v = 0 then (if z = 0 then x else y) else 1000000000) ∧ ws' = wl kc N ad S) s.heap.size) ([.ref (ad t), .int (iZ (j : Int)), .int (iZ z)] : List Value).toArray s 0 0 (va_A (wl kc N ad S) s.heap.size)) D (va_A (wl kc N ad S) s.heap.size) 3 0 0 (wl kc N ad S) 0 [(0, .ref (ad t)), (1, .int (iZ (j : Int))), (2, .int (iZ z))] []
  refine v_aload_n 0 0 C dX3_coordinate_0 rfl ?_
  refine g_Tr_stuck 1 C (vt.o h).1 (vt.o h).2 lk_87 dX3_coordinate_1 ?_
  refine v_iload_n 4 1 C dX3_coordinate_4 rfl ?_
  refine v_zald 5 C (vt.s h).1 (vt.s h).2 j (izn (by omega)) (lnx (vt.ls h) (by omega)) dX3_coordinate_5 ?_
  refine v_eqi (iZ v) (s1) ?_
  refine z_if_eq 6 12 C (by first | assumption | exact ⟨by omega, by omega⟩) dX3_coordinate_6 (by decide) (fun c6_0 => ?_) (fun c6_0 => ?_)
  · skip
    refine v_iload_n 12 2 C dX3_coordinate_12 rfl ?_
    refine z_if_ne 13 25 C (by first | assumption | exact ⟨by omega, by omega⟩) dX3_coordinate_13 (by decide) (fun c13_1 => ?_) (fun c13_1 => ?_)
    · skip
      refine v_aload_n 25 0 C dX3_coordinate_25 rfl ?_
      refine g_Tr_y 26 C (vt.o h).1 (vt.o h).2 lk_83 dX3_coordinate_26 ?_
      refine v_iload_n 29 1 C dX3_coordinate_29 rfl ?_
      refine v_iald 30 C (vt.y h).1 (vt.y h).2 j (izn (by omega)) (lnx (vt.ly h) (by omega)) dX3_coordinate_30 ?_
      refine v_eqi (iZ y) ((E c6_0).2) ?_
      exact v_iret 31 C (⟨by rw [if_pos c6_0, if_neg c13_1], rfl⟩) dX3_coordinate_31
    · skip
      refine v_aload_n 16 0 C dX3_coordinate_16 rfl ?_
      refine g_Tr_x 17 C (vt.o h).1 (vt.o h).2 lk_79 dX3_coordinate_17 ?_
      refine v_iload_n 20 1 C dX3_coordinate_20 rfl ?_
      refine v_iald 21 C (vt.x h).1 (vt.x h).2 j (izn (by omega)) (lnx (vt.lx h) (by omega)) dX3_coordinate_21 ?_
      refine v_eqi (iZ x) ((E c6_0).1) ?_
      refine v_goto 22 31 C dX3_coordinate_22 (by decide) ?_
      exact v_iret 31 C (⟨by rw [if_pos c6_0, if_pos c13_1], rfl⟩) dX3_coordinate_31
  · skip
    refine v_ldc 9 C (1000000000) lk_377 dX3_coordinate_9 ?_
    refine v_eqi (iZ 1000000000) (by decide) ?_
    exact v_iret 11 C (⟨by rw [if_neg c6_0], rfl⟩) dX3_coordinate_11

set_option maxHeartbeats 4000000 in
set_option maxRecDepth 100000 in
theorem m_refuse {l : Launch} {D : va_G} {kc : Nat → ClassId} {N : Nat} {ad : Nat → Nat} {S : St} {b : Bs} (hg : vg N) (hN : N = 66 + 15 * bn b) (hI : Inv b) (hP : RP S b) (w : Nat) (hw : 0 < w ∧ w < 7) {z : Int} (hz : z = -(w : Int)) : MetK l yX3_refuse cX3_refuse 3 (some FieldType.int) 1 0 0 24 D kc (wl kc N ad S) [.ref (ad 0), .int (iZ z)] (QI D kc (wl kc N ad S) (fun r ws' => r = iZ z ∧ ws' = wl kc N ad (refS S b w))) := by
  refine MetK.of (by decide +kernel) (Nat.le_of_ble_eq_true rfl) ?_
  intro p e s m below meth c C
  have hA : ∀ q, s.heap.size ≤ q → va_A (wl kc N ad S) s.heap.size q := fun _ h => Or.inr h
  show V p l e { frames := 1, cells := 0, slots := 0, locals := 24 } s m ([.ref (ad 0), .int (iZ z)] : List Value).toArray below meth c (MQ below (QI D kc (wl kc N ad S) (fun r ws' => r = iZ z ∧ ws' = wl kc N ad (refS S b w)) s.heap.size) ([.ref (ad 0), .int (iZ z)] : List Value).toArray s 0 0 (va_A (wl kc N ad S) s.heap.size)) D (va_A (wl kc N ad S) s.heap.size) 3 0 0 (wl kc N ad S) 0 [(0, .ref (ad 0)), (1, .int (iZ z))] []
  refine v_iload_n 0 1 C dX3_refuse_0 rfl ?_
  refine z_ineg 1 C dX3_refuse_1 ?_
  refine v_istore_n 2 [(2, .int (iZ (-z))), (0, .ref (ad 0)), (1, .int (iZ z))] C dX3_refuse_2 (by decide) rfl ?_
  refine v_iload_n 3 0 C dX3_refuse_3 rfl ?_
  refine z_if_le 4 23 C (by first | assumption | exact ⟨by omega, by omega⟩) dX3_refuse_4 (by decide) (fun c4_0 => absurd c4_0 (by omega)) (fun c4_0 => ?_)
  refine v_iload_n 7 0 C dX3_refuse_7 rfl ?_
  refine v_bipush 8 C (iZ 7) dX3_refuse_8 (by decide) ?_
  refine z_icmp_ge 10 23 C (by first | assumption | exact ⟨by omega, by omega⟩) (by first | assumption | exact ⟨by omega, by omega⟩) dX3_refuse_10 (by decide) (fun c10_1 => absurd c10_1 (by omega)) (fun c10_1 => ?_)
  refine v_aload_n 13 1 C dX3_refuse_13 rfl ?_
  refine g_Pg_refusals 14 C (vg.o hg).1 (vg.o hg).2 lk_211 dX3_refuse_14 ?_
  refine v_iload_n 17 0 C dX3_refuse_17 rfl ?_
  refine v_dup2_11 18 C dX3_refuse_18 rfl rfl ?_
  refine v_iald 19 C (vg.r hg).1 (vg.r hg).2 w (izn (by omega)) (lnx (show ln 3 = 7 from rfl) (by omega)) dX3_refuse_19 ?_
  refine v_eqi (iZ (b 9 w)) (hP.2.1 w hw.2) ?_
  refine v_iconst 20 C (iZ 1) dX3_refuse_20 rfl ?_
  refine z_iadd 21 C dX3_refuse_21 ?_
  refine v_iast 22 C (vg.r hg).1 (vg.r hg).2 w (izn (by omega)) (lnx (show ln 3 = 7 from rfl) (by omega)) dX3_refuse_22 ?_
  refine v_iload_n 23 2 C dX3_refuse_23 rfl ?_
  exact v_iret 24 C (⟨rfl, rfl⟩) dX3_refuse_24

set_option maxHeartbeats 4000000 in
set_option maxRecDepth 100000 in
theorem m_refuseA {l : Launch} {D : va_G} {kc : Nat → ClassId} {N : Nat} {ad : Nat → Nat} {S : St} {b : Bs} (hg : vg N) (hN : N = 66 + 15 * bn b) (hI : Inv b) (hP : RP S b) (w : Nat) (hw : 0 < w ∧ w < 7) {z : Int} (hz : z = -(w : Int)) : MetK l yX3_refuseApart cX3_refuseApart 2 (some FieldType.int) 2 0 0 46 D kc (wl kc N ad S) [.ref (ad 0), .int (iZ z)] (QI D kc (wl kc N ad S) (fun r ws' => r = iZ (1000000000 - z) ∧ ws' = wl kc N ad (refS S b w))) := by
  refine MetK.of (by decide +kernel) (Nat.le_of_ble_eq_true rfl) ?_
  intro p e s m below meth c C
  have hA : ∀ q, s.heap.size ≤ q → va_A (wl kc N ad S) s.heap.size q := fun _ h => Or.inr h
  show V p l e { frames := 2, cells := 0, slots := 0, locals := 46 } s m ([.ref (ad 0), .int (iZ z)] : List Value).toArray below meth c (MQ below (QI D kc (wl kc N ad S) (fun r ws' => r = iZ (1000000000 - z) ∧ ws' = wl kc N ad (refS S b w)) s.heap.size) ([.ref (ad 0), .int (iZ z)] : List Value).toArray s 0 0 (va_A (wl kc N ad S) s.heap.size)) D (va_A (wl kc N ad S) s.heap.size) 2 0 0 (wl kc N ad S) 0 [(0, .ref (ad 0)), (1, .int (iZ z))] []
  refine v_ldc 0 C (1000000000) lk_377 dX3_refuseApart_0 ?_
  refine v_eqi (iZ 1000000000) (by decide) ?_
  refine v_aload_n 2 0 C dX3_refuseApart_2 rfl ?_
  refine v_iload_n 3 1 C dX3_refuseApart_3 rfl ?_
  refine v_calli 4 hA (rV_Pg 4 C L_RX3_62 lk_252 lk_5 (m_refuse hg hN hI hP w hw hz) (vg.o hg) rfl ⟨rfl, rfl⟩ (rm_ok rfl) dX3_refuseApart_4) (fun r1 w2 h3 => ?_)
  obtain ⟨e_r1, rfl⟩ := h3
  refine v_eqi (iZ z) (e_r1) ?_
  refine z_isub 7 C dX3_refuseApart_7 ?_
  exact v_iret 8 C (⟨rfl, rfl⟩) dX3_refuseApart_8

set_option maxHeartbeats 4000000 in
set_option maxRecDepth 100000 in
theorem m_partEver {l : Launch} {D : va_G} {kc : Nat → ClassId} {N : Nat} {ad : Nat → Nat} {S : St} {b : Bs} (hg : vg N) (hN : N = 66 + 15 * bn b) (hI : Inv b) (hP : RP S b) {k : Nat} (hk : k < bn b) : MetK l yX3_partEver cX3_partEver 2 (some (FieldType.object "RisingPage$Part")) 1 0 0 24 D kc (wl kc N ad S) [.ref (ad 0), .int (iZ (k : Int))] (QR D kc (wl kc N ad S) (fun r ws' => r = some (ad (66 + 15 * k)) ∧ ws' = wl kc N ad S)) := by
  refine MetK.of (by decide +kernel) (Nat.le_of_ble_eq_true rfl) ?_
  intro p e s m below meth c C
  have hA : ∀ q, s.heap.size ≤ q → va_A (wl kc N ad S) s.heap.size q := fun _ h => Or.inr h
  show V p l e { frames := 1, cells := 0, slots := 0, locals := 24 } s m ([.ref (ad 0), .int (iZ (k : Int))] : List Value).toArray below meth c (MQ below (QR D kc (wl kc N ad S) (fun r ws' => r = some (ad (66 + 15 * k)) ∧ ws' = wl kc N ad S) s.heap.size) ([.ref (ad 0), .int (iZ (k : Int))] : List Value).toArray s 0 0 (va_A (wl kc N ad S) s.heap.size)) D (va_A (wl kc N ad S) s.heap.size) 2 0 0 (wl kc N ad S) 0 [(0, .ref (ad 0)), (1, .int (iZ (k : Int)))] []
  have hb0 := hI.1
  refine v_iload_n 0 1 C dX3_partEver_0 rfl ?_
  refine z_if_lt 1 27 C (by first | assumption | exact ⟨by omega, by omega⟩) dX3_partEver_1 (by decide) (fun c1_0 => absurd c1_0 (by omega)) (fun c1_0 => ?_)
  refine v_iload_n 4 1 C dX3_partEver_4 rfl ?_
  refine v_aload_n 5 0 C dX3_partEver_5 rfl ?_
  refine g_Pg_made 6 C (vg.o hg).1 (vg.o hg).2 lk_216 dX3_partEver_6 ?_
  refine v_eqi (iZ (b 0 0)) (hP.1.2.2) ?_
  refine z_icmp_ge 9 27 C (by first | assumption | exact ⟨by omega, by omega⟩) (by first | assumption | exact ⟨by omega, by omega⟩) dX3_partEver_9 (by decide) (fun c9_1 => absurd c9_1 (by omega)) (fun c9_1 => ?_)
  refine v_iload_n 12 1 C dX3_partEver_12 rfl ?_
  refine v_bipush 13 C (iZ 30) dX3_partEver_13 (by decide) ?_
  refine z_icmp_ge 15 27 C (by first | assumption | exact ⟨by omega, by omega⟩) (by first | assumption | exact ⟨by omega, by omega⟩) dX3_partEver_15 (by decide) (fun c15_2 => absurd c15_2 (by omega)) (fun c15_2 => ?_)
  refine v_aload_n 18 0 C dX3_partEver_18 rfl ?_
  refine g_Pg_parts 19 C (vg.o hg).1 (vg.o hg).2 lk_209 dX3_partEver_19 ?_
  refine v_iload_n 22 1 C dX3_partEver_22 rfl ?_
  refine v_aaldP 23 C (vg.p hg).1 (vg.p hg).2 k (izn (by omega)) (by omega) dX3_partEver_23 ?_
  rw [hP.2.2.1 k (by omega), if_pos hk]
  refine v_goto 24 28 C dX3_partEver_24 (by decide) ?_
  exact v_aret 28 C (some (ad (66 + 15 * k))) (rfl) (⟨rfl, rfl⟩) dX3_partEver_28

set_option maxHeartbeats 4000000 in
set_option maxRecDepth 100000 in
theorem m_partEver_no {l : Launch} {D : va_G} {kc : Nat → ClassId} {N : Nat} {ad : Nat → Nat} {S : St} {b : Bs} (hg : vg N) (hN : N = 66 + 15 * bn b) (hI : Inv b) (hP : RP S b) {z : Int} (rz : r32 z) (hz : ¬ (0 ≤ z ∧ z < b 0 0)) : MetK l yX3_partEver cX3_partEver 2 (some (FieldType.object "RisingPage$Part")) 1 0 0 24 D kc (wl kc N ad S) [.ref (ad 0), .int (iZ z)] (QR D kc (wl kc N ad S) (fun r ws' => r = none ∧ ws' = wl kc N ad S)) := by
  refine MetK.of (by decide +kernel) (Nat.le_of_ble_eq_true rfl) ?_
  intro p e s m below meth c C
  have hA : ∀ q, s.heap.size ≤ q → va_A (wl kc N ad S) s.heap.size q := fun _ h => Or.inr h
  show V p l e { frames := 1, cells := 0, slots := 0, locals := 24 } s m ([.ref (ad 0), .int (iZ z)] : List Value).toArray below meth c (MQ below (QR D kc (wl kc N ad S) (fun r ws' => r = none ∧ ws' = wl kc N ad S) s.heap.size) ([.ref (ad 0), .int (iZ z)] : List Value).toArray s 0 0 (va_A (wl kc N ad S) s.heap.size)) D (va_A (wl kc N ad S) s.heap.size) 2 0 0 (wl kc N ad S) 0 [(0, .ref (ad 0)), (1, .int (iZ z))] []
  have hb0 := hI.1
  refine v_iload_n 0 1 C dX3_partEver_0 rfl ?_
  refine z_if_lt 1 27 C (by first | assumption | exact ⟨by omega, by omega⟩) dX3_partEver_1 (by decide) (fun c1_0 => ?_) (fun c1_0 => ?_)
  · skip
    refine v_null 27 C dX3_partEver_27 ?_
    exact v_aret 28 C none (rfl) (⟨rfl, rfl⟩) dX3_partEver_28
  · skip
    refine v_iload_n 4 1 C dX3_partEver_4 rfl ?_
    refine v_aload_n 5 0 C dX3_partEver_5 rfl ?_
    refine g_Pg_made 6 C (vg.o hg).1 (vg.o hg).2 lk_216 dX3_partEver_6 ?_
    refine v_eqi (iZ (b 0 0)) (hP.1.2.2) ?_
    refine z_icmp_ge 9 27 C (by first | assumption | exact ⟨by omega, by omega⟩) (by first | assumption | exact ⟨by omega, by omega⟩) dX3_partEver_9 (by decide) (fun c9_1 => ?_) (fun c9_1 => absurd (by omega) c9_1)
    refine v_null 27 C dX3_partEver_27 ?_
    exact v_aret 28 C none (rfl) (⟨rfl, rfl⟩) dX3_partEver_28

set_option maxHeartbeats 4000000 in
set_option maxRecDepth 100000 in
theorem m_partThere {l : Launch} {D : va_G} {kc : Nat → ClassId} {N : Nat} {ad : Nat → Nat} {S : St} {b : Bs} (hg : vg N) (hN : N = 66 + 15 * bn b) (hI : Inv b) (hP : RP S b) {k : Nat} (hk : k < bn b) (ht : b 8 k = 1) : MetK l yX3_partThere cX3_partThere 3 (some (FieldType.object "RisingPage$Part")) 2 0 0 45 D kc (wl kc N ad S) [.ref (ad 0), .int (iZ (k : Int))] (QR D kc (wl kc N ad S) (fun r ws' => r = some (ad (66 + 15 * k)) ∧ ws' = wl kc N ad S)) := by
  refine MetK.of (by decide +kernel) (Nat.le_of_ble_eq_true rfl) ?_
  intro p e s m below meth c C
  have hA : ∀ q, s.heap.size ≤ q → va_A (wl kc N ad S) s.heap.size q := fun _ h => Or.inr h
  show V p l e { frames := 2, cells := 0, slots := 0, locals := 45 } s m ([.ref (ad 0), .int (iZ (k : Int))] : List Value).toArray below meth c (MQ below (QR D kc (wl kc N ad S) (fun r ws' => r = some (ad (66 + 15 * k)) ∧ ws' = wl kc N ad S) s.heap.size) ([.ref (ad 0), .int (iZ (k : Int))] : List Value).toArray s 0 0 (va_A (wl kc N ad S) s.heap.size)) D (va_A (wl kc N ad S) s.heap.size) 3 0 0 (wl kc N ad S) 0 [(0, .ref (ad 0)), (1, .int (iZ (k : Int)))] []
  refine v_aload_n 0 0 C dX3_partThere_0 rfl ?_
  refine v_iload_n 1 1 C dX3_partThere_1 rfl ?_
  refine v_callq 2 hA (rV_Pg 2 C L_RX3_208 lk_248 lk_4 (m_partEver hg hN hI hP hk) (vg.o hg) rfl ⟨rfl, rfl⟩ (rm_ok rfl) dX3_partThere_2) (fun r1 w2 h3 => ?_)
  obtain ⟨e_r1, rfl⟩ := h3
  refine v_eqv (.ref (ad (66 + 15 * k))) (by rw [e_r1]; rfl) ?_
  refine v_astore_n 5 [(2, .ref (ad (66 + 15 * k))), (0, .ref (ad 0)), (1, .int (iZ (k : Int)))] C dX3_partThere_5 (by decide) rfl ?_
  refine v_aload_n 6 0 C dX3_partThere_6 rfl ?_
  refine v_ifnull 7 C dX3_partThere_7 ?_
  refine v_aload_n 10 0 C dX3_partThere_10 rfl ?_
  refine g_Pt_there 11 C (vp.o (vp_k hN hk)).1 (vp.o (vp_k hN hk)).2 lk_144 dX3_partThere_11 ?_
  refine v_eqi (iZ 1) (by rw [(hP.2.2.2.2.2 k hk).2.2.2.2.2.2.1, ht]) ?_
  refine z_if_eq 14 21 C (by first | assumption | exact ⟨by omega, by omega⟩) dX3_partThere_14 (by decide) (fun c14_0 => absurd c14_0 (by decide)) (fun c14_0 => ?_)
  refine v_aload_n 17 0 C dX3_partThere_17 rfl ?_
  refine v_goto 18 22 C dX3_partThere_18 (by decide) ?_
  exact v_aret 22 C (some (ad (66 + 15 * k))) (rfl) (⟨rfl, rfl⟩) dX3_partThere_22

set_option maxHeartbeats 4000000 in
set_option maxRecDepth 100000 in
theorem m_partThere_no {l : Launch} {D : va_G} {kc : Nat → ClassId} {N : Nat} {ad : Nat → Nat} {S : St} {b : Bs} (hg : vg N) (hN : N = 66 + 15 * bn b) (hI : Inv b) (hP : RP S b) {z : Int} (rz : r32 z) (hp : ¬ isP b z) : MetK l yX3_partThere cX3_partThere 3 (some (FieldType.object "RisingPage$Part")) 2 0 0 45 D kc (wl kc N ad S) [.ref (ad 0), .int (iZ z)] (QR D kc (wl kc N ad S) (fun r ws' => r = none ∧ ws' = wl kc N ad S)) := by
  refine MetK.of (by decide +kernel) (Nat.le_of_ble_eq_true rfl) ?_
  intro p e s m below meth c C
  have hA : ∀ q, s.heap.size ≤ q → va_A (wl kc N ad S) s.heap.size q := fun _ h => Or.inr h
  show V p l e { frames := 2, cells := 0, slots := 0, locals := 45 } s m ([.ref (ad 0), .int (iZ z)] : List Value).toArray below meth c (MQ below (QR D kc (wl kc N ad S) (fun r ws' => r = none ∧ ws' = wl kc N ad S) s.heap.size) ([.ref (ad 0), .int (iZ z)] : List Value).toArray s 0 0 (va_A (wl kc N ad S) s.heap.size)) D (va_A (wl kc N ad S) s.heap.size) 3 0 0 (wl kc N ad S) 0 [(0, .ref (ad 0)), (1, .int (iZ z))] []
  have hb0 := hI.1
  by_cases hz : 0 ≤ z ∧ z < b 0 0
  · obtain ⟨k, hk, rfl⟩ : ∃ k : Nat, k < bn b ∧ z = (k : Int) := ⟨z.toNat, by omega, by omega⟩
    have ht : b 8 k = 0 := by
      rcases (hI.2.2.2.1 k hk).2.2.1 with q | q
      · exact q
      · exact absurd (isP_k hI hk q) hp
    refine v_aload_n 0 0 C dX3_partThere_0 rfl ?_
    refine v_iload_n 1 1 C dX3_partThere_1 rfl ?_
    refine v_callq 2 hA (rV_Pg 2 C L_RX3_208 lk_248 lk_4 (m_partEver hg hN hI hP hk) (vg.o hg) rfl ⟨rfl, rfl⟩ (rm_ok rfl) dX3_partThere_2) (fun r1 w2 h3 => ?_)
    obtain ⟨e_r1, rfl⟩ := h3
    refine v_eqv (.ref (ad (66 + 15 * k))) (by rw [e_r1]; rfl) ?_
    refine v_astore_n 5 [(2, .ref (ad (66 + 15 * k))), (0, .ref (ad 0)), (1, .int (iZ (k : Int)))] C dX3_partThere_5 (by decide) rfl ?_
    refine v_aload_n 6 0 C dX3_partThere_6 rfl ?_
    refine v_ifnull 7 C dX3_partThere_7 ?_
    refine v_aload_n 10 0 C dX3_partThere_10 rfl ?_
    refine g_Pt_there 11 C (vp.o (vp_k hN hk)).1 (vp.o (vp_k hN hk)).2 lk_144 dX3_partThere_11 ?_
    refine v_eqi (iZ 0) (by rw [(hP.2.2.2.2.2 k hk).2.2.2.2.2.2.1, ht]) ?_
    refine z_if_eq 14 21 C (by first | assumption | exact ⟨by omega, by omega⟩) dX3_partThere_14 (by decide) (fun c14_0 => ?_) (fun c14_0 => absurd (rfl) c14_0)
    refine v_null 21 C dX3_partThere_21 ?_
    exact v_aret 22 C none (rfl) (⟨rfl, rfl⟩) dX3_partThere_22
  · skip
    refine v_aload_n 0 0 C dX3_partThere_0 rfl ?_
    refine v_iload_n 1 1 C dX3_partThere_1 rfl ?_
    refine v_callq 2 hA (rV_Pg 2 C L_RX3_208 lk_248 lk_4 (m_partEver_no hg hN hI hP rz hz) (vg.o hg) rfl ⟨rfl, rfl⟩ (rm_ok rfl) dX3_partThere_2) (fun r4 w5 h6 => ?_)
    obtain ⟨e_r4, rfl⟩ := h6
    refine v_eqv .null (by rw [e_r4]; rfl) ?_
    refine v_astore_nN 5 [(2, .null), (0, .ref (ad 0)), (1, .int (iZ z))] C dX3_partThere_5 (by decide) rfl ?_
    refine v_aload_nN 6 0 C dX3_partThere_6 rfl ?_
    refine v_ifnullN 7 21 C dX3_partThere_7 (by decide) ?_
    refine v_null 21 C dX3_partThere_21 ?_
    exact v_aret 22 C none (rfl) (⟨rfl, rfl⟩) dX3_partThere_22

set_option maxHeartbeats 4000000 in
set_option maxRecDepth 100000 in
theorem m_planeThere {l : Launch} {D : va_G} {kc : Nat → ClassId} {N : Nat} {ad : Nat → Nat} {S : St} {b : Bs} (hg : vg N) (hN : N = 66 + 15 * bn b) (hI : Inv b) (hP : RP S b) {q : Nat} (hq : thL b q) : MetK l yX3_planeThere cX3_planeThere 2 (some (FieldType.object "RisingPage$Plane")) 1 0 0 24 D kc (wl kc N ad S) [.ref (ad 0), .int (iZ (q : Int))] (QR D kc (wl kc N ad S) (fun r ws' => r = some (ad (plN q)) ∧ ws' = wl kc N ad S)) := by
  refine MetK.of (by decide +kernel) (Nat.le_of_ble_eq_true rfl) ?_
  intro p e s m below meth c C
  have hA : ∀ q, s.heap.size ≤ q → va_A (wl kc N ad S) s.heap.size q := fun _ h => Or.inr h
  show V p l e { frames := 1, cells := 0, slots := 0, locals := 24 } s m ([.ref (ad 0), .int (iZ (q : Int))] : List Value).toArray below meth c (MQ below (QR D kc (wl kc N ad S) (fun r ws' => r = some (ad (plN q)) ∧ ws' = wl kc N ad S) s.heap.size) ([.ref (ad 0), .int (iZ (q : Int))] : List Value).toArray s 0 0 (va_A (wl kc N ad S) s.heap.size)) D (va_A (wl kc N ad S) s.heap.size) 2 0 0 (wl kc N ad S) 0 [(0, .ref (ad 0)), (1, .int (iZ (q : Int)))] []
  have h62 := thL_62 hI hq
  refine v_iload_n 0 1 C dX3_planeThere_0 rfl ?_
  refine z_if_lt 1 19 C (by first | assumption | exact ⟨by omega, by omega⟩) dX3_planeThere_1 (by decide) (fun c1_0 => absurd c1_0 (by omega)) (fun c1_0 => ?_)
  refine v_iload_n 4 1 C dX3_planeThere_4 rfl ?_
  refine v_bipush 5 C (iZ 62) dX3_planeThere_5 (by decide) ?_
  refine z_icmp_ge 7 19 C (by first | assumption | exact ⟨by omega, by omega⟩) (by first | assumption | exact ⟨by omega, by omega⟩) dX3_planeThere_7 (by decide) (fun c7_1 => absurd c7_1 (by omega)) (fun c7_1 => ?_)
  refine v_aload_n 10 0 C dX3_planeThere_10 rfl ?_
  refine g_Pg_planes 11 C (vg.o hg).1 (vg.o hg).2 lk_210 dX3_planeThere_11 ?_
  refine v_iload_n 14 1 C dX3_planeThere_14 rfl ?_
  refine v_aaldL 15 C (vg.q hg).1 (vg.q hg).2 q (izn (by omega)) (by omega) dX3_planeThere_15 ?_
  rw [hP.2.2.2.1 q h62, plI_y hq]
  refine v_goto 16 20 C dX3_planeThere_16 (by decide) ?_
  exact v_aret 20 C (some (ad (plN q))) (rfl) (⟨rfl, rfl⟩) dX3_planeThere_20

set_option maxHeartbeats 4000000 in
set_option maxRecDepth 100000 in
theorem m_planeThere_no {l : Launch} {D : va_G} {kc : Nat → ClassId} {N : Nat} {ad : Nat → Nat} {S : St} {b : Bs} (hg : vg N) (hN : N = 66 + 15 * bn b) (hI : Inv b) (hP : RP S b) {z : Int} (rz : r32 z) (hq : ¬ isL b z) : MetK l yX3_planeThere cX3_planeThere 2 (some (FieldType.object "RisingPage$Plane")) 1 0 0 24 D kc (wl kc N ad S) [.ref (ad 0), .int (iZ z)] (QR D kc (wl kc N ad S) (fun r ws' => r = none ∧ ws' = wl kc N ad S)) := by
  refine MetK.of (by decide +kernel) (Nat.le_of_ble_eq_true rfl) ?_
  intro p e s m below meth c C
  have hA : ∀ q, s.heap.size ≤ q → va_A (wl kc N ad S) s.heap.size q := fun _ h => Or.inr h
  show V p l e { frames := 1, cells := 0, slots := 0, locals := 24 } s m ([.ref (ad 0), .int (iZ z)] : List Value).toArray below meth c (MQ below (QR D kc (wl kc N ad S) (fun r ws' => r = none ∧ ws' = wl kc N ad S) s.heap.size) ([.ref (ad 0), .int (iZ z)] : List Value).toArray s 0 0 (va_A (wl kc N ad S) s.heap.size)) D (va_A (wl kc N ad S) s.heap.size) 2 0 0 (wl kc N ad S) 0 [(0, .ref (ad 0)), (1, .int (iZ z))] []
  refine v_iload_n 0 1 C dX3_planeThere_0 rfl ?_
  refine z_if_lt 1 19 C (by first | assumption | exact ⟨by omega, by omega⟩) dX3_planeThere_1 (by decide) (fun c1_0 => ?_) (fun c1_0 => ?_)
  · skip
    refine v_null 19 C dX3_planeThere_19 ?_
    exact v_aret 20 C none (rfl) (⟨rfl, rfl⟩) dX3_planeThere_20
  · skip
    refine v_iload_n 4 1 C dX3_planeThere_4 rfl ?_
    refine v_bipush 5 C (iZ 62) dX3_planeThere_5 (by decide) ?_
    refine z_icmp_ge 7 19 C (by first | assumption | exact ⟨by omega, by omega⟩) (by first | assumption | exact ⟨by omega, by omega⟩) dX3_planeThere_7 (by decide) (fun c7_1 => ?_) (fun c7_1 => ?_)
    · skip
      refine v_null 19 C dX3_planeThere_19 ?_
      exact v_aret 20 C none (rfl) (⟨rfl, rfl⟩) dX3_planeThere_20
    · skip
      refine v_aload_n 10 0 C dX3_planeThere_10 rfl ?_
      refine g_Pg_planes 11 C (vg.o hg).1 (vg.o hg).2 lk_210 dX3_planeThere_11 ?_
      refine v_iload_n 14 1 C dX3_planeThere_14 rfl ?_
      refine v_aaldL 15 C (vg.q hg).1 (vg.q hg).2 z.toNat (izn (by omega)) (by omega) dX3_planeThere_15 ?_
      rw [hP.2.2.2.1 z.toNat (by omega), plI_n (fun q => hq ⟨by omega, q⟩)]
      refine v_goto 16 20 C dX3_planeThere_16 (by decide) ?_
      exact v_aret 20 C none (rfl) (⟨rfl, rfl⟩) dX3_planeThere_20

def szL (b : Bs) (p : Nat) : Int := if p < 2 then b 1 0 else b 6 (p - 2)
theorem szL_b {b : Bs} (hI : Inv b) {p : Nat} (h : thL b p) : 1 ≤ szL b p ∧ szL b p ≤ 1000 := by
  unfold szL
  split
  · exact hI.2.1
  · have h2 := thL_lt h (by omega)
    exact (hI.2.2.2.2 _ h2.1 (p - 2) (by omega)).2.2.1
theorem szL_S {S : St} {b : Bs} (hP : RP S b) {p : Nat} (h : thL b p) : gI S (plN p) 4 = iZ (szL b p) := by
  unfold szL
  rcases thL_or h with rfl | rfl | ⟨k, w, hw, rfl, hk, ht⟩
  · rw [if_pos (by decide)]; exact hP.2.2.2.2.1.1
  · rw [if_pos (by decide)]; exact hP.2.2.2.2.1.2
  · rw [if_neg (by omega), plN_p k w hw]
    have h2 := (hP.2.2.2.2.2 k hk).2.2.2.2.2.2.2
    rcases (show w = 0 ∨ w = 1 by omega) with rfl | rfl
    · exact h2.1
    · exact h2.2
set_option maxHeartbeats 4000000 in
set_option maxRecDepth 100000 in
theorem m_sizeOf {l : Launch} {D : va_G} {kc : Nat → ClassId} {N : Nat} {ad : Nat → Nat} {S : St} {b : Bs} (hg : vg N) (hN : N = 66 + 15 * bn b) (hI : Inv b) (hP : RP S b) {q : Nat} (hq : thL b q) : MetK l yX3_sizeOf cX3_sizeOf 3 (some FieldType.int) 2 0 0 45 D kc (wl kc N ad S) [.ref (ad 0), .int (iZ (q : Int))] (QI D kc (wl kc N ad S) (fun r ws' => r = iZ (szL b q) ∧ ws' = wl kc N ad S)) := by
  refine MetK.of (by decide +kernel) (Nat.le_of_ble_eq_true rfl) ?_
  intro p e s m below meth c C
  have hA : ∀ q, s.heap.size ≤ q → va_A (wl kc N ad S) s.heap.size q := fun _ h => Or.inr h
  show V p l e { frames := 2, cells := 0, slots := 0, locals := 45 } s m ([.ref (ad 0), .int (iZ (q : Int))] : List Value).toArray below meth c (MQ below (QI D kc (wl kc N ad S) (fun r ws' => r = iZ (szL b q) ∧ ws' = wl kc N ad S) s.heap.size) ([.ref (ad 0), .int (iZ (q : Int))] : List Value).toArray s 0 0 (va_A (wl kc N ad S) s.heap.size)) D (va_A (wl kc N ad S) s.heap.size) 3 0 0 (wl kc N ad S) 0 [(0, .ref (ad 0)), (1, .int (iZ (q : Int)))] []
  refine v_aload_n 0 0 C dX3_sizeOf_0 rfl ?_
  refine v_iload_n 1 1 C dX3_sizeOf_1 rfl ?_
  refine v_callq 2 hA (rV_Pg 2 C L_RX3_138 lk_187 lk_1 (m_planeThere hg hN hI hP hq) (vg.o hg) rfl ⟨rfl, rfl⟩ (rm_ok rfl) dX3_sizeOf_2) (fun r1 w2 h3 => ?_)
  obtain ⟨e_r1, rfl⟩ := h3
  refine v_eqv (.ref (ad (plN q))) (by rw [e_r1]; rfl) ?_
  refine v_astore_n 5 [(2, .ref (ad (plN q))), (0, .ref (ad 0)), (1, .int (iZ (q : Int)))] C dX3_sizeOf_5 (by decide) rfl ?_
  refine v_aload_n 6 0 C dX3_sizeOf_6 rfl ?_
  refine v_ifnonnull 7 14 C dX3_sizeOf_7 (by decide) ?_
  refine v_aload_n 14 0 C dX3_sizeOf_14 rfl ?_
  refine g_Pl_size 15 C (vl.o (vl_p hg hN hq)).1 (vl.o (vl_p hg hN hq)).2 lk_110 dX3_sizeOf_15 ?_
  refine v_eqi (iZ (szL b q)) (szL_S hP hq) ?_
  exact v_iret 18 C (⟨rfl, rfl⟩) dX3_sizeOf_18
