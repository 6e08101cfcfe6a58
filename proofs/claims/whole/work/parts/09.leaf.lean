theorem tdiv_r64 {a b : Int} (ha : r64 a) (h0 : 0 < b) : r64 (a.tdiv b) ∧ r64 (a.tdiv b * b) := by
  have e1 := Int.mul_tdiv_add_tmod a b
  have h1 := Int.tmod_lt_of_pos a h0
  have h2 := Int.lt_tmod_of_pos a h0
  have h3 : a.tdiv b * b = a - a.tmod b := by rw [Int.mul_comm (a.tdiv b) b]; omega
  have h4 : 0 ≤ a → 0 ≤ a.tmod b ∧ 0 ≤ a.tdiv b ∧ a.tdiv b ≤ a := fun h => ⟨Int.tmod_nonneg b h, Int.tdiv_nonneg h (by omega), by rw [Int.tdiv_eq_ediv_of_nonneg h]; exact Int.ediv_le_self b h⟩
  have h5 : a < 0 → 0 ≤ (-a).tmod b ∧ 0 ≤ (-a).tdiv b ∧ (-a).tdiv b ≤ -a := fun h => ⟨Int.tmod_nonneg b (by omega), Int.tdiv_nonneg (by omega) (by omega), by rw [Int.tdiv_eq_ediv_of_nonneg (by omega)]; exact Int.ediv_le_self b (by omega)⟩
  rw [Int.neg_tmod, Int.neg_tdiv] at h5
  have h6 : 0 ≤ a.tdiv b → 0 ≤ a.tdiv b * b := fun h => Int.mul_nonneg h (by omega)
  have h7 : 0 ≤ -a.tdiv b → 0 ≤ -(a.tdiv b * b) := fun h => by rw [← Int.neg_mul]; exact Int.mul_nonneg h (by omega)
  unfold r64 at *
  by_cases h : 0 ≤ a
  · have := h4 h; have := h6 (by omega); omega
  · have := h5 (by omega); have := h7 (by omega); omega
theorem fd_pos {a b : Int} (ha : r64 a) (hb : r64 b) (h0 : 0 < b) (h : ¬ a < 0) : lZ (a.tdiv b) = lZ (a / b) := by
  rw [Int.tdiv_eq_ediv_of_nonneg (by omega)]
theorem fd_ev {a b : Int} (ha : r64 a) (hb : r64 b) (h0 : 0 < b) (h : lZ (a.tdiv b) * lZ b = lZ a) : lZ (a.tdiv b) = lZ (a / b) := by
  have hr := tdiv_r64 ha h0
  rw [lZ_mul, lZ_eq hr.2 ha] at h
  rw [fdiv_of_tdiv a b h0, if_neg (by omega)]
theorem fd_neg {a b : Int} (ha : r64 a) (hb : r64 b) (h0 : 0 < b) (hn : a < 0) (h : ¬ lZ (a.tdiv b) * lZ b = lZ a) : lZ (a.tdiv b - 1) = lZ (a / b) := by
  have hr := tdiv_r64 ha h0
  rw [lZ_mul, lZ_eq hr.2 ha] at h
  have e1 := Int.mul_tdiv_add_tmod a b
  have h3 : a.tdiv b * b = a - a.tmod b := by rw [Int.mul_comm (a.tdiv b) b]; omega
  have h5 : 0 ≤ (-a).tmod b := Int.tmod_nonneg b (by omega)
  rw [Int.neg_tmod] at h5
  rw [fdiv_of_tdiv a b h0, if_pos (by omega)]
set_option maxHeartbeats 4000000 in
set_option maxRecDepth 100000 in
theorem m_floorDiv {l : Launch} {D : va_G} {kc : Nat → ClassId} {N : Nat} {ad : Nat → Nat} {S : St} {a b : Int} (ha : r64 a) (hb : r64 b) (h0 : 0 < b) : MetK l yJ9_floorDiv_f86c9 cJ9_floorDiv_f86c9 6 (some FieldType.long) 1 0 0 24 D kc (wl kc N ad S) [.long (lZ a), .long (lZ b)] (QL D kc (wl kc N ad S) (fun r ws' => r = lZ (a / b) ∧ ws' = wl kc N ad S)) := by
  refine MetK.of (by decide +kernel) (Nat.le_of_ble_eq_true rfl) ?_
  intro p e s m below meth c C
  have hA : ∀ q, s.heap.size ≤ q → va_A (wl kc N ad S) s.heap.size q := fun _ h => Or.inr h
  show V p l e { frames := 1, cells := 0, slots := 0, locals := 24 } s m ([.long (lZ a), .long (lZ b)] : List Value).toArray below meth c (MQ below (QL D kc (wl kc N ad S) (fun r ws' => r = lZ (a / b) ∧ ws' = wl kc N ad S) s.heap.size) ([.long (lZ a), .long (lZ b)] : List Value).toArray s 0 0 (va_A (wl kc N ad S) s.heap.size)) D (va_A (wl kc N ad S) s.heap.size) 6 0 0 (wl kc N ad S) 0 [(0, .long (lZ a)), (2, .long (lZ b))] []
  refine v_lload_n 0 0 C dJ9_floorDiv_f86c9_0 rfl ?_
  refine v_lload_n 1 1 C dJ9_floorDiv_f86c9_1 rfl ?_
  refine v_ldiv 2 C dJ9_floorDiv_f86c9_2 (fun h => by rw [show (0 : Int64) = lZ 0 from rfl, lZ_eq hb ⟨by decide, by decide⟩] at h; omega) ?_
  refine v_eql (lZ (a.tdiv b)) (lZ_div ha hb h0) ?_
  refine v_lstore 3 [(4, .long (lZ (a.tdiv b))), (0, .long (lZ a)), (2, .long (lZ b))] C dJ9_floorDiv_f86c9_3 (by decide) rfl ?_
  refine v_lload_n 5 1 C dJ9_floorDiv_f86c9_5 rfl ?_
  refine v_lload_n 6 2 C dJ9_floorDiv_f86c9_6 rfl ?_
  refine v_lxor 7 C dJ9_floorDiv_f86c9_7 ?_
  refine v_lconst 8 C 0 dJ9_floorDiv_f86c9_8 rfl ?_
  refine v_lcmp_ge 9 27 C dJ9_floorDiv_f86c9_9 dJ9_floorDiv_f86c9_10 (by decide) (fun c9_0 => ?_) (fun c9_0 => ?_)
  · skip
    replace c9_0 : ¬ a < 0 := fun h => by
      have h2 := (lxor_neg (lZ a) (lZ b) (by rw [lZ_toInt hb]; omega)).mpr (by rw [lZ_toInt ha]; exact h)
      exact absurd h2 (Int64.not_lt.mpr c9_0)
    refine v_lload 27 0 C dJ9_floorDiv_f86c9_27 rfl ?_
    exact v_lret 29 C (⟨by rw [fd_pos ha hb h0 c9_0], rfl⟩) dJ9_floorDiv_f86c9_29
  · skip
    replace c9_0 : a < 0 := by
      have h := Int64.not_le.mp c9_0
      rw [lxor_neg _ _ (by rw [lZ_toInt hb]; omega), lZ_toInt ha] at h
      exact h
    refine v_lload 13 0 C dJ9_floorDiv_f86c9_13 rfl ?_
    refine v_lload_n 15 2 C dJ9_floorDiv_f86c9_15 rfl ?_
    refine v_lmul 16 C dJ9_floorDiv_f86c9_16 ?_
    refine v_lload_n 17 1 C dJ9_floorDiv_f86c9_17 rfl ?_
    refine v_lcmp_eq 18 27 C dJ9_floorDiv_f86c9_18 dJ9_floorDiv_f86c9_19 (by decide) (fun c18_1 => ?_) (fun c18_1 => ?_)
    · skip
      refine v_lload 27 0 C dJ9_floorDiv_f86c9_27 rfl ?_
      exact v_lret 29 C (⟨by rw [fd_ev ha hb h0 c18_1], rfl⟩) dJ9_floorDiv_f86c9_29
    · skip
      refine v_lload 22 0 C dJ9_floorDiv_f86c9_22 rfl ?_
      refine v_lconst 24 C 1 dJ9_floorDiv_f86c9_24 rfl ?_
      refine v_lsub 25 C dJ9_floorDiv_f86c9_25 ?_
      exact v_lret 26 C (⟨by rw [show (1 : Int64) = lZ 1 from rfl, lZ_sub, fd_neg ha hb h0 c9_0 c18_1], rfl⟩) dJ9_floorDiv_f86c9_26

set_option maxHeartbeats 4000000 in
set_option maxRecDepth 100000 in
theorem m_nearest {l : Launch} {D : va_G} {kc : Nat → ClassId} {N : Nat} {ad : Nat → Nat} {S : St} {a b : Int} (ha : -2305843009213693952 ≤ a ∧ a ≤ 2305843009213693952) (hb : 0 < b ∧ b ≤ 2305843009213693952) : MetK l yX3_nearest cX3_nearest 4 (some FieldType.int) 2 0 0 49 D kc (wl kc N ad S) [.long (lZ a), .long (lZ b)] (QI D kc (wl kc N ad S) (fun r ws' => r = iZ (rnd a b) ∧ ws' = wl kc N ad S)) := by
  refine MetK.of (by decide +kernel) (Nat.le_of_ble_eq_true rfl) ?_
  intro p e s m below meth c C
  have hA : ∀ q, s.heap.size ≤ q → va_A (wl kc N ad S) s.heap.size q := fun _ h => Or.inr h
  show V p l e { frames := 2, cells := 0, slots := 0, locals := 49 } s m ([.long (lZ a), .long (lZ b)] : List Value).toArray below meth c (MQ below (QI D kc (wl kc N ad S) (fun r ws' => r = iZ (rnd a b) ∧ ws' = wl kc N ad S) s.heap.size) ([.long (lZ a), .long (lZ b)] : List Value).toArray s 0 0 (va_A (wl kc N ad S) s.heap.size)) D (va_A (wl kc N ad S) s.heap.size) 4 0 0 (wl kc N ad S) 0 [(0, .long (lZ a)), (2, .long (lZ b))] []
  refine v_lload_n 0 1 C dX3_nearest_0 rfl ?_
  refine v_lconst 1 C 0 dX3_nearest_1 rfl ?_
  refine v_lcmp_gt 2 8 C dX3_nearest_2 dX3_nearest_3 (by decide) (fun c2_0 => ?_) (fun c2_0 => absurd ((lZ_lt (a := 0) ⟨by decide, by decide⟩ ⟨by omega, by omega⟩).mpr hb.1) c2_0)
  refine v_ldc2 8 C (2) lk_204 dX3_nearest_8 ?_
  refine v_lload_n 11 0 C dX3_nearest_11 rfl ?_
  refine v_lmul 12 C dX3_nearest_12 ?_
  refine v_lload_n 13 1 C dX3_nearest_13 rfl ?_
  refine v_ladd 14 C dX3_nearest_14 ?_
  refine v_ldc2 15 C (2) lk_204 dX3_nearest_15 ?_
  refine v_lload_n 18 1 C dX3_nearest_18 rfl ?_
  refine v_lmul 19 C dX3_nearest_19 ?_
  rw [show (2 : Int64) = lZ 2 from rfl, lZ_mul, lZ_mul, lZ_add]
  refine v_calll 20 hA (rS 20 C L_RX3_238 lk_206 (m_floorDiv ⟨by omega, by omega⟩ ⟨by omega, by omega⟩ (by omega)) rfl rfl (rm_ok rfl) dX3_nearest_20) (fun r1 w2 h3 => ?_)
  obtain ⟨e_r1, rfl⟩ := h3
  refine v_l2i 23 C dX3_nearest_23 ?_
  rw [e_r1, lZ_i]
  exact v_iret 24 C (⟨rfl, rfl⟩) dX3_nearest_24

theorem rtL_hi {v : Int} (n : Nat) (h : v < (0 + 2 ^ n) * (0 + 2 ^ n)) : rtL (n + 1) 0 v = rtL n 0 v := by
  rw [rtL, if_neg (Int.not_le.mpr h)]
theorem rtL_21 {v : Int} (h : v < 4398046511104) : rtL 21 0 v = isq v :=
  Eq.symm ((rtL_hi 30 (by omega)).trans ((rtL_hi 29 (by omega)).trans ((rtL_hi 28 (by omega)).trans ((rtL_hi 27 (by omega)).trans ((rtL_hi 26 (by omega)).trans ((rtL_hi 25 (by omega)).trans ((rtL_hi 24 (by omega)).trans ((rtL_hi 23 (by omega)).trans ((rtL_hi 22 (by omega)).trans (rtL_hi 21 (by omega)))))))))))
theorem sq64 {a : Int} (h0 : 0 ≤ a) (h : a ≤ 2147483648) : r64 (a * a) := by
  have h1 : a * a ≤ 2147483648 * 2147483648 := Int.mul_le_mul h h h0 (by decide)
  have h2 : 0 ≤ a * a := Int.mul_nonneg h0 h0
  unfold r64
  omega
theorem shl1 (n : Nat) (h : n < 31) : (1 : Int64) <<< ((iZ (n : Int)).toInt64 &&& 63) = lZ (2 ^ n) := by
  have : ∀ n : Nat, n < 31 → (1 : Int64) <<< ((iZ (n : Int)).toInt64 &&& 63) = lZ (2 ^ n) := by decide +kernel
  exact this n h
set_option maxHeartbeats 4000000 in
set_option maxRecDepth 100000 in
theorem m_rootBelow {l : Launch} {D : va_G} {kc : Nat → ClassId} {N : Nat} {ad : Nat → Nat} {S : St} {v : Int} (h0 : 0 ≤ v) (hv : v < 4398046511104) : MetK l yX3_rootBelow cX3_rootBelow 7 (some FieldType.long) 1 0 0 24 D kc (wl kc N ad S) [.long (lZ v)] (QL D kc (wl kc N ad S) (fun r ws' => r = lZ (isq v) ∧ ws' = wl kc N ad S)) := by
  refine MetK.of (by decide +kernel) (Nat.le_of_ble_eq_true rfl) ?_
  intro p e s m below meth c C
  have hA : ∀ q, s.heap.size ≤ q → va_A (wl kc N ad S) s.heap.size q := fun _ h => Or.inr h
  show V p l e { frames := 1, cells := 0, slots := 0, locals := 24 } s m ([.long (lZ v)] : List Value).toArray below meth c (MQ below (QL D kc (wl kc N ad S) (fun r ws' => r = lZ (isq v) ∧ ws' = wl kc N ad S) s.heap.size) ([.long (lZ v)] : List Value).toArray s 0 0 (va_A (wl kc N ad S) s.heap.size)) D (va_A (wl kc N ad S) s.heap.size) 7 0 0 (wl kc N ad S) 0 [(0, .long (lZ v))] []
  have hv64 : r64 v := ⟨by omega, by omega⟩
  have loop : ∀ (n : Nat) (r : Int) (xk : Int32), n ≤ 31 → xk = iZ ((n : Int) - 1) → 0 ≤ r → r + 2 ^ n ≤ 2147483648 → rtL n r v = isq v → V p l e { frames := 1, cells := 0, slots := 0, locals := 24 } s m ([.long (lZ v)] : List Value).toArray below meth c (MQ below (QL D kc (wl kc N ad S) (fun r ws' => r = lZ (isq v) ∧ ws' = wl kc N ad S) s.heap.size) ([.long (lZ v)] : List Value).toArray s 0 0 (va_A (wl kc N ad S) s.heap.size)) D (va_A (wl kc N ad S) s.heap.size) 7 0 0 (wl kc N ad S) 6 [(4, .int xk), (2, .long (lZ r)), (0, .long (lZ v))] [] := by
    intro n
    induction n with
    | zero =>
      intro r xk hn hk h1 h2 h3
      refine v_iload 6 0 C dX3_rootBelow_6 rfl ?_
      refine v_if_lt 8 38 C dX3_rootBelow_8 (by decide) (fun c8_0 => ?_) (fun c8_0 => absurd (by rw [hk]; decide) c8_0)
      refine v_lload_n 38 1 C dX3_rootBelow_38 rfl ?_
      exact v_lret 39 C (⟨by rw [← h3]; rfl, rfl⟩) dX3_rootBelow_39
    | succ n ih =>
      intro r xk hn hk h1 h2 h3
      have hp : (0 : Int) < 2 ^ n := Int.pow_pos (by decide)
      have hq : (2 : Int) ^ (n + 1) = 2 * 2 ^ n := by rw [Int.pow_succ]; omega
      replace hk : xk = iZ (n : Int) := by rw [hk]; congr 1; omega
      rw [hq] at h2
      refine v_iload 6 0 C dX3_rootBelow_6 rfl ?_
      refine v_if_lt 8 38 C dX3_rootBelow_8 (by decide) (fun c8_0 => absurd c8_0 (by rw [hk, show (0 : Int32) = iZ 0 from rfl, iZ_lt ⟨by omega, by omega⟩ ⟨by decide, by decide⟩]; omega)) (fun c8_0 => ?_)
      refine v_lload_n 11 1 C dX3_rootBelow_11 rfl ?_
      refine v_lconst 12 C 1 dX3_rootBelow_12 rfl ?_
      refine v_iload 13 0 C dX3_rootBelow_13 rfl ?_
      refine v_lshl 15 C (v := lZ (2 ^ n)) dX3_rootBelow_15 (by rw [hk]; exact shl1 n (by omega)) ?_
      refine v_ladd 16 C dX3_rootBelow_16 ?_
      refine v_eql (lZ (r + 2 ^ n)) (lZ_add _ _) ?_
      refine v_lstore 17 [(5, .long (lZ (r + 2 ^ n))), (4, .int xk), (2, .long (lZ r)), (0, .long (lZ v))] C dX3_rootBelow_17 (by decide) rfl ?_
      have hsq : r64 ((r + 2 ^ n) * (r + 2 ^ n)) := sq64 (by omega) (by omega)
      refine v_lload 19 0 C dX3_rootBelow_19 rfl ?_
      refine v_lload 21 0 C dX3_rootBelow_21 rfl ?_
      refine v_lmul 23 C dX3_rootBelow_23 ?_
      rw [lZ_mul]
      refine v_lload_n 24 3 C dX3_rootBelow_24 rfl ?_
      refine v_lcmp_gt 25 32 C dX3_rootBelow_25 dX3_rootBelow_26 (by decide) (fun c25_1 => ?_) (fun c25_1 => ?_)
      · skip
        refine v_iinc 32 1 (iZ ((n : Int) - 1)) [(4, .int (iZ ((n : Int) - 1))), (5, .long (lZ (r + 2 ^ n))), (2, .long (lZ r)), (0, .long (lZ v))] C dX3_rootBelow_32 rfl (by rw [hk]; show iZ _ + iZ (-1) = _; rw [iZ_add]; rfl) (by decide) rfl ?_
        refine v_goto 35 6 C dX3_rootBelow_35 (by decide) ?_
        refine v_sub [0, 2, 3] rfl ?_
        exact ih r _ (by omega) rfl h1 (by omega) (by rw [← h3]; rw [rtL, if_neg (fun h => absurd c25_1 (Int64.not_lt.mpr ((lZ_le hsq hv64).mpr h)))])
      · skip
        refine v_lload 29 0 C dX3_rootBelow_29 rfl ?_
        refine v_lstore_n 31 [(2, .long (lZ (r + 2 ^ n))), (5, .long (lZ (r + 2 ^ n))), (4, .int xk), (0, .long (lZ v))] C dX3_rootBelow_31 (by decide) rfl ?_
        refine v_iinc 32 2 (iZ ((n : Int) - 1)) [(4, .int (iZ ((n : Int) - 1))), (2, .long (lZ (r + 2 ^ n))), (5, .long (lZ (r + 2 ^ n))), (0, .long (lZ v))] C dX3_rootBelow_32 rfl (by rw [hk]; show iZ _ + iZ (-1) = _; rw [iZ_add]; rfl) (by decide) rfl ?_
        refine v_goto 35 6 C dX3_rootBelow_35 (by decide) ?_
        refine v_sub [0, 1, 3] rfl ?_
        exact ih (r + 2 ^ n) _ (by omega) rfl (by omega) (by omega) (by rw [← h3]; rw [rtL, if_pos ((lZ_le hsq hv64).mp (Int64.not_lt.mp c25_1))])
  refine v_lconst 0 C 0 dX3_rootBelow_0 rfl ?_
  refine v_lstore_n 1 [(2, .long 0), (0, .long (lZ v))] C dX3_rootBelow_1 (by decide) rfl ?_
  refine v_bipush 2 C 20 dX3_rootBelow_2 rfl ?_
  refine v_istore 4 [(4, .int 20), (2, .long 0), (0, .long (lZ v))] C dX3_rootBelow_4 (by decide) rfl ?_
  refine v_sub [0, 1, 2] rfl ?_
  exact loop 21 0 20 (by decide) rfl (by decide) (by decide) (rtL_21 hv)
