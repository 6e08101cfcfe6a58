/-! MODEL: part, what it refuses -/
abbrev gdP (k a b c d : Int) : Prop := 0 ≤ a ∧ 0 ≤ b ∧ (k = 1 → 0 < a ∧ 0 < b) ∧ (¬ k = 1 → 0 < c) ∧ (k = 0 → 0 < d)
def rmP (b : Bs) (k u a w b_ c d : Int) : Prop := a ≤ szL b u.toNat ∧ b_ ≤ szL b w.toNat ∧ (¬ k = 1 → c ≤ 1000) ∧ (k = 0 → d ≤ 1000) ∧ ¬ b 0 0 = 30
set_option maxHeartbeats 4000000 in
set_option maxRecDepth 100000 in
theorem m4_isGood {l : Launch} {D : va_G} {kc : Nat → ClassId} {N : Nat} {ad : Nat → Nat} {S : St} {kd a b_ c_ d_ : Int} (rk : r32 kd) (ra : r32 a) (rb : r32 b_) (rc : r32 c_) (rd : r32 d_) (hk : 0 ≤ kd ∧ kd ≤ 2) : MetK l yX4_isGood cX4_isGood 6 (some FieldType.boolean) 1 0 0 24 D kc (wl kc N ad S) [.ref (ad 45), .int (iZ kd), .int (iZ a), .int (iZ b_), .int (iZ c_), .int (iZ d_)] (QI D kc (wl kc N ad S) (fun r ws' => r = iZ (bz (decide (gdP kd a b_ c_ d_))) ∧ ws' = wl kc N ad S)) := by
  refine MetK.of (by decide +kernel) (Nat.le_of_ble_eq_true rfl) ?_
  intro p e s m below meth c C
  have hA : ∀ q, s.heap.size ≤ q → va_A (wl kc N ad S) s.heap.size q := fun _ h => Or.inr h
  show V p l e { frames := 1, cells := 0, slots := 0, locals := 24 } s m ([.ref (ad 45), .int (iZ kd), .int (iZ a), .int (iZ b_), .int (iZ c_), .int (iZ d_)] : List Value).toArray below meth c (MQ below (QI D kc (wl kc N ad S) (fun r ws' => r = iZ (bz (decide (gdP kd a b_ c_ d_))) ∧ ws' = wl kc N ad S) s.heap.size) ([.ref (ad 45), .int (iZ kd), .int (iZ a), .int (iZ b_), .int (iZ c_), .int (iZ d_)] : List Value).toArray s 0 0 (va_A (wl kc N ad S) s.heap.size)) D (va_A (wl kc N ad S) s.heap.size) 6 0 0 (wl kc N ad S) 0 [(0, .ref (ad 45)), (1, .int (iZ kd)), (2, .int (iZ a)), (3, .int (iZ b_)), (4, .int (iZ c_)), (5, .int (iZ d_))] []
  refine v_iload_n 0 2 C dX4_isGood_0 rfl ?_
  refine z_if_lt 1 43 C (by first | assumption | exact ⟨by omega, by omega⟩) dX4_isGood_1 (by decide) (fun c1_0 => ?_) (fun c1_0 => ?_)
  · skip
    refine v_iconst 43 C (iZ 0) dX4_isGood_43 rfl ?_
    exact v_zret 44 C (rfl) (⟨bzF (decide_eq_false (by unfold gdP; omega)), rfl⟩) dX4_isGood_44
  · skip
    refine v_iload_n 4 3 C dX4_isGood_4 rfl ?_
    refine z_if_lt 5 43 C (by first | assumption | exact ⟨by omega, by omega⟩) dX4_isGood_5 (by decide) (fun c5_1 => ?_) (fun c5_1 => ?_)
    · skip
      refine v_iconst 43 C (iZ 0) dX4_isGood_43 rfl ?_
      exact v_zret 44 C (rfl) (⟨bzF (decide_eq_false (by unfold gdP; omega)), rfl⟩) dX4_isGood_44
    · skip
      refine v_iload_n 8 1 C dX4_isGood_8 rfl ?_
      refine v_iconst 9 C (iZ 1) dX4_isGood_9 rfl ?_
      refine z_icmp_ne 10 24 C (by first | assumption | exact ⟨by omega, by omega⟩) (by first | assumption | exact ⟨by omega, by omega⟩) dX4_isGood_10 (by decide) (fun c10_2 => ?_) (fun c10_2 => ?_)
      · skip
        refine v_iload 24 4 C dX4_isGood_24 rfl ?_
        refine z_if_le 26 43 C (by first | assumption | exact ⟨by omega, by omega⟩) dX4_isGood_26 (by decide) (fun c26_3 => ?_) (fun c26_3 => ?_)
        · skip
          refine v_iconst 43 C (iZ 0) dX4_isGood_43 rfl ?_
          exact v_zret 44 C (rfl) (⟨bzF (decide_eq_false (by unfold gdP; omega)), rfl⟩) dX4_isGood_44
        · skip
          refine v_iload_n 29 1 C dX4_isGood_29 rfl ?_
          refine v_iconst 30 C (iZ 2) dX4_isGood_30 rfl ?_
          refine z_icmp_eq 31 39 C (by first | assumption | exact ⟨by omega, by omega⟩) (by first | assumption | exact ⟨by omega, by omega⟩) dX4_isGood_31 (by decide) (fun c31_4 => ?_) (fun c31_4 => ?_)
          · skip
            refine v_iconst 39 C (iZ 1) dX4_isGood_39 rfl ?_
            refine v_goto 40 44 C dX4_isGood_40 (by decide) ?_
            exact v_zret 44 C (rfl) (⟨bzT (decide_eq_true (by unfold gdP; omega)), rfl⟩) dX4_isGood_44
          · skip
            refine v_iload 34 5 C dX4_isGood_34 rfl ?_
            refine z_if_le 36 43 C (by first | assumption | exact ⟨by omega, by omega⟩) dX4_isGood_36 (by decide) (fun c36_5 => ?_) (fun c36_5 => ?_)
            · skip
              refine v_iconst 43 C (iZ 0) dX4_isGood_43 rfl ?_
              exact v_zret 44 C (rfl) (⟨bzF (decide_eq_false (by unfold gdP; omega)), rfl⟩) dX4_isGood_44
            · skip
              refine v_iconst 39 C (iZ 1) dX4_isGood_39 rfl ?_
              refine v_goto 40 44 C dX4_isGood_40 (by decide) ?_
              exact v_zret 44 C (rfl) (⟨bzT (decide_eq_true (by unfold gdP; omega)), rfl⟩) dX4_isGood_44
      · skip
        refine v_iload_n 13 2 C dX4_isGood_13 rfl ?_
        refine z_if_le 14 43 C (by first | assumption | exact ⟨by omega, by omega⟩) dX4_isGood_14 (by decide) (fun c14_3 => ?_) (fun c14_3 => ?_)
        · skip
          refine v_iconst 43 C (iZ 0) dX4_isGood_43 rfl ?_
          exact v_zret 44 C (rfl) (⟨bzF (decide_eq_false (by unfold gdP; omega)), rfl⟩) dX4_isGood_44
        · skip
          refine v_iload_n 17 3 C dX4_isGood_17 rfl ?_
          refine z_if_le 18 43 C (by first | assumption | exact ⟨by omega, by omega⟩) dX4_isGood_18 (by decide) (fun c18_4 => ?_) (fun c18_4 => ?_)
          · skip
            refine v_iconst 43 C (iZ 0) dX4_isGood_43 rfl ?_
            exact v_zret 44 C (rfl) (⟨bzF (decide_eq_false (by unfold gdP; omega)), rfl⟩) dX4_isGood_44
          · skip
            refine v_goto 21 39 C dX4_isGood_21 (by decide) ?_
            refine v_iconst 39 C (iZ 1) dX4_isGood_39 rfl ?_
            refine v_goto 40 44 C dX4_isGood_40 (by decide) ?_
            exact v_zret 44 C (rfl) (⟨bzT (decide_eq_true (by unfold gdP; omega)), rfl⟩) dX4_isGood_44

set_option maxHeartbeats 4000000 in
set_option maxRecDepth 100000 in
theorem d_part_nn {l : Launch} {D : va_G} {kc : Nat → ClassId} {N : Nat} {ad : Nat → Nat} {S : St} {b : Bs} (hm : vm N) (hI : Inv b) (hM : RM S b) {t : Ts} (hE : LE b t) {z y : Int} (rz : r32 z) (ry : r32 y) (hz : ¬ isL b z) (hy : ¬ isL b y) {kd a b_ c_ d_ f : Int} (rk : r32 kd) (ra : r32 a) (rb : r32 b_) (rc : r32 c_) (rd : r32 d_) (hf : b01 f) : MetK l yX4_part cX4_part 15 (some FieldType.int) 6 0 0 166 D kc (wl kc N ad S) [.ref (ad 45), .int (iZ kd), .int (iZ z), .int (iZ a), .int (iZ y), .int (iZ b_), .int (iZ c_), .int (iZ d_), .int (iZ f)] (QI D kc (wl kc N ad S) (mQ kc N ad S (-1) (refB b 1))) := by
  refine MetK.of (by decide +kernel) (Nat.le_of_ble_eq_true rfl) ?_
  intro p e s m below meth c C
  have hA : ∀ q, s.heap.size ≤ q → va_A (wl kc N ad S) s.heap.size q := fun _ h => Or.inr h
  show V p l e { frames := 6, cells := 0, slots := 0, locals := 166 } s m ([.ref (ad 45), .int (iZ kd), .int (iZ z), .int (iZ a), .int (iZ y), .int (iZ b_), .int (iZ c_), .int (iZ d_), .int (iZ f)] : List Value).toArray below meth c (MQ below (QI D kc (wl kc N ad S) (mQ kc N ad S (-1) (refB b 1)) s.heap.size) ([.ref (ad 45), .int (iZ kd), .int (iZ z), .int (iZ a), .int (iZ y), .int (iZ b_), .int (iZ c_), .int (iZ d_), .int (iZ f)] : List Value).toArray s 0 0 (va_A (wl kc N ad S) s.heap.size)) D (va_A (wl kc N ad S) s.heap.size) 15 0 0 (wl kc N ad S) 0 [(0, .ref (ad 45)), (1, .int (iZ kd)), (2, .int (iZ z)), (3, .int (iZ a)), (4, .int (iZ y)), (5, .int (iZ b_)), (6, .int (iZ c_)), (7, .int (iZ d_)), (8, .int (iZ f))] []
  have hb0 := hI.1
  refine v_aload_n 0 0 C dX4_part_0 rfl ?_
  refine v_iload_n 1 2 C dX4_part_1 rfl ?_
  refine v_calli 2 hA (rV_Mo 2 C L_RX4_145 lk_601 lk_23 (m4_isPlane hm hI hM (by first | assumption | exact ⟨by omega, by omega⟩)) (vm.o hm) rfl ⟨rfl, rfl⟩ (rm_ok rfl) dX4_part_2) (fun r1 w2 h3 => ?_)
  obtain ⟨e_r1, rfl⟩ := h3
  refine v_eqi (iZ (bz (isLb b z))) (e_r1) ?_
  refine z_if_eq 5 23 C (bzr _) dX4_part_5 (by decide) (fun c5_0 => ?_) (fun c5_0 => absurd (by rw [isLb_n hI hz]; rfl) c5_0)
  refine v_aload_n 23 0 C dX4_part_23 rfl ?_
  refine v_iconst 24 C (iZ (-1)) dX4_part_24 rfl ?_
  refine v_calli 25 hA (rV_Mo 25 C L_RX4_95 lk_589 lk_22 (m4_refuse hm hI hM 1 (by decide) (by decide)) (vm.o hm) rfl ⟨rfl, rfl⟩ (rm_ok rfl) dX4_part_25) (fun r4 w5 h6 => ?_)
  obtain ⟨e_r4, rfl⟩ := h6
  refine v_eqi (iZ (-1)) (e_r4) ?_
  exact v_iret 28 C (⟨rfl, refM4 S b 1, rfl, refRM hM, refC⟩) dX4_part_28

set_option maxHeartbeats 4000000 in
set_option maxRecDepth 100000 in
theorem d_part_ny {l : Launch} {D : va_G} {kc : Nat → ClassId} {N : Nat} {ad : Nat → Nat} {S : St} {b : Bs} (hm : vm N) (hI : Inv b) (hM : RM S b) {t : Ts} (hE : LE b t) {z : Int} {q : Nat} (rz : r32 z) (hz : ¬ isL b z) (hq : thL b q) {kd a b_ c_ d_ f : Int} (rk : r32 kd) (ra : r32 a) (rb : r32 b_) (rc : r32 c_) (rd : r32 d_) (hf : b01 f) : MetK l yX4_part cX4_part 15 (some FieldType.int) 6 0 0 166 D kc (wl kc N ad S) [.ref (ad 45), .int (iZ kd), .int (iZ z), .int (iZ a), .int (iZ (q : Int)), .int (iZ b_), .int (iZ c_), .int (iZ d_), .int (iZ f)] (QI D kc (wl kc N ad S) (mQ kc N ad S (-1) (refB b 1))) := by
  refine MetK.of (by decide +kernel) (Nat.le_of_ble_eq_true rfl) ?_
  intro p e s m below meth c C
  have hA : ∀ q, s.heap.size ≤ q → va_A (wl kc N ad S) s.heap.size q := fun _ h => Or.inr h
  show V p l e { frames := 6, cells := 0, slots := 0, locals := 166 } s m ([.ref (ad 45), .int (iZ kd), .int (iZ z), .int (iZ a), .int (iZ (q : Int)), .int (iZ b_), .int (iZ c_), .int (iZ d_), .int (iZ f)] : List Value).toArray below meth c (MQ below (QI D kc (wl kc N ad S) (mQ kc N ad S (-1) (refB b 1)) s.heap.size) ([.ref (ad 45), .int (iZ kd), .int (iZ z), .int (iZ a), .int (iZ (q : Int)), .int (iZ b_), .int (iZ c_), .int (iZ d_), .int (iZ f)] : List Value).toArray s 0 0 (va_A (wl kc N ad S) s.heap.size)) D (va_A (wl kc N ad S) s.heap.size) 15 0 0 (wl kc N ad S) 0 [(0, .ref (ad 45)), (1, .int (iZ kd)), (2, .int (iZ z)), (3, .int (iZ a)), (4, .int (iZ (q : Int))), (5, .int (iZ b_)), (6, .int (iZ c_)), (7, .int (iZ d_)), (8, .int (iZ f))] []
  have hb0 := hI.1
  refine v_aload_n 0 0 C dX4_part_0 rfl ?_
  refine v_iload_n 1 2 C dX4_part_1 rfl ?_
  refine v_calli 2 hA (rV_Mo 2 C L_RX4_145 lk_601 lk_23 (m4_isPlane hm hI hM (by first | assumption | exact ⟨by omega, by omega⟩)) (vm.o hm) rfl ⟨rfl, rfl⟩ (rm_ok rfl) dX4_part_2) (fun r1 w2 h3 => ?_)
  obtain ⟨e_r1, rfl⟩ := h3
  refine v_eqi (iZ (bz (isLb b z))) (e_r1) ?_
  refine z_if_eq 5 23 C (bzr _) dX4_part_5 (by decide) (fun c5_0 => ?_) (fun c5_0 => absurd (by rw [isLb_n hI hz]; rfl) c5_0)
  refine v_aload_n 23 0 C dX4_part_23 rfl ?_
  refine v_iconst 24 C (iZ (-1)) dX4_part_24 rfl ?_
  refine v_calli 25 hA (rV_Mo 25 C L_RX4_95 lk_589 lk_22 (m4_refuse hm hI hM 1 (by decide) (by decide)) (vm.o hm) rfl ⟨rfl, rfl⟩ (rm_ok rfl) dX4_part_25) (fun r4 w5 h6 => ?_)
  obtain ⟨e_r4, rfl⟩ := h6
  refine v_eqi (iZ (-1)) (e_r4) ?_
  exact v_iret 28 C (⟨rfl, refM4 S b 1, rfl, refRM hM, refC⟩) dX4_part_28

set_option maxHeartbeats 4000000 in
set_option maxRecDepth 100000 in
theorem d_part_yn {l : Launch} {D : va_G} {kc : Nat → ClassId} {N : Nat} {ad : Nat → Nat} {S : St} {b : Bs} (hm : vm N) (hI : Inv b) (hM : RM S b) {t : Ts} (hE : LE b t) {y : Int} {u : Nat} (ry : r32 y) (hu : thL b u) (hy : ¬ isL b y) {kd a b_ c_ d_ f : Int} (rk : r32 kd) (ra : r32 a) (rb : r32 b_) (rc : r32 c_) (rd : r32 d_) (hf : b01 f) : MetK l yX4_part cX4_part 15 (some FieldType.int) 6 0 0 166 D kc (wl kc N ad S) [.ref (ad 45), .int (iZ kd), .int (iZ (u : Int)), .int (iZ a), .int (iZ y), .int (iZ b_), .int (iZ c_), .int (iZ d_), .int (iZ f)] (QI D kc (wl kc N ad S) (mQ kc N ad S (-1) (refB b 1))) := by
  refine MetK.of (by decide +kernel) (Nat.le_of_ble_eq_true rfl) ?_
  intro p e s m below meth c C
  have hA : ∀ q, s.heap.size ≤ q → va_A (wl kc N ad S) s.heap.size q := fun _ h => Or.inr h
  show V p l e { frames := 6, cells := 0, slots := 0, locals := 166 } s m ([.ref (ad 45), .int (iZ kd), .int (iZ (u : Int)), .int (iZ a), .int (iZ y), .int (iZ b_), .int (iZ c_), .int (iZ d_), .int (iZ f)] : List Value).toArray below meth c (MQ below (QI D kc (wl kc N ad S) (mQ kc N ad S (-1) (refB b 1)) s.heap.size) ([.ref (ad 45), .int (iZ kd), .int (iZ (u : Int)), .int (iZ a), .int (iZ y), .int (iZ b_), .int (iZ c_), .int (iZ d_), .int (iZ f)] : List Value).toArray s 0 0 (va_A (wl kc N ad S) s.heap.size)) D (va_A (wl kc N ad S) s.heap.size) 15 0 0 (wl kc N ad S) 0 [(0, .ref (ad 45)), (1, .int (iZ kd)), (2, .int (iZ (u : Int))), (3, .int (iZ a)), (4, .int (iZ y)), (5, .int (iZ b_)), (6, .int (iZ c_)), (7, .int (iZ d_)), (8, .int (iZ f))] []
  have hb0 := hI.1
  have h62u := thL_62 hI hu
  refine v_aload_n 0 0 C dX4_part_0 rfl ?_
  refine v_iload_n 1 2 C dX4_part_1 rfl ?_
  refine v_calli 2 hA (rV_Mo 2 C L_RX4_145 lk_601 lk_23 (m4_isPlane hm hI hM (by first | assumption | exact ⟨by omega, by omega⟩)) (vm.o hm) rfl ⟨rfl, rfl⟩ (rm_ok rfl) dX4_part_2) (fun r1 w2 h3 => ?_)
  obtain ⟨e_r1, rfl⟩ := h3
  refine v_eqi (iZ (bz (isLb b (u : Int)))) (e_r1) ?_
  refine z_if_eq 5 23 C (bzr _) dX4_part_5 (by decide) (fun c5_0 => absurd c5_0 (by rw [isLb_y hI hu]; decide)) (fun c5_0 => ?_)
  refine v_aload_n 8 0 C dX4_part_8 rfl ?_
  refine v_iload 9 4 C dX4_part_9 rfl ?_
  refine v_calli 11 hA (rV_Mo 11 C L_RX4_145 lk_601 lk_23 (m4_isPlane hm hI hM (by first | assumption | exact ⟨by omega, by omega⟩)) (vm.o hm) rfl ⟨rfl, rfl⟩ (rm_ok rfl) dX4_part_11) (fun r4 w5 h6 => ?_)
  obtain ⟨e_r4, rfl⟩ := h6
  refine v_eqi (iZ (bz (isLb b y))) (e_r4) ?_
  refine z_if_eq 14 23 C (bzr _) dX4_part_14 (by decide) (fun c14_1 => ?_) (fun c14_1 => absurd (by rw [isLb_n hI hy]; rfl) c14_1)
  refine v_aload_n 23 0 C dX4_part_23 rfl ?_
  refine v_iconst 24 C (iZ (-1)) dX4_part_24 rfl ?_
  refine v_calli 25 hA (rV_Mo 25 C L_RX4_95 lk_589 lk_22 (m4_refuse hm hI hM 1 (by decide) (by decide)) (vm.o hm) rfl ⟨rfl, rfl⟩ (rm_ok rfl) dX4_part_25) (fun r7 w8 h9 => ?_)
  obtain ⟨e_r7, rfl⟩ := h9
  refine v_eqi (iZ (-1)) (e_r7) ?_
  exact v_iret 28 C (⟨rfl, refM4 S b 1, rfl, refRM hM, refC⟩) dX4_part_28

set_option maxHeartbeats 4000000 in
set_option maxRecDepth 100000 in
theorem d_part_e {l : Launch} {D : va_G} {kc : Nat → ClassId} {N : Nat} {ad : Nat → Nat} {S : St} {b : Bs} (hm : vm N) (hI : Inv b) (hM : RM S b) {t : Ts} (hE : LE b t) {u q : Nat} (hu : thL b u) (hq : thL b q) (he : u = q) {kd a b_ c_ d_ f : Int} (rk : r32 kd) (ra : r32 a) (rb : r32 b_) (rc : r32 c_) (rd : r32 d_) (hf : b01 f) : MetK l yX4_part cX4_part 15 (some FieldType.int) 6 0 0 166 D kc (wl kc N ad S) [.ref (ad 45), .int (iZ kd), .int (iZ (u : Int)), .int (iZ a), .int (iZ (q : Int)), .int (iZ b_), .int (iZ c_), .int (iZ d_), .int (iZ f)] (QI D kc (wl kc N ad S) (mQ kc N ad S (-1) (refB b 1))) := by
  refine MetK.of (by decide +kernel) (Nat.le_of_ble_eq_true rfl) ?_
  intro p e s m below meth c C
  have hA : ∀ q, s.heap.size ≤ q → va_A (wl kc N ad S) s.heap.size q := fun _ h => Or.inr h
  show V p l e { frames := 6, cells := 0, slots := 0, locals := 166 } s m ([.ref (ad 45), .int (iZ kd), .int (iZ (u : Int)), .int (iZ a), .int (iZ (q : Int)), .int (iZ b_), .int (iZ c_), .int (iZ d_), .int (iZ f)] : List Value).toArray below meth c (MQ below (QI D kc (wl kc N ad S) (mQ kc N ad S (-1) (refB b 1)) s.heap.size) ([.ref (ad 45), .int (iZ kd), .int (iZ (u : Int)), .int (iZ a), .int (iZ (q : Int)), .int (iZ b_), .int (iZ c_), .int (iZ d_), .int (iZ f)] : List Value).toArray s 0 0 (va_A (wl kc N ad S) s.heap.size)) D (va_A (wl kc N ad S) s.heap.size) 15 0 0 (wl kc N ad S) 0 [(0, .ref (ad 45)), (1, .int (iZ kd)), (2, .int (iZ (u : Int))), (3, .int (iZ a)), (4, .int (iZ (q : Int))), (5, .int (iZ b_)), (6, .int (iZ c_)), (7, .int (iZ d_)), (8, .int (iZ f))] []
  have hb0 := hI.1
  have h62u := thL_62 hI hu
  have h62q := thL_62 hI hq
  refine v_aload_n 0 0 C dX4_part_0 rfl ?_
  refine v_iload_n 1 2 C dX4_part_1 rfl ?_
  refine v_calli 2 hA (rV_Mo 2 C L_RX4_145 lk_601 lk_23 (m4_isPlane hm hI hM (by first | assumption | exact ⟨by omega, by omega⟩)) (vm.o hm) rfl ⟨rfl, rfl⟩ (rm_ok rfl) dX4_part_2) (fun r1 w2 h3 => ?_)
  obtain ⟨e_r1, rfl⟩ := h3
  refine v_eqi (iZ (bz (isLb b (u : Int)))) (e_r1) ?_
  refine z_if_eq 5 23 C (bzr _) dX4_part_5 (by decide) (fun c5_0 => absurd c5_0 (by rw [isLb_y hI hu]; decide)) (fun c5_0 => ?_)
  refine v_aload_n 8 0 C dX4_part_8 rfl ?_
  refine v_iload 9 4 C dX4_part_9 rfl ?_
  refine v_calli 11 hA (rV_Mo 11 C L_RX4_145 lk_601 lk_23 (m4_isPlane hm hI hM (by first | assumption | exact ⟨by omega, by omega⟩)) (vm.o hm) rfl ⟨rfl, rfl⟩ (rm_ok rfl) dX4_part_11) (fun r4 w5 h6 => ?_)
  obtain ⟨e_r4, rfl⟩ := h6
  refine v_eqi (iZ (bz (isLb b (q : Int)))) (e_r4) ?_
  refine z_if_eq 14 23 C (bzr _) dX4_part_14 (by decide) (fun c14_1 => absurd c14_1 (by rw [isLb_y hI hq]; decide)) (fun c14_1 => ?_)
  refine v_iload_n 17 2 C dX4_part_17 rfl ?_
  refine v_iload 18 4 C dX4_part_18 rfl ?_
  refine z_icmp_ne 20 29 C (by first | assumption | exact ⟨by omega, by omega⟩) (by first | assumption | exact ⟨by omega, by omega⟩) dX4_part_20 (by decide) (fun c20_2 => absurd c20_2 (by omega)) (fun c20_2 => ?_)
  refine v_aload_n 23 0 C dX4_part_23 rfl ?_
  refine v_iconst 24 C (iZ (-1)) dX4_part_24 rfl ?_
  refine v_calli 25 hA (rV_Mo 25 C L_RX4_95 lk_589 lk_22 (m4_refuse hm hI hM 1 (by decide) (by decide)) (vm.o hm) rfl ⟨rfl, rfl⟩ (rm_ok rfl) dX4_part_25) (fun r7 w8 h9 => ?_)
  obtain ⟨e_r7, rfl⟩ := h9
  refine v_eqi (iZ (-1)) (e_r7) ?_
  exact v_iret 28 C (⟨rfl, refM4 S b 1, rfl, refRM hM, refC⟩) dX4_part_28

set_option maxHeartbeats 4000000 in
set_option maxRecDepth 100000 in
theorem d_part_2 {l : Launch} {D : va_G} {kc : Nat → ClassId} {N : Nat} {ad : Nat → Nat} {S : St} {b : Bs} (hm : vm N) (hI : Inv b) (hM : RM S b) {t : Ts} (hE : LE b t) {u q : Nat} (hu : thL b u) (hq : thL b q) (he : ¬ u = q) {kd a b_ c_ d_ f : Int} (rk : r32 kd) (ra : r32 a) (rb : r32 b_) (rc : r32 c_) (rd : r32 d_) (hf : b01 f) (hk : kd < 0 ∨ 2 < kd) : MetK l yX4_part cX4_part 15 (some FieldType.int) 6 0 0 166 D kc (wl kc N ad S) [.ref (ad 45), .int (iZ kd), .int (iZ (u : Int)), .int (iZ a), .int (iZ (q : Int)), .int (iZ b_), .int (iZ c_), .int (iZ d_), .int (iZ f)] (QI D kc (wl kc N ad S) (mQ kc N ad S (-2) (refB b 2))) := by
  refine MetK.of (by decide +kernel) (Nat.le_of_ble_eq_true rfl) ?_
  intro p e s m below meth c C
  have hA : ∀ q, s.heap.size ≤ q → va_A (wl kc N ad S) s.heap.size q := fun _ h => Or.inr h
  show V p l e { frames := 6, cells := 0, slots := 0, locals := 166 } s m ([.ref (ad 45), .int (iZ kd), .int (iZ (u : Int)), .int (iZ a), .int (iZ (q : Int)), .int (iZ b_), .int (iZ c_), .int (iZ d_), .int (iZ f)] : List Value).toArray below meth c (MQ below (QI D kc (wl kc N ad S) (mQ kc N ad S (-2) (refB b 2)) s.heap.size) ([.ref (ad 45), .int (iZ kd), .int (iZ (u : Int)), .int (iZ a), .int (iZ (q : Int)), .int (iZ b_), .int (iZ c_), .int (iZ d_), .int (iZ f)] : List Value).toArray s 0 0 (va_A (wl kc N ad S) s.heap.size)) D (va_A (wl kc N ad S) s.heap.size) 15 0 0 (wl kc N ad S) 0 [(0, .ref (ad 45)), (1, .int (iZ kd)), (2, .int (iZ (u : Int))), (3, .int (iZ a)), (4, .int (iZ (q : Int))), (5, .int (iZ b_)), (6, .int (iZ c_)), (7, .int (iZ d_)), (8, .int (iZ f))] []
  have hb0 := hI.1
  have h62u := thL_62 hI hu
  have h62q := thL_62 hI hq
  refine v_aload_n 0 0 C dX4_part_0 rfl ?_
  refine v_iload_n 1 2 C dX4_part_1 rfl ?_
  refine v_calli 2 hA (rV_Mo 2 C L_RX4_145 lk_601 lk_23 (m4_isPlane hm hI hM (by first | assumption | exact ⟨by omega, by omega⟩)) (vm.o hm) rfl ⟨rfl, rfl⟩ (rm_ok rfl) dX4_part_2) (fun r1 w2 h3 => ?_)
  obtain ⟨e_r1, rfl⟩ := h3
  refine v_eqi (iZ (bz (isLb b (u : Int)))) (e_r1) ?_
  refine z_if_eq 5 23 C (bzr _) dX4_part_5 (by decide) (fun c5_0 => absurd c5_0 (by rw [isLb_y hI hu]; decide)) (fun c5_0 => ?_)
  refine v_aload_n 8 0 C dX4_part_8 rfl ?_
  refine v_iload 9 4 C dX4_part_9 rfl ?_
  refine v_calli 11 hA (rV_Mo 11 C L_RX4_145 lk_601 lk_23 (m4_isPlane hm hI hM (by first | assumption | exact ⟨by omega, by omega⟩)) (vm.o hm) rfl ⟨rfl, rfl⟩ (rm_ok rfl) dX4_part_11) (fun r4 w5 h6 => ?_)
  obtain ⟨e_r4, rfl⟩ := h6
  refine v_eqi (iZ (bz (isLb b (q : Int)))) (e_r4) ?_
  refine z_if_eq 14 23 C (bzr _) dX4_part_14 (by decide) (fun c14_1 => absurd c14_1 (by rw [isLb_y hI hq]; decide)) (fun c14_1 => ?_)
  refine v_iload_n 17 2 C dX4_part_17 rfl ?_
  refine v_iload 18 4 C dX4_part_18 rfl ?_
  refine z_icmp_ne 20 29 C (by first | assumption | exact ⟨by omega, by omega⟩) (by first | assumption | exact ⟨by omega, by omega⟩) dX4_part_20 (by decide) (fun c20_2 => ?_) (fun c20_2 => absurd c20_2 (by omega))
  refine v_iload_n 29 1 C dX4_part_29 rfl ?_
  refine z_i2l 30 C (by first | assumption | exact ⟨by omega, by omega⟩) dX4_part_30 ?_
  refine v_lconst 31 C (lZ 0) dX4_part_31 (by decide) ?_
  refine v_ldc2 32 C (2) lk_606 dX4_part_32 ?_
  refine v_eql (lZ 2) (by decide) ?_
  refine v_calli 35 hA (rS 35 C L_RX4_83 lk_604 (m4_in (by first | assumption | exact ⟨by omega, by omega⟩) (by decide) (by decide)) rfl rfl (rm_ok rfl) dX4_part_35) (fun r7 w8 h9 => ?_)
  obtain ⟨e_r7, rfl⟩ := h9
  refine v_eqi (iZ (bz (decide (0 ≤ kd ∧ kd ≤ 2)))) (e_r7) ?_
  refine z_if_ne 38 48 C (bzr _) dX4_part_38 (by decide) (fun c38_3 => absurd c38_3 (fun z => z (by rw [decide_eq_false (show ¬ (0 ≤ kd ∧ kd ≤ 2) by omega)]; rfl))) (fun c38_3 => ?_)
  refine v_aload_n 41 0 C dX4_part_41 rfl ?_
  refine v_bipush 42 C (iZ (-2)) dX4_part_42 (by decide) ?_
  refine v_calli 44 hA (rV_Mo 44 C L_RX4_95 lk_589 lk_22 (m4_refuse hm hI hM 2 (by decide) (by decide)) (vm.o hm) rfl ⟨rfl, rfl⟩ (rm_ok rfl) dX4_part_44) (fun r10 w11 h12 => ?_)
  obtain ⟨e_r10, rfl⟩ := h12
  refine v_eqi (iZ (-2)) (e_r10) ?_
  exact v_iret 47 C (⟨rfl, refM4 S b 2, rfl, refRM hM, refC⟩) dX4_part_47

set_option maxHeartbeats 4000000 in
set_option maxRecDepth 100000 in
theorem d_part_4 {l : Launch} {D : va_G} {kc : Nat → ClassId} {N : Nat} {ad : Nat → Nat} {S : St} {b : Bs} (hm : vm N) (hI : Inv b) (hM : RM S b) {t : Ts} (hE : LE b t) {u q : Nat} (hu : thL b u) (hq : thL b q) (he : ¬ u = q) {kd a b_ c_ d_ f : Int} (rk : r32 kd) (ra : r32 a) (rb : r32 b_) (rc : r32 c_) (rd : r32 d_) (hf : b01 f) (hk : 0 ≤ kd ∧ kd ≤ 2) (h4 : ¬ gdP kd a b_ c_ d_) : MetK l yX4_part cX4_part 15 (some FieldType.int) 6 0 0 166 D kc (wl kc N ad S) [.ref (ad 45), .int (iZ kd), .int (iZ (u : Int)), .int (iZ a), .int (iZ (q : Int)), .int (iZ b_), .int (iZ c_), .int (iZ d_), .int (iZ f)] (QI D kc (wl kc N ad S) (mQ kc N ad S (-4) (refB b 4))) := by
  refine MetK.of (by decide +kernel) (Nat.le_of_ble_eq_true rfl) ?_
  intro p e s m below meth c C
  have hA : ∀ q, s.heap.size ≤ q → va_A (wl kc N ad S) s.heap.size q := fun _ h => Or.inr h
  show V p l e { frames := 6, cells := 0, slots := 0, locals := 166 } s m ([.ref (ad 45), .int (iZ kd), .int (iZ (u : Int)), .int (iZ a), .int (iZ (q : Int)), .int (iZ b_), .int (iZ c_), .int (iZ d_), .int (iZ f)] : List Value).toArray below meth c (MQ below (QI D kc (wl kc N ad S) (mQ kc N ad S (-4) (refB b 4)) s.heap.size) ([.ref (ad 45), .int (iZ kd), .int (iZ (u : Int)), .int (iZ a), .int (iZ (q : Int)), .int (iZ b_), .int (iZ c_), .int (iZ d_), .int (iZ f)] : List Value).toArray s 0 0 (va_A (wl kc N ad S) s.heap.size)) D (va_A (wl kc N ad S) s.heap.size) 15 0 0 (wl kc N ad S) 0 [(0, .ref (ad 45)), (1, .int (iZ kd)), (2, .int (iZ (u : Int))), (3, .int (iZ a)), (4, .int (iZ (q : Int))), (5, .int (iZ b_)), (6, .int (iZ c_)), (7, .int (iZ d_)), (8, .int (iZ f))] []
  have hb0 := hI.1
  have h62u := thL_62 hI hu
  have h62q := thL_62 hI hq
  refine v_aload_n 0 0 C dX4_part_0 rfl ?_
  refine v_iload_n 1 2 C dX4_part_1 rfl ?_
  refine v_calli 2 hA (rV_Mo 2 C L_RX4_145 lk_601 lk_23 (m4_isPlane hm hI hM (by first | assumption | exact ⟨by omega, by omega⟩)) (vm.o hm) rfl ⟨rfl, rfl⟩ (rm_ok rfl) dX4_part_2) (fun r1 w2 h3 => ?_)
  obtain ⟨e_r1, rfl⟩ := h3
  refine v_eqi (iZ (bz (isLb b (u : Int)))) (e_r1) ?_
  refine z_if_eq 5 23 C (bzr _) dX4_part_5 (by decide) (fun c5_0 => absurd c5_0 (by rw [isLb_y hI hu]; decide)) (fun c5_0 => ?_)
  refine v_aload_n 8 0 C dX4_part_8 rfl ?_
  refine v_iload 9 4 C dX4_part_9 rfl ?_
  refine v_calli 11 hA (rV_Mo 11 C L_RX4_145 lk_601 lk_23 (m4_isPlane hm hI hM (by first | assumption | exact ⟨by omega, by omega⟩)) (vm.o hm) rfl ⟨rfl, rfl⟩ (rm_ok rfl) dX4_part_11) (fun r4 w5 h6 => ?_)
  obtain ⟨e_r4, rfl⟩ := h6
  refine v_eqi (iZ (bz (isLb b (q : Int)))) (e_r4) ?_
  refine z_if_eq 14 23 C (bzr _) dX4_part_14 (by decide) (fun c14_1 => absurd c14_1 (by rw [isLb_y hI hq]; decide)) (fun c14_1 => ?_)
  refine v_iload_n 17 2 C dX4_part_17 rfl ?_
  refine v_iload 18 4 C dX4_part_18 rfl ?_
  refine z_icmp_ne 20 29 C (by first | assumption | exact ⟨by omega, by omega⟩) (by first | assumption | exact ⟨by omega, by omega⟩) dX4_part_20 (by decide) (fun c20_2 => ?_) (fun c20_2 => absurd c20_2 (by omega))
  refine v_iload_n 29 1 C dX4_part_29 rfl ?_
  refine z_i2l 30 C (by first | assumption | exact ⟨by omega, by omega⟩) dX4_part_30 ?_
  refine v_lconst 31 C (lZ 0) dX4_part_31 (by decide) ?_
  refine v_ldc2 32 C (2) lk_606 dX4_part_32 ?_
  refine v_eql (lZ 2) (by decide) ?_
  refine v_calli 35 hA (rS 35 C L_RX4_83 lk_604 (m4_in (by first | assumption | exact ⟨by omega, by omega⟩) (by decide) (by decide)) rfl rfl (rm_ok rfl) dX4_part_35) (fun r7 w8 h9 => ?_)
  obtain ⟨e_r7, rfl⟩ := h9
  refine v_eqi (iZ (bz (decide (0 ≤ kd ∧ kd ≤ 2)))) (e_r7) ?_
  refine z_if_ne 38 48 C (bzr _) dX4_part_38 (by decide) (fun c38_3 => ?_) (fun c38_3 => absurd c38_3 (by rw [decide_eq_true (show 0 ≤ kd ∧ kd ≤ 2 by omega)]; decide))
  refine v_aload_n 48 0 C dX4_part_48 rfl ?_
  refine v_iload_n 49 1 C dX4_part_49 rfl ?_
  refine v_iload_n 50 3 C dX4_part_50 rfl ?_
  refine v_iload 51 5 C dX4_part_51 rfl ?_
  refine v_iload 53 6 C dX4_part_53 rfl ?_
  refine v_iload 55 7 C dX4_part_55 rfl ?_
  refine v_calli 57 hA (rV_Mo 57 C L_RX4_148 lk_609 lk_24 (m4_isGood rk ra rb rc rd (by omega)) (vm.o hm) rfl ⟨rfl, rfl⟩ (rm_ok rfl) dX4_part_57) (fun r10 w11 h12 => ?_)
  obtain ⟨e_r10, rfl⟩ := h12
  refine v_eqi (iZ (bz (decide (gdP kd a b_ c_ d_)))) (e_r10) ?_
  refine z_if_ne 60 70 C (bzr _) dX4_part_60 (by decide) (fun c60_4 => absurd c60_4 (fun z => z (by rw [decide_eq_false h4]; rfl))) (fun c60_4 => ?_)
  refine v_aload_n 63 0 C dX4_part_63 rfl ?_
  refine v_bipush 64 C (iZ (-4)) dX4_part_64 (by decide) ?_
  refine v_calli 66 hA (rV_Mo 66 C L_RX4_95 lk_589 lk_22 (m4_refuse hm hI hM 4 (by decide) (by decide)) (vm.o hm) rfl ⟨rfl, rfl⟩ (rm_ok rfl) dX4_part_66) (fun r13 w14 h15 => ?_)
  obtain ⟨e_r13, rfl⟩ := h15
  refine v_eqi (iZ (-4)) (e_r13) ?_
  exact v_iret 69 C (⟨rfl, refM4 S b 4, rfl, refRM hM, refC⟩) dX4_part_69

set_option maxHeartbeats 4000000 in
set_option maxRecDepth 100000 in
theorem d_part_6 {l : Launch} {D : va_G} {kc : Nat → ClassId} {N : Nat} {ad : Nat → Nat} {S : St} {b : Bs} (hm : vm N) (hI : Inv b) (hM : RM S b) {t : Ts} (hE : LE b t) {u q : Nat} (hu : thL b u) (hq : thL b q) (he : ¬ u = q) {kd a b_ c_ d_ f : Int} (rk : r32 kd) (ra : r32 a) (rb : r32 b_) (rc : r32 c_) (rd : r32 d_) (hf : b01 f) (hk : 0 ≤ kd ∧ kd ≤ 2) (h4 : gdP kd a b_ c_ d_) (h6 : ¬ rmP b kd u a q b_ c_ d_) : MetK l yX4_part cX4_part 15 (some FieldType.int) 6 0 0 166 D kc (wl kc N ad S) [.ref (ad 45), .int (iZ kd), .int (iZ (u : Int)), .int (iZ a), .int (iZ (q : Int)), .int (iZ b_), .int (iZ c_), .int (iZ d_), .int (iZ f)] (QI D kc (wl kc N ad S) (mQ kc N ad S (-6) (refB b 6))) := by
  refine MetK.of (by decide +kernel) (Nat.le_of_ble_eq_true rfl) ?_
  intro p e s m below meth c C
  have hA : ∀ q, s.heap.size ≤ q → va_A (wl kc N ad S) s.heap.size q := fun _ h => Or.inr h
  show V p l e { frames := 6, cells := 0, slots := 0, locals := 166 } s m ([.ref (ad 45), .int (iZ kd), .int (iZ (u : Int)), .int (iZ a), .int (iZ (q : Int)), .int (iZ b_), .int (iZ c_), .int (iZ d_), .int (iZ f)] : List Value).toArray below meth c (MQ below (QI D kc (wl kc N ad S) (mQ kc N ad S (-6) (refB b 6)) s.heap.size) ([.ref (ad 45), .int (iZ kd), .int (iZ (u : Int)), .int (iZ a), .int (iZ (q : Int)), .int (iZ b_), .int (iZ c_), .int (iZ d_), .int (iZ f)] : List Value).toArray s 0 0 (va_A (wl kc N ad S) s.heap.size)) D (va_A (wl kc N ad S) s.heap.size) 15 0 0 (wl kc N ad S) 0 [(0, .ref (ad 45)), (1, .int (iZ kd)), (2, .int (iZ (u : Int))), (3, .int (iZ a)), (4, .int (iZ (q : Int))), (5, .int (iZ b_)), (6, .int (iZ c_)), (7, .int (iZ d_)), (8, .int (iZ f))] []
  have hb0 := hI.1
  have h62u := thL_62 hI hu
  have h62q := thL_62 hI hq
  have hszu := szL_b hI hu
  have hszq := szL_b hI hq
  have hn30 := hI.1
  refine v_aload_n 0 0 C dX4_part_0 rfl ?_
  refine v_iload_n 1 2 C dX4_part_1 rfl ?_
  refine v_calli 2 hA (rV_Mo 2 C L_RX4_145 lk_601 lk_23 (m4_isPlane hm hI hM (by first | assumption | exact ⟨by omega, by omega⟩)) (vm.o hm) rfl ⟨rfl, rfl⟩ (rm_ok rfl) dX4_part_2) (fun r1 w2 h3 => ?_)
  obtain ⟨e_r1, rfl⟩ := h3
  refine v_eqi (iZ (bz (isLb b (u : Int)))) (e_r1) ?_
  refine z_if_eq 5 23 C (bzr _) dX4_part_5 (by decide) (fun c5_0 => absurd c5_0 (by rw [isLb_y hI hu]; decide)) (fun c5_0 => ?_)
  refine v_aload_n 8 0 C dX4_part_8 rfl ?_
  refine v_iload 9 4 C dX4_part_9 rfl ?_
  refine v_calli 11 hA (rV_Mo 11 C L_RX4_145 lk_601 lk_23 (m4_isPlane hm hI hM (by first | assumption | exact ⟨by omega, by omega⟩)) (vm.o hm) rfl ⟨rfl, rfl⟩ (rm_ok rfl) dX4_part_11) (fun r4 w5 h6 => ?_)
  obtain ⟨e_r4, rfl⟩ := h6
  refine v_eqi (iZ (bz (isLb b (q : Int)))) (e_r4) ?_
  refine z_if_eq 14 23 C (bzr _) dX4_part_14 (by decide) (fun c14_1 => absurd c14_1 (by rw [isLb_y hI hq]; decide)) (fun c14_1 => ?_)
  refine v_iload_n 17 2 C dX4_part_17 rfl ?_
  refine v_iload 18 4 C dX4_part_18 rfl ?_
  refine z_icmp_ne 20 29 C (by first | assumption | exact ⟨by omega, by omega⟩) (by first | assumption | exact ⟨by omega, by omega⟩) dX4_part_20 (by decide) (fun c20_2 => ?_) (fun c20_2 => absurd c20_2 (by omega))
  refine v_iload_n 29 1 C dX4_part_29 rfl ?_
  refine z_i2l 30 C (by first | assumption | exact ⟨by omega, by omega⟩) dX4_part_30 ?_
  refine v_lconst 31 C (lZ 0) dX4_part_31 (by decide) ?_
  refine v_ldc2 32 C (2) lk_606 dX4_part_32 ?_
  refine v_eql (lZ 2) (by decide) ?_
  refine v_calli 35 hA (rS 35 C L_RX4_83 lk_604 (m4_in (by first | assumption | exact ⟨by omega, by omega⟩) (by decide) (by decide)) rfl rfl (rm_ok rfl) dX4_part_35) (fun r7 w8 h9 => ?_)
  obtain ⟨e_r7, rfl⟩ := h9
  refine v_eqi (iZ (bz (decide (0 ≤ kd ∧ kd ≤ 2)))) (e_r7) ?_
  refine z_if_ne 38 48 C (bzr _) dX4_part_38 (by decide) (fun c38_3 => ?_) (fun c38_3 => absurd c38_3 (by rw [decide_eq_true (show 0 ≤ kd ∧ kd ≤ 2 by omega)]; decide))
  refine v_aload_n 48 0 C dX4_part_48 rfl ?_
  refine v_iload_n 49 1 C dX4_part_49 rfl ?_
  refine v_iload_n 50 3 C dX4_part_50 rfl ?_
  refine v_iload 51 5 C dX4_part_51 rfl ?_
  refine v_iload 53 6 C dX4_part_53 rfl ?_
  refine v_iload 55 7 C dX4_part_55 rfl ?_
  refine v_calli 57 hA (rV_Mo 57 C L_RX4_148 lk_609 lk_24 (m4_isGood rk ra rb rc rd (by omega)) (vm.o hm) rfl ⟨rfl, rfl⟩ (rm_ok rfl) dX4_part_57) (fun r10 w11 h12 => ?_)
  obtain ⟨e_r10, rfl⟩ := h12
  refine v_eqi (iZ (bz (decide (gdP kd a b_ c_ d_)))) (e_r10) ?_
  refine z_if_ne 60 70 C (bzr _) dX4_part_60 (by decide) (fun c60_4 => ?_) (fun c60_4 => absurd c60_4 (by rw [decide_eq_true h4]; decide))
  refine v_iload_n 70 3 C dX4_part_70 rfl ?_
  refine v_aload_n 71 0 C dX4_part_71 rfl ?_
  refine v_iload_n 72 2 C dX4_part_72 rfl ?_
  refine v_calli 73 hA (rV_Mo 73 C L_RX4_152 lk_613 lk_25 (m4_sizeOf hm hI hM hu) (vm.o hm) rfl ⟨rfl, rfl⟩ (rm_ok rfl) dX4_part_73) (fun r13 w14 h15 => ?_)
  obtain ⟨e_r13, rfl⟩ := h15
  refine v_eqi (iZ (szL b u)) (e_r13) ?_
  refine z_icmp_gt 76 124 C (by first | assumption | exact ⟨by omega, by omega⟩) (by first | assumption | exact ⟨by omega, by omega⟩) dX4_part_76 (by decide) (fun c76_5 => ?_) (fun c76_5 => ?_)
  · skip
    refine v_aload_n 124 0 C dX4_part_124 rfl ?_
    refine v_bipush 125 C (iZ (-6)) dX4_part_125 (by decide) ?_
    refine v_calli 127 hA (rV_Mo 127 C L_RX4_95 lk_589 lk_22 (m4_refuse hm hI hM 6 (by decide) (by decide)) (vm.o hm) rfl ⟨rfl, rfl⟩ (rm_ok rfl) dX4_part_127) (fun r16 w17 h18 => ?_)
    obtain ⟨e_r16, rfl⟩ := h18
    refine v_eqi (iZ (-6)) (e_r16) ?_
    exact v_iret 130 C (⟨rfl, refM4 S b 6, rfl, refRM hM, refC⟩) dX4_part_130
  · skip
    refine v_iload 79 5 C dX4_part_79 rfl ?_
    refine v_aload_n 81 0 C dX4_part_81 rfl ?_
    refine v_iload 82 4 C dX4_part_82 rfl ?_
    refine v_calli 84 hA (rV_Mo 84 C L_RX4_152 lk_613 lk_25 (m4_sizeOf hm hI hM hq) (vm.o hm) rfl ⟨rfl, rfl⟩ (rm_ok rfl) dX4_part_84) (fun r19 w20 h21 => ?_)
    obtain ⟨e_r19, rfl⟩ := h21
    refine v_eqi (iZ (szL b q)) (e_r19) ?_
    refine z_icmp_gt 87 124 C (by first | assumption | exact ⟨by omega, by omega⟩) (by first | assumption | exact ⟨by omega, by omega⟩) dX4_part_87 (by decide) (fun c87_6 => ?_) (fun c87_6 => ?_)
    · skip
      refine v_aload_n 124 0 C dX4_part_124 rfl ?_
      refine v_bipush 125 C (iZ (-6)) dX4_part_125 (by decide) ?_
      refine v_calli 127 hA (rV_Mo 127 C L_RX4_95 lk_589 lk_22 (m4_refuse hm hI hM 6 (by decide) (by decide)) (vm.o hm) rfl ⟨rfl, rfl⟩ (rm_ok rfl) dX4_part_127) (fun r22 w23 h24 => ?_)
      obtain ⟨e_r22, rfl⟩ := h24
      refine v_eqi (iZ (-6)) (e_r22) ?_
      exact v_iret 130 C (⟨rfl, refM4 S b 6, rfl, refRM hM, refC⟩) dX4_part_130
    · skip
      refine v_iload_n 90 1 C dX4_part_90 rfl ?_
      refine v_iconst 91 C (iZ 1) dX4_part_91 rfl ?_
      refine z_icmp_eq 92 103 C (by first | assumption | exact ⟨by omega, by omega⟩) (by first | assumption | exact ⟨by omega, by omega⟩) dX4_part_92 (by decide) (fun c92_7 => ?_) (fun c92_7 => ?_)
      · skip
        refine v_iload_n 103 1 C dX4_part_103 rfl ?_
        refine z_if_ne 104 115 C (by first | assumption | exact ⟨by omega, by omega⟩) dX4_part_104 (by decide) (fun c104_8 => ?_) (fun c104_8 => ?_)
        · skip
          refine v_aload_n 115 0 C dX4_part_115 rfl ?_
          refine g_Mo_parts 116 C (vm.o hm).1 (vm.o hm).2 lk_501 dX4_part_116 ?_
          refine v_eqi (iZ (b 0 0)) (hM.1.2.2) ?_
          refine v_bipush 119 C (iZ 30) dX4_part_119 (by decide) ?_
          refine z_icmp_ne 121 131 C (by first | assumption | exact ⟨by omega, by omega⟩) (by first | assumption | exact ⟨by omega, by omega⟩) dX4_part_121 (by decide) (fun c121_9 => absurd c121_9 (fun z => h6 (by unfold rmP; rw [Int.toNat_natCast, Int.toNat_natCast]; omega))) (fun c121_9 => ?_)
          refine v_aload_n 124 0 C dX4_part_124 rfl ?_
          refine v_bipush 125 C (iZ (-6)) dX4_part_125 (by decide) ?_
          refine v_calli 127 hA (rV_Mo 127 C L_RX4_95 lk_589 lk_22 (m4_refuse hm hI hM 6 (by decide) (by decide)) (vm.o hm) rfl ⟨rfl, rfl⟩ (rm_ok rfl) dX4_part_127) (fun r25 w26 h27 => ?_)
          obtain ⟨e_r25, rfl⟩ := h27
          refine v_eqi (iZ (-6)) (e_r25) ?_
          exact v_iret 130 C (⟨rfl, refM4 S b 6, rfl, refRM hM, refC⟩) dX4_part_130
        · skip
          refine v_iload 107 7 C dX4_part_107 rfl ?_
          refine v_sipush 109 C (iZ 1000) dX4_part_109 (by decide) ?_
          refine z_icmp_gt 112 124 C (by first | assumption | exact ⟨by omega, by omega⟩) (by first | assumption | exact ⟨by omega, by omega⟩) dX4_part_112 (by decide) (fun c112_9 => ?_) (fun c112_9 => ?_)
          · skip
            refine v_aload_n 124 0 C dX4_part_124 rfl ?_
            refine v_bipush 125 C (iZ (-6)) dX4_part_125 (by decide) ?_
            refine v_calli 127 hA (rV_Mo 127 C L_RX4_95 lk_589 lk_22 (m4_refuse hm hI hM 6 (by decide) (by decide)) (vm.o hm) rfl ⟨rfl, rfl⟩ (rm_ok rfl) dX4_part_127) (fun r28 w29 h30 => ?_)
            obtain ⟨e_r28, rfl⟩ := h30
            refine v_eqi (iZ (-6)) (e_r28) ?_
            exact v_iret 130 C (⟨rfl, refM4 S b 6, rfl, refRM hM, refC⟩) dX4_part_130
          · skip
            refine v_aload_n 115 0 C dX4_part_115 rfl ?_
            refine g_Mo_parts 116 C (vm.o hm).1 (vm.o hm).2 lk_501 dX4_part_116 ?_
            refine v_eqi (iZ (b 0 0)) (hM.1.2.2) ?_
            refine v_bipush 119 C (iZ 30) dX4_part_119 (by decide) ?_
            refine z_icmp_ne 121 131 C (by first | assumption | exact ⟨by omega, by omega⟩) (by first | assumption | exact ⟨by omega, by omega⟩) dX4_part_121 (by decide) (fun c121_10 => absurd c121_10 (fun z => h6 (by unfold rmP; rw [Int.toNat_natCast, Int.toNat_natCast]; omega))) (fun c121_10 => ?_)
            refine v_aload_n 124 0 C dX4_part_124 rfl ?_
            refine v_bipush 125 C (iZ (-6)) dX4_part_125 (by decide) ?_
            refine v_calli 127 hA (rV_Mo 127 C L_RX4_95 lk_589 lk_22 (m4_refuse hm hI hM 6 (by decide) (by decide)) (vm.o hm) rfl ⟨rfl, rfl⟩ (rm_ok rfl) dX4_part_127) (fun r31 w32 h33 => ?_)
            obtain ⟨e_r31, rfl⟩ := h33
            refine v_eqi (iZ (-6)) (e_r31) ?_
            exact v_iret 130 C (⟨rfl, refM4 S b 6, rfl, refRM hM, refC⟩) dX4_part_130
      · skip
        refine v_iload 95 6 C dX4_part_95 rfl ?_
        refine v_sipush 97 C (iZ 1000) dX4_part_97 (by decide) ?_
        refine z_icmp_gt 100 124 C (by first | assumption | exact ⟨by omega, by omega⟩) (by first | assumption | exact ⟨by omega, by omega⟩) dX4_part_100 (by decide) (fun c100_8 => ?_) (fun c100_8 => ?_)
        · skip
          refine v_aload_n 124 0 C dX4_part_124 rfl ?_
          refine v_bipush 125 C (iZ (-6)) dX4_part_125 (by decide) ?_
          refine v_calli 127 hA (rV_Mo 127 C L_RX4_95 lk_589 lk_22 (m4_refuse hm hI hM 6 (by decide) (by decide)) (vm.o hm) rfl ⟨rfl, rfl⟩ (rm_ok rfl) dX4_part_127) (fun r34 w35 h36 => ?_)
          obtain ⟨e_r34, rfl⟩ := h36
          refine v_eqi (iZ (-6)) (e_r34) ?_
          exact v_iret 130 C (⟨rfl, refM4 S b 6, rfl, refRM hM, refC⟩) dX4_part_130
        · skip
          refine v_iload_n 103 1 C dX4_part_103 rfl ?_
          refine z_if_ne 104 115 C (by first | assumption | exact ⟨by omega, by omega⟩) dX4_part_104 (by decide) (fun c104_9 => ?_) (fun c104_9 => ?_)
          · skip
            refine v_aload_n 115 0 C dX4_part_115 rfl ?_
            refine g_Mo_parts 116 C (vm.o hm).1 (vm.o hm).2 lk_501 dX4_part_116 ?_
            refine v_eqi (iZ (b 0 0)) (hM.1.2.2) ?_
            refine v_bipush 119 C (iZ 30) dX4_part_119 (by decide) ?_
            refine z_icmp_ne 121 131 C (by first | assumption | exact ⟨by omega, by omega⟩) (by first | assumption | exact ⟨by omega, by omega⟩) dX4_part_121 (by decide) (fun c121_10 => absurd c121_10 (fun z => h6 (by unfold rmP; rw [Int.toNat_natCast, Int.toNat_natCast]; omega))) (fun c121_10 => ?_)
            refine v_aload_n 124 0 C dX4_part_124 rfl ?_
            refine v_bipush 125 C (iZ (-6)) dX4_part_125 (by decide) ?_
            refine v_calli 127 hA (rV_Mo 127 C L_RX4_95 lk_589 lk_22 (m4_refuse hm hI hM 6 (by decide) (by decide)) (vm.o hm) rfl ⟨rfl, rfl⟩ (rm_ok rfl) dX4_part_127) (fun r37 w38 h39 => ?_)
            obtain ⟨e_r37, rfl⟩ := h39
            refine v_eqi (iZ (-6)) (e_r37) ?_
            exact v_iret 130 C (⟨rfl, refM4 S b 6, rfl, refRM hM, refC⟩) dX4_part_130
          · skip
            refine v_iload 107 7 C dX4_part_107 rfl ?_
            refine v_sipush 109 C (iZ 1000) dX4_part_109 (by decide) ?_
            refine z_icmp_gt 112 124 C (by first | assumption | exact ⟨by omega, by omega⟩) (by first | assumption | exact ⟨by omega, by omega⟩) dX4_part_112 (by decide) (fun c112_10 => ?_) (fun c112_10 => ?_)
            · skip
              refine v_aload_n 124 0 C dX4_part_124 rfl ?_
              refine v_bipush 125 C (iZ (-6)) dX4_part_125 (by decide) ?_
              refine v_calli 127 hA (rV_Mo 127 C L_RX4_95 lk_589 lk_22 (m4_refuse hm hI hM 6 (by decide) (by decide)) (vm.o hm) rfl ⟨rfl, rfl⟩ (rm_ok rfl) dX4_part_127) (fun r40 w41 h42 => ?_)
              obtain ⟨e_r40, rfl⟩ := h42
              refine v_eqi (iZ (-6)) (e_r40) ?_
              exact v_iret 130 C (⟨rfl, refM4 S b 6, rfl, refRM hM, refC⟩) dX4_part_130
            · skip
              refine v_aload_n 115 0 C dX4_part_115 rfl ?_
              refine g_Mo_parts 116 C (vm.o hm).1 (vm.o hm).2 lk_501 dX4_part_116 ?_
              refine v_eqi (iZ (b 0 0)) (hM.1.2.2) ?_
              refine v_bipush 119 C (iZ 30) dX4_part_119 (by decide) ?_
              refine z_icmp_ne 121 131 C (by first | assumption | exact ⟨by omega, by omega⟩) (by first | assumption | exact ⟨by omega, by omega⟩) dX4_part_121 (by decide) (fun c121_11 => absurd c121_11 (fun z => h6 (by unfold rmP; rw [Int.toNat_natCast, Int.toNat_natCast]; omega))) (fun c121_11 => ?_)
              refine v_aload_n 124 0 C dX4_part_124 rfl ?_
              refine v_bipush 125 C (iZ (-6)) dX4_part_125 (by decide) ?_
              refine v_calli 127 hA (rV_Mo 127 C L_RX4_95 lk_589 lk_22 (m4_refuse hm hI hM 6 (by decide) (by decide)) (vm.o hm) rfl ⟨rfl, rfl⟩ (rm_ok rfl) dX4_part_127) (fun r43 w44 h45 => ?_)
              obtain ⟨e_r43, rfl⟩ := h45
              refine v_eqi (iZ (-6)) (e_r43) ?_
              exact v_iret 130 C (⟨rfl, refM4 S b 6, rfl, refRM hM, refC⟩) dX4_part_130
