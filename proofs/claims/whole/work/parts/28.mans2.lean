set_option maxHeartbeats 4000000 in
set_option maxRecDepth 100000 in
theorem d_place_p {l : Launch} {D : va_G} {kc : Nat → ClassId} {N : Nat} {ad : Nat → Nat} {S : St} {b : Bs} (hm : vm N) (hI : Inv b) (hM : RM S b) {t : Ts} (hE : LE b t) {z n s_ w : Int} (rz : r32 z) (rn : r32 n) (rs : r32 s_) (rw_ : r32 w) (hz : ¬ isL b z) : MetK l yX4_place cX4_place 5 (some FieldType.int) 6 0 0 166 D kc (wl kc N ad S) [.ref (ad 45), .int (iZ z), .int (iZ n), .int (iZ s_), .int (iZ w)] (QI D kc (wl kc N ad S) (mQ kc N ad S (1000000000 - (-1)) (refB b 1))) := by
  refine MetK.of (by decide +kernel) (Nat.le_of_ble_eq_true rfl) ?_
  intro p e s m below meth c C
  have hA : ∀ q, s.heap.size ≤ q → va_A (wl kc N ad S) s.heap.size q := fun _ h => Or.inr h
  show V p l e { frames := 6, cells := 0, slots := 0, locals := 166 } s m ([.ref (ad 45), .int (iZ z), .int (iZ n), .int (iZ s_), .int (iZ w)] : List Value).toArray below meth c (MQ below (QI D kc (wl kc N ad S) (mQ kc N ad S (1000000000 - (-1)) (refB b 1)) s.heap.size) ([.ref (ad 45), .int (iZ z), .int (iZ n), .int (iZ s_), .int (iZ w)] : List Value).toArray s 0 0 (va_A (wl kc N ad S) s.heap.size)) D (va_A (wl kc N ad S) s.heap.size) 5 0 0 (wl kc N ad S) 0 [(0, .ref (ad 45)), (1, .int (iZ z)), (2, .int (iZ n)), (3, .int (iZ s_)), (4, .int (iZ w))] []
  have hb0 := hI.1
  refine v_aload_n 0 0 C dX4_place_0 rfl ?_
  refine v_iload_n 1 1 C dX4_place_1 rfl ?_
  refine v_calli 2 hA (rV_Mo 2 C L_RX4_145 lk_601 lk_23 (m4_isPlane hm hI hM (by first | assumption | exact ⟨by omega, by omega⟩)) (vm.o hm) rfl ⟨rfl, rfl⟩ (rm_ok rfl) dX4_place_2) (fun r1 w2 h3 => ?_)
  obtain ⟨e_r1, rfl⟩ := h3
  refine v_eqi (iZ (bz (isLb b z))) (e_r1) ?_
  refine z_if_eq 5 15 C (bzr _) dX4_place_5 (by decide) (fun c5_0 => ?_) (fun c5_0 => absurd (by rw [isLb_n hI hz]; rfl) c5_0)
  refine v_aload_n 15 0 C dX4_place_15 rfl ?_
  refine v_iconst 16 C (iZ (-1)) dX4_place_16 rfl ?_
  refine v_calli 17 hA (rV_Mo 17 C L_RX4_173 lk_682 lk_35 (m4_refuseB hm hI hM 1 (by decide) (by decide)) (vm.o hm) rfl ⟨rfl, rfl⟩ (rm_ok rfl) dX4_place_17) (fun r4 w5 h6 => ?_)
  obtain ⟨e_r4, rfl⟩ := h6
  refine v_eqi (iZ (1000000000 - (-1))) (e_r4) ?_
  exact v_iret 20 C (⟨rfl, refM4 S b 1, rfl, refRM hM, refC⟩) dX4_place_20

set_option maxHeartbeats 4000000 in
set_option maxRecDepth 100000 in
theorem d_place_s {l : Launch} {D : va_G} {kc : Nat → ClassId} {N : Nat} {ad : Nat → Nat} {S : St} {b : Bs} (hm : vm N) (hI : Inv b) (hM : RM S b) {t : Ts} (hE : LE b t) {u : Nat} (hu : thL b u) {n s_ w : Int} (rn : r32 n) (rs : r32 s_) (rw_ : r32 w) (hs : ¬ (0 ≤ s_ ∧ s_ < 17)) : MetK l yX4_place cX4_place 5 (some FieldType.int) 6 0 0 166 D kc (wl kc N ad S) [.ref (ad 45), .int (iZ (u : Int)), .int (iZ n), .int (iZ s_), .int (iZ w)] (QI D kc (wl kc N ad S) (mQ kc N ad S (1000000000 - (-1)) (refB b 1))) := by
  refine MetK.of (by decide +kernel) (Nat.le_of_ble_eq_true rfl) ?_
  intro p e s m below meth c C
  have hA : ∀ q, s.heap.size ≤ q → va_A (wl kc N ad S) s.heap.size q := fun _ h => Or.inr h
  show V p l e { frames := 6, cells := 0, slots := 0, locals := 166 } s m ([.ref (ad 45), .int (iZ (u : Int)), .int (iZ n), .int (iZ s_), .int (iZ w)] : List Value).toArray below meth c (MQ below (QI D kc (wl kc N ad S) (mQ kc N ad S (1000000000 - (-1)) (refB b 1)) s.heap.size) ([.ref (ad 45), .int (iZ (u : Int)), .int (iZ n), .int (iZ s_), .int (iZ w)] : List Value).toArray s 0 0 (va_A (wl kc N ad S) s.heap.size)) D (va_A (wl kc N ad S) s.heap.size) 5 0 0 (wl kc N ad S) 0 [(0, .ref (ad 45)), (1, .int (iZ (u : Int))), (2, .int (iZ n)), (3, .int (iZ s_)), (4, .int (iZ w))] []
  have hb0 := hI.1
  have h62 := thL_62 hI hu
  refine v_aload_n 0 0 C dX4_place_0 rfl ?_
  refine v_iload_n 1 1 C dX4_place_1 rfl ?_
  refine v_calli 2 hA (rV_Mo 2 C L_RX4_145 lk_601 lk_23 (m4_isPlane hm hI hM (by first | assumption | exact ⟨by omega, by omega⟩)) (vm.o hm) rfl ⟨rfl, rfl⟩ (rm_ok rfl) dX4_place_2) (fun r1 w2 h3 => ?_)
  obtain ⟨e_r1, rfl⟩ := h3
  refine v_eqi (iZ (bz (isLb b (u : Int)))) (e_r1) ?_
  refine z_if_eq 5 15 C (bzr _) dX4_place_5 (by decide) (fun c5_0 => absurd c5_0 (by rw [isLb_y hI hu]; decide)) (fun c5_0 => ?_)
  refine v_iload_n 8 3 C dX4_place_8 rfl ?_
  refine v_calli 9 hA (rS 9 C L_RX4_170 lk_677 (m4_isStep (by first | assumption | exact ⟨by omega, by omega⟩)) rfl rfl (rm_ok rfl) dX4_place_9) (fun r4 w5 h6 => ?_)
  obtain ⟨e_r4, rfl⟩ := h6
  refine v_eqi (iZ (bz (decide (0 ≤ s_ ∧ s_ ≤ 16)))) (e_r4) ?_
  refine z_if_ne 12 21 C (bzr _) dX4_place_12 (by decide) (fun c12_1 => absurd c12_1 (fun q => q (by rw [decide_eq_false (show ¬ (0 ≤ s_ ∧ s_ ≤ 16) by omega)]; rfl))) (fun c12_1 => ?_)
  refine v_aload_n 15 0 C dX4_place_15 rfl ?_
  refine v_iconst 16 C (iZ (-1)) dX4_place_16 rfl ?_
  refine v_calli 17 hA (rV_Mo 17 C L_RX4_173 lk_682 lk_35 (m4_refuseB hm hI hM 1 (by decide) (by decide)) (vm.o hm) rfl ⟨rfl, rfl⟩ (rm_ok rfl) dX4_place_17) (fun r7 w8 h9 => ?_)
  obtain ⟨e_r7, rfl⟩ := h9
  refine v_eqi (iZ (1000000000 - (-1))) (e_r7) ?_
  exact v_iret 20 C (⟨rfl, refM4 S b 1, rfl, refRM hM, refC⟩) dX4_place_20

set_option maxHeartbeats 4000000 in
set_option maxRecDepth 100000 in
theorem d_place_w {l : Launch} {D : va_G} {kc : Nat → ClassId} {N : Nat} {ad : Nat → Nat} {S : St} {b : Bs} (hm : vm N) (hI : Inv b) (hM : RM S b) {t : Ts} (hE : LE b t) {u : Nat} (hu : thL b u) {j : Nat} (hj : j < 17) {n w : Int} (rn : r32 n) (rw_ : r32 w) (hw : ¬ (w = 0 ∨ w = 1)) : MetK l yX4_place cX4_place 5 (some FieldType.int) 6 0 0 166 D kc (wl kc N ad S) [.ref (ad 45), .int (iZ (u : Int)), .int (iZ n), .int (iZ (j : Int)), .int (iZ w)] (QI D kc (wl kc N ad S) (mQ kc N ad S (1000000000 - (-2)) (refB b 2))) := by
  refine MetK.of (by decide +kernel) (Nat.le_of_ble_eq_true rfl) ?_
  intro p e s m below meth c C
  have hA : ∀ q, s.heap.size ≤ q → va_A (wl kc N ad S) s.heap.size q := fun _ h => Or.inr h
  show V p l e { frames := 6, cells := 0, slots := 0, locals := 166 } s m ([.ref (ad 45), .int (iZ (u : Int)), .int (iZ n), .int (iZ (j : Int)), .int (iZ w)] : List Value).toArray below meth c (MQ below (QI D kc (wl kc N ad S) (mQ kc N ad S (1000000000 - (-2)) (refB b 2)) s.heap.size) ([.ref (ad 45), .int (iZ (u : Int)), .int (iZ n), .int (iZ (j : Int)), .int (iZ w)] : List Value).toArray s 0 0 (va_A (wl kc N ad S) s.heap.size)) D (va_A (wl kc N ad S) s.heap.size) 5 0 0 (wl kc N ad S) 0 [(0, .ref (ad 45)), (1, .int (iZ (u : Int))), (2, .int (iZ n)), (3, .int (iZ (j : Int))), (4, .int (iZ w))] []
  have hb0 := hI.1
  have h62 := thL_62 hI hu
  refine v_aload_n 0 0 C dX4_place_0 rfl ?_
  refine v_iload_n 1 1 C dX4_place_1 rfl ?_
  refine v_calli 2 hA (rV_Mo 2 C L_RX4_145 lk_601 lk_23 (m4_isPlane hm hI hM (by first | assumption | exact ⟨by omega, by omega⟩)) (vm.o hm) rfl ⟨rfl, rfl⟩ (rm_ok rfl) dX4_place_2) (fun r1 w2 h3 => ?_)
  obtain ⟨e_r1, rfl⟩ := h3
  refine v_eqi (iZ (bz (isLb b (u : Int)))) (e_r1) ?_
  refine z_if_eq 5 15 C (bzr _) dX4_place_5 (by decide) (fun c5_0 => absurd c5_0 (by rw [isLb_y hI hu]; decide)) (fun c5_0 => ?_)
  refine v_iload_n 8 3 C dX4_place_8 rfl ?_
  refine v_calli 9 hA (rS 9 C L_RX4_170 lk_677 (m4_isStep (by first | assumption | exact ⟨by omega, by omega⟩)) rfl rfl (rm_ok rfl) dX4_place_9) (fun r4 w5 h6 => ?_)
  obtain ⟨e_r4, rfl⟩ := h6
  refine v_eqi (iZ (bz (decide (0 ≤ (j : Int) ∧ (j : Int) ≤ 16)))) (e_r4) ?_
  refine z_if_ne 12 21 C (bzr _) dX4_place_12 (by decide) (fun c12_1 => ?_) (fun c12_1 => absurd c12_1 (by rw [decide_eq_true (show 0 ≤ (j : Int) ∧ (j : Int) ≤ 16 by omega)]; decide))
  refine v_iload 21 4 C dX4_place_21 rfl ?_
  refine z_i2l 23 C (by first | assumption | exact ⟨by omega, by omega⟩) dX4_place_23 ?_
  refine v_lconst 24 C (lZ 0) dX4_place_24 (by decide) ?_
  refine v_lconst 25 C (lZ 1) dX4_place_25 (by decide) ?_
  refine v_calli 26 hA (rS 26 C L_RX4_83 lk_604 (m4_in (by first | assumption | exact ⟨by omega, by omega⟩) (by decide) (by decide)) rfl rfl (rm_ok rfl) dX4_place_26) (fun r7 w8 h9 => ?_)
  obtain ⟨e_r7, rfl⟩ := h9
  refine v_eqi (iZ (bz (decide (0 ≤ w ∧ w ≤ 1)))) (e_r7) ?_
  refine z_if_ne 29 39 C (bzr _) dX4_place_29 (by decide) (fun c29_2 => absurd c29_2 (fun q => q (by rw [decide_eq_false (show ¬ (0 ≤ w ∧ w ≤ 1) by omega)]; rfl))) (fun c29_2 => ?_)
  refine v_aload_n 32 0 C dX4_place_32 rfl ?_
  refine v_bipush 33 C (iZ (-2)) dX4_place_33 (by decide) ?_
  refine v_calli 35 hA (rV_Mo 35 C L_RX4_173 lk_682 lk_35 (m4_refuseB hm hI hM 2 (by decide) (by decide)) (vm.o hm) rfl ⟨rfl, rfl⟩ (rm_ok rfl) dX4_place_35) (fun r10 w11 h12 => ?_)
  obtain ⟨e_r10, rfl⟩ := h12
  refine v_eqi (iZ (1000000000 - (-2))) (e_r10) ?_
  exact v_iret 38 C (⟨rfl, refM4 S b 2, rfl, refRM hM, refC⟩) dX4_place_38

set_option maxHeartbeats 4000000 in
set_option maxRecDepth 100000 in
theorem d_place_4 {l : Launch} {D : va_G} {kc : Nat → ClassId} {N : Nat} {ad : Nat → Nat} {S : St} {b : Bs} (hm : vm N) (hI : Inv b) (hM : RM S b) {t : Ts} (hE : LE b t) {u : Nat} (hu : thL b u) {j : Nat} (hj : j < 17) {n w : Int} (rn : r32 n) (rw_ : r32 w) (hw : w = 0 ∨ w = 1) (hn : n < 0) : MetK l yX4_place cX4_place 5 (some FieldType.int) 6 0 0 166 D kc (wl kc N ad S) [.ref (ad 45), .int (iZ (u : Int)), .int (iZ n), .int (iZ (j : Int)), .int (iZ w)] (QI D kc (wl kc N ad S) (mQ kc N ad S (1000000000 - (-4)) (refB b 4))) := by
  refine MetK.of (by decide +kernel) (Nat.le_of_ble_eq_true rfl) ?_
  intro p e s m below meth c C
  have hA : ∀ q, s.heap.size ≤ q → va_A (wl kc N ad S) s.heap.size q := fun _ h => Or.inr h
  show V p l e { frames := 6, cells := 0, slots := 0, locals := 166 } s m ([.ref (ad 45), .int (iZ (u : Int)), .int (iZ n), .int (iZ (j : Int)), .int (iZ w)] : List Value).toArray below meth c (MQ below (QI D kc (wl kc N ad S) (mQ kc N ad S (1000000000 - (-4)) (refB b 4)) s.heap.size) ([.ref (ad 45), .int (iZ (u : Int)), .int (iZ n), .int (iZ (j : Int)), .int (iZ w)] : List Value).toArray s 0 0 (va_A (wl kc N ad S) s.heap.size)) D (va_A (wl kc N ad S) s.heap.size) 5 0 0 (wl kc N ad S) 0 [(0, .ref (ad 45)), (1, .int (iZ (u : Int))), (2, .int (iZ n)), (3, .int (iZ (j : Int))), (4, .int (iZ w))] []
  have hb0 := hI.1
  have h62 := thL_62 hI hu
  refine v_aload_n 0 0 C dX4_place_0 rfl ?_
  refine v_iload_n 1 1 C dX4_place_1 rfl ?_
  refine v_calli 2 hA (rV_Mo 2 C L_RX4_145 lk_601 lk_23 (m4_isPlane hm hI hM (by first | assumption | exact ⟨by omega, by omega⟩)) (vm.o hm) rfl ⟨rfl, rfl⟩ (rm_ok rfl) dX4_place_2) (fun r1 w2 h3 => ?_)
  obtain ⟨e_r1, rfl⟩ := h3
  refine v_eqi (iZ (bz (isLb b (u : Int)))) (e_r1) ?_
  refine z_if_eq 5 15 C (bzr _) dX4_place_5 (by decide) (fun c5_0 => absurd c5_0 (by rw [isLb_y hI hu]; decide)) (fun c5_0 => ?_)
  refine v_iload_n 8 3 C dX4_place_8 rfl ?_
  refine v_calli 9 hA (rS 9 C L_RX4_170 lk_677 (m4_isStep (by first | assumption | exact ⟨by omega, by omega⟩)) rfl rfl (rm_ok rfl) dX4_place_9) (fun r4 w5 h6 => ?_)
  obtain ⟨e_r4, rfl⟩ := h6
  refine v_eqi (iZ (bz (decide (0 ≤ (j : Int) ∧ (j : Int) ≤ 16)))) (e_r4) ?_
  refine z_if_ne 12 21 C (bzr _) dX4_place_12 (by decide) (fun c12_1 => ?_) (fun c12_1 => absurd c12_1 (by rw [decide_eq_true (show 0 ≤ (j : Int) ∧ (j : Int) ≤ 16 by omega)]; decide))
  refine v_iload 21 4 C dX4_place_21 rfl ?_
  refine z_i2l 23 C (by first | assumption | exact ⟨by omega, by omega⟩) dX4_place_23 ?_
  refine v_lconst 24 C (lZ 0) dX4_place_24 (by decide) ?_
  refine v_lconst 25 C (lZ 1) dX4_place_25 (by decide) ?_
  refine v_calli 26 hA (rS 26 C L_RX4_83 lk_604 (m4_in (by first | assumption | exact ⟨by omega, by omega⟩) (by decide) (by decide)) rfl rfl (rm_ok rfl) dX4_place_26) (fun r7 w8 h9 => ?_)
  obtain ⟨e_r7, rfl⟩ := h9
  refine v_eqi (iZ (bz (decide (0 ≤ w ∧ w ≤ 1)))) (e_r7) ?_
  refine z_if_ne 29 39 C (bzr _) dX4_place_29 (by decide) (fun c29_2 => ?_) (fun c29_2 => absurd c29_2 (by rw [decide_eq_true (show 0 ≤ w ∧ w ≤ 1 by omega)]; decide))
  refine v_iload_n 39 2 C dX4_place_39 rfl ?_
  refine z_if_ge 40 50 C (by first | assumption | exact ⟨by omega, by omega⟩) dX4_place_40 (by decide) (fun c40_3 => absurd c40_3 (by omega)) (fun c40_3 => ?_)
  refine v_aload_n 43 0 C dX4_place_43 rfl ?_
  refine v_bipush 44 C (iZ (-4)) dX4_place_44 (by decide) ?_
  refine v_calli 46 hA (rV_Mo 46 C L_RX4_173 lk_682 lk_35 (m4_refuseB hm hI hM 4 (by decide) (by decide)) (vm.o hm) rfl ⟨rfl, rfl⟩ (rm_ok rfl) dX4_place_46) (fun r10 w11 h12 => ?_)
  obtain ⟨e_r10, rfl⟩ := h12
  refine v_eqi (iZ (1000000000 - (-4))) (e_r10) ?_
  exact v_iret 49 C (⟨rfl, refM4 S b 4, rfl, refRM hM, refC⟩) dX4_place_49

set_option maxHeartbeats 4000000 in
set_option maxRecDepth 100000 in
theorem d_place_6 {l : Launch} {D : va_G} {kc : Nat → ClassId} {N : Nat} {ad : Nat → Nat} {S : St} {b : Bs} (hm : vm N) (hI : Inv b) (hM : RM S b) {t : Ts} (hE : LE b t) {u : Nat} (hu : thL b u) {j : Nat} (hj : j < 17) {n w : Int} (rn : r32 n) (rw_ : r32 w) (hw : w = 0 ∨ w = 1) (hn : 0 ≤ n) (hn2 : szL b u < n) : MetK l yX4_place cX4_place 5 (some FieldType.int) 6 0 0 166 D kc (wl kc N ad S) [.ref (ad 45), .int (iZ (u : Int)), .int (iZ n), .int (iZ (j : Int)), .int (iZ w)] (QI D kc (wl kc N ad S) (mQ kc N ad S (1000000000 - (-6)) (refB b 6))) := by
  refine MetK.of (by decide +kernel) (Nat.le_of_ble_eq_true rfl) ?_
  intro p e s m below meth c C
  have hA : ∀ q, s.heap.size ≤ q → va_A (wl kc N ad S) s.heap.size q := fun _ h => Or.inr h
  show V p l e { frames := 6, cells := 0, slots := 0, locals := 166 } s m ([.ref (ad 45), .int (iZ (u : Int)), .int (iZ n), .int (iZ (j : Int)), .int (iZ w)] : List Value).toArray below meth c (MQ below (QI D kc (wl kc N ad S) (mQ kc N ad S (1000000000 - (-6)) (refB b 6)) s.heap.size) ([.ref (ad 45), .int (iZ (u : Int)), .int (iZ n), .int (iZ (j : Int)), .int (iZ w)] : List Value).toArray s 0 0 (va_A (wl kc N ad S) s.heap.size)) D (va_A (wl kc N ad S) s.heap.size) 5 0 0 (wl kc N ad S) 0 [(0, .ref (ad 45)), (1, .int (iZ (u : Int))), (2, .int (iZ n)), (3, .int (iZ (j : Int))), (4, .int (iZ w))] []
  have hb0 := hI.1
  have h62 := thL_62 hI hu
  have hsz := szL_b hI hu
  refine v_aload_n 0 0 C dX4_place_0 rfl ?_
  refine v_iload_n 1 1 C dX4_place_1 rfl ?_
  refine v_calli 2 hA (rV_Mo 2 C L_RX4_145 lk_601 lk_23 (m4_isPlane hm hI hM (by first | assumption | exact ⟨by omega, by omega⟩)) (vm.o hm) rfl ⟨rfl, rfl⟩ (rm_ok rfl) dX4_place_2) (fun r1 w2 h3 => ?_)
  obtain ⟨e_r1, rfl⟩ := h3
  refine v_eqi (iZ (bz (isLb b (u : Int)))) (e_r1) ?_
  refine z_if_eq 5 15 C (bzr _) dX4_place_5 (by decide) (fun c5_0 => absurd c5_0 (by rw [isLb_y hI hu]; decide)) (fun c5_0 => ?_)
  refine v_iload_n 8 3 C dX4_place_8 rfl ?_
  refine v_calli 9 hA (rS 9 C L_RX4_170 lk_677 (m4_isStep (by first | assumption | exact ⟨by omega, by omega⟩)) rfl rfl (rm_ok rfl) dX4_place_9) (fun r4 w5 h6 => ?_)
  obtain ⟨e_r4, rfl⟩ := h6
  refine v_eqi (iZ (bz (decide (0 ≤ (j : Int) ∧ (j : Int) ≤ 16)))) (e_r4) ?_
  refine z_if_ne 12 21 C (bzr _) dX4_place_12 (by decide) (fun c12_1 => ?_) (fun c12_1 => absurd c12_1 (by rw [decide_eq_true (show 0 ≤ (j : Int) ∧ (j : Int) ≤ 16 by omega)]; decide))
  refine v_iload 21 4 C dX4_place_21 rfl ?_
  refine z_i2l 23 C (by first | assumption | exact ⟨by omega, by omega⟩) dX4_place_23 ?_
  refine v_lconst 24 C (lZ 0) dX4_place_24 (by decide) ?_
  refine v_lconst 25 C (lZ 1) dX4_place_25 (by decide) ?_
  refine v_calli 26 hA (rS 26 C L_RX4_83 lk_604 (m4_in (by first | assumption | exact ⟨by omega, by omega⟩) (by decide) (by decide)) rfl rfl (rm_ok rfl) dX4_place_26) (fun r7 w8 h9 => ?_)
  obtain ⟨e_r7, rfl⟩ := h9
  refine v_eqi (iZ (bz (decide (0 ≤ w ∧ w ≤ 1)))) (e_r7) ?_
  refine z_if_ne 29 39 C (bzr _) dX4_place_29 (by decide) (fun c29_2 => ?_) (fun c29_2 => absurd c29_2 (by rw [decide_eq_true (show 0 ≤ w ∧ w ≤ 1 by omega)]; decide))
  refine v_iload_n 39 2 C dX4_place_39 rfl ?_
  refine z_if_ge 40 50 C (by first | assumption | exact ⟨by omega, by omega⟩) dX4_place_40 (by decide) (fun c40_3 => ?_) (fun c40_3 => absurd (by omega) c40_3)
  refine v_iload_n 50 2 C dX4_place_50 rfl ?_
  refine v_aload_n 51 0 C dX4_place_51 rfl ?_
  refine v_iload_n 52 1 C dX4_place_52 rfl ?_
  refine v_calli 53 hA (rV_Mo 53 C L_RX4_152 lk_613 lk_25 (m4_sizeOf hm hI hM hu) (vm.o hm) rfl ⟨rfl, rfl⟩ (rm_ok rfl) dX4_place_53) (fun r10 w11 h12 => ?_)
  obtain ⟨e_r10, rfl⟩ := h12
  refine v_eqi (iZ (szL b u)) (e_r10) ?_
  refine z_icmp_le 56 66 C (by first | assumption | exact ⟨by omega, by omega⟩) (by first | assumption | exact ⟨by omega, by omega⟩) dX4_place_56 (by decide) (fun c56_4 => absurd c56_4 (by omega)) (fun c56_4 => ?_)
  refine v_aload_n 59 0 C dX4_place_59 rfl ?_
  refine v_bipush 60 C (iZ (-6)) dX4_place_60 (by decide) ?_
  refine v_calli 62 hA (rV_Mo 62 C L_RX4_173 lk_682 lk_35 (m4_refuseB hm hI hM 6 (by decide) (by decide)) (vm.o hm) rfl ⟨rfl, rfl⟩ (rm_ok rfl) dX4_place_62) (fun r13 w14 h15 => ?_)
  obtain ⟨e_r13, rfl⟩ := h15
  refine v_eqi (iZ (1000000000 - (-6))) (e_r13) ?_
  exact v_iret 65 C (⟨rfl, refM4 S b 6, rfl, refRM hM, refC⟩) dX4_place_65

set_option maxHeartbeats 4000000 in
set_option maxRecDepth 100000 in
theorem d_place {l : Launch} {D : va_G} {kc : Nat → ClassId} {N : Nat} {ad : Nat → Nat} {S : St} {b : Bs} (hm : vm N) (hI : Inv b) (hM : RM S b) {t : Ts} (hE : LE b t) {u : Nat} (hu : thL b u) {j : Nat} (hj : j < 17) {n w : Int} (rn : r32 n) (rw_ : r32 w) (hw : w = 0 ∨ w = 1) (hn : 0 ≤ n) (hn2 : n ≤ szL b u) : MetK l yX4_place cX4_place 5 (some FieldType.int) 6 0 0 166 D kc (wl kc N ad S) [.ref (ad 45), .int (iZ (u : Int)), .int (iZ n), .int (iZ (j : Int)), .int (iZ w)] (QI D kc (wl kc N ad S) (mQ kc N ad S (if PS t j u = 0 then (if w = 0 then PLx b t j u n else PLy b t j u n) else 1000000000) (b))) := by
  refine MetK.of (by decide +kernel) (Nat.le_of_ble_eq_true rfl) ?_
  intro p e s m below meth c C
  have hA : ∀ q, s.heap.size ≤ q → va_A (wl kc N ad S) s.heap.size q := fun _ h => Or.inr h
  show V p l e { frames := 6, cells := 0, slots := 0, locals := 166 } s m ([.ref (ad 45), .int (iZ (u : Int)), .int (iZ n), .int (iZ (j : Int)), .int (iZ w)] : List Value).toArray below meth c (MQ below (QI D kc (wl kc N ad S) (mQ kc N ad S (if PS t j u = 0 then (if w = 0 then PLx b t j u n else PLy b t j u n) else 1000000000) (b)) s.heap.size) ([.ref (ad 45), .int (iZ (u : Int)), .int (iZ n), .int (iZ (j : Int)), .int (iZ w)] : List Value).toArray s 0 0 (va_A (wl kc N ad S) s.heap.size)) D (va_A (wl kc N ad S) s.heap.size) 5 0 0 (wl kc N ad S) 0 [(0, .ref (ad 45)), (1, .int (iZ (u : Int))), (2, .int (iZ n)), (3, .int (iZ (j : Int))), (4, .int (iZ w))] []
  have hb0 := hI.1
  have h62 := thL_62 hI hu
  have hsz := szL_b hI hu
  have huK : ∀ u, thL b u → u < 2 * bn b + 2 := fun u h => by rcases h with h | h <;> omega
  refine v_aload_n 0 0 C dX4_place_0 rfl ?_
  refine v_iload_n 1 1 C dX4_place_1 rfl ?_
  refine v_calli 2 hA (rV_Mo 2 C L_RX4_145 lk_601 lk_23 (m4_isPlane hm hI hM (by first | assumption | exact ⟨by omega, by omega⟩)) (vm.o hm) rfl ⟨rfl, rfl⟩ (rm_ok rfl) dX4_place_2) (fun r1 w2 h3 => ?_)
  obtain ⟨e_r1, rfl⟩ := h3
  refine v_eqi (iZ (bz (isLb b (u : Int)))) (e_r1) ?_
  refine z_if_eq 5 15 C (bzr _) dX4_place_5 (by decide) (fun c5_0 => absurd c5_0 (by rw [isLb_y hI hu]; decide)) (fun c5_0 => ?_)
  refine v_iload_n 8 3 C dX4_place_8 rfl ?_
  refine v_calli 9 hA (rS 9 C L_RX4_170 lk_677 (m4_isStep (by first | assumption | exact ⟨by omega, by omega⟩)) rfl rfl (rm_ok rfl) dX4_place_9) (fun r4 w5 h6 => ?_)
  obtain ⟨e_r4, rfl⟩ := h6
  refine v_eqi (iZ (bz (decide (0 ≤ (j : Int) ∧ (j : Int) ≤ 16)))) (e_r4) ?_
  refine z_if_ne 12 21 C (bzr _) dX4_place_12 (by decide) (fun c12_1 => ?_) (fun c12_1 => absurd c12_1 (by rw [decide_eq_true (show 0 ≤ (j : Int) ∧ (j : Int) ≤ 16 by omega)]; decide))
  refine v_iload 21 4 C dX4_place_21 rfl ?_
  refine z_i2l 23 C (by first | assumption | exact ⟨by omega, by omega⟩) dX4_place_23 ?_
  refine v_lconst 24 C (lZ 0) dX4_place_24 (by decide) ?_
  refine v_lconst 25 C (lZ 1) dX4_place_25 (by decide) ?_
  refine v_calli 26 hA (rS 26 C L_RX4_83 lk_604 (m4_in (by first | assumption | exact ⟨by omega, by omega⟩) (by decide) (by decide)) rfl rfl (rm_ok rfl) dX4_place_26) (fun r7 w8 h9 => ?_)
  obtain ⟨e_r7, rfl⟩ := h9
  refine v_eqi (iZ (bz (decide (0 ≤ w ∧ w ≤ 1)))) (e_r7) ?_
  refine z_if_ne 29 39 C (bzr _) dX4_place_29 (by decide) (fun c29_2 => ?_) (fun c29_2 => absurd c29_2 (by rw [decide_eq_true (show 0 ≤ w ∧ w ≤ 1 by omega)]; decide))
  refine v_iload_n 39 2 C dX4_place_39 rfl ?_
  refine z_if_ge 40 50 C (by first | assumption | exact ⟨by omega, by omega⟩) dX4_place_40 (by decide) (fun c40_3 => ?_) (fun c40_3 => absurd (by omega) c40_3)
  refine v_iload_n 50 2 C dX4_place_50 rfl ?_
  refine v_aload_n 51 0 C dX4_place_51 rfl ?_
  refine v_iload_n 52 1 C dX4_place_52 rfl ?_
  refine v_calli 53 hA (rV_Mo 53 C L_RX4_152 lk_613 lk_25 (m4_sizeOf hm hI hM hu) (vm.o hm) rfl ⟨rfl, rfl⟩ (rm_ok rfl) dX4_place_53) (fun r10 w11 h12 => ?_)
  obtain ⟨e_r10, rfl⟩ := h12
  refine v_eqi (iZ (szL b u)) (e_r10) ?_
  refine z_icmp_le 56 66 C (by first | assumption | exact ⟨by omega, by omega⟩) (by first | assumption | exact ⟨by omega, by omega⟩) dX4_place_56 (by decide) (fun c56_4 => ?_) (fun c56_4 => absurd (by omega) c56_4)
  refine v_aload_n 66 0 C dX4_place_66 rfl ?_
  refine v_iload_n 67 3 C dX4_place_67 rfl ?_
  refine v_callv 68 hA (rV_Mo 68 C L_RX4_155 lk_617 lk_26 (m4_open hm hI hM hE hj) (vm.o hm) rfl ⟨rfl, rfl⟩ (rm_ok rfl) dX4_place_68) (fun w14 h15 => ?_)
  obtain ⟨S1, rfl, F1, O1⟩ := h15
  have M1 := F1.RM hM
  have su : 2 ≤ u → gA S1 56 (u / 2 - 1) = iZ (t 4 (u / 2 - 1) j) ∧ b01 (t 4 (u / 2 - 1) j) := fun h2 => by
    have T := thL_lt hu h2
    have A := (O1.2 (u / 2 - 1) T.1 T.1).1
    rw [if_pos T.2] at A
    exact ⟨A, (hE _ T.1 T.1 T.2 j hj).1⟩
  have p01 : b01 (PS t j u) := by
    unfold PS
    split
    · exact Or.inl rfl
    · exact (su (by omega)).2
  refine v_aload_n 71 0 C dX4_place_71 rfl ?_
  refine v_iload_n 72 1 C dX4_place_72 rfl ?_
  refine v_calli 73 hA (rV_Mo 73 C L_RX4_131 lk_625 lk_28 (m4_planeStuck (v := t 4 (u / 2 - 1) j) hm h62 su) (vm.o hm) rfl ⟨rfl, rfl⟩ (rm_ok rfl) dX4_place_73) (fun r16 w17 h18 => ?_)
  obtain ⟨e_r16, rfl⟩ := h18
  refine v_eqi (iZ (PS t j u)) (e_r16) ?_
  refine z_if_eq 76 82 C (by first | assumption | exact ⟨by omega, by omega⟩) dX4_place_76 (by decide) (fun cS => ?_) (fun cS => ?_)
  · skip
    refine v_aload_n 82 0 C dX4_place_82 rfl ?_
    refine v_iload_n 83 1 C dX4_place_83 rfl ?_
    refine v_iload_n 84 2 C dX4_place_84 rfl ?_
    refine v_callv 85 hA (rV_Mo 85 C L_RX4_113 lk_629 lk_29 (m4_show hm hI M1 hj hE O1 hu (huK u hu) cS ⟨by omega, by omega⟩) (vm.o hm) rfl ⟨rfl, rfl⟩ (rm_ok rfl) dX4_place_85) (fun w20 h21 => ?_)
    obtain ⟨S2, rfl, F2, gx, gy⟩ := h21
    refine v_iload 88 4 C dX4_place_88 rfl ?_
    refine z_if_ne 90 100 C (by first | assumption | exact ⟨by omega, by omega⟩) dX4_place_90 (by decide) (fun cW => ?_) (fun cW => ?_)
    · skip
      refine v_aload_n 100 0 C dX4_place_100 rfl ?_
      refine g_Mo_placeY 101 C (vm.o hm).1 (vm.o hm).2 lk_515 dX4_place_101 ?_
      refine v_eql (lZ (PLy b t j u n)) (gy) ?_
      refine z_l2i 104 C dX4_place_104 ?_
      exact v_iret 105 C (⟨by rw [if_pos cS, if_neg cW], S2, rfl, F2.RM M1, (F1.tr F2.O).C⟩) dX4_place_105
    · skip
      refine v_aload_n 93 0 C dX4_place_93 rfl ?_
      refine g_Mo_placeX 94 C (vm.o hm).1 (vm.o hm).2 lk_514 dX4_place_94 ?_
      refine v_eql (lZ (PLx b t j u n)) (gx) ?_
      refine v_goto 97 104 C dX4_place_97 (by decide) ?_
      refine z_l2i 104 C dX4_place_104 ?_
      exact v_iret 105 C (⟨by rw [if_pos cS, if_pos cW], S2, rfl, F2.RM M1, (F1.tr F2.O).C⟩) dX4_place_105
  · skip
    refine v_ldc 79 C (1000000000) lk_684 dX4_place_79 ?_
    refine v_eqi (iZ 1000000000) (by decide) ?_
    exact v_iret 81 C (⟨by rw [if_neg cS], S1, rfl, M1, F1.C⟩) dX4_place_81

set_option maxHeartbeats 4000000 in
set_option maxRecDepth 100000 in
theorem m4_away {l : Launch} {D : va_G} {kc : Nat → ClassId} {N : Nat} {ad : Nat → Nat} {S : St} {x y : Int} (hx : -1000000000000 ≤ x ∧ x ≤ 1000000000000) (hy : -1000000000000 ≤ y ∧ y ≤ 1000000000000) : MetK l yX4_away cX4_away 4 (some FieldType.long) 1 0 0 24 D kc (wl kc N ad S) [.long (lZ x), .long (lZ y)] (QL D kc (wl kc N ad S) (fun r ws' => r = lZ ((x - y).natAbs : Int) ∧ ws' = wl kc N ad S)) := by
  refine MetK.of (by decide +kernel) (Nat.le_of_ble_eq_true rfl) ?_
  intro p e s m below meth c C
  have hA : ∀ q, s.heap.size ≤ q → va_A (wl kc N ad S) s.heap.size q := fun _ h => Or.inr h
  show V p l e { frames := 1, cells := 0, slots := 0, locals := 24 } s m ([.long (lZ x), .long (lZ y)] : List Value).toArray below meth c (MQ below (QL D kc (wl kc N ad S) (fun r ws' => r = lZ ((x - y).natAbs : Int) ∧ ws' = wl kc N ad S) s.heap.size) ([.long (lZ x), .long (lZ y)] : List Value).toArray s 0 0 (va_A (wl kc N ad S) s.heap.size)) D (va_A (wl kc N ad S) s.heap.size) 4 0 0 (wl kc N ad S) 0 [(0, .long (lZ x)), (2, .long (lZ y))] []
  refine v_lload_n 0 0 C dX4_away_0 rfl ?_
  refine v_lload_n 1 1 C dX4_away_1 rfl ?_
  refine z_lcmp_le 2 12 C (by first | assumption | exact ⟨by omega, by omega⟩) (by first | assumption | exact ⟨by omega, by omega⟩) dX4_away_2 dX4_away_3 (by decide) (fun c2_0 => ?_) (fun c2_0 => ?_)
  · skip
    refine v_lload_n 12 1 C dX4_away_12 rfl ?_
    refine v_lload_n 13 0 C dX4_away_13 rfl ?_
    refine z_lsub 14 C dX4_away_14 ?_
    exact v_lret 15 C (⟨congrArg lZ (by omega), rfl⟩) dX4_away_15
  · skip
    refine v_lload_n 6 0 C dX4_away_6 rfl ?_
    refine v_lload_n 7 1 C dX4_away_7 rfl ?_
    refine z_lsub 8 C dX4_away_8 ?_
    refine v_goto 9 15 C dX4_away_9 (by decide) ?_
    exact v_lret 15 C (⟨congrArg lZ (by omega), rfl⟩) dX4_away_15

def msZ (t : Ts) (b : Bs) (k i j : Nat) : Int := (((t 2 k j - t 0 i j) * (t 2 k j - t 0 i j) + (t 3 k j - t 1 i j) * (t 3 k j - t 1 i j) - b 6 i * b 6 i).natAbs : Int)
set_option maxHeartbeats 4000000 in
set_option maxRecDepth 100000 in
theorem m4_missOf {l : Launch} {D : va_G} {kc : Nat → ClassId} {N : Nat} {ad : Nat → Nat} {S : St} {b : Bs} (hm : vm N) (hI : Inv b) (hM : RM S b) {t : Ts} (hE : LE b t) {j k i : Nat} {w : Int} (hj : j < 17) (hk : k < bn b) (ht : b 8 k = 1) (h0 : t 4 k j = 0) (hO : OPk S b t j (bn b)) (hi : (i : Int) = 2 * k + w) (hw : w = 0 ∨ w = 1) : MetK l yX4_missOf cX4_missOf 9 (some FieldType.long) 4 0 0 103 D kc (wl kc N ad S) [.ref (ad 45), .int (iZ (k : Int)), .int (iZ w)] (QL D kc (wl kc N ad S) (fun r ws' => r = lZ (msZ t b k i j) ∧ ∃ S', ws' = wl kc N ad S' ∧ ShF S S')) := by
  refine MetK.of (by decide +kernel) (Nat.le_of_ble_eq_true rfl) ?_
  intro p e s m below meth c C
  have hA : ∀ q, s.heap.size ≤ q → va_A (wl kc N ad S) s.heap.size q := fun _ h => Or.inr h
  show V p l e { frames := 4, cells := 0, slots := 0, locals := 103 } s m ([.ref (ad 45), .int (iZ (k : Int)), .int (iZ w)] : List Value).toArray below meth c (MQ below (QL D kc (wl kc N ad S) (fun r ws' => r = lZ (msZ t b k i j) ∧ ∃ S', ws' = wl kc N ad S' ∧ ShF S S') s.heap.size) ([.ref (ad 45), .int (iZ (k : Int)), .int (iZ w)] : List Value).toArray s 0 0 (va_A (wl kc N ad S) s.heap.size)) D (va_A (wl kc N ad S) s.heap.size) 9 0 0 (wl kc N ad S) 0 [(0, .ref (ad 45)), (1, .int (iZ (k : Int))), (2, .int (iZ w))] []
  have hb0 := hI.1
  have hi2 : i = 2 * k ∨ i = 2 * k + 1 := by omega
  have J := hI.2.2.2.2 k hk i hi2
  have B := bd_k hI hE hk ht hj h0
  have Bi := B.2 i hi2
  obtain ⟨pu, hpu⟩ : ∃ pu : Nat, (b 4 i).toNat = pu := ⟨_, rfl⟩
  have tp := J.2.2.2 ht
  have L := hE k hk hk ht j hj
  have hps : PS t j (b 4 (2 * k)).toNat = 0 ∧ PS t j (b 4 (2 * k + 1)).toNat = 0 := by
    by_cases q : PS t j (b 4 (2 * k)).toNat = 0 ∧ PS t j (b 4 (2 * k + 1)).toNat = 0
    · exact q
    · have := L.2.1 q; omega
  have E := (L.2.2 hps.1 hps.2).1
  have ps : PS t j (b 4 i).toNat = 0 := by
    rcases hi2 with e | e
    · rw [e]; exact hps.1
    · rw [e]; exact hps.2
  have hx0 : PLx b t j (b 4 i).toNat (b 5 i) = t 0 i j := by
    rcases hi2 with e | e
    · rw [e]; exact E.1.symm
    · rw [e]; exact E.2.2.1.symm
  have hy0 : PLy b t j (b 4 i).toNat (b 5 i) = t 1 i j := by
    rcases hi2 with e | e
    · rw [e]; exact E.2.1.symm
    · rw [e]; exact E.2.2.2.symm
  rw [hpu] at tp ps hx0 hy0
  have ep : b 4 i = (pu : Int) := by omega
  have p62 := thL_62 hI tp
  refine v_aload_n 0 0 C dX4_missOf_0 rfl ?_
  refine v_aload_n 1 0 C dX4_missOf_1 rfl ?_
  refine g_Mo_on 2 C (vm.o hm).1 (vm.o hm).2 lk_503 dX4_missOf_2 ?_
  refine v_iconst 5 C (iZ 2) dX4_missOf_5 rfl ?_
  refine v_iload_n 6 1 C dX4_missOf_6 rfl ?_
  refine z_imul 7 C dX4_missOf_7 ?_
  refine v_iload_n 8 2 C dX4_missOf_8 rfl ?_
  refine z_iadd 9 C dX4_missOf_9 ?_
  refine v_iald 10 C (vm.a hm 47 (by decide) rfl).1 (vm.a hm 47 (by decide) rfl).2 i (izn (by omega)) (lnx (show ln 47 = 60 from rfl) (by omega)) dX4_missOf_10 ?_
  refine v_eqi (iZ (pu : Int)) ((hM.2.2.1 i (by omega)).1.trans (by rw [ep])) ?_
  refine v_aload_n 11 0 C dX4_missOf_11 rfl ?_
  refine g_Mo_far 12 C (vm.o hm).1 (vm.o hm).2 lk_504 dX4_missOf_12 ?_
  refine v_iconst 15 C (iZ 2) dX4_missOf_15 rfl ?_
  refine v_iload_n 16 1 C dX4_missOf_16 rfl ?_
  refine z_imul 17 C dX4_missOf_17 ?_
  refine v_iload_n 18 2 C dX4_missOf_18 rfl ?_
  refine z_iadd 19 C dX4_missOf_19 ?_
  refine v_iald 20 C (vm.a hm 48 (by decide) rfl).1 (vm.a hm 48 (by decide) rfl).2 i (izn (by omega)) (lnx (show ln 48 = 60 from rfl) (by omega)) dX4_missOf_20 ?_
  refine v_eqi (iZ (b 5 i)) ((hM.2.2.1 i (by omega)).2.1) ?_
  refine v_callv 21 hA (rV_Mo 21 C L_RX4_113 lk_629 lk_29 (m4_show hm hI hM hj hE hO tp (by omega) ps ⟨by omega, by omega⟩) (vm.o hm) rfl ⟨rfl, rfl⟩ (rm_ok rfl) dX4_missOf_21) (fun w2 h3 => ?_)
  obtain ⟨S2, rfl, F2, gx, gy⟩ := h3
  have M2 := F2.RM hM
  have a2 := ((F2.OP hO).2 k hk hk).2 ht h0
  refine v_aload_n 24 0 C dX4_missOf_24 rfl ?_
  refine g_Mo_atX 25 C (vm.o hm).1 (vm.o hm).2 lk_511 dX4_missOf_25 ?_
  refine v_iload_n 28 1 C dX4_missOf_28 rfl ?_
  refine v_lald 29 C (vm.a hm 54 (by decide) rfl).1 (vm.a hm 54 (by decide) rfl).2 k (izn (by omega)) (lnx (show ln 54 = 30 from rfl) (by omega)) dX4_missOf_29 ?_
  refine v_eql (lZ (t 2 k j)) (a2.1) ?_
  refine v_aload_n 30 0 C dX4_missOf_30 rfl ?_
  refine g_Mo_placeX 31 C (vm.o hm).1 (vm.o hm).2 lk_514 dX4_missOf_31 ?_
  refine v_eql (lZ (t 0 i j)) (gx.trans (by rw [hx0])) ?_
  refine z_lsub 34 C dX4_missOf_34 ?_
  refine z_topl (fun dx e_dx => ?_)
  refine v_lstore_n 35 [(3, .long (lZ dx)), (0, .ref (ad 45)), (1, .int (iZ (k : Int))), (2, .int (iZ w))] C dX4_missOf_35 (by decide) rfl ?_
  refine v_aload_n 36 1 C dX4_missOf_36 rfl ?_
  refine g_Mo_atY 37 C (vm.o hm).1 (vm.o hm).2 lk_512 dX4_missOf_37 ?_
  refine v_iload_n 40 2 C dX4_missOf_40 rfl ?_
  refine v_lald 41 C (vm.a hm 55 (by decide) rfl).1 (vm.a hm 55 (by decide) rfl).2 k (izn (by omega)) (lnx (show ln 55 = 30 from rfl) (by omega)) dX4_missOf_41 ?_
  refine v_eql (lZ (t 3 k j)) (a2.2) ?_
  refine v_aload_n 42 1 C dX4_missOf_42 rfl ?_
  refine g_Mo_placeY 43 C (vm.o hm).1 (vm.o hm).2 lk_515 dX4_missOf_43 ?_
  refine v_eql (lZ (t 1 i j)) (gy.trans (by rw [hy0])) ?_
  refine z_lsub 46 C dX4_missOf_46 ?_
  refine z_topl (fun dy e_dy => ?_)
  have p1 := mulB (A := 200000) (B := 200000) (x := dx) (y := dx) (by omega) (by omega)
  have p2 := mulB (A := 200000) (B := 200000) (x := dy) (y := dy) (by omega) (by omega)
  have p3 := mulB (A := 1000) (B := 1000) (x := b 6 i) (y := b 6 i) (by omega) (by omega)
  refine v_lstore 47 [(5, .long (lZ dy)), (3, .long (lZ dx)), (0, .ref (ad 45)), (1, .int (iZ (k : Int))), (2, .int (iZ w))] C dX4_missOf_47 (by decide) rfl ?_
  refine v_aload_n 49 2 C dX4_missOf_49 rfl ?_
  refine g_Mo_flat 50 C (vm.o hm).1 (vm.o hm).2 lk_505 dX4_missOf_50 ?_
  refine v_iconst 53 C (iZ 2) dX4_missOf_53 rfl ?_
  refine v_iload_n 54 3 C dX4_missOf_54 rfl ?_
  refine z_imul 55 C dX4_missOf_55 ?_
  refine v_iload_n 56 4 C dX4_missOf_56 rfl ?_
  refine z_iadd 57 C dX4_missOf_57 ?_
  refine v_iald 58 C (vm.a hm 49 (by decide) rfl).1 (vm.a hm 49 (by decide) rfl).2 i (izn (by omega)) (lnx (show ln 49 = 60 from rfl) (by omega)) dX4_missOf_58 ?_
  refine v_eqi (iZ (b 6 i)) ((M2.2.2.1 i (by omega)).2.2) ?_
  refine z_i2l 59 C (by first | assumption | exact ⟨by omega, by omega⟩) dX4_missOf_59 ?_
  refine v_lstore 60 [(7, .long (lZ (b 6 i))), (5, .long (lZ dy)), (3, .long (lZ dx)), (0, .ref (ad 45)), (1, .int (iZ (k : Int))), (2, .int (iZ w))] C dX4_missOf_60 (by decide) rfl ?_
  refine v_lload_n 62 2 C dX4_missOf_62 rfl ?_
  refine v_lload_n 63 2 C dX4_missOf_63 rfl ?_
  refine z_lmul 64 C dX4_missOf_64 ?_
  refine v_lload 65 1 C dX4_missOf_65 rfl ?_
  refine v_lload 67 1 C dX4_missOf_67 rfl ?_
  refine z_lmul 69 C dX4_missOf_69 ?_
  refine z_ladd 70 C dX4_missOf_70 ?_
  refine v_lload 71 0 C dX4_missOf_71 rfl ?_
  refine v_lload 73 0 C dX4_missOf_73 rfl ?_
  refine z_lmul 75 C dX4_missOf_75 ?_
  refine v_calll 76 hA (rS 76 C L_RX4_176 lk_698 (m4_away ⟨by omega, by omega⟩ ⟨by omega, by omega⟩) rfl rfl (rm_ok rfl) dX4_missOf_76) (fun r4 w5 h6 => ?_)
  obtain ⟨e_r4, rfl⟩ := h6
  refine v_eql (lZ ((dx * dx + dy * dy - b 6 i * b 6 i).natAbs : Int)) (e_r4) ?_
  exact v_lret 79 C (⟨by rw [e_dx, e_dy]; rfl, S2, rfl, F2⟩) dX4_missOf_79

set_option maxHeartbeats 4000000 in
set_option maxRecDepth 100000 in
theorem d_miss_p {l : Launch} {D : va_G} {kc : Nat → ClassId} {N : Nat} {ad : Nat → Nat} {S : St} {b : Bs} (hm : vm N) (hI : Inv b) (hM : RM S b) {t : Ts} (hE : LE b t) {z s_ : Int} (rz : r32 z) (rs : r32 s_) (hp : ¬ isP b z) : MetK l yX4_miss cX4_miss 7 (some FieldType.int) 6 0 0 166 D kc (wl kc N ad S) [.ref (ad 45), .int (iZ z), .int (iZ s_)] (QI D kc (wl kc N ad S) (mQ kc N ad S (-1) (refB b 1))) := by
  refine MetK.of (by decide +kernel) (Nat.le_of_ble_eq_true rfl) ?_
  intro p e s m below meth c C
  have hA : ∀ q, s.heap.size ≤ q → va_A (wl kc N ad S) s.heap.size q := fun _ h => Or.inr h
  show V p l e { frames := 6, cells := 0, slots := 0, locals := 166 } s m ([.ref (ad 45), .int (iZ z), .int (iZ s_)] : List Value).toArray below meth c (MQ below (QI D kc (wl kc N ad S) (mQ kc N ad S (-1) (refB b 1)) s.heap.size) ([.ref (ad 45), .int (iZ z), .int (iZ s_)] : List Value).toArray s 0 0 (va_A (wl kc N ad S) s.heap.size)) D (va_A (wl kc N ad S) s.heap.size) 7 0 0 (wl kc N ad S) 0 [(0, .ref (ad 45)), (1, .int (iZ z)), (2, .int (iZ s_))] []
  have hb0 := hI.1
  refine v_aload_n 0 0 C dX4_miss_0 rfl ?_
  refine v_iload_n 1 1 C dX4_miss_1 rfl ?_
  refine v_calli 2 hA (rV_Mo 2 C L_RX4_160 lk_658 lk_32 (m4_isPart hm hI hM (by first | assumption | exact ⟨by omega, by omega⟩)) (vm.o hm) rfl ⟨rfl, rfl⟩ (rm_ok rfl) dX4_miss_2) (fun r1 w2 h3 => ?_)
  obtain ⟨e_r1, rfl⟩ := h3
  refine v_eqi (iZ (bz (isPb b z))) (e_r1) ?_
  refine z_if_eq 5 15 C (bzr _) dX4_miss_5 (by decide) (fun c5_0 => ?_) (fun c5_0 => absurd (by rw [isPb_n hp]; rfl) c5_0)
  refine v_aload_n 15 0 C dX4_miss_15 rfl ?_
  refine v_iconst 16 C (iZ (-1)) dX4_miss_16 rfl ?_
  refine v_calli 17 hA (rV_Mo 17 C L_RX4_95 lk_589 lk_22 (m4_refuse hm hI hM 1 (by decide) (by decide)) (vm.o hm) rfl ⟨rfl, rfl⟩ (rm_ok rfl) dX4_miss_17) (fun r4 w5 h6 => ?_)
  obtain ⟨e_r4, rfl⟩ := h6
  refine v_eqi (iZ (-1)) (e_r4) ?_
  exact v_iret 20 C (⟨rfl, refM4 S b 1, rfl, refRM hM, refC⟩) dX4_miss_20

set_option maxHeartbeats 4000000 in
set_option maxRecDepth 100000 in
theorem d_miss_s {l : Launch} {D : va_G} {kc : Nat → ClassId} {N : Nat} {ad : Nat → Nat} {S : St} {b : Bs} (hm : vm N) (hI : Inv b) (hM : RM S b) {t : Ts} (hE : LE b t) {k : Nat} (hk : k < bn b) (ht : b 8 k = 1) {s_ : Int} (rs : r32 s_) (hs : ¬ (0 ≤ s_ ∧ s_ < 17)) : MetK l yX4_miss cX4_miss 7 (some FieldType.int) 6 0 0 166 D kc (wl kc N ad S) [.ref (ad 45), .int (iZ (k : Int)), .int (iZ s_)] (QI D kc (wl kc N ad S) (mQ kc N ad S (-1) (refB b 1))) := by
  refine MetK.of (by decide +kernel) (Nat.le_of_ble_eq_true rfl) ?_
  intro p e s m below meth c C
  have hA : ∀ q, s.heap.size ≤ q → va_A (wl kc N ad S) s.heap.size q := fun _ h => Or.inr h
  show V p l e { frames := 6, cells := 0, slots := 0, locals := 166 } s m ([.ref (ad 45), .int (iZ (k : Int)), .int (iZ s_)] : List Value).toArray below meth c (MQ below (QI D kc (wl kc N ad S) (mQ kc N ad S (-1) (refB b 1)) s.heap.size) ([.ref (ad 45), .int (iZ (k : Int)), .int (iZ s_)] : List Value).toArray s 0 0 (va_A (wl kc N ad S) s.heap.size)) D (va_A (wl kc N ad S) s.heap.size) 7 0 0 (wl kc N ad S) 0 [(0, .ref (ad 45)), (1, .int (iZ (k : Int))), (2, .int (iZ s_))] []
  have hb0 := hI.1
  refine v_aload_n 0 0 C dX4_miss_0 rfl ?_
  refine v_iload_n 1 1 C dX4_miss_1 rfl ?_
  refine v_calli 2 hA (rV_Mo 2 C L_RX4_160 lk_658 lk_32 (m4_isPart hm hI hM (by first | assumption | exact ⟨by omega, by omega⟩)) (vm.o hm) rfl ⟨rfl, rfl⟩ (rm_ok rfl) dX4_miss_2) (fun r1 w2 h3 => ?_)
  obtain ⟨e_r1, rfl⟩ := h3
  refine v_eqi (iZ (bz (isPb b (k : Int)))) (e_r1) ?_
  refine z_if_eq 5 15 C (bzr _) dX4_miss_5 (by decide) (fun c5_0 => absurd c5_0 (by rw [isPb_y hI hk ht]; decide)) (fun c5_0 => ?_)
  refine v_iload_n 8 2 C dX4_miss_8 rfl ?_
  refine v_calli 9 hA (rS 9 C L_RX4_170 lk_677 (m4_isStep (by first | assumption | exact ⟨by omega, by omega⟩)) rfl rfl (rm_ok rfl) dX4_miss_9) (fun r4 w5 h6 => ?_)
  obtain ⟨e_r4, rfl⟩ := h6
  refine v_eqi (iZ (bz (decide (0 ≤ s_ ∧ s_ ≤ 16)))) (e_r4) ?_
  refine z_if_ne 12 21 C (bzr _) dX4_miss_12 (by decide) (fun c12_1 => absurd c12_1 (fun q => q (by rw [decide_eq_false (show ¬ (0 ≤ s_ ∧ s_ ≤ 16) by omega)]; rfl))) (fun c12_1 => ?_)
  refine v_aload_n 15 0 C dX4_miss_15 rfl ?_
  refine v_iconst 16 C (iZ (-1)) dX4_miss_16 rfl ?_
  refine v_calli 17 hA (rV_Mo 17 C L_RX4_95 lk_589 lk_22 (m4_refuse hm hI hM 1 (by decide) (by decide)) (vm.o hm) rfl ⟨rfl, rfl⟩ (rm_ok rfl) dX4_miss_17) (fun r7 w8 h9 => ?_)
  obtain ⟨e_r7, rfl⟩ := h9
  refine v_eqi (iZ (-1)) (e_r7) ?_
  exact v_iret 20 C (⟨rfl, refM4 S b 1, rfl, refRM hM, refC⟩) dX4_miss_20

theorem msZ_b {b : Bs} {t : Ts} {k i j : Nat} (hI : Inv b) (hE : LE b t) (hk : k < bn b) (ht : b 8 k = 1) (hj : j < 17) (h0 : t 4 k j = 0) (hi : i = 2 * k ∨ i = 2 * k + 1) : r64 (msZ t b k i j) := by
  have B := bd_k hI hE hk ht hj h0
  have Bi := B.2 i hi
  have J := hI.2.2.2.2 k hk i hi
  have p1 := mulB (A := 200000) (B := 200000) (x := t 2 k j - t 0 i j) (y := t 2 k j - t 0 i j) (by omega) (by omega)
  have p2 := mulB (A := 200000) (B := 200000) (x := t 3 k j - t 1 i j) (y := t 3 k j - t 1 i j) (by omega) (by omega)
  have p3 := mulB (A := 1000) (B := 1000) (x := b 6 i) (y := b 6 i) (by omega) (by omega)
  unfold msZ
  exact ⟨by omega, by omega⟩
theorem ms_max {b : Bs} {t : Ts} {k j : Nat} {ma mb x : Int} (e1 : ma = msZ t b k (2 * k) j) (e2 : mb = msZ t b k (2 * k + 1) j) (h : (x = ma ∧ ¬ ma ≤ mb) ∨ (x = mb ∧ ma ≤ mb)) : x = missZ (t 0 (2 * k) j) (t 1 (2 * k) j) (t 0 (2 * k + 1) j) (t 1 (2 * k + 1) j) (t 2 k j) (t 3 k j) (b 6 (2 * k)) (b 6 (2 * k + 1)) := by
  have e : missZ (t 0 (2 * k) j) (t 1 (2 * k) j) (t 0 (2 * k + 1) j) (t 1 (2 * k + 1) j) (t 2 k j) (t 3 k j) (b 6 (2 * k)) (b 6 (2 * k + 1)) = max ma mb := by rw [e1, e2]; rfl
  rw [e]; omega
set_option maxHeartbeats 4000000 in
set_option maxRecDepth 100000 in
theorem d_miss {l : Launch} {D : va_G} {kc : Nat → ClassId} {N : Nat} {ad : Nat → Nat} {S : St} {b : Bs} (hm : vm N) (hI : Inv b) (hM : RM S b) {t : Ts} (hE : LE b t) {k : Nat} (hk : k < bn b) (ht : b 8 k = 1) {j : Nat} (hj : j < 17) : MetK l yX4_miss cX4_miss 7 (some FieldType.int) 6 0 0 166 D kc (wl kc N ad S) [.ref (ad 45), .int (iZ (k : Int)), .int (iZ (j : Int))] (QI D kc (wl kc N ad S) (mQ kc N ad S (if t 4 k j = 0 then missZ (t 0 (2 * k) j) (t 1 (2 * k) j) (t 0 (2 * k + 1) j) (t 1 (2 * k + 1) j) (t 2 k j) (t 3 k j) (b 6 (2 * k)) (b 6 (2 * k + 1)) else 0) (b))) := by
  refine MetK.of (by decide +kernel) (Nat.le_of_ble_eq_true rfl) ?_
  intro p e s m below meth c C
  have hA : ∀ q, s.heap.size ≤ q → va_A (wl kc N ad S) s.heap.size q := fun _ h => Or.inr h
  show V p l e { frames := 6, cells := 0, slots := 0, locals := 166 } s m ([.ref (ad 45), .int (iZ (k : Int)), .int (iZ (j : Int))] : List Value).toArray below meth c (MQ below (QI D kc (wl kc N ad S) (mQ kc N ad S (if t 4 k j = 0 then missZ (t 0 (2 * k) j) (t 1 (2 * k) j) (t 0 (2 * k + 1) j) (t 1 (2 * k + 1) j) (t 2 k j) (t 3 k j) (b 6 (2 * k)) (b 6 (2 * k + 1)) else 0) (b)) s.heap.size) ([.ref (ad 45), .int (iZ (k : Int)), .int (iZ (j : Int))] : List Value).toArray s 0 0 (va_A (wl kc N ad S) s.heap.size)) D (va_A (wl kc N ad S) s.heap.size) 7 0 0 (wl kc N ad S) 0 [(0, .ref (ad 45)), (1, .int (iZ (k : Int))), (2, .int (iZ (j : Int)))] []
  have hb0 := hI.1
  refine v_aload_n 0 0 C dX4_miss_0 rfl ?_
  refine v_iload_n 1 1 C dX4_miss_1 rfl ?_
  refine v_calli 2 hA (rV_Mo 2 C L_RX4_160 lk_658 lk_32 (m4_isPart hm hI hM (by first | assumption | exact ⟨by omega, by omega⟩)) (vm.o hm) rfl ⟨rfl, rfl⟩ (rm_ok rfl) dX4_miss_2) (fun r1 w2 h3 => ?_)
  obtain ⟨e_r1, rfl⟩ := h3
  refine v_eqi (iZ (bz (isPb b (k : Int)))) (e_r1) ?_
  refine z_if_eq 5 15 C (bzr _) dX4_miss_5 (by decide) (fun c5_0 => absurd c5_0 (by rw [isPb_y hI hk ht]; decide)) (fun c5_0 => ?_)
  refine v_iload_n 8 2 C dX4_miss_8 rfl ?_
  refine v_calli 9 hA (rS 9 C L_RX4_170 lk_677 (m4_isStep (by first | assumption | exact ⟨by omega, by omega⟩)) rfl rfl (rm_ok rfl) dX4_miss_9) (fun r4 w5 h6 => ?_)
  obtain ⟨e_r4, rfl⟩ := h6
  refine v_eqi (iZ (bz (decide (0 ≤ (j : Int) ∧ (j : Int) ≤ 16)))) (e_r4) ?_
  refine z_if_ne 12 21 C (bzr _) dX4_miss_12 (by decide) (fun c12_1 => ?_) (fun c12_1 => absurd c12_1 (by rw [decide_eq_true (show 0 ≤ (j : Int) ∧ (j : Int) ≤ 16 by omega)]; decide))
  refine v_aload_n 21 0 C dX4_miss_21 rfl ?_
  refine v_iload_n 22 2 C dX4_miss_22 rfl ?_
  refine v_callv 23 hA (rV_Mo 23 C L_RX4_155 lk_617 lk_26 (m4_open hm hI hM hE hj) (vm.o hm) rfl ⟨rfl, rfl⟩ (rm_ok rfl) dX4_miss_23) (fun w8 h9 => ?_)
  obtain ⟨S1, rfl, F1, O1⟩ := h9
  have M1 := F1.RM hM
  have ok1 := O1.2 k hk hk
  rw [if_pos ht] at ok1
  have h01 := (hE k hk hk ht j hj).1
  refine v_aload_n 26 0 C dX4_miss_26 rfl ?_
  refine g_Mo_isStuck 27 C (vm.o hm).1 (vm.o hm).2 lk_513 dX4_miss_27 ?_
  refine v_iload_n 30 1 C dX4_miss_30 rfl ?_
  refine v_zald 31 C (vm.a hm 56 (by decide) rfl).1 (vm.a hm 56 (by decide) rfl).2 k (izn (by omega)) (lnx (show ln 56 = 30 from rfl) (by omega)) dX4_miss_31 ?_
  refine v_eqi (iZ (t 4 k j)) (ok1.1) ?_
  refine z_if_eq 32 37 C (by first | assumption | exact ⟨by omega, by omega⟩) dX4_miss_32 (by decide) (fun cS => ?_) (fun cS => ?_)
  · skip
    refine v_aload_n 37 0 C dX4_miss_37 rfl ?_
    refine v_iload_n 38 1 C dX4_miss_38 rfl ?_
    refine v_iconst 39 C (iZ 0) dX4_miss_39 rfl ?_
    refine v_calll 40 hA (rV_Mo 40 C L_RX4_179 lk_695 lk_36 (m4_missOf (i := 2 * k) hm hI M1 hE hj hk ht cS O1 (by omega) (Or.inl rfl)) (vm.o hm) rfl ⟨rfl, rfl⟩ (rm_ok rfl) dX4_miss_40) (fun MA w10 h11 => ?_)
    obtain ⟨e_MA, S2, rfl, F2⟩ := h11
    refine v_eql (lZ (msZ t b k (2 * k) j)) (e_MA) ?_
    refine z_topl (fun ma e_ma => ?_)
    refine v_lstore_n 43 [(3, .long (lZ ma)), (0, .ref (ad 45)), (1, .int (iZ (k : Int))), (2, .int (iZ (j : Int)))] C dX4_miss_43 (by decide) rfl ?_
    refine v_aload_n 44 1 C dX4_miss_44 rfl ?_
    refine v_iload_n 45 2 C dX4_miss_45 rfl ?_
    refine v_iconst 46 C (iZ 1) dX4_miss_46 rfl ?_
    refine v_calll 47 hA (rV_Mo 47 C L_RX4_179 lk_695 lk_36 (m4_missOf (i := 2 * k + 1) hm hI (F2.RM M1) hE hj hk ht cS (F2.OP O1) (by omega) (Or.inr rfl)) (vm.o hm) rfl ⟨rfl, rfl⟩ (rm_ok rfl) dX4_miss_47) (fun MB w12 h13 => ?_)
    obtain ⟨e_MB, S3, rfl, F3⟩ := h13
    refine v_eql (lZ (msZ t b k (2 * k + 1) j)) (e_MB) ?_
    refine z_topl (fun mb e_mb => ?_)
    refine v_lstore 50 [(5, .long (lZ mb)), (3, .long (lZ ma)), (0, .ref (ad 45)), (1, .int (iZ (k : Int))), (2, .int (iZ (j : Int)))] C dX4_miss_50 (by decide) rfl ?_
    refine v_lload_n 52 1 C dX4_miss_52 rfl ?_
    refine v_lload 53 0 C dX4_miss_53 rfl ?_
    refine z_lcmp_le 55 63 C (by rw [e_ma]; exact msZ_b hI hE hk ht hj cS (Or.inl rfl)) (by rw [e_mb]; exact msZ_b hI hE hk ht hj cS (Or.inr rfl)) dX4_miss_55 dX4_miss_56 (by decide) (fun cM => ?_) (fun cM => ?_)
    · skip
      refine v_lload 63 0 C dX4_miss_63 rfl ?_
      refine z_l2i 65 C dX4_miss_65 ?_
      exact v_iret 66 C (⟨by rw [if_pos cS]; exact congrArg iZ (ms_max e_ma e_mb (Or.inr ⟨rfl, cM⟩)), S3, rfl, F3.RM (F2.RM M1), ((F1.tr F2.O).tr F3.O).C⟩) dX4_miss_66
    · skip
      refine v_lload_n 59 1 C dX4_miss_59 rfl ?_
      refine v_goto 60 65 C dX4_miss_60 (by decide) ?_
      refine z_l2i 65 C dX4_miss_65 ?_
      exact v_iret 66 C (⟨by rw [if_pos cS]; exact congrArg iZ (ms_max e_ma e_mb (Or.inl ⟨rfl, cM⟩)), S3, rfl, F3.RM (F2.RM M1), ((F1.tr F2.O).tr F3.O).C⟩) dX4_miss_66
  · skip
    refine v_iconst 35 C (iZ 0) dX4_miss_35 rfl ?_
    exact v_iret 36 C (⟨by rw [if_neg cS], S1, rfl, M1, F1.C⟩) dX4_miss_36

set_option maxHeartbeats 4000000 in
set_option maxRecDepth 100000 in
theorem m4_stuckAt {l : Launch} {D : va_G} {kc : Nat → ClassId} {N : Nat} {ad : Nat → Nat} {S : St} {b : Bs} (hm : vm N) (hI : Inv b) (hM : RM S b) {t : Ts} (hE : LE b t) {k : Nat} (hk : k < bn b) (ht : b 8 k = 1) : MetK l yX4_stuckAt cX4_stuckAt 3 (some FieldType.int) 6 0 0 166 D kc (wl kc N ad S) [.ref (ad 45), .int (iZ (k : Int))] (QI D kc (wl kc N ad S) (fun r ws' => r = iZ (fsZ (t 4 k)) ∧ ∃ S', ws' = wl kc N ad S' ∧ OpF S S')) := by
  refine MetK.of (by decide +kernel) (Nat.le_of_ble_eq_true rfl) ?_
  intro p e s m below meth c C
  have hA : ∀ q, s.heap.size ≤ q → va_A (wl kc N ad S) s.heap.size q := fun _ h => Or.inr h
  show V p l e { frames := 6, cells := 0, slots := 0, locals := 166 } s m ([.ref (ad 45), .int (iZ (k : Int))] : List Value).toArray below meth c (MQ below (QI D kc (wl kc N ad S) (fun r ws' => r = iZ (fsZ (t 4 k)) ∧ ∃ S', ws' = wl kc N ad S' ∧ OpF S S') s.heap.size) ([.ref (ad 45), .int (iZ (k : Int))] : List Value).toArray s 0 0 (va_A (wl kc N ad S) s.heap.size)) D (va_A (wl kc N ad S) s.heap.size) 3 0 0 (wl kc N ad S) 0 [(0, .ref (ad 45)), (1, .int (iZ (k : Int)))] []
  have hb0 := hI.1
  have loop : ∀ (d s_ : Nat) (S1 : St), s_ + d = 17 → fsF (t 4 k) d s_ = fsZ (t 4 k) → OpF S S1 → V p l e { frames := 6, cells := 0, slots := 0, locals := 166 } s m ([.ref (ad 45), .int (iZ (k : Int))] : List Value).toArray below meth c (MQ below (QI D kc (wl kc N ad S) (fun r ws' => r = iZ (fsZ (t 4 k)) ∧ ∃ S', ws' = wl kc N ad S' ∧ OpF S S') s.heap.size) ([.ref (ad 45), .int (iZ (k : Int))] : List Value).toArray s 0 0 (va_A (wl kc N ad S) s.heap.size)) D (va_A (wl kc N ad S) s.heap.size) 3 0 0 (wl kc N ad S1) 2 [(2, .int (iZ (s_ : Int))), (1, .int (iZ (k : Int))), (0, .ref (ad 45))] [] := by
    intro d
    induction d with
    | zero =>
      intro s_ S1 hs hf hF
      refine v_iload_n 2 0 C dX4_stuckAt_2 rfl ?_
      refine v_bipush 3 C (iZ 17) dX4_stuckAt_3 (by decide) ?_
      refine z_icmp_ge 5 30 C (by first | assumption | exact ⟨by omega, by omega⟩) (by first | assumption | exact ⟨by omega, by omega⟩) dX4_stuckAt_5 (by decide) (fun c5_0 => ?_) (fun c5_0 => absurd (by omega) c5_0)
      refine v_bipush 30 C (iZ (-9)) dX4_stuckAt_30 (by decide) ?_
      exact v_iret 32 C (⟨by rw [← hf]; rfl, S1, rfl, hF⟩) dX4_stuckAt_32
    | succ d ih =>
      intro s_ S1 hs hf hF
      have hj : s_ < 17 := by omega
      refine v_iload_n 2 0 C dX4_stuckAt_2 rfl ?_
      refine v_bipush 3 C (iZ 17) dX4_stuckAt_3 (by decide) ?_
      refine z_icmp_ge 5 30 C (by first | assumption | exact ⟨by omega, by omega⟩) (by first | assumption | exact ⟨by omega, by omega⟩) dX4_stuckAt_5 (by decide) (fun c5_0 => absurd c5_0 (by omega)) (fun c5_0 => ?_)
      refine v_aload_n 8 2 C dX4_stuckAt_8 rfl ?_
      refine v_iload_n 9 0 C dX4_stuckAt_9 rfl ?_
      refine v_callv 10 hA (rV_Mo 10 C L_RX4_155 lk_617 lk_26 (m4_open hm hI (hF.RM hM) hE hj) (vm.o hm) rfl ⟨rfl, rfl⟩ (rm_ok rfl) dX4_stuckAt_10) (fun w2 h3 => ?_)
      obtain ⟨S2, rfl, F2, O2⟩ := h3
      have ok1 := O2.2 k hk hk
      rw [if_pos ht] at ok1
      have h01 := (hE k hk hk ht s_ hj).1
      refine v_aload_n 13 2 C dX4_stuckAt_13 rfl ?_
      refine g_Mo_isStuck 14 C (vm.o hm).1 (vm.o hm).2 lk_513 dX4_stuckAt_14 ?_
      refine v_iload_n 17 1 C dX4_stuckAt_17 rfl ?_
      refine v_zald 18 C (vm.a hm 56 (by decide) rfl).1 (vm.a hm 56 (by decide) rfl).2 k (izn (by omega)) (lnx (show ln 56 = 30 from rfl) (by omega)) dX4_stuckAt_18 ?_
      refine v_eqi (iZ (t 4 k s_)) (ok1.1) ?_
      refine z_if_eq 19 24 C (by first | assumption | exact ⟨by omega, by omega⟩) dX4_stuckAt_19 (by decide) (fun cS => ?_) (fun cS => ?_)
      · skip
        refine v_iinc 24 0 (iZ ((s_ + 1 : Nat) : Int)) [(2, .int (iZ ((s_ + 1 : Nat) : Int))), (1, .int (iZ (k : Int))), (0, .ref (ad 45))] C dX4_stuckAt_24 rfl (iZ_add _ _) (by decide) rfl ?_
        refine v_goto 27 2 C dX4_stuckAt_27 (by decide) ?_
        refine v_sub [0, 1, 2] rfl ?_
        exact ih (s_ + 1) S2 (by omega) (by rw [← hf, fsF, if_pos cS]) (hF.tr F2)
      · skip
        refine v_iload_n 22 0 C dX4_stuckAt_22 rfl ?_
        exact v_iret 23 C (⟨by rw [← hf, fsF, if_neg cS], S2, rfl, hF.tr F2⟩) dX4_stuckAt_23
  refine v_iconst 0 C (iZ 0) dX4_stuckAt_0 rfl ?_
  refine v_istore_n 1 [(2, .int (iZ 0)), (0, .ref (ad 45)), (1, .int (iZ (k : Int)))] C dX4_stuckAt_1 (by decide) rfl ?_
  refine v_sub [0, 2, 1] rfl ?_
  exact loop 17 0 S (by omega) rfl OpF.rf

set_option maxHeartbeats 4000000 in
set_option maxRecDepth 100000 in
theorem d_stuck_p {l : Launch} {D : va_G} {kc : Nat → ClassId} {N : Nat} {ad : Nat → Nat} {S : St} {b : Bs} (hm : vm N) (hI : Inv b) (hM : RM S b) {t : Ts} (hE : LE b t) {z : Int} (rz : r32 z) (hp : ¬ isP b z) : MetK l yX4_stuck cX4_stuck 2 (some FieldType.int) 7 0 0 188 D kc (wl kc N ad S) [.ref (ad 45), .int (iZ z)] (QI D kc (wl kc N ad S) (mQ kc N ad S (-1) (refB b 1))) := by
  refine MetK.of (by decide +kernel) (Nat.le_of_ble_eq_true rfl) ?_
  intro p e s m below meth c C
  have hA : ∀ q, s.heap.size ≤ q → va_A (wl kc N ad S) s.heap.size q := fun _ h => Or.inr h
  show V p l e { frames := 7, cells := 0, slots := 0, locals := 188 } s m ([.ref (ad 45), .int (iZ z)] : List Value).toArray below meth c (MQ below (QI D kc (wl kc N ad S) (mQ kc N ad S (-1) (refB b 1)) s.heap.size) ([.ref (ad 45), .int (iZ z)] : List Value).toArray s 0 0 (va_A (wl kc N ad S) s.heap.size)) D (va_A (wl kc N ad S) s.heap.size) 2 0 0 (wl kc N ad S) 0 [(0, .ref (ad 45)), (1, .int (iZ z))] []
  have hb0 := hI.1
  refine v_aload_n 0 0 C dX4_stuck_0 rfl ?_
  refine v_iload_n 1 1 C dX4_stuck_1 rfl ?_
  refine v_calli 2 hA (rV_Mo 2 C L_RX4_160 lk_658 lk_32 (m4_isPart hm hI hM (by first | assumption | exact ⟨by omega, by omega⟩)) (vm.o hm) rfl ⟨rfl, rfl⟩ (rm_ok rfl) dX4_stuck_2) (fun r1 w2 h3 => ?_)
  obtain ⟨e_r1, rfl⟩ := h3
  refine v_eqi (iZ (bz (isPb b z))) (e_r1) ?_
  refine z_if_eq 5 16 C (bzr _) dX4_stuck_5 (by decide) (fun c5_0 => ?_) (fun c5_0 => absurd (by rw [isPb_n hp]; rfl) c5_0)
  refine v_aload_n 16 0 C dX4_stuck_16 rfl ?_
  refine v_iconst 17 C (iZ (-1)) dX4_stuck_17 rfl ?_
  refine v_calli 18 hA (rV_Mo 18 C L_RX4_95 lk_589 lk_22 (m4_refuse hm hI hM 1 (by decide) (by decide)) (vm.o hm) rfl ⟨rfl, rfl⟩ (rm_ok rfl) dX4_stuck_18) (fun r4 w5 h6 => ?_)
  obtain ⟨e_r4, rfl⟩ := h6
  refine v_eqi (iZ (-1)) (e_r4) ?_
  exact v_iret 21 C (⟨rfl, refM4 S b 1, rfl, refRM hM, refC⟩) dX4_stuck_21

set_option maxHeartbeats 4000000 in
set_option maxRecDepth 100000 in
theorem d_stuck {l : Launch} {D : va_G} {kc : Nat → ClassId} {N : Nat} {ad : Nat → Nat} {S : St} {b : Bs} (hm : vm N) (hI : Inv b) (hM : RM S b) {t : Ts} (hE : LE b t) {k : Nat} (hk : k < bn b) (ht : b 8 k = 1) : MetK l yX4_stuck cX4_stuck 2 (some FieldType.int) 7 0 0 188 D kc (wl kc N ad S) [.ref (ad 45), .int (iZ (k : Int))] (QI D kc (wl kc N ad S) (mQ kc N ad S (fsZ (t 4 k)) (b))) := by
  refine MetK.of (by decide +kernel) (Nat.le_of_ble_eq_true rfl) ?_
  intro p e s m below meth c C
  have hA : ∀ q, s.heap.size ≤ q → va_A (wl kc N ad S) s.heap.size q := fun _ h => Or.inr h
  show V p l e { frames := 7, cells := 0, slots := 0, locals := 188 } s m ([.ref (ad 45), .int (iZ (k : Int))] : List Value).toArray below meth c (MQ below (QI D kc (wl kc N ad S) (mQ kc N ad S (fsZ (t 4 k)) (b)) s.heap.size) ([.ref (ad 45), .int (iZ (k : Int))] : List Value).toArray s 0 0 (va_A (wl kc N ad S) s.heap.size)) D (va_A (wl kc N ad S) s.heap.size) 2 0 0 (wl kc N ad S) 0 [(0, .ref (ad 45)), (1, .int (iZ (k : Int)))] []
  have hb0 := hI.1
  refine v_aload_n 0 0 C dX4_stuck_0 rfl ?_
  refine v_iload_n 1 1 C dX4_stuck_1 rfl ?_
  refine v_calli 2 hA (rV_Mo 2 C L_RX4_160 lk_658 lk_32 (m4_isPart hm hI hM (by first | assumption | exact ⟨by omega, by omega⟩)) (vm.o hm) rfl ⟨rfl, rfl⟩ (rm_ok rfl) dX4_stuck_2) (fun r1 w2 h3 => ?_)
  obtain ⟨e_r1, rfl⟩ := h3
  refine v_eqi (iZ (bz (isPb b (k : Int)))) (e_r1) ?_
  refine z_if_eq 5 16 C (bzr _) dX4_stuck_5 (by decide) (fun c5_0 => absurd c5_0 (by rw [isPb_y hI hk ht]; decide)) (fun c5_0 => ?_)
  refine v_aload_n 8 0 C dX4_stuck_8 rfl ?_
  refine v_iload_n 9 1 C dX4_stuck_9 rfl ?_
  refine v_calli 10 hA (rV_Mo 10 C L_RX4_183 lk_706 lk_37 (m4_stuckAt hm hI hM hE hk ht) (vm.o hm) rfl ⟨rfl, rfl⟩ (rm_ok rfl) dX4_stuck_10) (fun SA w4 h5 => ?_)
  obtain ⟨e_SA, S1, rfl, F1⟩ := h5
  refine v_eqi (iZ (fsZ (t 4 k))) (e_SA) ?_
  refine v_goto 13 21 C dX4_stuck_13 (by decide) ?_
  exact v_iret 21 C (⟨rfl, S1, rfl, F1.RM hM, F1.C⟩) dX4_stuck_21

set_option maxHeartbeats 4000000 in
set_option maxRecDepth 100000 in
theorem d_even_p {l : Launch} {D : va_G} {kc : Nat → ClassId} {N : Nat} {ad : Nat → Nat} {S : St} {b : Bs} (hm : vm N) (hI : Inv b) (hM : RM S b) {t : Ts} (hE : LE b t) {z : Int} (rz : r32 z) (hp : ¬ isP b z) : MetK l yX4_even cX4_even 2 (some FieldType.boolean) 6 0 0 166 D kc (wl kc N ad S) [.ref (ad 45), .int (iZ z)] (QI D kc (wl kc N ad S) (mQ kc N ad S (0) (b))) := by
  refine MetK.of (by decide +kernel) (Nat.le_of_ble_eq_true rfl) ?_
  intro p e s m below meth c C
  have hA : ∀ q, s.heap.size ≤ q → va_A (wl kc N ad S) s.heap.size q := fun _ h => Or.inr h
  show V p l e { frames := 6, cells := 0, slots := 0, locals := 166 } s m ([.ref (ad 45), .int (iZ z)] : List Value).toArray below meth c (MQ below (QI D kc (wl kc N ad S) (mQ kc N ad S (0) (b)) s.heap.size) ([.ref (ad 45), .int (iZ z)] : List Value).toArray s 0 0 (va_A (wl kc N ad S) s.heap.size)) D (va_A (wl kc N ad S) s.heap.size) 2 0 0 (wl kc N ad S) 0 [(0, .ref (ad 45)), (1, .int (iZ z))] []
  have hb0 := hI.1
  refine v_aload_n 0 0 C dX4_even_0 rfl ?_
  refine v_iload_n 1 1 C dX4_even_1 rfl ?_
  refine v_calli 2 hA (rV_Mo 2 C L_RX4_160 lk_658 lk_32 (m4_isPart hm hI hM (by first | assumption | exact ⟨by omega, by omega⟩)) (vm.o hm) rfl ⟨rfl, rfl⟩ (rm_ok rfl) dX4_even_2) (fun r1 w2 h3 => ?_)
  obtain ⟨e_r1, rfl⟩ := h3
  refine v_eqi (iZ (bz (isPb b z))) (e_r1) ?_
  refine z_if_ne 5 10 C (bzr _) dX4_even_5 (by decide) (fun c5_0 => absurd c5_0 (fun q => q (by rw [isPb_n hp]; rfl))) (fun c5_0 => ?_)
  refine v_iconst 8 C (iZ 0) dX4_even_8 rfl ?_
  exact v_zret 9 C (rfl) (⟨rfl, S, rfl, hM, sameOn.rf⟩) dX4_even_9

set_option maxHeartbeats 4000000 in
set_option maxRecDepth 100000 in
theorem d_even {l : Launch} {D : va_G} {kc : Nat → ClassId} {N : Nat} {ad : Nat → Nat} {S : St} {b : Bs} (hm : vm N) (hI : Inv b) (hM : RM S b) {t : Ts} (hE : LE b t) {k : Nat} (hk : k < bn b) (ht : b 8 k = 1) : MetK l yX4_even cX4_even 2 (some FieldType.boolean) 6 0 0 166 D kc (wl kc N ad S) [.ref (ad 45), .int (iZ (k : Int))] (QI D kc (wl kc N ad S) (mQ kc N ad S (bz (decide (t 4 k 8 = 0) && decide (((t 2 k 8 - t 3 k 8).natAbs : Int) ≤ b 2 0))) (b))) := by
  refine MetK.of (by decide +kernel) (Nat.le_of_ble_eq_true rfl) ?_
  intro p e s m below meth c C
  have hA : ∀ q, s.heap.size ≤ q → va_A (wl kc N ad S) s.heap.size q := fun _ h => Or.inr h
  show V p l e { frames := 6, cells := 0, slots := 0, locals := 166 } s m ([.ref (ad 45), .int (iZ (k : Int))] : List Value).toArray below meth c (MQ below (QI D kc (wl kc N ad S) (mQ kc N ad S (bz (decide (t 4 k 8 = 0) && decide (((t 2 k 8 - t 3 k 8).natAbs : Int) ≤ b 2 0))) (b)) s.heap.size) ([.ref (ad 45), .int (iZ (k : Int))] : List Value).toArray s 0 0 (va_A (wl kc N ad S) s.heap.size)) D (va_A (wl kc N ad S) s.heap.size) 2 0 0 (wl kc N ad S) 0 [(0, .ref (ad 45)), (1, .int (iZ (k : Int)))] []
  have hb0 := hI.1
  have hb2 := hI.2.2.1
  refine v_aload_n 0 0 C dX4_even_0 rfl ?_
  refine v_iload_n 1 1 C dX4_even_1 rfl ?_
  refine v_calli 2 hA (rV_Mo 2 C L_RX4_160 lk_658 lk_32 (m4_isPart hm hI hM (by first | assumption | exact ⟨by omega, by omega⟩)) (vm.o hm) rfl ⟨rfl, rfl⟩ (rm_ok rfl) dX4_even_2) (fun r1 w2 h3 => ?_)
  obtain ⟨e_r1, rfl⟩ := h3
  refine v_eqi (iZ (bz (isPb b (k : Int)))) (e_r1) ?_
  refine z_if_ne 5 10 C (bzr _) dX4_even_5 (by decide) (fun c5_0 => ?_) (fun c5_0 => absurd c5_0 (by rw [isPb_y hI hk ht]; decide))
  refine v_aload_n 10 0 C dX4_even_10 rfl ?_
  refine v_bipush 11 C (iZ 8) dX4_even_11 (by decide) ?_
  refine v_callv 13 hA (rV_Mo 13 C L_RX4_155 lk_617 lk_26 (m4_open (j := 8) hm hI hM hE (by decide)) (vm.o hm) rfl ⟨rfl, rfl⟩ (rm_ok rfl) dX4_even_13) (fun w5 h6 => ?_)
  obtain ⟨S1, rfl, F1, O1⟩ := h6
  have M1 := F1.RM hM
  have ok1 := O1.2 k hk hk
  rw [if_pos ht] at ok1
  have h01 := (hE k hk hk ht 8 (by decide)).1
  refine v_aload_n 16 0 C dX4_even_16 rfl ?_
  refine g_Mo_isStuck 17 C (vm.o hm).1 (vm.o hm).2 lk_513 dX4_even_17 ?_
  refine v_iload_n 20 1 C dX4_even_20 rfl ?_
  refine v_zald 21 C (vm.a hm 56 (by decide) rfl).1 (vm.a hm 56 (by decide) rfl).2 k (izn (by omega)) (lnx (show ln 56 = 30 from rfl) (by omega)) dX4_even_21 ?_
  refine v_eqi (iZ (t 4 k 8)) (ok1.1) ?_
  refine z_if_ne 22 53 C (by first | assumption | exact ⟨by omega, by omega⟩) dX4_even_22 (by decide) (fun cS => ?_) (fun cS => ?_)
  · skip
    refine v_iconst 53 C (iZ 0) dX4_even_53 rfl ?_
    exact v_zret 54 C (rfl) (⟨bzF (by rw [decide_eq_false cS]; rfl), S1, rfl, M1, F1.C⟩) dX4_even_54
  · skip
    have B := (bd_k hI hE hk ht (show 8 < 17 by decide) cS).1
    refine v_aload_n 25 0 C dX4_even_25 rfl ?_
    refine g_Mo_atX 26 C (vm.o hm).1 (vm.o hm).2 lk_511 dX4_even_26 ?_
    refine v_iload_n 29 1 C dX4_even_29 rfl ?_
    refine v_lald 30 C (vm.a hm 54 (by decide) rfl).1 (vm.a hm 54 (by decide) rfl).2 k (izn (by omega)) (lnx (show ln 54 = 30 from rfl) (by omega)) dX4_even_30 ?_
    refine v_eql (lZ (t 2 k 8)) ((ok1.2 ht cS).1) ?_
    refine v_aload_n 31 0 C dX4_even_31 rfl ?_
    refine g_Mo_atY 32 C (vm.o hm).1 (vm.o hm).2 lk_512 dX4_even_32 ?_
    refine v_iload_n 35 1 C dX4_even_35 rfl ?_
    refine v_lald 36 C (vm.a hm 55 (by decide) rfl).1 (vm.a hm 55 (by decide) rfl).2 k (izn (by omega)) (lnx (show ln 55 = 30 from rfl) (by omega)) dX4_even_36 ?_
    refine v_eql (lZ (t 3 k 8)) ((ok1.2 ht cS).2) ?_
    refine v_calll 37 hA (rS 37 C L_RX4_176 lk_698 (m4_away ⟨by omega, by omega⟩ ⟨by omega, by omega⟩) rfl rfl (rm_ok rfl) dX4_even_37) (fun r7 w8 h9 => ?_)
    obtain ⟨e_r7, rfl⟩ := h9
    refine v_eql (lZ ((t 2 k 8 - t 3 k 8).natAbs : Int)) (e_r7) ?_
    refine v_aload_n 40 0 C dX4_even_40 rfl ?_
    refine g_Mo_tol 41 C (vm.o hm).1 (vm.o hm).2 lk_500 dX4_even_41 ?_
    refine v_eqi (iZ (b 2 0)) (M1.1.2.1) ?_
    refine z_i2l 44 C (by first | assumption | exact ⟨by omega, by omega⟩) dX4_even_44 ?_
    refine z_lcmp_gt 45 53 C (by first | assumption | exact ⟨by omega, by omega⟩) (by first | assumption | exact ⟨by omega, by omega⟩) dX4_even_45 dX4_even_46 (by decide) (fun cD => ?_) (fun cD => ?_)
    · skip
      refine v_iconst 53 C (iZ 0) dX4_even_53 rfl ?_
      exact v_zret 54 C (rfl) (⟨bzF (by rw [decide_eq_false (show ¬ ((t 2 k 8 - t 3 k 8).natAbs : Int) ≤ b 2 0 by omega)]; simp), S1, rfl, M1, F1.C⟩) dX4_even_54
    · skip
      refine v_iconst 49 C (iZ 1) dX4_even_49 rfl ?_
      refine v_goto 50 54 C dX4_even_50 (by decide) ?_
      exact v_zret 54 C (rfl) (⟨bzT (by rw [decide_eq_true cS, decide_eq_true (show ((t 2 k 8 - t 3 k 8).natAbs : Int) ≤ b 2 0 by omega)]; rfl), S1, rfl, M1, F1.C⟩) dX4_even_54
