set_option maxHeartbeats 4000000 in
set_option maxRecDepth 100000 in
theorem d_meet_nn {l : Launch} {D : va_G} {kc : Nat → ClassId} {N : Nat} {ad : Nat → Nat} {S : St} {b : Bs} (hm : vm N) (hI : Inv b) (hM : RM S b) {t : Ts} (hE : LE b t) {z y s_ : Int} (rz : r32 z) (ry : r32 y) (rs : r32 s_) (hz : ¬ isL b z) (hy : ¬ isL b y) : MetK l yX4_meet cX4_meet 4 (some FieldType.int) 7 0 0 188 D kc (wl kc N ad S) [.ref (ad 45), .int (iZ z), .int (iZ y), .int (iZ s_)] (QI D kc (wl kc N ad S) (mQ kc N ad S (-1) (refB b 1))) := by
  refine MetK.of (by decide +kernel) (Nat.le_of_ble_eq_true rfl) ?_
  intro p e s m below meth c C
  have hA : ∀ q, s.heap.size ≤ q → va_A (wl kc N ad S) s.heap.size q := fun _ h => Or.inr h
  show V p l e { frames := 7, cells := 0, slots := 0, locals := 188 } s m ([.ref (ad 45), .int (iZ z), .int (iZ y), .int (iZ s_)] : List Value).toArray below meth c (MQ below (QI D kc (wl kc N ad S) (mQ kc N ad S (-1) (refB b 1)) s.heap.size) ([.ref (ad 45), .int (iZ z), .int (iZ y), .int (iZ s_)] : List Value).toArray s 0 0 (va_A (wl kc N ad S) s.heap.size)) D (va_A (wl kc N ad S) s.heap.size) 4 0 0 (wl kc N ad S) 0 [(0, .ref (ad 45)), (1, .int (iZ z)), (2, .int (iZ y)), (3, .int (iZ s_))] []
  have hb0 := hI.1
  refine v_aload_n 0 0 C dX4_meet_0 rfl ?_
  refine v_iload_n 1 1 C dX4_meet_1 rfl ?_
  refine v_calli 2 hA (rV_Mo 2 C L_RX4_145 lk_601 lk_23 (m4_isPlane hm hI hM (by first | assumption | exact ⟨by omega, by omega⟩)) (vm.o hm) rfl ⟨rfl, rfl⟩ (rm_ok rfl) dX4_meet_2) (fun r1 w2 h3 => ?_)
  obtain ⟨e_r1, rfl⟩ := h3
  refine v_eqi (iZ (bz (isLb b z))) (e_r1) ?_
  refine z_if_eq 5 28 C (bzr _) dX4_meet_5 (by decide) (fun c5_0 => ?_) (fun c5_0 => absurd (by rw [isLb_n hI hz]; rfl) c5_0)
  refine v_aload_n 28 0 C dX4_meet_28 rfl ?_
  refine v_iconst 29 C (iZ (-1)) dX4_meet_29 rfl ?_
  refine v_calli 30 hA (rV_Mo 30 C L_RX4_95 lk_589 lk_22 (m4_refuse hm hI hM 1 (by decide) (by decide)) (vm.o hm) rfl ⟨rfl, rfl⟩ (rm_ok rfl) dX4_meet_30) (fun r4 w5 h6 => ?_)
  obtain ⟨e_r4, rfl⟩ := h6
  refine v_eqi (iZ (-1)) (e_r4) ?_
  exact v_iret 33 C (⟨rfl, refM4 S b 1, rfl, refRM hM, refC⟩) dX4_meet_33

set_option maxHeartbeats 4000000 in
set_option maxRecDepth 100000 in
theorem d_meet_ny {l : Launch} {D : va_G} {kc : Nat → ClassId} {N : Nat} {ad : Nat → Nat} {S : St} {b : Bs} (hm : vm N) (hI : Inv b) (hM : RM S b) {t : Ts} (hE : LE b t) {z s_ : Int} {q : Nat} (rz : r32 z) (rs : r32 s_) (hz : ¬ isL b z) (hq : thL b q) : MetK l yX4_meet cX4_meet 4 (some FieldType.int) 7 0 0 188 D kc (wl kc N ad S) [.ref (ad 45), .int (iZ z), .int (iZ (q : Int)), .int (iZ s_)] (QI D kc (wl kc N ad S) (mQ kc N ad S (-1) (refB b 1))) := by
  refine MetK.of (by decide +kernel) (Nat.le_of_ble_eq_true rfl) ?_
  intro p e s m below meth c C
  have hA : ∀ q, s.heap.size ≤ q → va_A (wl kc N ad S) s.heap.size q := fun _ h => Or.inr h
  show V p l e { frames := 7, cells := 0, slots := 0, locals := 188 } s m ([.ref (ad 45), .int (iZ z), .int (iZ (q : Int)), .int (iZ s_)] : List Value).toArray below meth c (MQ below (QI D kc (wl kc N ad S) (mQ kc N ad S (-1) (refB b 1)) s.heap.size) ([.ref (ad 45), .int (iZ z), .int (iZ (q : Int)), .int (iZ s_)] : List Value).toArray s 0 0 (va_A (wl kc N ad S) s.heap.size)) D (va_A (wl kc N ad S) s.heap.size) 4 0 0 (wl kc N ad S) 0 [(0, .ref (ad 45)), (1, .int (iZ z)), (2, .int (iZ (q : Int))), (3, .int (iZ s_))] []
  have hb0 := hI.1
  refine v_aload_n 0 0 C dX4_meet_0 rfl ?_
  refine v_iload_n 1 1 C dX4_meet_1 rfl ?_
  refine v_calli 2 hA (rV_Mo 2 C L_RX4_145 lk_601 lk_23 (m4_isPlane hm hI hM (by first | assumption | exact ⟨by omega, by omega⟩)) (vm.o hm) rfl ⟨rfl, rfl⟩ (rm_ok rfl) dX4_meet_2) (fun r1 w2 h3 => ?_)
  obtain ⟨e_r1, rfl⟩ := h3
  refine v_eqi (iZ (bz (isLb b z))) (e_r1) ?_
  refine z_if_eq 5 28 C (bzr _) dX4_meet_5 (by decide) (fun c5_0 => ?_) (fun c5_0 => absurd (by rw [isLb_n hI hz]; rfl) c5_0)
  refine v_aload_n 28 0 C dX4_meet_28 rfl ?_
  refine v_iconst 29 C (iZ (-1)) dX4_meet_29 rfl ?_
  refine v_calli 30 hA (rV_Mo 30 C L_RX4_95 lk_589 lk_22 (m4_refuse hm hI hM 1 (by decide) (by decide)) (vm.o hm) rfl ⟨rfl, rfl⟩ (rm_ok rfl) dX4_meet_30) (fun r4 w5 h6 => ?_)
  obtain ⟨e_r4, rfl⟩ := h6
  refine v_eqi (iZ (-1)) (e_r4) ?_
  exact v_iret 33 C (⟨rfl, refM4 S b 1, rfl, refRM hM, refC⟩) dX4_meet_33

set_option maxHeartbeats 4000000 in
set_option maxRecDepth 100000 in
theorem d_meet_yn {l : Launch} {D : va_G} {kc : Nat → ClassId} {N : Nat} {ad : Nat → Nat} {S : St} {b : Bs} (hm : vm N) (hI : Inv b) (hM : RM S b) {t : Ts} (hE : LE b t) {y s_ : Int} {u : Nat} (ry : r32 y) (rs : r32 s_) (hu : thL b u) (hy : ¬ isL b y) : MetK l yX4_meet cX4_meet 4 (some FieldType.int) 7 0 0 188 D kc (wl kc N ad S) [.ref (ad 45), .int (iZ (u : Int)), .int (iZ y), .int (iZ s_)] (QI D kc (wl kc N ad S) (mQ kc N ad S (-1) (refB b 1))) := by
  refine MetK.of (by decide +kernel) (Nat.le_of_ble_eq_true rfl) ?_
  intro p e s m below meth c C
  have hA : ∀ q, s.heap.size ≤ q → va_A (wl kc N ad S) s.heap.size q := fun _ h => Or.inr h
  show V p l e { frames := 7, cells := 0, slots := 0, locals := 188 } s m ([.ref (ad 45), .int (iZ (u : Int)), .int (iZ y), .int (iZ s_)] : List Value).toArray below meth c (MQ below (QI D kc (wl kc N ad S) (mQ kc N ad S (-1) (refB b 1)) s.heap.size) ([.ref (ad 45), .int (iZ (u : Int)), .int (iZ y), .int (iZ s_)] : List Value).toArray s 0 0 (va_A (wl kc N ad S) s.heap.size)) D (va_A (wl kc N ad S) s.heap.size) 4 0 0 (wl kc N ad S) 0 [(0, .ref (ad 45)), (1, .int (iZ (u : Int))), (2, .int (iZ y)), (3, .int (iZ s_))] []
  have hb0 := hI.1
  have h62u := thL_62 hI hu
  refine v_aload_n 0 0 C dX4_meet_0 rfl ?_
  refine v_iload_n 1 1 C dX4_meet_1 rfl ?_
  refine v_calli 2 hA (rV_Mo 2 C L_RX4_145 lk_601 lk_23 (m4_isPlane hm hI hM (by first | assumption | exact ⟨by omega, by omega⟩)) (vm.o hm) rfl ⟨rfl, rfl⟩ (rm_ok rfl) dX4_meet_2) (fun r1 w2 h3 => ?_)
  obtain ⟨e_r1, rfl⟩ := h3
  refine v_eqi (iZ (bz (isLb b (u : Int)))) (e_r1) ?_
  refine z_if_eq 5 28 C (bzr _) dX4_meet_5 (by decide) (fun c5_0 => absurd c5_0 (by rw [isLb_y hI hu]; decide)) (fun c5_0 => ?_)
  refine v_aload_n 8 0 C dX4_meet_8 rfl ?_
  refine v_iload_n 9 2 C dX4_meet_9 rfl ?_
  refine v_calli 10 hA (rV_Mo 10 C L_RX4_145 lk_601 lk_23 (m4_isPlane hm hI hM (by first | assumption | exact ⟨by omega, by omega⟩)) (vm.o hm) rfl ⟨rfl, rfl⟩ (rm_ok rfl) dX4_meet_10) (fun r4 w5 h6 => ?_)
  obtain ⟨e_r4, rfl⟩ := h6
  refine v_eqi (iZ (bz (isLb b y))) (e_r4) ?_
  refine z_if_eq 13 28 C (bzr _) dX4_meet_13 (by decide) (fun c13_1 => ?_) (fun c13_1 => absurd (by rw [isLb_n hI hy]; rfl) c13_1)
  refine v_aload_n 28 0 C dX4_meet_28 rfl ?_
  refine v_iconst 29 C (iZ (-1)) dX4_meet_29 rfl ?_
  refine v_calli 30 hA (rV_Mo 30 C L_RX4_95 lk_589 lk_22 (m4_refuse hm hI hM 1 (by decide) (by decide)) (vm.o hm) rfl ⟨rfl, rfl⟩ (rm_ok rfl) dX4_meet_30) (fun r7 w8 h9 => ?_)
  obtain ⟨e_r7, rfl⟩ := h9
  refine v_eqi (iZ (-1)) (e_r7) ?_
  exact v_iret 33 C (⟨rfl, refM4 S b 1, rfl, refRM hM, refC⟩) dX4_meet_33

set_option maxHeartbeats 4000000 in
set_option maxRecDepth 100000 in
theorem d_meet_e {l : Launch} {D : va_G} {kc : Nat → ClassId} {N : Nat} {ad : Nat → Nat} {S : St} {b : Bs} (hm : vm N) (hI : Inv b) (hM : RM S b) {t : Ts} (hE : LE b t) {s_ : Int} {u q : Nat} (rs : r32 s_) (hu : thL b u) (hq : thL b q) (he : u = q) : MetK l yX4_meet cX4_meet 4 (some FieldType.int) 7 0 0 188 D kc (wl kc N ad S) [.ref (ad 45), .int (iZ (u : Int)), .int (iZ (q : Int)), .int (iZ s_)] (QI D kc (wl kc N ad S) (mQ kc N ad S (-1) (refB b 1))) := by
  refine MetK.of (by decide +kernel) (Nat.le_of_ble_eq_true rfl) ?_
  intro p e s m below meth c C
  have hA : ∀ q, s.heap.size ≤ q → va_A (wl kc N ad S) s.heap.size q := fun _ h => Or.inr h
  show V p l e { frames := 7, cells := 0, slots := 0, locals := 188 } s m ([.ref (ad 45), .int (iZ (u : Int)), .int (iZ (q : Int)), .int (iZ s_)] : List Value).toArray below meth c (MQ below (QI D kc (wl kc N ad S) (mQ kc N ad S (-1) (refB b 1)) s.heap.size) ([.ref (ad 45), .int (iZ (u : Int)), .int (iZ (q : Int)), .int (iZ s_)] : List Value).toArray s 0 0 (va_A (wl kc N ad S) s.heap.size)) D (va_A (wl kc N ad S) s.heap.size) 4 0 0 (wl kc N ad S) 0 [(0, .ref (ad 45)), (1, .int (iZ (u : Int))), (2, .int (iZ (q : Int))), (3, .int (iZ s_))] []
  have hb0 := hI.1
  have h62u := thL_62 hI hu
  have h62q := thL_62 hI hq
  refine v_aload_n 0 0 C dX4_meet_0 rfl ?_
  refine v_iload_n 1 1 C dX4_meet_1 rfl ?_
  refine v_calli 2 hA (rV_Mo 2 C L_RX4_145 lk_601 lk_23 (m4_isPlane hm hI hM (by first | assumption | exact ⟨by omega, by omega⟩)) (vm.o hm) rfl ⟨rfl, rfl⟩ (rm_ok rfl) dX4_meet_2) (fun r1 w2 h3 => ?_)
  obtain ⟨e_r1, rfl⟩ := h3
  refine v_eqi (iZ (bz (isLb b (u : Int)))) (e_r1) ?_
  refine z_if_eq 5 28 C (bzr _) dX4_meet_5 (by decide) (fun c5_0 => absurd c5_0 (by rw [isLb_y hI hu]; decide)) (fun c5_0 => ?_)
  refine v_aload_n 8 0 C dX4_meet_8 rfl ?_
  refine v_iload_n 9 2 C dX4_meet_9 rfl ?_
  refine v_calli 10 hA (rV_Mo 10 C L_RX4_145 lk_601 lk_23 (m4_isPlane hm hI hM (by first | assumption | exact ⟨by omega, by omega⟩)) (vm.o hm) rfl ⟨rfl, rfl⟩ (rm_ok rfl) dX4_meet_10) (fun r4 w5 h6 => ?_)
  obtain ⟨e_r4, rfl⟩ := h6
  refine v_eqi (iZ (bz (isLb b (q : Int)))) (e_r4) ?_
  refine z_if_eq 13 28 C (bzr _) dX4_meet_13 (by decide) (fun c13_1 => absurd c13_1 (by rw [isLb_y hI hq]; decide)) (fun c13_1 => ?_)
  refine v_iload_n 16 1 C dX4_meet_16 rfl ?_
  refine v_iload_n 17 2 C dX4_meet_17 rfl ?_
  refine z_icmp_eq 18 28 C (by first | assumption | exact ⟨by omega, by omega⟩) (by first | assumption | exact ⟨by omega, by omega⟩) dX4_meet_18 (by decide) (fun c18_2 => ?_) (fun c18_2 => absurd (by omega) c18_2)
  refine v_aload_n 28 0 C dX4_meet_28 rfl ?_
  refine v_iconst 29 C (iZ (-1)) dX4_meet_29 rfl ?_
  refine v_calli 30 hA (rV_Mo 30 C L_RX4_95 lk_589 lk_22 (m4_refuse hm hI hM 1 (by decide) (by decide)) (vm.o hm) rfl ⟨rfl, rfl⟩ (rm_ok rfl) dX4_meet_30) (fun r7 w8 h9 => ?_)
  obtain ⟨e_r7, rfl⟩ := h9
  refine v_eqi (iZ (-1)) (e_r7) ?_
  exact v_iret 33 C (⟨rfl, refM4 S b 1, rfl, refRM hM, refC⟩) dX4_meet_33

set_option maxHeartbeats 4000000 in
set_option maxRecDepth 100000 in
theorem d_meet_s {l : Launch} {D : va_G} {kc : Nat → ClassId} {N : Nat} {ad : Nat → Nat} {S : St} {b : Bs} (hm : vm N) (hI : Inv b) (hM : RM S b) {t : Ts} (hE : LE b t) {s_ : Int} {u q : Nat} (rs : r32 s_) (hu : thL b u) (hq : thL b q) (he : ¬ u = q) (hs : ¬ (0 ≤ s_ ∧ s_ < 17)) : MetK l yX4_meet cX4_meet 4 (some FieldType.int) 7 0 0 188 D kc (wl kc N ad S) [.ref (ad 45), .int (iZ (u : Int)), .int (iZ (q : Int)), .int (iZ s_)] (QI D kc (wl kc N ad S) (mQ kc N ad S (-1) (refB b 1))) := by
  refine MetK.of (by decide +kernel) (Nat.le_of_ble_eq_true rfl) ?_
  intro p e s m below meth c C
  have hA : ∀ q, s.heap.size ≤ q → va_A (wl kc N ad S) s.heap.size q := fun _ h => Or.inr h
  show V p l e { frames := 7, cells := 0, slots := 0, locals := 188 } s m ([.ref (ad 45), .int (iZ (u : Int)), .int (iZ (q : Int)), .int (iZ s_)] : List Value).toArray below meth c (MQ below (QI D kc (wl kc N ad S) (mQ kc N ad S (-1) (refB b 1)) s.heap.size) ([.ref (ad 45), .int (iZ (u : Int)), .int (iZ (q : Int)), .int (iZ s_)] : List Value).toArray s 0 0 (va_A (wl kc N ad S) s.heap.size)) D (va_A (wl kc N ad S) s.heap.size) 4 0 0 (wl kc N ad S) 0 [(0, .ref (ad 45)), (1, .int (iZ (u : Int))), (2, .int (iZ (q : Int))), (3, .int (iZ s_))] []
  have hb0 := hI.1
  have h62u := thL_62 hI hu
  have h62q := thL_62 hI hq
  refine v_aload_n 0 0 C dX4_meet_0 rfl ?_
  refine v_iload_n 1 1 C dX4_meet_1 rfl ?_
  refine v_calli 2 hA (rV_Mo 2 C L_RX4_145 lk_601 lk_23 (m4_isPlane hm hI hM (by first | assumption | exact ⟨by omega, by omega⟩)) (vm.o hm) rfl ⟨rfl, rfl⟩ (rm_ok rfl) dX4_meet_2) (fun r1 w2 h3 => ?_)
  obtain ⟨e_r1, rfl⟩ := h3
  refine v_eqi (iZ (bz (isLb b (u : Int)))) (e_r1) ?_
  refine z_if_eq 5 28 C (bzr _) dX4_meet_5 (by decide) (fun c5_0 => absurd c5_0 (by rw [isLb_y hI hu]; decide)) (fun c5_0 => ?_)
  refine v_aload_n 8 0 C dX4_meet_8 rfl ?_
  refine v_iload_n 9 2 C dX4_meet_9 rfl ?_
  refine v_calli 10 hA (rV_Mo 10 C L_RX4_145 lk_601 lk_23 (m4_isPlane hm hI hM (by first | assumption | exact ⟨by omega, by omega⟩)) (vm.o hm) rfl ⟨rfl, rfl⟩ (rm_ok rfl) dX4_meet_10) (fun r4 w5 h6 => ?_)
  obtain ⟨e_r4, rfl⟩ := h6
  refine v_eqi (iZ (bz (isLb b (q : Int)))) (e_r4) ?_
  refine z_if_eq 13 28 C (bzr _) dX4_meet_13 (by decide) (fun c13_1 => absurd c13_1 (by rw [isLb_y hI hq]; decide)) (fun c13_1 => ?_)
  refine v_iload_n 16 1 C dX4_meet_16 rfl ?_
  refine v_iload_n 17 2 C dX4_meet_17 rfl ?_
  refine z_icmp_eq 18 28 C (by first | assumption | exact ⟨by omega, by omega⟩) (by first | assumption | exact ⟨by omega, by omega⟩) dX4_meet_18 (by decide) (fun c18_2 => absurd c18_2 (by omega)) (fun c18_2 => ?_)
  refine v_iload_n 21 3 C dX4_meet_21 rfl ?_
  refine v_calli 22 hA (rS 22 C L_RX4_170 lk_677 (m4_isStep (by first | assumption | exact ⟨by omega, by omega⟩)) rfl rfl (rm_ok rfl) dX4_meet_22) (fun r7 w8 h9 => ?_)
  obtain ⟨e_r7, rfl⟩ := h9
  refine v_eqi (iZ (bz (decide (0 ≤ s_ ∧ s_ ≤ 16)))) (e_r7) ?_
  refine z_if_ne 25 34 C (bzr _) dX4_meet_25 (by decide) (fun c25_3 => absurd c25_3 (fun z => z (by rw [decide_eq_false (show ¬ (0 ≤ s_ ∧ s_ ≤ 16) by omega)]; rfl))) (fun c25_3 => ?_)
  refine v_aload_n 28 0 C dX4_meet_28 rfl ?_
  refine v_iconst 29 C (iZ (-1)) dX4_meet_29 rfl ?_
  refine v_calli 30 hA (rV_Mo 30 C L_RX4_95 lk_589 lk_22 (m4_refuse hm hI hM 1 (by decide) (by decide)) (vm.o hm) rfl ⟨rfl, rfl⟩ (rm_ok rfl) dX4_meet_30) (fun r10 w11 h12 => ?_)
  obtain ⟨e_r10, rfl⟩ := h12
  refine v_eqi (iZ (-1)) (e_r10) ?_
  exact v_iret 33 C (⟨rfl, refM4 S b 1, rfl, refRM hM, refC⟩) dX4_meet_33

set_option maxHeartbeats 4000000 in
set_option maxRecDepth 100000 in
theorem d_meet {l : Launch} {D : va_G} {kc : Nat → ClassId} {N : Nat} {ad : Nat → Nat} {S : St} {b : Bs} (hm : vm N) (hI : Inv b) (hM : RM S b) {t : Ts} (hE : LE b t) {u q j : Nat} (hj : j < 17) (hu : thL b u) (hq : thL b q) (he : ¬ u = q) : MetK l yX4_meet cX4_meet 4 (some FieldType.int) 7 0 0 188 D kc (wl kc N ad S) [.ref (ad 45), .int (iZ (u : Int)), .int (iZ (q : Int)), .int (iZ (j : Int))] (QI D kc (wl kc N ad S) (mQ kc N ad S (bz (runZ b t j u q)) (b))) := by
  refine MetK.of (by decide +kernel) (Nat.le_of_ble_eq_true rfl) ?_
  intro p e s m below meth c C
  have hA : ∀ q, s.heap.size ≤ q → va_A (wl kc N ad S) s.heap.size q := fun _ h => Or.inr h
  show V p l e { frames := 7, cells := 0, slots := 0, locals := 188 } s m ([.ref (ad 45), .int (iZ (u : Int)), .int (iZ (q : Int)), .int (iZ (j : Int))] : List Value).toArray below meth c (MQ below (QI D kc (wl kc N ad S) (mQ kc N ad S (bz (runZ b t j u q)) (b)) s.heap.size) ([.ref (ad 45), .int (iZ (u : Int)), .int (iZ (q : Int)), .int (iZ (j : Int))] : List Value).toArray s 0 0 (va_A (wl kc N ad S) s.heap.size)) D (va_A (wl kc N ad S) s.heap.size) 4 0 0 (wl kc N ad S) 0 [(0, .ref (ad 45)), (1, .int (iZ (u : Int))), (2, .int (iZ (q : Int))), (3, .int (iZ (j : Int)))] []
  have hb0 := hI.1
  have h62u := thL_62 hI hu
  have h62q := thL_62 hI hq
  have huK : ∀ u, thL b u → u < 2 * bn b + 2 := fun u h => by rcases h with h | h <;> omega
  have hrn : rn b t j u q = runZ b t j u q := by unfold rn frP; rw [thLb_iff.mpr hu, thLb_iff.mpr hq]; rfl
  refine v_aload_n 0 0 C dX4_meet_0 rfl ?_
  refine v_iload_n 1 1 C dX4_meet_1 rfl ?_
  refine v_calli 2 hA (rV_Mo 2 C L_RX4_145 lk_601 lk_23 (m4_isPlane hm hI hM (by first | assumption | exact ⟨by omega, by omega⟩)) (vm.o hm) rfl ⟨rfl, rfl⟩ (rm_ok rfl) dX4_meet_2) (fun r1 w2 h3 => ?_)
  obtain ⟨e_r1, rfl⟩ := h3
  refine v_eqi (iZ (bz (isLb b (u : Int)))) (e_r1) ?_
  refine z_if_eq 5 28 C (bzr _) dX4_meet_5 (by decide) (fun c5_0 => absurd c5_0 (by rw [isLb_y hI hu]; decide)) (fun c5_0 => ?_)
  refine v_aload_n 8 0 C dX4_meet_8 rfl ?_
  refine v_iload_n 9 2 C dX4_meet_9 rfl ?_
  refine v_calli 10 hA (rV_Mo 10 C L_RX4_145 lk_601 lk_23 (m4_isPlane hm hI hM (by first | assumption | exact ⟨by omega, by omega⟩)) (vm.o hm) rfl ⟨rfl, rfl⟩ (rm_ok rfl) dX4_meet_10) (fun r4 w5 h6 => ?_)
  obtain ⟨e_r4, rfl⟩ := h6
  refine v_eqi (iZ (bz (isLb b (q : Int)))) (e_r4) ?_
  refine z_if_eq 13 28 C (bzr _) dX4_meet_13 (by decide) (fun c13_1 => absurd c13_1 (by rw [isLb_y hI hq]; decide)) (fun c13_1 => ?_)
  refine v_iload_n 16 1 C dX4_meet_16 rfl ?_
  refine v_iload_n 17 2 C dX4_meet_17 rfl ?_
  refine z_icmp_eq 18 28 C (by first | assumption | exact ⟨by omega, by omega⟩) (by first | assumption | exact ⟨by omega, by omega⟩) dX4_meet_18 (by decide) (fun c18_2 => absurd c18_2 (by omega)) (fun c18_2 => ?_)
  refine v_iload_n 21 3 C dX4_meet_21 rfl ?_
  refine v_calli 22 hA (rS 22 C L_RX4_170 lk_677 (m4_isStep (by first | assumption | exact ⟨by omega, by omega⟩)) rfl rfl (rm_ok rfl) dX4_meet_22) (fun r7 w8 h9 => ?_)
  obtain ⟨e_r7, rfl⟩ := h9
  refine v_eqi (iZ (bz (decide (0 ≤ (j : Int) ∧ (j : Int) ≤ 16)))) (e_r7) ?_
  refine z_if_ne 25 34 C (bzr _) dX4_meet_25 (by decide) (fun c25_3 => ?_) (fun c25_3 => absurd c25_3 (by rw [decide_eq_true (show 0 ≤ (j : Int) ∧ (j : Int) ≤ 16 by omega)]; decide))
  refine v_aload_n 34 0 C dX4_meet_34 rfl ?_
  refine v_iload_n 35 3 C dX4_meet_35 rfl ?_
  refine v_callv 36 hA (rV_Mo 36 C L_RX4_200 lk_722 lk_39 (m4_findPlanes hm hI hM hE hj) (vm.o hm) rfl ⟨rfl, rfl⟩ (rm_ok rfl) dX4_meet_36) (fun w11 h12 => ?_)
  obtain ⟨S1, rfl, F1, P1⟩ := h12
  refine v_aload_n 39 0 C dX4_meet_39 rfl ?_
  refine v_iload_n 40 1 C dX4_meet_40 rfl ?_
  refine v_iload_n 41 2 C dX4_meet_41 rfl ?_
  refine v_calli 42 hA (rV_Mo 42 C L_RX4_203 lk_730 lk_41 (m4_cross hm hI hE hj (K := 2 * bn b + 2) (by omega) (huK u hu) (huK q hq) P1) (vm.o hm) rfl ⟨rfl, rfl⟩ (rm_ok rfl) dX4_meet_42) (fun r13 w14 h15 => ?_)
  obtain ⟨e_r13, rfl⟩ := h15
  refine v_eqi (iZ (bz (rn b t j u q))) (e_r13) ?_
  refine z_if_eq 45 52 C (bzr _) dX4_meet_45 (by decide) (fun cR => ?_) (fun cR => ?_)
  · skip
    refine v_iconst 52 C (iZ 0) dX4_meet_52 rfl ?_
    exact v_iret 53 C (⟨bzF (by rw [← hrn]; exact bz_eq cR), S1, rfl, F1.RM hM, F1.C⟩) dX4_meet_53
  · skip
    refine v_iconst 48 C (iZ 1) dX4_meet_48 rfl ?_
    refine v_goto 49 53 C dX4_meet_49 (by decide) ?_
    exact v_iret 53 C (⟨bzT (by rw [← hrn]; exact bz_ne cR), S1, rfl, F1.RM hM, F1.C⟩) dX4_meet_53

set_option maxHeartbeats 4000000 in
set_option maxRecDepth 100000 in
theorem d_meets_2 {l : Launch} {D : va_G} {kc : Nat → ClassId} {N : Nat} {ad : Nat → Nat} {S : St} {b : Bs} (hm : vm N) (hI : Inv b) (hM : RM S b) {t : Ts} (hE : LE b t) {w : Int} (rw_ : r32 w) (hw : w < 0 ∨ 2 < w) : MetK l yX4_meets cX4_meets 5 (some FieldType.int) 7 0 0 188 D kc (wl kc N ad S) [.ref (ad 45), .int (iZ w)] (QI D kc (wl kc N ad S) (mQ kc N ad S (-2) (refB b 2))) := by
  refine MetK.of (by decide +kernel) (Nat.le_of_ble_eq_true rfl) ?_
  intro p e s m below meth c C
  have hA : ∀ q, s.heap.size ≤ q → va_A (wl kc N ad S) s.heap.size q := fun _ h => Or.inr h
  show V p l e { frames := 7, cells := 0, slots := 0, locals := 188 } s m ([.ref (ad 45), .int (iZ w)] : List Value).toArray below meth c (MQ below (QI D kc (wl kc N ad S) (mQ kc N ad S (-2) (refB b 2)) s.heap.size) ([.ref (ad 45), .int (iZ w)] : List Value).toArray s 0 0 (va_A (wl kc N ad S) s.heap.size)) D (va_A (wl kc N ad S) s.heap.size) 5 0 0 (wl kc N ad S) 0 [(0, .ref (ad 45)), (1, .int (iZ w))] []
  have hb0 := hI.1
  refine v_iload_n 0 1 C dX4_meets_0 rfl ?_
  refine z_i2l 1 C (by first | assumption | exact ⟨by omega, by omega⟩) dX4_meets_1 ?_
  refine v_lconst 2 C (lZ 0) dX4_meets_2 (by decide) ?_
  refine v_ldc2 3 C (2) lk_606 dX4_meets_3 ?_
  refine v_eql (lZ 2) (by decide) ?_
  refine v_calli 6 hA (rS 6 C L_RX4_83 lk_604 (m4_in (by first | assumption | exact ⟨by omega, by omega⟩) (by decide) (by decide)) rfl rfl (rm_ok rfl) dX4_meets_6) (fun r1 w2 h3 => ?_)
  obtain ⟨e_r1, rfl⟩ := h3
  refine v_eqi (iZ (bz (decide (0 ≤ w ∧ w ≤ 2)))) (e_r1) ?_
  refine z_if_ne 9 19 C (bzr _) dX4_meets_9 (by decide) (fun c9_0 => absurd c9_0 (fun q => q (by rw [decide_eq_false (show ¬ (0 ≤ w ∧ w ≤ 2) by omega)]; rfl))) (fun c9_0 => ?_)
  refine v_aload_n 12 0 C dX4_meets_12 rfl ?_
  refine v_bipush 13 C (iZ (-2)) dX4_meets_13 (by decide) ?_
  refine v_calli 15 hA (rV_Mo 15 C L_RX4_95 lk_589 lk_22 (m4_refuse hm hI hM 2 (by decide) (by decide)) (vm.o hm) rfl ⟨rfl, rfl⟩ (rm_ok rfl) dX4_meets_15) (fun r4 w5 h6 => ?_)
  obtain ⟨e_r4, rfl⟩ := h6
  refine v_eqi (iZ (-2)) (e_r4) ?_
  exact v_iret 18 C (⟨rfl, refM4 S b 2, rfl, refRM hM, refC⟩) dX4_meets_18

theorem rn_out {b : Bs} {t : Ts} {s p q : Nat} (h : 2 * bn b + 2 ≤ p ∨ 2 * bn b + 2 ≤ q) : rn b t s p q = false := by
  have A : ∀ x, 2 * bn b + 2 ≤ x → thLb b x = false := fun x hx => by
    unfold thLb
    rw [decide_eq_false (show ¬ x < 2 by omega), decide_eq_false (show ¬ x / 2 - 1 < bn b by omega)]; rfl
  unfold rn frP
  rcases h with h | h
  · rw [A p h]; rfl
  · rw [A q h]; simp
set_option maxHeartbeats 4000000 in
set_option maxRecDepth 100000 in
theorem d_meets {l : Launch} {D : va_G} {kc : Nat → ClassId} {N : Nat} {ad : Nat → Nat} {S : St} {b : Bs} (hm : vm N) (hI : Inv b) (hM : RM S b) {t : Ts} (hE : LE b t) {w : Int} (rw_ : r32 w) (hw : 0 ≤ w ∧ w ≤ 2) : MetK l yX4_meets cX4_meets 5 (some FieldType.int) 7 0 0 188 D kc (wl kc N ad S) [.ref (ad 45), .int (iZ w)] (QI D kc (wl kc N ad S) (fun r ws' => ∃ R : Int, msR b t w R ∧ mQ kc N ad S R b r ws')) := by
  refine MetK.of (by decide +kernel) (Nat.le_of_ble_eq_true rfl) ?_
  intro p e s m below meth c C
  have hA : ∀ q, s.heap.size ≤ q → va_A (wl kc N ad S) s.heap.size q := fun _ h => Or.inr h
  show V p l e { frames := 7, cells := 0, slots := 0, locals := 188 } s m ([.ref (ad 45), .int (iZ w)] : List Value).toArray below meth c (MQ below (QI D kc (wl kc N ad S) (fun r ws' => ∃ R : Int, msR b t w R ∧ mQ kc N ad S R b r ws') s.heap.size) ([.ref (ad 45), .int (iZ w)] : List Value).toArray s 0 0 (va_A (wl kc N ad S) s.heap.size)) D (va_A (wl kc N ad S) s.heap.size) 5 0 0 (wl kc N ad S) 0 [(0, .ref (ad 45)), (1, .int (iZ w))] []
  have hb0 := hI.1
  have loop : ∀ (d s_ : Nat) (S1 : St), s_ + d = 17 → FpF S S1 → (∀ s' p' q' : Nat, p' < q' → q' < 62 → (s' < s_) → rn b t s' p' q' = false) → V p l e { frames := 7, cells := 0, slots := 0, locals := 188 } s m ([.ref (ad 45), .int (iZ w)] : List Value).toArray below meth c (MQ below (QI D kc (wl kc N ad S) (fun r ws' => ∃ R : Int, msR b t w R ∧ mQ kc N ad S R b r ws') s.heap.size) ([.ref (ad 45), .int (iZ w)] : List Value).toArray s 0 0 (va_A (wl kc N ad S) s.heap.size)) D (va_A (wl kc N ad S) s.heap.size) 5 0 0 (wl kc N ad S1) 21 [(2, .int (iZ (s_ : Int))), (1, .int (iZ w)), (0, .ref (ad 45))] [] := by
    intro d
    induction d with
    | zero =>
      intro s_ S1 hs hF hnb
      refine v_iload_n 21 0 C dX4_meets_21 rfl ?_
      refine v_bipush 22 C (iZ 17) dX4_meets_22 (by decide) ?_
      refine z_icmp_ge 24 112 C (by first | assumption | exact ⟨by omega, by omega⟩) (by first | assumption | exact ⟨by omega, by omega⟩) dX4_meets_24 (by decide) (fun c24_0 => ?_) (fun c24_0 => absurd (by omega) c24_0)
      refine v_bipush 112 C (iZ (-9)) dX4_meets_112 (by decide) ?_
      exact v_iret 114 C (⟨-9, Or.inl ⟨rfl, fun s' p' q' z1 z2 z3 => hnb s' p' q' z2 z3 (by omega)⟩, rfl, S1, rfl, hF.RM hM, hF.C⟩) dX4_meets_114
    | succ d ih =>
      intro s_ S1 hs hF hnb
      have hs17 : s_ < 17 := by omega
      have M1 := hF.RM hM
      refine v_iload_n 21 0 C dX4_meets_21 rfl ?_
      refine v_bipush 22 C (iZ 17) dX4_meets_22 (by decide) ?_
      refine z_icmp_ge 24 112 C (by first | assumption | exact ⟨by omega, by omega⟩) (by first | assumption | exact ⟨by omega, by omega⟩) dX4_meets_24 (by decide) (fun c24_0 => absurd c24_0 (by omega)) (fun c24_0 => ?_)
      refine v_aload_n 27 2 C dX4_meets_27 rfl ?_
      refine v_iload_n 28 0 C dX4_meets_28 rfl ?_
      refine v_callv 29 hA (rV_Mo 29 C L_RX4_200 lk_722 lk_39 (m4_findPlanes (j := s_) hm hI M1 hE hs17) (vm.o hm) rfl ⟨rfl, rfl⟩ (rm_ok rfl) dX4_meets_29) (fun w2 h3 => ?_)
      obtain ⟨S2, rfl, F2, P2⟩ := h3
      refine v_iconst 32 C (iZ 0) dX4_meets_32 rfl ?_
      refine v_istore_n 33 [(3, .int (iZ 0)), (2, .int (iZ (s_ : Int))), (1, .int (iZ w)), (0, .ref (ad 45))] C dX4_meets_33 (by decide) rfl ?_
      have F02 := hF.tr F2
      have M2 := F02.RM hM
      have mid : ∀ (f u : Nat), u + f = 2 * bn b + 2 → (∀ s' p' q' : Nat, p' < q' → q' < 62 → (s' < s_ ∨ (s' = s_ ∧ p' < u)) → rn b t s' p' q' = false) → V p l e { frames := 7, cells := 0, slots := 0, locals := 188 } s m ([.ref (ad 45), .int (iZ w)] : List Value).toArray below meth c (MQ below (QI D kc (wl kc N ad S) (fun r ws' => ∃ R : Int, msR b t w R ∧ mQ kc N ad S R b r ws') s.heap.size) ([.ref (ad 45), .int (iZ w)] : List Value).toArray s 0 0 (va_A (wl kc N ad S) s.heap.size)) D (va_A (wl kc N ad S) s.heap.size) 5 0 0 (wl kc N ad S2) 34 [(3, .int (iZ (u : Int))), (2, .int (iZ (s_ : Int))), (1, .int (iZ w)), (0, .ref (ad 45))] [] := by
        intro f
        induction f with
        | zero =>
          intro u hu hnb2
          refine v_iload_n 34 0 C dX4_meets_34 rfl ?_
          refine v_iconst 35 C (iZ 2) dX4_meets_35 rfl ?_
          refine v_aload_n 36 3 C dX4_meets_36 rfl ?_
          refine g_Mo_parts 37 C (vm.o hm).1 (vm.o hm).2 lk_501 dX4_meets_37 ?_
          refine v_eqi (iZ (b 0 0)) (M2.1.2.2) ?_
          refine z_imul 40 C dX4_meets_40 ?_
          refine v_iconst 41 C (iZ 2) dX4_meets_41 rfl ?_
          refine z_iadd 42 C dX4_meets_42 ?_
          refine z_icmp_ge 43 106 C (by first | assumption | exact ⟨by omega, by omega⟩) (by first | assumption | exact ⟨by omega, by omega⟩) dX4_meets_43 (by decide) (fun c43_0 => ?_) (fun c43_0 => absurd (by omega) c43_0)
          refine v_iinc 106 1 (iZ ((s_ + 1 : Nat) : Int)) [(2, .int (iZ ((s_ + 1 : Nat) : Int))), (3, .int (iZ (u : Int))), (1, .int (iZ w)), (0, .ref (ad 45))] C dX4_meets_106 rfl (iZ_add _ _) (by decide) rfl ?_
          refine v_goto 109 21 C dX4_meets_109 (by decide) ?_
          refine v_sub [0, 2, 3] rfl ?_
          exact ih (s_ + 1) S2 (by omega) F02 (fun s' p' q' z1 z2 z3 => by
            by_cases y : s' = s_ ∧ u ≤ p'
            · exact rn_out (Or.inl (by omega))
            · exact hnb2 s' p' q' z1 z2 (by omega))
        | succ f ih2 =>
          intro u hu hnb2
          have inner : ∀ (g q : Nat), q + g = 2 * bn b + 2 → u < q → (∀ q', u < q' → q' < q → rn b t s_ u q' = false) → V p l e { frames := 7, cells := 0, slots := 0, locals := 188 } s m ([.ref (ad 45), .int (iZ w)] : List Value).toArray below meth c (MQ below (QI D kc (wl kc N ad S) (fun r ws' => ∃ R : Int, msR b t w R ∧ mQ kc N ad S R b r ws') s.heap.size) ([.ref (ad 45), .int (iZ w)] : List Value).toArray s 0 0 (va_A (wl kc N ad S) s.heap.size)) D (va_A (wl kc N ad S) s.heap.size) 5 0 0 (wl kc N ad S2) 51 [(4, .int (iZ (q : Int))), (3, .int (iZ (u : Int))), (2, .int (iZ (s_ : Int))), (1, .int (iZ w)), (0, .ref (ad 45))] [] := by
            intro g
            induction g with
            | zero =>
              intro q hq huq hqs
              refine v_iload 51 0 C dX4_meets_51 rfl ?_
              refine v_iconst 53 C (iZ 2) dX4_meets_53 rfl ?_
              refine v_aload_n 54 4 C dX4_meets_54 rfl ?_
              refine g_Mo_parts 55 C (vm.o hm).1 (vm.o hm).2 lk_501 dX4_meets_55 ?_
              refine v_eqi (iZ (b 0 0)) (M2.1.2.2) ?_
              refine z_imul 58 C dX4_meets_58 ?_
              refine v_iconst 59 C (iZ 2) dX4_meets_59 rfl ?_
              refine z_iadd 60 C dX4_meets_60 ?_
              refine z_icmp_ge 61 100 C (by first | assumption | exact ⟨by omega, by omega⟩) (by first | assumption | exact ⟨by omega, by omega⟩) dX4_meets_61 (by decide) (fun c61_0 => ?_) (fun c61_0 => absurd (by omega) c61_0)
              refine v_iinc 100 1 (iZ ((u + 1 : Nat) : Int)) [(3, .int (iZ ((u + 1 : Nat) : Int))), (4, .int (iZ (q : Int))), (2, .int (iZ (s_ : Int))), (1, .int (iZ w)), (0, .ref (ad 45))] C dX4_meets_100 rfl (iZ_add _ _) (by decide) rfl ?_
              refine v_goto 103 34 C dX4_meets_103 (by decide) ?_
              refine v_sub [0, 2, 3, 4] rfl ?_
              exact ih2 (u + 1) (by omega) (ms_next hnb2 (fun x z1 z2 => by
                by_cases y : x < q
                · exact hqs x z1 y
                · exact rn_out (Or.inr (by omega))))
            | succ g ih3 =>
              intro q hq huq hqs
              refine v_iload 51 0 C dX4_meets_51 rfl ?_
              refine v_iconst 53 C (iZ 2) dX4_meets_53 rfl ?_
              refine v_aload_n 54 4 C dX4_meets_54 rfl ?_
              refine g_Mo_parts 55 C (vm.o hm).1 (vm.o hm).2 lk_501 dX4_meets_55 ?_
              refine v_eqi (iZ (b 0 0)) (M2.1.2.2) ?_
              refine z_imul 58 C dX4_meets_58 ?_
              refine v_iconst 59 C (iZ 2) dX4_meets_59 rfl ?_
              refine z_iadd 60 C dX4_meets_60 ?_
              refine z_icmp_ge 61 100 C (by first | assumption | exact ⟨by omega, by omega⟩) (by first | assumption | exact ⟨by omega, by omega⟩) dX4_meets_61 (by decide) (fun c61_0 => absurd c61_0 (by omega)) (fun c61_0 => ?_)
              refine v_aload_n 64 4 C dX4_meets_64 rfl ?_
              refine v_iload_n 65 1 C dX4_meets_65 rfl ?_
              refine v_iload 66 0 C dX4_meets_66 rfl ?_
              refine v_calli 68 hA (rV_Mo 68 C L_RX4_203 lk_730 lk_41 (m4_cross hm hI hE hs17 (K := 2 * bn b + 2) (by omega) (show u < _ by omega) (show q < _ by omega) P2) (vm.o hm) rfl ⟨rfl, rfl⟩ (rm_ok rfl) dX4_meets_68) (fun r4 w5 h6 => ?_)
              obtain ⟨e_r4, rfl⟩ := h6
              refine v_eqi (iZ (bz (rn b t s_ u q))) (e_r4) ?_
              refine z_if_eq 71 94 C (bzr _) dX4_meets_71 (by decide) (fun cR => ?_) (fun cR => ?_)
              · skip
                refine v_iinc 94 0 (iZ ((q + 1 : Nat) : Int)) [(4, .int (iZ ((q + 1 : Nat) : Int))), (3, .int (iZ (u : Int))), (2, .int (iZ (s_ : Int))), (1, .int (iZ w)), (0, .ref (ad 45))] C dX4_meets_94 rfl (iZ_add _ _) (by decide) rfl ?_
                refine v_goto 97 51 C dX4_meets_97 (by decide) ?_
                refine v_sub [0, 1, 2, 3, 4] rfl ?_
                exact ih3 (q + 1) (by omega) (by omega) (fun x z1 z2 => by
                  by_cases y : x = q
                  · rw [y]; exact bz_eq cR
                  · exact hqs x z1 (by omega))
              · skip
                refine v_iload_n 74 3 C dX4_meets_74 rfl ?_
                refine z_if_ne 75 82 C (by first | assumption | exact ⟨by omega, by omega⟩) dX4_meets_75 (by decide) (fun cW => ?_) (fun cW => ?_)
                · skip
                  refine v_iload_n 82 3 C dX4_meets_82 rfl ?_
                  refine v_iconst 83 C (iZ 1) dX4_meets_83 rfl ?_
                  refine z_icmp_ne 84 91 C (by first | assumption | exact ⟨by omega, by omega⟩) (by first | assumption | exact ⟨by omega, by omega⟩) dX4_meets_84 (by decide) (fun cV => ?_) (fun cV => ?_)
                  · skip
                    refine v_iload 91 0 C dX4_meets_91 rfl ?_
                    exact v_iret 93 C (⟨(q : Int), Or.inr ⟨s_, u, q, hs17, huq, by omega, bz_ne cR, ms_lex hnb2 hqs, by rw [if_neg cW, if_neg cV]⟩, rfl, S2, rfl, M2, F02.C⟩) dX4_meets_93
                  · skip
                    refine v_iload_n 87 1 C dX4_meets_87 rfl ?_
                    refine v_goto 88 93 C dX4_meets_88 (by decide) ?_
                    exact v_iret 93 C (⟨(u : Int), Or.inr ⟨s_, u, q, hs17, huq, by omega, bz_ne cR, ms_lex hnb2 hqs, by rw [if_neg cW, if_pos cV]⟩, rfl, S2, rfl, M2, F02.C⟩) dX4_meets_93
                · skip
                  refine v_iload_n 78 2 C dX4_meets_78 rfl ?_
                  refine v_goto 79 93 C dX4_meets_79 (by decide) ?_
                  exact v_iret 93 C (⟨(s_ : Int), Or.inr ⟨s_, u, q, hs17, huq, by omega, bz_ne cR, ms_lex hnb2 hqs, by rw [if_pos cW]⟩, rfl, S2, rfl, M2, F02.C⟩) dX4_meets_93
          refine v_iload_n 34 0 C dX4_meets_34 rfl ?_
          refine v_iconst 35 C (iZ 2) dX4_meets_35 rfl ?_
          refine v_aload_n 36 3 C dX4_meets_36 rfl ?_
          refine g_Mo_parts 37 C (vm.o hm).1 (vm.o hm).2 lk_501 dX4_meets_37 ?_
          refine v_eqi (iZ (b 0 0)) (M2.1.2.2) ?_
          refine z_imul 40 C dX4_meets_40 ?_
          refine v_iconst 41 C (iZ 2) dX4_meets_41 rfl ?_
          refine z_iadd 42 C dX4_meets_42 ?_
          refine z_icmp_ge 43 106 C (by first | assumption | exact ⟨by omega, by omega⟩) (by first | assumption | exact ⟨by omega, by omega⟩) dX4_meets_43 (by decide) (fun c43_0 => absurd c43_0 (by omega)) (fun c43_0 => ?_)
          refine v_iload_n 46 0 C dX4_meets_46 rfl ?_
          refine v_iconst 47 C (iZ 1) dX4_meets_47 rfl ?_
          refine z_iadd 48 C dX4_meets_48 ?_
          refine v_eqi (iZ ((u + 1 : Nat) : Int)) (rfl) ?_
          refine v_istore 49 [(4, .int (iZ ((u + 1 : Nat) : Int))), (3, .int (iZ (u : Int))), (2, .int (iZ (s_ : Int))), (1, .int (iZ w)), (0, .ref (ad 45))] C dX4_meets_49 (by decide) rfl ?_
          refine v_sub [0, 1, 2, 3, 4] rfl ?_
          exact inner f (u + 1) (by omega) (by omega) (fun x z1 z2 => by omega)
      refine v_sub [0, 1, 2, 3] rfl ?_
      exact mid (2 * bn b + 2) 0 (by omega) (fun s' p' q' z1 z2 z3 => hnb s' p' q' z1 z2 (by omega))
  refine v_iload_n 0 1 C dX4_meets_0 rfl ?_
  refine z_i2l 1 C (by first | assumption | exact ⟨by omega, by omega⟩) dX4_meets_1 ?_
  refine v_lconst 2 C (lZ 0) dX4_meets_2 (by decide) ?_
  refine v_ldc2 3 C (2) lk_606 dX4_meets_3 ?_
  refine v_eql (lZ 2) (by decide) ?_
  refine v_calli 6 hA (rS 6 C L_RX4_83 lk_604 (m4_in (by first | assumption | exact ⟨by omega, by omega⟩) (by decide) (by decide)) rfl rfl (rm_ok rfl) dX4_meets_6) (fun r7 w8 h9 => ?_)
  obtain ⟨e_r7, rfl⟩ := h9
  refine v_eqi (iZ (bz (decide (0 ≤ w ∧ w ≤ 2)))) (e_r7) ?_
  refine z_if_ne 9 19 C (bzr _) dX4_meets_9 (by decide) (fun c9_0 => ?_) (fun c9_0 => absurd c9_0 (by rw [decide_eq_true (show 0 ≤ w ∧ w ≤ 2 by omega)]; decide))
  refine v_iconst 19 C (iZ 0) dX4_meets_19 rfl ?_
  refine v_istore_n 20 [(2, .int (iZ 0)), (0, .ref (ad 45)), (1, .int (iZ w))] C dX4_meets_20 (by decide) rfl ?_
  refine v_sub [0, 2, 1] rfl ?_
  exact loop 17 0 S (by omega) FpF.rf (fun _ _ _ _ _ z => absurd z (by omega))
