set_option maxHeartbeats 4000000 in
set_option maxRecDepth 100000 in
theorem d_partOf_p {l : Launch} {D : va_G} {kc : Nat → ClassId} {N : Nat} {ad : Nat → Nat} {S : St} {b : Bs} (hm : vm N) (hI : Inv b) (hM : RM S b) {t : Ts} (hE : LE b t) {z w : Int} (rz : r32 z) (rw_ : r32 w) (hz : ¬ (0 ≤ z ∧ z < b 0 0)) : MetK l yX4_partOf cX4_partOf 3 (some FieldType.int) 2 0 0 49 D kc (wl kc N ad S) [.ref (ad 45), .int (iZ z), .int (iZ w)] (QI D kc (wl kc N ad S) (mQ kc N ad S (-1) (refB b 1))) := by
  refine MetK.of (by decide +kernel) (Nat.le_of_ble_eq_true rfl) ?_
  intro p e s m below meth c C
  have hA : ∀ q, s.heap.size ≤ q → va_A (wl kc N ad S) s.heap.size q := fun _ h => Or.inr h
  show V p l e { frames := 2, cells := 0, slots := 0, locals := 49 } s m ([.ref (ad 45), .int (iZ z), .int (iZ w)] : List Value).toArray below meth c (MQ below (QI D kc (wl kc N ad S) (mQ kc N ad S (-1) (refB b 1)) s.heap.size) ([.ref (ad 45), .int (iZ z), .int (iZ w)] : List Value).toArray s 0 0 (va_A (wl kc N ad S) s.heap.size)) D (va_A (wl kc N ad S) s.heap.size) 3 0 0 (wl kc N ad S) 0 [(0, .ref (ad 45)), (1, .int (iZ z)), (2, .int (iZ w))] []
  have hb0 := hI.1
  refine v_iload_n 0 1 C dX4_partOf_0 rfl ?_
  refine z_i2l 1 C (by first | assumption | exact ⟨by omega, by omega⟩) dX4_partOf_1 ?_
  refine v_lconst 2 C (lZ 0) dX4_partOf_2 (by decide) ?_
  refine v_aload_n 3 0 C dX4_partOf_3 rfl ?_
  refine g_Mo_parts 4 C (vm.o hm).1 (vm.o hm).2 lk_501 dX4_partOf_4 ?_
  refine v_eqi (iZ (b 0 0)) (hM.1.2.2) ?_
  refine v_iconst 7 C (iZ 1) dX4_partOf_7 rfl ?_
  refine z_isub 8 C dX4_partOf_8 ?_
  refine z_i2l 9 C (by first | assumption | exact ⟨by omega, by omega⟩) dX4_partOf_9 ?_
  refine v_calli 10 hA (rS 10 C L_RX4_83 lk_604 (m4_in (by first | assumption | exact ⟨by omega, by omega⟩) (by decide) (by first | assumption | exact ⟨by omega, by omega⟩)) rfl rfl (rm_ok rfl) dX4_partOf_10) (fun r1 w2 h3 => ?_)
  obtain ⟨e_r1, rfl⟩ := h3
  refine v_eqi (iZ (bz (decide (0 ≤ z ∧ z ≤ b 0 0 - 1)))) (e_r1) ?_
  refine z_if_ne 13 22 C (bzr _) dX4_partOf_13 (by decide) (fun c13_0 => absurd c13_0 (fun q => q (by rw [decide_eq_false (show ¬ (0 ≤ z ∧ z ≤ b 0 0 - 1) by omega)]; rfl))) (fun c13_0 => ?_)
  refine v_aload_n 16 0 C dX4_partOf_16 rfl ?_
  refine v_iconst 17 C (iZ (-1)) dX4_partOf_17 rfl ?_
  refine v_calli 18 hA (rV_Mo 18 C L_RX4_95 lk_589 lk_22 (m4_refuse hm hI hM 1 (by decide) (by decide)) (vm.o hm) rfl ⟨rfl, rfl⟩ (rm_ok rfl) dX4_partOf_18) (fun r4 w5 h6 => ?_)
  obtain ⟨e_r4, rfl⟩ := h6
  refine v_eqi (iZ (-1)) (e_r4) ?_
  exact v_iret 21 C (⟨rfl, refM4 S b 1, rfl, refRM hM, refC⟩) dX4_partOf_21

set_option maxHeartbeats 4000000 in
set_option maxRecDepth 100000 in
theorem d_partOf_w {l : Launch} {D : va_G} {kc : Nat → ClassId} {N : Nat} {ad : Nat → Nat} {S : St} {b : Bs} (hm : vm N) (hI : Inv b) (hM : RM S b) {t : Ts} (hE : LE b t) {k : Nat} (hk : k < bn b) {w : Int} (rw_ : r32 w) (hw : w < 0 ∨ 9 < w) : MetK l yX4_partOf cX4_partOf 3 (some FieldType.int) 2 0 0 49 D kc (wl kc N ad S) [.ref (ad 45), .int (iZ (k : Int)), .int (iZ w)] (QI D kc (wl kc N ad S) (mQ kc N ad S (-2) (refB b 2))) := by
  refine MetK.of (by decide +kernel) (Nat.le_of_ble_eq_true rfl) ?_
  intro p e s m below meth c C
  have hA : ∀ q, s.heap.size ≤ q → va_A (wl kc N ad S) s.heap.size q := fun _ h => Or.inr h
  show V p l e { frames := 2, cells := 0, slots := 0, locals := 49 } s m ([.ref (ad 45), .int (iZ (k : Int)), .int (iZ w)] : List Value).toArray below meth c (MQ below (QI D kc (wl kc N ad S) (mQ kc N ad S (-2) (refB b 2)) s.heap.size) ([.ref (ad 45), .int (iZ (k : Int)), .int (iZ w)] : List Value).toArray s 0 0 (va_A (wl kc N ad S) s.heap.size)) D (va_A (wl kc N ad S) s.heap.size) 3 0 0 (wl kc N ad S) 0 [(0, .ref (ad 45)), (1, .int (iZ (k : Int))), (2, .int (iZ w))] []
  have hb0 := hI.1
  refine v_iload_n 0 1 C dX4_partOf_0 rfl ?_
  refine z_i2l 1 C (by first | assumption | exact ⟨by omega, by omega⟩) dX4_partOf_1 ?_
  refine v_lconst 2 C (lZ 0) dX4_partOf_2 (by decide) ?_
  refine v_aload_n 3 0 C dX4_partOf_3 rfl ?_
  refine g_Mo_parts 4 C (vm.o hm).1 (vm.o hm).2 lk_501 dX4_partOf_4 ?_
  refine v_eqi (iZ (b 0 0)) (hM.1.2.2) ?_
  refine v_iconst 7 C (iZ 1) dX4_partOf_7 rfl ?_
  refine z_isub 8 C dX4_partOf_8 ?_
  refine z_i2l 9 C (by first | assumption | exact ⟨by omega, by omega⟩) dX4_partOf_9 ?_
  refine v_calli 10 hA (rS 10 C L_RX4_83 lk_604 (m4_in (by first | assumption | exact ⟨by omega, by omega⟩) (by decide) (by first | assumption | exact ⟨by omega, by omega⟩)) rfl rfl (rm_ok rfl) dX4_partOf_10) (fun r1 w2 h3 => ?_)
  obtain ⟨e_r1, rfl⟩ := h3
  refine v_eqi (iZ (bz (decide (0 ≤ (k : Int) ∧ (k : Int) ≤ b 0 0 - 1)))) (e_r1) ?_
  refine z_if_ne 13 22 C (bzr _) dX4_partOf_13 (by decide) (fun c13_0 => ?_) (fun c13_0 => absurd c13_0 (by rw [decide_eq_true (show 0 ≤ (k : Int) ∧ (k : Int) ≤ b 0 0 - 1 by omega)]; decide))
  refine v_iload_n 22 2 C dX4_partOf_22 rfl ?_
  refine v_tabOut 23 179 C dX4_partOf_23 (by rw [iZ_toInt rw_]; exact hw) (by decide) ?_
  refine v_aload_n 179 0 C dX4_partOf_179 rfl ?_
  refine v_bipush 180 C (iZ (-2)) dX4_partOf_180 (by decide) ?_
  refine v_calli 182 hA (rV_Mo 182 C L_RX4_95 lk_589 lk_22 (m4_refuse hm hI hM 2 (by decide) (by decide)) (vm.o hm) rfl ⟨rfl, rfl⟩ (rm_ok rfl) dX4_partOf_182) (fun r4 w5 h6 => ?_)
  obtain ⟨e_r4, rfl⟩ := h6
  refine v_eqi (iZ (-2)) (e_r4) ?_
  exact v_iret 185 C (⟨rfl, refM4 S b 2, rfl, refRM hM, refC⟩) dX4_partOf_185

set_option maxHeartbeats 4000000 in
set_option maxRecDepth 100000 in
theorem d_partOf_0 {l : Launch} {D : va_G} {kc : Nat → ClassId} {N : Nat} {ad : Nat → Nat} {S : St} {b : Bs} (hm : vm N) (hI : Inv b) (hM : RM S b) {t : Ts} (hE : LE b t) {k : Nat} (hk : k < bn b) : MetK l yX4_partOf cX4_partOf 3 (some FieldType.int) 2 0 0 49 D kc (wl kc N ad S) [.ref (ad 45), .int (iZ (k : Int)), .int (iZ 0)] (QI D kc (wl kc N ad S) (mQ kc N ad S (poZ b k 0) (b))) := by
  refine MetK.of (by decide +kernel) (Nat.le_of_ble_eq_true rfl) ?_
  intro p e s m below meth c C
  have hA : ∀ q, s.heap.size ≤ q → va_A (wl kc N ad S) s.heap.size q := fun _ h => Or.inr h
  show V p l e { frames := 2, cells := 0, slots := 0, locals := 49 } s m ([.ref (ad 45), .int (iZ (k : Int)), .int (iZ 0)] : List Value).toArray below meth c (MQ below (QI D kc (wl kc N ad S) (mQ kc N ad S (poZ b k 0) (b)) s.heap.size) ([.ref (ad 45), .int (iZ (k : Int)), .int (iZ 0)] : List Value).toArray s 0 0 (va_A (wl kc N ad S) s.heap.size)) D (va_A (wl kc N ad S) s.heap.size) 3 0 0 (wl kc N ad S) 0 [(0, .ref (ad 45)), (1, .int (iZ (k : Int))), (2, .int (iZ 0))] []
  have hb0 := hI.1
  have J := hI.2.2.2.1 k hk
  refine v_iload_n 0 1 C dX4_partOf_0 rfl ?_
  refine z_i2l 1 C (by first | assumption | exact ⟨by omega, by omega⟩) dX4_partOf_1 ?_
  refine v_lconst 2 C (lZ 0) dX4_partOf_2 (by decide) ?_
  refine v_aload_n 3 0 C dX4_partOf_3 rfl ?_
  refine g_Mo_parts 4 C (vm.o hm).1 (vm.o hm).2 lk_501 dX4_partOf_4 ?_
  refine v_eqi (iZ (b 0 0)) (hM.1.2.2) ?_
  refine v_iconst 7 C (iZ 1) dX4_partOf_7 rfl ?_
  refine z_isub 8 C dX4_partOf_8 ?_
  refine z_i2l 9 C (by first | assumption | exact ⟨by omega, by omega⟩) dX4_partOf_9 ?_
  refine v_calli 10 hA (rS 10 C L_RX4_83 lk_604 (m4_in (by first | assumption | exact ⟨by omega, by omega⟩) (by decide) (by first | assumption | exact ⟨by omega, by omega⟩)) rfl rfl (rm_ok rfl) dX4_partOf_10) (fun r1 w2 h3 => ?_)
  obtain ⟨e_r1, rfl⟩ := h3
  refine v_eqi (iZ (bz (decide (0 ≤ (k : Int) ∧ (k : Int) ≤ b 0 0 - 1)))) (e_r1) ?_
  refine z_if_ne 13 22 C (bzr _) dX4_partOf_13 (by decide) (fun c13_0 => ?_) (fun c13_0 => absurd c13_0 (by rw [decide_eq_true (show 0 ≤ (k : Int) ∧ (k : Int) ≤ b 0 0 - 1 by omega)]; decide))
  refine v_iload_n 22 2 C dX4_partOf_22 rfl ?_
  refine v_tabIn 23 76 C (off := 53) dX4_partOf_23 (by decide) (by decide) (by decide) (by decide) ?_
  refine v_aload_n 76 0 C dX4_partOf_76 rfl ?_
  refine g_Mo_kind 77 C (vm.o hm).1 (vm.o hm).2 lk_502 dX4_partOf_77 ?_
  refine v_iload_n 80 1 C dX4_partOf_80 rfl ?_
  refine v_iald 81 C (vm.a hm 46 (by decide) rfl).1 (vm.a hm 46 (by decide) rfl).2 k (izn (by omega)) (lnx (show ln 46 = 30 from rfl) (by omega)) dX4_partOf_81 ?_
  refine v_eqi (iZ (b 3 k)) ((hM.2.1 k hk).1) ?_
  exact v_iret 82 C (⟨rfl, S, rfl, hM, sameOn.rf⟩) dX4_partOf_82

set_option maxHeartbeats 4000000 in
set_option maxRecDepth 100000 in
theorem d_partOf_1 {l : Launch} {D : va_G} {kc : Nat → ClassId} {N : Nat} {ad : Nat → Nat} {S : St} {b : Bs} (hm : vm N) (hI : Inv b) (hM : RM S b) {t : Ts} (hE : LE b t) {k : Nat} (hk : k < bn b) : MetK l yX4_partOf cX4_partOf 3 (some FieldType.int) 2 0 0 49 D kc (wl kc N ad S) [.ref (ad 45), .int (iZ (k : Int)), .int (iZ 1)] (QI D kc (wl kc N ad S) (mQ kc N ad S (poZ b k 1) (b))) := by
  refine MetK.of (by decide +kernel) (Nat.le_of_ble_eq_true rfl) ?_
  intro p e s m below meth c C
  have hA : ∀ q, s.heap.size ≤ q → va_A (wl kc N ad S) s.heap.size q := fun _ h => Or.inr h
  show V p l e { frames := 2, cells := 0, slots := 0, locals := 49 } s m ([.ref (ad 45), .int (iZ (k : Int)), .int (iZ 1)] : List Value).toArray below meth c (MQ below (QI D kc (wl kc N ad S) (mQ kc N ad S (poZ b k 1) (b)) s.heap.size) ([.ref (ad 45), .int (iZ (k : Int)), .int (iZ 1)] : List Value).toArray s 0 0 (va_A (wl kc N ad S) s.heap.size)) D (va_A (wl kc N ad S) s.heap.size) 3 0 0 (wl kc N ad S) 0 [(0, .ref (ad 45)), (1, .int (iZ (k : Int))), (2, .int (iZ 1))] []
  have hb0 := hI.1
  have J := hI.2.2.2.1 k hk
  refine v_iload_n 0 1 C dX4_partOf_0 rfl ?_
  refine z_i2l 1 C (by first | assumption | exact ⟨by omega, by omega⟩) dX4_partOf_1 ?_
  refine v_lconst 2 C (lZ 0) dX4_partOf_2 (by decide) ?_
  refine v_aload_n 3 0 C dX4_partOf_3 rfl ?_
  refine g_Mo_parts 4 C (vm.o hm).1 (vm.o hm).2 lk_501 dX4_partOf_4 ?_
  refine v_eqi (iZ (b 0 0)) (hM.1.2.2) ?_
  refine v_iconst 7 C (iZ 1) dX4_partOf_7 rfl ?_
  refine z_isub 8 C dX4_partOf_8 ?_
  refine z_i2l 9 C (by first | assumption | exact ⟨by omega, by omega⟩) dX4_partOf_9 ?_
  refine v_calli 10 hA (rS 10 C L_RX4_83 lk_604 (m4_in (by first | assumption | exact ⟨by omega, by omega⟩) (by decide) (by first | assumption | exact ⟨by omega, by omega⟩)) rfl rfl (rm_ok rfl) dX4_partOf_10) (fun r1 w2 h3 => ?_)
  obtain ⟨e_r1, rfl⟩ := h3
  refine v_eqi (iZ (bz (decide (0 ≤ (k : Int) ∧ (k : Int) ≤ b 0 0 - 1)))) (e_r1) ?_
  refine z_if_ne 13 22 C (bzr _) dX4_partOf_13 (by decide) (fun c13_0 => ?_) (fun c13_0 => absurd c13_0 (by rw [decide_eq_true (show 0 ≤ (k : Int) ∧ (k : Int) ≤ b 0 0 - 1 by omega)]; decide))
  refine v_iload_n 22 2 C dX4_partOf_22 rfl ?_
  refine v_tabIn 23 83 C (off := 60) dX4_partOf_23 (by decide) (by decide) (by decide) (by decide) ?_
  refine v_aload_n 83 0 C dX4_partOf_83 rfl ?_
  refine g_Mo_on 84 C (vm.o hm).1 (vm.o hm).2 lk_503 dX4_partOf_84 ?_
  refine v_iconst 87 C (iZ 2) dX4_partOf_87 rfl ?_
  refine v_iload_n 88 1 C dX4_partOf_88 rfl ?_
  refine z_imul 89 C dX4_partOf_89 ?_
  refine v_iald 90 C (vm.a hm 47 (by decide) rfl).1 (vm.a hm 47 (by decide) rfl).2 (2 * k) (izn (by omega)) (lnx (show ln 47 = 60 from rfl) (by omega)) dX4_partOf_90 ?_
  refine v_eqi (iZ (b 4 (2 * k))) ((hM.2.2.1 (2 * k) (by omega)).1) ?_
  exact v_iret 91 C (⟨rfl, S, rfl, hM, sameOn.rf⟩) dX4_partOf_91

set_option maxHeartbeats 4000000 in
set_option maxRecDepth 100000 in
theorem d_partOf_2 {l : Launch} {D : va_G} {kc : Nat → ClassId} {N : Nat} {ad : Nat → Nat} {S : St} {b : Bs} (hm : vm N) (hI : Inv b) (hM : RM S b) {t : Ts} (hE : LE b t) {k : Nat} (hk : k < bn b) : MetK l yX4_partOf cX4_partOf 3 (some FieldType.int) 2 0 0 49 D kc (wl kc N ad S) [.ref (ad 45), .int (iZ (k : Int)), .int (iZ 2)] (QI D kc (wl kc N ad S) (mQ kc N ad S (poZ b k 2) (b))) := by
  refine MetK.of (by decide +kernel) (Nat.le_of_ble_eq_true rfl) ?_
  intro p e s m below meth c C
  have hA : ∀ q, s.heap.size ≤ q → va_A (wl kc N ad S) s.heap.size q := fun _ h => Or.inr h
  show V p l e { frames := 2, cells := 0, slots := 0, locals := 49 } s m ([.ref (ad 45), .int (iZ (k : Int)), .int (iZ 2)] : List Value).toArray below meth c (MQ below (QI D kc (wl kc N ad S) (mQ kc N ad S (poZ b k 2) (b)) s.heap.size) ([.ref (ad 45), .int (iZ (k : Int)), .int (iZ 2)] : List Value).toArray s 0 0 (va_A (wl kc N ad S) s.heap.size)) D (va_A (wl kc N ad S) s.heap.size) 3 0 0 (wl kc N ad S) 0 [(0, .ref (ad 45)), (1, .int (iZ (k : Int))), (2, .int (iZ 2))] []
  have hb0 := hI.1
  have J := hI.2.2.2.1 k hk
  refine v_iload_n 0 1 C dX4_partOf_0 rfl ?_
  refine z_i2l 1 C (by first | assumption | exact ⟨by omega, by omega⟩) dX4_partOf_1 ?_
  refine v_lconst 2 C (lZ 0) dX4_partOf_2 (by decide) ?_
  refine v_aload_n 3 0 C dX4_partOf_3 rfl ?_
  refine g_Mo_parts 4 C (vm.o hm).1 (vm.o hm).2 lk_501 dX4_partOf_4 ?_
  refine v_eqi (iZ (b 0 0)) (hM.1.2.2) ?_
  refine v_iconst 7 C (iZ 1) dX4_partOf_7 rfl ?_
  refine z_isub 8 C dX4_partOf_8 ?_
  refine z_i2l 9 C (by first | assumption | exact ⟨by omega, by omega⟩) dX4_partOf_9 ?_
  refine v_calli 10 hA (rS 10 C L_RX4_83 lk_604 (m4_in (by first | assumption | exact ⟨by omega, by omega⟩) (by decide) (by first | assumption | exact ⟨by omega, by omega⟩)) rfl rfl (rm_ok rfl) dX4_partOf_10) (fun r1 w2 h3 => ?_)
  obtain ⟨e_r1, rfl⟩ := h3
  refine v_eqi (iZ (bz (decide (0 ≤ (k : Int) ∧ (k : Int) ≤ b 0 0 - 1)))) (e_r1) ?_
  refine z_if_ne 13 22 C (bzr _) dX4_partOf_13 (by decide) (fun c13_0 => ?_) (fun c13_0 => absurd c13_0 (by rw [decide_eq_true (show 0 ≤ (k : Int) ∧ (k : Int) ≤ b 0 0 - 1 by omega)]; decide))
  refine v_iload_n 22 2 C dX4_partOf_22 rfl ?_
  refine v_tabIn 23 92 C (off := 69) dX4_partOf_23 (by decide) (by decide) (by decide) (by decide) ?_
  refine v_aload_n 92 0 C dX4_partOf_92 rfl ?_
  refine g_Mo_far 93 C (vm.o hm).1 (vm.o hm).2 lk_504 dX4_partOf_93 ?_
  refine v_iconst 96 C (iZ 2) dX4_partOf_96 rfl ?_
  refine v_iload_n 97 1 C dX4_partOf_97 rfl ?_
  refine z_imul 98 C dX4_partOf_98 ?_
  refine v_iald 99 C (vm.a hm 48 (by decide) rfl).1 (vm.a hm 48 (by decide) rfl).2 (2 * k) (izn (by omega)) (lnx (show ln 48 = 60 from rfl) (by omega)) dX4_partOf_99 ?_
  refine v_eqi (iZ (b 5 (2 * k))) ((hM.2.2.1 (2 * k) (by omega)).2.1) ?_
  exact v_iret 100 C (⟨rfl, S, rfl, hM, sameOn.rf⟩) dX4_partOf_100

set_option maxHeartbeats 4000000 in
set_option maxRecDepth 100000 in
theorem d_partOf_3 {l : Launch} {D : va_G} {kc : Nat → ClassId} {N : Nat} {ad : Nat → Nat} {S : St} {b : Bs} (hm : vm N) (hI : Inv b) (hM : RM S b) {t : Ts} (hE : LE b t) {k : Nat} (hk : k < bn b) : MetK l yX4_partOf cX4_partOf 3 (some FieldType.int) 2 0 0 49 D kc (wl kc N ad S) [.ref (ad 45), .int (iZ (k : Int)), .int (iZ 3)] (QI D kc (wl kc N ad S) (mQ kc N ad S (poZ b k 3) (b))) := by
  refine MetK.of (by decide +kernel) (Nat.le_of_ble_eq_true rfl) ?_
  intro p e s m below meth c C
  have hA : ∀ q, s.heap.size ≤ q → va_A (wl kc N ad S) s.heap.size q := fun _ h => Or.inr h
  show V p l e { frames := 2, cells := 0, slots := 0, locals := 49 } s m ([.ref (ad 45), .int (iZ (k : Int)), .int (iZ 3)] : List Value).toArray below meth c (MQ below (QI D kc (wl kc N ad S) (mQ kc N ad S (poZ b k 3) (b)) s.heap.size) ([.ref (ad 45), .int (iZ (k : Int)), .int (iZ 3)] : List Value).toArray s 0 0 (va_A (wl kc N ad S) s.heap.size)) D (va_A (wl kc N ad S) s.heap.size) 3 0 0 (wl kc N ad S) 0 [(0, .ref (ad 45)), (1, .int (iZ (k : Int))), (2, .int (iZ 3))] []
  have hb0 := hI.1
  have J := hI.2.2.2.1 k hk
  refine v_iload_n 0 1 C dX4_partOf_0 rfl ?_
  refine z_i2l 1 C (by first | assumption | exact ⟨by omega, by omega⟩) dX4_partOf_1 ?_
  refine v_lconst 2 C (lZ 0) dX4_partOf_2 (by decide) ?_
  refine v_aload_n 3 0 C dX4_partOf_3 rfl ?_
  refine g_Mo_parts 4 C (vm.o hm).1 (vm.o hm).2 lk_501 dX4_partOf_4 ?_
  refine v_eqi (iZ (b 0 0)) (hM.1.2.2) ?_
  refine v_iconst 7 C (iZ 1) dX4_partOf_7 rfl ?_
  refine z_isub 8 C dX4_partOf_8 ?_
  refine z_i2l 9 C (by first | assumption | exact ⟨by omega, by omega⟩) dX4_partOf_9 ?_
  refine v_calli 10 hA (rS 10 C L_RX4_83 lk_604 (m4_in (by first | assumption | exact ⟨by omega, by omega⟩) (by decide) (by first | assumption | exact ⟨by omega, by omega⟩)) rfl rfl (rm_ok rfl) dX4_partOf_10) (fun r1 w2 h3 => ?_)
  obtain ⟨e_r1, rfl⟩ := h3
  refine v_eqi (iZ (bz (decide (0 ≤ (k : Int) ∧ (k : Int) ≤ b 0 0 - 1)))) (e_r1) ?_
  refine z_if_ne 13 22 C (bzr _) dX4_partOf_13 (by decide) (fun c13_0 => ?_) (fun c13_0 => absurd c13_0 (by rw [decide_eq_true (show 0 ≤ (k : Int) ∧ (k : Int) ≤ b 0 0 - 1 by omega)]; decide))
  refine v_iload_n 22 2 C dX4_partOf_22 rfl ?_
  refine v_tabIn 23 101 C (off := 78) dX4_partOf_23 (by decide) (by decide) (by decide) (by decide) ?_
  refine v_aload_n 101 0 C dX4_partOf_101 rfl ?_
  refine g_Mo_on 102 C (vm.o hm).1 (vm.o hm).2 lk_503 dX4_partOf_102 ?_
  refine v_iconst 105 C (iZ 2) dX4_partOf_105 rfl ?_
  refine v_iload_n 106 1 C dX4_partOf_106 rfl ?_
  refine z_imul 107 C dX4_partOf_107 ?_
  refine v_iconst 108 C (iZ 1) dX4_partOf_108 rfl ?_
  refine z_iadd 109 C dX4_partOf_109 ?_
  refine v_iald 110 C (vm.a hm 47 (by decide) rfl).1 (vm.a hm 47 (by decide) rfl).2 (2 * k + 1) (izn (by omega)) (lnx (show ln 47 = 60 from rfl) (by omega)) dX4_partOf_110 ?_
  refine v_eqi (iZ (b 4 (2 * k + 1))) ((hM.2.2.1 (2 * k + 1) (by omega)).1) ?_
  exact v_iret 111 C (⟨rfl, S, rfl, hM, sameOn.rf⟩) dX4_partOf_111

set_option maxHeartbeats 4000000 in
set_option maxRecDepth 100000 in
theorem d_partOf_4 {l : Launch} {D : va_G} {kc : Nat → ClassId} {N : Nat} {ad : Nat → Nat} {S : St} {b : Bs} (hm : vm N) (hI : Inv b) (hM : RM S b) {t : Ts} (hE : LE b t) {k : Nat} (hk : k < bn b) : MetK l yX4_partOf cX4_partOf 3 (some FieldType.int) 2 0 0 49 D kc (wl kc N ad S) [.ref (ad 45), .int (iZ (k : Int)), .int (iZ 4)] (QI D kc (wl kc N ad S) (mQ kc N ad S (poZ b k 4) (b))) := by
  refine MetK.of (by decide +kernel) (Nat.le_of_ble_eq_true rfl) ?_
  intro p e s m below meth c C
  have hA : ∀ q, s.heap.size ≤ q → va_A (wl kc N ad S) s.heap.size q := fun _ h => Or.inr h
  show V p l e { frames := 2, cells := 0, slots := 0, locals := 49 } s m ([.ref (ad 45), .int (iZ (k : Int)), .int (iZ 4)] : List Value).toArray below meth c (MQ below (QI D kc (wl kc N ad S) (mQ kc N ad S (poZ b k 4) (b)) s.heap.size) ([.ref (ad 45), .int (iZ (k : Int)), .int (iZ 4)] : List Value).toArray s 0 0 (va_A (wl kc N ad S) s.heap.size)) D (va_A (wl kc N ad S) s.heap.size) 3 0 0 (wl kc N ad S) 0 [(0, .ref (ad 45)), (1, .int (iZ (k : Int))), (2, .int (iZ 4))] []
  have hb0 := hI.1
  have J := hI.2.2.2.1 k hk
  refine v_iload_n 0 1 C dX4_partOf_0 rfl ?_
  refine z_i2l 1 C (by first | assumption | exact ⟨by omega, by omega⟩) dX4_partOf_1 ?_
  refine v_lconst 2 C (lZ 0) dX4_partOf_2 (by decide) ?_
  refine v_aload_n 3 0 C dX4_partOf_3 rfl ?_
  refine g_Mo_parts 4 C (vm.o hm).1 (vm.o hm).2 lk_501 dX4_partOf_4 ?_
  refine v_eqi (iZ (b 0 0)) (hM.1.2.2) ?_
  refine v_iconst 7 C (iZ 1) dX4_partOf_7 rfl ?_
  refine z_isub 8 C dX4_partOf_8 ?_
  refine z_i2l 9 C (by first | assumption | exact ⟨by omega, by omega⟩) dX4_partOf_9 ?_
  refine v_calli 10 hA (rS 10 C L_RX4_83 lk_604 (m4_in (by first | assumption | exact ⟨by omega, by omega⟩) (by decide) (by first | assumption | exact ⟨by omega, by omega⟩)) rfl rfl (rm_ok rfl) dX4_partOf_10) (fun r1 w2 h3 => ?_)
  obtain ⟨e_r1, rfl⟩ := h3
  refine v_eqi (iZ (bz (decide (0 ≤ (k : Int) ∧ (k : Int) ≤ b 0 0 - 1)))) (e_r1) ?_
  refine z_if_ne 13 22 C (bzr _) dX4_partOf_13 (by decide) (fun c13_0 => ?_) (fun c13_0 => absurd c13_0 (by rw [decide_eq_true (show 0 ≤ (k : Int) ∧ (k : Int) ≤ b 0 0 - 1 by omega)]; decide))
  refine v_iload_n 22 2 C dX4_partOf_22 rfl ?_
  refine v_tabIn 23 112 C (off := 89) dX4_partOf_23 (by decide) (by decide) (by decide) (by decide) ?_
  refine v_aload_n 112 0 C dX4_partOf_112 rfl ?_
  refine g_Mo_far 113 C (vm.o hm).1 (vm.o hm).2 lk_504 dX4_partOf_113 ?_
  refine v_iconst 116 C (iZ 2) dX4_partOf_116 rfl ?_
  refine v_iload_n 117 1 C dX4_partOf_117 rfl ?_
  refine z_imul 118 C dX4_partOf_118 ?_
  refine v_iconst 119 C (iZ 1) dX4_partOf_119 rfl ?_
  refine z_iadd 120 C dX4_partOf_120 ?_
  refine v_iald 121 C (vm.a hm 48 (by decide) rfl).1 (vm.a hm 48 (by decide) rfl).2 (2 * k + 1) (izn (by omega)) (lnx (show ln 48 = 60 from rfl) (by omega)) dX4_partOf_121 ?_
  refine v_eqi (iZ (b 5 (2 * k + 1))) ((hM.2.2.1 (2 * k + 1) (by omega)).2.1) ?_
  exact v_iret 122 C (⟨rfl, S, rfl, hM, sameOn.rf⟩) dX4_partOf_122

set_option maxHeartbeats 4000000 in
set_option maxRecDepth 100000 in
theorem d_partOf_5 {l : Launch} {D : va_G} {kc : Nat → ClassId} {N : Nat} {ad : Nat → Nat} {S : St} {b : Bs} (hm : vm N) (hI : Inv b) (hM : RM S b) {t : Ts} (hE : LE b t) {k : Nat} (hk : k < bn b) : MetK l yX4_partOf cX4_partOf 3 (some FieldType.int) 2 0 0 49 D kc (wl kc N ad S) [.ref (ad 45), .int (iZ (k : Int)), .int (iZ 5)] (QI D kc (wl kc N ad S) (mQ kc N ad S (poZ b k 5) (b))) := by
  refine MetK.of (by decide +kernel) (Nat.le_of_ble_eq_true rfl) ?_
  intro p e s m below meth c C
  have hA : ∀ q, s.heap.size ≤ q → va_A (wl kc N ad S) s.heap.size q := fun _ h => Or.inr h
  show V p l e { frames := 2, cells := 0, slots := 0, locals := 49 } s m ([.ref (ad 45), .int (iZ (k : Int)), .int (iZ 5)] : List Value).toArray below meth c (MQ below (QI D kc (wl kc N ad S) (mQ kc N ad S (poZ b k 5) (b)) s.heap.size) ([.ref (ad 45), .int (iZ (k : Int)), .int (iZ 5)] : List Value).toArray s 0 0 (va_A (wl kc N ad S) s.heap.size)) D (va_A (wl kc N ad S) s.heap.size) 3 0 0 (wl kc N ad S) 0 [(0, .ref (ad 45)), (1, .int (iZ (k : Int))), (2, .int (iZ 5))] []
  have hb0 := hI.1
  have J := hI.2.2.2.1 k hk
  refine v_iload_n 0 1 C dX4_partOf_0 rfl ?_
  refine z_i2l 1 C (by first | assumption | exact ⟨by omega, by omega⟩) dX4_partOf_1 ?_
  refine v_lconst 2 C (lZ 0) dX4_partOf_2 (by decide) ?_
  refine v_aload_n 3 0 C dX4_partOf_3 rfl ?_
  refine g_Mo_parts 4 C (vm.o hm).1 (vm.o hm).2 lk_501 dX4_partOf_4 ?_
  refine v_eqi (iZ (b 0 0)) (hM.1.2.2) ?_
  refine v_iconst 7 C (iZ 1) dX4_partOf_7 rfl ?_
  refine z_isub 8 C dX4_partOf_8 ?_
  refine z_i2l 9 C (by first | assumption | exact ⟨by omega, by omega⟩) dX4_partOf_9 ?_
  refine v_calli 10 hA (rS 10 C L_RX4_83 lk_604 (m4_in (by first | assumption | exact ⟨by omega, by omega⟩) (by decide) (by first | assumption | exact ⟨by omega, by omega⟩)) rfl rfl (rm_ok rfl) dX4_partOf_10) (fun r1 w2 h3 => ?_)
  obtain ⟨e_r1, rfl⟩ := h3
  refine v_eqi (iZ (bz (decide (0 ≤ (k : Int) ∧ (k : Int) ≤ b 0 0 - 1)))) (e_r1) ?_
  refine z_if_ne 13 22 C (bzr _) dX4_partOf_13 (by decide) (fun c13_0 => ?_) (fun c13_0 => absurd c13_0 (by rw [decide_eq_true (show 0 ≤ (k : Int) ∧ (k : Int) ≤ b 0 0 - 1 by omega)]; decide))
  refine v_iload_n 22 2 C dX4_partOf_22 rfl ?_
  refine v_tabIn 23 123 C (off := 100) dX4_partOf_23 (by decide) (by decide) (by decide) (by decide) ?_
  refine v_aload_n 123 0 C dX4_partOf_123 rfl ?_
  refine g_Mo_flat 124 C (vm.o hm).1 (vm.o hm).2 lk_505 dX4_partOf_124 ?_
  refine v_iconst 127 C (iZ 2) dX4_partOf_127 rfl ?_
  refine v_iload_n 128 1 C dX4_partOf_128 rfl ?_
  refine z_imul 129 C dX4_partOf_129 ?_
  refine v_iald 130 C (vm.a hm 49 (by decide) rfl).1 (vm.a hm 49 (by decide) rfl).2 (2 * k) (izn (by omega)) (lnx (show ln 49 = 60 from rfl) (by omega)) dX4_partOf_130 ?_
  refine v_eqi (iZ (b 6 (2 * k))) ((hM.2.2.1 (2 * k) (by omega)).2.2) ?_
  exact v_iret 131 C (⟨rfl, S, rfl, hM, sameOn.rf⟩) dX4_partOf_131

set_option maxHeartbeats 4000000 in
set_option maxRecDepth 100000 in
theorem d_partOf_6 {l : Launch} {D : va_G} {kc : Nat → ClassId} {N : Nat} {ad : Nat → Nat} {S : St} {b : Bs} (hm : vm N) (hI : Inv b) (hM : RM S b) {t : Ts} (hE : LE b t) {k : Nat} (hk : k < bn b) : MetK l yX4_partOf cX4_partOf 3 (some FieldType.int) 2 0 0 49 D kc (wl kc N ad S) [.ref (ad 45), .int (iZ (k : Int)), .int (iZ 6)] (QI D kc (wl kc N ad S) (mQ kc N ad S (poZ b k 6) (b))) := by
  refine MetK.of (by decide +kernel) (Nat.le_of_ble_eq_true rfl) ?_
  intro p e s m below meth c C
  have hA : ∀ q, s.heap.size ≤ q → va_A (wl kc N ad S) s.heap.size q := fun _ h => Or.inr h
  show V p l e { frames := 2, cells := 0, slots := 0, locals := 49 } s m ([.ref (ad 45), .int (iZ (k : Int)), .int (iZ 6)] : List Value).toArray below meth c (MQ below (QI D kc (wl kc N ad S) (mQ kc N ad S (poZ b k 6) (b)) s.heap.size) ([.ref (ad 45), .int (iZ (k : Int)), .int (iZ 6)] : List Value).toArray s 0 0 (va_A (wl kc N ad S) s.heap.size)) D (va_A (wl kc N ad S) s.heap.size) 3 0 0 (wl kc N ad S) 0 [(0, .ref (ad 45)), (1, .int (iZ (k : Int))), (2, .int (iZ 6))] []
  have hb0 := hI.1
  have J := hI.2.2.2.1 k hk
  refine v_iload_n 0 1 C dX4_partOf_0 rfl ?_
  refine z_i2l 1 C (by first | assumption | exact ⟨by omega, by omega⟩) dX4_partOf_1 ?_
  refine v_lconst 2 C (lZ 0) dX4_partOf_2 (by decide) ?_
  refine v_aload_n 3 0 C dX4_partOf_3 rfl ?_
  refine g_Mo_parts 4 C (vm.o hm).1 (vm.o hm).2 lk_501 dX4_partOf_4 ?_
  refine v_eqi (iZ (b 0 0)) (hM.1.2.2) ?_
  refine v_iconst 7 C (iZ 1) dX4_partOf_7 rfl ?_
  refine z_isub 8 C dX4_partOf_8 ?_
  refine z_i2l 9 C (by first | assumption | exact ⟨by omega, by omega⟩) dX4_partOf_9 ?_
  refine v_calli 10 hA (rS 10 C L_RX4_83 lk_604 (m4_in (by first | assumption | exact ⟨by omega, by omega⟩) (by decide) (by first | assumption | exact ⟨by omega, by omega⟩)) rfl rfl (rm_ok rfl) dX4_partOf_10) (fun r1 w2 h3 => ?_)
  obtain ⟨e_r1, rfl⟩ := h3
  refine v_eqi (iZ (bz (decide (0 ≤ (k : Int) ∧ (k : Int) ≤ b 0 0 - 1)))) (e_r1) ?_
  refine z_if_ne 13 22 C (bzr _) dX4_partOf_13 (by decide) (fun c13_0 => ?_) (fun c13_0 => absurd c13_0 (by rw [decide_eq_true (show 0 ≤ (k : Int) ∧ (k : Int) ≤ b 0 0 - 1 by omega)]; decide))
  refine v_iload_n 22 2 C dX4_partOf_22 rfl ?_
  refine v_tabIn 23 132 C (off := 109) dX4_partOf_23 (by decide) (by decide) (by decide) (by decide) ?_
  refine v_aload_n 132 0 C dX4_partOf_132 rfl ?_
  refine g_Mo_flat 133 C (vm.o hm).1 (vm.o hm).2 lk_505 dX4_partOf_133 ?_
  refine v_iconst 136 C (iZ 2) dX4_partOf_136 rfl ?_
  refine v_iload_n 137 1 C dX4_partOf_137 rfl ?_
  refine z_imul 138 C dX4_partOf_138 ?_
  refine v_iconst 139 C (iZ 1) dX4_partOf_139 rfl ?_
  refine z_iadd 140 C dX4_partOf_140 ?_
  refine v_iald 141 C (vm.a hm 49 (by decide) rfl).1 (vm.a hm 49 (by decide) rfl).2 (2 * k + 1) (izn (by omega)) (lnx (show ln 49 = 60 from rfl) (by omega)) dX4_partOf_141 ?_
  refine v_eqi (iZ (b 6 (2 * k + 1))) ((hM.2.2.1 (2 * k + 1) (by omega)).2.2) ?_
  exact v_iret 142 C (⟨rfl, S, rfl, hM, sameOn.rf⟩) dX4_partOf_142

set_option maxHeartbeats 4000000 in
set_option maxRecDepth 100000 in
theorem d_partOf_7 {l : Launch} {D : va_G} {kc : Nat → ClassId} {N : Nat} {ad : Nat → Nat} {S : St} {b : Bs} (hm : vm N) (hI : Inv b) (hM : RM S b) {t : Ts} (hE : LE b t) {k : Nat} (hk : k < bn b) : MetK l yX4_partOf cX4_partOf 3 (some FieldType.int) 2 0 0 49 D kc (wl kc N ad S) [.ref (ad 45), .int (iZ (k : Int)), .int (iZ 7)] (QI D kc (wl kc N ad S) (mQ kc N ad S (poZ b k 7) (b))) := by
  refine MetK.of (by decide +kernel) (Nat.le_of_ble_eq_true rfl) ?_
  intro p e s m below meth c C
  have hA : ∀ q, s.heap.size ≤ q → va_A (wl kc N ad S) s.heap.size q := fun _ h => Or.inr h
  show V p l e { frames := 2, cells := 0, slots := 0, locals := 49 } s m ([.ref (ad 45), .int (iZ (k : Int)), .int (iZ 7)] : List Value).toArray below meth c (MQ below (QI D kc (wl kc N ad S) (mQ kc N ad S (poZ b k 7) (b)) s.heap.size) ([.ref (ad 45), .int (iZ (k : Int)), .int (iZ 7)] : List Value).toArray s 0 0 (va_A (wl kc N ad S) s.heap.size)) D (va_A (wl kc N ad S) s.heap.size) 3 0 0 (wl kc N ad S) 0 [(0, .ref (ad 45)), (1, .int (iZ (k : Int))), (2, .int (iZ 7))] []
  have hb0 := hI.1
  have J := hI.2.2.2.1 k hk
  refine v_iload_n 0 1 C dX4_partOf_0 rfl ?_
  refine z_i2l 1 C (by first | assumption | exact ⟨by omega, by omega⟩) dX4_partOf_1 ?_
  refine v_lconst 2 C (lZ 0) dX4_partOf_2 (by decide) ?_
  refine v_aload_n 3 0 C dX4_partOf_3 rfl ?_
  refine g_Mo_parts 4 C (vm.o hm).1 (vm.o hm).2 lk_501 dX4_partOf_4 ?_
  refine v_eqi (iZ (b 0 0)) (hM.1.2.2) ?_
  refine v_iconst 7 C (iZ 1) dX4_partOf_7 rfl ?_
  refine z_isub 8 C dX4_partOf_8 ?_
  refine z_i2l 9 C (by first | assumption | exact ⟨by omega, by omega⟩) dX4_partOf_9 ?_
  refine v_calli 10 hA (rS 10 C L_RX4_83 lk_604 (m4_in (by first | assumption | exact ⟨by omega, by omega⟩) (by decide) (by first | assumption | exact ⟨by omega, by omega⟩)) rfl rfl (rm_ok rfl) dX4_partOf_10) (fun r1 w2 h3 => ?_)
  obtain ⟨e_r1, rfl⟩ := h3
  refine v_eqi (iZ (bz (decide (0 ≤ (k : Int) ∧ (k : Int) ≤ b 0 0 - 1)))) (e_r1) ?_
  refine z_if_ne 13 22 C (bzr _) dX4_partOf_13 (by decide) (fun c13_0 => ?_) (fun c13_0 => absurd c13_0 (by rw [decide_eq_true (show 0 ≤ (k : Int) ∧ (k : Int) ≤ b 0 0 - 1 by omega)]; decide))
  refine v_iload_n 22 2 C dX4_partOf_22 rfl ?_
  refine v_tabIn 23 143 C (off := 120) dX4_partOf_23 (by decide) (by decide) (by decide) (by decide) ?_
  refine v_aload_n 143 0 C dX4_partOf_143 rfl ?_
  refine g_Mo_left 144 C (vm.o hm).1 (vm.o hm).2 lk_506 dX4_partOf_144 ?_
  refine v_iload_n 147 1 C dX4_partOf_147 rfl ?_
  refine v_zald 148 C (vm.a hm 50 (by decide) rfl).1 (vm.a hm 50 (by decide) rfl).2 k (izn (by omega)) (lnx (show ln 50 = 30 from rfl) (by omega)) dX4_partOf_148 ?_
  refine v_eqi (iZ (b 7 k)) ((hM.2.1 k hk).2.1) ?_
  refine z_if_eq 149 156 C (by first | assumption | exact ⟨by omega, by omega⟩) dX4_partOf_149 (by decide) (fun c149_1 => ?_) (fun c149_1 => ?_)
  · skip
    refine v_iconst 156 C (iZ 0) dX4_partOf_156 rfl ?_
    exact v_iret 157 C (⟨congrArg iZ (by show _ = b 7 k; omega), S, rfl, hM, sameOn.rf⟩) dX4_partOf_157
  · skip
    refine v_iconst 152 C (iZ 1) dX4_partOf_152 rfl ?_
    refine v_goto 153 157 C dX4_partOf_153 (by decide) ?_
    exact v_iret 157 C (⟨congrArg iZ (by show _ = b 7 k; omega), S, rfl, hM, sameOn.rf⟩) dX4_partOf_157

set_option maxHeartbeats 4000000 in
set_option maxRecDepth 100000 in
theorem d_partOf_8 {l : Launch} {D : va_G} {kc : Nat → ClassId} {N : Nat} {ad : Nat → Nat} {S : St} {b : Bs} (hm : vm N) (hI : Inv b) (hM : RM S b) {t : Ts} (hE : LE b t) {k : Nat} (hk : k < bn b) : MetK l yX4_partOf cX4_partOf 3 (some FieldType.int) 2 0 0 49 D kc (wl kc N ad S) [.ref (ad 45), .int (iZ (k : Int)), .int (iZ 8)] (QI D kc (wl kc N ad S) (mQ kc N ad S (poZ b k 8) (b))) := by
  refine MetK.of (by decide +kernel) (Nat.le_of_ble_eq_true rfl) ?_
  intro p e s m below meth c C
  have hA : ∀ q, s.heap.size ≤ q → va_A (wl kc N ad S) s.heap.size q := fun _ h => Or.inr h
  show V p l e { frames := 2, cells := 0, slots := 0, locals := 49 } s m ([.ref (ad 45), .int (iZ (k : Int)), .int (iZ 8)] : List Value).toArray below meth c (MQ below (QI D kc (wl kc N ad S) (mQ kc N ad S (poZ b k 8) (b)) s.heap.size) ([.ref (ad 45), .int (iZ (k : Int)), .int (iZ 8)] : List Value).toArray s 0 0 (va_A (wl kc N ad S) s.heap.size)) D (va_A (wl kc N ad S) s.heap.size) 3 0 0 (wl kc N ad S) 0 [(0, .ref (ad 45)), (1, .int (iZ (k : Int))), (2, .int (iZ 8))] []
  have hb0 := hI.1
  have J := hI.2.2.2.1 k hk
  refine v_iload_n 0 1 C dX4_partOf_0 rfl ?_
  refine z_i2l 1 C (by first | assumption | exact ⟨by omega, by omega⟩) dX4_partOf_1 ?_
  refine v_lconst 2 C (lZ 0) dX4_partOf_2 (by decide) ?_
  refine v_aload_n 3 0 C dX4_partOf_3 rfl ?_
  refine g_Mo_parts 4 C (vm.o hm).1 (vm.o hm).2 lk_501 dX4_partOf_4 ?_
  refine v_eqi (iZ (b 0 0)) (hM.1.2.2) ?_
  refine v_iconst 7 C (iZ 1) dX4_partOf_7 rfl ?_
  refine z_isub 8 C dX4_partOf_8 ?_
  refine z_i2l 9 C (by first | assumption | exact ⟨by omega, by omega⟩) dX4_partOf_9 ?_
  refine v_calli 10 hA (rS 10 C L_RX4_83 lk_604 (m4_in (by first | assumption | exact ⟨by omega, by omega⟩) (by decide) (by first | assumption | exact ⟨by omega, by omega⟩)) rfl rfl (rm_ok rfl) dX4_partOf_10) (fun r1 w2 h3 => ?_)
  obtain ⟨e_r1, rfl⟩ := h3
  refine v_eqi (iZ (bz (decide (0 ≤ (k : Int) ∧ (k : Int) ≤ b 0 0 - 1)))) (e_r1) ?_
  refine z_if_ne 13 22 C (bzr _) dX4_partOf_13 (by decide) (fun c13_0 => ?_) (fun c13_0 => absurd c13_0 (by rw [decide_eq_true (show 0 ≤ (k : Int) ∧ (k : Int) ≤ b 0 0 - 1 by omega)]; decide))
  refine v_iload_n 22 2 C dX4_partOf_22 rfl ?_
  refine v_tabIn 23 158 C (off := 135) dX4_partOf_23 (by decide) (by decide) (by decide) (by decide) ?_
  refine v_aload_n 158 0 C dX4_partOf_158 rfl ?_
  refine g_Mo_isThere 159 C (vm.o hm).1 (vm.o hm).2 lk_507 dX4_partOf_159 ?_
  refine v_iload_n 162 1 C dX4_partOf_162 rfl ?_
  refine v_zald 163 C (vm.a hm 51 (by decide) rfl).1 (vm.a hm 51 (by decide) rfl).2 k (izn (by omega)) (lnx (show ln 51 = 30 from rfl) (by omega)) dX4_partOf_163 ?_
  refine v_eqi (iZ (b 8 k)) ((hM.2.1 k hk).2.2) ?_
  refine z_if_eq 164 171 C (by first | assumption | exact ⟨by omega, by omega⟩) dX4_partOf_164 (by decide) (fun c164_1 => ?_) (fun c164_1 => ?_)
  · skip
    refine v_iconst 171 C (iZ 0) dX4_partOf_171 rfl ?_
    exact v_iret 172 C (⟨congrArg iZ (by show _ = b 8 k; omega), S, rfl, hM, sameOn.rf⟩) dX4_partOf_172
  · skip
    refine v_iconst 167 C (iZ 1) dX4_partOf_167 rfl ?_
    refine v_goto 168 172 C dX4_partOf_168 (by decide) ?_
    exact v_iret 172 C (⟨congrArg iZ (by show _ = b 8 k; omega), S, rfl, hM, sameOn.rf⟩) dX4_partOf_172

set_option maxHeartbeats 4000000 in
set_option maxRecDepth 100000 in
theorem d_partOf_9 {l : Launch} {D : va_G} {kc : Nat → ClassId} {N : Nat} {ad : Nat → Nat} {S : St} {b : Bs} (hm : vm N) (hI : Inv b) (hM : RM S b) {t : Ts} (hE : LE b t) {k : Nat} (hk : k < bn b) : MetK l yX4_partOf cX4_partOf 3 (some FieldType.int) 2 0 0 49 D kc (wl kc N ad S) [.ref (ad 45), .int (iZ (k : Int)), .int (iZ 9)] (QI D kc (wl kc N ad S) (mQ kc N ad S (poZ b k 9) (b))) := by
  refine MetK.of (by decide +kernel) (Nat.le_of_ble_eq_true rfl) ?_
  intro p e s m below meth c C
  have hA : ∀ q, s.heap.size ≤ q → va_A (wl kc N ad S) s.heap.size q := fun _ h => Or.inr h
  show V p l e { frames := 2, cells := 0, slots := 0, locals := 49 } s m ([.ref (ad 45), .int (iZ (k : Int)), .int (iZ 9)] : List Value).toArray below meth c (MQ below (QI D kc (wl kc N ad S) (mQ kc N ad S (poZ b k 9) (b)) s.heap.size) ([.ref (ad 45), .int (iZ (k : Int)), .int (iZ 9)] : List Value).toArray s 0 0 (va_A (wl kc N ad S) s.heap.size)) D (va_A (wl kc N ad S) s.heap.size) 3 0 0 (wl kc N ad S) 0 [(0, .ref (ad 45)), (1, .int (iZ (k : Int))), (2, .int (iZ 9))] []
  have hb0 := hI.1
  have J := hI.2.2.2.1 k hk
  refine v_iload_n 0 1 C dX4_partOf_0 rfl ?_
  refine z_i2l 1 C (by first | assumption | exact ⟨by omega, by omega⟩) dX4_partOf_1 ?_
  refine v_lconst 2 C (lZ 0) dX4_partOf_2 (by decide) ?_
  refine v_aload_n 3 0 C dX4_partOf_3 rfl ?_
  refine g_Mo_parts 4 C (vm.o hm).1 (vm.o hm).2 lk_501 dX4_partOf_4 ?_
  refine v_eqi (iZ (b 0 0)) (hM.1.2.2) ?_
  refine v_iconst 7 C (iZ 1) dX4_partOf_7 rfl ?_
  refine z_isub 8 C dX4_partOf_8 ?_
  refine z_i2l 9 C (by first | assumption | exact ⟨by omega, by omega⟩) dX4_partOf_9 ?_
  refine v_calli 10 hA (rS 10 C L_RX4_83 lk_604 (m4_in (by first | assumption | exact ⟨by omega, by omega⟩) (by decide) (by first | assumption | exact ⟨by omega, by omega⟩)) rfl rfl (rm_ok rfl) dX4_partOf_10) (fun r1 w2 h3 => ?_)
  obtain ⟨e_r1, rfl⟩ := h3
  refine v_eqi (iZ (bz (decide (0 ≤ (k : Int) ∧ (k : Int) ≤ b 0 0 - 1)))) (e_r1) ?_
  refine z_if_ne 13 22 C (bzr _) dX4_partOf_13 (by decide) (fun c13_0 => ?_) (fun c13_0 => absurd c13_0 (by rw [decide_eq_true (show 0 ≤ (k : Int) ∧ (k : Int) ≤ b 0 0 - 1 by omega)]; decide))
  refine v_iload_n 22 2 C dX4_partOf_22 rfl ?_
  refine v_tabIn 23 173 C (off := 150) dX4_partOf_23 (by decide) (by decide) (by decide) (by decide) ?_
  refine v_aload_n 173 0 C dX4_partOf_173 rfl ?_
  refine v_iload_n 174 1 C dX4_partOf_174 rfl ?_
  refine v_calli 175 hA (rV_Mo 175 C L_RX4_163 lk_662 lk_33 (m4_hangOn hm hI hM hk) (vm.o hm) rfl ⟨rfl, rfl⟩ (rm_ok rfl) dX4_partOf_175) (fun r4 w5 h6 => ?_)
  obtain ⟨e_r4, rfl⟩ := h6
  refine v_eqi (iZ (hangN b k)) (e_r4) ?_
  exact v_iret 178 C (⟨rfl, S, rfl, hM, sameOn.rf⟩) dX4_partOf_178

set_option maxHeartbeats 4000000 in
set_option maxRecDepth 100000 in
theorem d_count_0 {l : Launch} {D : va_G} {kc : Nat → ClassId} {N : Nat} {ad : Nat → Nat} {S : St} {b : Bs} (hm : vm N) (hI : Inv b) (hM : RM S b) {t : Ts} (hE : LE b t)  : MetK l yX4_count cX4_count 4 (some FieldType.int) 7 0 0 190 D kc (wl kc N ad S) [.ref (ad 45), .int (iZ 0)] (QI D kc (wl kc N ad S) (mQ kc N ad S (coZ b t 0) (b))) := by
  refine MetK.of (by decide +kernel) (Nat.le_of_ble_eq_true rfl) ?_
  intro p e s m below meth c C
  have hA : ∀ q, s.heap.size ≤ q → va_A (wl kc N ad S) s.heap.size q := fun _ h => Or.inr h
  show V p l e { frames := 7, cells := 0, slots := 0, locals := 190 } s m ([.ref (ad 45), .int (iZ 0)] : List Value).toArray below meth c (MQ below (QI D kc (wl kc N ad S) (mQ kc N ad S (coZ b t 0) (b)) s.heap.size) ([.ref (ad 45), .int (iZ 0)] : List Value).toArray s 0 0 (va_A (wl kc N ad S) s.heap.size)) D (va_A (wl kc N ad S) s.heap.size) 4 0 0 (wl kc N ad S) 0 [(0, .ref (ad 45)), (1, .int (iZ 0))] []
  have hb0 := hI.1
  refine v_iconst 0 C (iZ 0) dX4_count_0 rfl ?_
  refine v_istore_n 1 [(2, .int (iZ 0)), (0, .ref (ad 45)), (1, .int (iZ 0))] C dX4_count_1 (by decide) rfl ?_
  refine v_iload_n 2 2 C dX4_count_2 rfl ?_
  refine v_tabIn 3 36 C (off := 33) dX4_count_3 (by decide) (by decide) (by decide) (by decide) ?_
  refine v_aload_n 36 1 C dX4_count_36 rfl ?_
  refine g_Mo_width 37 C (vm.o hm).1 (vm.o hm).2 lk_499 dX4_count_37 ?_
  refine v_eqi (iZ (b 1 0)) (hM.1.1) ?_
  exact v_iret 40 C (⟨rfl, S, rfl, hM, sameOn.rf⟩) dX4_count_40

set_option maxHeartbeats 4000000 in
set_option maxRecDepth 100000 in
theorem d_count_1 {l : Launch} {D : va_G} {kc : Nat → ClassId} {N : Nat} {ad : Nat → Nat} {S : St} {b : Bs} (hm : vm N) (hI : Inv b) (hM : RM S b) {t : Ts} (hE : LE b t)  : MetK l yX4_count cX4_count 4 (some FieldType.int) 7 0 0 190 D kc (wl kc N ad S) [.ref (ad 45), .int (iZ 1)] (QI D kc (wl kc N ad S) (mQ kc N ad S (coZ b t 1) (b))) := by
  refine MetK.of (by decide +kernel) (Nat.le_of_ble_eq_true rfl) ?_
  intro p e s m below meth c C
  have hA : ∀ q, s.heap.size ≤ q → va_A (wl kc N ad S) s.heap.size q := fun _ h => Or.inr h
  show V p l e { frames := 7, cells := 0, slots := 0, locals := 190 } s m ([.ref (ad 45), .int (iZ 1)] : List Value).toArray below meth c (MQ below (QI D kc (wl kc N ad S) (mQ kc N ad S (coZ b t 1) (b)) s.heap.size) ([.ref (ad 45), .int (iZ 1)] : List Value).toArray s 0 0 (va_A (wl kc N ad S) s.heap.size)) D (va_A (wl kc N ad S) s.heap.size) 4 0 0 (wl kc N ad S) 0 [(0, .ref (ad 45)), (1, .int (iZ 1))] []
  have hb0 := hI.1
  refine v_iconst 0 C (iZ 0) dX4_count_0 rfl ?_
  refine v_istore_n 1 [(2, .int (iZ 0)), (0, .ref (ad 45)), (1, .int (iZ 1))] C dX4_count_1 (by decide) rfl ?_
  refine v_iload_n 2 2 C dX4_count_2 rfl ?_
  refine v_tabIn 3 41 C (off := 38) dX4_count_3 (by decide) (by decide) (by decide) (by decide) ?_
  refine v_aload_n 41 1 C dX4_count_41 rfl ?_
  refine g_Mo_parts 42 C (vm.o hm).1 (vm.o hm).2 lk_501 dX4_count_42 ?_
  refine v_eqi (iZ (b 0 0)) (hM.1.2.2) ?_
  exact v_iret 45 C (⟨rfl, S, rfl, hM, sameOn.rf⟩) dX4_count_45

set_option maxHeartbeats 4000000 in
set_option maxRecDepth 100000 in
theorem d_count_2 {l : Launch} {D : va_G} {kc : Nat → ClassId} {N : Nat} {ad : Nat → Nat} {S : St} {b : Bs} (hm : vm N) (hI : Inv b) (hM : RM S b) {t : Ts} (hE : LE b t)  : MetK l yX4_count cX4_count 4 (some FieldType.int) 7 0 0 190 D kc (wl kc N ad S) [.ref (ad 45), .int (iZ 2)] (QI D kc (wl kc N ad S) (mQ kc N ad S (coZ b t 2) (b))) := by
  refine MetK.of (by decide +kernel) (Nat.le_of_ble_eq_true rfl) ?_
  intro p e s m below meth c C
  have hA : ∀ q, s.heap.size ≤ q → va_A (wl kc N ad S) s.heap.size q := fun _ h => Or.inr h
  show V p l e { frames := 7, cells := 0, slots := 0, locals := 190 } s m ([.ref (ad 45), .int (iZ 2)] : List Value).toArray below meth c (MQ below (QI D kc (wl kc N ad S) (mQ kc N ad S (coZ b t 2) (b)) s.heap.size) ([.ref (ad 45), .int (iZ 2)] : List Value).toArray s 0 0 (va_A (wl kc N ad S) s.heap.size)) D (va_A (wl kc N ad S) s.heap.size) 4 0 0 (wl kc N ad S) 0 [(0, .ref (ad 45)), (1, .int (iZ 2))] []
  have hb0 := hI.1
  refine v_iconst 0 C (iZ 0) dX4_count_0 rfl ?_
  refine v_istore_n 1 [(2, .int (iZ 0)), (0, .ref (ad 45)), (1, .int (iZ 2))] C dX4_count_1 (by decide) rfl ?_
  refine v_iload_n 2 2 C dX4_count_2 rfl ?_
  refine v_tabIn 3 46 C (off := 43) dX4_count_3 (by decide) (by decide) (by decide) (by decide) ?_
  refine v_aload_n 46 1 C dX4_count_46 rfl ?_
  refine v_calli 47 hA (rV_Mo 47 C L_RX4_91 lk_585 lk_21 (m4_manyThere hm hI hM) (vm.o hm) rfl ⟨rfl, rfl⟩ (rm_ok rfl) dX4_count_47) (fun r1 w2 h3 => ?_)
  obtain ⟨e_r1, rfl⟩ := h3
  refine v_eqi (iZ (thC b)) (e_r1) ?_
  exact v_iret 50 C (⟨rfl, S, rfl, hM, sameOn.rf⟩) dX4_count_50

set_option maxHeartbeats 4000000 in
set_option maxRecDepth 100000 in
theorem d_count_3 {l : Launch} {D : va_G} {kc : Nat → ClassId} {N : Nat} {ad : Nat → Nat} {S : St} {b : Bs} (hm : vm N) (hI : Inv b) (hM : RM S b) {t : Ts} (hE : LE b t)  : MetK l yX4_count cX4_count 4 (some FieldType.int) 7 0 0 190 D kc (wl kc N ad S) [.ref (ad 45), .int (iZ 3)] (QI D kc (wl kc N ad S) (mQ kc N ad S (coZ b t 3) (b))) := by
  refine MetK.of (by decide +kernel) (Nat.le_of_ble_eq_true rfl) ?_
  intro p e s m below meth c C
  have hA : ∀ q, s.heap.size ≤ q → va_A (wl kc N ad S) s.heap.size q := fun _ h => Or.inr h
  show V p l e { frames := 7, cells := 0, slots := 0, locals := 190 } s m ([.ref (ad 45), .int (iZ 3)] : List Value).toArray below meth c (MQ below (QI D kc (wl kc N ad S) (mQ kc N ad S (coZ b t 3) (b)) s.heap.size) ([.ref (ad 45), .int (iZ 3)] : List Value).toArray s 0 0 (va_A (wl kc N ad S) s.heap.size)) D (va_A (wl kc N ad S) s.heap.size) 4 0 0 (wl kc N ad S) 0 [(0, .ref (ad 45)), (1, .int (iZ 3))] []
  have hb0 := hI.1
  refine v_iconst 0 C (iZ 0) dX4_count_0 rfl ?_
  refine v_istore_n 1 [(2, .int (iZ 0)), (0, .ref (ad 45)), (1, .int (iZ 3))] C dX4_count_1 (by decide) rfl ?_
  refine v_iload_n 2 2 C dX4_count_2 rfl ?_
  refine v_tabIn 3 51 C (off := 48) dX4_count_3 (by decide) (by decide) (by decide) (by decide) ?_
  refine v_aload_n 51 1 C dX4_count_51 rfl ?_
  refine v_iconst 52 C (iZ 0) dX4_count_52 rfl ?_
  refine v_calli 53 hA (rV_Mo 53 C L_RX4_186 lk_714 lk_38 (m4_outOf (j := 0) hm hI hM hE (by decide)) (vm.o hm) rfl ⟨rfl, rfl⟩ (rm_ok rfl) dX4_count_53) (fun OU w1 h2 => ?_)
  obtain ⟨e_OU, S1, rfl, F1⟩ := h2
  refine v_eqi (iZ (outN b t 0)) (e_OU) ?_
  refine z_if_ne 56 63 C (outN_b b t 0 hI) dX4_count_56 (by decide) (fun cO => ?_) (fun cO => ?_)
  · skip
    refine v_iconst 63 C (iZ 0) dX4_count_63 rfl ?_
    exact v_iret 64 C (⟨bzF (decide_eq_false cO), S1, rfl, F1.RM hM, F1.C⟩) dX4_count_64
  · skip
    refine v_iconst 59 C (iZ 1) dX4_count_59 rfl ?_
    refine v_goto 60 64 C dX4_count_60 (by decide) ?_
    exact v_iret 64 C (⟨bzT (decide_eq_true cO), S1, rfl, F1.RM hM, F1.C⟩) dX4_count_64

set_option maxHeartbeats 4000000 in
set_option maxRecDepth 100000 in
theorem d_count_4 {l : Launch} {D : va_G} {kc : Nat → ClassId} {N : Nat} {ad : Nat → Nat} {S : St} {b : Bs} (hm : vm N) (hI : Inv b) (hM : RM S b) {t : Ts} (hE : LE b t)  : MetK l yX4_count cX4_count 4 (some FieldType.int) 7 0 0 190 D kc (wl kc N ad S) [.ref (ad 45), .int (iZ 4)] (QI D kc (wl kc N ad S) (mQ kc N ad S (coZ b t 4) (b))) := by
  refine MetK.of (by decide +kernel) (Nat.le_of_ble_eq_true rfl) ?_
  intro p e s m below meth c C
  have hA : ∀ q, s.heap.size ≤ q → va_A (wl kc N ad S) s.heap.size q := fun _ h => Or.inr h
  show V p l e { frames := 7, cells := 0, slots := 0, locals := 190 } s m ([.ref (ad 45), .int (iZ 4)] : List Value).toArray below meth c (MQ below (QI D kc (wl kc N ad S) (mQ kc N ad S (coZ b t 4) (b)) s.heap.size) ([.ref (ad 45), .int (iZ 4)] : List Value).toArray s 0 0 (va_A (wl kc N ad S) s.heap.size)) D (va_A (wl kc N ad S) s.heap.size) 4 0 0 (wl kc N ad S) 0 [(0, .ref (ad 45)), (1, .int (iZ 4))] []
  have hb0 := hI.1
  have loop : ∀ (d i : Nat) (S1 : St), i + d = bn b → OpF S S1 → V p l e { frames := 7, cells := 0, slots := 0, locals := 190 } s m ([.ref (ad 45), .int (iZ 4)] : List Value).toArray below meth c (MQ below (QI D kc (wl kc N ad S) (mQ kc N ad S (coZ b t 4) (b)) s.heap.size) ([.ref (ad 45), .int (iZ 4)] : List Value).toArray s 0 0 (va_A (wl kc N ad S) s.heap.size)) D (va_A (wl kc N ad S) s.heap.size) 4 0 0 (wl kc N ad S1) 67 [(3, .int (iZ (i : Int))), (2, .int (iZ (cnt (stP b t) i))), (0, .ref (ad 45))] [] := by
    intro d
    induction d with
    | zero =>
      intro i S1 hi hF
      have M1 := hF.RM hM
      have hcb := cnt_b (stP b t) i
      refine v_iload_n 67 0 C dX4_count_67 rfl ?_
      refine v_aload_n 68 2 C dX4_count_68 rfl ?_
      refine g_Mo_parts 69 C (vm.o hm).1 (vm.o hm).2 lk_501 dX4_count_69 ?_
      refine v_eqi (iZ (b 0 0)) (M1.1.2.2) ?_
      refine z_icmp_ge 72 106 C (by first | assumption | exact ⟨by omega, by omega⟩) (by first | assumption | exact ⟨by omega, by omega⟩) dX4_count_72 (by decide) (fun c72_0 => ?_) (fun c72_0 => absurd (by omega) c72_0)
      refine v_iload_n 106 1 C dX4_count_106 rfl ?_
      exact v_iret 107 C (⟨by rw [show i = bn b by omega]; rfl, S1, rfl, M1, hF.C⟩) dX4_count_107
    | succ d ih =>
      intro i S1 hi hF
      have M1 := hF.RM hM
      have hcb := cnt_b (stP b t) i
      have hi2 : i < bn b := by omega
      have h8 := (hI.2.2.2.1 i hi2).2.2.1
      have hfs := fsZ_b (t 4 i)
      refine v_iload_n 67 0 C dX4_count_67 rfl ?_
      refine v_aload_n 68 2 C dX4_count_68 rfl ?_
      refine g_Mo_parts 69 C (vm.o hm).1 (vm.o hm).2 lk_501 dX4_count_69 ?_
      refine v_eqi (iZ (b 0 0)) (M1.1.2.2) ?_
      refine z_icmp_ge 72 106 C (by first | assumption | exact ⟨by omega, by omega⟩) (by first | assumption | exact ⟨by omega, by omega⟩) dX4_count_72 (by decide) (fun c72_0 => absurd c72_0 (by omega)) (fun c72_0 => ?_)
      refine v_iload_n 75 1 C dX4_count_75 rfl ?_
      refine v_aload_n 76 2 C dX4_count_76 rfl ?_
      refine g_Mo_isThere 77 C (vm.o hm).1 (vm.o hm).2 lk_507 dX4_count_77 ?_
      refine v_iload_n 80 0 C dX4_count_80 rfl ?_
      refine v_zald 81 C (vm.a hm 51 (by decide) rfl).1 (vm.a hm 51 (by decide) rfl).2 i (izn (by omega)) (lnx (show ln 51 = 30 from rfl) (by omega)) dX4_count_81 ?_
      refine v_eqi (iZ (b 8 i)) ((M1.2.1 i hi2).2.2) ?_
      refine z_if_eq 82 97 C (by first | assumption | exact ⟨by omega, by omega⟩) dX4_count_82 (by decide) (fun c82_1 => ?_) (fun c82_1 => ?_)
      · skip
        refine v_iconst 97 C (iZ 0) dX4_count_97 rfl ?_
        refine z_iadd 98 C dX4_count_98 ?_
        refine v_istore_n 99 [(2, .int (iZ ((cnt (stP b t) i) + 0))), (3, .int (iZ (i : Int))), (0, .ref (ad 45))] C dX4_count_99 (by decide) rfl ?_
        refine v_iinc 100 1 (iZ ((i + 1 : Nat) : Int)) [(3, .int (iZ ((i + 1 : Nat) : Int))), (2, .int (iZ ((cnt (stP b t) i) + 0))), (0, .ref (ad 45))] C dX4_count_100 rfl (iZ_add _ _) (by decide) rfl ?_
        refine v_goto 103 67 C dX4_count_103 (by decide) ?_
        refine v_sub [0, 1, 2] rfl ?_
        have q := ih (i + 1) S1 (by omega) hF
        rw [cnt_F (P := stP b t) (by unfold stP; rw [decide_eq_false (show ¬ b 8 i = 1 by omega)]; rfl), ← Int.add_zero (cnt (stP b t) i)] at q
        exact q
      · skip
        refine v_aload_n 85 2 C dX4_count_85 rfl ?_
        refine v_iload_n 86 0 C dX4_count_86 rfl ?_
        refine v_calli 87 hA (rV_Mo 87 C L_RX4_183 lk_706 lk_37 (m4_stuckAt hm hI M1 hE hi2 (show b 8 i = 1 by omega)) (vm.o hm) rfl ⟨rfl, rfl⟩ (rm_ok rfl) dX4_count_87) (fun SA w1 h2 => ?_)
        obtain ⟨e_SA, S2, rfl, F2⟩ := h2
        refine v_eqi (iZ (fsZ (t 4 i))) (e_SA) ?_
        refine z_if_lt 90 97 C (by first | assumption | exact ⟨by omega, by omega⟩) dX4_count_90 (by decide) (fun c90_2 => ?_) (fun c90_2 => ?_)
        · skip
          refine v_iconst 97 C (iZ 0) dX4_count_97 rfl ?_
          refine z_iadd 98 C dX4_count_98 ?_
          refine v_istore_n 99 [(2, .int (iZ ((cnt (stP b t) i) + 0))), (3, .int (iZ (i : Int))), (0, .ref (ad 45))] C dX4_count_99 (by decide) rfl ?_
          refine v_iinc 100 1 (iZ ((i + 1 : Nat) : Int)) [(3, .int (iZ ((i + 1 : Nat) : Int))), (2, .int (iZ ((cnt (stP b t) i) + 0))), (0, .ref (ad 45))] C dX4_count_100 rfl (iZ_add _ _) (by decide) rfl ?_
          refine v_goto 103 67 C dX4_count_103 (by decide) ?_
          refine v_sub [0, 1, 2] rfl ?_
          have q := ih (i + 1) S2 (by omega) (hF.tr F2)
          rw [cnt_F (P := stP b t) (by unfold stP; rw [decide_eq_false (show ¬ ¬ fsZ (t 4 i) = -9 by rcases fsF_b (t 4 i) 17 0 with z | z; unfold fsZ; omega; unfold fsZ at c90_2; omega)]; simp), ← Int.add_zero (cnt (stP b t) i)] at q
          exact q
        · skip
          refine v_iconst 93 C (iZ 1) dX4_count_93 rfl ?_
          refine v_goto 94 98 C dX4_count_94 (by decide) ?_
          refine z_iadd 98 C dX4_count_98 ?_
          refine v_istore_n 99 [(2, .int (iZ ((cnt (stP b t) i) + 1))), (3, .int (iZ (i : Int))), (0, .ref (ad 45))] C dX4_count_99 (by decide) rfl ?_
          refine v_iinc 100 1 (iZ ((i + 1 : Nat) : Int)) [(3, .int (iZ ((i + 1 : Nat) : Int))), (2, .int (iZ ((cnt (stP b t) i) + 1))), (0, .ref (ad 45))] C dX4_count_100 rfl (iZ_add _ _) (by decide) rfl ?_
          refine v_goto 103 67 C dX4_count_103 (by decide) ?_
          refine v_sub [0, 1, 2] rfl ?_
          have q := ih (i + 1) S2 (by omega) (hF.tr F2)
          rw [cnt_T (P := stP b t) (by unfold stP; rw [decide_eq_true (show b 8 i = 1 by omega), decide_eq_true (show ¬ fsZ (t 4 i) = -9 by omega)]; rfl)] at q
          exact q
  refine v_iconst 0 C (iZ 0) dX4_count_0 rfl ?_
  refine v_istore_n 1 [(2, .int (iZ 0)), (0, .ref (ad 45)), (1, .int (iZ 4))] C dX4_count_1 (by decide) rfl ?_
  refine v_iload_n 2 2 C dX4_count_2 rfl ?_
  refine v_tabIn 3 65 C (off := 62) dX4_count_3 (by decide) (by decide) (by decide) (by decide) ?_
  refine v_iconst 65 C (iZ 0) dX4_count_65 rfl ?_
  refine v_istore_n 66 [(3, .int (iZ 0)), (2, .int (iZ 0)), (0, .ref (ad 45)), (1, .int (iZ 4))] C dX4_count_66 (by decide) rfl ?_
  refine v_sub [0, 1, 2] rfl ?_
  exact loop (bn b) 0 S (by omega) OpF.rf

set_option maxHeartbeats 4000000 in
set_option maxRecDepth 100000 in
theorem d_count_5 {l : Launch} {D : va_G} {kc : Nat → ClassId} {N : Nat} {ad : Nat → Nat} {S : St} {b : Bs} (hm : vm N) (hI : Inv b) (hM : RM S b) {t : Ts} (hE : LE b t)  : MetK l yX4_count cX4_count 4 (some FieldType.int) 7 0 0 190 D kc (wl kc N ad S) [.ref (ad 45), .int (iZ 5)] (QI D kc (wl kc N ad S) (mQ kc N ad S (coZ b t 5) (b))) := by
  refine MetK.of (by decide +kernel) (Nat.le_of_ble_eq_true rfl) ?_
  intro p e s m below meth c C
  have hA : ∀ q, s.heap.size ≤ q → va_A (wl kc N ad S) s.heap.size q := fun _ h => Or.inr h
  show V p l e { frames := 7, cells := 0, slots := 0, locals := 190 } s m ([.ref (ad 45), .int (iZ 5)] : List Value).toArray below meth c (MQ below (QI D kc (wl kc N ad S) (mQ kc N ad S (coZ b t 5) (b)) s.heap.size) ([.ref (ad 45), .int (iZ 5)] : List Value).toArray s 0 0 (va_A (wl kc N ad S) s.heap.size)) D (va_A (wl kc N ad S) s.heap.size) 4 0 0 (wl kc N ad S) 0 [(0, .ref (ad 45)), (1, .int (iZ 5))] []
  have hb0 := hI.1
  refine v_iconst 0 C (iZ 0) dX4_count_0 rfl ?_
  refine v_istore_n 1 [(2, .int (iZ 0)), (0, .ref (ad 45)), (1, .int (iZ 5))] C dX4_count_1 (by decide) rfl ?_
  refine v_iload_n 2 2 C dX4_count_2 rfl ?_
  refine v_tabOut 3 108 C dX4_count_3 (by decide) (by decide) ?_
  refine v_iload_n 108 2 C dX4_count_108 rfl ?_
  refine z_i2l 109 C (by first | assumption | exact ⟨by omega, by omega⟩) dX4_count_109 ?_
  refine v_ldc2 110 C (11) lk_782 dX4_count_110 ?_
  refine v_eql (lZ 11) (by decide) ?_
  refine v_ldc2 113 C (16) lk_679 dX4_count_113 ?_
  refine v_eql (lZ 16) (by decide) ?_
  refine v_calli 116 hA (rS 116 C L_RX4_83 lk_604 (m4_in (by decide) (by decide) (by decide)) rfl rfl (rm_ok rfl) dX4_count_116) (fun r1 w2 h3 => ?_)
  obtain ⟨e_r1, rfl⟩ := h3
  refine v_eqi (iZ (bz (decide (11 ≤ (5 : Int) ∧ (5 : Int) ≤ 16)))) (e_r1) ?_
  refine z_if_eq 119 134 C (bzr _) dX4_count_119 (by decide) (fun c119_0 => ?_) (fun c119_0 => absurd (by decide) c119_0)
  refine v_bipush 134 C (iZ (-9)) dX4_count_134 (by decide) ?_
  exact v_iret 136 C (⟨rfl, S, rfl, hM, sameOn.rf⟩) dX4_count_136

set_option maxHeartbeats 4000000 in
set_option maxRecDepth 100000 in
theorem d_count_6 {l : Launch} {D : va_G} {kc : Nat → ClassId} {N : Nat} {ad : Nat → Nat} {S : St} {b : Bs} (hm : vm N) (hI : Inv b) (hM : RM S b) {t : Ts} (hE : LE b t)  : MetK l yX4_count cX4_count 4 (some FieldType.int) 7 0 0 190 D kc (wl kc N ad S) [.ref (ad 45), .int (iZ 6)] (QI D kc (wl kc N ad S) (mQ kc N ad S (coZ b t 6) (b))) := by
  refine MetK.of (by decide +kernel) (Nat.le_of_ble_eq_true rfl) ?_
  intro p e s m below meth c C
  have hA : ∀ q, s.heap.size ≤ q → va_A (wl kc N ad S) s.heap.size q := fun _ h => Or.inr h
  show V p l e { frames := 7, cells := 0, slots := 0, locals := 190 } s m ([.ref (ad 45), .int (iZ 6)] : List Value).toArray below meth c (MQ below (QI D kc (wl kc N ad S) (mQ kc N ad S (coZ b t 6) (b)) s.heap.size) ([.ref (ad 45), .int (iZ 6)] : List Value).toArray s 0 0 (va_A (wl kc N ad S) s.heap.size)) D (va_A (wl kc N ad S) s.heap.size) 4 0 0 (wl kc N ad S) 0 [(0, .ref (ad 45)), (1, .int (iZ 6))] []
  have hb0 := hI.1
  refine v_iconst 0 C (iZ 0) dX4_count_0 rfl ?_
  refine v_istore_n 1 [(2, .int (iZ 0)), (0, .ref (ad 45)), (1, .int (iZ 6))] C dX4_count_1 (by decide) rfl ?_
  refine v_iload_n 2 2 C dX4_count_2 rfl ?_
  refine v_tabOut 3 108 C dX4_count_3 (by decide) (by decide) ?_
  refine v_iload_n 108 2 C dX4_count_108 rfl ?_
  refine z_i2l 109 C (by first | assumption | exact ⟨by omega, by omega⟩) dX4_count_109 ?_
  refine v_ldc2 110 C (11) lk_782 dX4_count_110 ?_
  refine v_eql (lZ 11) (by decide) ?_
  refine v_ldc2 113 C (16) lk_679 dX4_count_113 ?_
  refine v_eql (lZ 16) (by decide) ?_
  refine v_calli 116 hA (rS 116 C L_RX4_83 lk_604 (m4_in (by decide) (by decide) (by decide)) rfl rfl (rm_ok rfl) dX4_count_116) (fun r1 w2 h3 => ?_)
  obtain ⟨e_r1, rfl⟩ := h3
  refine v_eqi (iZ (bz (decide (11 ≤ (6 : Int) ∧ (6 : Int) ≤ 16)))) (e_r1) ?_
  refine z_if_eq 119 134 C (bzr _) dX4_count_119 (by decide) (fun c119_0 => ?_) (fun c119_0 => absurd (by decide) c119_0)
  refine v_bipush 134 C (iZ (-9)) dX4_count_134 (by decide) ?_
  exact v_iret 136 C (⟨rfl, S, rfl, hM, sameOn.rf⟩) dX4_count_136

set_option maxHeartbeats 4000000 in
set_option maxRecDepth 100000 in
theorem d_count_7 {l : Launch} {D : va_G} {kc : Nat → ClassId} {N : Nat} {ad : Nat → Nat} {S : St} {b : Bs} (hm : vm N) (hI : Inv b) (hM : RM S b) {t : Ts} (hE : LE b t)  : MetK l yX4_count cX4_count 4 (some FieldType.int) 7 0 0 190 D kc (wl kc N ad S) [.ref (ad 45), .int (iZ 7)] (QI D kc (wl kc N ad S) (mQ kc N ad S (coZ b t 7) (b))) := by
  refine MetK.of (by decide +kernel) (Nat.le_of_ble_eq_true rfl) ?_
  intro p e s m below meth c C
  have hA : ∀ q, s.heap.size ≤ q → va_A (wl kc N ad S) s.heap.size q := fun _ h => Or.inr h
  show V p l e { frames := 7, cells := 0, slots := 0, locals := 190 } s m ([.ref (ad 45), .int (iZ 7)] : List Value).toArray below meth c (MQ below (QI D kc (wl kc N ad S) (mQ kc N ad S (coZ b t 7) (b)) s.heap.size) ([.ref (ad 45), .int (iZ 7)] : List Value).toArray s 0 0 (va_A (wl kc N ad S) s.heap.size)) D (va_A (wl kc N ad S) s.heap.size) 4 0 0 (wl kc N ad S) 0 [(0, .ref (ad 45)), (1, .int (iZ 7))] []
  have hb0 := hI.1
  refine v_iconst 0 C (iZ 0) dX4_count_0 rfl ?_
  refine v_istore_n 1 [(2, .int (iZ 0)), (0, .ref (ad 45)), (1, .int (iZ 7))] C dX4_count_1 (by decide) rfl ?_
  refine v_iload_n 2 2 C dX4_count_2 rfl ?_
  refine v_tabOut 3 108 C dX4_count_3 (by decide) (by decide) ?_
  refine v_iload_n 108 2 C dX4_count_108 rfl ?_
  refine z_i2l 109 C (by first | assumption | exact ⟨by omega, by omega⟩) dX4_count_109 ?_
  refine v_ldc2 110 C (11) lk_782 dX4_count_110 ?_
  refine v_eql (lZ 11) (by decide) ?_
  refine v_ldc2 113 C (16) lk_679 dX4_count_113 ?_
  refine v_eql (lZ 16) (by decide) ?_
  refine v_calli 116 hA (rS 116 C L_RX4_83 lk_604 (m4_in (by decide) (by decide) (by decide)) rfl rfl (rm_ok rfl) dX4_count_116) (fun r1 w2 h3 => ?_)
  obtain ⟨e_r1, rfl⟩ := h3
  refine v_eqi (iZ (bz (decide (11 ≤ (7 : Int) ∧ (7 : Int) ≤ 16)))) (e_r1) ?_
  refine z_if_eq 119 134 C (bzr _) dX4_count_119 (by decide) (fun c119_0 => ?_) (fun c119_0 => absurd (by decide) c119_0)
  refine v_bipush 134 C (iZ (-9)) dX4_count_134 (by decide) ?_
  exact v_iret 136 C (⟨rfl, S, rfl, hM, sameOn.rf⟩) dX4_count_136

set_option maxHeartbeats 4000000 in
set_option maxRecDepth 100000 in
theorem d_count_8 {l : Launch} {D : va_G} {kc : Nat → ClassId} {N : Nat} {ad : Nat → Nat} {S : St} {b : Bs} (hm : vm N) (hI : Inv b) (hM : RM S b) {t : Ts} (hE : LE b t)  : MetK l yX4_count cX4_count 4 (some FieldType.int) 7 0 0 190 D kc (wl kc N ad S) [.ref (ad 45), .int (iZ 8)] (QI D kc (wl kc N ad S) (mQ kc N ad S (coZ b t 8) (b))) := by
  refine MetK.of (by decide +kernel) (Nat.le_of_ble_eq_true rfl) ?_
  intro p e s m below meth c C
  have hA : ∀ q, s.heap.size ≤ q → va_A (wl kc N ad S) s.heap.size q := fun _ h => Or.inr h
  show V p l e { frames := 7, cells := 0, slots := 0, locals := 190 } s m ([.ref (ad 45), .int (iZ 8)] : List Value).toArray below meth c (MQ below (QI D kc (wl kc N ad S) (mQ kc N ad S (coZ b t 8) (b)) s.heap.size) ([.ref (ad 45), .int (iZ 8)] : List Value).toArray s 0 0 (va_A (wl kc N ad S) s.heap.size)) D (va_A (wl kc N ad S) s.heap.size) 4 0 0 (wl kc N ad S) 0 [(0, .ref (ad 45)), (1, .int (iZ 8))] []
  have hb0 := hI.1
  refine v_iconst 0 C (iZ 0) dX4_count_0 rfl ?_
  refine v_istore_n 1 [(2, .int (iZ 0)), (0, .ref (ad 45)), (1, .int (iZ 8))] C dX4_count_1 (by decide) rfl ?_
  refine v_iload_n 2 2 C dX4_count_2 rfl ?_
  refine v_tabOut 3 108 C dX4_count_3 (by decide) (by decide) ?_
  refine v_iload_n 108 2 C dX4_count_108 rfl ?_
  refine z_i2l 109 C (by first | assumption | exact ⟨by omega, by omega⟩) dX4_count_109 ?_
  refine v_ldc2 110 C (11) lk_782 dX4_count_110 ?_
  refine v_eql (lZ 11) (by decide) ?_
  refine v_ldc2 113 C (16) lk_679 dX4_count_113 ?_
  refine v_eql (lZ 16) (by decide) ?_
  refine v_calli 116 hA (rS 116 C L_RX4_83 lk_604 (m4_in (by decide) (by decide) (by decide)) rfl rfl (rm_ok rfl) dX4_count_116) (fun r1 w2 h3 => ?_)
  obtain ⟨e_r1, rfl⟩ := h3
  refine v_eqi (iZ (bz (decide (11 ≤ (8 : Int) ∧ (8 : Int) ≤ 16)))) (e_r1) ?_
  refine z_if_eq 119 134 C (bzr _) dX4_count_119 (by decide) (fun c119_0 => ?_) (fun c119_0 => absurd (by decide) c119_0)
  refine v_bipush 134 C (iZ (-9)) dX4_count_134 (by decide) ?_
  exact v_iret 136 C (⟨rfl, S, rfl, hM, sameOn.rf⟩) dX4_count_136

set_option maxHeartbeats 4000000 in
set_option maxRecDepth 100000 in
theorem d_count_9 {l : Launch} {D : va_G} {kc : Nat → ClassId} {N : Nat} {ad : Nat → Nat} {S : St} {b : Bs} (hm : vm N) (hI : Inv b) (hM : RM S b) {t : Ts} (hE : LE b t)  : MetK l yX4_count cX4_count 4 (some FieldType.int) 7 0 0 190 D kc (wl kc N ad S) [.ref (ad 45), .int (iZ 9)] (QI D kc (wl kc N ad S) (mQ kc N ad S (coZ b t 9) (b))) := by
  refine MetK.of (by decide +kernel) (Nat.le_of_ble_eq_true rfl) ?_
  intro p e s m below meth c C
  have hA : ∀ q, s.heap.size ≤ q → va_A (wl kc N ad S) s.heap.size q := fun _ h => Or.inr h
  show V p l e { frames := 7, cells := 0, slots := 0, locals := 190 } s m ([.ref (ad 45), .int (iZ 9)] : List Value).toArray below meth c (MQ below (QI D kc (wl kc N ad S) (mQ kc N ad S (coZ b t 9) (b)) s.heap.size) ([.ref (ad 45), .int (iZ 9)] : List Value).toArray s 0 0 (va_A (wl kc N ad S) s.heap.size)) D (va_A (wl kc N ad S) s.heap.size) 4 0 0 (wl kc N ad S) 0 [(0, .ref (ad 45)), (1, .int (iZ 9))] []
  have hb0 := hI.1
  refine v_iconst 0 C (iZ 0) dX4_count_0 rfl ?_
  refine v_istore_n 1 [(2, .int (iZ 0)), (0, .ref (ad 45)), (1, .int (iZ 9))] C dX4_count_1 (by decide) rfl ?_
  refine v_iload_n 2 2 C dX4_count_2 rfl ?_
  refine v_tabOut 3 108 C dX4_count_3 (by decide) (by decide) ?_
  refine v_iload_n 108 2 C dX4_count_108 rfl ?_
  refine z_i2l 109 C (by first | assumption | exact ⟨by omega, by omega⟩) dX4_count_109 ?_
  refine v_ldc2 110 C (11) lk_782 dX4_count_110 ?_
  refine v_eql (lZ 11) (by decide) ?_
  refine v_ldc2 113 C (16) lk_679 dX4_count_113 ?_
  refine v_eql (lZ 16) (by decide) ?_
  refine v_calli 116 hA (rS 116 C L_RX4_83 lk_604 (m4_in (by decide) (by decide) (by decide)) rfl rfl (rm_ok rfl) dX4_count_116) (fun r1 w2 h3 => ?_)
  obtain ⟨e_r1, rfl⟩ := h3
  refine v_eqi (iZ (bz (decide (11 ≤ (9 : Int) ∧ (9 : Int) ≤ 16)))) (e_r1) ?_
  refine z_if_eq 119 134 C (bzr _) dX4_count_119 (by decide) (fun c119_0 => ?_) (fun c119_0 => absurd (by decide) c119_0)
  refine v_bipush 134 C (iZ (-9)) dX4_count_134 (by decide) ?_
  exact v_iret 136 C (⟨rfl, S, rfl, hM, sameOn.rf⟩) dX4_count_136

set_option maxHeartbeats 4000000 in
set_option maxRecDepth 100000 in
theorem d_count_10 {l : Launch} {D : va_G} {kc : Nat → ClassId} {N : Nat} {ad : Nat → Nat} {S : St} {b : Bs} (hm : vm N) (hI : Inv b) (hM : RM S b) {t : Ts} (hE : LE b t)  : MetK l yX4_count cX4_count 4 (some FieldType.int) 7 0 0 190 D kc (wl kc N ad S) [.ref (ad 45), .int (iZ 10)] (QI D kc (wl kc N ad S) (mQ kc N ad S (coZ b t 10) (b))) := by
  refine MetK.of (by decide +kernel) (Nat.le_of_ble_eq_true rfl) ?_
  intro p e s m below meth c C
  have hA : ∀ q, s.heap.size ≤ q → va_A (wl kc N ad S) s.heap.size q := fun _ h => Or.inr h
  show V p l e { frames := 7, cells := 0, slots := 0, locals := 190 } s m ([.ref (ad 45), .int (iZ 10)] : List Value).toArray below meth c (MQ below (QI D kc (wl kc N ad S) (mQ kc N ad S (coZ b t 10) (b)) s.heap.size) ([.ref (ad 45), .int (iZ 10)] : List Value).toArray s 0 0 (va_A (wl kc N ad S) s.heap.size)) D (va_A (wl kc N ad S) s.heap.size) 4 0 0 (wl kc N ad S) 0 [(0, .ref (ad 45)), (1, .int (iZ 10))] []
  have hb0 := hI.1
  refine v_iconst 0 C (iZ 0) dX4_count_0 rfl ?_
  refine v_istore_n 1 [(2, .int (iZ 0)), (0, .ref (ad 45)), (1, .int (iZ 10))] C dX4_count_1 (by decide) rfl ?_
  refine v_iload_n 2 2 C dX4_count_2 rfl ?_
  refine v_tabOut 3 108 C dX4_count_3 (by decide) (by decide) ?_
  refine v_iload_n 108 2 C dX4_count_108 rfl ?_
  refine z_i2l 109 C (by first | assumption | exact ⟨by omega, by omega⟩) dX4_count_109 ?_
  refine v_ldc2 110 C (11) lk_782 dX4_count_110 ?_
  refine v_eql (lZ 11) (by decide) ?_
  refine v_ldc2 113 C (16) lk_679 dX4_count_113 ?_
  refine v_eql (lZ 16) (by decide) ?_
  refine v_calli 116 hA (rS 116 C L_RX4_83 lk_604 (m4_in (by decide) (by decide) (by decide)) rfl rfl (rm_ok rfl) dX4_count_116) (fun r1 w2 h3 => ?_)
  obtain ⟨e_r1, rfl⟩ := h3
  refine v_eqi (iZ (bz (decide (11 ≤ (10 : Int) ∧ (10 : Int) ≤ 16)))) (e_r1) ?_
  refine z_if_eq 119 134 C (bzr _) dX4_count_119 (by decide) (fun c119_0 => ?_) (fun c119_0 => absurd (by decide) c119_0)
  refine v_bipush 134 C (iZ (-9)) dX4_count_134 (by decide) ?_
  exact v_iret 136 C (⟨rfl, S, rfl, hM, sameOn.rf⟩) dX4_count_136

set_option maxHeartbeats 4000000 in
set_option maxRecDepth 100000 in
theorem d_count_11 {l : Launch} {D : va_G} {kc : Nat → ClassId} {N : Nat} {ad : Nat → Nat} {S : St} {b : Bs} (hm : vm N) (hI : Inv b) (hM : RM S b) {t : Ts} (hE : LE b t)  : MetK l yX4_count cX4_count 4 (some FieldType.int) 7 0 0 190 D kc (wl kc N ad S) [.ref (ad 45), .int (iZ 11)] (QI D kc (wl kc N ad S) (mQ kc N ad S (coZ b t 11) (b))) := by
  refine MetK.of (by decide +kernel) (Nat.le_of_ble_eq_true rfl) ?_
  intro p e s m below meth c C
  have hA : ∀ q, s.heap.size ≤ q → va_A (wl kc N ad S) s.heap.size q := fun _ h => Or.inr h
  show V p l e { frames := 7, cells := 0, slots := 0, locals := 190 } s m ([.ref (ad 45), .int (iZ 11)] : List Value).toArray below meth c (MQ below (QI D kc (wl kc N ad S) (mQ kc N ad S (coZ b t 11) (b)) s.heap.size) ([.ref (ad 45), .int (iZ 11)] : List Value).toArray s 0 0 (va_A (wl kc N ad S) s.heap.size)) D (va_A (wl kc N ad S) s.heap.size) 4 0 0 (wl kc N ad S) 0 [(0, .ref (ad 45)), (1, .int (iZ 11))] []
  have hb0 := hI.1
  refine v_iconst 0 C (iZ 0) dX4_count_0 rfl ?_
  refine v_istore_n 1 [(2, .int (iZ 0)), (0, .ref (ad 45)), (1, .int (iZ 11))] C dX4_count_1 (by decide) rfl ?_
  refine v_iload_n 2 2 C dX4_count_2 rfl ?_
  refine v_tabOut 3 108 C dX4_count_3 (by decide) (by decide) ?_
  refine v_iload_n 108 2 C dX4_count_108 rfl ?_
  refine z_i2l 109 C (by first | assumption | exact ⟨by omega, by omega⟩) dX4_count_109 ?_
  refine v_ldc2 110 C (11) lk_782 dX4_count_110 ?_
  refine v_eql (lZ 11) (by decide) ?_
  refine v_ldc2 113 C (16) lk_679 dX4_count_113 ?_
  refine v_eql (lZ 16) (by decide) ?_
  refine v_calli 116 hA (rS 116 C L_RX4_83 lk_604 (m4_in (by decide) (by decide) (by decide)) rfl rfl (rm_ok rfl) dX4_count_116) (fun r1 w2 h3 => ?_)
  obtain ⟨e_r1, rfl⟩ := h3
  refine v_eqi (iZ (bz (decide (11 ≤ (11 : Int) ∧ (11 : Int) ≤ 16)))) (e_r1) ?_
  refine z_if_eq 119 134 C (bzr _) dX4_count_119 (by decide) (fun c119_0 => absurd c119_0 (by decide)) (fun c119_0 => ?_)
  refine v_aload_n 122 1 C dX4_count_122 rfl ?_
  refine g_Mo_refused 123 C (vm.o hm).1 (vm.o hm).2 lk_508 dX4_count_123 ?_
  refine v_iload_n 126 2 C dX4_count_126 rfl ?_
  refine v_bipush 127 C (iZ 10) dX4_count_127 (by decide) ?_
  refine z_isub 129 C dX4_count_129 ?_
  refine v_iald 130 C (vm.a hm 52 (by decide) rfl).1 (vm.a hm 52 (by decide) rfl).2 1 (izn (by decide)) (lnx (show ln 52 = 7 from rfl) (by decide)) dX4_count_130 ?_
  refine v_eqi (iZ (b 9 1)) (hM.2.2.2.1 1 (by decide)) ?_
  refine v_goto 131 136 C dX4_count_131 (by decide) ?_
  exact v_iret 136 C (⟨rfl, S, rfl, hM, sameOn.rf⟩) dX4_count_136

set_option maxHeartbeats 4000000 in
set_option maxRecDepth 100000 in
theorem d_count_12 {l : Launch} {D : va_G} {kc : Nat → ClassId} {N : Nat} {ad : Nat → Nat} {S : St} {b : Bs} (hm : vm N) (hI : Inv b) (hM : RM S b) {t : Ts} (hE : LE b t)  : MetK l yX4_count cX4_count 4 (some FieldType.int) 7 0 0 190 D kc (wl kc N ad S) [.ref (ad 45), .int (iZ 12)] (QI D kc (wl kc N ad S) (mQ kc N ad S (coZ b t 12) (b))) := by
  refine MetK.of (by decide +kernel) (Nat.le_of_ble_eq_true rfl) ?_
  intro p e s m below meth c C
  have hA : ∀ q, s.heap.size ≤ q → va_A (wl kc N ad S) s.heap.size q := fun _ h => Or.inr h
  show V p l e { frames := 7, cells := 0, slots := 0, locals := 190 } s m ([.ref (ad 45), .int (iZ 12)] : List Value).toArray below meth c (MQ below (QI D kc (wl kc N ad S) (mQ kc N ad S (coZ b t 12) (b)) s.heap.size) ([.ref (ad 45), .int (iZ 12)] : List Value).toArray s 0 0 (va_A (wl kc N ad S) s.heap.size)) D (va_A (wl kc N ad S) s.heap.size) 4 0 0 (wl kc N ad S) 0 [(0, .ref (ad 45)), (1, .int (iZ 12))] []
  have hb0 := hI.1
  refine v_iconst 0 C (iZ 0) dX4_count_0 rfl ?_
  refine v_istore_n 1 [(2, .int (iZ 0)), (0, .ref (ad 45)), (1, .int (iZ 12))] C dX4_count_1 (by decide) rfl ?_
  refine v_iload_n 2 2 C dX4_count_2 rfl ?_
  refine v_tabOut 3 108 C dX4_count_3 (by decide) (by decide) ?_
  refine v_iload_n 108 2 C dX4_count_108 rfl ?_
  refine z_i2l 109 C (by first | assumption | exact ⟨by omega, by omega⟩) dX4_count_109 ?_
  refine v_ldc2 110 C (11) lk_782 dX4_count_110 ?_
  refine v_eql (lZ 11) (by decide) ?_
  refine v_ldc2 113 C (16) lk_679 dX4_count_113 ?_
  refine v_eql (lZ 16) (by decide) ?_
  refine v_calli 116 hA (rS 116 C L_RX4_83 lk_604 (m4_in (by decide) (by decide) (by decide)) rfl rfl (rm_ok rfl) dX4_count_116) (fun r1 w2 h3 => ?_)
  obtain ⟨e_r1, rfl⟩ := h3
  refine v_eqi (iZ (bz (decide (11 ≤ (12 : Int) ∧ (12 : Int) ≤ 16)))) (e_r1) ?_
  refine z_if_eq 119 134 C (bzr _) dX4_count_119 (by decide) (fun c119_0 => absurd c119_0 (by decide)) (fun c119_0 => ?_)
  refine v_aload_n 122 1 C dX4_count_122 rfl ?_
  refine g_Mo_refused 123 C (vm.o hm).1 (vm.o hm).2 lk_508 dX4_count_123 ?_
  refine v_iload_n 126 2 C dX4_count_126 rfl ?_
  refine v_bipush 127 C (iZ 10) dX4_count_127 (by decide) ?_
  refine z_isub 129 C dX4_count_129 ?_
  refine v_iald 130 C (vm.a hm 52 (by decide) rfl).1 (vm.a hm 52 (by decide) rfl).2 2 (izn (by decide)) (lnx (show ln 52 = 7 from rfl) (by decide)) dX4_count_130 ?_
  refine v_eqi (iZ (b 9 2)) (hM.2.2.2.1 2 (by decide)) ?_
  refine v_goto 131 136 C dX4_count_131 (by decide) ?_
  exact v_iret 136 C (⟨rfl, S, rfl, hM, sameOn.rf⟩) dX4_count_136

set_option maxHeartbeats 4000000 in
set_option maxRecDepth 100000 in
theorem d_count_13 {l : Launch} {D : va_G} {kc : Nat → ClassId} {N : Nat} {ad : Nat → Nat} {S : St} {b : Bs} (hm : vm N) (hI : Inv b) (hM : RM S b) {t : Ts} (hE : LE b t)  : MetK l yX4_count cX4_count 4 (some FieldType.int) 7 0 0 190 D kc (wl kc N ad S) [.ref (ad 45), .int (iZ 13)] (QI D kc (wl kc N ad S) (mQ kc N ad S (coZ b t 13) (b))) := by
  refine MetK.of (by decide +kernel) (Nat.le_of_ble_eq_true rfl) ?_
  intro p e s m below meth c C
  have hA : ∀ q, s.heap.size ≤ q → va_A (wl kc N ad S) s.heap.size q := fun _ h => Or.inr h
  show V p l e { frames := 7, cells := 0, slots := 0, locals := 190 } s m ([.ref (ad 45), .int (iZ 13)] : List Value).toArray below meth c (MQ below (QI D kc (wl kc N ad S) (mQ kc N ad S (coZ b t 13) (b)) s.heap.size) ([.ref (ad 45), .int (iZ 13)] : List Value).toArray s 0 0 (va_A (wl kc N ad S) s.heap.size)) D (va_A (wl kc N ad S) s.heap.size) 4 0 0 (wl kc N ad S) 0 [(0, .ref (ad 45)), (1, .int (iZ 13))] []
  have hb0 := hI.1
  refine v_iconst 0 C (iZ 0) dX4_count_0 rfl ?_
  refine v_istore_n 1 [(2, .int (iZ 0)), (0, .ref (ad 45)), (1, .int (iZ 13))] C dX4_count_1 (by decide) rfl ?_
  refine v_iload_n 2 2 C dX4_count_2 rfl ?_
  refine v_tabOut 3 108 C dX4_count_3 (by decide) (by decide) ?_
  refine v_iload_n 108 2 C dX4_count_108 rfl ?_
  refine z_i2l 109 C (by first | assumption | exact ⟨by omega, by omega⟩) dX4_count_109 ?_
  refine v_ldc2 110 C (11) lk_782 dX4_count_110 ?_
  refine v_eql (lZ 11) (by decide) ?_
  refine v_ldc2 113 C (16) lk_679 dX4_count_113 ?_
  refine v_eql (lZ 16) (by decide) ?_
  refine v_calli 116 hA (rS 116 C L_RX4_83 lk_604 (m4_in (by decide) (by decide) (by decide)) rfl rfl (rm_ok rfl) dX4_count_116) (fun r1 w2 h3 => ?_)
  obtain ⟨e_r1, rfl⟩ := h3
  refine v_eqi (iZ (bz (decide (11 ≤ (13 : Int) ∧ (13 : Int) ≤ 16)))) (e_r1) ?_
  refine z_if_eq 119 134 C (bzr _) dX4_count_119 (by decide) (fun c119_0 => absurd c119_0 (by decide)) (fun c119_0 => ?_)
  refine v_aload_n 122 1 C dX4_count_122 rfl ?_
  refine g_Mo_refused 123 C (vm.o hm).1 (vm.o hm).2 lk_508 dX4_count_123 ?_
  refine v_iload_n 126 2 C dX4_count_126 rfl ?_
  refine v_bipush 127 C (iZ 10) dX4_count_127 (by decide) ?_
  refine z_isub 129 C dX4_count_129 ?_
  refine v_iald 130 C (vm.a hm 52 (by decide) rfl).1 (vm.a hm 52 (by decide) rfl).2 3 (izn (by decide)) (lnx (show ln 52 = 7 from rfl) (by decide)) dX4_count_130 ?_
  refine v_eqi (iZ (b 9 3)) (hM.2.2.2.1 3 (by decide)) ?_
  refine v_goto 131 136 C dX4_count_131 (by decide) ?_
  exact v_iret 136 C (⟨rfl, S, rfl, hM, sameOn.rf⟩) dX4_count_136

set_option maxHeartbeats 4000000 in
set_option maxRecDepth 100000 in
theorem d_count_14 {l : Launch} {D : va_G} {kc : Nat → ClassId} {N : Nat} {ad : Nat → Nat} {S : St} {b : Bs} (hm : vm N) (hI : Inv b) (hM : RM S b) {t : Ts} (hE : LE b t)  : MetK l yX4_count cX4_count 4 (some FieldType.int) 7 0 0 190 D kc (wl kc N ad S) [.ref (ad 45), .int (iZ 14)] (QI D kc (wl kc N ad S) (mQ kc N ad S (coZ b t 14) (b))) := by
  refine MetK.of (by decide +kernel) (Nat.le_of_ble_eq_true rfl) ?_
  intro p e s m below meth c C
  have hA : ∀ q, s.heap.size ≤ q → va_A (wl kc N ad S) s.heap.size q := fun _ h => Or.inr h
  show V p l e { frames := 7, cells := 0, slots := 0, locals := 190 } s m ([.ref (ad 45), .int (iZ 14)] : List Value).toArray below meth c (MQ below (QI D kc (wl kc N ad S) (mQ kc N ad S (coZ b t 14) (b)) s.heap.size) ([.ref (ad 45), .int (iZ 14)] : List Value).toArray s 0 0 (va_A (wl kc N ad S) s.heap.size)) D (va_A (wl kc N ad S) s.heap.size) 4 0 0 (wl kc N ad S) 0 [(0, .ref (ad 45)), (1, .int (iZ 14))] []
  have hb0 := hI.1
  refine v_iconst 0 C (iZ 0) dX4_count_0 rfl ?_
  refine v_istore_n 1 [(2, .int (iZ 0)), (0, .ref (ad 45)), (1, .int (iZ 14))] C dX4_count_1 (by decide) rfl ?_
  refine v_iload_n 2 2 C dX4_count_2 rfl ?_
  refine v_tabOut 3 108 C dX4_count_3 (by decide) (by decide) ?_
  refine v_iload_n 108 2 C dX4_count_108 rfl ?_
  refine z_i2l 109 C (by first | assumption | exact ⟨by omega, by omega⟩) dX4_count_109 ?_
  refine v_ldc2 110 C (11) lk_782 dX4_count_110 ?_
  refine v_eql (lZ 11) (by decide) ?_
  refine v_ldc2 113 C (16) lk_679 dX4_count_113 ?_
  refine v_eql (lZ 16) (by decide) ?_
  refine v_calli 116 hA (rS 116 C L_RX4_83 lk_604 (m4_in (by decide) (by decide) (by decide)) rfl rfl (rm_ok rfl) dX4_count_116) (fun r1 w2 h3 => ?_)
  obtain ⟨e_r1, rfl⟩ := h3
  refine v_eqi (iZ (bz (decide (11 ≤ (14 : Int) ∧ (14 : Int) ≤ 16)))) (e_r1) ?_
  refine z_if_eq 119 134 C (bzr _) dX4_count_119 (by decide) (fun c119_0 => absurd c119_0 (by decide)) (fun c119_0 => ?_)
  refine v_aload_n 122 1 C dX4_count_122 rfl ?_
  refine g_Mo_refused 123 C (vm.o hm).1 (vm.o hm).2 lk_508 dX4_count_123 ?_
  refine v_iload_n 126 2 C dX4_count_126 rfl ?_
  refine v_bipush 127 C (iZ 10) dX4_count_127 (by decide) ?_
  refine z_isub 129 C dX4_count_129 ?_
  refine v_iald 130 C (vm.a hm 52 (by decide) rfl).1 (vm.a hm 52 (by decide) rfl).2 4 (izn (by decide)) (lnx (show ln 52 = 7 from rfl) (by decide)) dX4_count_130 ?_
  refine v_eqi (iZ (b 9 4)) (hM.2.2.2.1 4 (by decide)) ?_
  refine v_goto 131 136 C dX4_count_131 (by decide) ?_
  exact v_iret 136 C (⟨rfl, S, rfl, hM, sameOn.rf⟩) dX4_count_136

set_option maxHeartbeats 4000000 in
set_option maxRecDepth 100000 in
theorem d_count_15 {l : Launch} {D : va_G} {kc : Nat → ClassId} {N : Nat} {ad : Nat → Nat} {S : St} {b : Bs} (hm : vm N) (hI : Inv b) (hM : RM S b) {t : Ts} (hE : LE b t)  : MetK l yX4_count cX4_count 4 (some FieldType.int) 7 0 0 190 D kc (wl kc N ad S) [.ref (ad 45), .int (iZ 15)] (QI D kc (wl kc N ad S) (mQ kc N ad S (coZ b t 15) (b))) := by
  refine MetK.of (by decide +kernel) (Nat.le_of_ble_eq_true rfl) ?_
  intro p e s m below meth c C
  have hA : ∀ q, s.heap.size ≤ q → va_A (wl kc N ad S) s.heap.size q := fun _ h => Or.inr h
  show V p l e { frames := 7, cells := 0, slots := 0, locals := 190 } s m ([.ref (ad 45), .int (iZ 15)] : List Value).toArray below meth c (MQ below (QI D kc (wl kc N ad S) (mQ kc N ad S (coZ b t 15) (b)) s.heap.size) ([.ref (ad 45), .int (iZ 15)] : List Value).toArray s 0 0 (va_A (wl kc N ad S) s.heap.size)) D (va_A (wl kc N ad S) s.heap.size) 4 0 0 (wl kc N ad S) 0 [(0, .ref (ad 45)), (1, .int (iZ 15))] []
  have hb0 := hI.1
  refine v_iconst 0 C (iZ 0) dX4_count_0 rfl ?_
  refine v_istore_n 1 [(2, .int (iZ 0)), (0, .ref (ad 45)), (1, .int (iZ 15))] C dX4_count_1 (by decide) rfl ?_
  refine v_iload_n 2 2 C dX4_count_2 rfl ?_
  refine v_tabOut 3 108 C dX4_count_3 (by decide) (by decide) ?_
  refine v_iload_n 108 2 C dX4_count_108 rfl ?_
  refine z_i2l 109 C (by first | assumption | exact ⟨by omega, by omega⟩) dX4_count_109 ?_
  refine v_ldc2 110 C (11) lk_782 dX4_count_110 ?_
  refine v_eql (lZ 11) (by decide) ?_
  refine v_ldc2 113 C (16) lk_679 dX4_count_113 ?_
  refine v_eql (lZ 16) (by decide) ?_
  refine v_calli 116 hA (rS 116 C L_RX4_83 lk_604 (m4_in (by decide) (by decide) (by decide)) rfl rfl (rm_ok rfl) dX4_count_116) (fun r1 w2 h3 => ?_)
  obtain ⟨e_r1, rfl⟩ := h3
  refine v_eqi (iZ (bz (decide (11 ≤ (15 : Int) ∧ (15 : Int) ≤ 16)))) (e_r1) ?_
  refine z_if_eq 119 134 C (bzr _) dX4_count_119 (by decide) (fun c119_0 => absurd c119_0 (by decide)) (fun c119_0 => ?_)
  refine v_aload_n 122 1 C dX4_count_122 rfl ?_
  refine g_Mo_refused 123 C (vm.o hm).1 (vm.o hm).2 lk_508 dX4_count_123 ?_
  refine v_iload_n 126 2 C dX4_count_126 rfl ?_
  refine v_bipush 127 C (iZ 10) dX4_count_127 (by decide) ?_
  refine z_isub 129 C dX4_count_129 ?_
  refine v_iald 130 C (vm.a hm 52 (by decide) rfl).1 (vm.a hm 52 (by decide) rfl).2 5 (izn (by decide)) (lnx (show ln 52 = 7 from rfl) (by decide)) dX4_count_130 ?_
  refine v_eqi (iZ (b 9 5)) (hM.2.2.2.1 5 (by decide)) ?_
  refine v_goto 131 136 C dX4_count_131 (by decide) ?_
  exact v_iret 136 C (⟨rfl, S, rfl, hM, sameOn.rf⟩) dX4_count_136

set_option maxHeartbeats 4000000 in
set_option maxRecDepth 100000 in
theorem d_count_16 {l : Launch} {D : va_G} {kc : Nat → ClassId} {N : Nat} {ad : Nat → Nat} {S : St} {b : Bs} (hm : vm N) (hI : Inv b) (hM : RM S b) {t : Ts} (hE : LE b t)  : MetK l yX4_count cX4_count 4 (some FieldType.int) 7 0 0 190 D kc (wl kc N ad S) [.ref (ad 45), .int (iZ 16)] (QI D kc (wl kc N ad S) (mQ kc N ad S (coZ b t 16) (b))) := by
  refine MetK.of (by decide +kernel) (Nat.le_of_ble_eq_true rfl) ?_
  intro p e s m below meth c C
  have hA : ∀ q, s.heap.size ≤ q → va_A (wl kc N ad S) s.heap.size q := fun _ h => Or.inr h
  show V p l e { frames := 7, cells := 0, slots := 0, locals := 190 } s m ([.ref (ad 45), .int (iZ 16)] : List Value).toArray below meth c (MQ below (QI D kc (wl kc N ad S) (mQ kc N ad S (coZ b t 16) (b)) s.heap.size) ([.ref (ad 45), .int (iZ 16)] : List Value).toArray s 0 0 (va_A (wl kc N ad S) s.heap.size)) D (va_A (wl kc N ad S) s.heap.size) 4 0 0 (wl kc N ad S) 0 [(0, .ref (ad 45)), (1, .int (iZ 16))] []
  have hb0 := hI.1
  refine v_iconst 0 C (iZ 0) dX4_count_0 rfl ?_
  refine v_istore_n 1 [(2, .int (iZ 0)), (0, .ref (ad 45)), (1, .int (iZ 16))] C dX4_count_1 (by decide) rfl ?_
  refine v_iload_n 2 2 C dX4_count_2 rfl ?_
  refine v_tabOut 3 108 C dX4_count_3 (by decide) (by decide) ?_
  refine v_iload_n 108 2 C dX4_count_108 rfl ?_
  refine z_i2l 109 C (by first | assumption | exact ⟨by omega, by omega⟩) dX4_count_109 ?_
  refine v_ldc2 110 C (11) lk_782 dX4_count_110 ?_
  refine v_eql (lZ 11) (by decide) ?_
  refine v_ldc2 113 C (16) lk_679 dX4_count_113 ?_
  refine v_eql (lZ 16) (by decide) ?_
  refine v_calli 116 hA (rS 116 C L_RX4_83 lk_604 (m4_in (by decide) (by decide) (by decide)) rfl rfl (rm_ok rfl) dX4_count_116) (fun r1 w2 h3 => ?_)
  obtain ⟨e_r1, rfl⟩ := h3
  refine v_eqi (iZ (bz (decide (11 ≤ (16 : Int) ∧ (16 : Int) ≤ 16)))) (e_r1) ?_
  refine z_if_eq 119 134 C (bzr _) dX4_count_119 (by decide) (fun c119_0 => absurd c119_0 (by decide)) (fun c119_0 => ?_)
  refine v_aload_n 122 1 C dX4_count_122 rfl ?_
  refine g_Mo_refused 123 C (vm.o hm).1 (vm.o hm).2 lk_508 dX4_count_123 ?_
  refine v_iload_n 126 2 C dX4_count_126 rfl ?_
  refine v_bipush 127 C (iZ 10) dX4_count_127 (by decide) ?_
  refine z_isub 129 C dX4_count_129 ?_
  refine v_iald 130 C (vm.a hm 52 (by decide) rfl).1 (vm.a hm 52 (by decide) rfl).2 6 (izn (by decide)) (lnx (show ln 52 = 7 from rfl) (by decide)) dX4_count_130 ?_
  refine v_eqi (iZ (b 9 6)) (hM.2.2.2.1 6 (by decide)) ?_
  refine v_goto 131 136 C dX4_count_131 (by decide) ?_
  exact v_iret 136 C (⟨rfl, S, rfl, hM, sameOn.rf⟩) dX4_count_136

set_option maxHeartbeats 4000000 in
set_option maxRecDepth 100000 in
theorem d_count_w {l : Launch} {D : va_G} {kc : Nat → ClassId} {N : Nat} {ad : Nat → Nat} {S : St} {b : Bs} (hm : vm N) (hI : Inv b) (hM : RM S b) {t : Ts} (hE : LE b t) {w : Int} (rw_ : r32 w) (hw : w < 0 ∨ 16 < w) : MetK l yX4_count cX4_count 4 (some FieldType.int) 7 0 0 190 D kc (wl kc N ad S) [.ref (ad 45), .int (iZ w)] (QI D kc (wl kc N ad S) (mQ kc N ad S (-9) (b))) := by
  refine MetK.of (by decide +kernel) (Nat.le_of_ble_eq_true rfl) ?_
  intro p e s m below meth c C
  have hA : ∀ q, s.heap.size ≤ q → va_A (wl kc N ad S) s.heap.size q := fun _ h => Or.inr h
  show V p l e { frames := 7, cells := 0, slots := 0, locals := 190 } s m ([.ref (ad 45), .int (iZ w)] : List Value).toArray below meth c (MQ below (QI D kc (wl kc N ad S) (mQ kc N ad S (-9) (b)) s.heap.size) ([.ref (ad 45), .int (iZ w)] : List Value).toArray s 0 0 (va_A (wl kc N ad S) s.heap.size)) D (va_A (wl kc N ad S) s.heap.size) 4 0 0 (wl kc N ad S) 0 [(0, .ref (ad 45)), (1, .int (iZ w))] []
  have hb0 := hI.1
  refine v_iconst 0 C (iZ 0) dX4_count_0 rfl ?_
  refine v_istore_n 1 [(2, .int (iZ 0)), (0, .ref (ad 45)), (1, .int (iZ w))] C dX4_count_1 (by decide) rfl ?_
  refine v_iload_n 2 2 C dX4_count_2 rfl ?_
  refine v_tabOut 3 108 C dX4_count_3 (by rw [iZ_toInt rw_]; omega) (by decide) ?_
  refine v_iload_n 108 2 C dX4_count_108 rfl ?_
  refine z_i2l 109 C (by first | assumption | exact ⟨by omega, by omega⟩) dX4_count_109 ?_
  refine v_ldc2 110 C (11) lk_782 dX4_count_110 ?_
  refine v_eql (lZ 11) (by decide) ?_
  refine v_ldc2 113 C (16) lk_679 dX4_count_113 ?_
  refine v_eql (lZ 16) (by decide) ?_
  refine v_calli 116 hA (rS 116 C L_RX4_83 lk_604 (m4_in (by first | assumption | exact ⟨by omega, by omega⟩) (by decide) (by decide)) rfl rfl (rm_ok rfl) dX4_count_116) (fun r1 w2 h3 => ?_)
  obtain ⟨e_r1, rfl⟩ := h3
  refine v_eqi (iZ (bz (decide (11 ≤ w ∧ w ≤ 16)))) (e_r1) ?_
  refine z_if_eq 119 134 C (bzr _) dX4_count_119 (by decide) (fun c119_0 => ?_) (fun c119_0 => absurd (by rw [decide_eq_false (show ¬ (11 ≤ w ∧ w ≤ 16) by omega)]; rfl) c119_0)
  refine v_bipush 134 C (iZ (-9)) dX4_count_134 (by decide) ?_
  exact v_iret 136 C (⟨rfl, S, rfl, hM, sameOn.rf⟩) dX4_count_136

def MoF (S S' : St) : Prop := sameOn (fun i => i ≠ 45 ∧ i ≠ 57 ∧ i ≠ 54 ∧ i ≠ 55 ∧ i ≠ 56 ∧ i ≠ 63 ∧ i ≠ 64 ∧ i ≠ 65) S S' ∧ ∀ f, f ≠ 11 → gI S' 45 f = gI S 45 f
theorem MoF.rf {S : St} : MoF S S := ⟨sameOn.rf, fun _ _ => rfl⟩
theorem MoF.tr {S T U : St} (h1 : MoF S T) (h2 : MoF T U) : MoF S U := ⟨h1.1.tr h2.1, fun f q => (h2.2 f q).trans (h1.2 f q)⟩
theorem OpF.M {S S' : St} (h : OpF S S') : MoF S S' := ⟨fun i hi f => h.1 i ⟨hi.1, hi.2.1, hi.2.2.1, hi.2.2.2.1, hi.2.2.2.2.1⟩ f, h.2⟩
theorem MoF.RM {S S' : St} {b : Bs} (h : MoF S S') (hM : RM S b) : RM S' b := by
  obtain ⟨⟨a1, a2, a3⟩, c, d, e, f⟩ := hM
  have A : ∀ i k, (i ≠ 45 ∧ i ≠ 57 ∧ i ≠ 54 ∧ i ≠ 55 ∧ i ≠ 56 ∧ i ≠ 63 ∧ i ≠ 64 ∧ i ≠ 65) → gA S' i k = gA S i k := fun i k x => (h.1 i x k).2.1
  refine ⟨⟨(h.2 0 (by decide)).trans a1, (h.2 1 (by decide)).trans a2, (h.2 2 (by decide)).trans a3⟩, fun k hk => ?_, fun i hi => ?_, fun r hr => ?_, fun i hi => ?_⟩
  · rw [A 46 k (by decide), A 50 k (by decide), A 51 k (by decide)]; exact c k hk
  · rw [A 47 i (by decide), A 48 i (by decide), A 49 i (by decide)]; exact d i hi
  · rw [A 52 r (by decide)]; exact e r hr
  · rw [A 53 i (by decide)]; exact f i hi
theorem MoF.C {S S' : St} (h : MoF S S') : sameOn atC S S' := fun i hi f => h.1 i (by unfold atC at hi; omega) f
/-- what was kept of the step s -/
def LK (S : St) (b : Bs) (t : Ts) (s K : Nat) : Prop := ∀ k, k < K → k < bn b → gA S 65 k = iZ (if b 8 k = 1 then t 4 k s else 1) ∧ (b 8 k = 1 → t 4 k s = 0 → gJ S 63 k = lZ (t 2 k s) ∧ gJ S 64 k = lZ (t 3 k s))
theorem OpF.L {S S' : St} {b : Bs} {t : Ts} {s K : Nat} (h : OpF S S') (hL : LK S b t s K) : LK S' b t s K := by
  intro k h1 h2
  rw [(h.1 65 (by decide) k).2.1, (h.1 63 (by decide) k).2.2.2.1, (h.1 64 (by decide) k).2.2.2.1]
  exact hL k h1 h2
def KeF (S S' : St) : Prop := sameOn (fun i => i ≠ 63 ∧ i ≠ 64 ∧ i ≠ 65) S S'
theorem KeF.M {S S' : St} (h : KeF S S') : MoF S S' := ⟨fun i hi f => h i hi.2.2.2.2.2 f, fun f _ => (h 45 (by decide) f).1⟩
theorem KeF.O {S S' : St} {b : Bs} {t : Ts} {s K : Nat} (h : KeF S S') (hO : OPk S b t s K) : OPk S' b t s K := by
  refine ⟨(h 45 (by decide) 11).1.trans hO.1, fun k h1 h2 => ?_⟩
  rw [(h 56 (by decide) k).2.1, (h 54 (by decide) k).2.2.2.1, (h 55 (by decide) k).2.2.2.1]
  exact hO.2 k h1 h2
theorem LK_step {S : St} {b : Bs} {t : Ts} {s k : Nat} {v : Int} (hO : OPk S b t s (bn b)) (hk : k < bn b) (hv : gA S 56 k = iZ v) (hL : LK S b t s k) : LK (pA (pJ (pJ S 63 k (gJ S 54 k)) 64 k (gJ S 55 k)) 65 k (iZ v)) b t s (k + 1) := by
  intro q h1 h2
  have o := hO.2 k hk hk
  by_cases e : q = k
  · subst e
    refine ⟨?_, fun h3 h4 => ⟨?_, ?_⟩⟩
    · rw [gA_pA, if_pos ⟨rfl, rfl⟩, ← hv]; exact o.1
    · show gJ (pJ (pJ S 63 q (gJ S 54 q)) 64 q (gJ S 55 q)) 63 q = _
      rw [gJ_pJ, if_neg (fun z => absurd z.1 (by decide)), gJ_pJ, if_pos ⟨rfl, rfl⟩]; exact (o.2 h3 h4).1
    · show gJ (pJ (pJ S 63 q (gJ S 54 q)) 64 q (gJ S 55 q)) 64 q = _
      rw [gJ_pJ, if_pos ⟨rfl, rfl⟩]; exact (o.2 h3 h4).2
  · have l := hL q (by omega) h2
    refine ⟨?_, fun h3 h4 => ⟨?_, ?_⟩⟩
    · rw [gA_pA, if_neg (fun z => e z.2)]; exact l.1
    · show gJ (pJ (pJ S 63 k (gJ S 54 k)) 64 k (gJ S 55 k)) 63 q = _
      rw [gJ_pJ, if_neg (fun z => e z.2), gJ_pJ, if_neg (fun z => e z.2)]; exact (l.2 h3 h4).1
    · show gJ (pJ (pJ S 63 k (gJ S 54 k)) 64 k (gJ S 55 k)) 64 q = _
      rw [gJ_pJ, if_neg (fun z => e z.2), gJ_pJ, if_neg (fun z => e z.2)]; exact (l.2 h3 h4).2
theorem KeF_step {S : St} {k : Nat} {x y : Int64} {v : Int32} : KeF S (pA (pJ (pJ S 63 k x) 64 k y) 65 k v) := ((same_pJ (fun q => q.1 rfl)).tr (same_pJ (fun q => q.2.1 rfl))).tr (same_pA (fun q => q.2.2 rfl))
set_option maxHeartbeats 4000000 in
set_option maxRecDepth 100000 in
theorem m4_keep {l : Launch} {D : va_G} {kc : Nat → ClassId} {N : Nat} {ad : Nat → Nat} {S : St} {b : Bs} (hm : vm N) (hI : Inv b) (hM : RM S b) {t : Ts} (hE : LE b t) {j : Nat} (hj : j < 17) (hO : OPk S b t j (bn b)) : MetK l yX4_keep cX4_keep 2 (none) 1 0 0 24 D kc (wl kc N ad S) [.ref (ad 45)] (QV D kc (wl kc N ad S) (fun ws' => ∃ S', ws' = wl kc N ad S' ∧ KeF S S' ∧ LK S' b t j (bn b))) := by
  refine MetK.of (by decide +kernel) (Nat.le_of_ble_eq_true rfl) ?_
  intro p e s m below meth c C
  have hA : ∀ q, s.heap.size ≤ q → va_A (wl kc N ad S) s.heap.size q := fun _ h => Or.inr h
  show V p l e { frames := 1, cells := 0, slots := 0, locals := 24 } s m ([.ref (ad 45)] : List Value).toArray below meth c (MQ below (QV D kc (wl kc N ad S) (fun ws' => ∃ S', ws' = wl kc N ad S' ∧ KeF S S' ∧ LK S' b t j (bn b)) s.heap.size) ([.ref (ad 45)] : List Value).toArray s 0 0 (va_A (wl kc N ad S) s.heap.size)) D (va_A (wl kc N ad S) s.heap.size) 2 0 0 (wl kc N ad S) 0 [(0, .ref (ad 45))] []
  have hb0 := hI.1
  have loop : ∀ (d k : Nat) (S1 : St), k + d = bn b → KeF S S1 → LK S1 b t j k → V p l e { frames := 1, cells := 0, slots := 0, locals := 24 } s m ([.ref (ad 45)] : List Value).toArray below meth c (MQ below (QV D kc (wl kc N ad S) (fun ws' => ∃ S', ws' = wl kc N ad S' ∧ KeF S S' ∧ LK S' b t j (bn b)) s.heap.size) ([.ref (ad 45)] : List Value).toArray s 0 0 (va_A (wl kc N ad S) s.heap.size)) D (va_A (wl kc N ad S) s.heap.size) 2 0 0 (wl kc N ad S1) 2 [(1, .int (iZ (k : Int))), (0, .ref (ad 45))] [] := by
    intro d
    induction d with
    | zero =>
      intro k S1 hk hF hL
      have M1 := hF.M.RM hM
      refine v_iload_n 2 0 C dX4_keep_2 rfl ?_
      refine v_aload_n 3 1 C dX4_keep_3 rfl ?_
      refine g_Mo_parts 4 C (vm.o hm).1 (vm.o hm).2 lk_501 dX4_keep_4 ?_
      refine v_eqi (iZ (b 0 0)) (M1.1.2.2) ?_
      refine z_icmp_ge 7 52 C (by first | assumption | exact ⟨by omega, by omega⟩) (by first | assumption | exact ⟨by omega, by omega⟩) dX4_keep_7 (by decide) (fun c7_0 => ?_) (fun c7_0 => absurd (by omega) c7_0)
      exact v_vret 52 C (⟨S1, rfl, hF, by rw [← show k = bn b by omega]; exact hL⟩) dX4_keep_52
    | succ d ih =>
      intro k S1 hk hF hL
      have M1 := hF.M.RM hM
      have hk2 : k < bn b := by omega
      have O1 := hF.O hO
      obtain ⟨v, hv0⟩ : ∃ v : Int, v = (if b 8 k = 1 then t 4 k j else 1) := ⟨_, rfl⟩
      have hv : gA S1 56 k = iZ v := by rw [hv0]; exact (O1.2 k hk2 hk2).1
      have hv01 : b01 v := by
        rw [hv0]
        split
        · rename_i q; exact (hE k hk2 hk2 q j hj).1
        · exact Or.inr rfl
      refine v_iload_n 2 0 C dX4_keep_2 rfl ?_
      refine v_aload_n 3 1 C dX4_keep_3 rfl ?_
      refine g_Mo_parts 4 C (vm.o hm).1 (vm.o hm).2 lk_501 dX4_keep_4 ?_
      refine v_eqi (iZ (b 0 0)) (M1.1.2.2) ?_
      refine z_icmp_ge 7 52 C (by first | assumption | exact ⟨by omega, by omega⟩) (by first | assumption | exact ⟨by omega, by omega⟩) dX4_keep_7 (by decide) (fun c7_0 => absurd c7_0 (by omega)) (fun c7_0 => ?_)
      refine v_aload_n 10 1 C dX4_keep_10 rfl ?_
      refine g_Mo_lastX 11 C (vm.o hm).1 (vm.o hm).2 lk_522 dX4_keep_11 ?_
      refine v_iload_n 14 0 C dX4_keep_14 rfl ?_
      refine v_aload_n 15 1 C dX4_keep_15 rfl ?_
      refine g_Mo_atX 16 C (vm.o hm).1 (vm.o hm).2 lk_511 dX4_keep_16 ?_
      refine v_iload_n 19 0 C dX4_keep_19 rfl ?_
      refine v_lald 20 C (vm.a hm 54 (by decide) rfl).1 (vm.a hm 54 (by decide) rfl).2 k (izn (by omega)) (lnx (show ln 54 = 30 from rfl) (by omega)) dX4_keep_20 ?_
      refine v_last 21 C (vm.a hm 63 (by decide) rfl).1 (vm.a hm 63 (by decide) rfl).2 k (izn (by omega)) (lnx (show ln 63 = 30 from rfl) (by omega)) dX4_keep_21 ?_
      refine v_aload_n 22 1 C dX4_keep_22 rfl ?_
      refine g_Mo_lastY 23 C (vm.o hm).1 (vm.o hm).2 lk_523 dX4_keep_23 ?_
      refine v_iload_n 26 0 C dX4_keep_26 rfl ?_
      refine v_aload_n 27 1 C dX4_keep_27 rfl ?_
      refine g_Mo_atY 28 C (vm.o hm).1 (vm.o hm).2 lk_512 dX4_keep_28 ?_
      refine v_iload_n 31 0 C dX4_keep_31 rfl ?_
      refine v_lald 32 C (vm.a hm 55 (by decide) rfl).1 (vm.a hm 55 (by decide) rfl).2 k (izn (by omega)) (lnx (show ln 55 = 30 from rfl) (by omega)) dX4_keep_32 ?_
      refine v_last 33 C (vm.a hm 64 (by decide) rfl).1 (vm.a hm 64 (by decide) rfl).2 k (izn (by omega)) (lnx (show ln 64 = 30 from rfl) (by omega)) dX4_keep_33 ?_
      refine v_aload_n 34 1 C dX4_keep_34 rfl ?_
      refine g_Mo_wasStuck 35 C (vm.o hm).1 (vm.o hm).2 lk_524 dX4_keep_35 ?_
      refine v_iload_n 38 0 C dX4_keep_38 rfl ?_
      refine v_aload_n 39 1 C dX4_keep_39 rfl ?_
      refine g_Mo_isStuck 40 C (vm.o hm).1 (vm.o hm).2 lk_513 dX4_keep_40 ?_
      refine v_iload_n 43 0 C dX4_keep_43 rfl ?_
      refine v_zald 44 C (vm.a hm 56 (by decide) rfl).1 (vm.a hm 56 (by decide) rfl).2 k (izn (by omega)) (lnx (show ln 56 = 30 from rfl) (by omega)) dX4_keep_44 ?_
      refine v_eqi (iZ v) (hv) ?_
      refine v_zast 45 C (vm.a hm 65 (by decide) rfl).1 (vm.a hm 65 (by decide) rfl).2 k (izn (by omega)) (lnx (show ln 65 = 30 from rfl) (by omega)) dX4_keep_45 ?_
      rw [vn01 hv01]
      refine v_iinc 46 0 (iZ ((k + 1 : Nat) : Int)) [(1, .int (iZ ((k + 1 : Nat) : Int))), (0, .ref (ad 45))] C dX4_keep_46 rfl (iZ_add _ _) (by decide) rfl ?_
      refine v_goto 49 2 C dX4_keep_49 (by decide) ?_
      refine v_sub [0, 1] rfl ?_
      exact ih (k + 1) _ (by omega) (sameOn.tr hF KeF_step) (LK_step O1 hk2 hv hL)
  refine v_iconst 0 C (iZ 0) dX4_keep_0 rfl ?_
  refine v_istore_n 1 [(1, .int (iZ 0)), (0, .ref (ad 45))] C dX4_keep_1 (by decide) rfl ?_
  refine v_sub [0, 1] rfl ?_
  exact loop (bn b) 0 S (by omega) sameOn.rf (fun k h => absurd h (by omega))

set_option maxHeartbeats 4000000 in
set_option maxRecDepth 100000 in
theorem m4_away2 {l : Launch} {D : va_G} {kc : Nat → ClassId} {N : Nat} {ad : Nat → Nat} {S : St} {x y : Int} (hx : r64 x) (hy : r64 y) : MetK l yX4_away cX4_away 4 (some FieldType.long) 1 0 0 24 D kc (wl kc N ad S) [.long (lZ x), .long (lZ y)] (QL D kc (wl kc N ad S) (fun r ws' => r = lZ ((x - y).natAbs : Int) ∧ ws' = wl kc N ad S)) := by
  refine MetK.of (by decide +kernel) (Nat.le_of_ble_eq_true rfl) ?_
  intro p e s m below meth c C
  have hA : ∀ q, s.heap.size ≤ q → va_A (wl kc N ad S) s.heap.size q := fun _ h => Or.inr h
  show V p l e { frames := 1, cells := 0, slots := 0, locals := 24 } s m ([.long (lZ x), .long (lZ y)] : List Value).toArray below meth c (MQ below (QL D kc (wl kc N ad S) (fun r ws' => r = lZ ((x - y).natAbs : Int) ∧ ws' = wl kc N ad S) s.heap.size) ([.long (lZ x), .long (lZ y)] : List Value).toArray s 0 0 (va_A (wl kc N ad S) s.heap.size)) D (va_A (wl kc N ad S) s.heap.size) 4 0 0 (wl kc N ad S) 0 [(0, .long (lZ x)), (2, .long (lZ y))] []
  refine v_lload_n 0 0 C dX4_away_0 rfl ?_
  refine v_lload_n 1 1 C dX4_away_1 rfl ?_
  refine z_lcmp_le 2 12 C (by first | assumption | exact ⟨by omega, by omega⟩) (by first | assumption | exact ⟨by omega, by omega⟩) dX4_away_2 dX4_away_3 (by decide) (fun c2_0 => ?_) (fun c2_0 => ?_)
  · skip
    refine v_lload_n 12 1 C dX4_away_12 rfl ?_
    refine v_lload_n 13 0 C dX4_away_13 rfl ?_
    refine z_lsub 14 C dX4_away_14 ?_
    exact v_lret 15 C (⟨congrArg lZ (by omega), rfl⟩) dX4_away_15
  · skip
    refine v_lload_n 6 0 C dX4_away_6 rfl ?_
    refine v_lload_n 7 1 C dX4_away_7 rfl ?_
    refine z_lsub 8 C dX4_away_8 ?_
    refine v_goto 9 15 C dX4_away_9 (by decide) ?_
    exact v_lret 15 C (⟨congrArg lZ (by omega), rfl⟩) dX4_away_15

set_option maxHeartbeats 4000000 in
set_option maxRecDepth 100000 in
theorem m4_moved {l : Launch} {D : va_G} {kc : Nat → ClassId} {N : Nat} {ad : Nat → Nat} {S : St} {k : Nat} {X Y LX LY v0 v1 : Int} (hm : vm N) (hk : k < 30) (e1 : gJ S 54 k = lZ X) (e2 : gJ S 55 k = lZ Y) (e3 : gJ S 63 k = lZ LX) (e4 : gJ S 64 k = lZ LY) (e5 : gA S 65 k = iZ v0) (e6 : gA S 56 k = iZ v1) (r1 : r64 X) (r2 : r64 Y) (r3 : r64 LX) (r4 : r64 LY) (h0 : b01 v0) (h1 : b01 v1) (hb : v0 = 0 → v1 = 0 → (bd X ∧ bd Y) ∧ bd LX ∧ bd LY) : MetK l yX4_moved cX4_moved 6 (some FieldType.long) 2 0 0 47 D kc (wl kc N ad S) [.ref (ad 45), .int (iZ (k : Int))] (QL D kc (wl kc N ad S) (fun r ws' => r = lZ (mvZ v0 v1 LX LY X Y) ∧ ws' = wl kc N ad S)) := by
  refine MetK.of (by decide +kernel) (Nat.le_of_ble_eq_true rfl) ?_
  intro p e s m below meth c C
  have hA : ∀ q, s.heap.size ≤ q → va_A (wl kc N ad S) s.heap.size q := fun _ h => Or.inr h
  show V p l e { frames := 2, cells := 0, slots := 0, locals := 47 } s m ([.ref (ad 45), .int (iZ (k : Int))] : List Value).toArray below meth c (MQ below (QL D kc (wl kc N ad S) (fun r ws' => r = lZ (mvZ v0 v1 LX LY X Y) ∧ ws' = wl kc N ad S) s.heap.size) ([.ref (ad 45), .int (iZ (k : Int))] : List Value).toArray s 0 0 (va_A (wl kc N ad S) s.heap.size)) D (va_A (wl kc N ad S) s.heap.size) 6 0 0 (wl kc N ad S) 0 [(0, .ref (ad 45)), (1, .int (iZ (k : Int)))] []
  refine v_aload_n 0 0 C dX4_moved_0 rfl ?_
  refine g_Mo_atX 1 C (vm.o hm).1 (vm.o hm).2 lk_511 dX4_moved_1 ?_
  refine v_iload_n 4 1 C dX4_moved_4 rfl ?_
  refine v_lald 5 C (vm.a hm 54 (by decide) rfl).1 (vm.a hm 54 (by decide) rfl).2 k (izn (by omega)) (lnx (show ln 54 = 30 from rfl) (by omega)) dX4_moved_5 ?_
  refine v_eql (lZ X) (e1) ?_
  refine v_aload_n 6 0 C dX4_moved_6 rfl ?_
  refine g_Mo_lastX 7 C (vm.o hm).1 (vm.o hm).2 lk_522 dX4_moved_7 ?_
  refine v_iload_n 10 1 C dX4_moved_10 rfl ?_
  refine v_lald 11 C (vm.a hm 63 (by decide) rfl).1 (vm.a hm 63 (by decide) rfl).2 k (izn (by omega)) (lnx (show ln 63 = 30 from rfl) (by omega)) dX4_moved_11 ?_
  refine v_eql (lZ LX) (e3) ?_
  refine v_calll 12 hA (rS 12 C L_RX4_176 lk_698 (m4_away2 r1 r3) rfl rfl (rm_ok rfl) dX4_moved_12) (fun r1 w2 h3 => ?_)
  obtain ⟨e_r1, rfl⟩ := h3
  refine v_eql (lZ ((X - LX).natAbs : Int)) (e_r1) ?_
  refine z_topl (fun dx e_dx => ?_)
  refine v_lstore_n 15 [(2, .long (lZ dx)), (0, .ref (ad 45)), (1, .int (iZ (k : Int)))] C dX4_moved_15 (by decide) rfl ?_
  refine v_aload_n 16 1 C dX4_moved_16 rfl ?_
  refine g_Mo_atY 17 C (vm.o hm).1 (vm.o hm).2 lk_512 dX4_moved_17 ?_
  refine v_iload_n 20 2 C dX4_moved_20 rfl ?_
  refine v_lald 21 C (vm.a hm 55 (by decide) rfl).1 (vm.a hm 55 (by decide) rfl).2 k (izn (by omega)) (lnx (show ln 55 = 30 from rfl) (by omega)) dX4_moved_21 ?_
  refine v_eql (lZ Y) (e2) ?_
  refine v_aload_n 22 1 C dX4_moved_22 rfl ?_
  refine g_Mo_lastY 23 C (vm.o hm).1 (vm.o hm).2 lk_523 dX4_moved_23 ?_
  refine v_iload_n 26 2 C dX4_moved_26 rfl ?_
  refine v_lald 27 C (vm.a hm 64 (by decide) rfl).1 (vm.a hm 64 (by decide) rfl).2 k (izn (by omega)) (lnx (show ln 64 = 30 from rfl) (by omega)) dX4_moved_27 ?_
  refine v_eql (lZ LY) (e4) ?_
  refine v_calll 28 hA (rS 28 C L_RX4_176 lk_698 (m4_away2 r2 r4) rfl rfl (rm_ok rfl) dX4_moved_28) (fun r4 w5 h6 => ?_)
  obtain ⟨e_r4, rfl⟩ := h6
  refine v_eql (lZ ((Y - LY).natAbs : Int)) (e_r4) ?_
  refine z_topl (fun dy e_dy => ?_)
  refine v_lstore 31 [(4, .long (lZ dy)), (2, .long (lZ dx)), (0, .ref (ad 45)), (1, .int (iZ (k : Int)))] C dX4_moved_31 (by decide) rfl ?_
  refine v_aload_n 33 2 C dX4_moved_33 rfl ?_
  refine g_Mo_wasStuck 34 C (vm.o hm).1 (vm.o hm).2 lk_524 dX4_moved_34 ?_
  refine v_iload_n 37 3 C dX4_moved_37 rfl ?_
  refine v_zald 38 C (vm.a hm 65 (by decide) rfl).1 (vm.a hm 65 (by decide) rfl).2 k (izn (by omega)) (lnx (show ln 65 = 30 from rfl) (by omega)) dX4_moved_38 ?_
  refine v_eqi (iZ v0) (e5) ?_
  refine z_if_ne 39 51 C (by first | assumption | exact ⟨by omega, by omega⟩) dX4_moved_39 (by decide) (fun cA => ?_) (fun cA => ?_)
  · skip
    refine v_ldc2 51 C (-1) lk_761 dX4_moved_51 ?_
    refine v_eql (lZ (-1)) (by decide) ?_
    refine v_goto 54 70 C dX4_moved_54 (by decide) ?_
    exact v_lret 70 C (⟨congrArg lZ (by unfold mvZ; rw [if_neg (by omega)]), rfl⟩) dX4_moved_70
  · skip
    refine v_aload_n 42 2 C dX4_moved_42 rfl ?_
    refine g_Mo_isStuck 43 C (vm.o hm).1 (vm.o hm).2 lk_513 dX4_moved_43 ?_
    refine v_iload_n 46 3 C dX4_moved_46 rfl ?_
    refine v_zald 47 C (vm.a hm 56 (by decide) rfl).1 (vm.a hm 56 (by decide) rfl).2 k (izn (by omega)) (lnx (show ln 56 = 30 from rfl) (by omega)) dX4_moved_47 ?_
    refine v_eqi (iZ v1) (e6) ?_
    refine z_if_eq 48 57 C (by first | assumption | exact ⟨by omega, by omega⟩) dX4_moved_48 (by decide) (fun cB => ?_) (fun cB => ?_)
    · skip
      have hb2 := hb cA cB
      refine v_lload_n 57 1 C dX4_moved_57 rfl ?_
      refine v_lload 58 0 C dX4_moved_58 rfl ?_
      refine z_lcmp_le 60 68 C (by first | assumption | exact ⟨by omega, by omega⟩) (by first | assumption | exact ⟨by omega, by omega⟩) dX4_moved_60 dX4_moved_61 (by decide) (fun c60_2 => ?_) (fun c60_2 => ?_)
      · skip
        refine v_lload 68 0 C dX4_moved_68 rfl ?_
        exact v_lret 70 C (⟨congrArg lZ (by unfold mvZ; rw [if_pos ⟨cA, cB⟩]; omega), rfl⟩) dX4_moved_70
      · skip
        refine v_lload_n 64 1 C dX4_moved_64 rfl ?_
        refine v_goto 65 70 C dX4_moved_65 (by decide) ?_
        exact v_lret 70 C (⟨congrArg lZ (by unfold mvZ; rw [if_pos ⟨cA, cB⟩]; omega), rfl⟩) dX4_moved_70
    · skip
      refine v_ldc2 51 C (-1) lk_761 dX4_moved_51 ?_
      refine v_eql (lZ (-1)) (by decide) ?_
      refine v_goto 54 70 C dX4_moved_54 (by decide) ?_
      exact v_lret 70 C (⟨congrArg lZ (by unfold mvZ; rw [if_neg (by omega)]), rfl⟩) dX4_moved_70

theorem mov_facts {S : St} {b : Bs} {t : Ts} {k j : Nat} (hI : Inv b) (hE : LE b t) (hk : k < bn b) (hj : j < 16) (hL : LK S b t j (bn b)) (hO : OPk S b t (j + 1) (bn b)) :
    ∃ X Y LX LY v0 v1 : Int, (gJ S 54 k = lZ X ∧ gJ S 55 k = lZ Y ∧ gJ S 63 k = lZ LX ∧ gJ S 64 k = lZ LY ∧ gA S 65 k = iZ v0 ∧ gA S 56 k = iZ v1) ∧ (r64 X ∧ r64 Y ∧ r64 LX ∧ r64 LY) ∧ (b01 v0 ∧ b01 v1) ∧ (v0 = 0 → v1 = 0 → (bd X ∧ bd Y) ∧ bd LX ∧ bd LY) ∧ mvZ v0 v1 LX LY X Y = (if b 8 k = 1 then mvK t k j else -1) := by
  have l := hL k hk hk
  have o := hO.2 k hk hk
  by_cases ht : b 8 k = 1
  · rw [if_pos ht] at l o
    have A : ∀ (i : Nat) (s : Nat) (z : Int), (t 4 k s = 0 → gJ S i k = lZ z ∧ bd z) → ∃ X : Int, gJ S i k = lZ X ∧ r64 X ∧ (t 4 k s = 0 → X = z) := fun i s z q => by
      refine ⟨(gJ S i k).toInt, (lZ_of _).symm, r64_of _, fun h => ?_⟩
      rw [(q h).1, lZ_toInt]; have := (q h).2; exact ⟨by omega, by omega⟩
    have B0 := fun q => (bd_k hI hE hk ht (show j < 17 by omega) q).1
    have B1 := fun q => (bd_k hI hE hk ht (show j + 1 < 17 by omega) q).1
    obtain ⟨X, a1, a2, a3⟩ := A 54 (j + 1) (t 2 k (j + 1)) (fun q => ⟨(o.2 ht q).1, (B1 q).1⟩)
    obtain ⟨Y, c1, c2, c3⟩ := A 55 (j + 1) (t 3 k (j + 1)) (fun q => ⟨(o.2 ht q).2, (B1 q).2⟩)
    obtain ⟨LX, d1, d2, d3⟩ := A 63 j (t 2 k j) (fun q => ⟨(l.2 ht q).1, (B0 q).1⟩)
    obtain ⟨LY, f1, f2, f3⟩ := A 64 j (t 3 k j) (fun q => ⟨(l.2 ht q).2, (B0 q).2⟩)
    refine ⟨X, Y, LX, LY, t 4 k j, t 4 k (j + 1), ⟨a1, c1, d1, f1, l.1, o.1⟩, ⟨a2, c2, d2, f2⟩, ⟨(hE k hk hk ht j (by omega)).1, (hE k hk hk ht (j + 1) (by omega)).1⟩, fun z0 z1 => ?_, ?_⟩
    · rw [a3 z1, c3 z1, d3 z0, f3 z0]; exact ⟨B1 z1, B0 z0⟩
    · rw [if_pos ht]
      unfold mvK mvZ
      by_cases z : t 4 k j = 0 ∧ t 4 k (j + 1) = 0
      · rw [if_pos z, if_pos z, a3 z.2, c3 z.2, d3 z.1, f3 z.1]
      · rw [if_neg z, if_neg z]
  · rw [if_neg ht] at l o
    refine ⟨_, _, _, _, 1, 1, ⟨(lZ_of _).symm, (lZ_of _).symm, (lZ_of _).symm, (lZ_of _).symm, l.1, o.1⟩, ⟨r64_of _, r64_of _, r64_of _, r64_of _⟩, ⟨Or.inr rfl, Or.inr rfl⟩, fun z => absurd z (by decide), ?_⟩
    rw [if_neg ht]; rfl
set_option maxHeartbeats 4000000 in
set_option maxRecDepth 100000 in
theorem d_move_p {l : Launch} {D : va_G} {kc : Nat → ClassId} {N : Nat} {ad : Nat → Nat} {S : St} {b : Bs} (hm : vm N) (hI : Inv b) (hM : RM S b) {t : Ts} (hE : LE b t) {z s_ : Int} (rz : r32 z) (rs : r32 s_) (hp : ¬ isP b z) : MetK l yX4_move cX4_move 3 (some FieldType.int) 6 0 0 166 D kc (wl kc N ad S) [.ref (ad 45), .int (iZ z), .int (iZ s_)] (QI D kc (wl kc N ad S) (mQ kc N ad S (1000000000 - (-1)) (refB b 1))) := by
  refine MetK.of (by decide +kernel) (Nat.le_of_ble_eq_true rfl) ?_
  intro p e s m below meth c C
  have hA : ∀ q, s.heap.size ≤ q → va_A (wl kc N ad S) s.heap.size q := fun _ h => Or.inr h
  show V p l e { frames := 6, cells := 0, slots := 0, locals := 166 } s m ([.ref (ad 45), .int (iZ z), .int (iZ s_)] : List Value).toArray below meth c (MQ below (QI D kc (wl kc N ad S) (mQ kc N ad S (1000000000 - (-1)) (refB b 1)) s.heap.size) ([.ref (ad 45), .int (iZ z), .int (iZ s_)] : List Value).toArray s 0 0 (va_A (wl kc N ad S) s.heap.size)) D (va_A (wl kc N ad S) s.heap.size) 3 0 0 (wl kc N ad S) 0 [(0, .ref (ad 45)), (1, .int (iZ z)), (2, .int (iZ s_))] []
  have hb0 := hI.1
  refine v_aload_n 0 0 C dX4_move_0 rfl ?_
  refine v_iload_n 1 1 C dX4_move_1 rfl ?_
  refine v_calli 2 hA (rV_Mo 2 C L_RX4_160 lk_658 lk_32 (m4_isPart hm hI hM (by first | assumption | exact ⟨by omega, by omega⟩)) (vm.o hm) rfl ⟨rfl, rfl⟩ (rm_ok rfl) dX4_move_2) (fun r1 w2 h3 => ?_)
  obtain ⟨e_r1, rfl⟩ := h3
  refine v_eqi (iZ (bz (isPb b z))) (e_r1) ?_
  refine z_if_eq 5 20 C (bzr _) dX4_move_5 (by decide) (fun c5_0 => ?_) (fun c5_0 => absurd (by rw [isPb_n hp]; rfl) c5_0)
  refine v_aload_n 20 0 C dX4_move_20 rfl ?_
  refine v_iconst 21 C (iZ (-1)) dX4_move_21 rfl ?_
  refine v_calli 22 hA (rV_Mo 22 C L_RX4_173 lk_682 lk_35 (m4_refuseB hm hI hM 1 (by decide) (by decide)) (vm.o hm) rfl ⟨rfl, rfl⟩ (rm_ok rfl) dX4_move_22) (fun r4 w5 h6 => ?_)
  obtain ⟨e_r4, rfl⟩ := h6
  refine v_eqi (iZ (1000000000 - (-1))) (e_r4) ?_
  exact v_iret 25 C (⟨rfl, refM4 S b 1, rfl, refRM hM, refC⟩) dX4_move_25

set_option maxHeartbeats 4000000 in
set_option maxRecDepth 100000 in
theorem d_move_s {l : Launch} {D : va_G} {kc : Nat → ClassId} {N : Nat} {ad : Nat → Nat} {S : St} {b : Bs} (hm : vm N) (hI : Inv b) (hM : RM S b) {t : Ts} (hE : LE b t) {k : Nat} (hk : k < bn b) (ht : b 8 k = 1) {s_ : Int} (rs : r32 s_) (hs : ¬ (0 ≤ s_ ∧ s_ < 16)) : MetK l yX4_move cX4_move 3 (some FieldType.int) 6 0 0 166 D kc (wl kc N ad S) [.ref (ad 45), .int (iZ (k : Int)), .int (iZ s_)] (QI D kc (wl kc N ad S) (mQ kc N ad S (1000000000 - (-1)) (refB b 1))) := by
  refine MetK.of (by decide +kernel) (Nat.le_of_ble_eq_true rfl) ?_
  intro p e s m below meth c C
  have hA : ∀ q, s.heap.size ≤ q → va_A (wl kc N ad S) s.heap.size q := fun _ h => Or.inr h
  show V p l e { frames := 6, cells := 0, slots := 0, locals := 166 } s m ([.ref (ad 45), .int (iZ (k : Int)), .int (iZ s_)] : List Value).toArray below meth c (MQ below (QI D kc (wl kc N ad S) (mQ kc N ad S (1000000000 - (-1)) (refB b 1)) s.heap.size) ([.ref (ad 45), .int (iZ (k : Int)), .int (iZ s_)] : List Value).toArray s 0 0 (va_A (wl kc N ad S) s.heap.size)) D (va_A (wl kc N ad S) s.heap.size) 3 0 0 (wl kc N ad S) 0 [(0, .ref (ad 45)), (1, .int (iZ (k : Int))), (2, .int (iZ s_))] []
  have hb0 := hI.1
  refine v_aload_n 0 0 C dX4_move_0 rfl ?_
  refine v_iload_n 1 1 C dX4_move_1 rfl ?_
  refine v_calli 2 hA (rV_Mo 2 C L_RX4_160 lk_658 lk_32 (m4_isPart hm hI hM (by first | assumption | exact ⟨by omega, by omega⟩)) (vm.o hm) rfl ⟨rfl, rfl⟩ (rm_ok rfl) dX4_move_2) (fun r1 w2 h3 => ?_)
  obtain ⟨e_r1, rfl⟩ := h3
  refine v_eqi (iZ (bz (isPb b (k : Int)))) (e_r1) ?_
  refine z_if_eq 5 20 C (bzr _) dX4_move_5 (by decide) (fun c5_0 => absurd c5_0 (by rw [isPb_y hI hk ht]; decide)) (fun c5_0 => ?_)
  refine v_iload_n 8 2 C dX4_move_8 rfl ?_
  refine z_i2l 9 C (by first | assumption | exact ⟨by omega, by omega⟩) dX4_move_9 ?_
  refine v_lconst 10 C (lZ 0) dX4_move_10 (by decide) ?_
  refine v_ldc2 11 C (15) lk_752 dX4_move_11 ?_
  refine v_eql (lZ 15) (by decide) ?_
  refine v_calli 14 hA (rS 14 C L_RX4_83 lk_604 (m4_in (by first | assumption | exact ⟨by omega, by omega⟩) (by decide) (by decide)) rfl rfl (rm_ok rfl) dX4_move_14) (fun r4 w5 h6 => ?_)
  obtain ⟨e_r4, rfl⟩ := h6
  refine v_eqi (iZ (bz (decide (0 ≤ s_ ∧ s_ ≤ 15)))) (e_r4) ?_
  refine z_if_ne 17 26 C (bzr _) dX4_move_17 (by decide) (fun c17_1 => absurd c17_1 (fun q => q (by rw [decide_eq_false (show ¬ (0 ≤ s_ ∧ s_ ≤ 15) by omega)]; rfl))) (fun c17_1 => ?_)
  refine v_aload_n 20 0 C dX4_move_20 rfl ?_
  refine v_iconst 21 C (iZ (-1)) dX4_move_21 rfl ?_
  refine v_calli 22 hA (rV_Mo 22 C L_RX4_173 lk_682 lk_35 (m4_refuseB hm hI hM 1 (by decide) (by decide)) (vm.o hm) rfl ⟨rfl, rfl⟩ (rm_ok rfl) dX4_move_22) (fun r7 w8 h9 => ?_)
  obtain ⟨e_r7, rfl⟩ := h9
  refine v_eqi (iZ (1000000000 - (-1))) (e_r7) ?_
  exact v_iret 25 C (⟨rfl, refM4 S b 1, rfl, refRM hM, refC⟩) dX4_move_25

set_option maxHeartbeats 4000000 in
set_option maxRecDepth 100000 in
theorem d_move {l : Launch} {D : va_G} {kc : Nat → ClassId} {N : Nat} {ad : Nat → Nat} {S : St} {b : Bs} (hm : vm N) (hI : Inv b) (hM : RM S b) {t : Ts} (hE : LE b t) {k : Nat} (hk : k < bn b) (ht : b 8 k = 1) {j : Nat} (hj : j < 16) : MetK l yX4_move cX4_move 3 (some FieldType.int) 6 0 0 166 D kc (wl kc N ad S) [.ref (ad 45), .int (iZ (k : Int)), .int (iZ (j : Int))] (QI D kc (wl kc N ad S) (mQ kc N ad S (mvZ (t 4 k j) (t 4 k (j + 1)) (t 2 k j) (t 3 k j) (t 2 k (j + 1)) (t 3 k (j + 1))) (b))) := by
  refine MetK.of (by decide +kernel) (Nat.le_of_ble_eq_true rfl) ?_
  intro p e s m below meth c C
  have hA : ∀ q, s.heap.size ≤ q → va_A (wl kc N ad S) s.heap.size q := fun _ h => Or.inr h
  show V p l e { frames := 6, cells := 0, slots := 0, locals := 166 } s m ([.ref (ad 45), .int (iZ (k : Int)), .int (iZ (j : Int))] : List Value).toArray below meth c (MQ below (QI D kc (wl kc N ad S) (mQ kc N ad S (mvZ (t 4 k j) (t 4 k (j + 1)) (t 2 k j) (t 3 k j) (t 2 k (j + 1)) (t 3 k (j + 1))) (b)) s.heap.size) ([.ref (ad 45), .int (iZ (k : Int)), .int (iZ (j : Int))] : List Value).toArray s 0 0 (va_A (wl kc N ad S) s.heap.size)) D (va_A (wl kc N ad S) s.heap.size) 3 0 0 (wl kc N ad S) 0 [(0, .ref (ad 45)), (1, .int (iZ (k : Int))), (2, .int (iZ (j : Int)))] []
  have hb0 := hI.1
  refine v_aload_n 0 0 C dX4_move_0 rfl ?_
  refine v_iload_n 1 1 C dX4_move_1 rfl ?_
  refine v_calli 2 hA (rV_Mo 2 C L_RX4_160 lk_658 lk_32 (m4_isPart hm hI hM (by first | assumption | exact ⟨by omega, by omega⟩)) (vm.o hm) rfl ⟨rfl, rfl⟩ (rm_ok rfl) dX4_move_2) (fun r1 w2 h3 => ?_)
  obtain ⟨e_r1, rfl⟩ := h3
  refine v_eqi (iZ (bz (isPb b (k : Int)))) (e_r1) ?_
  refine z_if_eq 5 20 C (bzr _) dX4_move_5 (by decide) (fun c5_0 => absurd c5_0 (by rw [isPb_y hI hk ht]; decide)) (fun c5_0 => ?_)
  refine v_iload_n 8 2 C dX4_move_8 rfl ?_
  refine z_i2l 9 C (by first | assumption | exact ⟨by omega, by omega⟩) dX4_move_9 ?_
  refine v_lconst 10 C (lZ 0) dX4_move_10 (by decide) ?_
  refine v_ldc2 11 C (15) lk_752 dX4_move_11 ?_
  refine v_eql (lZ 15) (by decide) ?_
  refine v_calli 14 hA (rS 14 C L_RX4_83 lk_604 (m4_in (by first | assumption | exact ⟨by omega, by omega⟩) (by decide) (by decide)) rfl rfl (rm_ok rfl) dX4_move_14) (fun r4 w5 h6 => ?_)
  obtain ⟨e_r4, rfl⟩ := h6
  refine v_eqi (iZ (bz (decide (0 ≤ (j : Int) ∧ (j : Int) ≤ 15)))) (e_r4) ?_
  refine z_if_ne 17 26 C (bzr _) dX4_move_17 (by decide) (fun c17_1 => ?_) (fun c17_1 => absurd c17_1 (by rw [decide_eq_true (show 0 ≤ (j : Int) ∧ (j : Int) ≤ 15 by omega)]; decide))
  refine v_aload_n 26 0 C dX4_move_26 rfl ?_
  refine v_iload_n 27 2 C dX4_move_27 rfl ?_
  refine v_callv 28 hA (rV_Mo 28 C L_RX4_155 lk_617 lk_26 (m4_open (j := j) hm hI hM hE (by omega)) (vm.o hm) rfl ⟨rfl, rfl⟩ (rm_ok rfl) dX4_move_28) (fun w8 h9 => ?_)
  obtain ⟨S1, rfl, F1, O1⟩ := h9
  have M1 := F1.RM hM
  refine v_aload_n 31 0 C dX4_move_31 rfl ?_
  refine v_callv 32 hA (rV_Mo 32 C L_RX4_210 lk_755 lk_44 (m4_keep hm hI M1 hE (show j < 17 by omega) O1) (vm.o hm) rfl ⟨rfl, rfl⟩ (rm_ok rfl) dX4_move_32) (fun w11 h12 => ?_)
  obtain ⟨S2, rfl, F2, L2⟩ := h12
  have M2 := F2.M.RM M1
  refine v_aload_n 35 0 C dX4_move_35 rfl ?_
  refine v_iload_n 36 2 C dX4_move_36 rfl ?_
  refine v_iconst 37 C (iZ 1) dX4_move_37 rfl ?_
  refine z_iadd 38 C dX4_move_38 ?_
  refine v_eqi (iZ ((j + 1 : Nat) : Int)) (rfl) ?_
  refine v_callv 39 hA (rV_Mo 39 C L_RX4_155 lk_617 lk_26 (m4_open (j := j + 1) hm hI M2 hE (by omega)) (vm.o hm) rfl ⟨rfl, rfl⟩ (rm_ok rfl) dX4_move_39) (fun w14 h15 => ?_)
  obtain ⟨S3, rfl, F3, O3⟩ := h15
  obtain ⟨X, Y, LX, LY, v0, v1, ⟨e1, e2, e3, e4, e5, e6⟩, ⟨r1, r2, r3, r4⟩, ⟨h0, h1⟩, hb, hmv⟩ := mov_facts hI hE hk hj (F3.L L2) O3
  rw [if_pos ht] at hmv
  refine v_aload_n 42 0 C dX4_move_42 rfl ?_
  refine v_iload_n 43 1 C dX4_move_43 rfl ?_
  refine v_calll 44 hA (rV_Mo 44 C L_RX4_213 lk_759 lk_45 (m4_moved hm (by omega) e1 e2 e3 e4 e5 e6 r1 r2 r3 r4 h0 h1 hb) (vm.o hm) rfl ⟨rfl, rfl⟩ (rm_ok rfl) dX4_move_44) (fun r16 w17 h18 => ?_)
  obtain ⟨e_r16, rfl⟩ := h18
  refine v_eql (lZ (mvZ v0 v1 LX LY X Y)) (e_r16) ?_
  refine z_l2i 47 C dX4_move_47 ?_
  exact v_iret 48 C (⟨by rw [hmv]; rfl, S3, rfl, F3.RM M2, ((F1.M.tr F2.M).tr F3.M).C⟩) dX4_move_48
