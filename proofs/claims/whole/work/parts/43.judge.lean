/-! PART: how the page judges a trial -/
def TJ (S : St) (kd p_ a q_ b_ c d f : Int) : Prop := gI S 4 5 = iZ kd ∧ gI S 4 6 = iZ p_ ∧ gI S 4 7 = iZ a ∧ gI S 4 8 = iZ q_ ∧ gI S 4 9 = iZ b_ ∧ gI S 4 10 = iZ f ∧ gI S (4 + 13) 4 = iZ c ∧ gI S (4 + 14) 4 = iZ d
set_option maxHeartbeats 4000000 in
set_option maxRecDepth 100000 in
theorem m_judge_nn {l : Launch} {D : va_G} {kc : Nat → ClassId} {N : Nat} {ad : Nat → Nat} {S : St} {b : Bs} (hg : vg N) (hN : N = 66 + 15 * bn b) (hI : Inv b) (hP : RP S b) {z y : Int} (rz : r32 z) (ry : r32 y) (hz : ¬ isL b z) (hy : ¬ isL b y) {kd a b_ cF dF f : Int} (rk : r32 kd) (ra : r32 a) (rb : r32 b_) (rc : r32 cF) (rd : r32 dF) (hT : TJ S kd z a y b_ cF dF f) : MetK l yX3_judgeTrial cX3_judgeTrial 8 (some FieldType.int) 2 0 0 45 D kc (wl kc N ad S) [.ref (ad 0)] (QI D kc (wl kc N ad S) (fun r ws' => r = iZ (-1) ∧ ws' = wl kc N ad S)) := by
  refine MetK.of (by decide +kernel) (Nat.le_of_ble_eq_true rfl) ?_
  intro p e s m below meth c C
  have hA : ∀ q, s.heap.size ≤ q → va_A (wl kc N ad S) s.heap.size q := fun _ h => Or.inr h
  show V p l e { frames := 2, cells := 0, slots := 0, locals := 45 } s m ([.ref (ad 0)] : List Value).toArray below meth c (MQ below (QI D kc (wl kc N ad S) (fun r ws' => r = iZ (-1) ∧ ws' = wl kc N ad S) s.heap.size) ([.ref (ad 0)] : List Value).toArray s 0 0 (va_A (wl kc N ad S) s.heap.size)) D (va_A (wl kc N ad S) s.heap.size) 8 0 0 (wl kc N ad S) 0 [(0, .ref (ad 0))] []
  have hb0 := hI.1
  refine v_aload_n 0 0 C dX3_judgeTrial_0 rfl ?_
  refine v_aload_n 1 0 C dX3_judgeTrial_1 rfl ?_
  refine g_Pg_trial 2 C (vg.o hg).1 (vg.o hg).2 lk_212 dX3_judgeTrial_2 ?_
  refine g_Pt_p 5 C (vp.o (vg.t hg)).1 (vp.o (vg.t hg)).2 lk_135 dX3_judgeTrial_5 ?_
  refine v_eqi (iZ z) (hT.2.1) ?_
  refine v_callq 8 hA (rV_Pg 8 C L_RX3_138 lk_187 lk_1 (m_planeThere_no (z := z) hg hN hI hP rz hz) (vg.o hg) rfl ⟨rfl, rfl⟩ (rm_ok rfl) dX3_judgeTrial_8) (fun r1 w2 h3 => ?_)
  obtain ⟨e_r1, rfl⟩ := h3
  refine v_eqv .null (by rw [e_r1]; rfl) ?_
  refine v_astore_nN 11 [(1, .null), (0, .ref (ad 0))] C dX3_judgeTrial_11 (by decide) rfl ?_
  refine v_aload_n 12 1 C dX3_judgeTrial_12 rfl ?_
  refine v_aload_n 13 1 C dX3_judgeTrial_13 rfl ?_
  refine g_Pg_trial 14 C (vg.o hg).1 (vg.o hg).2 lk_212 dX3_judgeTrial_14 ?_
  refine g_Pt_q 17 C (vp.o (vg.t hg)).1 (vp.o (vg.t hg)).2 lk_139 dX3_judgeTrial_17 ?_
  refine v_eqi (iZ y) (hT.2.2.2.1) ?_
  refine v_callq 20 hA (rV_Pg 20 C L_RX3_138 lk_187 lk_1 (m_planeThere_no (z := y) hg hN hI hP ry hy) (vg.o hg) rfl ⟨rfl, rfl⟩ (rm_ok rfl) dX3_judgeTrial_20) (fun r4 w5 h6 => ?_)
  obtain ⟨e_r4, rfl⟩ := h6
  refine v_eqv .null (by rw [e_r4]; rfl) ?_
  refine v_astore_nN 23 [(2, .null), (1, .null), (0, .ref (ad 0))] C dX3_judgeTrial_23 (by decide) rfl ?_
  refine v_aload_nN 24 1 C dX3_judgeTrial_24 rfl ?_
  refine v_ifnullN 25 49 C dX3_judgeTrial_25 (by decide) ?_
  refine v_iconst 49 C (iZ (-1)) dX3_judgeTrial_49 rfl ?_
  exact v_iret 50 C (⟨rfl, rfl⟩) dX3_judgeTrial_50

set_option maxHeartbeats 4000000 in
set_option maxRecDepth 100000 in
theorem m_judge_ny {l : Launch} {D : va_G} {kc : Nat → ClassId} {N : Nat} {ad : Nat → Nat} {S : St} {b : Bs} (hg : vg N) (hN : N = 66 + 15 * bn b) (hI : Inv b) (hP : RP S b) {z : Int} {q : Nat} (rz : r32 z) (hz : ¬ isL b z) (hq : thL b q) {kd a b_ cF dF f : Int} (rk : r32 kd) (ra : r32 a) (rb : r32 b_) (rc : r32 cF) (rd : r32 dF) (hT : TJ S kd z a (q : Int) b_ cF dF f) : MetK l yX3_judgeTrial cX3_judgeTrial 8 (some FieldType.int) 2 0 0 45 D kc (wl kc N ad S) [.ref (ad 0)] (QI D kc (wl kc N ad S) (fun r ws' => r = iZ (-1) ∧ ws' = wl kc N ad S)) := by
  refine MetK.of (by decide +kernel) (Nat.le_of_ble_eq_true rfl) ?_
  intro p e s m below meth c C
  have hA : ∀ q, s.heap.size ≤ q → va_A (wl kc N ad S) s.heap.size q := fun _ h => Or.inr h
  show V p l e { frames := 2, cells := 0, slots := 0, locals := 45 } s m ([.ref (ad 0)] : List Value).toArray below meth c (MQ below (QI D kc (wl kc N ad S) (fun r ws' => r = iZ (-1) ∧ ws' = wl kc N ad S) s.heap.size) ([.ref (ad 0)] : List Value).toArray s 0 0 (va_A (wl kc N ad S) s.heap.size)) D (va_A (wl kc N ad S) s.heap.size) 8 0 0 (wl kc N ad S) 0 [(0, .ref (ad 0))] []
  have hb0 := hI.1
  refine v_aload_n 0 0 C dX3_judgeTrial_0 rfl ?_
  refine v_aload_n 1 0 C dX3_judgeTrial_1 rfl ?_
  refine g_Pg_trial 2 C (vg.o hg).1 (vg.o hg).2 lk_212 dX3_judgeTrial_2 ?_
  refine g_Pt_p 5 C (vp.o (vg.t hg)).1 (vp.o (vg.t hg)).2 lk_135 dX3_judgeTrial_5 ?_
  refine v_eqi (iZ z) (hT.2.1) ?_
  refine v_callq 8 hA (rV_Pg 8 C L_RX3_138 lk_187 lk_1 (m_planeThere_no (z := z) hg hN hI hP rz hz) (vg.o hg) rfl ⟨rfl, rfl⟩ (rm_ok rfl) dX3_judgeTrial_8) (fun r1 w2 h3 => ?_)
  obtain ⟨e_r1, rfl⟩ := h3
  refine v_eqv .null (by rw [e_r1]; rfl) ?_
  refine v_astore_nN 11 [(1, .null), (0, .ref (ad 0))] C dX3_judgeTrial_11 (by decide) rfl ?_
  refine v_aload_n 12 1 C dX3_judgeTrial_12 rfl ?_
  refine v_aload_n 13 1 C dX3_judgeTrial_13 rfl ?_
  refine g_Pg_trial 14 C (vg.o hg).1 (vg.o hg).2 lk_212 dX3_judgeTrial_14 ?_
  refine g_Pt_q 17 C (vp.o (vg.t hg)).1 (vp.o (vg.t hg)).2 lk_139 dX3_judgeTrial_17 ?_
  refine v_eqi (iZ (q : Int)) (hT.2.2.2.1) ?_
  refine v_callq 20 hA (rV_Pg 20 C L_RX3_138 lk_187 lk_1 (m_planeThere hg hN hI hP hq) (vg.o hg) rfl ⟨rfl, rfl⟩ (rm_ok rfl) dX3_judgeTrial_20) (fun r4 w5 h6 => ?_)
  obtain ⟨e_r4, rfl⟩ := h6
  refine v_eqv (.ref (ad (plN q))) (by rw [e_r4]; rfl) ?_
  refine v_astore_n 23 [(2, .ref (ad (plN q))), (1, .null), (0, .ref (ad 0))] C dX3_judgeTrial_23 (by decide) rfl ?_
  refine v_aload_nN 24 1 C dX3_judgeTrial_24 rfl ?_
  refine v_ifnullN 25 49 C dX3_judgeTrial_25 (by decide) ?_
  refine v_iconst 49 C (iZ (-1)) dX3_judgeTrial_49 rfl ?_
  exact v_iret 50 C (⟨rfl, rfl⟩) dX3_judgeTrial_50

set_option maxHeartbeats 4000000 in
set_option maxRecDepth 100000 in
theorem m_judge_yn {l : Launch} {D : va_G} {kc : Nat → ClassId} {N : Nat} {ad : Nat → Nat} {S : St} {b : Bs} (hg : vg N) (hN : N = 66 + 15 * bn b) (hI : Inv b) (hP : RP S b) {y : Int} {u : Nat} (ry : r32 y) (hu : thL b u) (hy : ¬ isL b y) {kd a b_ cF dF f : Int} (rk : r32 kd) (ra : r32 a) (rb : r32 b_) (rc : r32 cF) (rd : r32 dF) (hT : TJ S kd (u : Int) a y b_ cF dF f) : MetK l yX3_judgeTrial cX3_judgeTrial 8 (some FieldType.int) 2 0 0 45 D kc (wl kc N ad S) [.ref (ad 0)] (QI D kc (wl kc N ad S) (fun r ws' => r = iZ (-1) ∧ ws' = wl kc N ad S)) := by
  refine MetK.of (by decide +kernel) (Nat.le_of_ble_eq_true rfl) ?_
  intro p e s m below meth c C
  have hA : ∀ q, s.heap.size ≤ q → va_A (wl kc N ad S) s.heap.size q := fun _ h => Or.inr h
  show V p l e { frames := 2, cells := 0, slots := 0, locals := 45 } s m ([.ref (ad 0)] : List Value).toArray below meth c (MQ below (QI D kc (wl kc N ad S) (fun r ws' => r = iZ (-1) ∧ ws' = wl kc N ad S) s.heap.size) ([.ref (ad 0)] : List Value).toArray s 0 0 (va_A (wl kc N ad S) s.heap.size)) D (va_A (wl kc N ad S) s.heap.size) 8 0 0 (wl kc N ad S) 0 [(0, .ref (ad 0))] []
  have hb0 := hI.1
  refine v_aload_n 0 0 C dX3_judgeTrial_0 rfl ?_
  refine v_aload_n 1 0 C dX3_judgeTrial_1 rfl ?_
  refine g_Pg_trial 2 C (vg.o hg).1 (vg.o hg).2 lk_212 dX3_judgeTrial_2 ?_
  refine g_Pt_p 5 C (vp.o (vg.t hg)).1 (vp.o (vg.t hg)).2 lk_135 dX3_judgeTrial_5 ?_
  refine v_eqi (iZ (u : Int)) (hT.2.1) ?_
  refine v_callq 8 hA (rV_Pg 8 C L_RX3_138 lk_187 lk_1 (m_planeThere hg hN hI hP hu) (vg.o hg) rfl ⟨rfl, rfl⟩ (rm_ok rfl) dX3_judgeTrial_8) (fun r1 w2 h3 => ?_)
  obtain ⟨e_r1, rfl⟩ := h3
  refine v_eqv (.ref (ad (plN u))) (by rw [e_r1]; rfl) ?_
  refine v_astore_n 11 [(1, .ref (ad (plN u))), (0, .ref (ad 0))] C dX3_judgeTrial_11 (by decide) rfl ?_
  refine v_aload_n 12 1 C dX3_judgeTrial_12 rfl ?_
  refine v_aload_n 13 1 C dX3_judgeTrial_13 rfl ?_
  refine g_Pg_trial 14 C (vg.o hg).1 (vg.o hg).2 lk_212 dX3_judgeTrial_14 ?_
  refine g_Pt_q 17 C (vp.o (vg.t hg)).1 (vp.o (vg.t hg)).2 lk_139 dX3_judgeTrial_17 ?_
  refine v_eqi (iZ y) (hT.2.2.2.1) ?_
  refine v_callq 20 hA (rV_Pg 20 C L_RX3_138 lk_187 lk_1 (m_planeThere_no (z := y) hg hN hI hP ry hy) (vg.o hg) rfl ⟨rfl, rfl⟩ (rm_ok rfl) dX3_judgeTrial_20) (fun r4 w5 h6 => ?_)
  obtain ⟨e_r4, rfl⟩ := h6
  refine v_eqv .null (by rw [e_r4]; rfl) ?_
  refine v_astore_nN 23 [(2, .null), (1, .ref (ad (plN u))), (0, .ref (ad 0))] C dX3_judgeTrial_23 (by decide) rfl ?_
  refine v_aload_n 24 1 C dX3_judgeTrial_24 rfl ?_
  refine v_ifnull 25 C dX3_judgeTrial_25 ?_
  refine v_aload_nN 28 0 C dX3_judgeTrial_28 rfl ?_
  refine v_ifnullN 29 49 C dX3_judgeTrial_29 (by decide) ?_
  refine v_iconst 49 C (iZ (-1)) dX3_judgeTrial_49 rfl ?_
  exact v_iret 50 C (⟨rfl, rfl⟩) dX3_judgeTrial_50

set_option maxHeartbeats 4000000 in
set_option maxRecDepth 100000 in
theorem m_judge_e {l : Launch} {D : va_G} {kc : Nat → ClassId} {N : Nat} {ad : Nat → Nat} {S : St} {b : Bs} (hg : vg N) (hN : N = 66 + 15 * bn b) (hI : Inv b) (hP : RP S b) {u q : Nat} (hu : thL b u) (hq : thL b q) (he : u = q) {kd a b_ cF dF f : Int} (rk : r32 kd) (ra : r32 a) (rb : r32 b_) (rc : r32 cF) (rd : r32 dF) (hT : TJ S kd (u : Int) a (q : Int) b_ cF dF f) : MetK l yX3_judgeTrial cX3_judgeTrial 8 (some FieldType.int) 2 0 0 45 D kc (wl kc N ad S) [.ref (ad 0)] (QI D kc (wl kc N ad S) (fun r ws' => r = iZ (-1) ∧ ws' = wl kc N ad S)) := by
  refine MetK.of (by decide +kernel) (Nat.le_of_ble_eq_true rfl) ?_
  intro p e s m below meth c C
  have hA : ∀ q, s.heap.size ≤ q → va_A (wl kc N ad S) s.heap.size q := fun _ h => Or.inr h
  show V p l e { frames := 2, cells := 0, slots := 0, locals := 45 } s m ([.ref (ad 0)] : List Value).toArray below meth c (MQ below (QI D kc (wl kc N ad S) (fun r ws' => r = iZ (-1) ∧ ws' = wl kc N ad S) s.heap.size) ([.ref (ad 0)] : List Value).toArray s 0 0 (va_A (wl kc N ad S) s.heap.size)) D (va_A (wl kc N ad S) s.heap.size) 8 0 0 (wl kc N ad S) 0 [(0, .ref (ad 0))] []
  have hb0 := hI.1
  have h62u := thL_62 hI hu
  have h62q := thL_62 hI hq
  have hszu := szL_b hI hu
  have hszq := szL_b hI hq
  refine v_aload_n 0 0 C dX3_judgeTrial_0 rfl ?_
  refine v_aload_n 1 0 C dX3_judgeTrial_1 rfl ?_
  refine g_Pg_trial 2 C (vg.o hg).1 (vg.o hg).2 lk_212 dX3_judgeTrial_2 ?_
  refine g_Pt_p 5 C (vp.o (vg.t hg)).1 (vp.o (vg.t hg)).2 lk_135 dX3_judgeTrial_5 ?_
  refine v_eqi (iZ (u : Int)) (hT.2.1) ?_
  refine v_callq 8 hA (rV_Pg 8 C L_RX3_138 lk_187 lk_1 (m_planeThere hg hN hI hP hu) (vg.o hg) rfl ⟨rfl, rfl⟩ (rm_ok rfl) dX3_judgeTrial_8) (fun r1 w2 h3 => ?_)
  obtain ⟨e_r1, rfl⟩ := h3
  refine v_eqv (.ref (ad (plN u))) (by rw [e_r1]; rfl) ?_
  refine v_astore_n 11 [(1, .ref (ad (plN u))), (0, .ref (ad 0))] C dX3_judgeTrial_11 (by decide) rfl ?_
  refine v_aload_n 12 1 C dX3_judgeTrial_12 rfl ?_
  refine v_aload_n 13 1 C dX3_judgeTrial_13 rfl ?_
  refine g_Pg_trial 14 C (vg.o hg).1 (vg.o hg).2 lk_212 dX3_judgeTrial_14 ?_
  refine g_Pt_q 17 C (vp.o (vg.t hg)).1 (vp.o (vg.t hg)).2 lk_139 dX3_judgeTrial_17 ?_
  refine v_eqi (iZ (q : Int)) (hT.2.2.2.1) ?_
  refine v_callq 20 hA (rV_Pg 20 C L_RX3_138 lk_187 lk_1 (m_planeThere hg hN hI hP hq) (vg.o hg) rfl ⟨rfl, rfl⟩ (rm_ok rfl) dX3_judgeTrial_20) (fun r4 w5 h6 => ?_)
  obtain ⟨e_r4, rfl⟩ := h6
  refine v_eqv (.ref (ad (plN q))) (by rw [e_r4]; rfl) ?_
  refine v_astore_n 23 [(2, .ref (ad (plN q))), (1, .ref (ad (plN u))), (0, .ref (ad 0))] C dX3_judgeTrial_23 (by decide) rfl ?_
  refine v_aload_n 24 1 C dX3_judgeTrial_24 rfl ?_
  refine v_ifnull 25 C dX3_judgeTrial_25 ?_
  refine v_aload_n 28 0 C dX3_judgeTrial_28 rfl ?_
  refine v_ifnull 29 C dX3_judgeTrial_29 ?_
  refine v_aload_n 32 2 C dX3_judgeTrial_32 rfl ?_
  refine g_Pg_trial 33 C (vg.o hg).1 (vg.o hg).2 lk_212 dX3_judgeTrial_33 ?_
  refine g_Pt_p 36 C (vp.o (vg.t hg)).1 (vp.o (vg.t hg)).2 lk_135 dX3_judgeTrial_36 ?_
  refine v_eqi (iZ (u : Int)) (hT.2.1) ?_
  refine v_aload_n 39 2 C dX3_judgeTrial_39 rfl ?_
  refine g_Pg_trial 40 C (vg.o hg).1 (vg.o hg).2 lk_212 dX3_judgeTrial_40 ?_
  refine g_Pt_q 43 C (vp.o (vg.t hg)).1 (vp.o (vg.t hg)).2 lk_139 dX3_judgeTrial_43 ?_
  refine v_eqi (iZ (q : Int)) (hT.2.2.2.1) ?_
  refine z_icmp_ne 46 51 C (by first | assumption | exact ⟨by omega, by omega⟩) (by first | assumption | exact ⟨by omega, by omega⟩) dX3_judgeTrial_46 (by decide) (fun c46_0 => absurd c46_0 (by omega)) (fun c46_0 => ?_)
  refine v_iconst 49 C (iZ (-1)) dX3_judgeTrial_49 rfl ?_
  exact v_iret 50 C (⟨rfl, rfl⟩) dX3_judgeTrial_50

set_option maxHeartbeats 4000000 in
set_option maxRecDepth 100000 in
theorem m_judge_2 {l : Launch} {D : va_G} {kc : Nat → ClassId} {N : Nat} {ad : Nat → Nat} {S : St} {b : Bs} (hg : vg N) (hN : N = 66 + 15 * bn b) (hI : Inv b) (hP : RP S b) {u q : Nat} (hu : thL b u) (hq : thL b q) (he : ¬ u = q) {kd a b_ cF dF f : Int} (rk : r32 kd) (ra : r32 a) (rb : r32 b_) (rc : r32 cF) (rd : r32 dF) (hk : kd < 0 ∨ 2 < kd) (hT : TJ S kd (u : Int) a (q : Int) b_ cF dF f) : MetK l yX3_judgeTrial cX3_judgeTrial 8 (some FieldType.int) 2 0 0 45 D kc (wl kc N ad S) [.ref (ad 0)] (QI D kc (wl kc N ad S) (fun r ws' => r = iZ (-2) ∧ ws' = wl kc N ad S)) := by
  refine MetK.of (by decide +kernel) (Nat.le_of_ble_eq_true rfl) ?_
  intro p e s m below meth c C
  have hA : ∀ q, s.heap.size ≤ q → va_A (wl kc N ad S) s.heap.size q := fun _ h => Or.inr h
  show V p l e { frames := 2, cells := 0, slots := 0, locals := 45 } s m ([.ref (ad 0)] : List Value).toArray below meth c (MQ below (QI D kc (wl kc N ad S) (fun r ws' => r = iZ (-2) ∧ ws' = wl kc N ad S) s.heap.size) ([.ref (ad 0)] : List Value).toArray s 0 0 (va_A (wl kc N ad S) s.heap.size)) D (va_A (wl kc N ad S) s.heap.size) 8 0 0 (wl kc N ad S) 0 [(0, .ref (ad 0))] []
  have hb0 := hI.1
  have h62u := thL_62 hI hu
  have h62q := thL_62 hI hq
  have hszu := szL_b hI hu
  have hszq := szL_b hI hq
  refine v_aload_n 0 0 C dX3_judgeTrial_0 rfl ?_
  refine v_aload_n 1 0 C dX3_judgeTrial_1 rfl ?_
  refine g_Pg_trial 2 C (vg.o hg).1 (vg.o hg).2 lk_212 dX3_judgeTrial_2 ?_
  refine g_Pt_p 5 C (vp.o (vg.t hg)).1 (vp.o (vg.t hg)).2 lk_135 dX3_judgeTrial_5 ?_
  refine v_eqi (iZ (u : Int)) (hT.2.1) ?_
  refine v_callq 8 hA (rV_Pg 8 C L_RX3_138 lk_187 lk_1 (m_planeThere hg hN hI hP hu) (vg.o hg) rfl ⟨rfl, rfl⟩ (rm_ok rfl) dX3_judgeTrial_8) (fun r1 w2 h3 => ?_)
  obtain ⟨e_r1, rfl⟩ := h3
  refine v_eqv (.ref (ad (plN u))) (by rw [e_r1]; rfl) ?_
  refine v_astore_n 11 [(1, .ref (ad (plN u))), (0, .ref (ad 0))] C dX3_judgeTrial_11 (by decide) rfl ?_
  refine v_aload_n 12 1 C dX3_judgeTrial_12 rfl ?_
  refine v_aload_n 13 1 C dX3_judgeTrial_13 rfl ?_
  refine g_Pg_trial 14 C (vg.o hg).1 (vg.o hg).2 lk_212 dX3_judgeTrial_14 ?_
  refine g_Pt_q 17 C (vp.o (vg.t hg)).1 (vp.o (vg.t hg)).2 lk_139 dX3_judgeTrial_17 ?_
  refine v_eqi (iZ (q : Int)) (hT.2.2.2.1) ?_
  refine v_callq 20 hA (rV_Pg 20 C L_RX3_138 lk_187 lk_1 (m_planeThere hg hN hI hP hq) (vg.o hg) rfl ⟨rfl, rfl⟩ (rm_ok rfl) dX3_judgeTrial_20) (fun r4 w5 h6 => ?_)
  obtain ⟨e_r4, rfl⟩ := h6
  refine v_eqv (.ref (ad (plN q))) (by rw [e_r4]; rfl) ?_
  refine v_astore_n 23 [(2, .ref (ad (plN q))), (1, .ref (ad (plN u))), (0, .ref (ad 0))] C dX3_judgeTrial_23 (by decide) rfl ?_
  refine v_aload_n 24 1 C dX3_judgeTrial_24 rfl ?_
  refine v_ifnull 25 C dX3_judgeTrial_25 ?_
  refine v_aload_n 28 0 C dX3_judgeTrial_28 rfl ?_
  refine v_ifnull 29 C dX3_judgeTrial_29 ?_
  refine v_aload_n 32 2 C dX3_judgeTrial_32 rfl ?_
  refine g_Pg_trial 33 C (vg.o hg).1 (vg.o hg).2 lk_212 dX3_judgeTrial_33 ?_
  refine g_Pt_p 36 C (vp.o (vg.t hg)).1 (vp.o (vg.t hg)).2 lk_135 dX3_judgeTrial_36 ?_
  refine v_eqi (iZ (u : Int)) (hT.2.1) ?_
  refine v_aload_n 39 2 C dX3_judgeTrial_39 rfl ?_
  refine g_Pg_trial 40 C (vg.o hg).1 (vg.o hg).2 lk_212 dX3_judgeTrial_40 ?_
  refine g_Pt_q 43 C (vp.o (vg.t hg)).1 (vp.o (vg.t hg)).2 lk_139 dX3_judgeTrial_43 ?_
  refine v_eqi (iZ (q : Int)) (hT.2.2.2.1) ?_
  refine z_icmp_ne 46 51 C (by first | assumption | exact ⟨by omega, by omega⟩) (by first | assumption | exact ⟨by omega, by omega⟩) dX3_judgeTrial_46 (by decide) (fun c46_0 => ?_) (fun c46_0 => absurd c46_0 (by omega))
  refine v_aload_n 51 2 C dX3_judgeTrial_51 rfl ?_
  refine g_Pg_trial 52 C (vg.o hg).1 (vg.o hg).2 lk_212 dX3_judgeTrial_52 ?_
  refine g_Pt_kind 55 C (vp.o (vg.t hg)).1 (vp.o (vg.t hg)).2 lk_133 dX3_judgeTrial_55 ?_
  refine v_eqi (iZ kd) (hT.1) ?_
  refine z_if_lt 58 72 C (by first | assumption | exact ⟨by omega, by omega⟩) dX3_judgeTrial_58 (by decide) (fun c58_1 => ?_) (fun c58_1 => ?_)
  · skip
    refine v_bipush 72 C (iZ (-2)) dX3_judgeTrial_72 (by decide) ?_
    exact v_iret 74 C (⟨rfl, rfl⟩) dX3_judgeTrial_74
  · skip
    refine v_aload_n 61 2 C dX3_judgeTrial_61 rfl ?_
    refine g_Pg_trial 62 C (vg.o hg).1 (vg.o hg).2 lk_212 dX3_judgeTrial_62 ?_
    refine g_Pt_kind 65 C (vp.o (vg.t hg)).1 (vp.o (vg.t hg)).2 lk_133 dX3_judgeTrial_65 ?_
    refine v_eqi (iZ kd) (hT.1) ?_
    refine v_iconst 68 C (iZ 2) dX3_judgeTrial_68 rfl ?_
    refine z_icmp_le 69 75 C (by first | assumption | exact ⟨by omega, by omega⟩) (by first | assumption | exact ⟨by omega, by omega⟩) dX3_judgeTrial_69 (by decide) (fun c69_2 => absurd c69_2 (by omega)) (fun c69_2 => ?_)
    refine v_bipush 72 C (iZ (-2)) dX3_judgeTrial_72 (by decide) ?_
    exact v_iret 74 C (⟨rfl, rfl⟩) dX3_judgeTrial_74

set_option maxHeartbeats 4000000 in
set_option maxRecDepth 100000 in
theorem m_judge_4 {l : Launch} {D : va_G} {kc : Nat → ClassId} {N : Nat} {ad : Nat → Nat} {S : St} {b : Bs} (hg : vg N) (hN : N = 66 + 15 * bn b) (hI : Inv b) (hP : RP S b) {u q : Nat} (hu : thL b u) (hq : thL b q) (he : ¬ u = q) {kd a b_ cF dF f : Int} (rk : r32 kd) (ra : r32 a) (rb : r32 b_) (rc : r32 cF) (rd : r32 dF) (hk : 0 ≤ kd ∧ kd ≤ 2) (h4 : ¬ gdP kd a b_ cF dF) (hT : TJ S kd (u : Int) a (q : Int) b_ cF dF f) : MetK l yX3_judgeTrial cX3_judgeTrial 8 (some FieldType.int) 2 0 0 45 D kc (wl kc N ad S) [.ref (ad 0)] (QI D kc (wl kc N ad S) (fun r ws' => r = iZ (-4) ∧ ws' = wl kc N ad S)) := by
  refine MetK.of (by decide +kernel) (Nat.le_of_ble_eq_true rfl) ?_
  intro p e s m below meth c C
  have hA : ∀ q, s.heap.size ≤ q → va_A (wl kc N ad S) s.heap.size q := fun _ h => Or.inr h
  show V p l e { frames := 2, cells := 0, slots := 0, locals := 45 } s m ([.ref (ad 0)] : List Value).toArray below meth c (MQ below (QI D kc (wl kc N ad S) (fun r ws' => r = iZ (-4) ∧ ws' = wl kc N ad S) s.heap.size) ([.ref (ad 0)] : List Value).toArray s 0 0 (va_A (wl kc N ad S) s.heap.size)) D (va_A (wl kc N ad S) s.heap.size) 8 0 0 (wl kc N ad S) 0 [(0, .ref (ad 0))] []
  have hb0 := hI.1
  have h62u := thL_62 hI hu
  have h62q := thL_62 hI hq
  have hszu := szL_b hI hu
  have hszq := szL_b hI hq
  refine v_aload_n 0 0 C dX3_judgeTrial_0 rfl ?_
  refine v_aload_n 1 0 C dX3_judgeTrial_1 rfl ?_
  refine g_Pg_trial 2 C (vg.o hg).1 (vg.o hg).2 lk_212 dX3_judgeTrial_2 ?_
  refine g_Pt_p 5 C (vp.o (vg.t hg)).1 (vp.o (vg.t hg)).2 lk_135 dX3_judgeTrial_5 ?_
  refine v_eqi (iZ (u : Int)) (hT.2.1) ?_
  refine v_callq 8 hA (rV_Pg 8 C L_RX3_138 lk_187 lk_1 (m_planeThere hg hN hI hP hu) (vg.o hg) rfl ⟨rfl, rfl⟩ (rm_ok rfl) dX3_judgeTrial_8) (fun r1 w2 h3 => ?_)
  obtain ⟨e_r1, rfl⟩ := h3
  refine v_eqv (.ref (ad (plN u))) (by rw [e_r1]; rfl) ?_
  refine v_astore_n 11 [(1, .ref (ad (plN u))), (0, .ref (ad 0))] C dX3_judgeTrial_11 (by decide) rfl ?_
  refine v_aload_n 12 1 C dX3_judgeTrial_12 rfl ?_
  refine v_aload_n 13 1 C dX3_judgeTrial_13 rfl ?_
  refine g_Pg_trial 14 C (vg.o hg).1 (vg.o hg).2 lk_212 dX3_judgeTrial_14 ?_
  refine g_Pt_q 17 C (vp.o (vg.t hg)).1 (vp.o (vg.t hg)).2 lk_139 dX3_judgeTrial_17 ?_
  refine v_eqi (iZ (q : Int)) (hT.2.2.2.1) ?_
  refine v_callq 20 hA (rV_Pg 20 C L_RX3_138 lk_187 lk_1 (m_planeThere hg hN hI hP hq) (vg.o hg) rfl ⟨rfl, rfl⟩ (rm_ok rfl) dX3_judgeTrial_20) (fun r4 w5 h6 => ?_)
  obtain ⟨e_r4, rfl⟩ := h6
  refine v_eqv (.ref (ad (plN q))) (by rw [e_r4]; rfl) ?_
  refine v_astore_n 23 [(2, .ref (ad (plN q))), (1, .ref (ad (plN u))), (0, .ref (ad 0))] C dX3_judgeTrial_23 (by decide) rfl ?_
  refine v_aload_n 24 1 C dX3_judgeTrial_24 rfl ?_
  refine v_ifnull 25 C dX3_judgeTrial_25 ?_
  refine v_aload_n 28 0 C dX3_judgeTrial_28 rfl ?_
  refine v_ifnull 29 C dX3_judgeTrial_29 ?_
  refine v_aload_n 32 2 C dX3_judgeTrial_32 rfl ?_
  refine g_Pg_trial 33 C (vg.o hg).1 (vg.o hg).2 lk_212 dX3_judgeTrial_33 ?_
  refine g_Pt_p 36 C (vp.o (vg.t hg)).1 (vp.o (vg.t hg)).2 lk_135 dX3_judgeTrial_36 ?_
  refine v_eqi (iZ (u : Int)) (hT.2.1) ?_
  refine v_aload_n 39 2 C dX3_judgeTrial_39 rfl ?_
  refine g_Pg_trial 40 C (vg.o hg).1 (vg.o hg).2 lk_212 dX3_judgeTrial_40 ?_
  refine g_Pt_q 43 C (vp.o (vg.t hg)).1 (vp.o (vg.t hg)).2 lk_139 dX3_judgeTrial_43 ?_
  refine v_eqi (iZ (q : Int)) (hT.2.2.2.1) ?_
  refine z_icmp_ne 46 51 C (by first | assumption | exact ⟨by omega, by omega⟩) (by first | assumption | exact ⟨by omega, by omega⟩) dX3_judgeTrial_46 (by decide) (fun c46_0 => ?_) (fun c46_0 => absurd c46_0 (by omega))
  refine v_aload_n 51 2 C dX3_judgeTrial_51 rfl ?_
  refine g_Pg_trial 52 C (vg.o hg).1 (vg.o hg).2 lk_212 dX3_judgeTrial_52 ?_
  refine g_Pt_kind 55 C (vp.o (vg.t hg)).1 (vp.o (vg.t hg)).2 lk_133 dX3_judgeTrial_55 ?_
  refine v_eqi (iZ kd) (hT.1) ?_
  refine z_if_lt 58 72 C (by first | assumption | exact ⟨by omega, by omega⟩) dX3_judgeTrial_58 (by decide) (fun c58_1 => absurd c58_1 (by omega)) (fun c58_1 => ?_)
  refine v_aload_n 61 2 C dX3_judgeTrial_61 rfl ?_
  refine g_Pg_trial 62 C (vg.o hg).1 (vg.o hg).2 lk_212 dX3_judgeTrial_62 ?_
  refine g_Pt_kind 65 C (vp.o (vg.t hg)).1 (vp.o (vg.t hg)).2 lk_133 dX3_judgeTrial_65 ?_
  refine v_eqi (iZ kd) (hT.1) ?_
  refine v_iconst 68 C (iZ 2) dX3_judgeTrial_68 rfl ?_
  refine z_icmp_le 69 75 C (by first | assumption | exact ⟨by omega, by omega⟩) (by first | assumption | exact ⟨by omega, by omega⟩) dX3_judgeTrial_69 (by decide) (fun c69_2 => ?_) (fun c69_2 => absurd (by omega) c69_2)
  refine v_aload_n 75 2 C dX3_judgeTrial_75 rfl ?_
  refine g_Pg_trial 76 C (vg.o hg).1 (vg.o hg).2 lk_212 dX3_judgeTrial_76 ?_
  refine g_Pt_kind 79 C (vp.o (vg.t hg)).1 (vp.o (vg.t hg)).2 lk_133 dX3_judgeTrial_79 ?_
  refine v_eqi (iZ kd) (hT.1) ?_
  refine v_iconst 82 C (iZ 1) dX3_judgeTrial_82 rfl ?_
  refine z_icmp_eq 83 90 C (by first | assumption | exact ⟨by omega, by omega⟩) (by first | assumption | exact ⟨by omega, by omega⟩) dX3_judgeTrial_83 (by decide) (fun c83_3 => ?_) (fun c83_3 => ?_)
  · skip
    refine v_iconst 90 C (iZ 0) dX3_judgeTrial_90 rfl ?_
    refine v_istore_n 91 [(3, .int (iZ 0)), (2, .ref (ad (plN q))), (1, .ref (ad (plN u))), (0, .ref (ad 0))] C dX3_judgeTrial_91 (by decide) rfl ?_
    refine v_aload_n 92 3 C dX3_judgeTrial_92 rfl ?_
    refine g_Pg_trial 93 C (vg.o hg).1 (vg.o hg).2 lk_212 dX3_judgeTrial_93 ?_
    refine g_Pt_kind 96 C (vp.o (vg.t hg)).1 (vp.o (vg.t hg)).2 lk_133 dX3_judgeTrial_96 ?_
    refine v_eqi (iZ kd) (hT.1) ?_
    refine z_if_ne 99 106 C (by first | assumption | exact ⟨by omega, by omega⟩) dX3_judgeTrial_99 (by decide) (fun c99_4 => ?_) (fun c99_4 => ?_)
    · skip
      refine v_iconst 106 C (iZ 0) dX3_judgeTrial_106 rfl ?_
      refine v_istore 107 [(4, .int (iZ 0)), (3, .int (iZ 0)), (2, .ref (ad (plN q))), (1, .ref (ad (plN u))), (0, .ref (ad 0))] C dX3_judgeTrial_107 (by decide) rfl ?_
      refine v_aload_n 109 4 C dX3_judgeTrial_109 rfl ?_
      refine g_Pg_trial 110 C (vg.o hg).1 (vg.o hg).2 lk_212 dX3_judgeTrial_110 ?_
      refine g_Pt_flatA 113 C (vp.o (vg.t hg)).1 (vp.o (vg.t hg)).2 lk_129 dX3_judgeTrial_113 ?_
      refine g_Pl_size 116 C (vl.o (vp.fA (vg.t hg))).1 (vl.o (vp.fA (vg.t hg))).2 lk_110 dX3_judgeTrial_116 ?_
      refine v_eqi (iZ cF) (hT.2.2.2.2.2.2.1) ?_
      refine v_istore 119 [(5, .int (iZ cF)), (4, .int (iZ 0)), (3, .int (iZ 0)), (2, .ref (ad (plN q))), (1, .ref (ad (plN u))), (0, .ref (ad 0))] C dX3_judgeTrial_119 (by decide) rfl ?_
      refine v_aload_n 121 5 C dX3_judgeTrial_121 rfl ?_
      refine g_Pg_trial 122 C (vg.o hg).1 (vg.o hg).2 lk_212 dX3_judgeTrial_122 ?_
      refine g_Pt_flatB 125 C (vp.o (vg.t hg)).1 (vp.o (vg.t hg)).2 lk_131 dX3_judgeTrial_125 ?_
      refine g_Pl_size 128 C (vl.o (vp.fB (vg.t hg))).1 (vl.o (vp.fB (vg.t hg))).2 lk_110 dX3_judgeTrial_128 ?_
      refine v_eqi (iZ dF) (hT.2.2.2.2.2.2.2) ?_
      refine v_istore 131 [(6, .int (iZ dF)), (5, .int (iZ cF)), (4, .int (iZ 0)), (3, .int (iZ 0)), (2, .ref (ad (plN q))), (1, .ref (ad (plN u))), (0, .ref (ad 0))] C dX3_judgeTrial_131 (by decide) rfl ?_
      refine v_aload_n 133 6 C dX3_judgeTrial_133 rfl ?_
      refine g_Pg_trial 134 C (vg.o hg).1 (vg.o hg).2 lk_212 dX3_judgeTrial_134 ?_
      refine v_calli 137 hA (rV_Pt 137 C L_RX3_104 lk_275 lk_276 (m_least (vg.t hg) rk hT.1) (vp.o (vg.t hg)) rfl ⟨rfl, rfl⟩ (rm_ok rfl) dX3_judgeTrial_137) (fun r7 w8 h9 => ?_)
      obtain ⟨e_r7, rfl⟩ := h9
      refine v_eqi (iZ (if kd = 1 then 1 else 0)) (e_r7) ?_
      refine z_topi (fun ls e_ls => ?_)
      have hls : (kd = 1 → ls = 1) ∧ (¬ kd = 1 → ls = 0) := by
        rw [e_ls]
        constructor <;> intro z
        · rw [if_pos z]
        · rw [if_neg z]
      have hls2 : 0 ≤ ls ∧ ls ≤ 1 := by omega
      refine v_istore 140 [(7, .int (iZ ls)), (6, .int (iZ dF)), (5, .int (iZ cF)), (4, .int (iZ 0)), (3, .int (iZ 0)), (2, .ref (ad (plN q))), (1, .ref (ad (plN u))), (0, .ref (ad 0))] C dX3_judgeTrial_140 (by decide) rfl ?_
      refine v_aload_n 142 7 C dX3_judgeTrial_142 rfl ?_
      refine g_Pg_trial 143 C (vg.o hg).1 (vg.o hg).2 lk_212 dX3_judgeTrial_143 ?_
      refine g_Pt_a 146 C (vp.o (vg.t hg)).1 (vp.o (vg.t hg)).2 lk_137 dX3_judgeTrial_146 ?_
      refine v_eqi (iZ a) (hT.2.2.1) ?_
      refine v_iload 149 0 C dX3_judgeTrial_149 rfl ?_
      refine z_icmp_lt 151 187 C (by first | assumption | exact ⟨by omega, by omega⟩) (by first | assumption | exact ⟨by omega, by omega⟩) dX3_judgeTrial_151 (by decide) (fun c151_5 => ?_) (fun c151_5 => ?_)
      · skip
        refine v_bipush 187 C (iZ (-4)) dX3_judgeTrial_187 (by decide) ?_
        exact v_iret 189 C (⟨rfl, rfl⟩) dX3_judgeTrial_189
      · skip
        refine v_aload_n 154 7 C dX3_judgeTrial_154 rfl ?_
        refine g_Pg_trial 155 C (vg.o hg).1 (vg.o hg).2 lk_212 dX3_judgeTrial_155 ?_
        refine g_Pt_b 158 C (vp.o (vg.t hg)).1 (vp.o (vg.t hg)).2 lk_141 dX3_judgeTrial_158 ?_
        refine v_eqi (iZ b_) (hT.2.2.2.2.1) ?_
        refine v_iload 161 0 C dX3_judgeTrial_161 rfl ?_
        refine z_icmp_lt 163 187 C (by first | assumption | exact ⟨by omega, by omega⟩) (by first | assumption | exact ⟨by omega, by omega⟩) dX3_judgeTrial_163 (by decide) (fun c163_6 => ?_) (fun c163_6 => ?_)
        · skip
          refine v_bipush 187 C (iZ (-4)) dX3_judgeTrial_187 (by decide) ?_
          exact v_iret 189 C (⟨rfl, rfl⟩) dX3_judgeTrial_189
        · skip
          refine v_iload_n 166 4 C dX3_judgeTrial_166 rfl ?_
          refine z_if_eq 167 176 C (by first | assumption | exact ⟨by omega, by omega⟩) dX3_judgeTrial_167 (by decide) (fun c167_7 => ?_) (fun c167_7 => ?_)
          · skip
            refine v_iload 176 3 C dX3_judgeTrial_176 rfl ?_
            refine z_if_eq 178 190 C (by first | assumption | exact ⟨by omega, by omega⟩) dX3_judgeTrial_178 (by decide) (fun c178_8 => ?_) (fun c178_8 => ?_)
            · skip
              exact absurd (show gdP kd a b_ cF dF from ⟨by omega, by omega, fun _ => by omega, fun _ => by omega, fun _ => by omega⟩) h4
            · skip
              refine v_iload 181 1 C dX3_judgeTrial_181 rfl ?_
              refine v_iconst 183 C (iZ 1) dX3_judgeTrial_183 rfl ?_
              refine z_icmp_ge 184 190 C (by first | assumption | exact ⟨by omega, by omega⟩) (by first | assumption | exact ⟨by omega, by omega⟩) dX3_judgeTrial_184 (by decide) (fun c184_9 => ?_) (fun c184_9 => ?_)
              · skip
                exact absurd (show gdP kd a b_ cF dF from ⟨by omega, by omega, fun _ => by omega, fun _ => by omega, fun _ => by omega⟩) h4
              · skip
                refine v_bipush 187 C (iZ (-4)) dX3_judgeTrial_187 (by decide) ?_
                exact v_iret 189 C (⟨rfl, rfl⟩) dX3_judgeTrial_189
          · skip
            refine v_iload 170 2 C dX3_judgeTrial_170 rfl ?_
            refine v_iconst 172 C (iZ 1) dX3_judgeTrial_172 rfl ?_
            refine z_icmp_lt 173 187 C (by first | assumption | exact ⟨by omega, by omega⟩) (by first | assumption | exact ⟨by omega, by omega⟩) dX3_judgeTrial_173 (by decide) (fun c173_8 => ?_) (fun c173_8 => ?_)
            · skip
              refine v_bipush 187 C (iZ (-4)) dX3_judgeTrial_187 (by decide) ?_
              exact v_iret 189 C (⟨rfl, rfl⟩) dX3_judgeTrial_189
            · skip
              refine v_iload 176 3 C dX3_judgeTrial_176 rfl ?_
              refine z_if_eq 178 190 C (by first | assumption | exact ⟨by omega, by omega⟩) dX3_judgeTrial_178 (by decide) (fun c178_9 => ?_) (fun c178_9 => ?_)
              · skip
                exact absurd (show gdP kd a b_ cF dF from ⟨by omega, by omega, fun _ => by omega, fun _ => by omega, fun _ => by omega⟩) h4
              · skip
                refine v_iload 181 1 C dX3_judgeTrial_181 rfl ?_
                refine v_iconst 183 C (iZ 1) dX3_judgeTrial_183 rfl ?_
                refine z_icmp_ge 184 190 C (by first | assumption | exact ⟨by omega, by omega⟩) (by first | assumption | exact ⟨by omega, by omega⟩) dX3_judgeTrial_184 (by decide) (fun c184_10 => ?_) (fun c184_10 => ?_)
                · skip
                  exact absurd (show gdP kd a b_ cF dF from ⟨by omega, by omega, fun _ => by omega, fun _ => by omega, fun _ => by omega⟩) h4
                · skip
                  refine v_bipush 187 C (iZ (-4)) dX3_judgeTrial_187 (by decide) ?_
                  exact v_iret 189 C (⟨rfl, rfl⟩) dX3_judgeTrial_189
    · skip
      refine v_iconst 102 C (iZ 1) dX3_judgeTrial_102 rfl ?_
      refine v_goto 103 107 C dX3_judgeTrial_103 (by decide) ?_
      refine v_istore 107 [(4, .int (iZ 1)), (3, .int (iZ 0)), (2, .ref (ad (plN q))), (1, .ref (ad (plN u))), (0, .ref (ad 0))] C dX3_judgeTrial_107 (by decide) rfl ?_
      refine v_aload_n 109 4 C dX3_judgeTrial_109 rfl ?_
      refine g_Pg_trial 110 C (vg.o hg).1 (vg.o hg).2 lk_212 dX3_judgeTrial_110 ?_
      refine g_Pt_flatA 113 C (vp.o (vg.t hg)).1 (vp.o (vg.t hg)).2 lk_129 dX3_judgeTrial_113 ?_
      refine g_Pl_size 116 C (vl.o (vp.fA (vg.t hg))).1 (vl.o (vp.fA (vg.t hg))).2 lk_110 dX3_judgeTrial_116 ?_
      refine v_eqi (iZ cF) (hT.2.2.2.2.2.2.1) ?_
      refine v_istore 119 [(5, .int (iZ cF)), (4, .int (iZ 1)), (3, .int (iZ 0)), (2, .ref (ad (plN q))), (1, .ref (ad (plN u))), (0, .ref (ad 0))] C dX3_judgeTrial_119 (by decide) rfl ?_
      refine v_aload_n 121 5 C dX3_judgeTrial_121 rfl ?_
      refine g_Pg_trial 122 C (vg.o hg).1 (vg.o hg).2 lk_212 dX3_judgeTrial_122 ?_
      refine g_Pt_flatB 125 C (vp.o (vg.t hg)).1 (vp.o (vg.t hg)).2 lk_131 dX3_judgeTrial_125 ?_
      refine g_Pl_size 128 C (vl.o (vp.fB (vg.t hg))).1 (vl.o (vp.fB (vg.t hg))).2 lk_110 dX3_judgeTrial_128 ?_
      refine v_eqi (iZ dF) (hT.2.2.2.2.2.2.2) ?_
      refine v_istore 131 [(6, .int (iZ dF)), (5, .int (iZ cF)), (4, .int (iZ 1)), (3, .int (iZ 0)), (2, .ref (ad (plN q))), (1, .ref (ad (plN u))), (0, .ref (ad 0))] C dX3_judgeTrial_131 (by decide) rfl ?_
      refine v_aload_n 133 6 C dX3_judgeTrial_133 rfl ?_
      refine g_Pg_trial 134 C (vg.o hg).1 (vg.o hg).2 lk_212 dX3_judgeTrial_134 ?_
      refine v_calli 137 hA (rV_Pt 137 C L_RX3_104 lk_275 lk_276 (m_least (vg.t hg) rk hT.1) (vp.o (vg.t hg)) rfl ⟨rfl, rfl⟩ (rm_ok rfl) dX3_judgeTrial_137) (fun r10 w11 h12 => ?_)
      obtain ⟨e_r10, rfl⟩ := h12
      refine v_eqi (iZ (if kd = 1 then 1 else 0)) (e_r10) ?_
      refine z_topi (fun ls e_ls => ?_)
      have hls : (kd = 1 → ls = 1) ∧ (¬ kd = 1 → ls = 0) := by
        rw [e_ls]
        constructor <;> intro z
        · rw [if_pos z]
        · rw [if_neg z]
      have hls2 : 0 ≤ ls ∧ ls ≤ 1 := by omega
      refine v_istore 140 [(7, .int (iZ ls)), (6, .int (iZ dF)), (5, .int (iZ cF)), (4, .int (iZ 1)), (3, .int (iZ 0)), (2, .ref (ad (plN q))), (1, .ref (ad (plN u))), (0, .ref (ad 0))] C dX3_judgeTrial_140 (by decide) rfl ?_
      refine v_aload_n 142 7 C dX3_judgeTrial_142 rfl ?_
      refine g_Pg_trial 143 C (vg.o hg).1 (vg.o hg).2 lk_212 dX3_judgeTrial_143 ?_
      refine g_Pt_a 146 C (vp.o (vg.t hg)).1 (vp.o (vg.t hg)).2 lk_137 dX3_judgeTrial_146 ?_
      refine v_eqi (iZ a) (hT.2.2.1) ?_
      refine v_iload 149 0 C dX3_judgeTrial_149 rfl ?_
      refine z_icmp_lt 151 187 C (by first | assumption | exact ⟨by omega, by omega⟩) (by first | assumption | exact ⟨by omega, by omega⟩) dX3_judgeTrial_151 (by decide) (fun c151_5 => ?_) (fun c151_5 => ?_)
      · skip
        refine v_bipush 187 C (iZ (-4)) dX3_judgeTrial_187 (by decide) ?_
        exact v_iret 189 C (⟨rfl, rfl⟩) dX3_judgeTrial_189
      · skip
        refine v_aload_n 154 7 C dX3_judgeTrial_154 rfl ?_
        refine g_Pg_trial 155 C (vg.o hg).1 (vg.o hg).2 lk_212 dX3_judgeTrial_155 ?_
        refine g_Pt_b 158 C (vp.o (vg.t hg)).1 (vp.o (vg.t hg)).2 lk_141 dX3_judgeTrial_158 ?_
        refine v_eqi (iZ b_) (hT.2.2.2.2.1) ?_
        refine v_iload 161 0 C dX3_judgeTrial_161 rfl ?_
        refine z_icmp_lt 163 187 C (by first | assumption | exact ⟨by omega, by omega⟩) (by first | assumption | exact ⟨by omega, by omega⟩) dX3_judgeTrial_163 (by decide) (fun c163_6 => ?_) (fun c163_6 => ?_)
        · skip
          refine v_bipush 187 C (iZ (-4)) dX3_judgeTrial_187 (by decide) ?_
          exact v_iret 189 C (⟨rfl, rfl⟩) dX3_judgeTrial_189
        · skip
          refine v_iload_n 166 4 C dX3_judgeTrial_166 rfl ?_
          refine z_if_eq 167 176 C (by first | assumption | exact ⟨by omega, by omega⟩) dX3_judgeTrial_167 (by decide) (fun c167_7 => ?_) (fun c167_7 => ?_)
          · skip
            refine v_iload 176 3 C dX3_judgeTrial_176 rfl ?_
            refine z_if_eq 178 190 C (by first | assumption | exact ⟨by omega, by omega⟩) dX3_judgeTrial_178 (by decide) (fun c178_8 => ?_) (fun c178_8 => ?_)
            · skip
              exact absurd (show gdP kd a b_ cF dF from ⟨by omega, by omega, fun _ => by omega, fun _ => by omega, fun _ => by omega⟩) h4
            · skip
              refine v_iload 181 1 C dX3_judgeTrial_181 rfl ?_
              refine v_iconst 183 C (iZ 1) dX3_judgeTrial_183 rfl ?_
              refine z_icmp_ge 184 190 C (by first | assumption | exact ⟨by omega, by omega⟩) (by first | assumption | exact ⟨by omega, by omega⟩) dX3_judgeTrial_184 (by decide) (fun c184_9 => ?_) (fun c184_9 => ?_)
              · skip
                exact absurd (show gdP kd a b_ cF dF from ⟨by omega, by omega, fun _ => by omega, fun _ => by omega, fun _ => by omega⟩) h4
              · skip
                refine v_bipush 187 C (iZ (-4)) dX3_judgeTrial_187 (by decide) ?_
                exact v_iret 189 C (⟨rfl, rfl⟩) dX3_judgeTrial_189
          · skip
            refine v_iload 170 2 C dX3_judgeTrial_170 rfl ?_
            refine v_iconst 172 C (iZ 1) dX3_judgeTrial_172 rfl ?_
            refine z_icmp_lt 173 187 C (by first | assumption | exact ⟨by omega, by omega⟩) (by first | assumption | exact ⟨by omega, by omega⟩) dX3_judgeTrial_173 (by decide) (fun c173_8 => ?_) (fun c173_8 => ?_)
            · skip
              refine v_bipush 187 C (iZ (-4)) dX3_judgeTrial_187 (by decide) ?_
              exact v_iret 189 C (⟨rfl, rfl⟩) dX3_judgeTrial_189
            · skip
              refine v_iload 176 3 C dX3_judgeTrial_176 rfl ?_
              refine z_if_eq 178 190 C (by first | assumption | exact ⟨by omega, by omega⟩) dX3_judgeTrial_178 (by decide) (fun c178_9 => ?_) (fun c178_9 => ?_)
              · skip
                exact absurd (show gdP kd a b_ cF dF from ⟨by omega, by omega, fun _ => by omega, fun _ => by omega, fun _ => by omega⟩) h4
              · skip
                refine v_iload 181 1 C dX3_judgeTrial_181 rfl ?_
                refine v_iconst 183 C (iZ 1) dX3_judgeTrial_183 rfl ?_
                refine z_icmp_ge 184 190 C (by first | assumption | exact ⟨by omega, by omega⟩) (by first | assumption | exact ⟨by omega, by omega⟩) dX3_judgeTrial_184 (by decide) (fun c184_10 => ?_) (fun c184_10 => ?_)
                · skip
                  exact absurd (show gdP kd a b_ cF dF from ⟨by omega, by omega, fun _ => by omega, fun _ => by omega, fun _ => by omega⟩) h4
                · skip
                  refine v_bipush 187 C (iZ (-4)) dX3_judgeTrial_187 (by decide) ?_
                  exact v_iret 189 C (⟨rfl, rfl⟩) dX3_judgeTrial_189
  · skip
    refine v_iconst 86 C (iZ 1) dX3_judgeTrial_86 rfl ?_
    refine v_goto 87 91 C dX3_judgeTrial_87 (by decide) ?_
    refine v_istore_n 91 [(3, .int (iZ 1)), (2, .ref (ad (plN q))), (1, .ref (ad (plN u))), (0, .ref (ad 0))] C dX3_judgeTrial_91 (by decide) rfl ?_
    refine v_aload_n 92 3 C dX3_judgeTrial_92 rfl ?_
    refine g_Pg_trial 93 C (vg.o hg).1 (vg.o hg).2 lk_212 dX3_judgeTrial_93 ?_
    refine g_Pt_kind 96 C (vp.o (vg.t hg)).1 (vp.o (vg.t hg)).2 lk_133 dX3_judgeTrial_96 ?_
    refine v_eqi (iZ kd) (hT.1) ?_
    refine z_if_ne 99 106 C (by first | assumption | exact ⟨by omega, by omega⟩) dX3_judgeTrial_99 (by decide) (fun c99_4 => ?_) (fun c99_4 => ?_)
    · skip
      refine v_iconst 106 C (iZ 0) dX3_judgeTrial_106 rfl ?_
      refine v_istore 107 [(4, .int (iZ 0)), (3, .int (iZ 1)), (2, .ref (ad (plN q))), (1, .ref (ad (plN u))), (0, .ref (ad 0))] C dX3_judgeTrial_107 (by decide) rfl ?_
      refine v_aload_n 109 4 C dX3_judgeTrial_109 rfl ?_
      refine g_Pg_trial 110 C (vg.o hg).1 (vg.o hg).2 lk_212 dX3_judgeTrial_110 ?_
      refine g_Pt_flatA 113 C (vp.o (vg.t hg)).1 (vp.o (vg.t hg)).2 lk_129 dX3_judgeTrial_113 ?_
      refine g_Pl_size 116 C (vl.o (vp.fA (vg.t hg))).1 (vl.o (vp.fA (vg.t hg))).2 lk_110 dX3_judgeTrial_116 ?_
      refine v_eqi (iZ cF) (hT.2.2.2.2.2.2.1) ?_
      refine v_istore 119 [(5, .int (iZ cF)), (4, .int (iZ 0)), (3, .int (iZ 1)), (2, .ref (ad (plN q))), (1, .ref (ad (plN u))), (0, .ref (ad 0))] C dX3_judgeTrial_119 (by decide) rfl ?_
      refine v_aload_n 121 5 C dX3_judgeTrial_121 rfl ?_
      refine g_Pg_trial 122 C (vg.o hg).1 (vg.o hg).2 lk_212 dX3_judgeTrial_122 ?_
      refine g_Pt_flatB 125 C (vp.o (vg.t hg)).1 (vp.o (vg.t hg)).2 lk_131 dX3_judgeTrial_125 ?_
      refine g_Pl_size 128 C (vl.o (vp.fB (vg.t hg))).1 (vl.o (vp.fB (vg.t hg))).2 lk_110 dX3_judgeTrial_128 ?_
      refine v_eqi (iZ dF) (hT.2.2.2.2.2.2.2) ?_
      refine v_istore 131 [(6, .int (iZ dF)), (5, .int (iZ cF)), (4, .int (iZ 0)), (3, .int (iZ 1)), (2, .ref (ad (plN q))), (1, .ref (ad (plN u))), (0, .ref (ad 0))] C dX3_judgeTrial_131 (by decide) rfl ?_
      refine v_aload_n 133 6 C dX3_judgeTrial_133 rfl ?_
      refine g_Pg_trial 134 C (vg.o hg).1 (vg.o hg).2 lk_212 dX3_judgeTrial_134 ?_
      refine v_calli 137 hA (rV_Pt 137 C L_RX3_104 lk_275 lk_276 (m_least (vg.t hg) rk hT.1) (vp.o (vg.t hg)) rfl ⟨rfl, rfl⟩ (rm_ok rfl) dX3_judgeTrial_137) (fun r13 w14 h15 => ?_)
      obtain ⟨e_r13, rfl⟩ := h15
      refine v_eqi (iZ (if kd = 1 then 1 else 0)) (e_r13) ?_
      refine z_topi (fun ls e_ls => ?_)
      have hls : (kd = 1 → ls = 1) ∧ (¬ kd = 1 → ls = 0) := by
        rw [e_ls]
        constructor <;> intro z
        · rw [if_pos z]
        · rw [if_neg z]
      have hls2 : 0 ≤ ls ∧ ls ≤ 1 := by omega
      refine v_istore 140 [(7, .int (iZ ls)), (6, .int (iZ dF)), (5, .int (iZ cF)), (4, .int (iZ 0)), (3, .int (iZ 1)), (2, .ref (ad (plN q))), (1, .ref (ad (plN u))), (0, .ref (ad 0))] C dX3_judgeTrial_140 (by decide) rfl ?_
      refine v_aload_n 142 7 C dX3_judgeTrial_142 rfl ?_
      refine g_Pg_trial 143 C (vg.o hg).1 (vg.o hg).2 lk_212 dX3_judgeTrial_143 ?_
      refine g_Pt_a 146 C (vp.o (vg.t hg)).1 (vp.o (vg.t hg)).2 lk_137 dX3_judgeTrial_146 ?_
      refine v_eqi (iZ a) (hT.2.2.1) ?_
      refine v_iload 149 0 C dX3_judgeTrial_149 rfl ?_
      refine z_icmp_lt 151 187 C (by first | assumption | exact ⟨by omega, by omega⟩) (by first | assumption | exact ⟨by omega, by omega⟩) dX3_judgeTrial_151 (by decide) (fun c151_5 => ?_) (fun c151_5 => ?_)
      · skip
        refine v_bipush 187 C (iZ (-4)) dX3_judgeTrial_187 (by decide) ?_
        exact v_iret 189 C (⟨rfl, rfl⟩) dX3_judgeTrial_189
      · skip
        refine v_aload_n 154 7 C dX3_judgeTrial_154 rfl ?_
        refine g_Pg_trial 155 C (vg.o hg).1 (vg.o hg).2 lk_212 dX3_judgeTrial_155 ?_
        refine g_Pt_b 158 C (vp.o (vg.t hg)).1 (vp.o (vg.t hg)).2 lk_141 dX3_judgeTrial_158 ?_
        refine v_eqi (iZ b_) (hT.2.2.2.2.1) ?_
        refine v_iload 161 0 C dX3_judgeTrial_161 rfl ?_
        refine z_icmp_lt 163 187 C (by first | assumption | exact ⟨by omega, by omega⟩) (by first | assumption | exact ⟨by omega, by omega⟩) dX3_judgeTrial_163 (by decide) (fun c163_6 => ?_) (fun c163_6 => ?_)
        · skip
          refine v_bipush 187 C (iZ (-4)) dX3_judgeTrial_187 (by decide) ?_
          exact v_iret 189 C (⟨rfl, rfl⟩) dX3_judgeTrial_189
        · skip
          refine v_iload_n 166 4 C dX3_judgeTrial_166 rfl ?_
          refine z_if_eq 167 176 C (by first | assumption | exact ⟨by omega, by omega⟩) dX3_judgeTrial_167 (by decide) (fun c167_7 => ?_) (fun c167_7 => ?_)
          · skip
            refine v_iload 176 3 C dX3_judgeTrial_176 rfl ?_
            refine z_if_eq 178 190 C (by first | assumption | exact ⟨by omega, by omega⟩) dX3_judgeTrial_178 (by decide) (fun c178_8 => ?_) (fun c178_8 => ?_)
            · skip
              exact absurd (show gdP kd a b_ cF dF from ⟨by omega, by omega, fun _ => by omega, fun _ => by omega, fun _ => by omega⟩) h4
            · skip
              refine v_iload 181 1 C dX3_judgeTrial_181 rfl ?_
              refine v_iconst 183 C (iZ 1) dX3_judgeTrial_183 rfl ?_
              refine z_icmp_ge 184 190 C (by first | assumption | exact ⟨by omega, by omega⟩) (by first | assumption | exact ⟨by omega, by omega⟩) dX3_judgeTrial_184 (by decide) (fun c184_9 => ?_) (fun c184_9 => ?_)
              · skip
                exact absurd (show gdP kd a b_ cF dF from ⟨by omega, by omega, fun _ => by omega, fun _ => by omega, fun _ => by omega⟩) h4
              · skip
                refine v_bipush 187 C (iZ (-4)) dX3_judgeTrial_187 (by decide) ?_
                exact v_iret 189 C (⟨rfl, rfl⟩) dX3_judgeTrial_189
          · skip
            refine v_iload 170 2 C dX3_judgeTrial_170 rfl ?_
            refine v_iconst 172 C (iZ 1) dX3_judgeTrial_172 rfl ?_
            refine z_icmp_lt 173 187 C (by first | assumption | exact ⟨by omega, by omega⟩) (by first | assumption | exact ⟨by omega, by omega⟩) dX3_judgeTrial_173 (by decide) (fun c173_8 => ?_) (fun c173_8 => ?_)
            · skip
              refine v_bipush 187 C (iZ (-4)) dX3_judgeTrial_187 (by decide) ?_
              exact v_iret 189 C (⟨rfl, rfl⟩) dX3_judgeTrial_189
            · skip
              refine v_iload 176 3 C dX3_judgeTrial_176 rfl ?_
              refine z_if_eq 178 190 C (by first | assumption | exact ⟨by omega, by omega⟩) dX3_judgeTrial_178 (by decide) (fun c178_9 => ?_) (fun c178_9 => ?_)
              · skip
                exact absurd (show gdP kd a b_ cF dF from ⟨by omega, by omega, fun _ => by omega, fun _ => by omega, fun _ => by omega⟩) h4
              · skip
                refine v_iload 181 1 C dX3_judgeTrial_181 rfl ?_
                refine v_iconst 183 C (iZ 1) dX3_judgeTrial_183 rfl ?_
                refine z_icmp_ge 184 190 C (by first | assumption | exact ⟨by omega, by omega⟩) (by first | assumption | exact ⟨by omega, by omega⟩) dX3_judgeTrial_184 (by decide) (fun c184_10 => ?_) (fun c184_10 => ?_)
                · skip
                  exact absurd (show gdP kd a b_ cF dF from ⟨by omega, by omega, fun _ => by omega, fun _ => by omega, fun _ => by omega⟩) h4
                · skip
                  refine v_bipush 187 C (iZ (-4)) dX3_judgeTrial_187 (by decide) ?_
                  exact v_iret 189 C (⟨rfl, rfl⟩) dX3_judgeTrial_189
    · skip
      refine v_iconst 102 C (iZ 1) dX3_judgeTrial_102 rfl ?_
      refine v_goto 103 107 C dX3_judgeTrial_103 (by decide) ?_
      refine v_istore 107 [(4, .int (iZ 1)), (3, .int (iZ 1)), (2, .ref (ad (plN q))), (1, .ref (ad (plN u))), (0, .ref (ad 0))] C dX3_judgeTrial_107 (by decide) rfl ?_
      refine v_aload_n 109 4 C dX3_judgeTrial_109 rfl ?_
      refine g_Pg_trial 110 C (vg.o hg).1 (vg.o hg).2 lk_212 dX3_judgeTrial_110 ?_
      refine g_Pt_flatA 113 C (vp.o (vg.t hg)).1 (vp.o (vg.t hg)).2 lk_129 dX3_judgeTrial_113 ?_
      refine g_Pl_size 116 C (vl.o (vp.fA (vg.t hg))).1 (vl.o (vp.fA (vg.t hg))).2 lk_110 dX3_judgeTrial_116 ?_
      refine v_eqi (iZ cF) (hT.2.2.2.2.2.2.1) ?_
      refine v_istore 119 [(5, .int (iZ cF)), (4, .int (iZ 1)), (3, .int (iZ 1)), (2, .ref (ad (plN q))), (1, .ref (ad (plN u))), (0, .ref (ad 0))] C dX3_judgeTrial_119 (by decide) rfl ?_
      refine v_aload_n 121 5 C dX3_judgeTrial_121 rfl ?_
      refine g_Pg_trial 122 C (vg.o hg).1 (vg.o hg).2 lk_212 dX3_judgeTrial_122 ?_
      refine g_Pt_flatB 125 C (vp.o (vg.t hg)).1 (vp.o (vg.t hg)).2 lk_131 dX3_judgeTrial_125 ?_
      refine g_Pl_size 128 C (vl.o (vp.fB (vg.t hg))).1 (vl.o (vp.fB (vg.t hg))).2 lk_110 dX3_judgeTrial_128 ?_
      refine v_eqi (iZ dF) (hT.2.2.2.2.2.2.2) ?_
      refine v_istore 131 [(6, .int (iZ dF)), (5, .int (iZ cF)), (4, .int (iZ 1)), (3, .int (iZ 1)), (2, .ref (ad (plN q))), (1, .ref (ad (plN u))), (0, .ref (ad 0))] C dX3_judgeTrial_131 (by decide) rfl ?_
      refine v_aload_n 133 6 C dX3_judgeTrial_133 rfl ?_
      refine g_Pg_trial 134 C (vg.o hg).1 (vg.o hg).2 lk_212 dX3_judgeTrial_134 ?_
      refine v_calli 137 hA (rV_Pt 137 C L_RX3_104 lk_275 lk_276 (m_least (vg.t hg) rk hT.1) (vp.o (vg.t hg)) rfl ⟨rfl, rfl⟩ (rm_ok rfl) dX3_judgeTrial_137) (fun r16 w17 h18 => ?_)
      obtain ⟨e_r16, rfl⟩ := h18
      refine v_eqi (iZ (if kd = 1 then 1 else 0)) (e_r16) ?_
      refine z_topi (fun ls e_ls => ?_)
      have hls : (kd = 1 → ls = 1) ∧ (¬ kd = 1 → ls = 0) := by
        rw [e_ls]
        constructor <;> intro z
        · rw [if_pos z]
        · rw [if_neg z]
      have hls2 : 0 ≤ ls ∧ ls ≤ 1 := by omega
      refine v_istore 140 [(7, .int (iZ ls)), (6, .int (iZ dF)), (5, .int (iZ cF)), (4, .int (iZ 1)), (3, .int (iZ 1)), (2, .ref (ad (plN q))), (1, .ref (ad (plN u))), (0, .ref (ad 0))] C dX3_judgeTrial_140 (by decide) rfl ?_
      refine v_aload_n 142 7 C dX3_judgeTrial_142 rfl ?_
      refine g_Pg_trial 143 C (vg.o hg).1 (vg.o hg).2 lk_212 dX3_judgeTrial_143 ?_
      refine g_Pt_a 146 C (vp.o (vg.t hg)).1 (vp.o (vg.t hg)).2 lk_137 dX3_judgeTrial_146 ?_
      refine v_eqi (iZ a) (hT.2.2.1) ?_
      refine v_iload 149 0 C dX3_judgeTrial_149 rfl ?_
      refine z_icmp_lt 151 187 C (by first | assumption | exact ⟨by omega, by omega⟩) (by first | assumption | exact ⟨by omega, by omega⟩) dX3_judgeTrial_151 (by decide) (fun c151_5 => ?_) (fun c151_5 => ?_)
      · skip
        refine v_bipush 187 C (iZ (-4)) dX3_judgeTrial_187 (by decide) ?_
        exact v_iret 189 C (⟨rfl, rfl⟩) dX3_judgeTrial_189
      · skip
        refine v_aload_n 154 7 C dX3_judgeTrial_154 rfl ?_
        refine g_Pg_trial 155 C (vg.o hg).1 (vg.o hg).2 lk_212 dX3_judgeTrial_155 ?_
        refine g_Pt_b 158 C (vp.o (vg.t hg)).1 (vp.o (vg.t hg)).2 lk_141 dX3_judgeTrial_158 ?_
        refine v_eqi (iZ b_) (hT.2.2.2.2.1) ?_
        refine v_iload 161 0 C dX3_judgeTrial_161 rfl ?_
        refine z_icmp_lt 163 187 C (by first | assumption | exact ⟨by omega, by omega⟩) (by first | assumption | exact ⟨by omega, by omega⟩) dX3_judgeTrial_163 (by decide) (fun c163_6 => ?_) (fun c163_6 => ?_)
        · skip
          refine v_bipush 187 C (iZ (-4)) dX3_judgeTrial_187 (by decide) ?_
          exact v_iret 189 C (⟨rfl, rfl⟩) dX3_judgeTrial_189
        · skip
          refine v_iload_n 166 4 C dX3_judgeTrial_166 rfl ?_
          refine z_if_eq 167 176 C (by first | assumption | exact ⟨by omega, by omega⟩) dX3_judgeTrial_167 (by decide) (fun c167_7 => ?_) (fun c167_7 => ?_)
          · skip
            refine v_iload 176 3 C dX3_judgeTrial_176 rfl ?_
            refine z_if_eq 178 190 C (by first | assumption | exact ⟨by omega, by omega⟩) dX3_judgeTrial_178 (by decide) (fun c178_8 => ?_) (fun c178_8 => ?_)
            · skip
              exact absurd (show gdP kd a b_ cF dF from ⟨by omega, by omega, fun _ => by omega, fun _ => by omega, fun _ => by omega⟩) h4
            · skip
              refine v_iload 181 1 C dX3_judgeTrial_181 rfl ?_
              refine v_iconst 183 C (iZ 1) dX3_judgeTrial_183 rfl ?_
              refine z_icmp_ge 184 190 C (by first | assumption | exact ⟨by omega, by omega⟩) (by first | assumption | exact ⟨by omega, by omega⟩) dX3_judgeTrial_184 (by decide) (fun c184_9 => ?_) (fun c184_9 => ?_)
              · skip
                exact absurd (show gdP kd a b_ cF dF from ⟨by omega, by omega, fun _ => by omega, fun _ => by omega, fun _ => by omega⟩) h4
              · skip
                refine v_bipush 187 C (iZ (-4)) dX3_judgeTrial_187 (by decide) ?_
                exact v_iret 189 C (⟨rfl, rfl⟩) dX3_judgeTrial_189
          · skip
            refine v_iload 170 2 C dX3_judgeTrial_170 rfl ?_
            refine v_iconst 172 C (iZ 1) dX3_judgeTrial_172 rfl ?_
            refine z_icmp_lt 173 187 C (by first | assumption | exact ⟨by omega, by omega⟩) (by first | assumption | exact ⟨by omega, by omega⟩) dX3_judgeTrial_173 (by decide) (fun c173_8 => ?_) (fun c173_8 => ?_)
            · skip
              refine v_bipush 187 C (iZ (-4)) dX3_judgeTrial_187 (by decide) ?_
              exact v_iret 189 C (⟨rfl, rfl⟩) dX3_judgeTrial_189
            · skip
              refine v_iload 176 3 C dX3_judgeTrial_176 rfl ?_
              refine z_if_eq 178 190 C (by first | assumption | exact ⟨by omega, by omega⟩) dX3_judgeTrial_178 (by decide) (fun c178_9 => ?_) (fun c178_9 => ?_)
              · skip
                exact absurd (show gdP kd a b_ cF dF from ⟨by omega, by omega, fun _ => by omega, fun _ => by omega, fun _ => by omega⟩) h4
              · skip
                refine v_iload 181 1 C dX3_judgeTrial_181 rfl ?_
                refine v_iconst 183 C (iZ 1) dX3_judgeTrial_183 rfl ?_
                refine z_icmp_ge 184 190 C (by first | assumption | exact ⟨by omega, by omega⟩) (by first | assumption | exact ⟨by omega, by omega⟩) dX3_judgeTrial_184 (by decide) (fun c184_10 => ?_) (fun c184_10 => ?_)
                · skip
                  exact absurd (show gdP kd a b_ cF dF from ⟨by omega, by omega, fun _ => by omega, fun _ => by omega, fun _ => by omega⟩) h4
                · skip
                  refine v_bipush 187 C (iZ (-4)) dX3_judgeTrial_187 (by decide) ?_
                  exact v_iret 189 C (⟨rfl, rfl⟩) dX3_judgeTrial_189
