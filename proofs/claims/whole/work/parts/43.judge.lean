/-! PART: how the page judges a trial -/
def TJ (S : St) (kd p_ a q_ b_ c d f : Int) : Prop := gI S 4 5 = iZ kd ∧ gI S 4 6 = iZ p_ ∧ gI S 4 7 = iZ a ∧ gI S 4 8 = iZ q_ ∧ gI S 4 9 = iZ b_ ∧ gI S 4 10 = iZ f ∧ gI S (4 + 13) 4 = iZ c ∧ gI S (4 + 14) 4 = iZ d
set_option maxHeartbeats 4000000 in
set_option maxRecDepth 100000 in
theorem m_judge_nn {l : Launch} {D : va_G} {kc : Nat → ClassId} {N : Nat} {ad : Nat → Nat} {S : St} {b : Bs} (hg : vg N) (hN : N = 66 + 15 * bn b) (hI : Inv b) (hP : RP S b) {z y : Int} (rz : r32 z) (ry : r32 y) (hz : ¬ isL b z) (hy : ¬ isL b y) {kd a b_ cF dF f : Int} (rk : r32 kd) (ra : r32 a) (rb : r32 b_) (rc : r32 cF) (rd : r32 dF) (hT : TJ S kd z a y b_ cF dF f) : MetK l yX3_judgeTrial cX3_judgeTrial 8 (some FieldType.int) 2 0 0 45 D kc (wl kc N ad S) [.ref (ad 0)] (QI D kc (wl kc N ad S) (fun r ws' => r = iZ (-1) ∧ ws' = wl kc N ad S)) := by
  refine MetK.of (by decide +kernel) (Nat.le_of_ble_eq_true rfl) ?_
  intro p e s m below meth c C
  have hA : ∀ q, s.heap.size ≤ q → va_A (wl kc N ad S) s.heap.size q := fun _ h => Or.inr h
  show V p l e { frames := 2, cells := 0, slots := 0, locals := 45 } s m ([.ref (ad 0)] : List Value).toArray below meth c (MQ below (QI D kc (wl kc N ad S) (fun r ws' => r = iZ (-1) ∧ ws' = wl kc N ad S) s.heap.size) ([.ref (ad 0)] : List Value).toArray s 0 0 (va_A (wl kc N ad S) s.heap.size)) D (va_A (wl kc N ad S) s.heap.size) 8 0 0 (wl kc N ad S) 0 [(0, .ref (ad 0))] []
  have hb0 := hI.1
  refine v_aload_n 0 0 C dX3_judgeTrial_0 rfl ?_
  refine v_aload_n 1 0 C dX3_judgeTrial_1 rfl ?_
  refine g_Pg_trial 2 C (vg.o hg).1 (vg.o hg).2 lk_211 dX3_judgeTrial_2 ?_
  refine g_Pt_p 5 C (vp.o (vg.t hg)).1 (vp.o (vg.t hg)).2 lk_134 dX3_judgeTrial_5 ?_
  refine v_eqi (iZ z) (hT.2.1) ?_
  refine v_callq 8 hA (rV_Pg 8 C L_RX3_138 lk_186 lk_1 (m_planeThere_no (z := z) hg hN hI hP rz hz) (vg.o hg) rfl ⟨rfl, rfl⟩ (rm_ok rfl) dX3_judgeTrial_8) (fun r1 w2 h3 => ?_)
  obtain ⟨e_r1, rfl⟩ := h3
  refine v_eqv .null (by rw [e_r1]; rfl) ?_
  refine v_astore_nN 11 [(1, .null), (0, .ref (ad 0))] C dX3_judgeTrial_11 (by decide) rfl ?_
  refine v_aload_n 12 1 C dX3_judgeTrial_12 rfl ?_
  refine v_aload_n 13 1 C dX3_judgeTrial_13 rfl ?_
  refine g_Pg_trial 14 C (vg.o hg).1 (vg.o hg).2 lk_211 dX3_judgeTrial_14 ?_
  refine g_Pt_q 17 C (vp.o (vg.t hg)).1 (vp.o (vg.t hg)).2 lk_138 dX3_judgeTrial_17 ?_
  refine v_eqi (iZ y) (hT.2.2.2.1) ?_
  refine v_callq 20 hA (rV_Pg 20 C L_RX3_138 lk_186 lk_1 (m_planeThere_no (z := y) hg hN hI hP ry hy) (vg.o hg) rfl ⟨rfl, rfl⟩ (rm_ok rfl) dX3_judgeTrial_20) (fun r4 w5 h6 => ?_)
  obtain ⟨e_r4, rfl⟩ := h6
  refine v_eqv .null (by rw [e_r4]; rfl) ?_
  refine v_astore_nN 23 [(2, .null), (1, .null), (0, .ref (ad 0))] C dX3_judgeTrial_23 (by decide) rfl ?_
  refine v_aload_nN 24 1 C dX3_judgeTrial_24 rfl ?_
  refine v_ifnullN 25 49 C dX3_judgeTrial_25 (by decide) ?_
  refine v_iconst 49 C (iZ (-1)) dX3_judgeTrial_49 rfl ?_
  exact v_iret 50 C (⟨rfl, rfl⟩) dX3_judgeTrial_50

set_option maxHeartbeats 4000000 in
set_option maxRecDepth 100000 in
theorem m_judge_ny {l : Launch} {D : va_G} {kc : Nat → ClassId} {N : Nat} {ad : Nat → Nat} {S : St} {b : Bs} (hg : vg N) (hN : N = 66 + 15 * bn b) (hI : Inv b) (hP : RP S b) {z : Int} {q : Nat} (rz : r32 z) (hz : ¬ isL b z) (hq : thL b q) {kd a b_ cF dF f : Int} (rk : r32 kd) (ra : r32 a) (rb : r32 b_) (rc : r32 cF) (rd : r32 dF) (hT : TJ S kd z a (q : Int) b_ cF dF f) : MetK l yX3_judgeTrial cX3_judgeTrial 8 (some FieldType.int) 2 0 0 45 D kc (wl kc N ad S) [.ref (ad 0)] (QI D kc (wl kc N ad S) (fun r ws' => r = iZ (-1) ∧ ws' = wl kc N ad S)) := by
  refine MetK.of (by decide +kernel) (Nat.le_of_ble_eq_true rfl) ?_
  intro p e s m below meth c C
  have hA : ∀ q, s.heap.size ≤ q → va_A (wl kc N ad S) s.heap.size q := fun _ h => Or.inr h
  show V p l e { frames := 2, cells := 0, slots := 0, locals := 45 } s m ([.ref (ad 0)] : List Value).toArray below meth c (MQ below (QI D kc (wl kc N ad S) (fun r ws' => r = iZ (-1) ∧ ws' = wl kc N ad S) s.heap.size) ([.ref (ad 0)] : List Value).toArray s 0 0 (va_A (wl kc N ad S) s.heap.size)) D (va_A (wl kc N ad S) s.heap.size) 8 0 0 (wl kc N ad S) 0 [(0, .ref (ad 0))] []
  have hb0 := hI.1
  refine v_aload_n 0 0 C dX3_judgeTrial_0 rfl ?_
  refine v_aload_n 1 0 C dX3_judgeTrial_1 rfl ?_
  refine g_Pg_trial 2 C (vg.o hg).1 (vg.o hg).2 lk_211 dX3_judgeTrial_2 ?_
  refine g_Pt_p 5 C (vp.o (vg.t hg)).1 (vp.o (vg.t hg)).2 lk_134 dX3_judgeTrial_5 ?_
  refine v_eqi (iZ z) (hT.2.1) ?_
  refine v_callq 8 hA (rV_Pg 8 C L_RX3_138 lk_186 lk_1 (m_planeThere_no (z := z) hg hN hI hP rz hz) (vg.o hg) rfl ⟨rfl, rfl⟩ (rm_ok rfl) dX3_judgeTrial_8) (fun r1 w2 h3 => ?_)
  obtain ⟨e_r1, rfl⟩ := h3
  refine v_eqv .null (by rw [e_r1]; rfl) ?_
  refine v_astore_nN 11 [(1, .null), (0, .ref (ad 0))] C dX3_judgeTrial_11 (by decide) rfl ?_
  refine v_aload_n 12 1 C dX3_judgeTrial_12 rfl ?_
  refine v_aload_n 13 1 C dX3_judgeTrial_13 rfl ?_
  refine g_Pg_trial 14 C (vg.o hg).1 (vg.o hg).2 lk_211 dX3_judgeTrial_14 ?_
  refine g_Pt_q 17 C (vp.o (vg.t hg)).1 (vp.o (vg.t hg)).2 lk_138 dX3_judgeTrial_17 ?_
  refine v_eqi (iZ (q : Int)) (hT.2.2.2.1) ?_
  refine v_callq 20 hA (rV_Pg 20 C L_RX3_138 lk_186 lk_1 (m_planeThere hg hN hI hP hq) (vg.o hg) rfl ⟨rfl, rfl⟩ (rm_ok rfl) dX3_judgeTrial_20) (fun r4 w5 h6 => ?_)
  obtain ⟨e_r4, rfl⟩ := h6
  refine v_eqv (.ref (ad (plN q))) (by rw [e_r4]; rfl) ?_
  refine v_astore_n 23 [(2, .ref (ad (plN q))), (1, .null), (0, .ref (ad 0))] C dX3_judgeTrial_23 (by decide) rfl ?_
  refine v_aload_nN 24 1 C dX3_judgeTrial_24 rfl ?_
  refine v_ifnullN 25 49 C dX3_judgeTrial_25 (by decide) ?_
  refine v_iconst 49 C (iZ (-1)) dX3_judgeTrial_49 rfl ?_
  exact v_iret 50 C (⟨rfl, rfl⟩) dX3_judgeTrial_50

set_option maxHeartbeats 4000000 in
set_option maxRecDepth 100000 in
theorem m_judge_yn {l : Launch} {D : va_G} {kc : Nat → ClassId} {N : Nat} {ad : Nat → Nat} {S : St} {b : Bs} (hg : vg N) (hN : N = 66 + 15 * bn b) (hI : Inv b) (hP : RP S b) {y : Int} {u : Nat} (ry : r32 y) (hu : thL b u) (hy : ¬ isL b y) {kd a b_ cF dF f : Int} (rk : r32 kd) (ra : r32 a) (rb : r32 b_) (rc : r32 cF) (rd : r32 dF) (hT : TJ S kd (u : Int) a y b_ cF dF f) : MetK l yX3_judgeTrial cX3_judgeTrial 8 (some FieldType.int) 2 0 0 45 D kc (wl kc N ad S) [.ref (ad 0)] (QI D kc (wl kc N ad S) (fun r ws' => r = iZ (-1) ∧ ws' = wl kc N ad S)) := by
  refine MetK.of (by decide +kernel) (Nat.le_of_ble_eq_true rfl) ?_
  intro p e s m below meth c C
  have hA : ∀ q, s.heap.size ≤ q → va_A (wl kc N ad S) s.heap.size q := fun _ h => Or.inr h
  show V p l e { frames := 2, cells := 0, slots := 0, locals := 45 } s m ([.ref (ad 0)] : List Value).toArray below meth c (MQ below (QI D kc (wl kc N ad S) (fun r ws' => r = iZ (-1) ∧ ws' = wl kc N ad S) s.heap.size) ([.ref (ad 0)] : List Value).toArray s 0 0 (va_A (wl kc N ad S) s.heap.size)) D (va_A (wl kc N ad S) s.heap.size) 8 0 0 (wl kc N ad S) 0 [(0, .ref (ad 0))] []
  have hb0 := hI.1
  refine v_aload_n 0 0 C dX3_judgeTrial_0 rfl ?_
  refine v_aload_n 1 0 C dX3_judgeTrial_1 rfl ?_
  refine g_Pg_trial 2 C (vg.o hg).1 (vg.o hg).2 lk_211 dX3_judgeTrial_2 ?_
  refine g_Pt_p 5 C (vp.o (vg.t hg)).1 (vp.o (vg.t hg)).2 lk_134 dX3_judgeTrial_5 ?_
  refine v_eqi (iZ (u : Int)) (hT.2.1) ?_
  refine v_callq 8 hA (rV_Pg 8 C L_RX3_138 lk_186 lk_1 (m_planeThere hg hN hI hP hu) (vg.o hg) rfl ⟨rfl, rfl⟩ (rm_ok rfl) dX3_judgeTrial_8) (fun r1 w2 h3 => ?_)
  obtain ⟨e_r1, rfl⟩ := h3
  refine v_eqv (.ref (ad (plN u))) (by rw [e_r1]; rfl) ?_
  refine v_astore_n 11 [(1, .ref (ad (plN u))), (0, .ref (ad 0))] C dX3_judgeTrial_11 (by decide) rfl ?_
  refine v_aload_n 12 1 C dX3_judgeTrial_12 rfl ?_
  refine v_aload_n 13 1 C dX3_judgeTrial_13 rfl ?_
  refine g_Pg_trial 14 C (vg.o hg).1 (vg.o hg).2 lk_211 dX3_judgeTrial_14 ?_
  refine g_Pt_q 17 C (vp.o (vg.t hg)).1 (vp.o (vg.t hg)).2 lk_138 dX3_judgeTrial_17 ?_
  refine v_eqi (iZ y) (hT.2.2.2.1) ?_
  refine v_callq 20 hA (rV_Pg 20 C L_RX3_138 lk_186 lk_1 (m_planeThere_no (z := y) hg hN hI hP ry hy) (vg.o hg) rfl ⟨rfl, rfl⟩ (rm_ok rfl) dX3_judgeTrial_20) (fun r4 w5 h6 => ?_)
  obtain ⟨e_r4, rfl⟩ := h6
  refine v_eqv .null (by rw [e_r4]; rfl) ?_
  refine v_astore_nN 23 [(2, .null), (1, .ref (ad (plN u))), (0, .ref (ad 0))] C dX3_judgeTrial_23 (by decide) rfl ?_
  refine v_aload_n 24 1 C dX3_judgeTrial_24 rfl ?_
  refine v_ifnull 25 C dX3_judgeTrial_25 ?_
  refine v_aload_nN 28 0 C dX3_judgeTrial_28 rfl ?_
  refine v_ifnullN 29 49 C dX3_judgeTrial_29 (by decide) ?_
  refine v_iconst 49 C (iZ (-1)) dX3_judgeTrial_49 rfl ?_
  exact v_iret 50 C (⟨rfl, rfl⟩) dX3_judgeTrial_50

set_option maxHeartbeats 4000000 in
set_option maxRecDepth 100000 in
theorem m_judge_e {l : Launch} {D : va_G} {kc : Nat → ClassId} {N : Nat} {ad : Nat → Nat} {S : St} {b : Bs} (hg : vg N) (hN : N = 66 + 15 * bn b) (hI : Inv b) (hP : RP S b) {u q : Nat} (hu : thL b u) (hq : thL b q) (he : u = q) {kd a b_ cF dF f : Int} (rk : r32 kd) (ra : r32 a) (rb : r32 b_) (rc : r32 cF) (rd : r32 dF) (hT : TJ S kd (u : Int) a (q : Int) b_ cF dF f) : MetK l yX3_judgeTrial cX3_judgeTrial 8 (some FieldType.int) 2 0 0 45 D kc (wl kc N ad S) [.ref (ad 0)] (QI D kc (wl kc N ad S) (fun r ws' => r = iZ (-1) ∧ ws' = wl kc N ad S)) := by
  refine MetK.of (by decide +kernel) (Nat.le_of_ble_eq_true rfl) ?_
  intro p e s m below meth c C
  have hA : ∀ q, s.heap.size ≤ q → va_A (wl kc N ad S) s.heap.size q := fun _ h => Or.inr h
  show V p l e { frames := 2, cells := 0, slots := 0, locals := 45 } s m ([.ref (ad 0)] : List Value).toArray below meth c (MQ below (QI D kc (wl kc N ad S) (fun r ws' => r = iZ (-1) ∧ ws' = wl kc N ad S) s.heap.size) ([.ref (ad 0)] : List Value).toArray s 0 0 (va_A (wl kc N ad S) s.heap.size)) D (va_A (wl kc N ad S) s.heap.size) 8 0 0 (wl kc N ad S) 0 [(0, .ref (ad 0))] []
  have hb0 := hI.1
  have h62u := thL_62 hI hu
  have h62q := thL_62 hI hq
  have hszu := szL_b hI hu
  have hszq := szL_b hI hq
  refine v_aload_n 0 0 C dX3_judgeTrial_0 rfl ?_
  refine v_aload_n 1 0 C dX3_judgeTrial_1 rfl ?_
  refine g_Pg_trial 2 C (vg.o hg).1 (vg.o hg).2 lk_211 dX3_judgeTrial_2 ?_
  refine g_Pt_p 5 C (vp.o (vg.t hg)).1 (vp.o (vg.t hg)).2 lk_134 dX3_judgeTrial_5 ?_
  refine v_eqi (iZ (u : Int)) (hT.2.1) ?_
  refine v_callq 8 hA (rV_Pg 8 C L_RX3_138 lk_186 lk_1 (m_planeThere hg hN hI hP hu) (vg.o hg) rfl ⟨rfl, rfl⟩ (rm_ok rfl) dX3_judgeTrial_8) (fun r1 w2 h3 => ?_)
  obtain ⟨e_r1, rfl⟩ := h3
  refine v_eqv (.ref (ad (plN u))) (by rw [e_r1]; rfl) ?_
  refine v_astore_n 11 [(1, .ref (ad (plN u))), (0, .ref (ad 0))] C dX3_judgeTrial_11 (by decide) rfl ?_
  refine v_aload_n 12 1 C dX3_judgeTrial_12 rfl ?_
  refine v_aload_n 13 1 C dX3_judgeTrial_13 rfl ?_
  refine g_Pg_trial 14 C (vg.o hg).1 (vg.o hg).2 lk_211 dX3_judgeTrial_14 ?_
  refine g_Pt_q 17 C (vp.o (vg.t hg)).1 (vp.o (vg.t hg)).2 lk_138 dX3_judgeTrial_17 ?_
  refine v_eqi (iZ (q : Int)) (hT.2.2.2.1) ?_
  refine v_callq 20 hA (rV_Pg 20 C L_RX3_138 lk_186 lk_1 (m_planeThere hg hN hI hP hq) (vg.o hg) rfl ⟨rfl, rfl⟩ (rm_ok rfl) dX3_judgeTrial_20) (fun r4 w5 h6 => ?_)
  obtain ⟨e_r4, rfl⟩ := h6
  refine v_eqv (.ref (ad (plN q))) (by rw [e_r4]; rfl) ?_
  refine v_astore_n 23 [(2, .ref (ad (plN q))), (1, .ref (ad (plN u))), (0, .ref (ad 0))] C dX3_judgeTrial_23 (by decide) rfl ?_
  refine v_aload_n 24 1 C dX3_judgeTrial_24 rfl ?_
  refine v_ifnull 25 C dX3_judgeTrial_25 ?_
  refine v_aload_n 28 0 C dX3_judgeTrial_28 rfl ?_
  refine v_ifnull 29 C dX3_judgeTrial_29 ?_
  refine v_aload_n 32 2 C dX3_judgeTrial_32 rfl ?_
  refine g_Pg_trial 33 C (vg.o hg).1 (vg.o hg).2 lk_211 dX3_judgeTrial_33 ?_
  refine g_Pt_p 36 C (vp.o (vg.t hg)).1 (vp.o (vg.t hg)).2 lk_134 dX3_judgeTrial_36 ?_
  refine v_eqi (iZ (u : Int)) (hT.2.1) ?_
  refine v_aload_n 39 2 C dX3_judgeTrial_39 rfl ?_
  refine g_Pg_trial 40 C (vg.o hg).1 (vg.o hg).2 lk_211 dX3_judgeTrial_40 ?_
  refine g_Pt_q 43 C (vp.o (vg.t hg)).1 (vp.o (vg.t hg)).2 lk_138 dX3_judgeTrial_43 ?_
  refine v_eqi (iZ (q : Int)) (hT.2.2.2.1) ?_
  refine z_icmp_ne 46 51 C (by first | assumption | exact ⟨by omega, by omega⟩) (by first | assumption | exact ⟨by omega, by omega⟩) dX3_judgeTrial_46 (by decide) (fun c46_0 => absurd c46_0 (by omega)) (fun c46_0 => ?_)
  refine v_iconst 49 C (iZ (-1)) dX3_judgeTrial_49 rfl ?_
  exact v_iret 50 C (⟨rfl, rfl⟩) dX3_judgeTrial_50
