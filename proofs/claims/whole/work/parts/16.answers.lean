/-! PAGE: what it answers -/
def cQ (kc : Nat → ClassId) (N : Nat) (ad : Nat → Nat) (S : St) (R : Int) (b' : Bs) : Int32 → va_W → Prop := fun r ws' => r = iZ R ∧ ∃ (S' : St) (t' : Ts), ws' = wl kc N ad S' ∧ RC S' b' t' ∧ LE b' t' ∧ Inv b' ∧ sameOn atM S S'
set_option maxHeartbeats 4000000 in
set_option maxRecDepth 100000 in
theorem c_tol_4 {l : Launch} {D : va_G} {kc : Nat → ClassId} {N : Nat} {ad : Nat → Nat} {S : St} {b : Bs} {t : Ts} (hg : vg N) (hN : N = 66 + 15 * bn b) (hI : Inv b) (hC : RC S b t) (hE : LE b t) {z : Int} (rz : r32 z) (h : z < 0) : MetK l yX3_tolerance cX3_tolerance 3 (some FieldType.int) 2 0 0 46 D kc (wl kc N ad S) [.ref (ad 0), .int (iZ z)] (QI D kc (wl kc N ad S) (cQ kc N ad S (-4) (refB b 4))) := by
  refine MetK.of (by decide +kernel) (Nat.le_of_ble_eq_true rfl) ?_
  intro p e s m below meth c C
  have hA : ∀ q, s.heap.size ≤ q → va_A (wl kc N ad S) s.heap.size q := fun _ h => Or.inr h
  show V p l e { frames := 2, cells := 0, slots := 0, locals := 46 } s m ([.ref (ad 0), .int (iZ z)] : List Value).toArray below meth c (MQ below (QI D kc (wl kc N ad S) (cQ kc N ad S (-4) (refB b 4)) s.heap.size) ([.ref (ad 0), .int (iZ z)] : List Value).toArray s 0 0 (va_A (wl kc N ad S) s.heap.size)) D (va_A (wl kc N ad S) s.heap.size) 3 0 0 (wl kc N ad S) 0 [(0, .ref (ad 0)), (1, .int (iZ z))] []
  have hP := hC.1
  have hW := hC.2.1
  have hEn := hC.2.2.1
  have hR := hC.2.2.2
  have hb0 := hI.1
  refine v_iload_n 0 1 C dX3_tolerance_0 rfl ?_
  refine z_if_ge 1 11 C (by first | assumption | exact ⟨by omega, by omega⟩) dX3_tolerance_1 (by decide) (fun c1_0 => absurd c1_0 (by omega)) (fun c1_0 => ?_)
  refine v_aload_n 4 0 C dX3_tolerance_4 rfl ?_
  refine v_bipush 5 C (iZ (-4)) dX3_tolerance_5 (by decide) ?_
  refine v_calli 7 hA (rV_Pg 7 C L_RX3_62 lk_252 lk_5 (m_refuse hg hN hI hP 4 (by decide) (by decide)) (vg.o hg) rfl ⟨rfl, rfl⟩ (rm_ok rfl) dX3_tolerance_7) (fun r1 w2 h3 => ?_)
  obtain ⟨e_r1, rfl⟩ := h3
  refine v_eqi (iZ (-4)) (e_r1) ?_
  exact v_iret 10 C (⟨rfl, refS S b 4, t, rfl, refRC hC, refLE hE, refInv hI, refM⟩) dX3_tolerance_10

set_option maxHeartbeats 4000000 in
set_option maxRecDepth 100000 in
theorem c_tol_6 {l : Launch} {D : va_G} {kc : Nat → ClassId} {N : Nat} {ad : Nat → Nat} {S : St} {b : Bs} {t : Ts} (hg : vg N) (hN : N = 66 + 15 * bn b) (hI : Inv b) (hC : RC S b t) (hE : LE b t) {z : Int} (rz : r32 z) (h : 100 < z) : MetK l yX3_tolerance cX3_tolerance 3 (some FieldType.int) 2 0 0 46 D kc (wl kc N ad S) [.ref (ad 0), .int (iZ z)] (QI D kc (wl kc N ad S) (cQ kc N ad S (-6) (refB b 6))) := by
  refine MetK.of (by decide +kernel) (Nat.le_of_ble_eq_true rfl) ?_
  intro p e s m below meth c C
  have hA : ∀ q, s.heap.size ≤ q → va_A (wl kc N ad S) s.heap.size q := fun _ h => Or.inr h
  show V p l e { frames := 2, cells := 0, slots := 0, locals := 46 } s m ([.ref (ad 0), .int (iZ z)] : List Value).toArray below meth c (MQ below (QI D kc (wl kc N ad S) (cQ kc N ad S (-6) (refB b 6)) s.heap.size) ([.ref (ad 0), .int (iZ z)] : List Value).toArray s 0 0 (va_A (wl kc N ad S) s.heap.size)) D (va_A (wl kc N ad S) s.heap.size) 3 0 0 (wl kc N ad S) 0 [(0, .ref (ad 0)), (1, .int (iZ z))] []
  have hP := hC.1
  have hW := hC.2.1
  have hEn := hC.2.2.1
  have hR := hC.2.2.2
  have hb0 := hI.1
  refine v_iload_n 0 1 C dX3_tolerance_0 rfl ?_
  refine z_if_ge 1 11 C (by first | assumption | exact ⟨by omega, by omega⟩) dX3_tolerance_1 (by decide) (fun c1_0 => ?_) (fun c1_0 => absurd (by omega) c1_0)
  refine v_iload_n 11 1 C dX3_tolerance_11 rfl ?_
  refine v_bipush 12 C (iZ 100) dX3_tolerance_12 (by decide) ?_
  refine z_icmp_le 14 24 C (by first | assumption | exact ⟨by omega, by omega⟩) (by first | assumption | exact ⟨by omega, by omega⟩) dX3_tolerance_14 (by decide) (fun c14_1 => absurd c14_1 (by omega)) (fun c14_1 => ?_)
  refine v_aload_n 17 0 C dX3_tolerance_17 rfl ?_
  refine v_bipush 18 C (iZ (-6)) dX3_tolerance_18 (by decide) ?_
  refine v_calli 20 hA (rV_Pg 20 C L_RX3_62 lk_252 lk_5 (m_refuse hg hN hI hP 6 (by decide) (by decide)) (vg.o hg) rfl ⟨rfl, rfl⟩ (rm_ok rfl) dX3_tolerance_20) (fun r1 w2 h3 => ?_)
  obtain ⟨e_r1, rfl⟩ := h3
  refine v_eqi (iZ (-6)) (e_r1) ?_
  exact v_iret 23 C (⟨rfl, refS S b 6, t, rfl, refRC hC, refLE hE, refInv hI, refM⟩) dX3_tolerance_23

theorem tolRC {S : St} {b : Bs} {t : Ts} {z : Int} (h : RC S b t) : RC (pI S 0 6 (iZ z)) (upB b 2 0 z) t := by
  obtain ⟨⟨⟨a1, a2, a3⟩, a4, a5, a6, ⟨a7, a8⟩, a9⟩, hw, he, ht⟩ := h
  have I : ∀ i k, ¬ (i = 0 ∧ k = 6) → gI (pI S 0 6 (iZ z)) i k = gI S i k := fun i k q => by rw [gI_pI, if_neg q]
  refine ⟨⟨⟨?_, ?_, ?_⟩, a4, a5, a6, ⟨?_, ?_⟩, fun k hk => ?_⟩, hw, he, ht⟩
  · rw [I _ _ (by decide)]; exact a1
  · rw [gI_pI, if_pos ⟨rfl, rfl⟩]; rfl
  · rw [I _ _ (by decide)]; exact a3
  · rw [I _ _ (by decide)]; exact a7
  · rw [I _ _ (by decide)]; exact a8
  · rw [I _ _ (by omega), I _ _ (by omega), I _ _ (by omega), I _ _ (by omega), I _ _ (by omega), I _ _ (by omega), I _ _ (by omega), I _ _ (by omega), I _ _ (by omega)]
    exact a9 k hk
theorem tolInv {b : Bs} {z : Int} (h : Inv b) (h0 : 0 ≤ z ∧ z ≤ 100) : Inv (upB b 2 0 z) := ⟨h.1, h.2.1, h0, h.2.2.2⟩
theorem sameM_pI {S : St} {i k : Nat} {v : Int32} (h : ¬ atM i) : sameOn atM S (pI S i k v) := fun j hj f => ⟨by rw [gI_pI, if_neg (fun (q : j = i ∧ f = k) => h (by rw [← q.1]; exact hj))], rfl, rfl, rfl, rfl⟩
theorem sameM_pA {S : St} {i k : Nat} {v : Int32} (h : ¬ atM i) : sameOn atM S (pA S i k v) := fun j hj f => ⟨rfl, by rw [gA_pA, if_neg (fun (q : j = i ∧ f = k) => h (by rw [← q.1]; exact hj))], rfl, rfl, rfl⟩
theorem sameM_pR {S : St} {i k : Nat} {v : Option Nat} (h : ¬ atM i) : sameOn atM S (pR S i k v) := fun j hj f => ⟨rfl, rfl, rfl, rfl, by rw [gR_pR, if_neg (fun (q : j = i ∧ f = k) => h (by rw [← q.1]; exact hj))]⟩
theorem nM_lo {i : Nat} (h : i < 45) : ¬ atM i := fun q => by have := q.1; omega
theorem nM_hi {i : Nat} (h : 66 ≤ i) : ¬ atM i := fun q => by have := q.2; omega
set_option maxHeartbeats 4000000 in
set_option maxRecDepth 100000 in
theorem c_tol {l : Launch} {D : va_G} {kc : Nat → ClassId} {N : Nat} {ad : Nat → Nat} {S : St} {b : Bs} {t : Ts} (hg : vg N) (hN : N = 66 + 15 * bn b) (hI : Inv b) (hC : RC S b t) (hE : LE b t) {z : Int} (rz : r32 z) (h : 0 ≤ z ∧ z ≤ 100) : MetK l yX3_tolerance cX3_tolerance 3 (some FieldType.int) 2 0 0 46 D kc (wl kc N ad S) [.ref (ad 0), .int (iZ z)] (QI D kc (wl kc N ad S) (cQ kc N ad S (b 2 0) (upB b 2 0 z))) := by
  refine MetK.of (by decide +kernel) (Nat.le_of_ble_eq_true rfl) ?_
  intro p e s m below meth c C
  have hA : ∀ q, s.heap.size ≤ q → va_A (wl kc N ad S) s.heap.size q := fun _ h => Or.inr h
  show V p l e { frames := 2, cells := 0, slots := 0, locals := 46 } s m ([.ref (ad 0), .int (iZ z)] : List Value).toArray below meth c (MQ below (QI D kc (wl kc N ad S) (cQ kc N ad S (b 2 0) (upB b 2 0 z)) s.heap.size) ([.ref (ad 0), .int (iZ z)] : List Value).toArray s 0 0 (va_A (wl kc N ad S) s.heap.size)) D (va_A (wl kc N ad S) s.heap.size) 3 0 0 (wl kc N ad S) 0 [(0, .ref (ad 0)), (1, .int (iZ z))] []
  have hP := hC.1
  have hW := hC.2.1
  have hEn := hC.2.2.1
  have hR := hC.2.2.2
  have hb0 := hI.1
  refine v_iload_n 0 1 C dX3_tolerance_0 rfl ?_
  refine z_if_ge 1 11 C (by first | assumption | exact ⟨by omega, by omega⟩) dX3_tolerance_1 (by decide) (fun c1_0 => ?_) (fun c1_0 => absurd (by omega) c1_0)
  refine v_iload_n 11 1 C dX3_tolerance_11 rfl ?_
  refine v_bipush 12 C (iZ 100) dX3_tolerance_12 (by decide) ?_
  refine z_icmp_le 14 24 C (by first | assumption | exact ⟨by omega, by omega⟩) (by first | assumption | exact ⟨by omega, by omega⟩) dX3_tolerance_14 (by decide) (fun c14_1 => ?_) (fun c14_1 => absurd (by omega) c14_1)
  refine v_aload_n 24 0 C dX3_tolerance_24 rfl ?_
  refine g_Pg_pageTolerance 25 C (vg.o hg).1 (vg.o hg).2 lk_215 dX3_tolerance_25 ?_
  refine v_eqi (iZ (b 2 0)) (hP.1.2.1) ?_
  refine v_istore_n 28 [(2, .int (iZ (b 2 0))), (0, .ref (ad 0)), (1, .int (iZ z))] C dX3_tolerance_28 (by decide) rfl ?_
  refine v_aload_n 29 1 C dX3_tolerance_29 rfl ?_
  refine v_iload_n 30 2 C dX3_tolerance_30 rfl ?_
  refine s_Pg_pageTolerance 31 C (vg.o hg).1 (vg.o hg).2 lk_215 dX3_tolerance_31 ?_
  refine v_iload_n 34 0 C dX3_tolerance_34 rfl ?_
  exact v_iret 35 C (⟨rfl, pI S 0 6 (iZ z), t, rfl, tolRC hC, hE, tolInv hI h, sameM_pI (nM_lo (by decide))⟩) dX3_tolerance_35

set_option maxHeartbeats 4000000 in
set_option maxRecDepth 100000 in
theorem c_crease_p {l : Launch} {D : va_G} {kc : Nat → ClassId} {N : Nat} {ad : Nat → Nat} {S : St} {b : Bs} {t : Ts} (hg : vg N) (hN : N = 66 + 15 * bn b) (hI : Inv b) (hC : RC S b t) (hE : LE b t) {z s_ w : Int} (rz : r32 z) (rs : r32 s_) (rw_ : r32 w) (hp : ¬ isP b z) : MetK l yX3_crease cX3_crease 5 (some FieldType.int) 3 0 0 67 D kc (wl kc N ad S) [.ref (ad 0), .int (iZ z), .int (iZ s_), .int (iZ w)] (QI D kc (wl kc N ad S) (cQ kc N ad S (1000000000 - (-1)) (refB b 1))) := by
  refine MetK.of (by decide +kernel) (Nat.le_of_ble_eq_true rfl) ?_
  intro p e s m below meth c C
  have hA : ∀ q, s.heap.size ≤ q → va_A (wl kc N ad S) s.heap.size q := fun _ h => Or.inr h
  show V p l e { frames := 3, cells := 0, slots := 0, locals := 67 } s m ([.ref (ad 0), .int (iZ z), .int (iZ s_), .int (iZ w)] : List Value).toArray below meth c (MQ below (QI D kc (wl kc N ad S) (cQ kc N ad S (1000000000 - (-1)) (refB b 1)) s.heap.size) ([.ref (ad 0), .int (iZ z), .int (iZ s_), .int (iZ w)] : List Value).toArray s 0 0 (va_A (wl kc N ad S) s.heap.size)) D (va_A (wl kc N ad S) s.heap.size) 5 0 0 (wl kc N ad S) 0 [(0, .ref (ad 0)), (1, .int (iZ z)), (2, .int (iZ s_)), (3, .int (iZ w))] []
  have hP := hC.1
  have hW := hC.2.1
  have hEn := hC.2.2.1
  have hR := hC.2.2.2
  have hb0 := hI.1
  refine v_aload_n 0 0 C dX3_crease_0 rfl ?_
  refine v_iload_n 1 1 C dX3_crease_1 rfl ?_
  refine v_callq 2 hA (rV_Pg 2 C L_RX3_90 lk_244 lk_3 (m_partThere_no hg hN hI hP rz hp) (vg.o hg) rfl ⟨rfl, rfl⟩ (rm_ok rfl) dX3_crease_2) (fun r1 w2 h3 => ?_)
  obtain ⟨e_r1, rfl⟩ := h3
  refine v_eqv .null (by rw [e_r1]; rfl) ?_
  refine v_astoreN 5 [(4, .null), (0, .ref (ad 0)), (1, .int (iZ z)), (2, .int (iZ s_)), (3, .int (iZ w))] C dX3_crease_5 (by decide) rfl ?_
  refine v_aloadN 7 0 C dX3_crease_7 rfl ?_
  refine v_ifnullN 9 19 C dX3_crease_9 (by decide) ?_
  refine v_aload_n 19 1 C dX3_crease_19 rfl ?_
  refine v_iconst 20 C (iZ (-1)) dX3_crease_20 rfl ?_
  refine v_calli 21 hA (rV_Pg 21 C L_RX3_128 lk_375 lk_15 (m_refuseA hg hN hI hP 1 (by decide) (by decide)) (vg.o hg) rfl ⟨rfl, rfl⟩ (rm_ok rfl) dX3_crease_21) (fun r4 w5 h6 => ?_)
  obtain ⟨e_r4, rfl⟩ := h6
  refine v_eqi (iZ (1000000000 - (-1))) (e_r4) ?_
  exact v_iret 24 C (⟨rfl, refS S b 1, t, rfl, refRC hC, refLE hE, refInv hI, refM⟩) dX3_crease_24

set_option maxHeartbeats 4000000 in
set_option maxRecDepth 100000 in
theorem c_crease_s {l : Launch} {D : va_G} {kc : Nat → ClassId} {N : Nat} {ad : Nat → Nat} {S : St} {b : Bs} {t : Ts} (hg : vg N) (hN : N = 66 + 15 * bn b) (hI : Inv b) (hC : RC S b t) (hE : LE b t) {k : Nat} (hk : k < bn b) (ht : b 8 k = 1) {s_ w : Int} (rs : r32 s_) (rw_ : r32 w) (hs : ¬ (0 ≤ s_ ∧ s_ < 17)) : MetK l yX3_crease cX3_crease 5 (some FieldType.int) 3 0 0 67 D kc (wl kc N ad S) [.ref (ad 0), .int (iZ (k : Int)), .int (iZ s_), .int (iZ w)] (QI D kc (wl kc N ad S) (cQ kc N ad S (1000000000 - (-1)) (refB b 1))) := by
  refine MetK.of (by decide +kernel) (Nat.le_of_ble_eq_true rfl) ?_
  intro p e s m below meth c C
  have hA : ∀ q, s.heap.size ≤ q → va_A (wl kc N ad S) s.heap.size q := fun _ h => Or.inr h
  show V p l e { frames := 3, cells := 0, slots := 0, locals := 67 } s m ([.ref (ad 0), .int (iZ (k : Int)), .int (iZ s_), .int (iZ w)] : List Value).toArray below meth c (MQ below (QI D kc (wl kc N ad S) (cQ kc N ad S (1000000000 - (-1)) (refB b 1)) s.heap.size) ([.ref (ad 0), .int (iZ (k : Int)), .int (iZ s_), .int (iZ w)] : List Value).toArray s 0 0 (va_A (wl kc N ad S) s.heap.size)) D (va_A (wl kc N ad S) s.heap.size) 5 0 0 (wl kc N ad S) 0 [(0, .ref (ad 0)), (1, .int (iZ (k : Int))), (2, .int (iZ s_)), (3, .int (iZ w))] []
  have hP := hC.1
  have hW := hC.2.1
  have hEn := hC.2.2.1
  have hR := hC.2.2.2
  have hb0 := hI.1
  refine v_aload_n 0 0 C dX3_crease_0 rfl ?_
  refine v_iload_n 1 1 C dX3_crease_1 rfl ?_
  refine v_callq 2 hA (rV_Pg 2 C L_RX3_90 lk_244 lk_3 (m_partThere hg hN hI hP hk ht) (vg.o hg) rfl ⟨rfl, rfl⟩ (rm_ok rfl) dX3_crease_2) (fun r1 w2 h3 => ?_)
  obtain ⟨e_r1, rfl⟩ := h3
  refine v_eqv (.ref (ad (66 + 15 * k))) (by rw [e_r1]; rfl) ?_
  refine v_astore 5 [(4, .ref (ad (66 + 15 * k))), (0, .ref (ad 0)), (1, .int (iZ (k : Int))), (2, .int (iZ s_)), (3, .int (iZ w))] C dX3_crease_5 (by decide) rfl ?_
  refine v_aload 7 0 C dX3_crease_7 rfl ?_
  refine v_ifnull 9 C dX3_crease_9 ?_
  refine v_iload_n 12 3 C dX3_crease_12 rfl ?_
  refine v_calli 13 hA (rS 13 C L_RX3_124 lk_371 (m_isStep (by first | assumption | exact ⟨by omega, by omega⟩)) rfl rfl (rm_ok rfl) dX3_crease_13) (fun r4 w5 h6 => ?_)
  obtain ⟨e_r4, rfl⟩ := h6
  refine v_eqi (iZ (bz (decide (0 ≤ s_ ∧ s_ < 17)))) (e_r4) ?_
  refine z_if_ne 16 25 C (bzr _) dX3_crease_16 (by decide) (fun c16_0 => absurd c16_0 (fun q => q (by rw [decide_eq_false hs]; rfl))) (fun c16_0 => ?_)
  refine v_aload_n 19 1 C dX3_crease_19 rfl ?_
  refine v_iconst 20 C (iZ (-1)) dX3_crease_20 rfl ?_
  refine v_calli 21 hA (rV_Pg 21 C L_RX3_128 lk_375 lk_15 (m_refuseA hg hN hI hP 1 (by decide) (by decide)) (vg.o hg) rfl ⟨rfl, rfl⟩ (rm_ok rfl) dX3_crease_21) (fun r7 w8 h9 => ?_)
  obtain ⟨e_r7, rfl⟩ := h9
  refine v_eqi (iZ (1000000000 - (-1))) (e_r7) ?_
  exact v_iret 24 C (⟨rfl, refS S b 1, t, rfl, refRC hC, refLE hE, refInv hI, refM⟩) dX3_crease_24

set_option maxHeartbeats 4000000 in
set_option maxRecDepth 100000 in
theorem c_crease_w {l : Launch} {D : va_G} {kc : Nat → ClassId} {N : Nat} {ad : Nat → Nat} {S : St} {b : Bs} {t : Ts} (hg : vg N) (hN : N = 66 + 15 * bn b) (hI : Inv b) (hC : RC S b t) (hE : LE b t) {k : Nat} (hk : k < bn b) (ht : b 8 k = 1) {j : Nat} {w : Int} (hj : j < 17) (rw_ : r32 w) (hw : ¬ (w = 0 ∨ w = 1)) : MetK l yX3_crease cX3_crease 5 (some FieldType.int) 3 0 0 67 D kc (wl kc N ad S) [.ref (ad 0), .int (iZ (k : Int)), .int (iZ (j : Int)), .int (iZ w)] (QI D kc (wl kc N ad S) (cQ kc N ad S (1000000000 - (-2)) (refB b 2))) := by
  refine MetK.of (by decide +kernel) (Nat.le_of_ble_eq_true rfl) ?_
  intro p e s m below meth c C
  have hA : ∀ q, s.heap.size ≤ q → va_A (wl kc N ad S) s.heap.size q := fun _ h => Or.inr h
  show V p l e { frames := 3, cells := 0, slots := 0, locals := 67 } s m ([.ref (ad 0), .int (iZ (k : Int)), .int (iZ (j : Int)), .int (iZ w)] : List Value).toArray below meth c (MQ below (QI D kc (wl kc N ad S) (cQ kc N ad S (1000000000 - (-2)) (refB b 2)) s.heap.size) ([.ref (ad 0), .int (iZ (k : Int)), .int (iZ (j : Int)), .int (iZ w)] : List Value).toArray s 0 0 (va_A (wl kc N ad S) s.heap.size)) D (va_A (wl kc N ad S) s.heap.size) 5 0 0 (wl kc N ad S) 0 [(0, .ref (ad 0)), (1, .int (iZ (k : Int))), (2, .int (iZ (j : Int))), (3, .int (iZ w))] []
  have hP := hC.1
  have hW := hC.2.1
  have hEn := hC.2.2.1
  have hR := hC.2.2.2
  have hb0 := hI.1
  refine v_aload_n 0 0 C dX3_crease_0 rfl ?_
  refine v_iload_n 1 1 C dX3_crease_1 rfl ?_
  refine v_callq 2 hA (rV_Pg 2 C L_RX3_90 lk_244 lk_3 (m_partThere hg hN hI hP hk ht) (vg.o hg) rfl ⟨rfl, rfl⟩ (rm_ok rfl) dX3_crease_2) (fun r1 w2 h3 => ?_)
  obtain ⟨e_r1, rfl⟩ := h3
  refine v_eqv (.ref (ad (66 + 15 * k))) (by rw [e_r1]; rfl) ?_
  refine v_astore 5 [(4, .ref (ad (66 + 15 * k))), (0, .ref (ad 0)), (1, .int (iZ (k : Int))), (2, .int (iZ (j : Int))), (3, .int (iZ w))] C dX3_crease_5 (by decide) rfl ?_
  refine v_aload 7 0 C dX3_crease_7 rfl ?_
  refine v_ifnull 9 C dX3_crease_9 ?_
  refine v_iload_n 12 3 C dX3_crease_12 rfl ?_
  refine v_calli 13 hA (rS 13 C L_RX3_124 lk_371 (m_isStep (by first | assumption | exact ⟨by omega, by omega⟩)) rfl rfl (rm_ok rfl) dX3_crease_13) (fun r4 w5 h6 => ?_)
  obtain ⟨e_r4, rfl⟩ := h6
  refine v_eqi (iZ (bz (decide (0 ≤ (j : Int) ∧ (j : Int) < 17)))) (e_r4) ?_
  refine z_if_ne 16 25 C (bzr _) dX3_crease_16 (by decide) (fun c16_0 => ?_) (fun c16_0 => absurd c16_0 (by rw [decide_eq_true (show 0 ≤ (j : Int) ∧ (j : Int) < 17 by omega)]; decide))
  refine v_iload_n 25 4 C dX3_crease_25 rfl ?_
  refine z_if_eq 26 41 C (by first | assumption | exact ⟨by omega, by omega⟩) dX3_crease_26 (by decide) (fun c26_1 => absurd c26_1 (fun q => hw (Or.inl q))) (fun c26_1 => ?_)
  refine v_iload_n 29 4 C dX3_crease_29 rfl ?_
  refine v_iconst 30 C (iZ 1) dX3_crease_30 rfl ?_
  refine z_icmp_eq 31 41 C (by first | assumption | exact ⟨by omega, by omega⟩) (by first | assumption | exact ⟨by omega, by omega⟩) dX3_crease_31 (by decide) (fun c31_2 => absurd c31_2 (fun q => hw (Or.inr q))) (fun c31_2 => ?_)
  refine v_aload_n 34 1 C dX3_crease_34 rfl ?_
  refine v_bipush 35 C (iZ (-2)) dX3_crease_35 (by decide) ?_
  refine v_calli 37 hA (rV_Pg 37 C L_RX3_128 lk_375 lk_15 (m_refuseA hg hN hI hP 2 (by decide) (by decide)) (vg.o hg) rfl ⟨rfl, rfl⟩ (rm_ok rfl) dX3_crease_37) (fun r7 w8 h9 => ?_)
  obtain ⟨e_r7, rfl⟩ := h9
  refine v_eqi (iZ (1000000000 - (-2))) (e_r7) ?_
  exact v_iret 40 C (⟨rfl, refS S b 2, t, rfl, refRC hC, refLE hE, refInv hI, refM⟩) dX3_crease_40

set_option maxHeartbeats 4000000 in
set_option maxRecDepth 100000 in
theorem c_crease {l : Launch} {D : va_G} {kc : Nat → ClassId} {N : Nat} {ad : Nat → Nat} {S : St} {b : Bs} {t : Ts} (hg : vg N) (hN : N = 66 + 15 * bn b) (hI : Inv b) (hC : RC S b t) (hE : LE b t) {k : Nat} (hk : k < bn b) (ht : b 8 k = 1) {j : Nat} {w : Int} (hj : j < 17) (rw_ : r32 w) (hw : w = 0 ∨ w = 1) : MetK l yX3_crease cX3_crease 5 (some FieldType.int) 3 0 0 67 D kc (wl kc N ad S) [.ref (ad 0), .int (iZ (k : Int)), .int (iZ (j : Int)), .int (iZ w)] (QI D kc (wl kc N ad S) (cQ kc N ad S (if t 4 k j = 0 then (if w = 0 then t 2 k j else t 3 k j) else 1000000000) (b))) := by
  refine MetK.of (by decide +kernel) (Nat.le_of_ble_eq_true rfl) ?_
  intro p e s m below meth c C
  have hA : ∀ q, s.heap.size ≤ q → va_A (wl kc N ad S) s.heap.size q := fun _ h => Or.inr h
  show V p l e { frames := 3, cells := 0, slots := 0, locals := 67 } s m ([.ref (ad 0), .int (iZ (k : Int)), .int (iZ (j : Int)), .int (iZ w)] : List Value).toArray below meth c (MQ below (QI D kc (wl kc N ad S) (cQ kc N ad S (if t 4 k j = 0 then (if w = 0 then t 2 k j else t 3 k j) else 1000000000) (b)) s.heap.size) ([.ref (ad 0), .int (iZ (k : Int)), .int (iZ (j : Int)), .int (iZ w)] : List Value).toArray s 0 0 (va_A (wl kc N ad S) s.heap.size)) D (va_A (wl kc N ad S) s.heap.size) 5 0 0 (wl kc N ad S) 0 [(0, .ref (ad 0)), (1, .int (iZ (k : Int))), (2, .int (iZ (j : Int))), (3, .int (iZ w))] []
  have hP := hC.1
  have hW := hC.2.1
  have hEn := hC.2.2.1
  have hR := hC.2.2.2
  have hb0 := hI.1
  refine v_aload_n 0 0 C dX3_crease_0 rfl ?_
  refine v_iload_n 1 1 C dX3_crease_1 rfl ?_
  refine v_callq 2 hA (rV_Pg 2 C L_RX3_90 lk_244 lk_3 (m_partThere hg hN hI hP hk ht) (vg.o hg) rfl ⟨rfl, rfl⟩ (rm_ok rfl) dX3_crease_2) (fun r1 w2 h3 => ?_)
  obtain ⟨e_r1, rfl⟩ := h3
  refine v_eqv (.ref (ad (66 + 15 * k))) (by rw [e_r1]; rfl) ?_
  refine v_astore 5 [(4, .ref (ad (66 + 15 * k))), (0, .ref (ad 0)), (1, .int (iZ (k : Int))), (2, .int (iZ (j : Int))), (3, .int (iZ w))] C dX3_crease_5 (by decide) rfl ?_
  refine v_aload 7 0 C dX3_crease_7 rfl ?_
  refine v_ifnull 9 C dX3_crease_9 ?_
  refine v_iload_n 12 3 C dX3_crease_12 rfl ?_
  refine v_calli 13 hA (rS 13 C L_RX3_124 lk_371 (m_isStep (by first | assumption | exact ⟨by omega, by omega⟩)) rfl rfl (rm_ok rfl) dX3_crease_13) (fun r4 w5 h6 => ?_)
  obtain ⟨e_r4, rfl⟩ := h6
  refine v_eqi (iZ (bz (decide (0 ≤ (j : Int) ∧ (j : Int) < 17)))) (e_r4) ?_
  refine z_if_ne 16 25 C (bzr _) dX3_crease_16 (by decide) (fun c16_0 => ?_) (fun c16_0 => absurd c16_0 (by rw [decide_eq_true (show 0 ≤ (j : Int) ∧ (j : Int) < 17 by omega)]; decide))
  refine v_iload_n 25 4 C dX3_crease_25 rfl ?_
  refine z_if_eq 26 41 C (by first | assumption | exact ⟨by omega, by omega⟩) dX3_crease_26 (by decide) (fun c26_1 => ?_) (fun c26_1 => ?_)
  · skip
    refine v_aload 41 0 C dX3_crease_41 rfl ?_
    refine g_Pt_crease 43 C (vp.o (vp_k hN hk)).1 (vp.o (vp_k hN hk)).2 lk_127 dX3_crease_43 ?_
    refine v_iload_n 46 3 C dX3_crease_46 rfl ?_
    refine v_iload_n 47 4 C dX3_crease_47 rfl ?_
    refine v_calli 48 hA (rS 48 C L_RX3_134 lk_379 (m_coord (vp.C (vp_k hN hk)) hj (by first | assumption | exact ⟨by omega, by omega⟩) (cr_s hR hk ht hj) (cr_01 hE hk ht hj) (fun q => ⟨(cr_xy hI hR hE hk ht hj q).1, (cr_xy hI hR hE hk ht hj q).2.1⟩)) rfl rfl (rm_ok rfl) dX3_crease_48) (fun r7 w8 h9 => ?_)
    obtain ⟨e_r7, rfl⟩ := h9
    refine v_eqi (iZ (if t 4 k j = 0 then (if w = 0 then t 2 k j else t 3 k j) else 1000000000)) (e_r7) ?_
    exact v_iret 51 C (⟨rfl, S, t, rfl, hC, hE, hI, sameOn.rf⟩) dX3_crease_51
  · skip
    refine v_iload_n 29 4 C dX3_crease_29 rfl ?_
    refine v_iconst 30 C (iZ 1) dX3_crease_30 rfl ?_
    refine z_icmp_eq 31 41 C (by first | assumption | exact ⟨by omega, by omega⟩) (by first | assumption | exact ⟨by omega, by omega⟩) dX3_crease_31 (by decide) (fun c31_2 => ?_) (fun c31_2 => absurd (by omega) c31_2)
    refine v_aload 41 0 C dX3_crease_41 rfl ?_
    refine g_Pt_crease 43 C (vp.o (vp_k hN hk)).1 (vp.o (vp_k hN hk)).2 lk_127 dX3_crease_43 ?_
    refine v_iload_n 46 3 C dX3_crease_46 rfl ?_
    refine v_iload_n 47 4 C dX3_crease_47 rfl ?_
    refine v_calli 48 hA (rS 48 C L_RX3_134 lk_379 (m_coord (vp.C (vp_k hN hk)) hj (by first | assumption | exact ⟨by omega, by omega⟩) (cr_s hR hk ht hj) (cr_01 hE hk ht hj) (fun q => ⟨(cr_xy hI hR hE hk ht hj q).1, (cr_xy hI hR hE hk ht hj q).2.1⟩)) rfl rfl (rm_ok rfl) dX3_crease_48) (fun r10 w11 h12 => ?_)
    obtain ⟨e_r10, rfl⟩ := h12
    refine v_eqi (iZ (if t 4 k j = 0 then (if w = 0 then t 2 k j else t 3 k j) else 1000000000)) (e_r10) ?_
    exact v_iret 51 C (⟨rfl, S, t, rfl, hC, hE, hI, sameOn.rf⟩) dX3_crease_51

set_option maxHeartbeats 4000000 in
set_option maxRecDepth 100000 in
theorem c_miss_p {l : Launch} {D : va_G} {kc : Nat → ClassId} {N : Nat} {ad : Nat → Nat} {S : St} {b : Bs} {t : Ts} (hg : vg N) (hN : N = 66 + 15 * bn b) (hI : Inv b) (hC : RC S b t) (hE : LE b t) {z s_ : Int} (rz : r32 z) (rs : r32 s_) (hp : ¬ isP b z) : MetK l yX3_miss cX3_miss 4 (some FieldType.int) 3 0 0 79 D kc (wl kc N ad S) [.ref (ad 0), .int (iZ z), .int (iZ s_)] (QI D kc (wl kc N ad S) (cQ kc N ad S (-1) (refB b 1))) := by
  refine MetK.of (by decide +kernel) (Nat.le_of_ble_eq_true rfl) ?_
  intro p e s m below meth c C
  have hA : ∀ q, s.heap.size ≤ q → va_A (wl kc N ad S) s.heap.size q := fun _ h => Or.inr h
  show V p l e { frames := 3, cells := 0, slots := 0, locals := 79 } s m ([.ref (ad 0), .int (iZ z), .int (iZ s_)] : List Value).toArray below meth c (MQ below (QI D kc (wl kc N ad S) (cQ kc N ad S (-1) (refB b 1)) s.heap.size) ([.ref (ad 0), .int (iZ z), .int (iZ s_)] : List Value).toArray s 0 0 (va_A (wl kc N ad S) s.heap.size)) D (va_A (wl kc N ad S) s.heap.size) 4 0 0 (wl kc N ad S) 0 [(0, .ref (ad 0)), (1, .int (iZ z)), (2, .int (iZ s_))] []
  have hP := hC.1
  have hW := hC.2.1
  have hEn := hC.2.2.1
  have hR := hC.2.2.2
  have hb0 := hI.1
  refine v_aload_n 0 0 C dX3_miss_0 rfl ?_
  refine v_iload_n 1 1 C dX3_miss_1 rfl ?_
  refine v_callq 2 hA (rV_Pg 2 C L_RX3_90 lk_244 lk_3 (m_partThere_no hg hN hI hP rz hp) (vg.o hg) rfl ⟨rfl, rfl⟩ (rm_ok rfl) dX3_miss_2) (fun r1 w2 h3 => ?_)
  obtain ⟨e_r1, rfl⟩ := h3
  refine v_eqv .null (by rw [e_r1]; rfl) ?_
  refine v_astore_nN 5 [(3, .null), (0, .ref (ad 0)), (1, .int (iZ z)), (2, .int (iZ s_))] C dX3_miss_5 (by decide) rfl ?_
  refine v_aload_nN 6 0 C dX3_miss_6 rfl ?_
  refine v_ifnullN 7 17 C dX3_miss_7 (by decide) ?_
  refine v_aload_n 17 1 C dX3_miss_17 rfl ?_
  refine v_iconst 18 C (iZ (-1)) dX3_miss_18 rfl ?_
  refine v_calli 19 hA (rV_Pg 19 C L_RX3_62 lk_252 lk_5 (m_refuse hg hN hI hP 1 (by decide) (by decide)) (vg.o hg) rfl ⟨rfl, rfl⟩ (rm_ok rfl) dX3_miss_19) (fun r4 w5 h6 => ?_)
  obtain ⟨e_r4, rfl⟩ := h6
  refine v_eqi (iZ (-1)) (e_r4) ?_
  exact v_iret 22 C (⟨rfl, refS S b 1, t, rfl, refRC hC, refLE hE, refInv hI, refM⟩) dX3_miss_22

set_option maxHeartbeats 4000000 in
set_option maxRecDepth 100000 in
theorem c_miss_s {l : Launch} {D : va_G} {kc : Nat → ClassId} {N : Nat} {ad : Nat → Nat} {S : St} {b : Bs} {t : Ts} (hg : vg N) (hN : N = 66 + 15 * bn b) (hI : Inv b) (hC : RC S b t) (hE : LE b t) {k : Nat} (hk : k < bn b) (ht : b 8 k = 1) {s_ : Int} (rs : r32 s_) (hs : ¬ (0 ≤ s_ ∧ s_ < 17)) : MetK l yX3_miss cX3_miss 4 (some FieldType.int) 3 0 0 79 D kc (wl kc N ad S) [.ref (ad 0), .int (iZ (k : Int)), .int (iZ s_)] (QI D kc (wl kc N ad S) (cQ kc N ad S (-1) (refB b 1))) := by
  refine MetK.of (by decide +kernel) (Nat.le_of_ble_eq_true rfl) ?_
  intro p e s m below meth c C
  have hA : ∀ q, s.heap.size ≤ q → va_A (wl kc N ad S) s.heap.size q := fun _ h => Or.inr h
  show V p l e { frames := 3, cells := 0, slots := 0, locals := 79 } s m ([.ref (ad 0), .int (iZ (k : Int)), .int (iZ s_)] : List Value).toArray below meth c (MQ below (QI D kc (wl kc N ad S) (cQ kc N ad S (-1) (refB b 1)) s.heap.size) ([.ref (ad 0), .int (iZ (k : Int)), .int (iZ s_)] : List Value).toArray s 0 0 (va_A (wl kc N ad S) s.heap.size)) D (va_A (wl kc N ad S) s.heap.size) 4 0 0 (wl kc N ad S) 0 [(0, .ref (ad 0)), (1, .int (iZ (k : Int))), (2, .int (iZ s_))] []
  have hP := hC.1
  have hW := hC.2.1
  have hEn := hC.2.2.1
  have hR := hC.2.2.2
  have hb0 := hI.1
  refine v_aload_n 0 0 C dX3_miss_0 rfl ?_
  refine v_iload_n 1 1 C dX3_miss_1 rfl ?_
  refine v_callq 2 hA (rV_Pg 2 C L_RX3_90 lk_244 lk_3 (m_partThere hg hN hI hP hk ht) (vg.o hg) rfl ⟨rfl, rfl⟩ (rm_ok rfl) dX3_miss_2) (fun r1 w2 h3 => ?_)
  obtain ⟨e_r1, rfl⟩ := h3
  refine v_eqv (.ref (ad (66 + 15 * k))) (by rw [e_r1]; rfl) ?_
  refine v_astore_n 5 [(3, .ref (ad (66 + 15 * k))), (0, .ref (ad 0)), (1, .int (iZ (k : Int))), (2, .int (iZ s_))] C dX3_miss_5 (by decide) rfl ?_
  refine v_aload_n 6 0 C dX3_miss_6 rfl ?_
  refine v_ifnull 7 C dX3_miss_7 ?_
  refine v_iload_n 10 3 C dX3_miss_10 rfl ?_
  refine v_calli 11 hA (rS 11 C L_RX3_124 lk_371 (m_isStep (by first | assumption | exact ⟨by omega, by omega⟩)) rfl rfl (rm_ok rfl) dX3_miss_11) (fun r4 w5 h6 => ?_)
  obtain ⟨e_r4, rfl⟩ := h6
  refine v_eqi (iZ (bz (decide (0 ≤ s_ ∧ s_ < 17)))) (e_r4) ?_
  refine z_if_ne 14 23 C (bzr _) dX3_miss_14 (by decide) (fun c14_0 => absurd c14_0 (fun q => q (by rw [decide_eq_false hs]; rfl))) (fun c14_0 => ?_)
  refine v_aload_n 17 1 C dX3_miss_17 rfl ?_
  refine v_iconst 18 C (iZ (-1)) dX3_miss_18 rfl ?_
  refine v_calli 19 hA (rV_Pg 19 C L_RX3_62 lk_252 lk_5 (m_refuse hg hN hI hP 1 (by decide) (by decide)) (vg.o hg) rfl ⟨rfl, rfl⟩ (rm_ok rfl) dX3_miss_19) (fun r7 w8 h9 => ?_)
  obtain ⟨e_r7, rfl⟩ := h9
  refine v_eqi (iZ (-1)) (e_r7) ?_
  exact v_iret 22 C (⟨rfl, refS S b 1, t, rfl, refRC hC, refLE hE, refInv hI, refM⟩) dX3_miss_22

set_option maxHeartbeats 4000000 in
set_option maxRecDepth 100000 in
theorem c_miss {l : Launch} {D : va_G} {kc : Nat → ClassId} {N : Nat} {ad : Nat → Nat} {S : St} {b : Bs} {t : Ts} (hg : vg N) (hN : N = 66 + 15 * bn b) (hI : Inv b) (hC : RC S b t) (hE : LE b t) {k : Nat} (hk : k < bn b) (ht : b 8 k = 1) {j : Nat} (hj : j < 17) : MetK l yX3_miss cX3_miss 4 (some FieldType.int) 3 0 0 79 D kc (wl kc N ad S) [.ref (ad 0), .int (iZ (k : Int)), .int (iZ (j : Int))] (QI D kc (wl kc N ad S) (cQ kc N ad S (if t 4 k j = 0 then missZ (t 0 (2 * k) j) (t 1 (2 * k) j) (t 0 (2 * k + 1) j) (t 1 (2 * k + 1) j) (t 2 k j) (t 3 k j) (b 6 (2 * k)) (b 6 (2 * k + 1)) else 0) (b))) := by
  refine MetK.of (by decide +kernel) (Nat.le_of_ble_eq_true rfl) ?_
  intro p e s m below meth c C
  have hA : ∀ q, s.heap.size ≤ q → va_A (wl kc N ad S) s.heap.size q := fun _ h => Or.inr h
  show V p l e { frames := 3, cells := 0, slots := 0, locals := 79 } s m ([.ref (ad 0), .int (iZ (k : Int)), .int (iZ (j : Int))] : List Value).toArray below meth c (MQ below (QI D kc (wl kc N ad S) (cQ kc N ad S (if t 4 k j = 0 then missZ (t 0 (2 * k) j) (t 1 (2 * k) j) (t 0 (2 * k + 1) j) (t 1 (2 * k + 1) j) (t 2 k j) (t 3 k j) (b 6 (2 * k)) (b 6 (2 * k + 1)) else 0) (b)) s.heap.size) ([.ref (ad 0), .int (iZ (k : Int)), .int (iZ (j : Int))] : List Value).toArray s 0 0 (va_A (wl kc N ad S) s.heap.size)) D (va_A (wl kc N ad S) s.heap.size) 4 0 0 (wl kc N ad S) 0 [(0, .ref (ad 0)), (1, .int (iZ (k : Int))), (2, .int (iZ (j : Int)))] []
  have hP := hC.1
  have hW := hC.2.1
  have hEn := hC.2.2.1
  have hR := hC.2.2.2
  have hb0 := hI.1
  have J0 := (hI.2.2.2.2 k hk (2 * k) (Or.inl rfl)).2.2.1
  have J1 := (hI.2.2.2.2 k hk (2 * k + 1) (Or.inr rfl)).2.2.1
  refine v_aload_n 0 0 C dX3_miss_0 rfl ?_
  refine v_iload_n 1 1 C dX3_miss_1 rfl ?_
  refine v_callq 2 hA (rV_Pg 2 C L_RX3_90 lk_244 lk_3 (m_partThere hg hN hI hP hk ht) (vg.o hg) rfl ⟨rfl, rfl⟩ (rm_ok rfl) dX3_miss_2) (fun r1 w2 h3 => ?_)
  obtain ⟨e_r1, rfl⟩ := h3
  refine v_eqv (.ref (ad (66 + 15 * k))) (by rw [e_r1]; rfl) ?_
  refine v_astore_n 5 [(3, .ref (ad (66 + 15 * k))), (0, .ref (ad 0)), (1, .int (iZ (k : Int))), (2, .int (iZ (j : Int)))] C dX3_miss_5 (by decide) rfl ?_
  refine v_aload_n 6 0 C dX3_miss_6 rfl ?_
  refine v_ifnull 7 C dX3_miss_7 ?_
  refine v_iload_n 10 3 C dX3_miss_10 rfl ?_
  refine v_calli 11 hA (rS 11 C L_RX3_124 lk_371 (m_isStep (by first | assumption | exact ⟨by omega, by omega⟩)) rfl rfl (rm_ok rfl) dX3_miss_11) (fun r4 w5 h6 => ?_)
  obtain ⟨e_r4, rfl⟩ := h6
  refine v_eqi (iZ (bz (decide (0 ≤ (j : Int) ∧ (j : Int) < 17)))) (e_r4) ?_
  refine z_if_ne 14 23 C (bzr _) dX3_miss_14 (by decide) (fun c14_0 => ?_) (fun c14_0 => absurd c14_0 (by rw [decide_eq_true (show 0 ≤ (j : Int) ∧ (j : Int) < 17 by omega)]; decide))
  refine v_aload_n 23 0 C dX3_miss_23 rfl ?_
  refine v_iload_n 24 3 C dX3_miss_24 rfl ?_
  refine v_calli 25 hA (rV_Pt 25 C L_RX3_149 lk_390 lk_391 (m_missAt (vp_k hN hk) hj (cr_s hR hk ht hj) (cr_01 hE hk ht hj) (fun q => by have a := cr_xy hI hR hE hk ht hj q; have c := hi_xy hI hR hE hk ht hj q; exact ⟨c.1.1, c.1.2.1, c.1.2.2.1, c.1.2.2.2, a.1, a.2.1, c.2.1.1, c.2.1.2, c.2.2.1, c.2.2.2, a.2.2.1, a.2.2.2⟩) (hP.2.2.2.2.2 k hk).2.2.2.2.2.2.2.1 (hP.2.2.2.2.2 k hk).2.2.2.2.2.2.2.2 ⟨by omega, by omega⟩ ⟨by omega, by omega⟩) (vp.o (vp_k hN hk)) rfl ⟨rfl, rfl⟩ (rm_ok rfl) dX3_miss_25) (fun r7 w8 h9 => ?_)
  obtain ⟨e_r7, rfl⟩ := h9
  refine v_eqi (iZ (if t 4 k j = 0 then missZ (t 0 (2 * k) j) (t 1 (2 * k) j) (t 0 (2 * k + 1) j) (t 1 (2 * k + 1) j) (t 2 k j) (t 3 k j) (b 6 (2 * k)) (b 6 (2 * k + 1)) else 0)) (e_r7) ?_
  exact v_iret 28 C (⟨rfl, S, t, rfl, hC, hE, hI, sameOn.rf⟩) dX3_miss_28

set_option maxHeartbeats 4000000 in
set_option maxRecDepth 100000 in
theorem c_stuck_p {l : Launch} {D : va_G} {kc : Nat → ClassId} {N : Nat} {ad : Nat → Nat} {S : St} {b : Bs} {t : Ts} (hg : vg N) (hN : N = 66 + 15 * bn b) (hI : Inv b) (hC : RC S b t) (hE : LE b t) {z : Int} (rz : r32 z) (hp : ¬ isP b z) : MetK l yX3_stuck cX3_stuck 3 (some FieldType.int) 3 0 0 67 D kc (wl kc N ad S) [.ref (ad 0), .int (iZ z)] (QI D kc (wl kc N ad S) (cQ kc N ad S (-1) (refB b 1))) := by
  refine MetK.of (by decide +kernel) (Nat.le_of_ble_eq_true rfl) ?_
  intro p e s m below meth c C
  have hA : ∀ q, s.heap.size ≤ q → va_A (wl kc N ad S) s.heap.size q := fun _ h => Or.inr h
  show V p l e { frames := 3, cells := 0, slots := 0, locals := 67 } s m ([.ref (ad 0), .int (iZ z)] : List Value).toArray below meth c (MQ below (QI D kc (wl kc N ad S) (cQ kc N ad S (-1) (refB b 1)) s.heap.size) ([.ref (ad 0), .int (iZ z)] : List Value).toArray s 0 0 (va_A (wl kc N ad S) s.heap.size)) D (va_A (wl kc N ad S) s.heap.size) 3 0 0 (wl kc N ad S) 0 [(0, .ref (ad 0)), (1, .int (iZ z))] []
  have hP := hC.1
  have hW := hC.2.1
  have hEn := hC.2.2.1
  have hR := hC.2.2.2
  have hb0 := hI.1
  refine v_aload_n 0 0 C dX3_stuck_0 rfl ?_
  refine v_iload_n 1 1 C dX3_stuck_1 rfl ?_
  refine v_callq 2 hA (rV_Pg 2 C L_RX3_90 lk_244 lk_3 (m_partThere_no hg hN hI hP rz hp) (vg.o hg) rfl ⟨rfl, rfl⟩ (rm_ok rfl) dX3_stuck_2) (fun r1 w2 h3 => ?_)
  obtain ⟨e_r1, rfl⟩ := h3
  refine v_eqv .null (by rw [e_r1]; rfl) ?_
  refine v_astore_nN 5 [(2, .null), (0, .ref (ad 0)), (1, .int (iZ z))] C dX3_stuck_5 (by decide) rfl ?_
  refine v_aload_nN 6 0 C dX3_stuck_6 rfl ?_
  refine v_ifnonnullN 7 C dX3_stuck_7 ?_
  refine v_aload_n 10 1 C dX3_stuck_10 rfl ?_
  refine v_iconst 11 C (iZ (-1)) dX3_stuck_11 rfl ?_
  refine v_calli 12 hA (rV_Pg 12 C L_RX3_62 lk_252 lk_5 (m_refuse hg hN hI hP 1 (by decide) (by decide)) (vg.o hg) rfl ⟨rfl, rfl⟩ (rm_ok rfl) dX3_stuck_12) (fun r4 w5 h6 => ?_)
  obtain ⟨e_r4, rfl⟩ := h6
  refine v_eqi (iZ (-1)) (e_r4) ?_
  exact v_iret 15 C (⟨rfl, refS S b 1, t, rfl, refRC hC, refLE hE, refInv hI, refM⟩) dX3_stuck_15

set_option maxHeartbeats 4000000 in
set_option maxRecDepth 100000 in
theorem c_stuck {l : Launch} {D : va_G} {kc : Nat → ClassId} {N : Nat} {ad : Nat → Nat} {S : St} {b : Bs} {t : Ts} (hg : vg N) (hN : N = 66 + 15 * bn b) (hI : Inv b) (hC : RC S b t) (hE : LE b t) {k : Nat} (hk : k < bn b) (ht : b 8 k = 1) : MetK l yX3_stuck cX3_stuck 3 (some FieldType.int) 3 0 0 67 D kc (wl kc N ad S) [.ref (ad 0), .int (iZ (k : Int))] (QI D kc (wl kc N ad S) (cQ kc N ad S (fsZ (t 4 k)) (b))) := by
  refine MetK.of (by decide +kernel) (Nat.le_of_ble_eq_true rfl) ?_
  intro p e s m below meth c C
  have hA : ∀ q, s.heap.size ≤ q → va_A (wl kc N ad S) s.heap.size q := fun _ h => Or.inr h
  show V p l e { frames := 3, cells := 0, slots := 0, locals := 67 } s m ([.ref (ad 0), .int (iZ (k : Int))] : List Value).toArray below meth c (MQ below (QI D kc (wl kc N ad S) (cQ kc N ad S (fsZ (t 4 k)) (b)) s.heap.size) ([.ref (ad 0), .int (iZ (k : Int))] : List Value).toArray s 0 0 (va_A (wl kc N ad S) s.heap.size)) D (va_A (wl kc N ad S) s.heap.size) 3 0 0 (wl kc N ad S) 0 [(0, .ref (ad 0)), (1, .int (iZ (k : Int)))] []
  have hP := hC.1
  have hW := hC.2.1
  have hEn := hC.2.2.1
  have hR := hC.2.2.2
  have hb0 := hI.1
  refine v_aload_n 0 0 C dX3_stuck_0 rfl ?_
  refine v_iload_n 1 1 C dX3_stuck_1 rfl ?_
  refine v_callq 2 hA (rV_Pg 2 C L_RX3_90 lk_244 lk_3 (m_partThere hg hN hI hP hk ht) (vg.o hg) rfl ⟨rfl, rfl⟩ (rm_ok rfl) dX3_stuck_2) (fun r1 w2 h3 => ?_)
  obtain ⟨e_r1, rfl⟩ := h3
  refine v_eqv (.ref (ad (66 + 15 * k))) (by rw [e_r1]; rfl) ?_
  refine v_astore_n 5 [(2, .ref (ad (66 + 15 * k))), (0, .ref (ad 0)), (1, .int (iZ (k : Int)))] C dX3_stuck_5 (by decide) rfl ?_
  refine v_aload_n 6 0 C dX3_stuck_6 rfl ?_
  refine v_ifnonnull 7 16 C dX3_stuck_7 (by decide) ?_
  refine v_aload_n 16 0 C dX3_stuck_16 rfl ?_
  refine g_Pt_crease 17 C (vp.o (vp_k hN hk)).1 (vp.o (vp_k hN hk)).2 lk_127 dX3_stuck_17 ?_
  refine v_calli 20 hA (rV_Tr 20 C L_RX3_152 lk_402 lk_403 (m_firstStuck (vp.C (vp_k hN hk)) (sk := t 4 k) (fun j hj => ⟨cr_s hR hk ht hj, cr_01 hE hk ht hj⟩)) (vt.o (vp.C (vp_k hN hk))) rfl ⟨rfl, rfl⟩ (rm_ok rfl) dX3_stuck_20) (fun r4 w5 h6 => ?_)
  obtain ⟨e_r4, rfl⟩ := h6
  refine v_eqi (iZ (fsZ (t 4 k))) (e_r4) ?_
  exact v_iret 23 C (⟨rfl, S, t, rfl, hC, hE, hI, sameOn.rf⟩) dX3_stuck_23

set_option maxHeartbeats 4000000 in
set_option maxRecDepth 100000 in
theorem c_out_s {l : Launch} {D : va_G} {kc : Nat → ClassId} {N : Nat} {ad : Nat → Nat} {S : St} {b : Bs} {t : Ts} (hg : vg N) (hN : N = 66 + 15 * bn b) (hI : Inv b) (hC : RC S b t) (hE : LE b t) {s_ : Int} (rs : r32 s_) (hs : ¬ (0 ≤ s_ ∧ s_ < 17)) : MetK l yX3_out cX3_out 2 (some FieldType.int) 4 0 0 93 D kc (wl kc N ad S) [.ref (ad 0), .int (iZ s_)] (QI D kc (wl kc N ad S) (cQ kc N ad S (-1) (refB b 1))) := by
  refine MetK.of (by decide +kernel) (Nat.le_of_ble_eq_true rfl) ?_
  intro p e s m below meth c C
  have hA : ∀ q, s.heap.size ≤ q → va_A (wl kc N ad S) s.heap.size q := fun _ h => Or.inr h
  show V p l e { frames := 4, cells := 0, slots := 0, locals := 93 } s m ([.ref (ad 0), .int (iZ s_)] : List Value).toArray below meth c (MQ below (QI D kc (wl kc N ad S) (cQ kc N ad S (-1) (refB b 1)) s.heap.size) ([.ref (ad 0), .int (iZ s_)] : List Value).toArray s 0 0 (va_A (wl kc N ad S) s.heap.size)) D (va_A (wl kc N ad S) s.heap.size) 2 0 0 (wl kc N ad S) 0 [(0, .ref (ad 0)), (1, .int (iZ s_))] []
  have hP := hC.1
  have hW := hC.2.1
  have hEn := hC.2.2.1
  have hR := hC.2.2.2
  have hb0 := hI.1
  refine v_iload_n 0 1 C dX3_out_0 rfl ?_
  refine v_calli 1 hA (rS 1 C L_RX3_124 lk_371 (m_isStep (by first | assumption | exact ⟨by omega, by omega⟩)) rfl rfl (rm_ok rfl) dX3_out_1) (fun r1 w2 h3 => ?_)
  obtain ⟨e_r1, rfl⟩ := h3
  refine v_eqi (iZ (bz (decide (0 ≤ s_ ∧ s_ < 17)))) (e_r1) ?_
  refine z_if_ne 4 13 C (bzr _) dX3_out_4 (by decide) (fun c4_0 => absurd c4_0 (fun q => q (by rw [decide_eq_false hs]; rfl))) (fun c4_0 => ?_)
  refine v_aload_n 7 0 C dX3_out_7 rfl ?_
  refine v_iconst 8 C (iZ (-1)) dX3_out_8 rfl ?_
  refine v_calli 9 hA (rV_Pg 9 C L_RX3_62 lk_252 lk_5 (m_refuse hg hN hI hP 1 (by decide) (by decide)) (vg.o hg) rfl ⟨rfl, rfl⟩ (rm_ok rfl) dX3_out_9) (fun r4 w5 h6 => ?_)
  obtain ⟨e_r4, rfl⟩ := h6
  refine v_eqi (iZ (-1)) (e_r4) ?_
  exact v_iret 12 C (⟨rfl, refS S b 1, t, rfl, refRC hC, refLE hE, refInv hI, refM⟩) dX3_out_12

set_option maxHeartbeats 4000000 in
set_option maxRecDepth 100000 in
theorem c_out {l : Launch} {D : va_G} {kc : Nat → ClassId} {N : Nat} {ad : Nat → Nat} {S : St} {b : Bs} {t : Ts} (hg : vg N) (hN : N = 66 + 15 * bn b) (hI : Inv b) (hC : RC S b t) (hE : LE b t) {j : Nat} (hj : j < 17) : MetK l yX3_out cX3_out 2 (some FieldType.int) 4 0 0 93 D kc (wl kc N ad S) [.ref (ad 0), .int (iZ (j : Int))] (QI D kc (wl kc N ad S) (cQ kc N ad S (outN b t j) (b))) := by
  refine MetK.of (by decide +kernel) (Nat.le_of_ble_eq_true rfl) ?_
  intro p e s m below meth c C
  have hA : ∀ q, s.heap.size ≤ q → va_A (wl kc N ad S) s.heap.size q := fun _ h => Or.inr h
  show V p l e { frames := 4, cells := 0, slots := 0, locals := 93 } s m ([.ref (ad 0), .int (iZ (j : Int))] : List Value).toArray below meth c (MQ below (QI D kc (wl kc N ad S) (cQ kc N ad S (outN b t j) (b)) s.heap.size) ([.ref (ad 0), .int (iZ (j : Int))] : List Value).toArray s 0 0 (va_A (wl kc N ad S) s.heap.size)) D (va_A (wl kc N ad S) s.heap.size) 2 0 0 (wl kc N ad S) 0 [(0, .ref (ad 0)), (1, .int (iZ (j : Int)))] []
  have hP := hC.1
  have hW := hC.2.1
  have hEn := hC.2.2.1
  have hR := hC.2.2.2
  have hb0 := hI.1
  refine v_iload_n 0 1 C dX3_out_0 rfl ?_
  refine v_calli 1 hA (rS 1 C L_RX3_124 lk_371 (m_isStep (by first | assumption | exact ⟨by omega, by omega⟩)) rfl rfl (rm_ok rfl) dX3_out_1) (fun r1 w2 h3 => ?_)
  obtain ⟨e_r1, rfl⟩ := h3
  refine v_eqi (iZ (bz (decide (0 ≤ (j : Int) ∧ (j : Int) < 17)))) (e_r1) ?_
  refine z_if_ne 4 13 C (bzr _) dX3_out_4 (by decide) (fun c4_0 => ?_) (fun c4_0 => absurd c4_0 (by rw [decide_eq_true (show 0 ≤ (j : Int) ∧ (j : Int) < 17 by omega)]; decide))
  refine v_aload_n 13 0 C dX3_out_13 rfl ?_
  refine v_iload_n 14 1 C dX3_out_14 rfl ?_
  refine v_calli 15 hA (rV_Pg 15 C L_RX3_155 lk_411 lk_16 (m_outside hg hN hI hP hR hE hj) (vg.o hg) rfl ⟨rfl, rfl⟩ (rm_ok rfl) dX3_out_15) (fun r4 w5 h6 => ?_)
  obtain ⟨e_r4, rfl⟩ := h6
  refine v_eqi (iZ (outN b t j)) (e_r4) ?_
  exact v_iret 18 C (⟨rfl, S, t, rfl, hC, hE, hI, sameOn.rf⟩) dX3_out_18

set_option maxHeartbeats 4000000 in
set_option maxRecDepth 100000 in
theorem c_tall_s {l : Launch} {D : va_G} {kc : Nat → ClassId} {N : Nat} {ad : Nat → Nat} {S : St} {b : Bs} {t : Ts} (hg : vg N) (hN : N = 66 + 15 * bn b) (hI : Inv b) (hC : RC S b t) (hE : LE b t) {s_ : Int} (rs : r32 s_) (hs : ¬ (0 ≤ s_ ∧ s_ < 17)) : MetK l yX3_tall cX3_tall 2 (some FieldType.int) 4 0 0 92 D kc (wl kc N ad S) [.ref (ad 0), .int (iZ s_)] (QI D kc (wl kc N ad S) (cQ kc N ad S (1000000000 - (-1)) (refB b 1))) := by
  refine MetK.of (by decide +kernel) (Nat.le_of_ble_eq_true rfl) ?_
  intro p e s m below meth c C
  have hA : ∀ q, s.heap.size ≤ q → va_A (wl kc N ad S) s.heap.size q := fun _ h => Or.inr h
  show V p l e { frames := 4, cells := 0, slots := 0, locals := 92 } s m ([.ref (ad 0), .int (iZ s_)] : List Value).toArray below meth c (MQ below (QI D kc (wl kc N ad S) (cQ kc N ad S (1000000000 - (-1)) (refB b 1)) s.heap.size) ([.ref (ad 0), .int (iZ s_)] : List Value).toArray s 0 0 (va_A (wl kc N ad S) s.heap.size)) D (va_A (wl kc N ad S) s.heap.size) 2 0 0 (wl kc N ad S) 0 [(0, .ref (ad 0)), (1, .int (iZ s_))] []
  have hP := hC.1
  have hW := hC.2.1
  have hEn := hC.2.2.1
  have hR := hC.2.2.2
  have hb0 := hI.1
  refine v_iload_n 0 1 C dX3_tall_0 rfl ?_
  refine v_calli 1 hA (rS 1 C L_RX3_124 lk_371 (m_isStep (by first | assumption | exact ⟨by omega, by omega⟩)) rfl rfl (rm_ok rfl) dX3_tall_1) (fun r1 w2 h3 => ?_)
  obtain ⟨e_r1, rfl⟩ := h3
  refine v_eqi (iZ (bz (decide (0 ≤ s_ ∧ s_ < 17)))) (e_r1) ?_
  refine z_if_ne 4 13 C (bzr _) dX3_tall_4 (by decide) (fun c4_0 => absurd c4_0 (fun q => q (by rw [decide_eq_false hs]; rfl))) (fun c4_0 => ?_)
  refine v_aload_n 7 0 C dX3_tall_7 rfl ?_
  refine v_iconst 8 C (iZ (-1)) dX3_tall_8 rfl ?_
  refine v_calli 9 hA (rV_Pg 9 C L_RX3_128 lk_375 lk_15 (m_refuseA hg hN hI hP 1 (by decide) (by decide)) (vg.o hg) rfl ⟨rfl, rfl⟩ (rm_ok rfl) dX3_tall_9) (fun r4 w5 h6 => ?_)
  obtain ⟨e_r4, rfl⟩ := h6
  refine v_eqi (iZ (1000000000 - (-1))) (e_r4) ?_
  exact v_iret 12 C (⟨rfl, refS S b 1, t, rfl, refRC hC, refLE hE, refInv hI, refM⟩) dX3_tall_12

set_option maxHeartbeats 4000000 in
set_option maxRecDepth 100000 in
theorem c_tall {l : Launch} {D : va_G} {kc : Nat → ClassId} {N : Nat} {ad : Nat → Nat} {S : St} {b : Bs} {t : Ts} (hg : vg N) (hN : N = 66 + 15 * bn b) (hI : Inv b) (hC : RC S b t) (hE : LE b t) {j : Nat} (hj : j < 17) : MetK l yX3_tall cX3_tall 2 (some FieldType.int) 4 0 0 92 D kc (wl kc N ad S) [.ref (ad 0), .int (iZ (j : Int))] (QI D kc (wl kc N ad S) (cQ kc N ad S (tlN b t j) (b))) := by
  refine MetK.of (by decide +kernel) (Nat.le_of_ble_eq_true rfl) ?_
  intro p e s m below meth c C
  have hA : ∀ q, s.heap.size ≤ q → va_A (wl kc N ad S) s.heap.size q := fun _ h => Or.inr h
  show V p l e { frames := 4, cells := 0, slots := 0, locals := 92 } s m ([.ref (ad 0), .int (iZ (j : Int))] : List Value).toArray below meth c (MQ below (QI D kc (wl kc N ad S) (cQ kc N ad S (tlN b t j) (b)) s.heap.size) ([.ref (ad 0), .int (iZ (j : Int))] : List Value).toArray s 0 0 (va_A (wl kc N ad S) s.heap.size)) D (va_A (wl kc N ad S) s.heap.size) 2 0 0 (wl kc N ad S) 0 [(0, .ref (ad 0)), (1, .int (iZ (j : Int)))] []
  have hP := hC.1
  have hW := hC.2.1
  have hEn := hC.2.2.1
  have hR := hC.2.2.2
  have hb0 := hI.1
  refine v_iload_n 0 1 C dX3_tall_0 rfl ?_
  refine v_calli 1 hA (rS 1 C L_RX3_124 lk_371 (m_isStep (by first | assumption | exact ⟨by omega, by omega⟩)) rfl rfl (rm_ok rfl) dX3_tall_1) (fun r1 w2 h3 => ?_)
  obtain ⟨e_r1, rfl⟩ := h3
  refine v_eqi (iZ (bz (decide (0 ≤ (j : Int) ∧ (j : Int) < 17)))) (e_r1) ?_
  refine z_if_ne 4 13 C (bzr _) dX3_tall_4 (by decide) (fun c4_0 => ?_) (fun c4_0 => absurd c4_0 (by rw [decide_eq_true (show 0 ≤ (j : Int) ∧ (j : Int) < 17 by omega)]; decide))
  refine v_aload_n 13 0 C dX3_tall_13 rfl ?_
  refine v_iload_n 14 1 C dX3_tall_14 rfl ?_
  refine v_calli 15 hA (rV_Pg 15 C L_RX3_169 lk_450 lk_19 (m_tallest hg hN hI hP hR hE hj) (vg.o hg) rfl ⟨rfl, rfl⟩ (rm_ok rfl) dX3_tall_15) (fun r4 w5 h6 => ?_)
  obtain ⟨e_r4, rfl⟩ := h6
  refine v_eqi (iZ (tlN b t j)) (e_r4) ?_
  exact v_iret 18 C (⟨rfl, S, t, rfl, hC, hE, hI, sameOn.rf⟩) dX3_tall_18

set_option maxHeartbeats 4000000 in
set_option maxRecDepth 100000 in
theorem c_move_p {l : Launch} {D : va_G} {kc : Nat → ClassId} {N : Nat} {ad : Nat → Nat} {S : St} {b : Bs} {t : Ts} (hg : vg N) (hN : N = 66 + 15 * bn b) (hI : Inv b) (hC : RC S b t) (hE : LE b t) {z s_ : Int} (rz : r32 z) (rs : r32 s_) (hp : ¬ isP b z) : MetK l yX3_move cX3_move 4 (some FieldType.int) 3 0 0 67 D kc (wl kc N ad S) [.ref (ad 0), .int (iZ z), .int (iZ s_)] (QI D kc (wl kc N ad S) (cQ kc N ad S (1000000000 - (-1)) (refB b 1))) := by
  refine MetK.of (by decide +kernel) (Nat.le_of_ble_eq_true rfl) ?_
  intro p e s m below meth c C
  have hA : ∀ q, s.heap.size ≤ q → va_A (wl kc N ad S) s.heap.size q := fun _ h => Or.inr h
  show V p l e { frames := 3, cells := 0, slots := 0, locals := 67 } s m ([.ref (ad 0), .int (iZ z), .int (iZ s_)] : List Value).toArray below meth c (MQ below (QI D kc (wl kc N ad S) (cQ kc N ad S (1000000000 - (-1)) (refB b 1)) s.heap.size) ([.ref (ad 0), .int (iZ z), .int (iZ s_)] : List Value).toArray s 0 0 (va_A (wl kc N ad S) s.heap.size)) D (va_A (wl kc N ad S) s.heap.size) 4 0 0 (wl kc N ad S) 0 [(0, .ref (ad 0)), (1, .int (iZ z)), (2, .int (iZ s_))] []
  have hP := hC.1
  have hW := hC.2.1
  have hEn := hC.2.2.1
  have hR := hC.2.2.2
  have hb0 := hI.1
  refine v_aload_n 0 0 C dX3_move_0 rfl ?_
  refine v_iload_n 1 1 C dX3_move_1 rfl ?_
  refine v_callq 2 hA (rV_Pg 2 C L_RX3_90 lk_244 lk_3 (m_partThere_no hg hN hI hP rz hp) (vg.o hg) rfl ⟨rfl, rfl⟩ (rm_ok rfl) dX3_move_2) (fun r1 w2 h3 => ?_)
  obtain ⟨e_r1, rfl⟩ := h3
  refine v_eqv .null (by rw [e_r1]; rfl) ?_
  refine v_astore_nN 5 [(3, .null), (0, .ref (ad 0)), (1, .int (iZ z)), (2, .int (iZ s_))] C dX3_move_5 (by decide) rfl ?_
  refine v_aload_nN 6 0 C dX3_move_6 rfl ?_
  refine v_ifnullN 7 23 C dX3_move_7 (by decide) ?_
  refine v_aload_n 23 1 C dX3_move_23 rfl ?_
  refine v_iconst 24 C (iZ (-1)) dX3_move_24 rfl ?_
  refine v_calli 25 hA (rV_Pg 25 C L_RX3_128 lk_375 lk_15 (m_refuseA hg hN hI hP 1 (by decide) (by decide)) (vg.o hg) rfl ⟨rfl, rfl⟩ (rm_ok rfl) dX3_move_25) (fun r4 w5 h6 => ?_)
  obtain ⟨e_r4, rfl⟩ := h6
  refine v_eqi (iZ (1000000000 - (-1))) (e_r4) ?_
  exact v_iret 28 C (⟨rfl, refS S b 1, t, rfl, refRC hC, refLE hE, refInv hI, refM⟩) dX3_move_28

set_option maxHeartbeats 4000000 in
set_option maxRecDepth 100000 in
theorem c_move_s {l : Launch} {D : va_G} {kc : Nat → ClassId} {N : Nat} {ad : Nat → Nat} {S : St} {b : Bs} {t : Ts} (hg : vg N) (hN : N = 66 + 15 * bn b) (hI : Inv b) (hC : RC S b t) (hE : LE b t) {k : Nat} (hk : k < bn b) (ht : b 8 k = 1) {s_ : Int} (rs : r32 s_) (hs : ¬ (0 ≤ s_ ∧ s_ < 16)) : MetK l yX3_move cX3_move 4 (some FieldType.int) 3 0 0 67 D kc (wl kc N ad S) [.ref (ad 0), .int (iZ (k : Int)), .int (iZ s_)] (QI D kc (wl kc N ad S) (cQ kc N ad S (1000000000 - (-1)) (refB b 1))) := by
  refine MetK.of (by decide +kernel) (Nat.le_of_ble_eq_true rfl) ?_
  intro p e s m below meth c C
  have hA : ∀ q, s.heap.size ≤ q → va_A (wl kc N ad S) s.heap.size q := fun _ h => Or.inr h
  show V p l e { frames := 3, cells := 0, slots := 0, locals := 67 } s m ([.ref (ad 0), .int (iZ (k : Int)), .int (iZ s_)] : List Value).toArray below meth c (MQ below (QI D kc (wl kc N ad S) (cQ kc N ad S (1000000000 - (-1)) (refB b 1)) s.heap.size) ([.ref (ad 0), .int (iZ (k : Int)), .int (iZ s_)] : List Value).toArray s 0 0 (va_A (wl kc N ad S) s.heap.size)) D (va_A (wl kc N ad S) s.heap.size) 4 0 0 (wl kc N ad S) 0 [(0, .ref (ad 0)), (1, .int (iZ (k : Int))), (2, .int (iZ s_))] []
  have hP := hC.1
  have hW := hC.2.1
  have hEn := hC.2.2.1
  have hR := hC.2.2.2
  have hb0 := hI.1
  refine v_aload_n 0 0 C dX3_move_0 rfl ?_
  refine v_iload_n 1 1 C dX3_move_1 rfl ?_
  refine v_callq 2 hA (rV_Pg 2 C L_RX3_90 lk_244 lk_3 (m_partThere hg hN hI hP hk ht) (vg.o hg) rfl ⟨rfl, rfl⟩ (rm_ok rfl) dX3_move_2) (fun r1 w2 h3 => ?_)
  obtain ⟨e_r1, rfl⟩ := h3
  refine v_eqv (.ref (ad (66 + 15 * k))) (by rw [e_r1]; rfl) ?_
  refine v_astore_n 5 [(3, .ref (ad (66 + 15 * k))), (0, .ref (ad 0)), (1, .int (iZ (k : Int))), (2, .int (iZ s_))] C dX3_move_5 (by decide) rfl ?_
  refine v_aload_n 6 0 C dX3_move_6 rfl ?_
  refine v_ifnull 7 C dX3_move_7 ?_
  refine v_iload_n 10 3 C dX3_move_10 rfl ?_
  refine v_calli 11 hA (rS 11 C L_RX3_124 lk_371 (m_isStep (by first | assumption | exact ⟨by omega, by omega⟩)) rfl rfl (rm_ok rfl) dX3_move_11) (fun r4 w5 h6 => ?_)
  obtain ⟨e_r4, rfl⟩ := h6
  refine v_eqi (iZ (bz (decide (0 ≤ s_ ∧ s_ < 17)))) (e_r4) ?_
  refine z_if_eq 14 23 C (bzr _) dX3_move_14 (by decide) (fun c14_0 => ?_) (fun c14_0 => ?_)
  · skip
    refine v_aload_n 23 1 C dX3_move_23 rfl ?_
    refine v_iconst 24 C (iZ (-1)) dX3_move_24 rfl ?_
    refine v_calli 25 hA (rV_Pg 25 C L_RX3_128 lk_375 lk_15 (m_refuseA hg hN hI hP 1 (by decide) (by decide)) (vg.o hg) rfl ⟨rfl, rfl⟩ (rm_ok rfl) dX3_move_25) (fun r7 w8 h9 => ?_)
    obtain ⟨e_r7, rfl⟩ := h9
    refine v_eqi (iZ (1000000000 - (-1))) (e_r7) ?_
    exact v_iret 28 C (⟨rfl, refS S b 1, t, rfl, refRC hC, refLE hE, refInv hI, refM⟩) dX3_move_28
  · skip
    refine v_iload_n 17 3 C dX3_move_17 rfl ?_
    refine v_bipush 18 C (iZ 16) dX3_move_18 (by decide) ?_
    refine z_icmp_ne 20 29 C (by first | assumption | exact ⟨by omega, by omega⟩) (by first | assumption | exact ⟨by omega, by omega⟩) dX3_move_20 (by decide) (fun c20_1 => absurd c20_1 (fun q => by have := of_decide_eq_true (bz_ne c14_0); omega)) (fun c20_1 => ?_)
    refine v_aload_n 23 1 C dX3_move_23 rfl ?_
    refine v_iconst 24 C (iZ (-1)) dX3_move_24 rfl ?_
    refine v_calli 25 hA (rV_Pg 25 C L_RX3_128 lk_375 lk_15 (m_refuseA hg hN hI hP 1 (by decide) (by decide)) (vg.o hg) rfl ⟨rfl, rfl⟩ (rm_ok rfl) dX3_move_25) (fun r10 w11 h12 => ?_)
    obtain ⟨e_r10, rfl⟩ := h12
    refine v_eqi (iZ (1000000000 - (-1))) (e_r10) ?_
    exact v_iret 28 C (⟨rfl, refS S b 1, t, rfl, refRC hC, refLE hE, refInv hI, refM⟩) dX3_move_28

set_option maxHeartbeats 4000000 in
set_option maxRecDepth 100000 in
theorem c_move {l : Launch} {D : va_G} {kc : Nat → ClassId} {N : Nat} {ad : Nat → Nat} {S : St} {b : Bs} {t : Ts} (hg : vg N) (hN : N = 66 + 15 * bn b) (hI : Inv b) (hC : RC S b t) (hE : LE b t) {k : Nat} (hk : k < bn b) (ht : b 8 k = 1) {j : Nat} (hj : j < 16) : MetK l yX3_move cX3_move 4 (some FieldType.int) 3 0 0 67 D kc (wl kc N ad S) [.ref (ad 0), .int (iZ (k : Int)), .int (iZ (j : Int))] (QI D kc (wl kc N ad S) (cQ kc N ad S (mvZ (t 4 k j) (t 4 k (j + 1)) (t 2 k j) (t 3 k j) (t 2 k (j + 1)) (t 3 k (j + 1))) (b))) := by
  refine MetK.of (by decide +kernel) (Nat.le_of_ble_eq_true rfl) ?_
  intro p e s m below meth c C
  have hA : ∀ q, s.heap.size ≤ q → va_A (wl kc N ad S) s.heap.size q := fun _ h => Or.inr h
  show V p l e { frames := 3, cells := 0, slots := 0, locals := 67 } s m ([.ref (ad 0), .int (iZ (k : Int)), .int (iZ (j : Int))] : List Value).toArray below meth c (MQ below (QI D kc (wl kc N ad S) (cQ kc N ad S (mvZ (t 4 k j) (t 4 k (j + 1)) (t 2 k j) (t 3 k j) (t 2 k (j + 1)) (t 3 k (j + 1))) (b)) s.heap.size) ([.ref (ad 0), .int (iZ (k : Int)), .int (iZ (j : Int))] : List Value).toArray s 0 0 (va_A (wl kc N ad S) s.heap.size)) D (va_A (wl kc N ad S) s.heap.size) 4 0 0 (wl kc N ad S) 0 [(0, .ref (ad 0)), (1, .int (iZ (k : Int))), (2, .int (iZ (j : Int)))] []
  have hP := hC.1
  have hW := hC.2.1
  have hEn := hC.2.2.1
  have hR := hC.2.2.2
  have hb0 := hI.1
  refine v_aload_n 0 0 C dX3_move_0 rfl ?_
  refine v_iload_n 1 1 C dX3_move_1 rfl ?_
  refine v_callq 2 hA (rV_Pg 2 C L_RX3_90 lk_244 lk_3 (m_partThere hg hN hI hP hk ht) (vg.o hg) rfl ⟨rfl, rfl⟩ (rm_ok rfl) dX3_move_2) (fun r1 w2 h3 => ?_)
  obtain ⟨e_r1, rfl⟩ := h3
  refine v_eqv (.ref (ad (66 + 15 * k))) (by rw [e_r1]; rfl) ?_
  refine v_astore_n 5 [(3, .ref (ad (66 + 15 * k))), (0, .ref (ad 0)), (1, .int (iZ (k : Int))), (2, .int (iZ (j : Int)))] C dX3_move_5 (by decide) rfl ?_
  refine v_aload_n 6 0 C dX3_move_6 rfl ?_
  refine v_ifnull 7 C dX3_move_7 ?_
  refine v_iload_n 10 3 C dX3_move_10 rfl ?_
  refine v_calli 11 hA (rS 11 C L_RX3_124 lk_371 (m_isStep (by first | assumption | exact ⟨by omega, by omega⟩)) rfl rfl (rm_ok rfl) dX3_move_11) (fun r4 w5 h6 => ?_)
  obtain ⟨e_r4, rfl⟩ := h6
  refine v_eqi (iZ (bz (decide (0 ≤ (j : Int) ∧ (j : Int) < 17)))) (e_r4) ?_
  refine z_if_eq 14 23 C (bzr _) dX3_move_14 (by decide) (fun c14_0 => absurd c14_0 (by rw [decide_eq_true (show 0 ≤ (j : Int) ∧ (j : Int) < 17 by omega)]; decide)) (fun c14_0 => ?_)
  refine v_iload_n 17 3 C dX3_move_17 rfl ?_
  refine v_bipush 18 C (iZ 16) dX3_move_18 (by decide) ?_
  refine z_icmp_ne 20 29 C (by first | assumption | exact ⟨by omega, by omega⟩) (by first | assumption | exact ⟨by omega, by omega⟩) dX3_move_20 (by decide) (fun c20_1 => ?_) (fun c20_1 => absurd c20_1 (by omega))
  refine v_aload_n 29 0 C dX3_move_29 rfl ?_
  refine g_Pt_crease 30 C (vp.o (vp_k hN hk)).1 (vp.o (vp_k hN hk)).2 lk_127 dX3_move_30 ?_
  refine v_iload_n 33 3 C dX3_move_33 rfl ?_
  refine v_calli 34 hA (rV_Tr 34 C L_RX3_172 lk_460 lk_461 (m_moveFrom (vp.C (vp_k hN hk)) hj (cr_s hR hk ht (by omega)) (cr_s hR hk ht (by omega)) (cr_01 hE hk ht (by omega)) (cr_01 hE hk ht (by omega)) (cr_xy hI hR hE hk ht (by omega)) (cr_xy hI hR hE hk ht (by omega))) (vt.o (vp.C (vp_k hN hk))) rfl ⟨rfl, rfl⟩ (rm_ok rfl) dX3_move_34) (fun r7 w8 h9 => ?_)
  obtain ⟨e_r7, rfl⟩ := h9
  refine v_eqi (iZ (mvZ (t 4 k j) (t 4 k (j + 1)) (t 2 k j) (t 3 k j) (t 2 k (j + 1)) (t 3 k (j + 1)))) (e_r7) ?_
  exact v_iret 37 C (⟨rfl, S, t, rfl, hC, hE, hI, sameOn.rf⟩) dX3_move_37

set_option maxHeartbeats 4000000 in
set_option maxRecDepth 100000 in
theorem c_meet_nn {l : Launch} {D : va_G} {kc : Nat → ClassId} {N : Nat} {ad : Nat → Nat} {S : St} {b : Bs} {t : Ts} (hg : vg N) (hN : N = 66 + 15 * bn b) (hI : Inv b) (hC : RC S b t) (hE : LE b t) {z y s_ : Int} (rz : r32 z) (ry : r32 y) (rs : r32 s_) (hz : ¬ isL b z) (hy : ¬ isL b y) : MetK l yX3_meet cX3_meet 6 (some FieldType.int) 4 0 0 102 D kc (wl kc N ad S) [.ref (ad 0), .int (iZ z), .int (iZ y), .int (iZ s_)] (QI D kc (wl kc N ad S) (cQ kc N ad S (-1) (refB b 1))) := by
  refine MetK.of (by decide +kernel) (Nat.le_of_ble_eq_true rfl) ?_
  intro p e s m below meth c C
  have hA : ∀ q, s.heap.size ≤ q → va_A (wl kc N ad S) s.heap.size q := fun _ h => Or.inr h
  show V p l e { frames := 4, cells := 0, slots := 0, locals := 102 } s m ([.ref (ad 0), .int (iZ z), .int (iZ y), .int (iZ s_)] : List Value).toArray below meth c (MQ below (QI D kc (wl kc N ad S) (cQ kc N ad S (-1) (refB b 1)) s.heap.size) ([.ref (ad 0), .int (iZ z), .int (iZ y), .int (iZ s_)] : List Value).toArray s 0 0 (va_A (wl kc N ad S) s.heap.size)) D (va_A (wl kc N ad S) s.heap.size) 6 0 0 (wl kc N ad S) 0 [(0, .ref (ad 0)), (1, .int (iZ z)), (2, .int (iZ y)), (3, .int (iZ s_))] []
  have hP := hC.1
  have hW := hC.2.1
  have hEn := hC.2.2.1
  have hR := hC.2.2.2
  have hb0 := hI.1
  refine v_aload_n 0 0 C dX3_meet_0 rfl ?_
  refine v_iload_n 1 1 C dX3_meet_1 rfl ?_
  refine v_callq 2 hA (rV_Pg 2 C L_RX3_138 lk_187 lk_1 (m_planeThere_no (z := z) hg hN hI hP rz hz) (vg.o hg) rfl ⟨rfl, rfl⟩ (rm_ok rfl) dX3_meet_2) (fun r1 w2 h3 => ?_)
  obtain ⟨e_r1, rfl⟩ := h3
  refine v_eqv .null (by rw [e_r1]; rfl) ?_
  refine v_astoreN 5 [(4, .null), (0, .ref (ad 0)), (1, .int (iZ z)), (2, .int (iZ y)), (3, .int (iZ s_))] C dX3_meet_5 (by decide) rfl ?_
  refine v_aload_n 7 1 C dX3_meet_7 rfl ?_
  refine v_iload_n 8 3 C dX3_meet_8 rfl ?_
  refine v_callq 9 hA (rV_Pg 9 C L_RX3_138 lk_187 lk_1 (m_planeThere_no (z := y) hg hN hI hP ry hy) (vg.o hg) rfl ⟨rfl, rfl⟩ (rm_ok rfl) dX3_meet_9) (fun r4 w5 h6 => ?_)
  obtain ⟨e_r4, rfl⟩ := h6
  refine v_eqv .null (by rw [e_r4]; rfl) ?_
  refine v_astoreN 12 [(5, .null), (4, .null), (0, .ref (ad 0)), (1, .int (iZ z)), (2, .int (iZ y)), (3, .int (iZ s_))] C dX3_meet_12 (by decide) rfl ?_
  refine v_aloadN 14 1 C dX3_meet_14 rfl ?_
  refine v_ifnullN 16 36 C dX3_meet_16 (by decide) ?_
  refine v_aload_n 36 2 C dX3_meet_36 rfl ?_
  refine v_iconst 37 C (iZ (-1)) dX3_meet_37 rfl ?_
  refine v_calli 38 hA (rV_Pg 38 C L_RX3_62 lk_252 lk_5 (m_refuse hg hN hI hP 1 (by decide) (by decide)) (vg.o hg) rfl ⟨rfl, rfl⟩ (rm_ok rfl) dX3_meet_38) (fun r7 w8 h9 => ?_)
  obtain ⟨e_r7, rfl⟩ := h9
  refine v_eqi (iZ (-1)) (e_r7) ?_
  exact v_iret 41 C (⟨rfl, refS S b 1, t, rfl, refRC hC, refLE hE, refInv hI, refM⟩) dX3_meet_41

set_option maxHeartbeats 4000000 in
set_option maxRecDepth 100000 in
theorem c_meet_ny {l : Launch} {D : va_G} {kc : Nat → ClassId} {N : Nat} {ad : Nat → Nat} {S : St} {b : Bs} {t : Ts} (hg : vg N) (hN : N = 66 + 15 * bn b) (hI : Inv b) (hC : RC S b t) (hE : LE b t) {z s_ : Int} {q : Nat} (rz : r32 z) (rs : r32 s_) (hz : ¬ isL b z) (hq : thL b q) : MetK l yX3_meet cX3_meet 6 (some FieldType.int) 4 0 0 102 D kc (wl kc N ad S) [.ref (ad 0), .int (iZ z), .int (iZ (q : Int)), .int (iZ s_)] (QI D kc (wl kc N ad S) (cQ kc N ad S (-1) (refB b 1))) := by
  refine MetK.of (by decide +kernel) (Nat.le_of_ble_eq_true rfl) ?_
  intro p e s m below meth c C
  have hA : ∀ q, s.heap.size ≤ q → va_A (wl kc N ad S) s.heap.size q := fun _ h => Or.inr h
  show V p l e { frames := 4, cells := 0, slots := 0, locals := 102 } s m ([.ref (ad 0), .int (iZ z), .int (iZ (q : Int)), .int (iZ s_)] : List Value).toArray below meth c (MQ below (QI D kc (wl kc N ad S) (cQ kc N ad S (-1) (refB b 1)) s.heap.size) ([.ref (ad 0), .int (iZ z), .int (iZ (q : Int)), .int (iZ s_)] : List Value).toArray s 0 0 (va_A (wl kc N ad S) s.heap.size)) D (va_A (wl kc N ad S) s.heap.size) 6 0 0 (wl kc N ad S) 0 [(0, .ref (ad 0)), (1, .int (iZ z)), (2, .int (iZ (q : Int))), (3, .int (iZ s_))] []
  have hP := hC.1
  have hW := hC.2.1
  have hEn := hC.2.2.1
  have hR := hC.2.2.2
  have hb0 := hI.1
  refine v_aload_n 0 0 C dX3_meet_0 rfl ?_
  refine v_iload_n 1 1 C dX3_meet_1 rfl ?_
  refine v_callq 2 hA (rV_Pg 2 C L_RX3_138 lk_187 lk_1 (m_planeThere_no (z := z) hg hN hI hP rz hz) (vg.o hg) rfl ⟨rfl, rfl⟩ (rm_ok rfl) dX3_meet_2) (fun r1 w2 h3 => ?_)
  obtain ⟨e_r1, rfl⟩ := h3
  refine v_eqv .null (by rw [e_r1]; rfl) ?_
  refine v_astoreN 5 [(4, .null), (0, .ref (ad 0)), (1, .int (iZ z)), (2, .int (iZ (q : Int))), (3, .int (iZ s_))] C dX3_meet_5 (by decide) rfl ?_
  refine v_aload_n 7 1 C dX3_meet_7 rfl ?_
  refine v_iload_n 8 3 C dX3_meet_8 rfl ?_
  refine v_callq 9 hA (rV_Pg 9 C L_RX3_138 lk_187 lk_1 (m_planeThere hg hN hI hP hq) (vg.o hg) rfl ⟨rfl, rfl⟩ (rm_ok rfl) dX3_meet_9) (fun r4 w5 h6 => ?_)
  obtain ⟨e_r4, rfl⟩ := h6
  refine v_eqv (.ref (ad (plN q))) (by rw [e_r4]; rfl) ?_
  refine v_astore 12 [(5, .ref (ad (plN q))), (4, .null), (0, .ref (ad 0)), (1, .int (iZ z)), (2, .int (iZ (q : Int))), (3, .int (iZ s_))] C dX3_meet_12 (by decide) rfl ?_
  refine v_aloadN 14 1 C dX3_meet_14 rfl ?_
  refine v_ifnullN 16 36 C dX3_meet_16 (by decide) ?_
  refine v_aload_n 36 2 C dX3_meet_36 rfl ?_
  refine v_iconst 37 C (iZ (-1)) dX3_meet_37 rfl ?_
  refine v_calli 38 hA (rV_Pg 38 C L_RX3_62 lk_252 lk_5 (m_refuse hg hN hI hP 1 (by decide) (by decide)) (vg.o hg) rfl ⟨rfl, rfl⟩ (rm_ok rfl) dX3_meet_38) (fun r7 w8 h9 => ?_)
  obtain ⟨e_r7, rfl⟩ := h9
  refine v_eqi (iZ (-1)) (e_r7) ?_
  exact v_iret 41 C (⟨rfl, refS S b 1, t, rfl, refRC hC, refLE hE, refInv hI, refM⟩) dX3_meet_41

set_option maxHeartbeats 4000000 in
set_option maxRecDepth 100000 in
theorem c_meet_yn {l : Launch} {D : va_G} {kc : Nat → ClassId} {N : Nat} {ad : Nat → Nat} {S : St} {b : Bs} {t : Ts} (hg : vg N) (hN : N = 66 + 15 * bn b) (hI : Inv b) (hC : RC S b t) (hE : LE b t) {y s_ : Int} {u : Nat} (ry : r32 y) (rs : r32 s_) (hu : thL b u) (hy : ¬ isL b y) : MetK l yX3_meet cX3_meet 6 (some FieldType.int) 4 0 0 102 D kc (wl kc N ad S) [.ref (ad 0), .int (iZ (u : Int)), .int (iZ y), .int (iZ s_)] (QI D kc (wl kc N ad S) (cQ kc N ad S (-1) (refB b 1))) := by
  refine MetK.of (by decide +kernel) (Nat.le_of_ble_eq_true rfl) ?_
  intro p e s m below meth c C
  have hA : ∀ q, s.heap.size ≤ q → va_A (wl kc N ad S) s.heap.size q := fun _ h => Or.inr h
  show V p l e { frames := 4, cells := 0, slots := 0, locals := 102 } s m ([.ref (ad 0), .int (iZ (u : Int)), .int (iZ y), .int (iZ s_)] : List Value).toArray below meth c (MQ below (QI D kc (wl kc N ad S) (cQ kc N ad S (-1) (refB b 1)) s.heap.size) ([.ref (ad 0), .int (iZ (u : Int)), .int (iZ y), .int (iZ s_)] : List Value).toArray s 0 0 (va_A (wl kc N ad S) s.heap.size)) D (va_A (wl kc N ad S) s.heap.size) 6 0 0 (wl kc N ad S) 0 [(0, .ref (ad 0)), (1, .int (iZ (u : Int))), (2, .int (iZ y)), (3, .int (iZ s_))] []
  have hP := hC.1
  have hW := hC.2.1
  have hEn := hC.2.2.1
  have hR := hC.2.2.2
  have hb0 := hI.1
  refine v_aload_n 0 0 C dX3_meet_0 rfl ?_
  refine v_iload_n 1 1 C dX3_meet_1 rfl ?_
  refine v_callq 2 hA (rV_Pg 2 C L_RX3_138 lk_187 lk_1 (m_planeThere hg hN hI hP hu) (vg.o hg) rfl ⟨rfl, rfl⟩ (rm_ok rfl) dX3_meet_2) (fun r1 w2 h3 => ?_)
  obtain ⟨e_r1, rfl⟩ := h3
  refine v_eqv (.ref (ad (plN u))) (by rw [e_r1]; rfl) ?_
  refine v_astore 5 [(4, .ref (ad (plN u))), (0, .ref (ad 0)), (1, .int (iZ (u : Int))), (2, .int (iZ y)), (3, .int (iZ s_))] C dX3_meet_5 (by decide) rfl ?_
  refine v_aload_n 7 1 C dX3_meet_7 rfl ?_
  refine v_iload_n 8 3 C dX3_meet_8 rfl ?_
  refine v_callq 9 hA (rV_Pg 9 C L_RX3_138 lk_187 lk_1 (m_planeThere_no (z := y) hg hN hI hP ry hy) (vg.o hg) rfl ⟨rfl, rfl⟩ (rm_ok rfl) dX3_meet_9) (fun r4 w5 h6 => ?_)
  obtain ⟨e_r4, rfl⟩ := h6
  refine v_eqv .null (by rw [e_r4]; rfl) ?_
  refine v_astoreN 12 [(5, .null), (4, .ref (ad (plN u))), (0, .ref (ad 0)), (1, .int (iZ (u : Int))), (2, .int (iZ y)), (3, .int (iZ s_))] C dX3_meet_12 (by decide) rfl ?_
  refine v_aload 14 1 C dX3_meet_14 rfl ?_
  refine v_ifnull 16 C dX3_meet_16 ?_
  refine v_aloadN 19 0 C dX3_meet_19 rfl ?_
  refine v_ifnullN 21 36 C dX3_meet_21 (by decide) ?_
  refine v_aload_n 36 2 C dX3_meet_36 rfl ?_
  refine v_iconst 37 C (iZ (-1)) dX3_meet_37 rfl ?_
  refine v_calli 38 hA (rV_Pg 38 C L_RX3_62 lk_252 lk_5 (m_refuse hg hN hI hP 1 (by decide) (by decide)) (vg.o hg) rfl ⟨rfl, rfl⟩ (rm_ok rfl) dX3_meet_38) (fun r7 w8 h9 => ?_)
  obtain ⟨e_r7, rfl⟩ := h9
  refine v_eqi (iZ (-1)) (e_r7) ?_
  exact v_iret 41 C (⟨rfl, refS S b 1, t, rfl, refRC hC, refLE hE, refInv hI, refM⟩) dX3_meet_41

set_option maxHeartbeats 4000000 in
set_option maxRecDepth 100000 in
theorem c_meet_e {l : Launch} {D : va_G} {kc : Nat → ClassId} {N : Nat} {ad : Nat → Nat} {S : St} {b : Bs} {t : Ts} (hg : vg N) (hN : N = 66 + 15 * bn b) (hI : Inv b) (hC : RC S b t) (hE : LE b t) {s_ : Int} {u q : Nat} (rs : r32 s_) (hu : thL b u) (hq : thL b q) (he : u = q) : MetK l yX3_meet cX3_meet 6 (some FieldType.int) 4 0 0 102 D kc (wl kc N ad S) [.ref (ad 0), .int (iZ (u : Int)), .int (iZ (q : Int)), .int (iZ s_)] (QI D kc (wl kc N ad S) (cQ kc N ad S (-1) (refB b 1))) := by
  refine MetK.of (by decide +kernel) (Nat.le_of_ble_eq_true rfl) ?_
  intro p e s m below meth c C
  have hA : ∀ q, s.heap.size ≤ q → va_A (wl kc N ad S) s.heap.size q := fun _ h => Or.inr h
  show V p l e { frames := 4, cells := 0, slots := 0, locals := 102 } s m ([.ref (ad 0), .int (iZ (u : Int)), .int (iZ (q : Int)), .int (iZ s_)] : List Value).toArray below meth c (MQ below (QI D kc (wl kc N ad S) (cQ kc N ad S (-1) (refB b 1)) s.heap.size) ([.ref (ad 0), .int (iZ (u : Int)), .int (iZ (q : Int)), .int (iZ s_)] : List Value).toArray s 0 0 (va_A (wl kc N ad S) s.heap.size)) D (va_A (wl kc N ad S) s.heap.size) 6 0 0 (wl kc N ad S) 0 [(0, .ref (ad 0)), (1, .int (iZ (u : Int))), (2, .int (iZ (q : Int))), (3, .int (iZ s_))] []
  have hP := hC.1
  have hW := hC.2.1
  have hEn := hC.2.2.1
  have hR := hC.2.2.2
  have hb0 := hI.1
  have hu62 := thL_62 hI hu
  have hq62 := thL_62 hI hq
  refine v_aload_n 0 0 C dX3_meet_0 rfl ?_
  refine v_iload_n 1 1 C dX3_meet_1 rfl ?_
  refine v_callq 2 hA (rV_Pg 2 C L_RX3_138 lk_187 lk_1 (m_planeThere hg hN hI hP hu) (vg.o hg) rfl ⟨rfl, rfl⟩ (rm_ok rfl) dX3_meet_2) (fun r1 w2 h3 => ?_)
  obtain ⟨e_r1, rfl⟩ := h3
  refine v_eqv (.ref (ad (plN u))) (by rw [e_r1]; rfl) ?_
  refine v_astore 5 [(4, .ref (ad (plN u))), (0, .ref (ad 0)), (1, .int (iZ (u : Int))), (2, .int (iZ (q : Int))), (3, .int (iZ s_))] C dX3_meet_5 (by decide) rfl ?_
  refine v_aload_n 7 1 C dX3_meet_7 rfl ?_
  refine v_iload_n 8 3 C dX3_meet_8 rfl ?_
  refine v_callq 9 hA (rV_Pg 9 C L_RX3_138 lk_187 lk_1 (m_planeThere hg hN hI hP hq) (vg.o hg) rfl ⟨rfl, rfl⟩ (rm_ok rfl) dX3_meet_9) (fun r4 w5 h6 => ?_)
  obtain ⟨e_r4, rfl⟩ := h6
  refine v_eqv (.ref (ad (plN q))) (by rw [e_r4]; rfl) ?_
  refine v_astore 12 [(5, .ref (ad (plN q))), (4, .ref (ad (plN u))), (0, .ref (ad 0)), (1, .int (iZ (u : Int))), (2, .int (iZ (q : Int))), (3, .int (iZ s_))] C dX3_meet_12 (by decide) rfl ?_
  refine v_aload 14 1 C dX3_meet_14 rfl ?_
  refine v_ifnull 16 C dX3_meet_16 ?_
  refine v_aload 19 0 C dX3_meet_19 rfl ?_
  refine v_ifnull 21 C dX3_meet_21 ?_
  refine v_iload_n 24 3 C dX3_meet_24 rfl ?_
  refine v_iload_n 25 4 C dX3_meet_25 rfl ?_
  refine z_icmp_eq 26 36 C (by first | assumption | exact ⟨by omega, by omega⟩) (by first | assumption | exact ⟨by omega, by omega⟩) dX3_meet_26 (by decide) (fun c26_0 => ?_) (fun c26_0 => absurd (by omega) c26_0)
  refine v_aload_n 36 2 C dX3_meet_36 rfl ?_
  refine v_iconst 37 C (iZ (-1)) dX3_meet_37 rfl ?_
  refine v_calli 38 hA (rV_Pg 38 C L_RX3_62 lk_252 lk_5 (m_refuse hg hN hI hP 1 (by decide) (by decide)) (vg.o hg) rfl ⟨rfl, rfl⟩ (rm_ok rfl) dX3_meet_38) (fun r7 w8 h9 => ?_)
  obtain ⟨e_r7, rfl⟩ := h9
  refine v_eqi (iZ (-1)) (e_r7) ?_
  exact v_iret 41 C (⟨rfl, refS S b 1, t, rfl, refRC hC, refLE hE, refInv hI, refM⟩) dX3_meet_41

set_option maxHeartbeats 4000000 in
set_option maxRecDepth 100000 in
theorem c_meet_s {l : Launch} {D : va_G} {kc : Nat → ClassId} {N : Nat} {ad : Nat → Nat} {S : St} {b : Bs} {t : Ts} (hg : vg N) (hN : N = 66 + 15 * bn b) (hI : Inv b) (hC : RC S b t) (hE : LE b t) {s_ : Int} {u q : Nat} (rs : r32 s_) (hu : thL b u) (hq : thL b q) (he : ¬ u = q) (hs : ¬ (0 ≤ s_ ∧ s_ < 17)) : MetK l yX3_meet cX3_meet 6 (some FieldType.int) 4 0 0 102 D kc (wl kc N ad S) [.ref (ad 0), .int (iZ (u : Int)), .int (iZ (q : Int)), .int (iZ s_)] (QI D kc (wl kc N ad S) (cQ kc N ad S (-1) (refB b 1))) := by
  refine MetK.of (by decide +kernel) (Nat.le_of_ble_eq_true rfl) ?_
  intro p e s m below meth c C
  have hA : ∀ q, s.heap.size ≤ q → va_A (wl kc N ad S) s.heap.size q := fun _ h => Or.inr h
  show V p l e { frames := 4, cells := 0, slots := 0, locals := 102 } s m ([.ref (ad 0), .int (iZ (u : Int)), .int (iZ (q : Int)), .int (iZ s_)] : List Value).toArray below meth c (MQ below (QI D kc (wl kc N ad S) (cQ kc N ad S (-1) (refB b 1)) s.heap.size) ([.ref (ad 0), .int (iZ (u : Int)), .int (iZ (q : Int)), .int (iZ s_)] : List Value).toArray s 0 0 (va_A (wl kc N ad S) s.heap.size)) D (va_A (wl kc N ad S) s.heap.size) 6 0 0 (wl kc N ad S) 0 [(0, .ref (ad 0)), (1, .int (iZ (u : Int))), (2, .int (iZ (q : Int))), (3, .int (iZ s_))] []
  have hP := hC.1
  have hW := hC.2.1
  have hEn := hC.2.2.1
  have hR := hC.2.2.2
  have hb0 := hI.1
  have hu62 := thL_62 hI hu
  have hq62 := thL_62 hI hq
  refine v_aload_n 0 0 C dX3_meet_0 rfl ?_
  refine v_iload_n 1 1 C dX3_meet_1 rfl ?_
  refine v_callq 2 hA (rV_Pg 2 C L_RX3_138 lk_187 lk_1 (m_planeThere hg hN hI hP hu) (vg.o hg) rfl ⟨rfl, rfl⟩ (rm_ok rfl) dX3_meet_2) (fun r1 w2 h3 => ?_)
  obtain ⟨e_r1, rfl⟩ := h3
  refine v_eqv (.ref (ad (plN u))) (by rw [e_r1]; rfl) ?_
  refine v_astore 5 [(4, .ref (ad (plN u))), (0, .ref (ad 0)), (1, .int (iZ (u : Int))), (2, .int (iZ (q : Int))), (3, .int (iZ s_))] C dX3_meet_5 (by decide) rfl ?_
  refine v_aload_n 7 1 C dX3_meet_7 rfl ?_
  refine v_iload_n 8 3 C dX3_meet_8 rfl ?_
  refine v_callq 9 hA (rV_Pg 9 C L_RX3_138 lk_187 lk_1 (m_planeThere hg hN hI hP hq) (vg.o hg) rfl ⟨rfl, rfl⟩ (rm_ok rfl) dX3_meet_9) (fun r4 w5 h6 => ?_)
  obtain ⟨e_r4, rfl⟩ := h6
  refine v_eqv (.ref (ad (plN q))) (by rw [e_r4]; rfl) ?_
  refine v_astore 12 [(5, .ref (ad (plN q))), (4, .ref (ad (plN u))), (0, .ref (ad 0)), (1, .int (iZ (u : Int))), (2, .int (iZ (q : Int))), (3, .int (iZ s_))] C dX3_meet_12 (by decide) rfl ?_
  refine v_aload 14 1 C dX3_meet_14 rfl ?_
  refine v_ifnull 16 C dX3_meet_16 ?_
  refine v_aload 19 0 C dX3_meet_19 rfl ?_
  refine v_ifnull 21 C dX3_meet_21 ?_
  refine v_iload_n 24 3 C dX3_meet_24 rfl ?_
  refine v_iload_n 25 4 C dX3_meet_25 rfl ?_
  refine z_icmp_eq 26 36 C (by first | assumption | exact ⟨by omega, by omega⟩) (by first | assumption | exact ⟨by omega, by omega⟩) dX3_meet_26 (by decide) (fun c26_0 => absurd c26_0 (by omega)) (fun c26_0 => ?_)
  refine v_iload_n 29 5 C dX3_meet_29 rfl ?_
  refine v_calli 30 hA (rS 30 C L_RX3_124 lk_371 (m_isStep (by first | assumption | exact ⟨by omega, by omega⟩)) rfl rfl (rm_ok rfl) dX3_meet_30) (fun r7 w8 h9 => ?_)
  obtain ⟨e_r7, rfl⟩ := h9
  refine v_eqi (iZ (bz (decide (0 ≤ s_ ∧ s_ < 17)))) (e_r7) ?_
  refine z_if_ne 33 42 C (bzr _) dX3_meet_33 (by decide) (fun c33_1 => absurd c33_1 (fun z => z (by rw [decide_eq_false hs]; rfl))) (fun c33_1 => ?_)
  refine v_aload_n 36 2 C dX3_meet_36 rfl ?_
  refine v_iconst 37 C (iZ (-1)) dX3_meet_37 rfl ?_
  refine v_calli 38 hA (rV_Pg 38 C L_RX3_62 lk_252 lk_5 (m_refuse hg hN hI hP 1 (by decide) (by decide)) (vg.o hg) rfl ⟨rfl, rfl⟩ (rm_ok rfl) dX3_meet_38) (fun r10 w11 h12 => ?_)
  obtain ⟨e_r10, rfl⟩ := h12
  refine v_eqi (iZ (-1)) (e_r10) ?_
  exact v_iret 41 C (⟨rfl, refS S b 1, t, rfl, refRC hC, refLE hE, refInv hI, refM⟩) dX3_meet_41

set_option maxHeartbeats 4000000 in
set_option maxRecDepth 100000 in
theorem c_meet {l : Launch} {D : va_G} {kc : Nat → ClassId} {N : Nat} {ad : Nat → Nat} {S : St} {b : Bs} {t : Ts} (hg : vg N) (hN : N = 66 + 15 * bn b) (hI : Inv b) (hC : RC S b t) (hE : LE b t) {u q j : Nat} (hj : j < 17) (hu : thL b u) (hq : thL b q) (he : ¬ u = q) : MetK l yX3_meet cX3_meet 6 (some FieldType.int) 4 0 0 102 D kc (wl kc N ad S) [.ref (ad 0), .int (iZ (u : Int)), .int (iZ (q : Int)), .int (iZ (j : Int))] (QI D kc (wl kc N ad S) (cQ kc N ad S (bz (runZ b t j u q)) (b))) := by
  refine MetK.of (by decide +kernel) (Nat.le_of_ble_eq_true rfl) ?_
  intro p e s m below meth c C
  have hA : ∀ q, s.heap.size ≤ q → va_A (wl kc N ad S) s.heap.size q := fun _ h => Or.inr h
  show V p l e { frames := 4, cells := 0, slots := 0, locals := 102 } s m ([.ref (ad 0), .int (iZ (u : Int)), .int (iZ (q : Int)), .int (iZ (j : Int))] : List Value).toArray below meth c (MQ below (QI D kc (wl kc N ad S) (cQ kc N ad S (bz (runZ b t j u q)) (b)) s.heap.size) ([.ref (ad 0), .int (iZ (u : Int)), .int (iZ (q : Int)), .int (iZ (j : Int))] : List Value).toArray s 0 0 (va_A (wl kc N ad S) s.heap.size)) D (va_A (wl kc N ad S) s.heap.size) 6 0 0 (wl kc N ad S) 0 [(0, .ref (ad 0)), (1, .int (iZ (u : Int))), (2, .int (iZ (q : Int))), (3, .int (iZ (j : Int)))] []
  have hP := hC.1
  have hW := hC.2.1
  have hEn := hC.2.2.1
  have hR := hC.2.2.2
  have hb0 := hI.1
  have hu62 := thL_62 hI hu
  have hq62 := thL_62 hI hq
  obtain ⟨f1, f2, f3⟩ := pl_facts hg hN hI hR hE hW hEn hu hj
  obtain ⟨g1, g2, g3⟩ := pl_facts hg hN hI hR hE hW hEn hq hj
  refine v_aload_n 0 0 C dX3_meet_0 rfl ?_
  refine v_iload_n 1 1 C dX3_meet_1 rfl ?_
  refine v_callq 2 hA (rV_Pg 2 C L_RX3_138 lk_187 lk_1 (m_planeThere hg hN hI hP hu) (vg.o hg) rfl ⟨rfl, rfl⟩ (rm_ok rfl) dX3_meet_2) (fun r1 w2 h3 => ?_)
  obtain ⟨e_r1, rfl⟩ := h3
  refine v_eqv (.ref (ad (plN u))) (by rw [e_r1]; rfl) ?_
  refine v_astore 5 [(4, .ref (ad (plN u))), (0, .ref (ad 0)), (1, .int (iZ (u : Int))), (2, .int (iZ (q : Int))), (3, .int (iZ (j : Int)))] C dX3_meet_5 (by decide) rfl ?_
  refine v_aload_n 7 1 C dX3_meet_7 rfl ?_
  refine v_iload_n 8 3 C dX3_meet_8 rfl ?_
  refine v_callq 9 hA (rV_Pg 9 C L_RX3_138 lk_187 lk_1 (m_planeThere hg hN hI hP hq) (vg.o hg) rfl ⟨rfl, rfl⟩ (rm_ok rfl) dX3_meet_9) (fun r4 w5 h6 => ?_)
  obtain ⟨e_r4, rfl⟩ := h6
  refine v_eqv (.ref (ad (plN q))) (by rw [e_r4]; rfl) ?_
  refine v_astore 12 [(5, .ref (ad (plN q))), (4, .ref (ad (plN u))), (0, .ref (ad 0)), (1, .int (iZ (u : Int))), (2, .int (iZ (q : Int))), (3, .int (iZ (j : Int)))] C dX3_meet_12 (by decide) rfl ?_
  refine v_aload 14 1 C dX3_meet_14 rfl ?_
  refine v_ifnull 16 C dX3_meet_16 ?_
  refine v_aload 19 0 C dX3_meet_19 rfl ?_
  refine v_ifnull 21 C dX3_meet_21 ?_
  refine v_iload_n 24 3 C dX3_meet_24 rfl ?_
  refine v_iload_n 25 4 C dX3_meet_25 rfl ?_
  refine z_icmp_eq 26 36 C (by first | assumption | exact ⟨by omega, by omega⟩) (by first | assumption | exact ⟨by omega, by omega⟩) dX3_meet_26 (by decide) (fun c26_0 => absurd c26_0 (by omega)) (fun c26_0 => ?_)
  refine v_iload_n 29 5 C dX3_meet_29 rfl ?_
  refine v_calli 30 hA (rS 30 C L_RX3_124 lk_371 (m_isStep (by first | assumption | exact ⟨by omega, by omega⟩)) rfl rfl (rm_ok rfl) dX3_meet_30) (fun r7 w8 h9 => ?_)
  obtain ⟨e_r7, rfl⟩ := h9
  refine v_eqi (iZ (bz (decide (0 ≤ (j : Int) ∧ (j : Int) < 17)))) (e_r7) ?_
  refine z_if_ne 33 42 C (bzr _) dX3_meet_33 (by decide) (fun c33_1 => ?_) (fun c33_1 => absurd c33_1 (by rw [decide_eq_true (show 0 ≤ (j : Int) ∧ (j : Int) < 17 by omega)]; decide))
  refine v_aload 42 1 C dX3_meet_42 rfl ?_
  refine v_aload 44 0 C dX3_meet_44 rfl ?_
  refine v_iload_n 46 5 C dX3_meet_46 rfl ?_
  refine v_calli 47 hA (rV_Pl 47 C L_RX3_158 lk_421 lk_422 (m_runs (vl_p hg hN hu) (vl_p hg hN hq) hj f1 g1 f2 g2 f3 g3) (vl.o (vl_p hg hN hu)) rfl ⟨rfl, rfl⟩ (rm_ok rfl) dX3_meet_47) (fun r10 w11 h12 => ?_)
  obtain ⟨e_r10, rfl⟩ := h12
  refine v_eqi (iZ (bz (runZ b t j u q))) (e_r10) ?_
  refine z_if_eq 50 57 C (bzr _) dX3_meet_50 (by decide) (fun c50_2 => ?_) (fun c50_2 => ?_)
  · skip
    refine v_iconst 57 C (iZ 0) dX3_meet_57 rfl ?_
    exact v_iret 58 C (⟨bzF (bz_eq c50_2), S, t, rfl, hC, hE, hI, sameOn.rf⟩) dX3_meet_58
  · skip
    refine v_iconst 53 C (iZ 1) dX3_meet_53 rfl ?_
    refine v_goto 54 58 C dX3_meet_54 (by decide) ?_
    exact v_iret 58 C (⟨bzT (bz_ne c50_2), S, t, rfl, hC, hE, hI, sameOn.rf⟩) dX3_meet_58
