/-! WIDTH, PLACE, MEETS -/
def usedC (i : Nat) : Prop := i < 4 ∨ (23 ≤ i ∧ i < 45) ∨ 66 ≤ i
theorem RC.keep2 {S S' : St} {b : Bs} {t : Ts} (h : RC S b t) (hs : sameOn usedC S S') : RC S' b t := by
  obtain ⟨⟨⟨a1, a2, a3⟩, a4, a5, a6, ⟨a7, a8⟩, a9⟩, hw, he, ht⟩ := h
  have lo : ∀ i, (i < 4 ∨ (23 ≤ i ∧ i < 45)) → usedC i := fun i x => by unfold usedC; omega
  have hi : ∀ i, 66 ≤ i → usedC i := fun i x => Or.inr (Or.inr x)
  have I : ∀ i k, usedC i → gI S' i k = gI S i k := fun i k x => (hs i x k).1
  have A : ∀ i k, usedC i → gA S' i k = gA S i k := fun i k x => (hs i x k).2.1
  have Q : ∀ i k, usedC i → gR S' i k = gR S i k := fun i k x => (hs i x k).2.2.2.2
  refine ⟨⟨⟨?_, ?_, ?_⟩, fun r hr => ?_, fun k hk => ?_, fun p hp => ?_, ⟨?_, ?_⟩, fun k hk => ?_⟩, fun s hs => ?_, fun s hs => ?_, fun k h1 h2 h3 s hs => ?_⟩
  · rw [I _ _ (lo _ (by decide))]; exact a1
  · rw [I _ _ (lo _ (by decide))]; exact a2
  · rw [I _ _ (lo _ (by decide))]; exact a3
  · rw [A _ _ (lo _ (by decide))]; exact a4 r hr
  · rw [Q _ _ (lo _ (by decide))]; exact a5 k hk
  · rw [Q _ _ (lo _ (by decide))]; exact a6 p hp
  · rw [I _ _ (lo _ (by decide))]; exact a7
  · rw [I _ _ (lo _ (by decide))]; exact a8
  · rw [I _ _ (hi (66 + 15 * k) (by omega)), I _ _ (hi (66 + 15 * k) (by omega)), I _ _ (hi (66 + 15 * k) (by omega)), I _ _ (hi (66 + 15 * k) (by omega)), I _ _ (hi (66 + 15 * k) (by omega)), I _ _ (hi (66 + 15 * k) (by omega)), I _ _ (hi (66 + 15 * k) (by omega)), I _ _ (hi (66 + 15 * k + 13) (by omega)), I _ _ (hi (66 + 15 * k + 14) (by omega))]
    exact a9 k hk
  · rw [A _ _ (lo 24 (by decide)), A _ _ (lo 25 (by decide)), A _ _ (lo 28 (by decide)), A _ _ (lo 29 (by decide)), A _ _ (lo 32 (by decide)), A _ _ (lo 33 (by decide)), A _ _ (lo 39 (by decide)), A _ _ (lo 44 (by decide))]
    exact hw s hs
  · rw [A _ _ (lo 37 (by decide)), A _ _ (lo 38 (by decide)), A _ _ (lo 42 (by decide)), A _ _ (lo 43 (by decide))]
    exact he s hs
  · unfold RT1
    rw [A _ _ (hi (66 + 15 * k + 9 + 3) (by omega)), A _ _ (hi (66 + 15 * k + 1 + 1) (by omega)), A _ _ (hi (66 + 15 * k + 1 + 2) (by omega)), A _ _ (hi (66 + 15 * k + 5 + 1) (by omega)), A _ _ (hi (66 + 15 * k + 5 + 2) (by omega)), A _ _ (hi (66 + 15 * k + 9 + 1) (by omega)), A _ _ (hi (66 + 15 * k + 9 + 2) (by omega))]
    exact ht k h1 h2 h3 s hs
theorem same_pA {P : Nat → Prop} {S : St} {i k : Nat} {v : Int32} (h : ¬ P i) : sameOn P S (pA S i k v) := fun j hj f => ⟨rfl, by rw [gA_pA, if_neg (fun (q : j = i ∧ f = k) => h (by rw [← q.1]; exact hj))], rfl, rfl, rfl⟩
theorem same_put {P : Nat → Prop} {S : St} {T j : Nat} {x y : Int} (h1 : ¬ P (T + 1)) (h2 : ¬ P (T + 2)) (h3 : ¬ P (T + 3)) : sameOn P S (putT S T j x y) := ((same_pA h1).tr (same_pA h2)).tr (same_pA h3)
theorem same_mk {P : Nat → Prop} {S : St} {T j : Nat} {v x y : Int} (h1 : ¬ P (T + 1)) (h2 : ¬ P (T + 2)) (h3 : ¬ P (T + 3)) : sameOn P S (mkT S T j v x y) := by
  unfold mkT
  split
  · exact same_put h1 h2 h3
  · exact same_pA h3
set_option maxHeartbeats 4000000 in
set_option maxRecDepth 100000 in
theorem c_place_p {l : Launch} {D : va_G} {kc : Nat → ClassId} {N : Nat} {ad : Nat → Nat} {S : St} {b : Bs} {t : Ts} (hg : vg N) (hN : N = 66 + 15 * bn b) (hI : Inv b) (hC : RC S b t) (hE : LE b t) {z n s_ w : Int} (rz : r32 z) (rn : r32 n) (rs : r32 s_) (rw_ : r32 w) (hz : ¬ isL b z) : MetK l yX3_place cX3_place 6 (some FieldType.int) 4 0 0 102 D kc (wl kc N ad S) [.ref (ad 0), .int (iZ z), .int (iZ n), .int (iZ s_), .int (iZ w)] (QI D kc (wl kc N ad S) (cQ kc N ad S (1000000000 - (-1)) (refB b 1))) := by
  refine MetK.of (by decide +kernel) (Nat.le_of_ble_eq_true rfl) ?_
  intro p e s m below meth c C
  have hA : ∀ q, s.heap.size ≤ q → va_A (wl kc N ad S) s.heap.size q := fun _ h => Or.inr h
  show V p l e { frames := 4, cells := 0, slots := 0, locals := 102 } s m ([.ref (ad 0), .int (iZ z), .int (iZ n), .int (iZ s_), .int (iZ w)] : List Value).toArray below meth c (MQ below (QI D kc (wl kc N ad S) (cQ kc N ad S (1000000000 - (-1)) (refB b 1)) s.heap.size) ([.ref (ad 0), .int (iZ z), .int (iZ n), .int (iZ s_), .int (iZ w)] : List Value).toArray s 0 0 (va_A (wl kc N ad S) s.heap.size)) D (va_A (wl kc N ad S) s.heap.size) 6 0 0 (wl kc N ad S) 0 [(0, .ref (ad 0)), (1, .int (iZ z)), (2, .int (iZ n)), (3, .int (iZ s_)), (4, .int (iZ w))] []
  have hP := hC.1
  have hW := hC.2.1
  have hEn := hC.2.2.1
  have hR := hC.2.2.2
  have hb0 := hI.1
  refine v_aload_n 0 0 C dX3_place_0 rfl ?_
  refine v_iload_n 1 1 C dX3_place_1 rfl ?_
  refine v_callq 2 hA (rV_Pg 2 C L_RX3_138 lk_187 lk_1 (m_planeThere_no (z := z) hg hN hI hP rz hz) (vg.o hg) rfl ⟨rfl, rfl⟩ (rm_ok rfl) dX3_place_2) (fun r1 w2 h3 => ?_)
  obtain ⟨e_r1, rfl⟩ := h3
  refine v_eqv .null (by rw [e_r1]; rfl) ?_
  refine v_astoreN 5 [(5, .null), (0, .ref (ad 0)), (1, .int (iZ z)), (2, .int (iZ n)), (3, .int (iZ s_)), (4, .int (iZ w))] C dX3_place_5 (by decide) rfl ?_
  refine v_aloadN 7 0 C dX3_place_7 rfl ?_
  refine v_ifnullN 9 19 C dX3_place_9 (by decide) ?_
  refine v_aload_n 19 1 C dX3_place_19 rfl ?_
  refine v_iconst 20 C (iZ (-1)) dX3_place_20 rfl ?_
  refine v_calli 21 hA (rV_Pg 21 C L_RX3_128 lk_375 lk_15 (m_refuseA hg hN hI hP 1 (by decide) (by decide)) (vg.o hg) rfl ⟨rfl, rfl⟩ (rm_ok rfl) dX3_place_21) (fun r4 w5 h6 => ?_)
  obtain ⟨e_r4, rfl⟩ := h6
  refine v_eqi (iZ (1000000000 - (-1))) (e_r4) ?_
  exact v_iret 24 C (⟨rfl, refS S b 1, t, rfl, refRC hC, refLE hE, refInv hI, refM⟩) dX3_place_24

set_option maxHeartbeats 4000000 in
set_option maxRecDepth 100000 in
theorem c_place_s {l : Launch} {D : va_G} {kc : Nat → ClassId} {N : Nat} {ad : Nat → Nat} {S : St} {b : Bs} {t : Ts} (hg : vg N) (hN : N = 66 + 15 * bn b) (hI : Inv b) (hC : RC S b t) (hE : LE b t) {u : Nat} (hu : thL b u) {n s_ w : Int} (rn : r32 n) (rs : r32 s_) (rw_ : r32 w) (hs : ¬ (0 ≤ s_ ∧ s_ < 17)) : MetK l yX3_place cX3_place 6 (some FieldType.int) 4 0 0 102 D kc (wl kc N ad S) [.ref (ad 0), .int (iZ (u : Int)), .int (iZ n), .int (iZ s_), .int (iZ w)] (QI D kc (wl kc N ad S) (cQ kc N ad S (1000000000 - (-1)) (refB b 1))) := by
  refine MetK.of (by decide +kernel) (Nat.le_of_ble_eq_true rfl) ?_
  intro p e s m below meth c C
  have hA : ∀ q, s.heap.size ≤ q → va_A (wl kc N ad S) s.heap.size q := fun _ h => Or.inr h
  show V p l e { frames := 4, cells := 0, slots := 0, locals := 102 } s m ([.ref (ad 0), .int (iZ (u : Int)), .int (iZ n), .int (iZ s_), .int (iZ w)] : List Value).toArray below meth c (MQ below (QI D kc (wl kc N ad S) (cQ kc N ad S (1000000000 - (-1)) (refB b 1)) s.heap.size) ([.ref (ad 0), .int (iZ (u : Int)), .int (iZ n), .int (iZ s_), .int (iZ w)] : List Value).toArray s 0 0 (va_A (wl kc N ad S) s.heap.size)) D (va_A (wl kc N ad S) s.heap.size) 6 0 0 (wl kc N ad S) 0 [(0, .ref (ad 0)), (1, .int (iZ (u : Int))), (2, .int (iZ n)), (3, .int (iZ s_)), (4, .int (iZ w))] []
  have hP := hC.1
  have hW := hC.2.1
  have hEn := hC.2.2.1
  have hR := hC.2.2.2
  have hb0 := hI.1
  refine v_aload_n 0 0 C dX3_place_0 rfl ?_
  refine v_iload_n 1 1 C dX3_place_1 rfl ?_
  refine v_callq 2 hA (rV_Pg 2 C L_RX3_138 lk_187 lk_1 (m_planeThere hg hN hI hP hu) (vg.o hg) rfl ⟨rfl, rfl⟩ (rm_ok rfl) dX3_place_2) (fun r1 w2 h3 => ?_)
  obtain ⟨e_r1, rfl⟩ := h3
  refine v_eqv (.ref (ad (plN u))) (by rw [e_r1]; rfl) ?_
  refine v_astore 5 [(5, .ref (ad (plN u))), (0, .ref (ad 0)), (1, .int (iZ (u : Int))), (2, .int (iZ n)), (3, .int (iZ s_)), (4, .int (iZ w))] C dX3_place_5 (by decide) rfl ?_
  refine v_aload 7 0 C dX3_place_7 rfl ?_
  refine v_ifnull 9 C dX3_place_9 ?_
  refine v_iload_n 12 4 C dX3_place_12 rfl ?_
  refine v_calli 13 hA (rS 13 C L_RX3_124 lk_371 (m_isStep (by first | assumption | exact ⟨by omega, by omega⟩)) rfl rfl (rm_ok rfl) dX3_place_13) (fun r4 w5 h6 => ?_)
  obtain ⟨e_r4, rfl⟩ := h6
  refine v_eqi (iZ (bz (decide (0 ≤ s_ ∧ s_ < 17)))) (e_r4) ?_
  refine z_if_ne 16 25 C (bzr _) dX3_place_16 (by decide) (fun c16_0 => absurd c16_0 (fun q => q (by rw [decide_eq_false hs]; rfl))) (fun c16_0 => ?_)
  refine v_aload_n 19 1 C dX3_place_19 rfl ?_
  refine v_iconst 20 C (iZ (-1)) dX3_place_20 rfl ?_
  refine v_calli 21 hA (rV_Pg 21 C L_RX3_128 lk_375 lk_15 (m_refuseA hg hN hI hP 1 (by decide) (by decide)) (vg.o hg) rfl ⟨rfl, rfl⟩ (rm_ok rfl) dX3_place_21) (fun r7 w8 h9 => ?_)
  obtain ⟨e_r7, rfl⟩ := h9
  refine v_eqi (iZ (1000000000 - (-1))) (e_r7) ?_
  exact v_iret 24 C (⟨rfl, refS S b 1, t, rfl, refRC hC, refLE hE, refInv hI, refM⟩) dX3_place_24

set_option maxHeartbeats 4000000 in
set_option maxRecDepth 100000 in
theorem c_place_w {l : Launch} {D : va_G} {kc : Nat → ClassId} {N : Nat} {ad : Nat → Nat} {S : St} {b : Bs} {t : Ts} (hg : vg N) (hN : N = 66 + 15 * bn b) (hI : Inv b) (hC : RC S b t) (hE : LE b t) {u : Nat} (hu : thL b u) {j : Nat} (hj : j < 17) {n w : Int} (rn : r32 n) (rw_ : r32 w) (hw : ¬ (w = 0 ∨ w = 1)) : MetK l yX3_place cX3_place 6 (some FieldType.int) 4 0 0 102 D kc (wl kc N ad S) [.ref (ad 0), .int (iZ (u : Int)), .int (iZ n), .int (iZ (j : Int)), .int (iZ w)] (QI D kc (wl kc N ad S) (cQ kc N ad S (1000000000 - (-2)) (refB b 2))) := by
  refine MetK.of (by decide +kernel) (Nat.le_of_ble_eq_true rfl) ?_
  intro p e s m below meth c C
  have hA : ∀ q, s.heap.size ≤ q → va_A (wl kc N ad S) s.heap.size q := fun _ h => Or.inr h
  show V p l e { frames := 4, cells := 0, slots := 0, locals := 102 } s m ([.ref (ad 0), .int (iZ (u : Int)), .int (iZ n), .int (iZ (j : Int)), .int (iZ w)] : List Value).toArray below meth c (MQ below (QI D kc (wl kc N ad S) (cQ kc N ad S (1000000000 - (-2)) (refB b 2)) s.heap.size) ([.ref (ad 0), .int (iZ (u : Int)), .int (iZ n), .int (iZ (j : Int)), .int (iZ w)] : List Value).toArray s 0 0 (va_A (wl kc N ad S) s.heap.size)) D (va_A (wl kc N ad S) s.heap.size) 6 0 0 (wl kc N ad S) 0 [(0, .ref (ad 0)), (1, .int (iZ (u : Int))), (2, .int (iZ n)), (3, .int (iZ (j : Int))), (4, .int (iZ w))] []
  have hP := hC.1
  have hW := hC.2.1
  have hEn := hC.2.2.1
  have hR := hC.2.2.2
  have hb0 := hI.1
  refine v_aload_n 0 0 C dX3_place_0 rfl ?_
  refine v_iload_n 1 1 C dX3_place_1 rfl ?_
  refine v_callq 2 hA (rV_Pg 2 C L_RX3_138 lk_187 lk_1 (m_planeThere hg hN hI hP hu) (vg.o hg) rfl ⟨rfl, rfl⟩ (rm_ok rfl) dX3_place_2) (fun r1 w2 h3 => ?_)
  obtain ⟨e_r1, rfl⟩ := h3
  refine v_eqv (.ref (ad (plN u))) (by rw [e_r1]; rfl) ?_
  refine v_astore 5 [(5, .ref (ad (plN u))), (0, .ref (ad 0)), (1, .int (iZ (u : Int))), (2, .int (iZ n)), (3, .int (iZ (j : Int))), (4, .int (iZ w))] C dX3_place_5 (by decide) rfl ?_
  refine v_aload 7 0 C dX3_place_7 rfl ?_
  refine v_ifnull 9 C dX3_place_9 ?_
  refine v_iload_n 12 4 C dX3_place_12 rfl ?_
  refine v_calli 13 hA (rS 13 C L_RX3_124 lk_371 (m_isStep (by first | assumption | exact ⟨by omega, by omega⟩)) rfl rfl (rm_ok rfl) dX3_place_13) (fun r4 w5 h6 => ?_)
  obtain ⟨e_r4, rfl⟩ := h6
  refine v_eqi (iZ (bz (decide (0 ≤ (j : Int) ∧ (j : Int) < 17)))) (e_r4) ?_
  refine z_if_ne 16 25 C (bzr _) dX3_place_16 (by decide) (fun c16_0 => ?_) (fun c16_0 => absurd c16_0 (by rw [decide_eq_true (show 0 ≤ (j : Int) ∧ (j : Int) < 17 by omega)]; decide))
  refine v_iload 25 5 C dX3_place_25 rfl ?_
  refine z_if_eq 27 43 C (by first | assumption | exact ⟨by omega, by omega⟩) dX3_place_27 (by decide) (fun c27_1 => absurd c27_1 (fun q => hw (Or.inl q))) (fun c27_1 => ?_)
  refine v_iload 30 5 C dX3_place_30 rfl ?_
  refine v_iconst 32 C (iZ 1) dX3_place_32 rfl ?_
  refine z_icmp_eq 33 43 C (by first | assumption | exact ⟨by omega, by omega⟩) (by first | assumption | exact ⟨by omega, by omega⟩) dX3_place_33 (by decide) (fun c33_2 => absurd c33_2 (fun q => hw (Or.inr q))) (fun c33_2 => ?_)
  refine v_aload_n 36 1 C dX3_place_36 rfl ?_
  refine v_bipush 37 C (iZ (-2)) dX3_place_37 (by decide) ?_
  refine v_calli 39 hA (rV_Pg 39 C L_RX3_128 lk_375 lk_15 (m_refuseA hg hN hI hP 2 (by decide) (by decide)) (vg.o hg) rfl ⟨rfl, rfl⟩ (rm_ok rfl) dX3_place_39) (fun r7 w8 h9 => ?_)
  obtain ⟨e_r7, rfl⟩ := h9
  refine v_eqi (iZ (1000000000 - (-2))) (e_r7) ?_
  exact v_iret 42 C (⟨rfl, refS S b 2, t, rfl, refRC hC, refLE hE, refInv hI, refM⟩) dX3_place_42

set_option maxHeartbeats 4000000 in
set_option maxRecDepth 100000 in
theorem c_place_4 {l : Launch} {D : va_G} {kc : Nat → ClassId} {N : Nat} {ad : Nat → Nat} {S : St} {b : Bs} {t : Ts} (hg : vg N) (hN : N = 66 + 15 * bn b) (hI : Inv b) (hC : RC S b t) (hE : LE b t) {u : Nat} (hu : thL b u) {j : Nat} (hj : j < 17) {n w : Int} (rn : r32 n) (rw_ : r32 w) (hw : w = 0 ∨ w = 1) (hn : n < 0) : MetK l yX3_place cX3_place 6 (some FieldType.int) 4 0 0 102 D kc (wl kc N ad S) [.ref (ad 0), .int (iZ (u : Int)), .int (iZ n), .int (iZ (j : Int)), .int (iZ w)] (QI D kc (wl kc N ad S) (cQ kc N ad S (1000000000 - (-4)) (refB b 4))) := by
  refine MetK.of (by decide +kernel) (Nat.le_of_ble_eq_true rfl) ?_
  intro p e s m below meth c C
  have hA : ∀ q, s.heap.size ≤ q → va_A (wl kc N ad S) s.heap.size q := fun _ h => Or.inr h
  show V p l e { frames := 4, cells := 0, slots := 0, locals := 102 } s m ([.ref (ad 0), .int (iZ (u : Int)), .int (iZ n), .int (iZ (j : Int)), .int (iZ w)] : List Value).toArray below meth c (MQ below (QI D kc (wl kc N ad S) (cQ kc N ad S (1000000000 - (-4)) (refB b 4)) s.heap.size) ([.ref (ad 0), .int (iZ (u : Int)), .int (iZ n), .int (iZ (j : Int)), .int (iZ w)] : List Value).toArray s 0 0 (va_A (wl kc N ad S) s.heap.size)) D (va_A (wl kc N ad S) s.heap.size) 6 0 0 (wl kc N ad S) 0 [(0, .ref (ad 0)), (1, .int (iZ (u : Int))), (2, .int (iZ n)), (3, .int (iZ (j : Int))), (4, .int (iZ w))] []
  have hP := hC.1
  have hW := hC.2.1
  have hEn := hC.2.2.1
  have hR := hC.2.2.2
  have hb0 := hI.1
  refine v_aload_n 0 0 C dX3_place_0 rfl ?_
  refine v_iload_n 1 1 C dX3_place_1 rfl ?_
  refine v_callq 2 hA (rV_Pg 2 C L_RX3_138 lk_187 lk_1 (m_planeThere hg hN hI hP hu) (vg.o hg) rfl ⟨rfl, rfl⟩ (rm_ok rfl) dX3_place_2) (fun r1 w2 h3 => ?_)
  obtain ⟨e_r1, rfl⟩ := h3
  refine v_eqv (.ref (ad (plN u))) (by rw [e_r1]; rfl) ?_
  refine v_astore 5 [(5, .ref (ad (plN u))), (0, .ref (ad 0)), (1, .int (iZ (u : Int))), (2, .int (iZ n)), (3, .int (iZ (j : Int))), (4, .int (iZ w))] C dX3_place_5 (by decide) rfl ?_
  refine v_aload 7 0 C dX3_place_7 rfl ?_
  refine v_ifnull 9 C dX3_place_9 ?_
  refine v_iload_n 12 4 C dX3_place_12 rfl ?_
  refine v_calli 13 hA (rS 13 C L_RX3_124 lk_371 (m_isStep (by first | assumption | exact ⟨by omega, by omega⟩)) rfl rfl (rm_ok rfl) dX3_place_13) (fun r4 w5 h6 => ?_)
  obtain ⟨e_r4, rfl⟩ := h6
  refine v_eqi (iZ (bz (decide (0 ≤ (j : Int) ∧ (j : Int) < 17)))) (e_r4) ?_
  refine z_if_ne 16 25 C (bzr _) dX3_place_16 (by decide) (fun c16_0 => ?_) (fun c16_0 => absurd c16_0 (by rw [decide_eq_true (show 0 ≤ (j : Int) ∧ (j : Int) < 17 by omega)]; decide))
  refine v_iload 25 5 C dX3_place_25 rfl ?_
  refine z_if_eq 27 43 C (by first | assumption | exact ⟨by omega, by omega⟩) dX3_place_27 (by decide) (fun c27_1 => ?_) (fun c27_1 => ?_)
  · skip
    refine v_iload_n 43 3 C dX3_place_43 rfl ?_
    refine z_if_ge 44 54 C (by first | assumption | exact ⟨by omega, by omega⟩) dX3_place_44 (by decide) (fun c44_2 => absurd c44_2 (by omega)) (fun c44_2 => ?_)
    refine v_aload_n 47 1 C dX3_place_47 rfl ?_
    refine v_bipush 48 C (iZ (-4)) dX3_place_48 (by decide) ?_
    refine v_calli 50 hA (rV_Pg 50 C L_RX3_128 lk_375 lk_15 (m_refuseA hg hN hI hP 4 (by decide) (by decide)) (vg.o hg) rfl ⟨rfl, rfl⟩ (rm_ok rfl) dX3_place_50) (fun r7 w8 h9 => ?_)
    obtain ⟨e_r7, rfl⟩ := h9
    refine v_eqi (iZ (1000000000 - (-4))) (e_r7) ?_
    exact v_iret 53 C (⟨rfl, refS S b 4, t, rfl, refRC hC, refLE hE, refInv hI, refM⟩) dX3_place_53
  · skip
    refine v_iload 30 5 C dX3_place_30 rfl ?_
    refine v_iconst 32 C (iZ 1) dX3_place_32 rfl ?_
    refine z_icmp_eq 33 43 C (by first | assumption | exact ⟨by omega, by omega⟩) (by first | assumption | exact ⟨by omega, by omega⟩) dX3_place_33 (by decide) (fun c33_2 => ?_) (fun c33_2 => absurd (by omega) c33_2)
    refine v_iload_n 43 3 C dX3_place_43 rfl ?_
    refine z_if_ge 44 54 C (by first | assumption | exact ⟨by omega, by omega⟩) dX3_place_44 (by decide) (fun c44_3 => absurd c44_3 (by omega)) (fun c44_3 => ?_)
    refine v_aload_n 47 1 C dX3_place_47 rfl ?_
    refine v_bipush 48 C (iZ (-4)) dX3_place_48 (by decide) ?_
    refine v_calli 50 hA (rV_Pg 50 C L_RX3_128 lk_375 lk_15 (m_refuseA hg hN hI hP 4 (by decide) (by decide)) (vg.o hg) rfl ⟨rfl, rfl⟩ (rm_ok rfl) dX3_place_50) (fun r10 w11 h12 => ?_)
    obtain ⟨e_r10, rfl⟩ := h12
    refine v_eqi (iZ (1000000000 - (-4))) (e_r10) ?_
    exact v_iret 53 C (⟨rfl, refS S b 4, t, rfl, refRC hC, refLE hE, refInv hI, refM⟩) dX3_place_53

set_option maxHeartbeats 4000000 in
set_option maxRecDepth 100000 in
theorem c_place_6 {l : Launch} {D : va_G} {kc : Nat → ClassId} {N : Nat} {ad : Nat → Nat} {S : St} {b : Bs} {t : Ts} (hg : vg N) (hN : N = 66 + 15 * bn b) (hI : Inv b) (hC : RC S b t) (hE : LE b t) {u : Nat} (hu : thL b u) {j : Nat} (hj : j < 17) {n w : Int} (rn : r32 n) (rw_ : r32 w) (hw : w = 0 ∨ w = 1) (hn : 0 ≤ n) (hn2 : szL b u < n) : MetK l yX3_place cX3_place 6 (some FieldType.int) 4 0 0 102 D kc (wl kc N ad S) [.ref (ad 0), .int (iZ (u : Int)), .int (iZ n), .int (iZ (j : Int)), .int (iZ w)] (QI D kc (wl kc N ad S) (cQ kc N ad S (1000000000 - (-6)) (refB b 6))) := by
  refine MetK.of (by decide +kernel) (Nat.le_of_ble_eq_true rfl) ?_
  intro p e s m below meth c C
  have hA : ∀ q, s.heap.size ≤ q → va_A (wl kc N ad S) s.heap.size q := fun _ h => Or.inr h
  show V p l e { frames := 4, cells := 0, slots := 0, locals := 102 } s m ([.ref (ad 0), .int (iZ (u : Int)), .int (iZ n), .int (iZ (j : Int)), .int (iZ w)] : List Value).toArray below meth c (MQ below (QI D kc (wl kc N ad S) (cQ kc N ad S (1000000000 - (-6)) (refB b 6)) s.heap.size) ([.ref (ad 0), .int (iZ (u : Int)), .int (iZ n), .int (iZ (j : Int)), .int (iZ w)] : List Value).toArray s 0 0 (va_A (wl kc N ad S) s.heap.size)) D (va_A (wl kc N ad S) s.heap.size) 6 0 0 (wl kc N ad S) 0 [(0, .ref (ad 0)), (1, .int (iZ (u : Int))), (2, .int (iZ n)), (3, .int (iZ (j : Int))), (4, .int (iZ w))] []
  have hP := hC.1
  have hW := hC.2.1
  have hEn := hC.2.2.1
  have hR := hC.2.2.2
  have hb0 := hI.1
  have hsz := szL_b hI hu
  refine v_aload_n 0 0 C dX3_place_0 rfl ?_
  refine v_iload_n 1 1 C dX3_place_1 rfl ?_
  refine v_callq 2 hA (rV_Pg 2 C L_RX3_138 lk_187 lk_1 (m_planeThere hg hN hI hP hu) (vg.o hg) rfl ⟨rfl, rfl⟩ (rm_ok rfl) dX3_place_2) (fun r1 w2 h3 => ?_)
  obtain ⟨e_r1, rfl⟩ := h3
  refine v_eqv (.ref (ad (plN u))) (by rw [e_r1]; rfl) ?_
  refine v_astore 5 [(5, .ref (ad (plN u))), (0, .ref (ad 0)), (1, .int (iZ (u : Int))), (2, .int (iZ n)), (3, .int (iZ (j : Int))), (4, .int (iZ w))] C dX3_place_5 (by decide) rfl ?_
  refine v_aload 7 0 C dX3_place_7 rfl ?_
  refine v_ifnull 9 C dX3_place_9 ?_
  refine v_iload_n 12 4 C dX3_place_12 rfl ?_
  refine v_calli 13 hA (rS 13 C L_RX3_124 lk_371 (m_isStep (by first | assumption | exact ⟨by omega, by omega⟩)) rfl rfl (rm_ok rfl) dX3_place_13) (fun r4 w5 h6 => ?_)
  obtain ⟨e_r4, rfl⟩ := h6
  refine v_eqi (iZ (bz (decide (0 ≤ (j : Int) ∧ (j : Int) < 17)))) (e_r4) ?_
  refine z_if_ne 16 25 C (bzr _) dX3_place_16 (by decide) (fun c16_0 => ?_) (fun c16_0 => absurd c16_0 (by rw [decide_eq_true (show 0 ≤ (j : Int) ∧ (j : Int) < 17 by omega)]; decide))
  refine v_iload 25 5 C dX3_place_25 rfl ?_
  refine z_if_eq 27 43 C (by first | assumption | exact ⟨by omega, by omega⟩) dX3_place_27 (by decide) (fun c27_1 => ?_) (fun c27_1 => ?_)
  · skip
    refine v_iload_n 43 3 C dX3_place_43 rfl ?_
    refine z_if_ge 44 54 C (by first | assumption | exact ⟨by omega, by omega⟩) dX3_place_44 (by decide) (fun c44_2 => ?_) (fun c44_2 => absurd (by omega) c44_2)
    refine v_iload_n 54 3 C dX3_place_54 rfl ?_
    refine v_aload 55 0 C dX3_place_55 rfl ?_
    refine g_Pl_size 57 C (vl.o (vl_p hg hN hu)).1 (vl.o (vl_p hg hN hu)).2 lk_110 dX3_place_57 ?_
    refine v_eqi (iZ (szL b u)) (szL_S hP hu) ?_
    refine z_icmp_le 60 70 C (by first | assumption | exact ⟨by omega, by omega⟩) (by first | assumption | exact ⟨by omega, by omega⟩) dX3_place_60 (by decide) (fun c60_3 => absurd c60_3 (by omega)) (fun c60_3 => ?_)
    refine v_aload_n 63 1 C dX3_place_63 rfl ?_
    refine v_bipush 64 C (iZ (-6)) dX3_place_64 (by decide) ?_
    refine v_calli 66 hA (rV_Pg 66 C L_RX3_128 lk_375 lk_15 (m_refuseA hg hN hI hP 6 (by decide) (by decide)) (vg.o hg) rfl ⟨rfl, rfl⟩ (rm_ok rfl) dX3_place_66) (fun r7 w8 h9 => ?_)
    obtain ⟨e_r7, rfl⟩ := h9
    refine v_eqi (iZ (1000000000 - (-6))) (e_r7) ?_
    exact v_iret 69 C (⟨rfl, refS S b 6, t, rfl, refRC hC, refLE hE, refInv hI, refM⟩) dX3_place_69
  · skip
    refine v_iload 30 5 C dX3_place_30 rfl ?_
    refine v_iconst 32 C (iZ 1) dX3_place_32 rfl ?_
    refine z_icmp_eq 33 43 C (by first | assumption | exact ⟨by omega, by omega⟩) (by first | assumption | exact ⟨by omega, by omega⟩) dX3_place_33 (by decide) (fun c33_2 => ?_) (fun c33_2 => absurd (by omega) c33_2)
    refine v_iload_n 43 3 C dX3_place_43 rfl ?_
    refine z_if_ge 44 54 C (by first | assumption | exact ⟨by omega, by omega⟩) dX3_place_44 (by decide) (fun c44_3 => ?_) (fun c44_3 => absurd (by omega) c44_3)
    refine v_iload_n 54 3 C dX3_place_54 rfl ?_
    refine v_aload 55 0 C dX3_place_55 rfl ?_
    refine g_Pl_size 57 C (vl.o (vl_p hg hN hu)).1 (vl.o (vl_p hg hN hu)).2 lk_110 dX3_place_57 ?_
    refine v_eqi (iZ (szL b u)) (szL_S hP hu) ?_
    refine z_icmp_le 60 70 C (by first | assumption | exact ⟨by omega, by omega⟩) (by first | assumption | exact ⟨by omega, by omega⟩) dX3_place_60 (by decide) (fun c60_4 => absurd c60_4 (by omega)) (fun c60_4 => ?_)
    refine v_aload_n 63 1 C dX3_place_63 rfl ?_
    refine v_bipush 64 C (iZ (-6)) dX3_place_64 (by decide) ?_
    refine v_calli 66 hA (rV_Pg 66 C L_RX3_128 lk_375 lk_15 (m_refuseA hg hN hI hP 6 (by decide) (by decide)) (vg.o hg) rfl ⟨rfl, rfl⟩ (rm_ok rfl) dX3_place_66) (fun r10 w11 h12 => ?_)
    obtain ⟨e_r10, rfl⟩ := h12
    refine v_eqi (iZ (1000000000 - (-6))) (e_r10) ?_
    exact v_iret 69 C (⟨rfl, refS S b 6, t, rfl, refRC hC, refLE hE, refInv hI, refM⟩) dX3_place_69

set_option maxHeartbeats 4000000 in
set_option maxRecDepth 100000 in
theorem c_place {l : Launch} {D : va_G} {kc : Nat → ClassId} {N : Nat} {ad : Nat → Nat} {S : St} {b : Bs} {t : Ts} (hg : vg N) (hN : N = 66 + 15 * bn b) (hI : Inv b) (hC : RC S b t) (hE : LE b t) {u : Nat} (hu : thL b u) {j : Nat} (hj : j < 17) {n w : Int} (rn : r32 n) (rw_ : r32 w) (hw : w = 0 ∨ w = 1) (hn : 0 ≤ n) (hn2 : n ≤ szL b u) : MetK l yX3_place cX3_place 6 (some FieldType.int) 4 0 0 102 D kc (wl kc N ad S) [.ref (ad 0), .int (iZ (u : Int)), .int (iZ n), .int (iZ (j : Int)), .int (iZ w)] (QI D kc (wl kc N ad S) (cQ kc N ad S (if PS t j u = 0 then (if w = 0 then PLx b t j u n else PLy b t j u n) else 1000000000) (b))) := by
  refine MetK.of (by decide +kernel) (Nat.le_of_ble_eq_true rfl) ?_
  intro p e s m below meth c C
  have hA : ∀ q, s.heap.size ≤ q → va_A (wl kc N ad S) s.heap.size q := fun _ h => Or.inr h
  show V p l e { frames := 4, cells := 0, slots := 0, locals := 102 } s m ([.ref (ad 0), .int (iZ (u : Int)), .int (iZ n), .int (iZ (j : Int)), .int (iZ w)] : List Value).toArray below meth c (MQ below (QI D kc (wl kc N ad S) (cQ kc N ad S (if PS t j u = 0 then (if w = 0 then PLx b t j u n else PLy b t j u n) else 1000000000) (b)) s.heap.size) ([.ref (ad 0), .int (iZ (u : Int)), .int (iZ n), .int (iZ (j : Int)), .int (iZ w)] : List Value).toArray s 0 0 (va_A (wl kc N ad S) s.heap.size)) D (va_A (wl kc N ad S) s.heap.size) 6 0 0 (wl kc N ad S) 0 [(0, .ref (ad 0)), (1, .int (iZ (u : Int))), (2, .int (iZ n)), (3, .int (iZ (j : Int))), (4, .int (iZ w))] []
  have hP := hC.1
  have hW := hC.2.1
  have hEn := hC.2.2.1
  have hR := hC.2.2.2
  have hb0 := hI.1
  have hsz := szL_b hI hu
  obtain ⟨f1, h01, f3⟩ := pl_facts hg hN hI hR hE hW hEn hu hj
  have mk : MetK l yX1_mark cX1_mark 11 none 3 0 0 72 D kc (wl kc N ad S) [.ref (ad (plN u)), .int (iZ n), .int (iZ (j : Int)), .ref (ad 19)] (QV D kc (wl kc N ad S) (fun ws' => ws' = wl kc N ad (mkT S 19 j (PS t j u) (PLx b t j u n) (PLy b t j u n)))) := by
    by_cases h0 : PS t j u = 0
    · obtain ⟨bx, by_, ax, ay, wh, lf, ⟨e1, e2, e3, e4, e5⟩, ⟨f1, f2, f3, f4, f5⟩, ⟨g1, g2, g3, g4⟩, hv⟩ := mk_facts hN hI hW (szL_S hP hu) hu hj (fun q => ⟨hR _ (thL_lt hu q).1 (thL_lt hu q).1 (thL_lt hu q).2 j hj, LE_bd hI hE _ _ (Nat.lt_succ_self _) (thL_lt hu q).1 (thL_lt hu q).1 (thL_lt hu q).2 j hj⟩) h0
      have r := m_mark (l := l) (D := D) (kc := kc) (ad := ad) (n := n) (vl_p hg hN hu) (vg.b hg) hj e1 e2 e3 e4 e5 f1 f2 f3 f4 f5 (by omega) g1 g2 g3 g4
      rw [(hv n).1, (hv n).2] at r
      unfold mkT; rw [if_pos h0]; exact r
    · have r := m_mark_no (l := l) (D := D) (kc := kc) (ad := ad) (n := n) (vl_p hg hN hu) (vg.b hg) hj (by rw [f1, h01.resolve_left h0])
      unfold mkT; rw [if_neg h0]; exact r
  refine v_aload_n 0 0 C dX3_place_0 rfl ?_
  refine v_iload_n 1 1 C dX3_place_1 rfl ?_
  refine v_callq 2 hA (rV_Pg 2 C L_RX3_138 lk_187 lk_1 (m_planeThere hg hN hI hP hu) (vg.o hg) rfl ⟨rfl, rfl⟩ (rm_ok rfl) dX3_place_2) (fun r1 w2 h3 => ?_)
  obtain ⟨e_r1, rfl⟩ := h3
  refine v_eqv (.ref (ad (plN u))) (by rw [e_r1]; rfl) ?_
  refine v_astore 5 [(5, .ref (ad (plN u))), (0, .ref (ad 0)), (1, .int (iZ (u : Int))), (2, .int (iZ n)), (3, .int (iZ (j : Int))), (4, .int (iZ w))] C dX3_place_5 (by decide) rfl ?_
  refine v_aload 7 0 C dX3_place_7 rfl ?_
  refine v_ifnull 9 C dX3_place_9 ?_
  refine v_iload_n 12 4 C dX3_place_12 rfl ?_
  refine v_calli 13 hA (rS 13 C L_RX3_124 lk_371 (m_isStep (by first | assumption | exact ⟨by omega, by omega⟩)) rfl rfl (rm_ok rfl) dX3_place_13) (fun r4 w5 h6 => ?_)
  obtain ⟨e_r4, rfl⟩ := h6
  refine v_eqi (iZ (bz (decide (0 ≤ (j : Int) ∧ (j : Int) < 17)))) (e_r4) ?_
  refine z_if_ne 16 25 C (bzr _) dX3_place_16 (by decide) (fun c16_0 => ?_) (fun c16_0 => absurd c16_0 (by rw [decide_eq_true (show 0 ≤ (j : Int) ∧ (j : Int) < 17 by omega)]; decide))
  refine v_iload 25 5 C dX3_place_25 rfl ?_
  refine z_if_eq 27 43 C (by first | assumption | exact ⟨by omega, by omega⟩) dX3_place_27 (by decide) (fun c27_1 => ?_) (fun c27_1 => ?_)
  · skip
    refine v_iload_n 43 3 C dX3_place_43 rfl ?_
    refine z_if_ge 44 54 C (by first | assumption | exact ⟨by omega, by omega⟩) dX3_place_44 (by decide) (fun c44_2 => ?_) (fun c44_2 => absurd (by omega) c44_2)
    refine v_iload_n 54 3 C dX3_place_54 rfl ?_
    refine v_aload 55 0 C dX3_place_55 rfl ?_
    refine g_Pl_size 57 C (vl.o (vl_p hg hN hu)).1 (vl.o (vl_p hg hN hu)).2 lk_110 dX3_place_57 ?_
    refine v_eqi (iZ (szL b u)) (szL_S hP hu) ?_
    refine z_icmp_le 60 70 C (by first | assumption | exact ⟨by omega, by omega⟩) (by first | assumption | exact ⟨by omega, by omega⟩) dX3_place_60 (by decide) (fun c60_3 => ?_) (fun c60_3 => absurd (by omega) c60_3)
    refine v_aload 70 0 C dX3_place_70 rfl ?_
    refine v_iload_n 72 3 C dX3_place_72 rfl ?_
    refine v_iload_n 73 4 C dX3_place_73 rfl ?_
    refine v_aload_n 74 1 C dX3_place_74 rfl ?_
    refine g_Pg_probe 75 C (vg.o hg).1 (vg.o hg).2 lk_213 dX3_place_75 ?_
    refine v_callv 78 hA (rV_Pl 78 C L_RX3_145 lk_190 lk_191 (mk) (vl.o (vl_p hg hN hu)) rfl ⟨rfl, rfl⟩ (rm_ok rfl) dX3_place_78) (fun w8 h9 => ?_)
    obtain rfl := h9
    refine v_aload_n 81 1 C dX3_place_81 rfl ?_
    refine g_Pg_probe 82 C (vg.o hg).1 (vg.o hg).2 lk_213 dX3_place_82 ?_
    refine v_iload_n 85 4 C dX3_place_85 rfl ?_
    refine v_iload 86 5 C dX3_place_86 rfl ?_
    refine v_calli 88 hA (rS 88 C L_RX3_134 lk_379 (m_coord (vg.b hg) hj (by first | assumption | exact ⟨by omega, by omega⟩) (mkT_s h01) h01 (fun q => ⟨mkT_x q, mkT_y q⟩)) rfl rfl (rm_ok rfl) dX3_place_88) (fun r10 w11 h12 => ?_)
    obtain ⟨e_r10, rfl⟩ := h12
    refine v_eqi (iZ (if PS t j u = 0 then (if w = 0 then PLx b t j u n else PLy b t j u n) else 1000000000)) (e_r10) ?_
    exact v_iret 91 C (⟨rfl, mkT S 19 j (PS t j u) (PLx b t j u n) (PLy b t j u n), t, rfl, hC.keep2 (same_mk (by unfold usedC; omega) (by unfold usedC; omega) (by unfold usedC; omega)), hE, hI, same_mk (nM_lo (by decide)) (nM_lo (by decide)) (nM_lo (by decide))⟩) dX3_place_91
  · skip
    refine v_iload 30 5 C dX3_place_30 rfl ?_
    refine v_iconst 32 C (iZ 1) dX3_place_32 rfl ?_
    refine z_icmp_eq 33 43 C (by first | assumption | exact ⟨by omega, by omega⟩) (by first | assumption | exact ⟨by omega, by omega⟩) dX3_place_33 (by decide) (fun c33_2 => ?_) (fun c33_2 => absurd (by omega) c33_2)
    refine v_iload_n 43 3 C dX3_place_43 rfl ?_
    refine z_if_ge 44 54 C (by first | assumption | exact ⟨by omega, by omega⟩) dX3_place_44 (by decide) (fun c44_3 => ?_) (fun c44_3 => absurd (by omega) c44_3)
    refine v_iload_n 54 3 C dX3_place_54 rfl ?_
    refine v_aload 55 0 C dX3_place_55 rfl ?_
    refine g_Pl_size 57 C (vl.o (vl_p hg hN hu)).1 (vl.o (vl_p hg hN hu)).2 lk_110 dX3_place_57 ?_
    refine v_eqi (iZ (szL b u)) (szL_S hP hu) ?_
    refine z_icmp_le 60 70 C (by first | assumption | exact ⟨by omega, by omega⟩) (by first | assumption | exact ⟨by omega, by omega⟩) dX3_place_60 (by decide) (fun c60_4 => ?_) (fun c60_4 => absurd (by omega) c60_4)
    refine v_aload 70 0 C dX3_place_70 rfl ?_
    refine v_iload_n 72 3 C dX3_place_72 rfl ?_
    refine v_iload_n 73 4 C dX3_place_73 rfl ?_
    refine v_aload_n 74 1 C dX3_place_74 rfl ?_
    refine g_Pg_probe 75 C (vg.o hg).1 (vg.o hg).2 lk_213 dX3_place_75 ?_
    refine v_callv 78 hA (rV_Pl 78 C L_RX3_145 lk_190 lk_191 (mk) (vl.o (vl_p hg hN hu)) rfl ⟨rfl, rfl⟩ (rm_ok rfl) dX3_place_78) (fun w14 h15 => ?_)
    obtain rfl := h15
    refine v_aload_n 81 1 C dX3_place_81 rfl ?_
    refine g_Pg_probe 82 C (vg.o hg).1 (vg.o hg).2 lk_213 dX3_place_82 ?_
    refine v_iload_n 85 4 C dX3_place_85 rfl ?_
    refine v_iload 86 5 C dX3_place_86 rfl ?_
    refine v_calli 88 hA (rS 88 C L_RX3_134 lk_379 (m_coord (vg.b hg) hj (by first | assumption | exact ⟨by omega, by omega⟩) (mkT_s h01) h01 (fun q => ⟨mkT_x q, mkT_y q⟩)) rfl rfl (rm_ok rfl) dX3_place_88) (fun r16 w17 h18 => ?_)
    obtain ⟨e_r16, rfl⟩ := h18
    refine v_eqi (iZ (if PS t j u = 0 then (if w = 0 then PLx b t j u n else PLy b t j u n) else 1000000000)) (e_r16) ?_
    exact v_iret 91 C (⟨rfl, mkT S 19 j (PS t j u) (PLx b t j u n) (PLy b t j u n), t, rfl, hC.keep2 (same_mk (by unfold usedC; omega) (by unfold usedC; omega) (by unfold usedC; omega)), hE, hI, same_mk (nM_lo (by decide)) (nM_lo (by decide)) (nM_lo (by decide))⟩) dX3_place_91

def rn (b : Bs) (t : Ts) (s p q : Nat) : Bool := thLb b p && frP b t s p q
theorem frF_spec (P : Nat → Bool) : ∀ n q0, (frF P n q0 = -9 ∧ ∀ q, q0 ≤ q → q < q0 + n → P q = false) ∨ ∃ q, q0 ≤ q ∧ q < q0 + n ∧ P q = true ∧ frF P n q0 = (q : Int) ∧ ∀ q', q0 ≤ q' → q' < q → P q' = false := by
  intro n
  induction n with
  | zero => intro q0; exact Or.inl ⟨rfl, fun q h1 h2 => by omega⟩
  | succ n ih =>
    intro q0
    cases h : P q0 with
    | true => exact Or.inr ⟨q0, by omega, by omega, h, by rw [frF, if_pos h], fun q' h1 h2 => by omega⟩
    | false =>
      have e : frF P (n + 1) q0 = frF P n (q0 + 1) := by rw [frF, if_neg (by rw [h]; decide)]
      rw [e]
      rcases ih (q0 + 1) with ⟨h1, h2⟩ | ⟨q, h1, h2, h3, h4, h5⟩
      · refine Or.inl ⟨h1, fun q a1 a2 => ?_⟩
        by_cases e2 : q = q0
        · rw [e2]; exact h
        · exact h2 q (by omega) (by omega)
      · refine Or.inr ⟨q, by omega, by omega, h3, h4, fun q' a1 a2 => ?_⟩
        by_cases e2 : q' = q0
        · rw [e2]; exact h
        · exact h5 q' (by omega) (by omega)
/-- what meets answers -/
def msR (b : Bs) (t : Ts) (w R : Int) : Prop := (R = -9 ∧ ∀ s p q, s < 17 → p < q → q < 62 → rn b t s p q = false) ∨ ∃ s p q : Nat, s < 17 ∧ p < q ∧ q < 62 ∧ rn b t s p q = true ∧ (∀ s' p' q' : Nat, s' < 17 → p' < q' → q' < 62 → (s' < s ∨ (s' = s ∧ (p' < p ∨ (p' = p ∧ q' < q)))) → rn b t s' p' q' = false) ∧ R = (if w = 0 then (s : Int) else if w = 1 then (p : Int) else (q : Int))
theorem msR_uniq {b : Bs} {t : Ts} {w R R' : Int} (h : msR b t w R) (h' : msR b t w R') : R = R' := by
  rcases h with ⟨h1, h2⟩ | ⟨s, p, q, a1, a2, a3, a4, a5, a6⟩
  · rcases h' with ⟨h1', h2'⟩ | ⟨s, p, q, a1, a2, a3, a4, a5, a6⟩
    · omega
    · rw [h2 s p q a1 a2 a3] at a4; cases a4
  · rcases h' with ⟨h1', h2'⟩ | ⟨s', p', q', c1, c2, c3, c4, c5, c6⟩
    · rw [h2' s p q a1 a2 a3] at a4; cases a4
    · have e1 : ¬ (s' < s ∨ (s' = s ∧ (p' < p ∨ (p' = p ∧ q' < q)))) := fun z => by rw [a5 s' p' q' c1 c2 c3 z] at c4; cases c4
      have e2 : ¬ (s < s' ∨ (s = s' ∧ (p < p' ∨ (p = p' ∧ q < q')))) := fun z => by rw [c5 s p q a1 a2 a3 z] at a4; cases a4
      have e3 : s = s' ∧ p = p' ∧ q = q' := by omega
      rw [a6, c6, e3.1, e3.2.1, e3.2.2]
theorem fr_none {b : Bs} {t : Ts} {s p : Nat} (h : frN b t s p = -9) : ∀ q, p < q → q < 62 → rn b t s p q = false := by
  intro q h1 h2
  unfold frN at h
  rcases frF_spec (frP b t s p) (62 - (p + 1)) (p + 1) with ⟨_, g⟩ | ⟨q', _, _, _, g, _⟩
  · unfold rn; rw [g q (by omega) (by omega)]; simp
  · omega
theorem fr_some {b : Bs} {t : Ts} {s p : Nat} (hp : thL b p) (h : ¬ frN b t s p = -9) : ∃ q, p < q ∧ q < 62 ∧ rn b t s p q = true ∧ frN b t s p = (q : Int) ∧ ∀ q', p < q' → q' < q → rn b t s p q' = false := by
  unfold frN at h ⊢
  rcases frF_spec (frP b t s p) (62 - (p + 1)) (p + 1) with ⟨g, _⟩ | ⟨q, g1, g2, g3, g4, g5⟩
  · exact absurd g h
  · refine ⟨q, by omega, by omega, ?_, g4, fun q' a1 a2 => ?_⟩
    · unfold rn; rw [thLb_iff.mpr hp, g3]; rfl
    · unfold rn; rw [g5 q' (by omega) a2]; simp
theorem fr_b (b : Bs) (t : Ts) (s p : Nat) : r32 (frN b t s p) := by
  unfold frN
  rcases frF_spec (frP b t s p) (62 - (p + 1)) (p + 1) with ⟨g, _⟩ | ⟨q, g1, g2, _, g, _⟩
  · rw [g]; decide
  · rw [g]; exact ⟨by omega, by omega⟩
theorem rn_hi {b : Bs} {t : Ts} {s p q : Nat} (h : 2 + 2 * bn b ≤ p) : rn b t s p q = false := by
  unfold rn; rw [thLb_hi h]; rfl
theorem ms_next {b : Bs} {t : Ts} {s_ u : Nat} (h : ∀ s' p' q' : Nat, p' < q' → q' < 62 → (s' < s_ ∨ (s' = s_ ∧ p' < u)) → rn b t s' p' q' = false) (h2 : ∀ q, u < q → q < 62 → rn b t s_ u q = false) : ∀ s' p' q' : Nat, p' < q' → q' < 62 → (s' < s_ ∨ (s' = s_ ∧ p' < u + 1)) → rn b t s' p' q' = false := by
  intro s' p' q' z1 z2 z3
  by_cases e : s' = s_ ∧ p' = u
  · rw [e.1, e.2]; exact h2 q' (by omega) z2
  · exact h s' p' q' z1 z2 (by omega)
theorem ms_lex {b : Bs} {t : Ts} {s_ u q : Nat} (h : ∀ s' p' q' : Nat, p' < q' → q' < 62 → (s' < s_ ∨ (s' = s_ ∧ p' < u)) → rn b t s' p' q' = false) (h2 : ∀ q', u < q' → q' < q → rn b t s_ u q' = false) : ∀ s' p' q' : Nat, s' < 17 → p' < q' → q' < 62 → (s' < s_ ∨ (s' = s_ ∧ (p' < u ∨ (p' = u ∧ q' < q)))) → rn b t s' p' q' = false := by
  intro s' p' q' _ z1 z2 z3
  by_cases e : s' = s_ ∧ p' = u
  · rw [e.1, e.2]; exact h2 q' (by omega) (by omega)
  · exact h s' p' q' z1 z2 (by omega)
set_option maxHeartbeats 4000000 in
set_option maxRecDepth 100000 in
theorem c_meets_2 {l : Launch} {D : va_G} {kc : Nat → ClassId} {N : Nat} {ad : Nat → Nat} {S : St} {b : Bs} {t : Ts} (hg : vg N) (hN : N = 66 + 15 * bn b) (hI : Inv b) (hC : RC S b t) (hE : LE b t) {w : Int} (rw_ : r32 w) (hw : w < 0 ∨ 2 < w) : MetK l yX3_meets cX3_meets 6 (some FieldType.int) 5 0 0 128 D kc (wl kc N ad S) [.ref (ad 0), .int (iZ w)] (QI D kc (wl kc N ad S) (cQ kc N ad S (-2) (refB b 2))) := by
  refine MetK.of (by decide +kernel) (Nat.le_of_ble_eq_true rfl) ?_
  intro p e s m below meth c C
  have hA : ∀ q, s.heap.size ≤ q → va_A (wl kc N ad S) s.heap.size q := fun _ h => Or.inr h
  show V p l e { frames := 5, cells := 0, slots := 0, locals := 128 } s m ([.ref (ad 0), .int (iZ w)] : List Value).toArray below meth c (MQ below (QI D kc (wl kc N ad S) (cQ kc N ad S (-2) (refB b 2)) s.heap.size) ([.ref (ad 0), .int (iZ w)] : List Value).toArray s 0 0 (va_A (wl kc N ad S) s.heap.size)) D (va_A (wl kc N ad S) s.heap.size) 6 0 0 (wl kc N ad S) 0 [(0, .ref (ad 0)), (1, .int (iZ w))] []
  have hP := hC.1
  have hW := hC.2.1
  have hEn := hC.2.2.1
  have hR := hC.2.2.2
  have hb0 := hI.1
  refine v_iload_n 0 1 C dX3_meets_0 rfl ?_
  refine z_if_lt 1 9 C (by first | assumption | exact ⟨by omega, by omega⟩) dX3_meets_1 (by decide) (fun c1_0 => ?_) (fun c1_0 => ?_)
  · skip
    refine v_aload_n 9 0 C dX3_meets_9 rfl ?_
    refine v_bipush 10 C (iZ (-2)) dX3_meets_10 (by decide) ?_
    refine v_calli 12 hA (rV_Pg 12 C L_RX3_62 lk_252 lk_5 (m_refuse hg hN hI hP 2 (by decide) (by decide)) (vg.o hg) rfl ⟨rfl, rfl⟩ (rm_ok rfl) dX3_meets_12) (fun r1 w2 h3 => ?_)
    obtain ⟨e_r1, rfl⟩ := h3
    refine v_eqi (iZ (-2)) (e_r1) ?_
    exact v_iret 15 C (⟨rfl, refS S b 2, t, rfl, refRC hC, refLE hE, refInv hI, refM⟩) dX3_meets_15
  · skip
    refine v_iload_n 4 1 C dX3_meets_4 rfl ?_
    refine v_iconst 5 C (iZ 2) dX3_meets_5 rfl ?_
    refine z_icmp_le 6 16 C (by first | assumption | exact ⟨by omega, by omega⟩) (by first | assumption | exact ⟨by omega, by omega⟩) dX3_meets_6 (by decide) (fun c6_1 => absurd c6_1 (by omega)) (fun c6_1 => ?_)
    refine v_aload_n 9 0 C dX3_meets_9 rfl ?_
    refine v_bipush 10 C (iZ (-2)) dX3_meets_10 (by decide) ?_
    refine v_calli 12 hA (rV_Pg 12 C L_RX3_62 lk_252 lk_5 (m_refuse hg hN hI hP 2 (by decide) (by decide)) (vg.o hg) rfl ⟨rfl, rfl⟩ (rm_ok rfl) dX3_meets_12) (fun r4 w5 h6 => ?_)
    obtain ⟨e_r4, rfl⟩ := h6
    refine v_eqi (iZ (-2)) (e_r4) ?_
    exact v_iret 15 C (⟨rfl, refS S b 2, t, rfl, refRC hC, refLE hE, refInv hI, refM⟩) dX3_meets_15

set_option maxHeartbeats 4000000 in
set_option maxRecDepth 100000 in
theorem c_meets {l : Launch} {D : va_G} {kc : Nat → ClassId} {N : Nat} {ad : Nat → Nat} {S : St} {b : Bs} {t : Ts} (hg : vg N) (hN : N = 66 + 15 * bn b) (hI : Inv b) (hC : RC S b t) (hE : LE b t) {w : Int} (rw_ : r32 w) (hw : 0 ≤ w ∧ w ≤ 2) : MetK l yX3_meets cX3_meets 6 (some FieldType.int) 5 0 0 128 D kc (wl kc N ad S) [.ref (ad 0), .int (iZ w)] (QI D kc (wl kc N ad S) (fun r ws' => ∃ R : Int, msR b t w R ∧ cQ kc N ad S R b r ws')) := by
  refine MetK.of (by decide +kernel) (Nat.le_of_ble_eq_true rfl) ?_
  intro p e s m below meth c C
  have hA : ∀ q, s.heap.size ≤ q → va_A (wl kc N ad S) s.heap.size q := fun _ h => Or.inr h
  show V p l e { frames := 5, cells := 0, slots := 0, locals := 128 } s m ([.ref (ad 0), .int (iZ w)] : List Value).toArray below meth c (MQ below (QI D kc (wl kc N ad S) (fun r ws' => ∃ R : Int, msR b t w R ∧ cQ kc N ad S R b r ws') s.heap.size) ([.ref (ad 0), .int (iZ w)] : List Value).toArray s 0 0 (va_A (wl kc N ad S) s.heap.size)) D (va_A (wl kc N ad S) s.heap.size) 6 0 0 (wl kc N ad S) 0 [(0, .ref (ad 0)), (1, .int (iZ w))] []
  have hP := hC.1
  have hW := hC.2.1
  have hEn := hC.2.2.1
  have hR := hC.2.2.2
  have hb0 := hI.1
  have loop : ∀ (d s_ : Nat), s_ + d = 17 → (∀ s' p' q' : Nat, p' < q' → q' < 62 → (s' < s_) → rn b t s' p' q' = false) → V p l e { frames := 5, cells := 0, slots := 0, locals := 128 } s m ([.ref (ad 0), .int (iZ w)] : List Value).toArray below meth c (MQ below (QI D kc (wl kc N ad S) (fun r ws' => ∃ R : Int, msR b t w R ∧ cQ kc N ad S R b r ws') s.heap.size) ([.ref (ad 0), .int (iZ w)] : List Value).toArray s 0 0 (va_A (wl kc N ad S) s.heap.size)) D (va_A (wl kc N ad S) s.heap.size) 6 0 0 (wl kc N ad S) 23 [(3, .int (iZ (s_ : Int))), (2, .int (iZ (2 + 2 * b 0 0))), (1, .int (iZ w)), (0, .ref (ad 0))] [] := by
    intro d
    induction d with
    | zero =>
      intro s_ hs hnb
      refine v_iload_n 23 0 C dX3_meets_23 rfl ?_
      refine v_bipush 24 C (iZ 17) dX3_meets_24 (by decide) ?_
      refine z_icmp_ge 26 87 C (by first | assumption | exact ⟨by omega, by omega⟩) (by first | assumption | exact ⟨by omega, by omega⟩) dX3_meets_26 (by decide) (fun c26_0 => ?_) (fun c26_0 => absurd (by omega) c26_0)
      refine v_bipush 87 C (iZ (-9)) dX3_meets_87 (by decide) ?_
      exact v_iret 89 C (⟨-9, Or.inl ⟨rfl, fun s' p' q' z1 z2 z3 => hnb s' p' q' z2 z3 (by omega)⟩, rfl, S, t, rfl, hC, hE, hI, sameOn.rf⟩) dX3_meets_89
    | succ d ih =>
      intro s_ hs hnb
      have hs17 : s_ < 17 := by omega
      have inner : ∀ (f u : Nat), u + f = 2 + 2 * bn b → (∀ s' p' q' : Nat, p' < q' → q' < 62 → (s' < s_ ∨ (s' = s_ ∧ p' < u)) → rn b t s' p' q' = false) → V p l e { frames := 5, cells := 0, slots := 0, locals := 128 } s m ([.ref (ad 0), .int (iZ w)] : List Value).toArray below meth c (MQ below (QI D kc (wl kc N ad S) (fun r ws' => ∃ R : Int, msR b t w R ∧ cQ kc N ad S R b r ws') s.heap.size) ([.ref (ad 0), .int (iZ w)] : List Value).toArray s 0 0 (va_A (wl kc N ad S) s.heap.size)) D (va_A (wl kc N ad S) s.heap.size) 6 0 0 (wl kc N ad S) 32 [(4, .int (iZ (u : Int))), (3, .int (iZ (s_ : Int))), (2, .int (iZ (2 + 2 * b 0 0))), (1, .int (iZ w)), (0, .ref (ad 0))] [] := by
        intro f
        induction f with
        | zero =>
          intro u hu hnb2
          refine v_iload 32 0 C dX3_meets_32 rfl ?_
          refine v_iload_n 34 2 C dX3_meets_34 rfl ?_
          refine z_icmp_ge 35 81 C (by first | assumption | exact ⟨by omega, by omega⟩) (by first | assumption | exact ⟨by omega, by omega⟩) dX3_meets_35 (by decide) (fun c35_0 => ?_) (fun c35_0 => absurd (by omega) c35_0)
          refine v_iinc 81 1 (iZ ((s_ + 1 : Nat) : Int)) [(3, .int (iZ ((s_ + 1 : Nat) : Int))), (4, .int (iZ (u : Int))), (2, .int (iZ (2 + 2 * b 0 0))), (1, .int (iZ w)), (0, .ref (ad 0))] C dX3_meets_81 rfl (iZ_add _ _) (by decide) rfl ?_
          refine v_goto 84 23 C dX3_meets_84 (by decide) ?_
          refine v_sub [0, 2, 3, 4] rfl ?_
          exact ih (s_ + 1) (by omega) (fun s' p' q' z1 z2 z3 => if z : p' < u then hnb2 s' p' q' z1 z2 (by omega) else rn_hi (by omega))
        | succ f ih2 =>
          intro u hu hnb2
          have hfb := fr_b b t s_ u
          by_cases hth : thL b u
          · skip
            refine v_iload 32 0 C dX3_meets_32 rfl ?_
            refine v_iload_n 34 2 C dX3_meets_34 rfl ?_
            refine z_icmp_ge 35 81 C (by first | assumption | exact ⟨by omega, by omega⟩) (by first | assumption | exact ⟨by omega, by omega⟩) dX3_meets_35 (by decide) (fun c35_0 => absurd c35_0 (by omega)) (fun c35_0 => ?_)
            refine v_aload_n 38 4 C dX3_meets_38 rfl ?_
            refine v_iload 39 0 C dX3_meets_39 rfl ?_
            refine v_iload_n 41 1 C dX3_meets_41 rfl ?_
            refine v_calli 42 hA (rV_Pg 42 C L_RX3_165 lk_442 lk_18 (m_firstRun hg hN hI hP hR hE hW hEn hs17 hth) (vg.o hg) rfl ⟨rfl, rfl⟩ (rm_ok rfl) dX3_meets_42) (fun r1 w2 h3 => ?_)
            obtain ⟨e_r1, rfl⟩ := h3
            refine v_eqi (iZ (frN b t s_ u)) (e_r1) ?_
            refine v_istore 45 [(5, .int (iZ (frN b t s_ u))), (4, .int (iZ (u : Int))), (3, .int (iZ (s_ : Int))), (2, .int (iZ (2 + 2 * b 0 0))), (1, .int (iZ w)), (0, .ref (ad 0))] C dX3_meets_45 (by decide) rfl ?_
            refine v_iload 47 0 C dX3_meets_47 rfl ?_
            refine v_bipush 49 C (iZ (-9)) dX3_meets_49 (by decide) ?_
            refine z_icmp_eq 51 75 C (by first | assumption | exact ⟨by omega, by omega⟩) (by first | assumption | exact ⟨by omega, by omega⟩) dX3_meets_51 (by decide) (fun c51_1 => ?_) (fun c51_1 => ?_)
            · skip
              refine v_iinc 75 1 (iZ ((u + 1 : Nat) : Int)) [(4, .int (iZ ((u + 1 : Nat) : Int))), (5, .int (iZ (frN b t s_ u))), (3, .int (iZ (s_ : Int))), (2, .int (iZ (2 + 2 * b 0 0))), (1, .int (iZ w)), (0, .ref (ad 0))] C dX3_meets_75 rfl (iZ_add _ _) (by decide) rfl ?_
              refine v_goto 78 32 C dX3_meets_78 (by decide) ?_
              refine v_sub [0, 2, 3, 4, 5] rfl ?_
              exact ih2 (u + 1) (by omega) (ms_next hnb2 (fr_none c51_1))
            · skip
              obtain ⟨q, g1, g2, g3, g4, g5⟩ := fr_some hth c51_1
              refine v_iload_n 54 4 C dX3_meets_54 rfl ?_
              refine z_if_ne 55 62 C (by first | assumption | exact ⟨by omega, by omega⟩) dX3_meets_55 (by decide) (fun c55_2 => ?_) (fun c55_2 => ?_)
              · skip
                refine v_iload_n 62 4 C dX3_meets_62 rfl ?_
                refine v_iconst 63 C (iZ 1) dX3_meets_63 rfl ?_
                refine z_icmp_ne 64 72 C (by first | assumption | exact ⟨by omega, by omega⟩) (by first | assumption | exact ⟨by omega, by omega⟩) dX3_meets_64 (by decide) (fun c64_3 => ?_) (fun c64_3 => ?_)
                · skip
                  refine v_iload 72 0 C dX3_meets_72 rfl ?_
                  exact v_iret 74 C (⟨(q : Int), Or.inr ⟨s_, u, q, hs17, g1, g2, g3, ms_lex hnb2 g5, by rw [if_neg c55_2, if_neg c64_3]⟩, by rw [g4], S, t, rfl, hC, hE, hI, sameOn.rf⟩) dX3_meets_74
                · skip
                  refine v_iload 67 1 C dX3_meets_67 rfl ?_
                  refine v_goto 69 74 C dX3_meets_69 (by decide) ?_
                  exact v_iret 74 C (⟨(u : Int), Or.inr ⟨s_, u, q, hs17, g1, g2, g3, ms_lex hnb2 g5, by rw [if_neg c55_2, if_pos c64_3]⟩, rfl, S, t, rfl, hC, hE, hI, sameOn.rf⟩) dX3_meets_74
              · skip
                refine v_iload_n 58 2 C dX3_meets_58 rfl ?_
                refine v_goto 59 74 C dX3_meets_59 (by decide) ?_
                exact v_iret 74 C (⟨(s_ : Int), Or.inr ⟨s_, u, q, hs17, g1, g2, g3, ms_lex hnb2 g5, by rw [if_pos c55_2]⟩, rfl, S, t, rfl, hC, hE, hI, sameOn.rf⟩) dX3_meets_74
          · skip
            refine v_iload 32 0 C dX3_meets_32 rfl ?_
            refine v_iload_n 34 2 C dX3_meets_34 rfl ?_
            refine z_icmp_ge 35 81 C (by first | assumption | exact ⟨by omega, by omega⟩) (by first | assumption | exact ⟨by omega, by omega⟩) dX3_meets_35 (by decide) (fun c35_0 => absurd c35_0 (by omega)) (fun c35_0 => ?_)
            refine v_aload_n 38 4 C dX3_meets_38 rfl ?_
            refine v_iload 39 0 C dX3_meets_39 rfl ?_
            refine v_iload_n 41 1 C dX3_meets_41 rfl ?_
            refine v_calli 42 hA (rV_Pg 42 C L_RX3_165 lk_442 lk_18 (m_firstRun_no hg hN hI hP hs17 (show u < 62 by omega) hth) (vg.o hg) rfl ⟨rfl, rfl⟩ (rm_ok rfl) dX3_meets_42) (fun r4 w5 h6 => ?_)
            obtain ⟨e_r4, rfl⟩ := h6
            refine v_eqi (iZ (-9)) (e_r4) ?_
            refine v_istore 45 [(5, .int (iZ (-9))), (4, .int (iZ (u : Int))), (3, .int (iZ (s_ : Int))), (2, .int (iZ (2 + 2 * b 0 0))), (1, .int (iZ w)), (0, .ref (ad 0))] C dX3_meets_45 (by decide) rfl ?_
            refine v_iload 47 0 C dX3_meets_47 rfl ?_
            refine v_bipush 49 C (iZ (-9)) dX3_meets_49 (by decide) ?_
            refine z_icmp_eq 51 75 C (by first | assumption | exact ⟨by omega, by omega⟩) (by first | assumption | exact ⟨by omega, by omega⟩) dX3_meets_51 (by decide) (fun c51_1 => ?_) (fun c51_1 => absurd (rfl) c51_1)
            refine v_iinc 75 1 (iZ ((u + 1 : Nat) : Int)) [(4, .int (iZ ((u + 1 : Nat) : Int))), (5, .int (iZ (-9))), (3, .int (iZ (s_ : Int))), (2, .int (iZ (2 + 2 * b 0 0))), (1, .int (iZ w)), (0, .ref (ad 0))] C dX3_meets_75 rfl (iZ_add _ _) (by decide) rfl ?_
            refine v_goto 78 32 C dX3_meets_78 (by decide) ?_
            refine v_sub [0, 2, 3, 4, 5] rfl ?_
            exact ih2 (u + 1) (by omega) (ms_next hnb2 (fun q _ _ => by unfold rn; rw [show thLb b u = false from Bool.eq_false_iff.mpr (fun z => hth (thLb_iff.mp z))]; rfl))
      refine v_iload_n 23 0 C dX3_meets_23 rfl ?_
      refine v_bipush 24 C (iZ 17) dX3_meets_24 (by decide) ?_
      refine z_icmp_ge 26 87 C (by first | assumption | exact ⟨by omega, by omega⟩) (by first | assumption | exact ⟨by omega, by omega⟩) dX3_meets_26 (by decide) (fun c26_0 => absurd c26_0 (by omega)) (fun c26_0 => ?_)
      refine v_iconst 29 C (iZ 0) dX3_meets_29 rfl ?_
      refine v_istore 30 [(4, .int (iZ 0)), (3, .int (iZ (s_ : Int))), (2, .int (iZ (2 + 2 * b 0 0))), (1, .int (iZ w)), (0, .ref (ad 0))] C dX3_meets_30 (by decide) rfl ?_
      refine v_sub [0, 1, 2, 3, 4] rfl ?_
      exact inner (2 + 2 * bn b) 0 (by omega) (fun s' p' q' z1 z2 z3 => hnb s' p' q' z1 z2 (by omega))
  refine v_iload_n 0 1 C dX3_meets_0 rfl ?_
  refine z_if_lt 1 9 C (by first | assumption | exact ⟨by omega, by omega⟩) dX3_meets_1 (by decide) (fun c1_0 => absurd c1_0 (by omega)) (fun c1_0 => ?_)
  refine v_iload_n 4 1 C dX3_meets_4 rfl ?_
  refine v_iconst 5 C (iZ 2) dX3_meets_5 rfl ?_
  refine z_icmp_le 6 16 C (by first | assumption | exact ⟨by omega, by omega⟩) (by first | assumption | exact ⟨by omega, by omega⟩) dX3_meets_6 (by decide) (fun c6_1 => ?_) (fun c6_1 => absurd (by omega) c6_1)
  refine v_aload_n 16 0 C dX3_meets_16 rfl ?_
  refine v_calli 17 hA (rV_Pg 17 C L_RX3_162 lk_438 lk_17 (m_planesEver hg hN hI hP) (vg.o hg) rfl ⟨rfl, rfl⟩ (rm_ok rfl) dX3_meets_17) (fun r7 w8 h9 => ?_)
  obtain ⟨e_r7, rfl⟩ := h9
  refine v_eqi (iZ (2 + 2 * b 0 0)) (e_r7) ?_
  refine v_istore_n 20 [(2, .int (iZ (2 + 2 * b 0 0))), (0, .ref (ad 0)), (1, .int (iZ w))] C dX3_meets_20 (by decide) rfl ?_
  refine v_iconst 21 C (iZ 0) dX3_meets_21 rfl ?_
  refine v_istore_n 22 [(3, .int (iZ 0)), (2, .int (iZ (2 + 2 * b 0 0))), (0, .ref (ad 0)), (1, .int (iZ w))] C dX3_meets_22 (by decide) rfl ?_
  refine v_sub [0, 1, 3, 2] rfl ?_
  exact loop 17 0 (by omega) (fun _ _ _ _ _ z => absurd z (by omega))
