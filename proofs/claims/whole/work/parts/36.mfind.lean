/-! MODEL: FIND -/
theorem hgB_hgB {b : Bs} {k : Nat} {f x y : Int} : hgB (hgB b k f y) k f x = hgB b k f x := by
  have e : hgB b k f y 3 k = b 3 k := hgB_o (by decide) (by decide)
  funext g i
  by_cases h : b 3 k = 1
  · unfold hgB
    rw [if_pos h]
    rw [if_pos (by rw [upB_f (by decide), upB_f (by decide)]; exact h), if_pos h]
    unfold upB
    by_cases h6 : g = 6 ∧ i = (if f = 0 then 2 * k else 2 * k + 1)
    · rw [if_pos h6, if_pos h6]
    · rw [if_neg h6, if_neg h6]
      by_cases h5 : g = 5 ∧ i = (if f = 0 then 2 * k + 1 else 2 * k)
      · rw [if_pos h5, if_pos h5, if_neg h6]
      · rw [if_neg h5, if_neg h5, if_neg h6, if_neg h5]
  · unfold hgB
    rw [if_neg h]
    rw [if_neg (by rw [upB_f (by decide)]; exact h), if_neg h]
    unfold upB
    by_cases h5 : g = 5 ∧ i = (if f = 0 then 2 * k + 1 else 2 * k)
    · rw [if_pos h5, if_pos h5]
    · rw [if_neg h5, if_neg h5, if_neg h5]
theorem hgB_was {b : Bs} (hI : Inv b) {k : Nat} (hk : k < bn b) {f was : Int} (hw : was = if f = 0 then b 5 (2 * k + 1) else b 5 (2 * k)) : hgB b k f was = b := by
  have J := (hI.2.2.2.1 k hk).2.2.2
  funext g i
  unfold hgB
  split
  · rename_i h
    unfold upB
    by_cases h6 : g = 6 ∧ i = (if f = 0 then 2 * k else 2 * k + 1)
    · rw [if_pos h6, h6.1, h6.2, hw]
      by_cases q : f = 0
      · rw [if_pos q, if_pos q]; exact (J h).1.symm
      · rw [if_neg q, if_neg q]; exact (J h).2.symm
    · rw [if_neg h6]
      by_cases h5 : g = 5 ∧ i = (if f = 0 then 2 * k + 1 else 2 * k)
      · rw [if_pos h5, h5.1, h5.2, hw]
        by_cases q : f = 0
        · rw [if_pos q, if_pos q]
        · rw [if_neg q, if_neg q]
      · rw [if_neg h5]
  · unfold upB
    by_cases h5 : g = 5 ∧ i = (if f = 0 then 2 * k + 1 else 2 * k)
    · rw [if_pos h5, h5.1, h5.2, hw]
      by_cases q : f = 0
      · rw [if_pos q, if_pos q]
      · rw [if_neg q, if_neg q]
    · rw [if_neg h5]
theorem PL_hg {b : Bs} {t : Ts} {k j p : Nat} {f x n : Int} (hp : p < 2 * k + 2) : PLx (hgB b k f x) t j p n = PLx b t j p n ∧ PLy (hgB b k f x) t j p n = PLy b t j p n := by
  by_cases h : p < 2
  · rcases (show p = 0 ∨ p = 1 by omega) with rfl | rfl <;> exact ⟨rfl, rfl⟩
  · unfold PLx PLy
    rw [hgB_i (by omega) (by omega)]; exact ⟨rfl, rfl⟩
theorem hg_LE {b : Bs} {t : Ts} {k : Nat} {f x : Int} (hI : Inv b) (hE : LE b t) (hk : k < bn b) : LEk (hgB b k f x) t k := by
  intro q h1 h2 h3 s hs
  rw [hgB_bn] at h2
  rw [hgB_o (by decide) (by decide)] at h3
  refine LE1_b hI h2 (fun i hi => ⟨hgB_i (by omega) (by omega), hgB_i (by omega) (by omega), hgB_i (by omega) (by omega)⟩) (hgB_o (by decide) (by decide)) (fun i hi => hgB_i (by omega) (by omega)) (hE q h2 h2 h3 s hs)
theorem hg_OP {S : St} {b : Bs} {t : Ts} {s K k : Nat} {f x : Int} (hO : OPk S b t s K) : OPk S (hgB b k f x) t s K := by
  refine ⟨hO.1, fun q h1 h2 => ?_⟩
  rw [hgB_bn] at h2
  rw [hgB_o (g := 8) (by decide) (by decide)]
  exact hO.2 q h1 h2
theorem hgS_OP {S : St} {b c : Bs} {t : Ts} {s K k : Nat} {f x : Int} (hO : OPk S b t s K) : OPk (hgS S c k f x) b t s K := by
  have A : ∀ i q, i ≠ 48 → i ≠ 49 → gA (hgS S c k f x) i q = gA S i q := fun i q h h2 => by
    unfold hgS
    split
    · rw [gA_pA, if_neg (fun z => h2 z.1), gA_pA, if_neg (fun z => h z.1)]
    · rw [gA_pA, if_neg (fun z => h z.1)]
  have X : ∀ q, gI (hgS S c k f x) 45 q = gI S 45 q := fun q => by unfold hgS; split <;> rfl
  have Y : ∀ i q, gJ (hgS S c k f x) i q = gJ S i q := fun i q => by unfold hgS; split <;> rfl
  refine ⟨(X 11).trans hO.1, fun q h1 h2 => ?_⟩
  rw [A 56 q (by decide) (by decide), Y 54 q, Y 55 q]
  exact hO.2 q h1 h2
theorem fd_be {S S' : St} {b : Bs} {t : Ts} {k j x : Nat} {f hh tl v : Int} (hI : Inv b) (hE : LE b t) (hk : k < bn b) (hj : j < 17) (hx : (x : Int) ≤ 1000) (h1x : b 3 k = 1 → 1 ≤ x) (ht : b 8 k = 1)
    (hQ : BeQ S S' (hgB b k f x) t k j v) :
    ∃ y : Int, bd y ∧ (v = 0 → gJ S' 55 k = lZ y) ∧ (decide (v = 0) && decide (((y - hh).natAbs : Int) ≤ tl)) = fdP b t k f j hh tl x := by
  obtain ⟨hW, q1, q2, q3, q4⟩ := hQ
  have hv := hgInv (f := f) hI hk (v := (x : Int)) ⟨by omega, hx⟩ (fun q => by have := h1x q; omega)
  have J0 := hv.2.2.2.2 k (by rw [hgB_bn]; exact hk) (2 * k) (Or.inl rfl)
  have J1 := hv.2.2.2.2 k (by rw [hgB_bn]; exact hk) (2 * k + 1) (Or.inr rfl)
  have K0 := hI.2.2.2.2 k hk (2 * k) (Or.inl rfl)
  have K1 := hI.2.2.2.2 k hk (2 * k + 1) (Or.inr rfl)
  rw [hgB_o (g := 4) (by decide) (by decide), hgB_o (g := 4) (by decide) (by decide)] at q3 q4
  rw [hgB_o (g := 7) (by decide) (by decide), (PL_hg (by omega)).1, (PL_hg (by omega)).2, (PL_hg (by omega)).1, (PL_hg (by omega)).2] at q4
  unfold fdP
  by_cases h0 : PS t j (b 4 (2 * k)).toNat = 0 ∧ PS t j (b 4 (2 * k + 1)).toNat = 0
  · rw [decide_eq_true h0.1, decide_eq_true h0.2]
    rcases q4 h0.1 h0.2 with ⟨g1, g2⟩ | ⟨X, Y, g1, g2, g3, g4⟩
    · refine ⟨0, by decide, fun z => by omega, ?_⟩
      rw [g1, g2]; rfl
    · have h30 := hI.1.2
      have B := PL_b (b := b) (t := t) (s := j) (p := (b 4 (2 * k)).toNat) (n := hgB b k f x 5 (2 * k)) (K := 32000) hj J0.2.1 (by decide) (fun h2 => by
        have T := thL_lt (K0.2.2.2 ht) h2
        have JJ := hI.2.2.2.2 _ T.1 ((b 4 (2 * k)).toNat - 2) (by omega)
        refine ⟨by omega, LE_bd hI hE _ _ (Nat.lt_succ_self _) T.1 T.1 T.2 j hj, ?_, by omega⟩
        have z := h0.1
        unfold PS at z; rw [if_neg (by omega)] at z; exact z)
      have F := foldZ_bd (by omega) (by omega) g1
      refine ⟨Y, by omega, fun _ => g4, ?_⟩
      rw [g1, decide_eq_true g2]
      rfl
  · have g := q3 h0
    refine ⟨0, by decide, fun z => by omega, ?_⟩
    rw [decide_eq_false (show ¬ v = 0 by omega)]
    have : (decide (PS t j (b 4 (2 * k)).toNat = 0) && decide (PS t j (b 4 (2 * k + 1)).toNat = 0)) = false := by
      rcases Classical.em (PS t j (b 4 (2 * k)).toNat = 0) with z | z
      · rw [decide_eq_false (fun z2 => h0 ⟨z, z2⟩)]; simp
      · rw [decide_eq_false z]; rfl
    rw [this]; rfl
set_option maxHeartbeats 4000000 in
set_option maxRecDepth 100000 in
theorem d_find_p {l : Launch} {D : va_G} {kc : Nat → ClassId} {N : Nat} {ad : Nat → Nat} {S : St} {b : Bs} (hm : vm N) (hI : Inv b) (hM : RM S b) {t : Ts} (hE : LE b t) {z s_ : Int} (rz : r32 z) (rs : r32 s_) (hp : ¬ isP b z) {f v hh tl : Int} (hf : b01 f) (rv : r32 v) (rh : r32 hh) (rt : r32 tl) : MetK l yX4_find cX4_find 12 (some FieldType.int) 6 0 0 166 D kc (wl kc N ad S) [.ref (ad 45), .int (iZ z), .int (iZ f), .int (iZ v), .int (iZ s_), .int (iZ hh), .int (iZ tl)] (QI D kc (wl kc N ad S) (mQ kc N ad S (-1) (refB b 1))) := by
  refine MetK.of (by decide +kernel) (Nat.le_of_ble_eq_true rfl) ?_
  intro p e s m below meth c C
  have hA : ∀ q, s.heap.size ≤ q → va_A (wl kc N ad S) s.heap.size q := fun _ h => Or.inr h
  show V p l e { frames := 6, cells := 0, slots := 0, locals := 166 } s m ([.ref (ad 45), .int (iZ z), .int (iZ f), .int (iZ v), .int (iZ s_), .int (iZ hh), .int (iZ tl)] : List Value).toArray below meth c (MQ below (QI D kc (wl kc N ad S) (mQ kc N ad S (-1) (refB b 1)) s.heap.size) ([.ref (ad 45), .int (iZ z), .int (iZ f), .int (iZ v), .int (iZ s_), .int (iZ hh), .int (iZ tl)] : List Value).toArray s 0 0 (va_A (wl kc N ad S) s.heap.size)) D (va_A (wl kc N ad S) s.heap.size) 12 0 0 (wl kc N ad S) 0 [(0, .ref (ad 45)), (1, .int (iZ z)), (2, .int (iZ f)), (3, .int (iZ v)), (4, .int (iZ s_)), (5, .int (iZ hh)), (6, .int (iZ tl))] []
  have hb0 := hI.1
  refine v_aload_n 0 0 C dX4_find_0 rfl ?_
  refine v_iload_n 1 1 C dX4_find_1 rfl ?_
  refine v_calli 2 hA (rV_Mo 2 C L_RX4_160 lk_658 lk_32 (m4_isPart hm hI hM (by first | assumption | exact ⟨by omega, by omega⟩)) (vm.o hm) rfl ⟨rfl, rfl⟩ (rm_ok rfl) dX4_find_2) (fun r1 w2 h3 => ?_)
  obtain ⟨e_r1, rfl⟩ := h3
  refine v_eqi (iZ (bz (isPb b z))) (e_r1) ?_
  refine z_if_eq 5 16 C (bzr _) dX4_find_5 (by decide) (fun c5_0 => ?_) (fun c5_0 => absurd (by rw [isPb_n hp]; rfl) c5_0)
  refine v_aload_n 16 0 C dX4_find_16 rfl ?_
  refine v_iconst 17 C (iZ (-1)) dX4_find_17 rfl ?_
  refine v_calli 18 hA (rV_Mo 18 C L_RX4_95 lk_589 lk_22 (m4_refuse hm hI hM 1 (by decide) (by decide)) (vm.o hm) rfl ⟨rfl, rfl⟩ (rm_ok rfl) dX4_find_18) (fun r4 w5 h6 => ?_)
  obtain ⟨e_r4, rfl⟩ := h6
  refine v_eqi (iZ (-1)) (e_r4) ?_
  exact v_iret 21 C (⟨rfl, refM4 S b 1, rfl, refRM hM, refC⟩) dX4_find_21

set_option maxHeartbeats 4000000 in
set_option maxRecDepth 100000 in
theorem d_find_s {l : Launch} {D : va_G} {kc : Nat → ClassId} {N : Nat} {ad : Nat → Nat} {S : St} {b : Bs} (hm : vm N) (hI : Inv b) (hM : RM S b) {t : Ts} (hE : LE b t) {k : Nat} (hk : k < bn b) (ht : b 8 k = 1) {s_ : Int} (rs : r32 s_) (hs : ¬ (0 ≤ s_ ∧ s_ < 17)) {f v hh tl : Int} (hf : b01 f) (rv : r32 v) (rh : r32 hh) (rt : r32 tl) : MetK l yX4_find cX4_find 12 (some FieldType.int) 6 0 0 166 D kc (wl kc N ad S) [.ref (ad 45), .int (iZ (k : Int)), .int (iZ f), .int (iZ v), .int (iZ s_), .int (iZ hh), .int (iZ tl)] (QI D kc (wl kc N ad S) (mQ kc N ad S (-1) (refB b 1))) := by
  refine MetK.of (by decide +kernel) (Nat.le_of_ble_eq_true rfl) ?_
  intro p e s m below meth c C
  have hA : ∀ q, s.heap.size ≤ q → va_A (wl kc N ad S) s.heap.size q := fun _ h => Or.inr h
  show V p l e { frames := 6, cells := 0, slots := 0, locals := 166 } s m ([.ref (ad 45), .int (iZ (k : Int)), .int (iZ f), .int (iZ v), .int (iZ s_), .int (iZ hh), .int (iZ tl)] : List Value).toArray below meth c (MQ below (QI D kc (wl kc N ad S) (mQ kc N ad S (-1) (refB b 1)) s.heap.size) ([.ref (ad 45), .int (iZ (k : Int)), .int (iZ f), .int (iZ v), .int (iZ s_), .int (iZ hh), .int (iZ tl)] : List Value).toArray s 0 0 (va_A (wl kc N ad S) s.heap.size)) D (va_A (wl kc N ad S) s.heap.size) 12 0 0 (wl kc N ad S) 0 [(0, .ref (ad 45)), (1, .int (iZ (k : Int))), (2, .int (iZ f)), (3, .int (iZ v)), (4, .int (iZ s_)), (5, .int (iZ hh)), (6, .int (iZ tl))] []
  have hb0 := hI.1
  refine v_aload_n 0 0 C dX4_find_0 rfl ?_
  refine v_iload_n 1 1 C dX4_find_1 rfl ?_
  refine v_calli 2 hA (rV_Mo 2 C L_RX4_160 lk_658 lk_32 (m4_isPart hm hI hM (by first | assumption | exact ⟨by omega, by omega⟩)) (vm.o hm) rfl ⟨rfl, rfl⟩ (rm_ok rfl) dX4_find_2) (fun r1 w2 h3 => ?_)
  obtain ⟨e_r1, rfl⟩ := h3
  refine v_eqi (iZ (bz (isPb b (k : Int)))) (e_r1) ?_
  refine z_if_eq 5 16 C (bzr _) dX4_find_5 (by decide) (fun c5_0 => absurd c5_0 (by rw [isPb_y hI hk ht]; decide)) (fun c5_0 => ?_)
  refine v_iload 8 4 C dX4_find_8 rfl ?_
  refine v_calli 10 hA (rS 10 C L_RX4_170 lk_677 (m4_isStep (by first | assumption | exact ⟨by omega, by omega⟩)) rfl rfl (rm_ok rfl) dX4_find_10) (fun r4 w5 h6 => ?_)
  obtain ⟨e_r4, rfl⟩ := h6
  refine v_eqi (iZ (bz (decide (0 ≤ s_ ∧ s_ ≤ 16)))) (e_r4) ?_
  refine z_if_ne 13 22 C (bzr _) dX4_find_13 (by decide) (fun c13_1 => absurd c13_1 (fun q => q (by rw [decide_eq_false (show ¬ (0 ≤ s_ ∧ s_ ≤ 16) by omega)]; rfl))) (fun c13_1 => ?_)
  refine v_aload_n 16 0 C dX4_find_16 rfl ?_
  refine v_iconst 17 C (iZ (-1)) dX4_find_17 rfl ?_
  refine v_calli 18 hA (rV_Mo 18 C L_RX4_95 lk_589 lk_22 (m4_refuse hm hI hM 1 (by decide) (by decide)) (vm.o hm) rfl ⟨rfl, rfl⟩ (rm_ok rfl) dX4_find_18) (fun r7 w8 h9 => ?_)
  obtain ⟨e_r7, rfl⟩ := h9
  refine v_eqi (iZ (-1)) (e_r7) ?_
  exact v_iret 21 C (⟨rfl, refM4 S b 1, rfl, refRM hM, refC⟩) dX4_find_21

set_option maxHeartbeats 4000000 in
set_option maxRecDepth 100000 in
theorem d_find_4 {l : Launch} {D : va_G} {kc : Nat → ClassId} {N : Nat} {ad : Nat → Nat} {S : St} {b : Bs} (hm : vm N) (hI : Inv b) (hM : RM S b) {t : Ts} (hE : LE b t) {k : Nat} (hk : k < bn b) (ht : b 8 k = 1) {j : Nat} (hj : j < 17) {f v hh tl : Int} (hf : b01 f) (rv : r32 v) (rh : r32 hh) (rt : r32 tl) (h4 : v < 0 ∨ tl < 0) : MetK l yX4_find cX4_find 12 (some FieldType.int) 6 0 0 166 D kc (wl kc N ad S) [.ref (ad 45), .int (iZ (k : Int)), .int (iZ f), .int (iZ v), .int (iZ (j : Int)), .int (iZ hh), .int (iZ tl)] (QI D kc (wl kc N ad S) (mQ kc N ad S (-4) (refB b 4))) := by
  refine MetK.of (by decide +kernel) (Nat.le_of_ble_eq_true rfl) ?_
  intro p e s m below meth c C
  have hA : ∀ q, s.heap.size ≤ q → va_A (wl kc N ad S) s.heap.size q := fun _ h => Or.inr h
  show V p l e { frames := 6, cells := 0, slots := 0, locals := 166 } s m ([.ref (ad 45), .int (iZ (k : Int)), .int (iZ f), .int (iZ v), .int (iZ (j : Int)), .int (iZ hh), .int (iZ tl)] : List Value).toArray below meth c (MQ below (QI D kc (wl kc N ad S) (mQ kc N ad S (-4) (refB b 4)) s.heap.size) ([.ref (ad 45), .int (iZ (k : Int)), .int (iZ f), .int (iZ v), .int (iZ (j : Int)), .int (iZ hh), .int (iZ tl)] : List Value).toArray s 0 0 (va_A (wl kc N ad S) s.heap.size)) D (va_A (wl kc N ad S) s.heap.size) 12 0 0 (wl kc N ad S) 0 [(0, .ref (ad 45)), (1, .int (iZ (k : Int))), (2, .int (iZ f)), (3, .int (iZ v)), (4, .int (iZ (j : Int))), (5, .int (iZ hh)), (6, .int (iZ tl))] []
  have hb0 := hI.1
  have J0 := hI.2.2.2.2 k hk (2 * k) (Or.inl rfl)
  have J1 := hI.2.2.2.2 k hk (2 * k + 1) (Or.inr rfl)
  have J := hI.2.2.2.1 k hk
  have hb30 := hI.1.2
  obtain ⟨W, hW⟩ : ∃ W : Int, W = if f = 0 then 1 else 0 := ⟨_, rfl⟩
  obtain ⟨was, hwas⟩ : ∃ was : Int, was = if f = 0 then b 5 (2 * k + 1) else b 5 (2 * k) := ⟨_, rfl⟩
  obtain ⟨i, hi⟩ : ∃ i : Nat, i = if f = 0 then 2 * k + 1 else 2 * k := ⟨_, rfl⟩
  have hiW : (i : Int) = 2 * k + W ∧ (W = 0 ∨ W = 1) ∧ i < 2 * bn b := by
    rw [hi, hW]
    split <;> omega
  have h4i : b 4 i = ((hgU b k f : Nat) : Int) := by
    rw [hi]; unfold hgU
    by_cases q : f = 0
    · rw [if_pos q, if_pos q]; omega
    · rw [if_neg q, if_neg q]; omega
  have h5i : b 5 i = was := by
    rw [hi, hwas]
    by_cases q : f = 0
    · rw [if_pos q, if_pos q]
    · rw [if_neg q, if_neg q]
  have hu : thL b (hgU b k f) := by
    unfold hgU
    split
    · exact J1.2.2.2 ht
    · exact J0.2.2.2 ht
  have hsz := szL_b hI hu
  refine v_aload_n 0 0 C dX4_find_0 rfl ?_
  refine v_iload_n 1 1 C dX4_find_1 rfl ?_
  refine v_calli 2 hA (rV_Mo 2 C L_RX4_160 lk_658 lk_32 (m4_isPart hm hI hM (by first | assumption | exact ⟨by omega, by omega⟩)) (vm.o hm) rfl ⟨rfl, rfl⟩ (rm_ok rfl) dX4_find_2) (fun r1 w2 h3 => ?_)
  obtain ⟨e_r1, rfl⟩ := h3
  refine v_eqi (iZ (bz (isPb b (k : Int)))) (e_r1) ?_
  refine z_if_eq 5 16 C (bzr _) dX4_find_5 (by decide) (fun c5_0 => absurd c5_0 (by rw [isPb_y hI hk ht]; decide)) (fun c5_0 => ?_)
  refine v_iload 8 4 C dX4_find_8 rfl ?_
  refine v_calli 10 hA (rS 10 C L_RX4_170 lk_677 (m4_isStep (by first | assumption | exact ⟨by omega, by omega⟩)) rfl rfl (rm_ok rfl) dX4_find_10) (fun r4 w5 h6 => ?_)
  obtain ⟨e_r4, rfl⟩ := h6
  refine v_eqi (iZ (bz (decide (0 ≤ (j : Int) ∧ (j : Int) ≤ 16)))) (e_r4) ?_
  refine z_if_ne 13 22 C (bzr _) dX4_find_13 (by decide) (fun c13_1 => ?_) (fun c13_1 => absurd c13_1 (by rw [decide_eq_true (show 0 ≤ (j : Int) ∧ (j : Int) ≤ 16 by omega)]; decide))
  refine v_iload_n 22 2 C dX4_find_22 rfl ?_
  refine z_if_eq 23 30 C (by first | assumption | exact ⟨by omega, by omega⟩) dX4_find_23 (by decide) (fun cF => ?_) (fun cF => ?_)
  · skip
    refine v_iconst 30 C (iZ 1) dX4_find_30 rfl ?_
    refine v_eqi (iZ W) (by rw [hW, if_pos cF]) ?_
    refine v_istore 31 [(7, .int (iZ W)), (0, .ref (ad 45)), (1, .int (iZ (k : Int))), (2, .int (iZ f)), (3, .int (iZ v)), (4, .int (iZ (j : Int))), (5, .int (iZ hh)), (6, .int (iZ tl))] C dX4_find_31 (by decide) rfl ?_
    refine v_iload_n 33 4 C dX4_find_33 rfl ?_
    refine z_if_lt 34 42 C (by first | assumption | exact ⟨by omega, by omega⟩) dX4_find_34 (by decide) (fun c34_3 => ?_) (fun c34_3 => ?_)
    · skip
      refine v_aload_n 42 1 C dX4_find_42 rfl ?_
      refine v_bipush 43 C (iZ (-4)) dX4_find_43 (by decide) ?_
      refine v_calli 45 hA (rV_Mo 45 C L_RX4_95 lk_589 lk_22 (m4_refuse hm hI hM 4 (by decide) (by decide)) (vm.o hm) rfl ⟨rfl, rfl⟩ (rm_ok rfl) dX4_find_45) (fun r7 w8 h9 => ?_)
      obtain ⟨e_r7, rfl⟩ := h9
      refine v_eqi (iZ (-4)) (e_r7) ?_
      exact v_iret 48 C (⟨rfl, refM4 S b 4, rfl, refRM hM, refC⟩) dX4_find_48
    · skip
      refine v_iload 37 7 C dX4_find_37 rfl ?_
      refine z_if_ge 39 49 C (by first | assumption | exact ⟨by omega, by omega⟩) dX4_find_39 (by decide) (fun c39_4 => absurd c39_4 (by omega)) (fun c39_4 => ?_)
      refine v_aload_n 42 1 C dX4_find_42 rfl ?_
      refine v_bipush 43 C (iZ (-4)) dX4_find_43 (by decide) ?_
      refine v_calli 45 hA (rV_Mo 45 C L_RX4_95 lk_589 lk_22 (m4_refuse hm hI hM 4 (by decide) (by decide)) (vm.o hm) rfl ⟨rfl, rfl⟩ (rm_ok rfl) dX4_find_45) (fun r10 w11 h12 => ?_)
      obtain ⟨e_r10, rfl⟩ := h12
      refine v_eqi (iZ (-4)) (e_r10) ?_
      exact v_iret 48 C (⟨rfl, refM4 S b 4, rfl, refRM hM, refC⟩) dX4_find_48
  · skip
    refine v_iconst 26 C (iZ 0) dX4_find_26 rfl ?_
    refine v_goto 27 31 C dX4_find_27 (by decide) ?_
    refine v_eqi (iZ W) (by rw [hW, if_neg cF]) ?_
    refine v_istore 31 [(7, .int (iZ W)), (0, .ref (ad 45)), (1, .int (iZ (k : Int))), (2, .int (iZ f)), (3, .int (iZ v)), (4, .int (iZ (j : Int))), (5, .int (iZ hh)), (6, .int (iZ tl))] C dX4_find_31 (by decide) rfl ?_
    refine v_iload_n 33 4 C dX4_find_33 rfl ?_
    refine z_if_lt 34 42 C (by first | assumption | exact ⟨by omega, by omega⟩) dX4_find_34 (by decide) (fun c34_3 => ?_) (fun c34_3 => ?_)
    · skip
      refine v_aload_n 42 1 C dX4_find_42 rfl ?_
      refine v_bipush 43 C (iZ (-4)) dX4_find_43 (by decide) ?_
      refine v_calli 45 hA (rV_Mo 45 C L_RX4_95 lk_589 lk_22 (m4_refuse hm hI hM 4 (by decide) (by decide)) (vm.o hm) rfl ⟨rfl, rfl⟩ (rm_ok rfl) dX4_find_45) (fun r13 w14 h15 => ?_)
      obtain ⟨e_r13, rfl⟩ := h15
      refine v_eqi (iZ (-4)) (e_r13) ?_
      exact v_iret 48 C (⟨rfl, refM4 S b 4, rfl, refRM hM, refC⟩) dX4_find_48
    · skip
      refine v_iload 37 7 C dX4_find_37 rfl ?_
      refine z_if_ge 39 49 C (by first | assumption | exact ⟨by omega, by omega⟩) dX4_find_39 (by decide) (fun c39_4 => absurd c39_4 (by omega)) (fun c39_4 => ?_)
      refine v_aload_n 42 1 C dX4_find_42 rfl ?_
      refine v_bipush 43 C (iZ (-4)) dX4_find_43 (by decide) ?_
      refine v_calli 45 hA (rV_Mo 45 C L_RX4_95 lk_589 lk_22 (m4_refuse hm hI hM 4 (by decide) (by decide)) (vm.o hm) rfl ⟨rfl, rfl⟩ (rm_ok rfl) dX4_find_45) (fun r16 w17 h18 => ?_)
      obtain ⟨e_r16, rfl⟩ := h18
      refine v_eqi (iZ (-4)) (e_r16) ?_
      exact v_iret 48 C (⟨rfl, refM4 S b 4, rfl, refRM hM, refC⟩) dX4_find_48

set_option maxHeartbeats 4000000 in
set_option maxRecDepth 100000 in
theorem d_find_6 {l : Launch} {D : va_G} {kc : Nat → ClassId} {N : Nat} {ad : Nat → Nat} {S : St} {b : Bs} (hm : vm N) (hI : Inv b) (hM : RM S b) {t : Ts} (hE : LE b t) {k : Nat} (hk : k < bn b) (ht : b 8 k = 1) {j : Nat} (hj : j < 17) {f v hh tl : Int} (hf : b01 f) (rv : r32 v) (rh : r32 hh) (rt : r32 tl) (h4 : 0 ≤ v ∧ 0 ≤ tl) (h6 : szL b (hgU b k f) < v) : MetK l yX4_find cX4_find 12 (some FieldType.int) 6 0 0 166 D kc (wl kc N ad S) [.ref (ad 45), .int (iZ (k : Int)), .int (iZ f), .int (iZ v), .int (iZ (j : Int)), .int (iZ hh), .int (iZ tl)] (QI D kc (wl kc N ad S) (mQ kc N ad S (-6) (refB b 6))) := by
  refine MetK.of (by decide +kernel) (Nat.le_of_ble_eq_true rfl) ?_
  intro p e s m below meth c C
  have hA : ∀ q, s.heap.size ≤ q → va_A (wl kc N ad S) s.heap.size q := fun _ h => Or.inr h
  show V p l e { frames := 6, cells := 0, slots := 0, locals := 166 } s m ([.ref (ad 45), .int (iZ (k : Int)), .int (iZ f), .int (iZ v), .int (iZ (j : Int)), .int (iZ hh), .int (iZ tl)] : List Value).toArray below meth c (MQ below (QI D kc (wl kc N ad S) (mQ kc N ad S (-6) (refB b 6)) s.heap.size) ([.ref (ad 45), .int (iZ (k : Int)), .int (iZ f), .int (iZ v), .int (iZ (j : Int)), .int (iZ hh), .int (iZ tl)] : List Value).toArray s 0 0 (va_A (wl kc N ad S) s.heap.size)) D (va_A (wl kc N ad S) s.heap.size) 12 0 0 (wl kc N ad S) 0 [(0, .ref (ad 45)), (1, .int (iZ (k : Int))), (2, .int (iZ f)), (3, .int (iZ v)), (4, .int (iZ (j : Int))), (5, .int (iZ hh)), (6, .int (iZ tl))] []
  have hb0 := hI.1
  have J0 := hI.2.2.2.2 k hk (2 * k) (Or.inl rfl)
  have J1 := hI.2.2.2.2 k hk (2 * k + 1) (Or.inr rfl)
  have J := hI.2.2.2.1 k hk
  have hb30 := hI.1.2
  obtain ⟨W, hW⟩ : ∃ W : Int, W = if f = 0 then 1 else 0 := ⟨_, rfl⟩
  obtain ⟨was, hwas⟩ : ∃ was : Int, was = if f = 0 then b 5 (2 * k + 1) else b 5 (2 * k) := ⟨_, rfl⟩
  obtain ⟨i, hi⟩ : ∃ i : Nat, i = if f = 0 then 2 * k + 1 else 2 * k := ⟨_, rfl⟩
  have hiW : (i : Int) = 2 * k + W ∧ (W = 0 ∨ W = 1) ∧ i < 2 * bn b := by
    rw [hi, hW]
    split <;> omega
  have h4i : b 4 i = ((hgU b k f : Nat) : Int) := by
    rw [hi]; unfold hgU
    by_cases q : f = 0
    · rw [if_pos q, if_pos q]; omega
    · rw [if_neg q, if_neg q]; omega
  have h5i : b 5 i = was := by
    rw [hi, hwas]
    by_cases q : f = 0
    · rw [if_pos q, if_pos q]
    · rw [if_neg q, if_neg q]
  have hu : thL b (hgU b k f) := by
    unfold hgU
    split
    · exact J1.2.2.2 ht
    · exact J0.2.2.2 ht
  have hsz := szL_b hI hu
  refine v_aload_n 0 0 C dX4_find_0 rfl ?_
  refine v_iload_n 1 1 C dX4_find_1 rfl ?_
  refine v_calli 2 hA (rV_Mo 2 C L_RX4_160 lk_658 lk_32 (m4_isPart hm hI hM (by first | assumption | exact ⟨by omega, by omega⟩)) (vm.o hm) rfl ⟨rfl, rfl⟩ (rm_ok rfl) dX4_find_2) (fun r1 w2 h3 => ?_)
  obtain ⟨e_r1, rfl⟩ := h3
  refine v_eqi (iZ (bz (isPb b (k : Int)))) (e_r1) ?_
  refine z_if_eq 5 16 C (bzr _) dX4_find_5 (by decide) (fun c5_0 => absurd c5_0 (by rw [isPb_y hI hk ht]; decide)) (fun c5_0 => ?_)
  refine v_iload 8 4 C dX4_find_8 rfl ?_
  refine v_calli 10 hA (rS 10 C L_RX4_170 lk_677 (m4_isStep (by first | assumption | exact ⟨by omega, by omega⟩)) rfl rfl (rm_ok rfl) dX4_find_10) (fun r4 w5 h6 => ?_)
  obtain ⟨e_r4, rfl⟩ := h6
  refine v_eqi (iZ (bz (decide (0 ≤ (j : Int) ∧ (j : Int) ≤ 16)))) (e_r4) ?_
  refine z_if_ne 13 22 C (bzr _) dX4_find_13 (by decide) (fun c13_1 => ?_) (fun c13_1 => absurd c13_1 (by rw [decide_eq_true (show 0 ≤ (j : Int) ∧ (j : Int) ≤ 16 by omega)]; decide))
  refine v_iload_n 22 2 C dX4_find_22 rfl ?_
  refine z_if_eq 23 30 C (by first | assumption | exact ⟨by omega, by omega⟩) dX4_find_23 (by decide) (fun cF => ?_) (fun cF => ?_)
  · skip
    refine v_iconst 30 C (iZ 1) dX4_find_30 rfl ?_
    refine v_eqi (iZ W) (by rw [hW, if_pos cF]) ?_
    refine v_istore 31 [(7, .int (iZ W)), (0, .ref (ad 45)), (1, .int (iZ (k : Int))), (2, .int (iZ f)), (3, .int (iZ v)), (4, .int (iZ (j : Int))), (5, .int (iZ hh)), (6, .int (iZ tl))] C dX4_find_31 (by decide) rfl ?_
    refine v_iload_n 33 4 C dX4_find_33 rfl ?_
    refine z_if_lt 34 42 C (by first | assumption | exact ⟨by omega, by omega⟩) dX4_find_34 (by decide) (fun c34_3 => absurd c34_3 (by omega)) (fun c34_3 => ?_)
    refine v_iload 37 7 C dX4_find_37 rfl ?_
    refine z_if_ge 39 49 C (by first | assumption | exact ⟨by omega, by omega⟩) dX4_find_39 (by decide) (fun c39_4 => ?_) (fun c39_4 => absurd (by omega) c39_4)
    refine v_aload_n 49 1 C dX4_find_49 rfl ?_
    refine v_aload_n 50 1 C dX4_find_50 rfl ?_
    refine g_Mo_on 51 C (vm.o hm).1 (vm.o hm).2 lk_503 dX4_find_51 ?_
    refine v_iconst 54 C (iZ 2) dX4_find_54 rfl ?_
    refine v_iload_n 55 2 C dX4_find_55 rfl ?_
    refine z_imul 56 C dX4_find_56 ?_
    refine v_iload 57 0 C dX4_find_57 rfl ?_
    refine z_iadd 59 C dX4_find_59 ?_
    refine v_iald 60 C (vm.a hm 47 (by decide) rfl).1 (vm.a hm 47 (by decide) rfl).2 i (izn (by omega)) (lnx (show ln 47 = 60 from rfl) (by omega)) dX4_find_60 ?_
    refine v_eqi (iZ ((hgU b k f : Nat) : Int)) ((hM.2.2.1 i (by omega)).1.trans (by rw [h4i])) ?_
    refine v_calli 61 hA (rV_Mo 61 C L_RX4_152 lk_613 lk_25 (m4_sizeOf hm hI hM hu) (vm.o hm) rfl ⟨rfl, rfl⟩ (rm_ok rfl) dX4_find_61) (fun r7 w8 h9 => ?_)
    obtain ⟨e_r7, rfl⟩ := h9
    refine v_eqi (iZ (szL b (hgU b k f))) (e_r7) ?_
    refine v_istore 64 [(8, .int (iZ (szL b (hgU b k f)))), (7, .int (iZ W)), (0, .ref (ad 45)), (1, .int (iZ (k : Int))), (2, .int (iZ f)), (3, .int (iZ v)), (4, .int (iZ (j : Int))), (5, .int (iZ hh)), (6, .int (iZ tl))] C dX4_find_64 (by decide) rfl ?_
    refine v_iload_n 66 5 C dX4_find_66 rfl ?_
    refine v_iload 67 0 C dX4_find_67 rfl ?_
    refine z_icmp_le 69 79 C (by first | assumption | exact ⟨by omega, by omega⟩) (by first | assumption | exact ⟨by omega, by omega⟩) dX4_find_69 (by decide) (fun c69_5 => absurd c69_5 (by omega)) (fun c69_5 => ?_)
    refine v_aload_n 72 2 C dX4_find_72 rfl ?_
    refine v_bipush 73 C (iZ (-6)) dX4_find_73 (by decide) ?_
    refine v_calli 75 hA (rV_Mo 75 C L_RX4_95 lk_589 lk_22 (m4_refuse hm hI hM 6 (by decide) (by decide)) (vm.o hm) rfl ⟨rfl, rfl⟩ (rm_ok rfl) dX4_find_75) (fun r10 w11 h12 => ?_)
    obtain ⟨e_r10, rfl⟩ := h12
    refine v_eqi (iZ (-6)) (e_r10) ?_
    exact v_iret 78 C (⟨rfl, refM4 S b 6, rfl, refRM hM, refC⟩) dX4_find_78
  · skip
    refine v_iconst 26 C (iZ 0) dX4_find_26 rfl ?_
    refine v_goto 27 31 C dX4_find_27 (by decide) ?_
    refine v_eqi (iZ W) (by rw [hW, if_neg cF]) ?_
    refine v_istore 31 [(7, .int (iZ W)), (0, .ref (ad 45)), (1, .int (iZ (k : Int))), (2, .int (iZ f)), (3, .int (iZ v)), (4, .int (iZ (j : Int))), (5, .int (iZ hh)), (6, .int (iZ tl))] C dX4_find_31 (by decide) rfl ?_
    refine v_iload_n 33 4 C dX4_find_33 rfl ?_
    refine z_if_lt 34 42 C (by first | assumption | exact ⟨by omega, by omega⟩) dX4_find_34 (by decide) (fun c34_3 => absurd c34_3 (by omega)) (fun c34_3 => ?_)
    refine v_iload 37 7 C dX4_find_37 rfl ?_
    refine z_if_ge 39 49 C (by first | assumption | exact ⟨by omega, by omega⟩) dX4_find_39 (by decide) (fun c39_4 => ?_) (fun c39_4 => absurd (by omega) c39_4)
    refine v_aload_n 49 1 C dX4_find_49 rfl ?_
    refine v_aload_n 50 1 C dX4_find_50 rfl ?_
    refine g_Mo_on 51 C (vm.o hm).1 (vm.o hm).2 lk_503 dX4_find_51 ?_
    refine v_iconst 54 C (iZ 2) dX4_find_54 rfl ?_
    refine v_iload_n 55 2 C dX4_find_55 rfl ?_
    refine z_imul 56 C dX4_find_56 ?_
    refine v_iload 57 0 C dX4_find_57 rfl ?_
    refine z_iadd 59 C dX4_find_59 ?_
    refine v_iald 60 C (vm.a hm 47 (by decide) rfl).1 (vm.a hm 47 (by decide) rfl).2 i (izn (by omega)) (lnx (show ln 47 = 60 from rfl) (by omega)) dX4_find_60 ?_
    refine v_eqi (iZ ((hgU b k f : Nat) : Int)) ((hM.2.2.1 i (by omega)).1.trans (by rw [h4i])) ?_
    refine v_calli 61 hA (rV_Mo 61 C L_RX4_152 lk_613 lk_25 (m4_sizeOf hm hI hM hu) (vm.o hm) rfl ⟨rfl, rfl⟩ (rm_ok rfl) dX4_find_61) (fun r13 w14 h15 => ?_)
    obtain ⟨e_r13, rfl⟩ := h15
    refine v_eqi (iZ (szL b (hgU b k f))) (e_r13) ?_
    refine v_istore 64 [(8, .int (iZ (szL b (hgU b k f)))), (7, .int (iZ W)), (0, .ref (ad 45)), (1, .int (iZ (k : Int))), (2, .int (iZ f)), (3, .int (iZ v)), (4, .int (iZ (j : Int))), (5, .int (iZ hh)), (6, .int (iZ tl))] C dX4_find_64 (by decide) rfl ?_
    refine v_iload_n 66 5 C dX4_find_66 rfl ?_
    refine v_iload 67 0 C dX4_find_67 rfl ?_
    refine z_icmp_le 69 79 C (by first | assumption | exact ⟨by omega, by omega⟩) (by first | assumption | exact ⟨by omega, by omega⟩) dX4_find_69 (by decide) (fun c69_5 => absurd c69_5 (by omega)) (fun c69_5 => ?_)
    refine v_aload_n 72 2 C dX4_find_72 rfl ?_
    refine v_bipush 73 C (iZ (-6)) dX4_find_73 (by decide) ?_
    refine v_calli 75 hA (rV_Mo 75 C L_RX4_95 lk_589 lk_22 (m4_refuse hm hI hM 6 (by decide) (by decide)) (vm.o hm) rfl ⟨rfl, rfl⟩ (rm_ok rfl) dX4_find_75) (fun r16 w17 h18 => ?_)
    obtain ⟨e_r16, rfl⟩ := h18
    refine v_eqi (iZ (-6)) (e_r16) ?_
    exact v_iret 78 C (⟨rfl, refM4 S b 6, rfl, refRM hM, refC⟩) dX4_find_78

set_option maxHeartbeats 4000000 in
set_option maxRecDepth 100000 in
theorem d_find {l : Launch} {D : va_G} {kc : Nat → ClassId} {N : Nat} {ad : Nat → Nat} {S : St} {b : Bs} (hm : vm N) (hI : Inv b) (hM : RM S b) {t : Ts} (hE : LE b t) {k : Nat} (hk : k < bn b) (ht : b 8 k = 1) {j : Nat} (hj : j < 17) {f v hh tl : Int} (hf : b01 f) (rv : r32 v) (rh : r32 hh) (rt : r32 tl) (h4 : 0 ≤ v ∧ 0 ≤ tl) (h6 : v ≤ szL b (hgU b k f)) : MetK l yX4_find cX4_find 12 (some FieldType.int) 6 0 0 166 D kc (wl kc N ad S) [.ref (ad 45), .int (iZ (k : Int)), .int (iZ f), .int (iZ v), .int (iZ (j : Int)), .int (iZ hh), .int (iZ tl)] (QI D kc (wl kc N ad S) (mQ kc N ad S (fdR b t k f j hh tl v) (b))) := by
  refine MetK.of (by decide +kernel) (Nat.le_of_ble_eq_true rfl) ?_
  intro p e s m below meth c C
  have hA : ∀ q, s.heap.size ≤ q → va_A (wl kc N ad S) s.heap.size q := fun _ h => Or.inr h
  show V p l e { frames := 6, cells := 0, slots := 0, locals := 166 } s m ([.ref (ad 45), .int (iZ (k : Int)), .int (iZ f), .int (iZ v), .int (iZ (j : Int)), .int (iZ hh), .int (iZ tl)] : List Value).toArray below meth c (MQ below (QI D kc (wl kc N ad S) (mQ kc N ad S (fdR b t k f j hh tl v) (b)) s.heap.size) ([.ref (ad 45), .int (iZ (k : Int)), .int (iZ f), .int (iZ v), .int (iZ (j : Int)), .int (iZ hh), .int (iZ tl)] : List Value).toArray s 0 0 (va_A (wl kc N ad S) s.heap.size)) D (va_A (wl kc N ad S) s.heap.size) 12 0 0 (wl kc N ad S) 0 [(0, .ref (ad 45)), (1, .int (iZ (k : Int))), (2, .int (iZ f)), (3, .int (iZ v)), (4, .int (iZ (j : Int))), (5, .int (iZ hh)), (6, .int (iZ tl))] []
  have hb0 := hI.1
  have J0 := hI.2.2.2.2 k hk (2 * k) (Or.inl rfl)
  have J1 := hI.2.2.2.2 k hk (2 * k + 1) (Or.inr rfl)
  have J := hI.2.2.2.1 k hk
  have hb30 := hI.1.2
  obtain ⟨W, hW⟩ : ∃ W : Int, W = if f = 0 then 1 else 0 := ⟨_, rfl⟩
  obtain ⟨was, hwas⟩ : ∃ was : Int, was = if f = 0 then b 5 (2 * k + 1) else b 5 (2 * k) := ⟨_, rfl⟩
  obtain ⟨i, hi⟩ : ∃ i : Nat, i = if f = 0 then 2 * k + 1 else 2 * k := ⟨_, rfl⟩
  have hiW : (i : Int) = 2 * k + W ∧ (W = 0 ∨ W = 1) ∧ i < 2 * bn b := by
    rw [hi, hW]
    split <;> omega
  have h4i : b 4 i = ((hgU b k f : Nat) : Int) := by
    rw [hi]; unfold hgU
    by_cases q : f = 0
    · rw [if_pos q, if_pos q]; omega
    · rw [if_neg q, if_neg q]; omega
  have h5i : b 5 i = was := by
    rw [hi, hwas]
    by_cases q : f = 0
    · rw [if_pos q, if_pos q]
    · rw [if_neg q, if_neg q]
  have hu : thL b (hgU b k f) := by
    unfold hgU
    split
    · exact J1.2.2.2 ht
    · exact J0.2.2.2 ht
  have hsz := szL_b hI hu
  have hfxs : (fdX b k v : Int) ≤ szL b (hgU b k f) := by
    unfold fdX
    split <;> omega
  have hwb : 0 ≤ was ∧ was ≤ 1000 := by rw [hwas]; split <;> omega
  have hwb1 : b 3 k = 1 → 1 ≤ was := fun q => by
    have := J.2.2.2 q
    rw [hwas]; split <;> omega
  have tail : ∀ (x fnd y : Int) (S1 : St), (0 ≤ y ∧ y ≤ 1000) → (b 3 k = 1 → 1 ≤ y) → RM S1 (hgB b k f y) → sameOn atC S S1 → fnd = fdR b t k f j hh tl v → V p l e { frames := 6, cells := 0, slots := 0, locals := 166 } s m ([.ref (ad 45), .int (iZ (k : Int)), .int (iZ f), .int (iZ v), .int (iZ (j : Int)), .int (iZ hh), .int (iZ tl)] : List Value).toArray below meth c (MQ below (QI D kc (wl kc N ad S) (mQ kc N ad S (fdR b t k f j hh tl v) (b)) s.heap.size) ([.ref (ad 45), .int (iZ (k : Int)), .int (iZ f), .int (iZ v), .int (iZ (j : Int)), .int (iZ hh), .int (iZ tl)] : List Value).toArray s 0 0 (va_A (wl kc N ad S) s.heap.size)) D (va_A (wl kc N ad S) s.heap.size) 12 0 0 (wl kc N ad S1) 194 [(11, .int (iZ x)), (10, .int (iZ fnd)), (9, .int (iZ was)), (8, .int (iZ (szL b (hgU b k f)))), (7, .int (iZ W)), (6, .int (iZ tl)), (5, .int (iZ hh)), (4, .int (iZ (j : Int))), (3, .int (iZ v)), (2, .int (iZ f)), (1, .int (iZ (k : Int))), (0, .ref (ad 45))] [] := by
    intro x fnd y S1 hy hy1 M1 c1 hfd
    have M2 := hgS_RM (k := k) (f := f) (v := was) M1
    rw [hgB_hgB, hgB_was hI hk hwas] at M2
    refine v_aload_n 194 11 C dX4_find_194 rfl ?_
    refine v_iload_n 195 10 C dX4_find_195 rfl ?_
    refine v_iload 196 4 C dX4_find_196 rfl ?_
    refine v_iload 198 2 C dX4_find_198 rfl ?_
    refine v_callv 200 hA (rV_Mo 200 C L_RX4_166 lk_670 lk_34 (m4_hang (f := f) hm (hgInv (f := f) hI hk hy hy1) M1 (by rw [hgB_bn]; exact hk) hf hW) (vm.o hm) rfl ⟨rfl, rfl⟩ (rm_ok rfl) dX4_find_200) (fun w2 h3 => ?_)
    obtain rfl := h3
    refine v_iload 203 1 C dX4_find_203 rfl ?_
    exact v_iret 205 C (⟨by rw [hfd], _, rfl, M2, c1.tr hgS_C⟩) dX4_find_205
  have exit : ∀ (x fnd y : Int) (S1 : St), r32 x → r32 fnd → ¬ fnd = -9 → (0 ≤ y ∧ y ≤ 1000) → (b 3 k = 1 → 1 ≤ y) → RM S1 (hgB b k f y) → sameOn atC S S1 → fnd = fdR b t k f j hh tl v → V p l e { frames := 6, cells := 0, slots := 0, locals := 166 } s m ([.ref (ad 45), .int (iZ (k : Int)), .int (iZ f), .int (iZ v), .int (iZ (j : Int)), .int (iZ hh), .int (iZ tl)] : List Value).toArray below meth c (MQ below (QI D kc (wl kc N ad S) (mQ kc N ad S (fdR b t k f j hh tl v) (b)) s.heap.size) ([.ref (ad 45), .int (iZ (k : Int)), .int (iZ f), .int (iZ v), .int (iZ (j : Int)), .int (iZ hh), .int (iZ tl)] : List Value).toArray s 0 0 (va_A (wl kc N ad S) s.heap.size)) D (va_A (wl kc N ad S) s.heap.size) 12 0 0 (wl kc N ad S1) 123 [(11, .int (iZ x)), (10, .int (iZ fnd)), (9, .int (iZ was)), (8, .int (iZ (szL b (hgU b k f)))), (7, .int (iZ W)), (6, .int (iZ tl)), (5, .int (iZ hh)), (4, .int (iZ (j : Int))), (3, .int (iZ v)), (2, .int (iZ f)), (1, .int (iZ (k : Int))), (0, .ref (ad 45))] [] := by
    intro x fnd y S1 hx hfn hn9 hy hy1 M1 c1 hfd
    refine v_iload 123 0 C dX4_find_123 rfl ?_
    refine v_iload 125 3 C dX4_find_125 rfl ?_
    refine z_icmp_gt 127 194 C (by first | assumption | exact ⟨by omega, by omega⟩) (by first | assumption | exact ⟨by omega, by omega⟩) dX4_find_127 (by decide) (fun c127_0 => ?_) (fun c127_0 => ?_)
    · skip
      refine v_sub [0, 1, 2, 3, 4, 5, 6, 7, 8, 9, 10, 11] rfl ?_
      exact tail _ _ y S1 hy hy1 M1 c1 hfd
    · skip
      refine v_iload 130 1 C dX4_find_130 rfl ?_
      refine v_bipush 132 C (iZ (-9)) dX4_find_132 (by decide) ?_
      refine z_icmp_ne 134 194 C (by first | assumption | exact ⟨by omega, by omega⟩) (by first | assumption | exact ⟨by omega, by omega⟩) dX4_find_134 (by decide) (fun c134_1 => ?_) (fun c134_1 => absurd c134_1 (hn9))
      refine v_sub [0, 1, 2, 3, 4, 5, 6, 7, 8, 9, 10, 11] rfl ?_
      exact tail _ _ y S1 hy hy1 M1 c1 hfd
  have loop : ∀ (d x : Nat) (y : Int) (S1 : St), x + d = (szL b (hgU b k f)).toNat + 1 → fdX b k v ≤ x → (0 ≤ y ∧ y ≤ 1000) → (b 3 k = 1 → 1 ≤ y) → RM S1 (hgB b k f y) → sameOn atC S S1 → OPk S1 b t j k → frF (fdP b t k f j hh tl) d x = fdR b t k f j hh tl v → V p l e { frames := 6, cells := 0, slots := 0, locals := 166 } s m ([.ref (ad 45), .int (iZ (k : Int)), .int (iZ f), .int (iZ v), .int (iZ (j : Int)), .int (iZ hh), .int (iZ tl)] : List Value).toArray below meth c (MQ below (QI D kc (wl kc N ad S) (mQ kc N ad S (fdR b t k f j hh tl v) (b)) s.heap.size) ([.ref (ad 45), .int (iZ (k : Int)), .int (iZ f), .int (iZ v), .int (iZ (j : Int)), .int (iZ hh), .int (iZ tl)] : List Value).toArray s 0 0 (va_A (wl kc N ad S) s.heap.size)) D (va_A (wl kc N ad S) s.heap.size) 12 0 0 (wl kc N ad S1) 123 [(11, .int (iZ (x : Int))), (10, .int (iZ (-9))), (9, .int (iZ was)), (8, .int (iZ (szL b (hgU b k f)))), (7, .int (iZ W)), (6, .int (iZ tl)), (5, .int (iZ hh)), (4, .int (iZ (j : Int))), (3, .int (iZ v)), (2, .int (iZ f)), (1, .int (iZ (k : Int))), (0, .ref (ad 45))] [] := by
    intro d
    induction d with
    | zero =>
      intro x y S1 hx hxs hy hy1 M1 c1 hO hf1
      refine v_iload 123 0 C dX4_find_123 rfl ?_
      refine v_iload 125 3 C dX4_find_125 rfl ?_
      refine z_icmp_gt 127 194 C (by first | assumption | exact ⟨by omega, by omega⟩) (by first | assumption | exact ⟨by omega, by omega⟩) dX4_find_127 (by decide) (fun c127_0 => ?_) (fun c127_0 => absurd (by omega) c127_0)
      refine v_sub [0, 1, 2, 3, 4, 5, 6, 7, 8, 9, 10, 11] rfl ?_
      exact tail _ _ y S1 hy hy1 M1 c1 hf1
    | succ d ih =>
      intro x y S1 hx hxs hy hy1 M1 c1 hO hf1
      have hx1000 : (x : Int) ≤ 1000 := by omega
      have hfx : max v (if b 3 k = 1 then 1 else 0) = (fdX b k v : Int) := by unfold fdX; omega
      have h1x : b 3 k = 1 → 1 ≤ x := fun q => by rw [if_pos q] at hfx; omega
      have h1xi : b 3 k = 1 → 1 ≤ (x : Int) := fun q => by have := h1x q; omega
      have hv := hgInv (f := f) hI hk (v := (x : Int)) ⟨by omega, hx1000⟩ h1xi
      have M2 := hgS_RM (k := k) (f := f) (v := (x : Int)) M1
      rw [hgB_hgB] at M2
      have c2 : sameOn atC S (hgS S1 (hgB b k f y) k f x) := c1.tr hgS_C
      have O2 := hgS_OP (c := hgB b k f y) (k := k) (f := f) (x := (x : Int)) hO
      refine v_iload 123 0 C dX4_find_123 rfl ?_
      refine v_iload 125 3 C dX4_find_125 rfl ?_
      refine z_icmp_gt 127 194 C (by first | assumption | exact ⟨by omega, by omega⟩) (by first | assumption | exact ⟨by omega, by omega⟩) dX4_find_127 (by decide) (fun c127_0 => absurd c127_0 (by omega)) (fun c127_0 => ?_)
      refine v_iload 130 1 C dX4_find_130 rfl ?_
      refine v_bipush 132 C (iZ (-9)) dX4_find_132 (by decide) ?_
      refine z_icmp_ne 134 194 C (by first | assumption | exact ⟨by omega, by omega⟩) (by first | assumption | exact ⟨by omega, by omega⟩) dX4_find_134 (by decide) (fun c134_1 => absurd c134_1 (fun q => q rfl)) (fun c134_1 => ?_)
      refine v_aload_n 137 11 C dX4_find_137 rfl ?_
      refine v_iload_n 138 10 C dX4_find_138 rfl ?_
      refine v_iload 139 4 C dX4_find_139 rfl ?_
      refine v_iload 141 0 C dX4_find_141 rfl ?_
      refine v_callv 143 hA (rV_Mo 143 C L_RX4_166 lk_670 lk_34 (m4_hang (f := f) hm (hgInv (f := f) hI hk hy hy1) M1 (by rw [hgB_bn]; exact hk) hf hW) (vm.o hm) rfl ⟨rfl, rfl⟩ (rm_ok rfl) dX4_find_143) (fun w5 h6 => ?_)
      obtain rfl := h6
      refine v_aload_n 146 11 C dX4_find_146 rfl ?_
      refine v_iload_n 147 10 C dX4_find_147 rfl ?_
      refine v_callv 148 hA (rV_Mo 148 C L_RX4_141 lk_621 lk_27 (m4_bend hm hv M2 hj (by rw [hgB_bn]; exact hk) (by rw [hgB_o (by decide) (by decide)]; exact ht) (hg_LE hI hE hk) (hg_OP O2)) (vm.o hm) rfl ⟨rfl, rfl⟩ (rm_ok rfl) dX4_find_148) (fun w8 h9 => ?_)
      obtain ⟨S3, v3, rfl, hQ⟩ := h9
      obtain ⟨yy, by3, ey3, fd3⟩ := fd_be (hh := hh) (tl := tl) hI hE hk hj hx1000 h1x ht hQ
      have hv3 := hQ.2.2.1
      have M3 := hQ.1.O.RM M2
      have c3 := c2.tr hQ.1.O.C
      have O3 := hQ.1.OP (Nat.le_refl k) O2
      refine v_aload_n 151 11 C dX4_find_151 rfl ?_
      refine g_Mo_isStuck 152 C (vm.o hm).1 (vm.o hm).2 lk_513 dX4_find_152 ?_
      refine v_iload_n 155 10 C dX4_find_155 rfl ?_
      refine v_zald 156 C (vm.a hm 56 (by decide) rfl).1 (vm.a hm 56 (by decide) rfl).2 k (izn (by omega)) (lnx (show ln 56 = 30 from rfl) (by omega)) dX4_find_156 ?_
      refine v_eqi (iZ v3) (hQ.2.1) ?_
      refine z_if_ne 157 184 C (by first | assumption | exact ⟨by omega, by omega⟩) dX4_find_157 (by decide) (fun cS => ?_) (fun cS => ?_)
      · skip
        refine v_iload 184 1 C dX4_find_184 rfl ?_
        refine v_istore 186 [(10, .int (iZ (-9))), (11, .int (iZ (x : Int))), (9, .int (iZ was)), (8, .int (iZ (szL b (hgU b k f)))), (7, .int (iZ W)), (6, .int (iZ tl)), (5, .int (iZ hh)), (4, .int (iZ (j : Int))), (3, .int (iZ v)), (2, .int (iZ f)), (1, .int (iZ (k : Int))), (0, .ref (ad 45))] C dX4_find_186 (by decide) rfl ?_
        refine v_iinc 188 1 (iZ ((x + 1 : Nat) : Int)) [(11, .int (iZ ((x + 1 : Nat) : Int))), (10, .int (iZ (-9))), (9, .int (iZ was)), (8, .int (iZ (szL b (hgU b k f)))), (7, .int (iZ W)), (6, .int (iZ tl)), (5, .int (iZ hh)), (4, .int (iZ (j : Int))), (3, .int (iZ v)), (2, .int (iZ f)), (1, .int (iZ (k : Int))), (0, .ref (ad 45))] C dX4_find_188 rfl (iZ_add _ _) (by decide) rfl ?_
        refine v_goto 191 123 C dX4_find_191 (by decide) ?_
        refine v_sub [0, 1, 2, 3, 4, 5, 6, 7, 8, 9, 10, 11] rfl ?_
        exact ih (x + 1) (x : Int) S3 (by omega) (by omega) ⟨by omega, hx1000⟩ h1xi M3 c3 O3 (by rw [← hf1, frF, if_neg (show ¬ fdP b t k f j hh tl x = true by rw [show fdP b t k f j hh tl x = false from by rw [← fd3, decide_eq_false cS]; rfl]; decide)])
      · skip
        refine v_aload_n 160 11 C dX4_find_160 rfl ?_
        refine g_Mo_atY 161 C (vm.o hm).1 (vm.o hm).2 lk_512 dX4_find_161 ?_
        refine v_iload_n 164 10 C dX4_find_164 rfl ?_
        refine v_lald 165 C (vm.a hm 55 (by decide) rfl).1 (vm.a hm 55 (by decide) rfl).2 k (izn (by omega)) (lnx (show ln 55 = 30 from rfl) (by omega)) dX4_find_165 ?_
        refine v_eql (lZ yy) (ey3 cS) ?_
        refine v_iload 166 6 C dX4_find_166 rfl ?_
        refine z_i2l 168 C (by first | assumption | exact ⟨by omega, by omega⟩) dX4_find_168 ?_
        refine v_calll 169 hA (rS 169 C L_RX4_176 lk_698 (m4_away ⟨by omega, by omega⟩ ⟨by omega, by omega⟩) rfl rfl (rm_ok rfl) dX4_find_169) (fun r10 w11 h12 => ?_)
        obtain ⟨e_r10, rfl⟩ := h12
        refine v_eql (lZ ((yy - hh).natAbs : Int)) (e_r10) ?_
        refine v_iload 172 5 C dX4_find_172 rfl ?_
        refine z_i2l 174 C (by first | assumption | exact ⟨by omega, by omega⟩) dX4_find_174 ?_
        refine z_lcmp_gt 175 184 C (by first | assumption | exact ⟨by omega, by omega⟩) (by first | assumption | exact ⟨by omega, by omega⟩) dX4_find_175 dX4_find_176 (by decide) (fun cL => ?_) (fun cL => ?_)
        · skip
          refine v_iload 184 1 C dX4_find_184 rfl ?_
          refine v_istore 186 [(10, .int (iZ (-9))), (11, .int (iZ (x : Int))), (9, .int (iZ was)), (8, .int (iZ (szL b (hgU b k f)))), (7, .int (iZ W)), (6, .int (iZ tl)), (5, .int (iZ hh)), (4, .int (iZ (j : Int))), (3, .int (iZ v)), (2, .int (iZ f)), (1, .int (iZ (k : Int))), (0, .ref (ad 45))] C dX4_find_186 (by decide) rfl ?_
          refine v_iinc 188 1 (iZ ((x + 1 : Nat) : Int)) [(11, .int (iZ ((x + 1 : Nat) : Int))), (10, .int (iZ (-9))), (9, .int (iZ was)), (8, .int (iZ (szL b (hgU b k f)))), (7, .int (iZ W)), (6, .int (iZ tl)), (5, .int (iZ hh)), (4, .int (iZ (j : Int))), (3, .int (iZ v)), (2, .int (iZ f)), (1, .int (iZ (k : Int))), (0, .ref (ad 45))] C dX4_find_188 rfl (iZ_add _ _) (by decide) rfl ?_
          refine v_goto 191 123 C dX4_find_191 (by decide) ?_
          refine v_sub [0, 1, 2, 3, 4, 5, 6, 7, 8, 9, 10, 11] rfl ?_
          exact ih (x + 1) (x : Int) S3 (by omega) (by omega) ⟨by omega, hx1000⟩ h1xi M3 c3 O3 (by rw [← hf1, frF, if_neg (show ¬ fdP b t k f j hh tl x = true by rw [show fdP b t k f j hh tl x = false from by rw [← fd3, decide_eq_false (show ¬ ((yy - hh).natAbs : Int) ≤ tl by omega)]; simp]; decide)])
        · skip
          refine v_iload 179 0 C dX4_find_179 rfl ?_
          refine v_goto 181 186 C dX4_find_181 (by decide) ?_
          refine v_istore 186 [(10, .int (iZ (x : Int))), (11, .int (iZ (x : Int))), (9, .int (iZ was)), (8, .int (iZ (szL b (hgU b k f)))), (7, .int (iZ W)), (6, .int (iZ tl)), (5, .int (iZ hh)), (4, .int (iZ (j : Int))), (3, .int (iZ v)), (2, .int (iZ f)), (1, .int (iZ (k : Int))), (0, .ref (ad 45))] C dX4_find_186 (by decide) rfl ?_
          refine v_iinc 188 1 (iZ ((x + 1 : Nat) : Int)) [(11, .int (iZ ((x + 1 : Nat) : Int))), (10, .int (iZ (x : Int))), (9, .int (iZ was)), (8, .int (iZ (szL b (hgU b k f)))), (7, .int (iZ W)), (6, .int (iZ tl)), (5, .int (iZ hh)), (4, .int (iZ (j : Int))), (3, .int (iZ v)), (2, .int (iZ f)), (1, .int (iZ (k : Int))), (0, .ref (ad 45))] C dX4_find_188 rfl (iZ_add _ _) (by decide) rfl ?_
          refine v_goto 191 123 C dX4_find_191 (by decide) ?_
          refine v_sub [0, 1, 2, 3, 4, 5, 6, 7, 8, 9, 10, 11] rfl ?_
          exact exit _ _ (x : Int) S3 ⟨by omega, by omega⟩ ⟨by omega, by omega⟩ (by omega) ⟨by omega, hx1000⟩ h1xi M3 c3 (by rw [← hf1, frF, if_pos (show fdP b t k f j hh tl x = true by rw [← fd3, decide_eq_true cS, decide_eq_true (show ((yy - hh).natAbs : Int) ≤ tl by omega)]; rfl)])
  refine v_aload_n 0 0 C dX4_find_0 rfl ?_
  refine v_iload_n 1 1 C dX4_find_1 rfl ?_
  refine v_calli 2 hA (rV_Mo 2 C L_RX4_160 lk_658 lk_32 (m4_isPart hm hI hM (by first | assumption | exact ⟨by omega, by omega⟩)) (vm.o hm) rfl ⟨rfl, rfl⟩ (rm_ok rfl) dX4_find_2) (fun r13 w14 h15 => ?_)
  obtain ⟨e_r13, rfl⟩ := h15
  refine v_eqi (iZ (bz (isPb b (k : Int)))) (e_r13) ?_
  refine z_if_eq 5 16 C (bzr _) dX4_find_5 (by decide) (fun c5_0 => absurd c5_0 (by rw [isPb_y hI hk ht]; decide)) (fun c5_0 => ?_)
  refine v_iload 8 4 C dX4_find_8 rfl ?_
  refine v_calli 10 hA (rS 10 C L_RX4_170 lk_677 (m4_isStep (by first | assumption | exact ⟨by omega, by omega⟩)) rfl rfl (rm_ok rfl) dX4_find_10) (fun r16 w17 h18 => ?_)
  obtain ⟨e_r16, rfl⟩ := h18
  refine v_eqi (iZ (bz (decide (0 ≤ (j : Int) ∧ (j : Int) ≤ 16)))) (e_r16) ?_
  refine z_if_ne 13 22 C (bzr _) dX4_find_13 (by decide) (fun c13_1 => ?_) (fun c13_1 => absurd c13_1 (by rw [decide_eq_true (show 0 ≤ (j : Int) ∧ (j : Int) ≤ 16 by omega)]; decide))
  refine v_iload_n 22 2 C dX4_find_22 rfl ?_
  refine z_if_eq 23 30 C (by first | assumption | exact ⟨by omega, by omega⟩) dX4_find_23 (by decide) (fun cF => ?_) (fun cF => ?_)
  · skip
    refine v_iconst 30 C (iZ 1) dX4_find_30 rfl ?_
    refine v_eqi (iZ W) (by rw [hW, if_pos cF]) ?_
    refine v_istore 31 [(7, .int (iZ W)), (0, .ref (ad 45)), (1, .int (iZ (k : Int))), (2, .int (iZ f)), (3, .int (iZ v)), (4, .int (iZ (j : Int))), (5, .int (iZ hh)), (6, .int (iZ tl))] C dX4_find_31 (by decide) rfl ?_
    refine v_iload_n 33 4 C dX4_find_33 rfl ?_
    refine z_if_lt 34 42 C (by first | assumption | exact ⟨by omega, by omega⟩) dX4_find_34 (by decide) (fun c34_3 => absurd c34_3 (by omega)) (fun c34_3 => ?_)
    refine v_iload 37 7 C dX4_find_37 rfl ?_
    refine z_if_ge 39 49 C (by first | assumption | exact ⟨by omega, by omega⟩) dX4_find_39 (by decide) (fun c39_4 => ?_) (fun c39_4 => absurd (by omega) c39_4)
    refine v_aload_n 49 1 C dX4_find_49 rfl ?_
    refine v_aload_n 50 1 C dX4_find_50 rfl ?_
    refine g_Mo_on 51 C (vm.o hm).1 (vm.o hm).2 lk_503 dX4_find_51 ?_
    refine v_iconst 54 C (iZ 2) dX4_find_54 rfl ?_
    refine v_iload_n 55 2 C dX4_find_55 rfl ?_
    refine z_imul 56 C dX4_find_56 ?_
    refine v_iload 57 0 C dX4_find_57 rfl ?_
    refine z_iadd 59 C dX4_find_59 ?_
    refine v_iald 60 C (vm.a hm 47 (by decide) rfl).1 (vm.a hm 47 (by decide) rfl).2 i (izn (by omega)) (lnx (show ln 47 = 60 from rfl) (by omega)) dX4_find_60 ?_
    refine v_eqi (iZ ((hgU b k f : Nat) : Int)) ((hM.2.2.1 i (by omega)).1.trans (by rw [h4i])) ?_
    refine v_calli 61 hA (rV_Mo 61 C L_RX4_152 lk_613 lk_25 (m4_sizeOf hm hI hM hu) (vm.o hm) rfl ⟨rfl, rfl⟩ (rm_ok rfl) dX4_find_61) (fun r19 w20 h21 => ?_)
    obtain ⟨e_r19, rfl⟩ := h21
    refine v_eqi (iZ (szL b (hgU b k f))) (e_r19) ?_
    refine v_istore 64 [(8, .int (iZ (szL b (hgU b k f)))), (7, .int (iZ W)), (0, .ref (ad 45)), (1, .int (iZ (k : Int))), (2, .int (iZ f)), (3, .int (iZ v)), (4, .int (iZ (j : Int))), (5, .int (iZ hh)), (6, .int (iZ tl))] C dX4_find_64 (by decide) rfl ?_
    refine v_iload_n 66 5 C dX4_find_66 rfl ?_
    refine v_iload 67 0 C dX4_find_67 rfl ?_
    refine z_icmp_le 69 79 C (by first | assumption | exact ⟨by omega, by omega⟩) (by first | assumption | exact ⟨by omega, by omega⟩) dX4_find_69 (by decide) (fun c69_5 => ?_) (fun c69_5 => absurd (by omega) c69_5)
    refine v_aload_n 79 2 C dX4_find_79 rfl ?_
    refine g_Mo_far 80 C (vm.o hm).1 (vm.o hm).2 lk_504 dX4_find_80 ?_
    refine v_iconst 83 C (iZ 2) dX4_find_83 rfl ?_
    refine v_iload_n 84 3 C dX4_find_84 rfl ?_
    refine z_imul 85 C dX4_find_85 ?_
    refine v_iload 86 1 C dX4_find_86 rfl ?_
    refine z_iadd 88 C dX4_find_88 ?_
    refine v_iald 89 C (vm.a hm 48 (by decide) rfl).1 (vm.a hm 48 (by decide) rfl).2 i (izn (by omega)) (lnx (show ln 48 = 60 from rfl) (by omega)) dX4_find_89 ?_
    refine v_eqi (iZ was) ((hM.2.2.1 i (by omega)).2.1.trans (by rw [h5i])) ?_
    refine v_istore 90 [(9, .int (iZ was)), (8, .int (iZ (szL b (hgU b k f)))), (7, .int (iZ W)), (0, .ref (ad 45)), (1, .int (iZ (k : Int))), (2, .int (iZ f)), (3, .int (iZ v)), (4, .int (iZ (j : Int))), (5, .int (iZ hh)), (6, .int (iZ tl))] C dX4_find_90 (by decide) rfl ?_
    refine v_bipush 92 C (iZ (-9)) dX4_find_92 (by decide) ?_
    refine v_istore 94 [(10, .int (iZ (-9))), (9, .int (iZ was)), (8, .int (iZ (szL b (hgU b k f)))), (7, .int (iZ W)), (0, .ref (ad 45)), (1, .int (iZ (k : Int))), (2, .int (iZ f)), (3, .int (iZ v)), (4, .int (iZ (j : Int))), (5, .int (iZ hh)), (6, .int (iZ tl))] C dX4_find_94 (by decide) rfl ?_
    refine v_aload_n 96 4 C dX4_find_96 rfl ?_
    refine v_iload 97 8 C dX4_find_97 rfl ?_
    refine v_callv 99 hA (rV_Mo 99 C L_RX4_155 lk_617 lk_26 (m4_open hm hI hM hE hj) (vm.o hm) rfl ⟨rfl, rfl⟩ (rm_ok rfl) dX4_find_99) (fun w23 h24 => ?_)
    obtain ⟨S1, rfl, F1, O1⟩ := h24
    have M1 := F1.RM hM
    refine v_aload_n 102 4 C dX4_find_102 rfl ?_
    refine g_Mo_kind 103 C (vm.o hm).1 (vm.o hm).2 lk_502 dX4_find_103 ?_
    refine v_iload_n 106 5 C dX4_find_106 rfl ?_
    refine v_iald 107 C (vm.a hm 46 (by decide) rfl).1 (vm.a hm 46 (by decide) rfl).2 k (izn (by omega)) (lnx (show ln 46 = 30 from rfl) (by omega)) dX4_find_107 ?_
    refine v_eqi (iZ (b 3 k)) ((M1.2.1 k hk).1) ?_
    refine v_iconst 108 C (iZ 1) dX4_find_108 rfl ?_
    refine z_icmp_ne 109 120 C (by first | assumption | exact ⟨by omega, by omega⟩) (by first | assumption | exact ⟨by omega, by omega⟩) dX4_find_109 (by decide) (fun cB => ?_) (fun cB => ?_)
    · skip
      refine v_iload_n 120 7 C dX4_find_120 rfl ?_
      refine v_eqi (iZ (fdX b k v : Int)) (congrArg iZ (by unfold fdX; rw [if_neg cB]; omega)) ?_
      refine v_istore 121 [(11, .int (iZ (fdX b k v : Int))), (10, .int (iZ (-9))), (9, .int (iZ was)), (8, .int (iZ (szL b (hgU b k f)))), (7, .int (iZ W)), (0, .ref (ad 45)), (1, .int (iZ (k : Int))), (2, .int (iZ f)), (3, .int (iZ v)), (4, .int (iZ (j : Int))), (5, .int (iZ hh)), (6, .int (iZ tl))] C dX4_find_121 (by decide) rfl ?_
      refine v_sub [0, 1, 2, 3, 4, 11, 10, 9, 8, 7, 6, 5] rfl ?_
      exact loop ((szL b (hgU b k f)).toNat + 1 - fdX b k v) (fdX b k v) was S1 (by omega) (Nat.le_refl _) hwb hwb1 (by rw [hgB_was hI hk hwas]; exact M1) F1.C ⟨O1.1, fun q z1 z2 => O1.2 q z2 z2⟩ rfl
    · skip
      refine v_iload_n 112 7 C dX4_find_112 rfl ?_
      refine z_if_ne 113 120 C (by first | assumption | exact ⟨by omega, by omega⟩) dX4_find_113 (by decide) (fun cV => ?_) (fun cV => ?_)
      · skip
        refine v_iload_n 120 7 C dX4_find_120 rfl ?_
        refine v_eqi (iZ (fdX b k v : Int)) (congrArg iZ (by unfold fdX; rw [if_pos cB]; omega)) ?_
        refine v_istore 121 [(11, .int (iZ (fdX b k v : Int))), (10, .int (iZ (-9))), (9, .int (iZ was)), (8, .int (iZ (szL b (hgU b k f)))), (7, .int (iZ W)), (0, .ref (ad 45)), (1, .int (iZ (k : Int))), (2, .int (iZ f)), (3, .int (iZ v)), (4, .int (iZ (j : Int))), (5, .int (iZ hh)), (6, .int (iZ tl))] C dX4_find_121 (by decide) rfl ?_
        refine v_sub [0, 1, 2, 3, 4, 11, 10, 9, 8, 7, 6, 5] rfl ?_
        exact loop ((szL b (hgU b k f)).toNat + 1 - fdX b k v) (fdX b k v) was S1 (by omega) (Nat.le_refl _) hwb hwb1 (by rw [hgB_was hI hk hwas]; exact M1) F1.C ⟨O1.1, fun q z1 z2 => O1.2 q z2 z2⟩ rfl
      · skip
        refine v_iconst 116 C (iZ 1) dX4_find_116 rfl ?_
        refine v_goto 117 121 C dX4_find_117 (by decide) ?_
        refine v_eqi (iZ (fdX b k v : Int)) (congrArg iZ (by unfold fdX; rw [if_pos cB]; omega)) ?_
        refine v_istore 121 [(11, .int (iZ (fdX b k v : Int))), (10, .int (iZ (-9))), (9, .int (iZ was)), (8, .int (iZ (szL b (hgU b k f)))), (7, .int (iZ W)), (0, .ref (ad 45)), (1, .int (iZ (k : Int))), (2, .int (iZ f)), (3, .int (iZ v)), (4, .int (iZ (j : Int))), (5, .int (iZ hh)), (6, .int (iZ tl))] C dX4_find_121 (by decide) rfl ?_
        refine v_sub [0, 1, 2, 3, 4, 11, 10, 9, 8, 7, 6, 5] rfl ?_
        exact loop ((szL b (hgU b k f)).toNat + 1 - fdX b k v) (fdX b k v) was S1 (by omega) (Nat.le_refl _) hwb hwb1 (by rw [hgB_was hI hk hwas]; exact M1) F1.C ⟨O1.1, fun q z1 z2 => O1.2 q z2 z2⟩ rfl
  · skip
    refine v_iconst 26 C (iZ 0) dX4_find_26 rfl ?_
    refine v_goto 27 31 C dX4_find_27 (by decide) ?_
    refine v_eqi (iZ W) (by rw [hW, if_neg cF]) ?_
    refine v_istore 31 [(7, .int (iZ W)), (0, .ref (ad 45)), (1, .int (iZ (k : Int))), (2, .int (iZ f)), (3, .int (iZ v)), (4, .int (iZ (j : Int))), (5, .int (iZ hh)), (6, .int (iZ tl))] C dX4_find_31 (by decide) rfl ?_
    refine v_iload_n 33 4 C dX4_find_33 rfl ?_
    refine z_if_lt 34 42 C (by first | assumption | exact ⟨by omega, by omega⟩) dX4_find_34 (by decide) (fun c34_3 => absurd c34_3 (by omega)) (fun c34_3 => ?_)
    refine v_iload 37 7 C dX4_find_37 rfl ?_
    refine z_if_ge 39 49 C (by first | assumption | exact ⟨by omega, by omega⟩) dX4_find_39 (by decide) (fun c39_4 => ?_) (fun c39_4 => absurd (by omega) c39_4)
    refine v_aload_n 49 1 C dX4_find_49 rfl ?_
    refine v_aload_n 50 1 C dX4_find_50 rfl ?_
    refine g_Mo_on 51 C (vm.o hm).1 (vm.o hm).2 lk_503 dX4_find_51 ?_
    refine v_iconst 54 C (iZ 2) dX4_find_54 rfl ?_
    refine v_iload_n 55 2 C dX4_find_55 rfl ?_
    refine z_imul 56 C dX4_find_56 ?_
    refine v_iload 57 0 C dX4_find_57 rfl ?_
    refine z_iadd 59 C dX4_find_59 ?_
    refine v_iald 60 C (vm.a hm 47 (by decide) rfl).1 (vm.a hm 47 (by decide) rfl).2 i (izn (by omega)) (lnx (show ln 47 = 60 from rfl) (by omega)) dX4_find_60 ?_
    refine v_eqi (iZ ((hgU b k f : Nat) : Int)) ((hM.2.2.1 i (by omega)).1.trans (by rw [h4i])) ?_
    refine v_calli 61 hA (rV_Mo 61 C L_RX4_152 lk_613 lk_25 (m4_sizeOf hm hI hM hu) (vm.o hm) rfl ⟨rfl, rfl⟩ (rm_ok rfl) dX4_find_61) (fun r25 w26 h27 => ?_)
    obtain ⟨e_r25, rfl⟩ := h27
    refine v_eqi (iZ (szL b (hgU b k f))) (e_r25) ?_
    refine v_istore 64 [(8, .int (iZ (szL b (hgU b k f)))), (7, .int (iZ W)), (0, .ref (ad 45)), (1, .int (iZ (k : Int))), (2, .int (iZ f)), (3, .int (iZ v)), (4, .int (iZ (j : Int))), (5, .int (iZ hh)), (6, .int (iZ tl))] C dX4_find_64 (by decide) rfl ?_
    refine v_iload_n 66 5 C dX4_find_66 rfl ?_
    refine v_iload 67 0 C dX4_find_67 rfl ?_
    refine z_icmp_le 69 79 C (by first | assumption | exact ⟨by omega, by omega⟩) (by first | assumption | exact ⟨by omega, by omega⟩) dX4_find_69 (by decide) (fun c69_5 => ?_) (fun c69_5 => absurd (by omega) c69_5)
    refine v_aload_n 79 2 C dX4_find_79 rfl ?_
    refine g_Mo_far 80 C (vm.o hm).1 (vm.o hm).2 lk_504 dX4_find_80 ?_
    refine v_iconst 83 C (iZ 2) dX4_find_83 rfl ?_
    refine v_iload_n 84 3 C dX4_find_84 rfl ?_
    refine z_imul 85 C dX4_find_85 ?_
    refine v_iload 86 1 C dX4_find_86 rfl ?_
    refine z_iadd 88 C dX4_find_88 ?_
    refine v_iald 89 C (vm.a hm 48 (by decide) rfl).1 (vm.a hm 48 (by decide) rfl).2 i (izn (by omega)) (lnx (show ln 48 = 60 from rfl) (by omega)) dX4_find_89 ?_
    refine v_eqi (iZ was) ((hM.2.2.1 i (by omega)).2.1.trans (by rw [h5i])) ?_
    refine v_istore 90 [(9, .int (iZ was)), (8, .int (iZ (szL b (hgU b k f)))), (7, .int (iZ W)), (0, .ref (ad 45)), (1, .int (iZ (k : Int))), (2, .int (iZ f)), (3, .int (iZ v)), (4, .int (iZ (j : Int))), (5, .int (iZ hh)), (6, .int (iZ tl))] C dX4_find_90 (by decide) rfl ?_
    refine v_bipush 92 C (iZ (-9)) dX4_find_92 (by decide) ?_
    refine v_istore 94 [(10, .int (iZ (-9))), (9, .int (iZ was)), (8, .int (iZ (szL b (hgU b k f)))), (7, .int (iZ W)), (0, .ref (ad 45)), (1, .int (iZ (k : Int))), (2, .int (iZ f)), (3, .int (iZ v)), (4, .int (iZ (j : Int))), (5, .int (iZ hh)), (6, .int (iZ tl))] C dX4_find_94 (by decide) rfl ?_
    refine v_aload_n 96 4 C dX4_find_96 rfl ?_
    refine v_iload 97 8 C dX4_find_97 rfl ?_
    refine v_callv 99 hA (rV_Mo 99 C L_RX4_155 lk_617 lk_26 (m4_open hm hI hM hE hj) (vm.o hm) rfl ⟨rfl, rfl⟩ (rm_ok rfl) dX4_find_99) (fun w29 h30 => ?_)
    obtain ⟨S1, rfl, F1, O1⟩ := h30
    have M1 := F1.RM hM
    refine v_aload_n 102 4 C dX4_find_102 rfl ?_
    refine g_Mo_kind 103 C (vm.o hm).1 (vm.o hm).2 lk_502 dX4_find_103 ?_
    refine v_iload_n 106 5 C dX4_find_106 rfl ?_
    refine v_iald 107 C (vm.a hm 46 (by decide) rfl).1 (vm.a hm 46 (by decide) rfl).2 k (izn (by omega)) (lnx (show ln 46 = 30 from rfl) (by omega)) dX4_find_107 ?_
    refine v_eqi (iZ (b 3 k)) ((M1.2.1 k hk).1) ?_
    refine v_iconst 108 C (iZ 1) dX4_find_108 rfl ?_
    refine z_icmp_ne 109 120 C (by first | assumption | exact ⟨by omega, by omega⟩) (by first | assumption | exact ⟨by omega, by omega⟩) dX4_find_109 (by decide) (fun cB => ?_) (fun cB => ?_)
    · skip
      refine v_iload_n 120 7 C dX4_find_120 rfl ?_
      refine v_eqi (iZ (fdX b k v : Int)) (congrArg iZ (by unfold fdX; rw [if_neg cB]; omega)) ?_
      refine v_istore 121 [(11, .int (iZ (fdX b k v : Int))), (10, .int (iZ (-9))), (9, .int (iZ was)), (8, .int (iZ (szL b (hgU b k f)))), (7, .int (iZ W)), (0, .ref (ad 45)), (1, .int (iZ (k : Int))), (2, .int (iZ f)), (3, .int (iZ v)), (4, .int (iZ (j : Int))), (5, .int (iZ hh)), (6, .int (iZ tl))] C dX4_find_121 (by decide) rfl ?_
      refine v_sub [0, 1, 2, 3, 4, 11, 10, 9, 8, 7, 6, 5] rfl ?_
      exact loop ((szL b (hgU b k f)).toNat + 1 - fdX b k v) (fdX b k v) was S1 (by omega) (Nat.le_refl _) hwb hwb1 (by rw [hgB_was hI hk hwas]; exact M1) F1.C ⟨O1.1, fun q z1 z2 => O1.2 q z2 z2⟩ rfl
    · skip
      refine v_iload_n 112 7 C dX4_find_112 rfl ?_
      refine z_if_ne 113 120 C (by first | assumption | exact ⟨by omega, by omega⟩) dX4_find_113 (by decide) (fun cV => ?_) (fun cV => ?_)
      · skip
        refine v_iload_n 120 7 C dX4_find_120 rfl ?_
        refine v_eqi (iZ (fdX b k v : Int)) (congrArg iZ (by unfold fdX; rw [if_pos cB]; omega)) ?_
        refine v_istore 121 [(11, .int (iZ (fdX b k v : Int))), (10, .int (iZ (-9))), (9, .int (iZ was)), (8, .int (iZ (szL b (hgU b k f)))), (7, .int (iZ W)), (0, .ref (ad 45)), (1, .int (iZ (k : Int))), (2, .int (iZ f)), (3, .int (iZ v)), (4, .int (iZ (j : Int))), (5, .int (iZ hh)), (6, .int (iZ tl))] C dX4_find_121 (by decide) rfl ?_
        refine v_sub [0, 1, 2, 3, 4, 11, 10, 9, 8, 7, 6, 5] rfl ?_
        exact loop ((szL b (hgU b k f)).toNat + 1 - fdX b k v) (fdX b k v) was S1 (by omega) (Nat.le_refl _) hwb hwb1 (by rw [hgB_was hI hk hwas]; exact M1) F1.C ⟨O1.1, fun q z1 z2 => O1.2 q z2 z2⟩ rfl
      · skip
        refine v_iconst 116 C (iZ 1) dX4_find_116 rfl ?_
        refine v_goto 117 121 C dX4_find_117 (by decide) ?_
        refine v_eqi (iZ (fdX b k v : Int)) (congrArg iZ (by unfold fdX; rw [if_pos cB]; omega)) ?_
        refine v_istore 121 [(11, .int (iZ (fdX b k v : Int))), (10, .int (iZ (-9))), (9, .int (iZ was)), (8, .int (iZ (szL b (hgU b k f)))), (7, .int (iZ W)), (0, .ref (ad 45)), (1, .int (iZ (k : Int))), (2, .int (iZ f)), (3, .int (iZ v)), (4, .int (iZ (j : Int))), (5, .int (iZ hh)), (6, .int (iZ tl))] C dX4_find_121 (by decide) rfl ?_
        refine v_sub [0, 1, 2, 3, 4, 11, 10, 9, 8, 7, 6, 5] rfl ?_
        exact loop ((szL b (hgU b k f)).toNat + 1 - fdX b k v) (fdX b k v) was S1 (by omega) (Nat.le_refl _) hwb hwb1 (by rw [hgB_was hI hk hwas]; exact M1) F1.C ⟨O1.1, fun q z1 z2 => O1.2 q z2 z2⟩ rfl
