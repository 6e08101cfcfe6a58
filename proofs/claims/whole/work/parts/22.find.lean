/-! FIND -/
def TI (S : St) (b : Bs) (k : Nat) (f : Int) : Prop := (gI S 4 5 = iZ (b 3 k) ∧ gI S 4 6 = iZ (b 4 (2 * k)) ∧ gI S 4 8 = iZ (b 4 (2 * k + 1)) ∧ gI S 4 10 = iZ (b 7 k)) ∧ ∃ a b_ c d : Int, (gI S 4 7 = iZ a ∧ gI S 4 9 = iZ b_ ∧ gI S (4 + 13) 4 = iZ c ∧ gI S (4 + 14) 4 = iZ d) ∧ (f = 0 → a = b 5 (2 * k)) ∧ (¬ f = 0 → b_ = b 5 (2 * k + 1)) ∧ (¬ b 3 k = 1 → c = b 6 (2 * k) ∧ d = b 6 (2 * k + 1))
theorem TI_like {S : St} {b : Bs} {k : Nat} {f : Int} : TI (likeT S 4 (b 3 k) (b 4 (2 * k)) (b 5 (2 * k)) (b 4 (2 * k + 1)) (b 5 (2 * k + 1)) (b 6 (2 * k)) (b 6 (2 * k + 1)) (b 7 k)) b k f := by
  refine ⟨⟨?_, ?_, ?_, ?_⟩, b 5 (2 * k), b 5 (2 * k + 1), b 6 (2 * k), b 6 (2 * k + 1), ⟨?_, ?_, ?_, ?_⟩, fun _ => rfl, fun _ => rfl, fun _ => ⟨rfl, rfl⟩⟩ <;> unfold likeT cutT hangT <;> simp [gI_pI]
theorem same_pI {P : Nat → Prop} {S : St} {i k : Nat} {v : Int32} (h : ¬ P i) : sameOn P S (pI S i k v) := fun j hj f => ⟨by rw [gI_pI, if_neg (fun (q : j = i ∧ f = k) => h (by rw [← q.1]; exact hj))], rfl, rfl, rfl, rfl⟩
theorem same_cut {P : Nat → Prop} {S : St} {i : Nat} {c d : Int} (h1 : ¬ P (i + 13)) (h2 : ¬ P (i + 14)) : sameOn P S (cutT S i c d) := (same_pI h1).tr (same_pI h2)
theorem same_hang {P : Nat → Prop} {S : St} {i : Nat} {k p a q b : Int} (h : ¬ P i) : sameOn P S (hangT S i k p a q b) := ((((same_pI h).tr (same_pI h)).tr (same_pI h)).tr (same_pI h)).tr (same_pI h)
theorem same_like {P : Nat → Prop} {S : St} {i : Nat} {k p a q b c d lf : Int} (h : ¬ P i) (h1 : ¬ P (i + 13)) (h2 : ¬ P (i + 14)) : sameOn P S (likeT S i k p a q b c d lf) := ((same_hang h).tr (same_cut h1 h2)).tr (same_pI h)
theorem same_reh {P : Nat → Prop} {S : St} {i : Nat} {f v c d : Int} (h : ¬ P i) (h1 : ¬ P (i + 13)) (h2 : ¬ P (i + 14)) : sameOn P S (rehT S i f v c d) := by
  unfold rehT
  split
  · exact (same_pI h).tr (same_cut h1 h2)
  · exact (same_pI h).tr (same_cut h1 h2)
theorem same_Wr {P : Nat → Prop} {S S' : St} {i j : Nat} (h : Wr S S' i j) (hn : ∀ m, i < m → m ≤ i + 12 → ¬ P m) : sameOn P S S' := fun m hm f => ⟨(h.1 m f).1, h.2 m f (fun q => hn m q.1 q.2.1 hm), (h.1 m f).2.1, (h.1 m f).2.2.1, (h.1 m f).2.2.2⟩
/-- a crease near a height, with a hinge at another distance -/
def fdP (b : Bs) (t : Ts) (k : Nat) (f : Int) (j : Nat) (hh tl : Int) (x : Nat) : Bool := decide (PS t j (b 4 (2 * k)).toNat = 0) && decide (PS t j (b 4 (2 * k + 1)).toNat = 0) &&
  (match foldZ (PLx b t j (b 4 (2 * k)).toNat (hgB b k f x 5 (2 * k))) (PLy b t j (b 4 (2 * k)).toNat (hgB b k f x 5 (2 * k))) (PLx b t j (b 4 (2 * k + 1)).toNat (hgB b k f x 5 (2 * k + 1))) (PLy b t j (b 4 (2 * k + 1)).toNat (hgB b k f x 5 (2 * k + 1))) (hgB b k f x 6 (2 * k)) (hgB b k f x 6 (2 * k + 1)) (b 7 k) with
   | none => false
   | some q => decide (((q.2 - hh).natAbs : Int) ≤ tl))
def fdX (b : Bs) (k : Nat) (v : Int) : Nat := (max v (if b 3 k = 1 then 1 else 0)).toNat
def fdR (b : Bs) (t : Ts) (k : Nat) (f : Int) (j : Nat) (hh tl v : Int) : Int := frF (fdP b t k f j hh tl) ((szL b (hgU b k f)).toNat + 1 - fdX b k v) (fdX b k v)
/-- what a settled trial shows -/
theorem fd_set {S S' : St} {b : Bs} {t : Ts} {k j x : Nat} {f hh tl v : Int} (hI : Inv b) (hk : k < bn b) (hj : j < 17) (hx : (x : Int) ≤ 1000) (h1x : b 3 k = 1 → 1 ≤ x)
    (hRp : 2 ≤ (b 4 (2 * k)).toNat → BD1 b t ((b 4 (2 * k)).toNat / 2 - 1) j) (ht : b 8 k = 1)
    (hQ : SetQ S S' b t 4 j (b 4 (2 * k)).toNat (b 4 (2 * k + 1)).toNat (hgB b k f x 5 (2 * k)) (hgB b k f x 5 (2 * k + 1)) (hgB b k f x 6 (2 * k)) (hgB b k f x 6 (2 * k + 1)) (b 7 k) v) :
    ∃ y : Int, bd y ∧ (v = 0 → gA S' (4 + 9 + 2) j = iZ y) ∧ (decide (v = 0) && decide (((y - hh).natAbs : Int) ≤ tl)) = fdP b t k f j hh tl x := by
  obtain ⟨hW, q1, q2, q3, q4⟩ := hQ
  have hv := hgInv (f := f) hI hk (v := (x : Int)) ⟨by omega, hx⟩ (fun q => by have := h1x q; omega)
  have J0 := hv.2.2.2.2 k (by rw [hgB_bn]; exact hk) (2 * k) (Or.inl rfl)
  have J1 := hv.2.2.2.2 k (by rw [hgB_bn]; exact hk) (2 * k + 1) (Or.inr rfl)
  have K0 := hI.2.2.2.2 k hk (2 * k) (Or.inl rfl)
  unfold fdP
  by_cases h0 : PS t j (b 4 (2 * k)).toNat = 0 ∧ PS t j (b 4 (2 * k + 1)).toNat = 0
  · rw [decide_eq_true h0.1, decide_eq_true h0.2]
    rcases (q4 h0.1 h0.2).2 with ⟨g1, g2⟩ | ⟨X, Y, g1, g2, g3, g4⟩
    · refine ⟨0, by decide, fun z => by omega, ?_⟩
      rw [g1, g2]; rfl
    · have h30 := hI.1.2
      have B := PL_b (b := b) (t := t) (s := j) (p := (b 4 (2 * k)).toNat) (n := hgB b k f x 5 (2 * k)) (K := 32000) hj J0.2.1 (by decide) (fun h2 => by
        have T := thL_lt (K0.2.2.2 ht) h2
        have JJ := hI.2.2.2.2 _ T.1 ((b 4 (2 * k)).toNat - 2) (by omega)
        refine ⟨by omega, hRp h2, ?_, by omega⟩
        have z := h0.1
        unfold PS at z; rw [if_neg (by omega)] at z; exact z)
      have F := foldZ_bd (by omega) (by omega) g1
      refine ⟨Y, by omega, fun _ => g4, ?_⟩
      rw [g1, decide_eq_true g2]
      rfl
  · have g := q3 h0
    refine ⟨0, by decide, fun z => by omega, ?_⟩
    rw [decide_eq_false (show ¬ v = 0 by omega)]
    have : (decide (PS t j (b 4 (2 * k)).toNat = 0) && decide (PS t j (b 4 (2 * k + 1)).toNat = 0)) = false := by
      rcases Classical.em (PS t j (b 4 (2 * k)).toNat = 0) with z | z
      · rw [decide_eq_false (fun z2 => h0 ⟨z, z2⟩)]; simp
      · rw [decide_eq_false z]; rfl
    rw [this]; rfl
theorem frF_b (P : Nat → Bool) (n q : Nat) : frF P n q = -9 ∨ (0 ≤ frF P n q ∧ frF P n q < (q : Int) + n) := by
  rcases frF_spec P n q with h | ⟨q', h1, h2, _, h4, _⟩
  · exact Or.inl h.1
  · right; rw [h4]; omega
set_option maxHeartbeats 4000000 in
set_option maxRecDepth 100000 in
theorem c_find_p {l : Launch} {D : va_G} {kc : Nat → ClassId} {N : Nat} {ad : Nat → Nat} {S : St} {b : Bs} {t : Ts} (hg : vg N) (hN : N = 66 + 15 * bn b) (hI : Inv b) (hC : RC S b t) (hE : LE b t) {z s_ : Int} (rz : r32 z) (rs : r32 s_) (hp : ¬ isP b z) {f v hh tl : Int} (hf : b01 f) (rv : r32 v) (rh : r32 hh) (rt : r32 tl) : MetK l yX3_find cX3_find 10 (some FieldType.int) 6 0 0 149 D kc (wl kc N ad S) [.ref (ad 0), .int (iZ z), .int (iZ f), .int (iZ v), .int (iZ s_), .int (iZ hh), .int (iZ tl)] (QI D kc (wl kc N ad S) (cQ kc N ad S (-1) (refB b 1))) := by
  refine MetK.of (by decide +kernel) (Nat.le_of_ble_eq_true rfl) ?_
  intro p e s m below meth c C
  have hA : ∀ q, s.heap.size ≤ q → va_A (wl kc N ad S) s.heap.size q := fun _ h => Or.inr h
  show V p l e { frames := 6, cells := 0, slots := 0, locals := 149 } s m ([.ref (ad 0), .int (iZ z), .int (iZ f), .int (iZ v), .int (iZ s_), .int (iZ hh), .int (iZ tl)] : List Value).toArray below meth c (MQ below (QI D kc (wl kc N ad S) (cQ kc N ad S (-1) (refB b 1)) s.heap.size) ([.ref (ad 0), .int (iZ z), .int (iZ f), .int (iZ v), .int (iZ s_), .int (iZ hh), .int (iZ tl)] : List Value).toArray s 0 0 (va_A (wl kc N ad S) s.heap.size)) D (va_A (wl kc N ad S) s.heap.size) 10 0 0 (wl kc N ad S) 0 [(0, .ref (ad 0)), (1, .int (iZ z)), (2, .int (iZ f)), (3, .int (iZ v)), (4, .int (iZ s_)), (5, .int (iZ hh)), (6, .int (iZ tl))] []
  have hP := hC.1
  have hW := hC.2.1
  have hEn := hC.2.2.1
  have hR := hC.2.2.2
  have hb0 := hI.1
  refine v_aload_n 0 0 C dX3_find_0 rfl ?_
  refine v_iload_n 1 1 C dX3_find_1 rfl ?_
  refine v_callq 2 hA (rV_Pg 2 C L_RX3_90 lk_244 lk_3 (m_partThere_no hg hN hI hP rz hp) (vg.o hg) rfl ⟨rfl, rfl⟩ (rm_ok rfl) dX3_find_2) (fun r1 w2 h3 => ?_)
  obtain ⟨e_r1, rfl⟩ := h3
  refine v_eqv .null (by rw [e_r1]; rfl) ?_
  refine v_astoreN 5 [(7, .null), (0, .ref (ad 0)), (1, .int (iZ z)), (2, .int (iZ f)), (3, .int (iZ v)), (4, .int (iZ s_)), (5, .int (iZ hh)), (6, .int (iZ tl))] C dX3_find_5 (by decide) rfl ?_
  refine v_aloadN 7 0 C dX3_find_7 rfl ?_
  refine v_ifnullN 9 20 C dX3_find_9 (by decide) ?_
  refine v_aload_n 20 1 C dX3_find_20 rfl ?_
  refine v_iconst 21 C (iZ (-1)) dX3_find_21 rfl ?_
  refine v_calli 22 hA (rV_Pg 22 C L_RX3_62 lk_252 lk_5 (m_refuse hg hN hI hP 1 (by decide) (by decide)) (vg.o hg) rfl ⟨rfl, rfl⟩ (rm_ok rfl) dX3_find_22) (fun r4 w5 h6 => ?_)
  obtain ⟨e_r4, rfl⟩ := h6
  refine v_eqi (iZ (-1)) (e_r4) ?_
  exact v_iret 25 C (⟨rfl, refS S b 1, t, rfl, refRC hC, refLE hE, refInv hI, refM⟩) dX3_find_25

set_option maxHeartbeats 4000000 in
set_option maxRecDepth 100000 in
theorem c_find_s {l : Launch} {D : va_G} {kc : Nat → ClassId} {N : Nat} {ad : Nat → Nat} {S : St} {b : Bs} {t : Ts} (hg : vg N) (hN : N = 66 + 15 * bn b) (hI : Inv b) (hC : RC S b t) (hE : LE b t) {k : Nat} (hk : k < bn b) (ht : b 8 k = 1) {s_ : Int} (rs : r32 s_) (hs : ¬ (0 ≤ s_ ∧ s_ < 17)) {f v hh tl : Int} (hf : b01 f) (rv : r32 v) (rh : r32 hh) (rt : r32 tl) : MetK l yX3_find cX3_find 10 (some FieldType.int) 6 0 0 149 D kc (wl kc N ad S) [.ref (ad 0), .int (iZ (k : Int)), .int (iZ f), .int (iZ v), .int (iZ s_), .int (iZ hh), .int (iZ tl)] (QI D kc (wl kc N ad S) (cQ kc N ad S (-1) (refB b 1))) := by
  refine MetK.of (by decide +kernel) (Nat.le_of_ble_eq_true rfl) ?_
  intro p e s m below meth c C
  have hA : ∀ q, s.heap.size ≤ q → va_A (wl kc N ad S) s.heap.size q := fun _ h => Or.inr h
  show V p l e { frames := 6, cells := 0, slots := 0, locals := 149 } s m ([.ref (ad 0), .int (iZ (k : Int)), .int (iZ f), .int (iZ v), .int (iZ s_), .int (iZ hh), .int (iZ tl)] : List Value).toArray below meth c (MQ below (QI D kc (wl kc N ad S) (cQ kc N ad S (-1) (refB b 1)) s.heap.size) ([.ref (ad 0), .int (iZ (k : Int)), .int (iZ f), .int (iZ v), .int (iZ s_), .int (iZ hh), .int (iZ tl)] : List Value).toArray s 0 0 (va_A (wl kc N ad S) s.heap.size)) D (va_A (wl kc N ad S) s.heap.size) 10 0 0 (wl kc N ad S) 0 [(0, .ref (ad 0)), (1, .int (iZ (k : Int))), (2, .int (iZ f)), (3, .int (iZ v)), (4, .int (iZ s_)), (5, .int (iZ hh)), (6, .int (iZ tl))] []
  have hP := hC.1
  have hW := hC.2.1
  have hEn := hC.2.2.1
  have hR := hC.2.2.2
  have hb0 := hI.1
  refine v_aload_n 0 0 C dX3_find_0 rfl ?_
  refine v_iload_n 1 1 C dX3_find_1 rfl ?_
  refine v_callq 2 hA (rV_Pg 2 C L_RX3_90 lk_244 lk_3 (m_partThere hg hN hI hP hk ht) (vg.o hg) rfl ⟨rfl, rfl⟩ (rm_ok rfl) dX3_find_2) (fun r1 w2 h3 => ?_)
  obtain ⟨e_r1, rfl⟩ := h3
  refine v_eqv (.ref (ad (66 + 15 * k))) (by rw [e_r1]; rfl) ?_
  refine v_astore 5 [(7, .ref (ad (66 + 15 * k))), (0, .ref (ad 0)), (1, .int (iZ (k : Int))), (2, .int (iZ f)), (3, .int (iZ v)), (4, .int (iZ s_)), (5, .int (iZ hh)), (6, .int (iZ tl))] C dX3_find_5 (by decide) rfl ?_
  refine v_aload 7 0 C dX3_find_7 rfl ?_
  refine v_ifnull 9 C dX3_find_9 ?_
  refine v_iload 12 5 C dX3_find_12 rfl ?_
  refine v_calli 14 hA (rS 14 C L_RX3_124 lk_371 (m_isStep (by first | assumption | exact ⟨by omega, by omega⟩)) rfl rfl (rm_ok rfl) dX3_find_14) (fun r4 w5 h6 => ?_)
  obtain ⟨e_r4, rfl⟩ := h6
  refine v_eqi (iZ (bz (decide (0 ≤ s_ ∧ s_ < 17)))) (e_r4) ?_
  refine z_if_ne 17 26 C (bzr _) dX3_find_17 (by decide) (fun c17_0 => absurd c17_0 (fun q => q (by rw [decide_eq_false hs]; rfl))) (fun c17_0 => ?_)
  refine v_aload_n 20 1 C dX3_find_20 rfl ?_
  refine v_iconst 21 C (iZ (-1)) dX3_find_21 rfl ?_
  refine v_calli 22 hA (rV_Pg 22 C L_RX3_62 lk_252 lk_5 (m_refuse hg hN hI hP 1 (by decide) (by decide)) (vg.o hg) rfl ⟨rfl, rfl⟩ (rm_ok rfl) dX3_find_22) (fun r7 w8 h9 => ?_)
  obtain ⟨e_r7, rfl⟩ := h9
  refine v_eqi (iZ (-1)) (e_r7) ?_
  exact v_iret 25 C (⟨rfl, refS S b 1, t, rfl, refRC hC, refLE hE, refInv hI, refM⟩) dX3_find_25

set_option maxHeartbeats 4000000 in
set_option maxRecDepth 100000 in
theorem c_find_4 {l : Launch} {D : va_G} {kc : Nat → ClassId} {N : Nat} {ad : Nat → Nat} {S : St} {b : Bs} {t : Ts} (hg : vg N) (hN : N = 66 + 15 * bn b) (hI : Inv b) (hC : RC S b t) (hE : LE b t) {k : Nat} (hk : k < bn b) (ht : b 8 k = 1) {j : Nat} (hj : j < 17) {f v hh tl : Int} (hf : b01 f) (rv : r32 v) (rh : r32 hh) (rt : r32 tl) (h4 : v < 0 ∨ tl < 0) : MetK l yX3_find cX3_find 10 (some FieldType.int) 6 0 0 149 D kc (wl kc N ad S) [.ref (ad 0), .int (iZ (k : Int)), .int (iZ f), .int (iZ v), .int (iZ (j : Int)), .int (iZ hh), .int (iZ tl)] (QI D kc (wl kc N ad S) (cQ kc N ad S (-4) (refB b 4))) := by
  refine MetK.of (by decide +kernel) (Nat.le_of_ble_eq_true rfl) ?_
  intro p e s m below meth c C
  have hA : ∀ q, s.heap.size ≤ q → va_A (wl kc N ad S) s.heap.size q := fun _ h => Or.inr h
  show V p l e { frames := 6, cells := 0, slots := 0, locals := 149 } s m ([.ref (ad 0), .int (iZ (k : Int)), .int (iZ f), .int (iZ v), .int (iZ (j : Int)), .int (iZ hh), .int (iZ tl)] : List Value).toArray below meth c (MQ below (QI D kc (wl kc N ad S) (cQ kc N ad S (-4) (refB b 4)) s.heap.size) ([.ref (ad 0), .int (iZ (k : Int)), .int (iZ f), .int (iZ v), .int (iZ (j : Int)), .int (iZ hh), .int (iZ tl)] : List Value).toArray s 0 0 (va_A (wl kc N ad S) s.heap.size)) D (va_A (wl kc N ad S) s.heap.size) 10 0 0 (wl kc N ad S) 0 [(0, .ref (ad 0)), (1, .int (iZ (k : Int))), (2, .int (iZ f)), (3, .int (iZ v)), (4, .int (iZ (j : Int))), (5, .int (iZ hh)), (6, .int (iZ tl))] []
  have hP := hC.1
  have hW := hC.2.1
  have hEn := hC.2.2.1
  have hR := hC.2.2.2
  have hb0 := hI.1
  refine v_aload_n 0 0 C dX3_find_0 rfl ?_
  refine v_iload_n 1 1 C dX3_find_1 rfl ?_
  refine v_callq 2 hA (rV_Pg 2 C L_RX3_90 lk_244 lk_3 (m_partThere hg hN hI hP hk ht) (vg.o hg) rfl ⟨rfl, rfl⟩ (rm_ok rfl) dX3_find_2) (fun r1 w2 h3 => ?_)
  obtain ⟨e_r1, rfl⟩ := h3
  refine v_eqv (.ref (ad (66 + 15 * k))) (by rw [e_r1]; rfl) ?_
  refine v_astore 5 [(7, .ref (ad (66 + 15 * k))), (0, .ref (ad 0)), (1, .int (iZ (k : Int))), (2, .int (iZ f)), (3, .int (iZ v)), (4, .int (iZ (j : Int))), (5, .int (iZ hh)), (6, .int (iZ tl))] C dX3_find_5 (by decide) rfl ?_
  refine v_aload 7 0 C dX3_find_7 rfl ?_
  refine v_ifnull 9 C dX3_find_9 ?_
  refine v_iload 12 5 C dX3_find_12 rfl ?_
  refine v_calli 14 hA (rS 14 C L_RX3_124 lk_371 (m_isStep (by first | assumption | exact ⟨by omega, by omega⟩)) rfl rfl (rm_ok rfl) dX3_find_14) (fun r4 w5 h6 => ?_)
  obtain ⟨e_r4, rfl⟩ := h6
  refine v_eqi (iZ (bz (decide (0 ≤ (j : Int) ∧ (j : Int) < 17)))) (e_r4) ?_
  refine z_if_ne 17 26 C (bzr _) dX3_find_17 (by decide) (fun c17_0 => ?_) (fun c17_0 => absurd c17_0 (by rw [decide_eq_true (show 0 ≤ (j : Int) ∧ (j : Int) < 17 by omega)]; decide))
  refine v_iload_n 26 4 C dX3_find_26 rfl ?_
  refine z_if_lt 27 35 C (by first | assumption | exact ⟨by omega, by omega⟩) dX3_find_27 (by decide) (fun c27_1 => ?_) (fun c27_1 => ?_)
  · skip
    refine v_aload_n 35 1 C dX3_find_35 rfl ?_
    refine v_bipush 36 C (iZ (-4)) dX3_find_36 (by decide) ?_
    refine v_calli 38 hA (rV_Pg 38 C L_RX3_62 lk_252 lk_5 (m_refuse hg hN hI hP 4 (by decide) (by decide)) (vg.o hg) rfl ⟨rfl, rfl⟩ (rm_ok rfl) dX3_find_38) (fun r7 w8 h9 => ?_)
    obtain ⟨e_r7, rfl⟩ := h9
    refine v_eqi (iZ (-4)) (e_r7) ?_
    exact v_iret 41 C (⟨rfl, refS S b 4, t, rfl, refRC hC, refLE hE, refInv hI, refM⟩) dX3_find_41
  · skip
    refine v_iload 30 7 C dX3_find_30 rfl ?_
    refine z_if_ge 32 42 C (by first | assumption | exact ⟨by omega, by omega⟩) dX3_find_32 (by decide) (fun c32_2 => absurd c32_2 (by omega)) (fun c32_2 => ?_)
    refine v_aload_n 35 1 C dX3_find_35 rfl ?_
    refine v_bipush 36 C (iZ (-4)) dX3_find_36 (by decide) ?_
    refine v_calli 38 hA (rV_Pg 38 C L_RX3_62 lk_252 lk_5 (m_refuse hg hN hI hP 4 (by decide) (by decide)) (vg.o hg) rfl ⟨rfl, rfl⟩ (rm_ok rfl) dX3_find_38) (fun r10 w11 h12 => ?_)
    obtain ⟨e_r10, rfl⟩ := h12
    refine v_eqi (iZ (-4)) (e_r10) ?_
    exact v_iret 41 C (⟨rfl, refS S b 4, t, rfl, refRC hC, refLE hE, refInv hI, refM⟩) dX3_find_41

set_option maxHeartbeats 4000000 in
set_option maxRecDepth 100000 in
theorem c_find_6 {l : Launch} {D : va_G} {kc : Nat → ClassId} {N : Nat} {ad : Nat → Nat} {S : St} {b : Bs} {t : Ts} (hg : vg N) (hN : N = 66 + 15 * bn b) (hI : Inv b) (hC : RC S b t) (hE : LE b t) {k : Nat} (hk : k < bn b) (ht : b 8 k = 1) {j : Nat} (hj : j < 17) {f v hh tl : Int} (hf : b01 f) (rv : r32 v) (rh : r32 hh) (rt : r32 tl) (h4 : 0 ≤ v ∧ 0 ≤ tl) (h6 : szL b (hgU b k f) < v) : MetK l yX3_find cX3_find 10 (some FieldType.int) 6 0 0 149 D kc (wl kc N ad S) [.ref (ad 0), .int (iZ (k : Int)), .int (iZ f), .int (iZ v), .int (iZ (j : Int)), .int (iZ hh), .int (iZ tl)] (QI D kc (wl kc N ad S) (cQ kc N ad S (-6) (refB b 6))) := by
  refine MetK.of (by decide +kernel) (Nat.le_of_ble_eq_true rfl) ?_
  intro p e s m below meth c C
  have hA : ∀ q, s.heap.size ≤ q → va_A (wl kc N ad S) s.heap.size q := fun _ h => Or.inr h
  show V p l e { frames := 6, cells := 0, slots := 0, locals := 149 } s m ([.ref (ad 0), .int (iZ (k : Int)), .int (iZ f), .int (iZ v), .int (iZ (j : Int)), .int (iZ hh), .int (iZ tl)] : List Value).toArray below meth c (MQ below (QI D kc (wl kc N ad S) (cQ kc N ad S (-6) (refB b 6)) s.heap.size) ([.ref (ad 0), .int (iZ (k : Int)), .int (iZ f), .int (iZ v), .int (iZ (j : Int)), .int (iZ hh), .int (iZ tl)] : List Value).toArray s 0 0 (va_A (wl kc N ad S) s.heap.size)) D (va_A (wl kc N ad S) s.heap.size) 10 0 0 (wl kc N ad S) 0 [(0, .ref (ad 0)), (1, .int (iZ (k : Int))), (2, .int (iZ f)), (3, .int (iZ v)), (4, .int (iZ (j : Int))), (5, .int (iZ hh)), (6, .int (iZ tl))] []
  have hP := hC.1
  have hW := hC.2.1
  have hEn := hC.2.2.1
  have hR := hC.2.2.2
  have hb0 := hI.1
  have J := hI.2.2.2.1 k hk
  have hr := hP.2.2.2.2.2 k hk
  have J0 := hI.2.2.2.2 k hk (2 * k) (Or.inl rfl)
  have J1 := hI.2.2.2.2 k hk (2 * k + 1) (Or.inr rfl)
  have hle : (if b 3 k = 1 then (1 : Int) else 0) = if b 3 k = 1 then 1 else 0 := rfl
  have hu : thL b (hgU b k f) := by
    unfold hgU
    split
    · exact J1.2.2.2 ht
    · exact J0.2.2.2 ht
  have hsz := szL_b hI hu
  have heu : (if f = 0 then b 4 (2 * k + 1) else b 4 (2 * k)) = ((hgU b k f : Nat) : Int) := by
    unfold hgU
    split <;> omega
  refine v_aload_n 0 0 C dX3_find_0 rfl ?_
  refine v_iload_n 1 1 C dX3_find_1 rfl ?_
  refine v_callq 2 hA (rV_Pg 2 C L_RX3_90 lk_244 lk_3 (m_partThere hg hN hI hP hk ht) (vg.o hg) rfl ⟨rfl, rfl⟩ (rm_ok rfl) dX3_find_2) (fun r1 w2 h3 => ?_)
  obtain ⟨e_r1, rfl⟩ := h3
  refine v_eqv (.ref (ad (66 + 15 * k))) (by rw [e_r1]; rfl) ?_
  refine v_astore 5 [(7, .ref (ad (66 + 15 * k))), (0, .ref (ad 0)), (1, .int (iZ (k : Int))), (2, .int (iZ f)), (3, .int (iZ v)), (4, .int (iZ (j : Int))), (5, .int (iZ hh)), (6, .int (iZ tl))] C dX3_find_5 (by decide) rfl ?_
  refine v_aload 7 0 C dX3_find_7 rfl ?_
  refine v_ifnull 9 C dX3_find_9 ?_
  refine v_iload 12 5 C dX3_find_12 rfl ?_
  refine v_calli 14 hA (rS 14 C L_RX3_124 lk_371 (m_isStep (by first | assumption | exact ⟨by omega, by omega⟩)) rfl rfl (rm_ok rfl) dX3_find_14) (fun r4 w5 h6 => ?_)
  obtain ⟨e_r4, rfl⟩ := h6
  refine v_eqi (iZ (bz (decide (0 ≤ (j : Int) ∧ (j : Int) < 17)))) (e_r4) ?_
  refine z_if_ne 17 26 C (bzr _) dX3_find_17 (by decide) (fun c17_0 => ?_) (fun c17_0 => absurd c17_0 (by rw [decide_eq_true (show 0 ≤ (j : Int) ∧ (j : Int) < 17 by omega)]; decide))
  refine v_iload_n 26 4 C dX3_find_26 rfl ?_
  refine z_if_lt 27 35 C (by first | assumption | exact ⟨by omega, by omega⟩) dX3_find_27 (by decide) (fun c27_1 => absurd c27_1 (by omega)) (fun c27_1 => ?_)
  refine v_iload 30 7 C dX3_find_30 rfl ?_
  refine z_if_ge 32 42 C (by first | assumption | exact ⟨by omega, by omega⟩) dX3_find_32 (by decide) (fun c32_2 => ?_) (fun c32_2 => absurd (by omega) c32_2)
  refine v_aload_n 42 1 C dX3_find_42 rfl ?_
  refine v_aload 43 0 C dX3_find_43 rfl ?_
  refine v_iload_n 45 3 C dX3_find_45 rfl ?_
  refine v_calli 46 hA (rV_Pt 46 C L_RX3_107 lk_350 lk_351 (m_planeOf (vp_k hN hk) ⟨by omega, by omega⟩ hr.2.1 hr.2.2.2.1) (vp.o (vp_k hN hk)) rfl ⟨rfl, rfl⟩ (rm_ok rfl) dX3_find_46) (fun PO w7 h8 => ?_)
  obtain ⟨e_PO, rfl⟩ := h8
  refine v_eqi (iZ ((hgU b k f : Nat) : Int)) (by rw [e_PO, heu]) ?_
  refine v_calli 49 hA (rV_Pg 49 C L_RX3_111 lk_355 lk_14 (m_sizeOf hg hN hI hP hu) (vg.o hg) rfl ⟨rfl, rfl⟩ (rm_ok rfl) dX3_find_49) (fun r9 w10 h11 => ?_)
  obtain ⟨e_r9, rfl⟩ := h11
  refine v_eqi (iZ (szL b (hgU b k f))) (e_r9) ?_
  refine v_istore 52 [(8, .int (iZ (szL b (hgU b k f)))), (7, .ref (ad (66 + 15 * k))), (0, .ref (ad 0)), (1, .int (iZ (k : Int))), (2, .int (iZ f)), (3, .int (iZ v)), (4, .int (iZ (j : Int))), (5, .int (iZ hh)), (6, .int (iZ tl))] C dX3_find_52 (by decide) rfl ?_
  refine v_iload_n 54 5 C dX3_find_54 rfl ?_
  refine v_iload 55 0 C dX3_find_55 rfl ?_
  refine z_icmp_le 57 67 C (by first | assumption | exact ⟨by omega, by omega⟩) (by first | assumption | exact ⟨by omega, by omega⟩) dX3_find_57 (by decide) (fun c57_3 => absurd c57_3 (by omega)) (fun c57_3 => ?_)
  refine v_aload_n 60 2 C dX3_find_60 rfl ?_
  refine v_bipush 61 C (iZ (-6)) dX3_find_61 (by decide) ?_
  refine v_calli 63 hA (rV_Pg 63 C L_RX3_62 lk_252 lk_5 (m_refuse hg hN hI hP 6 (by decide) (by decide)) (vg.o hg) rfl ⟨rfl, rfl⟩ (rm_ok rfl) dX3_find_63) (fun r12 w13 h14 => ?_)
  obtain ⟨e_r12, rfl⟩ := h14
  refine v_eqi (iZ (-6)) (e_r12) ?_
  exact v_iret 66 C (⟨rfl, refS S b 6, t, rfl, refRC hC, refLE hE, refInv hI, refM⟩) dX3_find_66

set_option maxHeartbeats 4000000 in
set_option maxRecDepth 100000 in
theorem c_find {l : Launch} {D : va_G} {kc : Nat → ClassId} {N : Nat} {ad : Nat → Nat} {S : St} {b : Bs} {t : Ts} (hg : vg N) (hN : N = 66 + 15 * bn b) (hI : Inv b) (hC : RC S b t) (hE : LE b t) {k : Nat} (hk : k < bn b) (ht : b 8 k = 1) {j : Nat} (hj : j < 17) {f v hh tl : Int} (hf : b01 f) (rv : r32 v) (rh : r32 hh) (rt : r32 tl) (h4 : 0 ≤ v ∧ 0 ≤ tl) (h6 : v ≤ szL b (hgU b k f)) : MetK l yX3_find cX3_find 10 (some FieldType.int) 6 0 0 149 D kc (wl kc N ad S) [.ref (ad 0), .int (iZ (k : Int)), .int (iZ f), .int (iZ v), .int (iZ (j : Int)), .int (iZ hh), .int (iZ tl)] (QI D kc (wl kc N ad S) (cQ kc N ad S (fdR b t k f j hh tl v) (b))) := by
  refine MetK.of (by decide +kernel) (Nat.le_of_ble_eq_true rfl) ?_
  intro p e s m below meth c C
  have hA : ∀ q, s.heap.size ≤ q → va_A (wl kc N ad S) s.heap.size q := fun _ h => Or.inr h
  show V p l e { frames := 6, cells := 0, slots := 0, locals := 149 } s m ([.ref (ad 0), .int (iZ (k : Int)), .int (iZ f), .int (iZ v), .int (iZ (j : Int)), .int (iZ hh), .int (iZ tl)] : List Value).toArray below meth c (MQ below (QI D kc (wl kc N ad S) (cQ kc N ad S (fdR b t k f j hh tl v) (b)) s.heap.size) ([.ref (ad 0), .int (iZ (k : Int)), .int (iZ f), .int (iZ v), .int (iZ (j : Int)), .int (iZ hh), .int (iZ tl)] : List Value).toArray s 0 0 (va_A (wl kc N ad S) s.heap.size)) D (va_A (wl kc N ad S) s.heap.size) 10 0 0 (wl kc N ad S) 0 [(0, .ref (ad 0)), (1, .int (iZ (k : Int))), (2, .int (iZ f)), (3, .int (iZ v)), (4, .int (iZ (j : Int))), (5, .int (iZ hh)), (6, .int (iZ tl))] []
  have hP := hC.1
  have hW := hC.2.1
  have hEn := hC.2.2.1
  have hR := hC.2.2.2
  have hb0 := hI.1
  have J := hI.2.2.2.1 k hk
  have hr := hP.2.2.2.2.2 k hk
  have J0 := hI.2.2.2.2 k hk (2 * k) (Or.inl rfl)
  have J1 := hI.2.2.2.2 k hk (2 * k + 1) (Or.inr rfl)
  have hle : (if b 3 k = 1 then (1 : Int) else 0) = if b 3 k = 1 then 1 else 0 := rfl
  have hu : thL b (hgU b k f) := by
    unfold hgU
    split
    · exact J1.2.2.2 ht
    · exact J0.2.2.2 ht
  have hsz := szL_b hI hu
  have heu : (if f = 0 then b 4 (2 * k + 1) else b 4 (2 * k)) = ((hgU b k f : Nat) : Int) := by
    unfold hgU
    split <;> omega
  have hfxs : (fdX b k v : Int) ≤ szL b (hgU b k f) := by
    unfold fdX
    split <;> omega
  have loop : ∀ (d x : Nat) (S1 : St), x + d = (szL b (hgU b k f)).toNat + 1 → fdX b k v ≤ x → TI S1 b k f → sameOn usedC S S1 → sameOn atM S S1 → frF (fdP b t k f j hh tl) d x = fdR b t k f j hh tl v → V p l e { frames := 6, cells := 0, slots := 0, locals := 149 } s m ([.ref (ad 0), .int (iZ (k : Int)), .int (iZ f), .int (iZ v), .int (iZ (j : Int)), .int (iZ hh), .int (iZ tl)] : List Value).toArray below meth c (MQ below (QI D kc (wl kc N ad S) (cQ kc N ad S (fdR b t k f j hh tl v) (b)) s.heap.size) ([.ref (ad 0), .int (iZ (k : Int)), .int (iZ f), .int (iZ v), .int (iZ (j : Int)), .int (iZ hh), .int (iZ tl)] : List Value).toArray s 0 0 (va_A (wl kc N ad S) s.heap.size)) D (va_A (wl kc N ad S) s.heap.size) 10 0 0 (wl kc N ad S1) 87 [(9, .int (iZ (x : Int))), (8, .int (iZ (szL b (hgU b k f)))), (7, .ref (ad (66 + 15 * k))), (6, .int (iZ tl)), (5, .int (iZ hh)), (4, .int (iZ (j : Int))), (3, .int (iZ v)), (2, .int (iZ f)), (1, .int (iZ (k : Int))), (0, .ref (ad 0))] [] := by
    intro d
    induction d with
    | zero =>
      intro x S1 hx hxs hT hu1 hm1 hf1
      refine v_iload 87 0 C dX3_find_87 rfl ?_
      refine v_iload 89 1 C dX3_find_89 rfl ?_
      refine z_icmp_gt 91 139 C (by first | assumption | exact ⟨by omega, by omega⟩) (by first | assumption | exact ⟨by omega, by omega⟩) dX3_find_91 (by decide) (fun c91_0 => ?_) (fun c91_0 => absurd (by omega) c91_0)
      refine v_bipush 139 C (iZ (-9)) dX3_find_139 (by decide) ?_
      exact v_iret 141 C (⟨by rw [← hf1]; rfl, S1, t, rfl, hC.keep2 hu1, hE, hI, hm1⟩) dX3_find_141
    | succ d ih =>
      intro x S1 hx hxs hT hu1 hm1 hf1
      obtain ⟨⟨k5, k6, k8, k10⟩, a, b_, c_, d_, ⟨k7, k9, k13, k14⟩, ta, tb, tc⟩ := hT
      have hx1000 : (x : Int) ≤ 1000 := by omega
      have hfx : max v (if b 3 k = 1 then 1 else 0) = (fdX b k v : Int) := by unfold fdX; omega
      have h1x : b 3 k = 1 → 1 ≤ x := fun q => by rw [if_pos q] at hfx; omega
      have hv := hgInv (f := f) hI hk (v := (x : Int)) ⟨by omega, hx1000⟩ (fun q => by have := h1x q; omega)
      have e5 := hgB_5 (b := b) (k := k) (f := f) (v := (x : Int))
      have e6 := hgB_6 hI hk (f := f) (v := (x : Int))
      have ec : (if b 3 k = 1 then (if f = 0 then (x : Int) else b_) else c_) = hgB b k f x 6 (2 * k) := by
        rw [e6.1]
        by_cases z : b 3 k = 1
        · rw [if_pos z, if_pos z]
          by_cases y : f = 0
          · rw [if_pos y, if_pos y]
          · rw [if_neg y, if_neg y, tb y]
        · rw [if_neg z, if_neg z, (tc z).1]
      have ed : (if b 3 k = 1 then (if f = 0 then a else (x : Int)) else d_) = hgB b k f x 6 (2 * k + 1) := by
        rw [e6.2]
        by_cases z : b 3 k = 1
        · rw [if_pos z, if_pos z]
          by_cases y : f = 0
          · rw [if_pos y, if_pos y, ta y]
          · rw [if_neg y, if_neg y]
        · rw [if_neg z, if_neg z, (tc z).2]
      have V0 := hv.2.2.2.2 k (by rw [hgB_bn]; exact hk) (2 * k) (Or.inl rfl)
      have V1 := hv.2.2.2.2 k (by rw [hgB_bn]; exact hk) (2 * k + 1) (Or.inr rfl)
      have nU : ∀ m, 4 ≤ m → m ≤ 18 → ¬ usedC m := fun m z1 z2 z => by unfold usedC at z; omega
      have nM : ∀ m, 4 ≤ m → m ≤ 18 → ¬ atM m := fun m z1 z2 => nM_lo (by omega)
      refine v_iload 87 0 C dX3_find_87 rfl ?_
      refine v_iload 89 1 C dX3_find_89 rfl ?_
      refine z_icmp_gt 91 139 C (by first | assumption | exact ⟨by omega, by omega⟩) (by first | assumption | exact ⟨by omega, by omega⟩) dX3_find_91 (by decide) (fun c91_0 => absurd c91_0 (by omega)) (fun c91_0 => ?_)
      refine v_aload_n 94 9 C dX3_find_94 rfl ?_
      refine g_Pg_trial 95 C (vg.o hg).1 (vg.o hg).2 lk_212 dX3_find_95 ?_
      refine v_iload_n 98 7 C dX3_find_98 rfl ?_
      refine v_iload 99 0 C dX3_find_99 rfl ?_
      refine v_callv 101 hA (rV_Pt 101 C L_RX3_117 lk_362 lk_363 (m_rehang (vg.t hg) ⟨by omega, by omega⟩ ⟨by omega, by omega⟩ k5 k7 k9 k13 k14) (vp.o (vg.t hg)) rfl ⟨rfl, rfl⟩ (rm_ok rfl) dX3_find_101) (fun w2 h3 => ?_)
      obtain rfl := h3
      rw [ec, ed]
      obtain ⟨S2, hS2⟩ : ∃ S2, S2 = (rehT S1 4 f x (hgB b k f x 6 (2 * k)) (hgB b k f x 6 (2 * k + 1))) := ⟨_, rfl⟩
      rw [← hS2]
      have u2 : sameOn usedC S S2 := by rw [hS2]; exact hu1.tr (same_reh (nU _ (by decide) (by decide)) (nU _ (by decide) (by decide)) (nU _ (by decide) (by decide)))
      have m2 : sameOn atM S S2 := by rw [hS2]; exact hm1.tr (same_reh (nM _ (by decide) (by decide)) (nM _ (by decide) (by decide)) (nM _ (by decide) (by decide)))
      have C2 := hC.keep2 u2
      have z5 : gI S2 4 5 = iZ (b 3 k) := by rw [hS2, reh_o (by omega) (by omega) (by omega)]; exact k5
      have z6 : gI S2 4 6 = iZ (b 4 (2 * k)) := by rw [hS2, reh_o (by omega) (by omega) (by omega)]; exact k6
      have z8 : gI S2 4 8 = iZ (b 4 (2 * k + 1)) := by rw [hS2, reh_o (by omega) (by omega) (by omega)]; exact k8
      have z10 : gI S2 4 10 = iZ (b 7 k) := by rw [hS2, reh_o (by omega) (by omega) (by omega)]; exact k10
      have z7 : gI S2 4 7 = iZ (hgB b k f x 5 (2 * k)) := by
        rw [hS2, reh_7, e5.1]
        split
        · rename_i y; rw [k7, ta y]
        · rfl
      have z9 : gI S2 4 9 = iZ (hgB b k f x 5 (2 * k + 1)) := by
        rw [hS2, reh_9, e5.2]
        split
        · rfl
        · rename_i y; rw [k9, tb y]
      have z13 : gI S2 (4 + 13) 4 = iZ (hgB b k f x 6 (2 * k)) := by rw [hS2]; exact reh_13
      have z14 : gI S2 (4 + 14) 4 = iZ (hgB b k f x 6 (2 * k + 1)) := by rw [hS2]; exact reh_14
      have hp1 : iZ (b 4 (2 * k)) = iZ (((b 4 (2 * k)).toNat : Nat) : Int) := by congr 1; omega
      have hq1 : iZ (b 4 (2 * k + 1)) = iZ (((b 4 (2 * k + 1)).toNat : Nat) : Int) := by congr 1; omega
      have uF : ∀ u, thL b u → 2 ≤ u → RT1 S2 t (u / 2 - 1) j ∧ BD1 b t (u / 2 - 1) j ∧ b01 (t 4 (u / 2 - 1) j) := fun u hu q => ⟨C2.2.2.2 _ (thL_lt hu q).1 (thL_lt hu q).1 (thL_lt hu q).2 j hj, LE_bd hI hE _ _ (Nat.lt_succ_self _) (thL_lt hu q).1 (thL_lt hu q).1 (thL_lt hu q).2 j hj, (hE _ (thL_lt hu q).1 (thL_lt hu q).1 (thL_lt hu q).2 j hj).1⟩
      refine v_aload_n 104 9 C dX3_find_104 rfl ?_
      refine v_aload_n 105 9 C dX3_find_105 rfl ?_
      refine g_Pg_trial 106 C (vg.o hg).1 (vg.o hg).2 lk_212 dX3_find_106 ?_
      refine v_iload 109 5 C dX3_find_109 rfl ?_
      refine v_callv 111 hA (rV_Pg 111 C L_RX3_187 lk_317 lk_12 (m_settle hg hN hI C2.1 (vg.t hg) C2.2.1 hj (Or.inl rfl) (J0.2.2.2 ht) (J1.2.2.2 ht) V0.2.1 V1.2.1 V0.2.2.1 V1.2.2.1 J.2.1 (z6.trans hp1) z7 (z8.trans hq1) z9 z10 z13 z14 (uF _ (J0.2.2.2 ht)) (uF _ (J1.2.2.2 ht))) (vg.o hg) rfl ⟨rfl, rfl⟩ (rm_ok rfl) dX3_find_111) (fun w5 h6 => ?_)
      obtain ⟨S3, v3, rfl, hQ⟩ := h6
      obtain ⟨y, by3, ey3, fd3⟩ := fd_set (hh := hh) (tl := tl) hI hk hj hx1000 h1x (fun q => (uF _ (J0.2.2.2 ht) q).2.1) ht hQ
      have w3 := hQ.1
      have T3 : TI S3 b k f := by
        refine ⟨⟨(w3.1 _ _).1.trans z5, (w3.1 _ _).1.trans z6, (w3.1 _ _).1.trans z8, (w3.1 _ _).1.trans z10⟩, _, _, _, _, ⟨(w3.1 _ _).1.trans z7, (w3.1 _ _).1.trans z9, (w3.1 _ _).1.trans z13, (w3.1 _ _).1.trans z14⟩, fun y => ?_, fun y => ?_, fun y => ⟨?_, ?_⟩⟩
        · rw [e5.1, if_pos y]
        · rw [e5.2, if_neg y]
        · rw [e6.1, if_neg y]
        · rw [e6.2, if_neg y]
      have u3 : sameOn usedC S S3 := u2.tr (same_Wr w3 (fun m z1 z2 => nU m (by omega) (by omega)))
      have m3 : sameOn atM S S3 := m2.tr (same_Wr w3 (fun m z1 z2 => nM m (by omega) (by omega)))
      refine v_aload_n 114 9 C dX3_find_114 rfl ?_
      refine g_Pg_trial 115 C (vg.o hg).1 (vg.o hg).2 lk_212 dX3_find_115 ?_
      refine v_iload 118 5 C dX3_find_118 rfl ?_
      refine v_iload 120 4 C dX3_find_120 rfl ?_
      refine v_iload 122 3 C dX3_find_122 rfl ?_
      refine v_calli 124 hA (rV_Pt 124 C L_RX3_191 lk_474 lk_475 (m_near (vg.t hg) hj hQ.2.1 hQ.2.2.1 ey3 by3 rh rt) (vp.o (vg.t hg)) rfl ⟨rfl, rfl⟩ (rm_ok rfl) dX3_find_124) (fun NR w7 h8 => ?_)
      obtain ⟨e_NR, rfl⟩ := h8
      refine v_eqi (iZ (bz (fdP b t k f j hh tl x))) (by rw [e_NR, fd3]) ?_
      refine z_if_eq 127 133 C (bzr _) dX3_find_127 (by decide) (fun c127_1 => ?_) (fun c127_1 => ?_)
      · skip
        refine v_iinc 133 0 (iZ ((x + 1 : Nat) : Int)) [(9, .int (iZ ((x + 1 : Nat) : Int))), (8, .int (iZ (szL b (hgU b k f)))), (7, .ref (ad (66 + 15 * k))), (6, .int (iZ tl)), (5, .int (iZ hh)), (4, .int (iZ (j : Int))), (3, .int (iZ v)), (2, .int (iZ f)), (1, .int (iZ (k : Int))), (0, .ref (ad 0))] C dX3_find_133 rfl (iZ_add _ _) (by decide) rfl ?_
        refine v_goto 136 87 C dX3_find_136 (by decide) ?_
        refine v_sub [0, 1, 2, 3, 4, 5, 6, 7, 8, 9] rfl ?_
        exact ih (x + 1) S3 (by omega) (by omega) T3 u3 m3 (by rw [← hf1, frF, if_neg (by rw [bz_eq c127_1]; decide)])
      · skip
        refine v_iload 130 0 C dX3_find_130 rfl ?_
        exact v_iret 132 C (⟨by rw [← hf1, frF, if_pos (bz_ne c127_1)], S3, t, rfl, hC.keep2 u3, hE, hI, m3⟩) dX3_find_132
  refine v_aload_n 0 0 C dX3_find_0 rfl ?_
  refine v_iload_n 1 1 C dX3_find_1 rfl ?_
  refine v_callq 2 hA (rV_Pg 2 C L_RX3_90 lk_244 lk_3 (m_partThere hg hN hI hP hk ht) (vg.o hg) rfl ⟨rfl, rfl⟩ (rm_ok rfl) dX3_find_2) (fun r9 w10 h11 => ?_)
  obtain ⟨e_r9, rfl⟩ := h11
  refine v_eqv (.ref (ad (66 + 15 * k))) (by rw [e_r9]; rfl) ?_
  refine v_astore 5 [(7, .ref (ad (66 + 15 * k))), (0, .ref (ad 0)), (1, .int (iZ (k : Int))), (2, .int (iZ f)), (3, .int (iZ v)), (4, .int (iZ (j : Int))), (5, .int (iZ hh)), (6, .int (iZ tl))] C dX3_find_5 (by decide) rfl ?_
  refine v_aload 7 0 C dX3_find_7 rfl ?_
  refine v_ifnull 9 C dX3_find_9 ?_
  refine v_iload 12 5 C dX3_find_12 rfl ?_
  refine v_calli 14 hA (rS 14 C L_RX3_124 lk_371 (m_isStep (by first | assumption | exact ⟨by omega, by omega⟩)) rfl rfl (rm_ok rfl) dX3_find_14) (fun r12 w13 h14 => ?_)
  obtain ⟨e_r12, rfl⟩ := h14
  refine v_eqi (iZ (bz (decide (0 ≤ (j : Int) ∧ (j : Int) < 17)))) (e_r12) ?_
  refine z_if_ne 17 26 C (bzr _) dX3_find_17 (by decide) (fun c17_0 => ?_) (fun c17_0 => absurd c17_0 (by rw [decide_eq_true (show 0 ≤ (j : Int) ∧ (j : Int) < 17 by omega)]; decide))
  refine v_iload_n 26 4 C dX3_find_26 rfl ?_
  refine z_if_lt 27 35 C (by first | assumption | exact ⟨by omega, by omega⟩) dX3_find_27 (by decide) (fun c27_1 => absurd c27_1 (by omega)) (fun c27_1 => ?_)
  refine v_iload 30 7 C dX3_find_30 rfl ?_
  refine z_if_ge 32 42 C (by first | assumption | exact ⟨by omega, by omega⟩) dX3_find_32 (by decide) (fun c32_2 => ?_) (fun c32_2 => absurd (by omega) c32_2)
  refine v_aload_n 42 1 C dX3_find_42 rfl ?_
  refine v_aload 43 0 C dX3_find_43 rfl ?_
  refine v_iload_n 45 3 C dX3_find_45 rfl ?_
  refine v_calli 46 hA (rV_Pt 46 C L_RX3_107 lk_350 lk_351 (m_planeOf (vp_k hN hk) ⟨by omega, by omega⟩ hr.2.1 hr.2.2.2.1) (vp.o (vp_k hN hk)) rfl ⟨rfl, rfl⟩ (rm_ok rfl) dX3_find_46) (fun PO w15 h16 => ?_)
  obtain ⟨e_PO, rfl⟩ := h16
  refine v_eqi (iZ ((hgU b k f : Nat) : Int)) (by rw [e_PO, heu]) ?_
  refine v_calli 49 hA (rV_Pg 49 C L_RX3_111 lk_355 lk_14 (m_sizeOf hg hN hI hP hu) (vg.o hg) rfl ⟨rfl, rfl⟩ (rm_ok rfl) dX3_find_49) (fun r17 w18 h19 => ?_)
  obtain ⟨e_r17, rfl⟩ := h19
  refine v_eqi (iZ (szL b (hgU b k f))) (e_r17) ?_
  refine v_istore 52 [(8, .int (iZ (szL b (hgU b k f)))), (7, .ref (ad (66 + 15 * k))), (0, .ref (ad 0)), (1, .int (iZ (k : Int))), (2, .int (iZ f)), (3, .int (iZ v)), (4, .int (iZ (j : Int))), (5, .int (iZ hh)), (6, .int (iZ tl))] C dX3_find_52 (by decide) rfl ?_
  refine v_iload_n 54 5 C dX3_find_54 rfl ?_
  refine v_iload 55 0 C dX3_find_55 rfl ?_
  refine z_icmp_le 57 67 C (by first | assumption | exact ⟨by omega, by omega⟩) (by first | assumption | exact ⟨by omega, by omega⟩) dX3_find_57 (by decide) (fun c57_3 => ?_) (fun c57_3 => absurd (by omega) c57_3)
  refine v_aload_n 67 2 C dX3_find_67 rfl ?_
  refine g_Pg_trial 68 C (vg.o hg).1 (vg.o hg).2 lk_212 dX3_find_68 ?_
  refine v_aload 71 1 C dX3_find_71 rfl ?_
  refine v_callv 73 hA (rV_Pt 73 C L_RX3_183 lk_303 lk_304 (m_likenTo (vg.t hg) (vp_k hN hk) (by omega) hr.1 hr.2.1 hr.2.2.1 hr.2.2.2.1 hr.2.2.2.2.1 hr.2.2.2.2.2.1 hr.2.2.2.2.2.2.2.1 hr.2.2.2.2.2.2.2.2 J.2.1) (vp.o (vg.t hg)) rfl ⟨rfl, rfl⟩ (rm_ok rfl) dX3_find_73) (fun w21 h22 => ?_)
  obtain rfl := h22
  refine v_iload_n 76 5 C dX3_find_76 rfl ?_
  refine v_aload 77 1 C dX3_find_77 rfl ?_
  refine v_calli 79 hA (rV_Pt 79 C L_RX3_104 lk_275 lk_276 (m_least (vp_k hN hk) ⟨by omega, by omega⟩ ((same_like (P := fun i => 66 ≤ i) (by omega) (by omega) (by omega) _ (by omega) _).1.trans hr.1)) (vp.o (vp_k hN hk)) rfl ⟨rfl, rfl⟩ (rm_ok rfl) dX3_find_79) (fun r23 w24 h25 => ?_)
  obtain ⟨e_r23, rfl⟩ := h25
  refine v_eqi (iZ (if b 3 k = 1 then 1 else 0)) (e_r23) ?_
  refine v_mmax 82 C lk_452 ⟨Nat.le_of_ble_eq_true rfl, Nat.le_of_ble_eq_true rfl, Nat.le_of_ble_eq_true rfl, Nat.le_of_ble_eq_true rfl⟩ dX3_find_82 ?_
  refine v_eqi (iZ (max v (if b 3 k = 1 then 1 else 0))) (mmax_z (by assumption) (by split <;> decide)) ?_
  refine v_eqi (iZ (fdX b k v : Int)) (by unfold fdX; congr 1; omega) ?_
  refine v_istore 85 [(9, .int (iZ (fdX b k v : Int))), (8, .int (iZ (szL b (hgU b k f)))), (7, .ref (ad (66 + 15 * k))), (0, .ref (ad 0)), (1, .int (iZ (k : Int))), (2, .int (iZ f)), (3, .int (iZ v)), (4, .int (iZ (j : Int))), (5, .int (iZ hh)), (6, .int (iZ tl))] C dX3_find_85 (by decide) rfl ?_
  refine v_sub [0, 1, 2, 9, 8, 7, 6, 5, 4, 3] rfl ?_
  exact loop ((szL b (hgU b k f)).toNat + 1 - fdX b k v) (fdX b k v) _ (by omega) (Nat.le_refl _) TI_like (same_like (by unfold usedC; omega) (by unfold usedC; omega) (by unfold usedC; omega)) (same_like (nM_lo (by decide)) (nM_lo (by decide)) (nM_lo (by decide))) rfl
