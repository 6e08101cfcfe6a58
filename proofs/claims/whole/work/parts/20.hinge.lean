/-! HINGE, FREE -/
def hgB (b : Bs) (k : Nat) (f v : Int) : Bs := if b 3 k = 1 then upB (upB b 5 (if f = 0 then 2 * k + 1 else 2 * k) v) 6 (if f = 0 then 2 * k else 2 * k + 1) v else upB b 5 (if f = 0 then 2 * k + 1 else 2 * k) v
theorem hgB_o {b : Bs} {k : Nat} {f v : Int} {g i : Nat} (h : g ≠ 5) (h6 : g ≠ 6) : hgB b k f v g i = b g i := by
  unfold hgB
  split
  · rw [upB_f h6, upB_f h]
  · rw [upB_f h]
theorem hgB_i {b : Bs} {k : Nat} {f v : Int} {g i : Nat} (h : i ≠ 2 * k) (h1 : i ≠ 2 * k + 1) : hgB b k f v g i = b g i := by
  unfold hgB
  by_cases q : f = 0
  · rw [if_pos q, if_pos q]; split
    · rw [upB_i h, upB_i h1]
    · rw [upB_i h1]
  · rw [if_neg q, if_neg q]; split
    · rw [upB_i h1, upB_i h]
    · rw [upB_i h]
theorem hgB_bn {b : Bs} {k : Nat} {f v : Int} : bn (hgB b k f v) = bn b := by unfold bn; rw [hgB_o (by decide) (by decide)]
theorem hgB_thL {b : Bs} {k : Nat} {f v : Int} {p : Nat} : thL (hgB b k f v) p ↔ thL b p := by unfold thL; rw [hgB_bn, hgB_o (by decide) (by decide)]
theorem hgB_5 {b : Bs} {k : Nat} {f v : Int} : hgB b k f v 5 (2 * k) = (if f = 0 then b 5 (2 * k) else v) ∧ hgB b k f v 5 (2 * k + 1) = (if f = 0 then v else b 5 (2 * k + 1)) := by
  unfold hgB
  by_cases q : f = 0
  · simp only [if_pos q]
    split
    · rw [upB_f (by decide), upB_i (by omega), upB_f (by decide), upB_s]; exact ⟨rfl, rfl⟩
    · rw [upB_i (by omega), upB_s]; exact ⟨rfl, rfl⟩
  · simp only [if_neg q]
    split
    · rw [upB_f (by decide), upB_s, upB_f (by decide), upB_i (by omega)]; exact ⟨rfl, rfl⟩
    · rw [upB_s, upB_i (by omega)]; exact ⟨rfl, rfl⟩
theorem hgB_6 {b : Bs} (hI : Inv b) {k : Nat} (hk : k < bn b) {f v : Int} : hgB b k f v 6 (2 * k) = (if b 3 k = 1 then (if f = 0 then v else b 5 (2 * k + 1)) else b 6 (2 * k)) ∧ hgB b k f v 6 (2 * k + 1) = (if b 3 k = 1 then (if f = 0 then b 5 (2 * k) else v) else b 6 (2 * k + 1)) := by
  have J := (hI.2.2.2.1 k hk).2.2.2
  unfold hgB
  by_cases h : b 3 k = 1
  · simp only [if_pos h]
    by_cases q : f = 0
    · simp only [if_pos q]
      rw [upB_s, upB_i (by omega), upB_f (by decide)]; exact ⟨rfl, (J h).2⟩
    · simp only [if_neg q]
      rw [upB_i (by omega), upB_f (by decide), upB_s]; exact ⟨(J h).1, rfl⟩
  · simp only [if_neg h]
    rw [upB_f (by decide), upB_f (by decide)]; exact ⟨rfl, rfl⟩
theorem hgInv {b : Bs} (hI : Inv b) {k : Nat} (hk : k < bn b) {f v : Int} (h0 : 0 ≤ v ∧ v ≤ 1000) (h1 : b 3 k = 1 → 1 ≤ v) : Inv (hgB b k f v) := by
  have e5 := hgB_5 (b := b) (k := k) (f := f) (v := v)
  have e6 := hgB_6 hI hk (f := f) (v := v)
  have J := hI.2.2.2.1 k hk
  have J0 := hI.2.2.2.2 k hk (2 * k) (Or.inl rfl)
  have J1 := hI.2.2.2.2 k hk (2 * k + 1) (Or.inr rfl)
  have E5 : ∀ i, (i = 2 * k ∨ i = 2 * k + 1) → 0 ≤ hgB b k f v 5 i ∧ hgB b k f v 5 i ≤ 1000 := by
    intro i hi
    rcases hi with rfl | rfl
    · rw [e5.1]; split <;> omega
    · rw [e5.2]; split <;> omega
  have E6 : ∀ i, (i = 2 * k ∨ i = 2 * k + 1) → 1 ≤ hgB b k f v 6 i ∧ hgB b k f v 6 i ≤ 1000 := by
    intro i hi
    rcases hi with rfl | rfl
    · rw [e6.1]; split
      · rename_i q; have := J.2.2.2 q; have := h1 q; split <;> omega
      · omega
    · rw [e6.2]; split
      · rename_i q; have := J.2.2.2 q; have := h1 q; split <;> omega
      · omega
  refine ⟨?_, ?_, ?_, fun a ha => ?_, fun a ha i hi => ?_⟩
  · rw [hgB_o (by decide) (by decide), hgB_bn]; exact hI.1
  · rw [hgB_o (by decide) (by decide)]; exact hI.2.1
  · rw [hgB_o (by decide) (by decide)]; exact hI.2.2.1
  · rw [hgB_bn] at ha
    rw [hgB_o (by decide) (by decide), hgB_o (by decide) (by decide), hgB_o (by decide) (by decide)]
    have A := hI.2.2.2.1 a ha
    refine ⟨A.1, A.2.1, A.2.2.1, fun q => ?_⟩
    by_cases e : a = k
    · subst e
      rw [e5.1, e5.2, e6.1, e6.2, if_pos q, if_pos q]
      exact ⟨rfl, rfl⟩
    · rw [hgB_i (by omega) (by omega), hgB_i (by omega) (by omega), hgB_i (by omega) (by omega), hgB_i (by omega) (by omega)]
      exact A.2.2.2 q
  · rw [hgB_bn] at ha
    have A := hI.2.2.2.2 a ha i hi
    rw [hgB_o (g := 4) (by decide) (by decide), hgB_o (g := 8) (by decide) (by decide)]
    refine ⟨A.1, ?_, ?_, fun q => hgB_thL.mpr (A.2.2.2 q)⟩
    · by_cases e : a = k
      · subst e; exact E5 i hi
      · rw [hgB_i (by omega) (by omega)]; exact A.2.1
    · by_cases e : a = k
      · subst e; exact E6 i hi
      · rw [hgB_i (by omega) (by omega)]; exact A.2.2.1
/-- LE1 looks at nothing but a part's own numbers and the flats of the planes that it hangs on -/
theorem LE1_b {b b' : Bs} {t : Ts} {k s : Nat} (hI : Inv b) (hk : k < bn b) (h4 : ∀ i, (i = 2 * k ∨ i = 2 * k + 1) → b' 4 i = b 4 i ∧ b' 5 i = b 5 i ∧ b' 6 i = b 6 i) (h7 : b' 7 k = b 7 k) (h6 : ∀ i, i < 2 * k → b' 6 i = b 6 i) (h : LE1 b t k s) : LE1 b' t k s := by
  have J0 := (hI.2.2.2.2 k hk (2 * k) (Or.inl rfl)).1
  have J1 := (hI.2.2.2.2 k hk (2 * k + 1) (Or.inr rfl)).1
  have a0 := h4 (2 * k) (Or.inl rfl)
  have a1 := h4 (2 * k + 1) (Or.inr rfl)
  have X : ∀ (p : Nat) (n : Int), p < 2 * k + 2 → PLx b' t s p n = PLx b t s p n ∧ PLy b' t s p n = PLy b t s p n := by
    intro p n hp
    unfold PLx PLy
    by_cases q0 : p = 0
    · rw [if_pos q0, if_pos q0, if_pos q0, if_pos q0]; exact ⟨rfl, rfl⟩
    · rw [if_neg q0, if_neg q0, if_neg q0, if_neg q0]
      by_cases q1 : p = 1
      · rw [if_pos q1, if_pos q1, if_pos q1, if_pos q1]; exact ⟨rfl, rfl⟩
      · rw [if_neg q1, if_neg q1, if_neg q1, if_neg q1, h6 (p - 2) (by omega)]; exact ⟨rfl, rfl⟩
  unfold LE1 at h ⊢
  rw [a0.1, a0.2.1, a0.2.2, a1.1, a1.2.1, a1.2.2, h7, (X _ _ (by omega)).1, (X _ _ (by omega)).2, (X _ _ (by omega)).1, (X _ _ (by omega)).2]
  exact h
theorem reh_o {S : St} {i m g : Nat} {f v c d : Int} (h : ¬ (m = i ∧ (g = 7 ∨ g = 9))) (h1 : ¬ (m = i + 13 ∧ g = 4)) (h2 : ¬ (m = i + 14 ∧ g = 4)) : gI (rehT S i f v c d) m g = gI S m g := by
  unfold rehT cutT
  rw [gI_pI, if_neg h2, gI_pI, if_neg h1]
  split
  · rw [gI_pI, if_neg (by omega)]
  · rw [gI_pI, if_neg (by omega)]
theorem reh_7 {S : St} {i : Nat} {f v c d : Int} : gI (rehT S i f v c d) i 7 = if f = 0 then gI S i 7 else iZ v := by
  unfold rehT cutT
  rw [gI_pI, if_neg (by omega), gI_pI, if_neg (by omega)]
  split
  · rw [gI_pI, if_neg (by omega)]
  · rw [gI_pI, if_pos ⟨rfl, rfl⟩]
theorem reh_9 {S : St} {i : Nat} {f v c d : Int} : gI (rehT S i f v c d) i 9 = if f = 0 then iZ v else gI S i 9 := by
  unfold rehT cutT
  rw [gI_pI, if_neg (by omega), gI_pI, if_neg (by omega)]
  split
  · rw [gI_pI, if_pos ⟨rfl, rfl⟩]
  · rw [gI_pI, if_neg (by omega)]
theorem reh_13 {S : St} {i : Nat} {f v c d : Int} : gI (rehT S i f v c d) (i + 13) 4 = iZ c := by
  unfold rehT cutT
  rw [gI_pI, if_neg (by omega), gI_pI, if_pos ⟨rfl, rfl⟩]
theorem reh_14 {S : St} {i : Nat} {f v c d : Int} : gI (rehT S i f v c d) (i + 14) 4 = iZ d := by
  unfold rehT cutT
  rw [gI_pI, if_pos ⟨rfl, rfl⟩]
theorem reh_x {S : St} {i m g : Nat} {f v c d : Int} : gA (rehT S i f v c d) m g = gA S m g ∧ gL (rehT S i f v c d) m g = gL S m g ∧ gJ (rehT S i f v c d) m g = gJ S m g ∧ gR (rehT S i f v c d) m g = gR S m g := by
  unfold rehT cutT
  split <;> exact ⟨rfl, rfl, rfl, rfl⟩
theorem hinge_SF {S : St} {b : Bs} {t : Ts} {k : Nat} {f v : Int} (hI : Inv b) (hC : RC S b t) (hE : LE b t) (hk : k < bn b) :
    SF (rehT S (66 + 15 * k) f v (if b 3 k = 1 then (if f = 0 then v else b 5 (2 * k + 1)) else b 6 (2 * k)) (if b 3 k = 1 then (if f = 0 then b 5 (2 * k) else v) else b 6 (2 * k + 1))) (rehT S (66 + 15 * k) f v (if b 3 k = 1 then (if f = 0 then v else b 5 (2 * k + 1)) else b 6 (2 * k)) (if b 3 k = 1 then (if f = 0 then b 5 (2 * k) else v) else b 6 (2 * k + 1))) (hgB b k f v) t k := by
  generalize hcv : (if b 3 k = 1 then (if f = 0 then v else b 5 (2 * k + 1)) else b 6 (2 * k)) = cv
  generalize hdv : (if b 3 k = 1 then (if f = 0 then b 5 (2 * k) else v) else b 6 (2 * k + 1)) = dv
  have e5 := hgB_5 (b := b) (k := k) (f := f) (v := v)
  have e6 := hgB_6 hI hk (f := f) (v := v)
  rw [hcv, hdv] at e6
  obtain ⟨⟨⟨a1, a2, a3⟩, a4, a5, a6, ⟨a7, a8⟩, a9⟩, hw, he, ht⟩ := hC
  have B : ∀ g i, g ≠ 5 → g ≠ 6 → hgB b k f v g i = b g i := fun g i h1 h2 => hgB_o h1 h2
  refine ⟨⟨⟨?_, ?_, ?_⟩, fun r hr => ?_, fun q hq => ?_, fun p hp => ?_, ⟨?_, ?_⟩, fun q hq => ?_⟩, fun s hs => ?_, fun s hs => ?_, fun q h1 h2 h3 s hs => ?_, fun q h1 h2 h3 s hs => ?_, sameOn.rf⟩
  · rw [reh_o (by omega) (by omega) (by omega), B 1 0 (by decide) (by decide)]; exact a1
  · rw [reh_o (by omega) (by omega) (by omega), B 2 0 (by decide) (by decide)]; exact a2
  · rw [reh_o (by omega) (by omega) (by omega), B 0 0 (by decide) (by decide)]; exact a3
  · rw [reh_x.1, B 9 r (by decide) (by decide)]; exact a4 r hr
  · rw [reh_x.2.2.2, hgB_bn]; exact a5 q hq
  · rw [reh_x.2.2.2]; unfold plI; rw [hgB_bn, B 8 _ (by decide) (by decide)]; exact a6 p hp
  · rw [reh_o (by omega) (by omega) (by omega), B 1 0 (by decide) (by decide)]; exact a7
  · rw [reh_o (by omega) (by omega) (by omega), B 1 0 (by decide) (by decide)]; exact a8
  · rw [hgB_bn] at hq
    have A := a9 q hq
    rw [B 3 q (by decide) (by decide), B 4 _ (by decide) (by decide), B 4 _ (by decide) (by decide), B 7 q (by decide) (by decide), B 8 q (by decide) (by decide)]
    by_cases e : q = k
    · subst e
      rw [reh_o (g := 5) (by omega) (by omega) (by omega), reh_o (g := 6) (by omega) (by omega) (by omega), reh_7, reh_o (g := 8) (by omega) (by omega) (by omega), reh_9, reh_o (g := 10) (by omega) (by omega) (by omega), reh_o (g := 11) (by omega) (by omega) (by omega), reh_13, reh_14, e5.1, e5.2, e6.1, e6.2]
      refine ⟨A.1, A.2.1, ?_, A.2.2.2.1, ?_, A.2.2.2.2.2.1, A.2.2.2.2.2.2.1, rfl, rfl⟩
      · split
        · exact A.2.2.1
        · rfl
      · split
        · rfl
        · exact A.2.2.2.2.1
    · rw [reh_o (g := 5) (by omega) (by omega) (by omega), reh_o (g := 6) (by omega) (by omega) (by omega), reh_o (g := 7) (by omega) (by omega) (by omega), reh_o (g := 8) (by omega) (by omega) (by omega), reh_o (g := 9) (by omega) (by omega) (by omega), reh_o (g := 10) (by omega) (by omega) (by omega), reh_o (g := 11) (by omega) (by omega) (by omega), reh_o (m := 66 + 15 * q + 13) (by omega) (by omega) (by omega), reh_o (m := 66 + 15 * q + 14) (by omega) (by omega) (by omega), hgB_i (g := 5) (by omega) (by omega), hgB_i (g := 5) (by omega) (by omega), hgB_i (g := 6) (by omega) (by omega), hgB_i (g := 6) (by omega) (by omega)]
      exact A
  · rw [reh_x.1, reh_x.1, reh_x.1, reh_x.1, reh_x.1, reh_x.1, reh_x.1, reh_x.1]; exact hw s hs
  · rw [reh_x.1, reh_x.1, reh_x.1, reh_x.1, B 1 0 (by decide) (by decide)]; exact he s hs
  · rw [hgB_bn] at h2
    rw [B 8 q (by decide) (by decide)] at h3
    unfold RT1
    rw [reh_x.1, reh_x.1, reh_x.1, reh_x.1, reh_x.1, reh_x.1, reh_x.1]
    exact ht q h2 h2 h3 s hs
  · rw [hgB_bn] at h2
    rw [B 8 q (by decide) (by decide)] at h3
    exact LE1_b hI h2 (fun i hi => ⟨B 4 i (by decide) (by decide), hgB_i (by omega) (by omega), hgB_i (by omega) (by omega)⟩) (B 7 q (by decide) (by decide)) (fun i hi => hgB_i (by omega) (by omega)) (hE q h2 h2 h3 s hs)
theorem rehM {S : St} {i : Nat} {f v c d : Int} (h : 66 ≤ i) : sameOn atM S (rehT S i f v c d) := fun m hm g => ⟨reh_o (by have := hm.2; omega) (by have := hm.2; omega) (by have := hm.2; omega), reh_x.1, reh_x.2.1, reh_x.2.2.1, reh_x.2.2.2⟩
set_option maxHeartbeats 4000000 in
set_option maxRecDepth 100000 in
theorem c_hinge_p {l : Launch} {D : va_G} {kc : Nat → ClassId} {N : Nat} {ad : Nat → Nat} {S : St} {b : Bs} {t : Ts} (hg : vg N) (hN : N = 66 + 15 * bn b) (hI : Inv b) (hC : RC S b t) (hE : LE b t) {z f v : Int} (rz : r32 z) (hf : b01 f) (rv : r32 v) (hp : ¬ isP b z) : MetK l yX3_hinge cX3_hinge 6 (some FieldType.int) 7 0 0 173 D kc (wl kc N ad S) [.ref (ad 0), .int (iZ z), .int (iZ f), .int (iZ v)] (QI D kc (wl kc N ad S) (cQ kc N ad S (-1) (refB b 1))) := by
  refine MetK.of (by decide +kernel) (Nat.le_of_ble_eq_true rfl) ?_
  intro p e s m below meth c C
  have hA : ∀ q, s.heap.size ≤ q → va_A (wl kc N ad S) s.heap.size q := fun _ h => Or.inr h
  show V p l e { frames := 7, cells := 0, slots := 0, locals := 173 } s m ([.ref (ad 0), .int (iZ z), .int (iZ f), .int (iZ v)] : List Value).toArray below meth c (MQ below (QI D kc (wl kc N ad S) (cQ kc N ad S (-1) (refB b 1)) s.heap.size) ([.ref (ad 0), .int (iZ z), .int (iZ f), .int (iZ v)] : List Value).toArray s 0 0 (va_A (wl kc N ad S) s.heap.size)) D (va_A (wl kc N ad S) s.heap.size) 6 0 0 (wl kc N ad S) 0 [(0, .ref (ad 0)), (1, .int (iZ z)), (2, .int (iZ f)), (3, .int (iZ v))] []
  have hP := hC.1
  have hW := hC.2.1
  have hEn := hC.2.2.1
  have hR := hC.2.2.2
  have hb0 := hI.1
  refine v_aload_n 0 0 C dX3_hinge_0 rfl ?_
  refine v_iload_n 1 1 C dX3_hinge_1 rfl ?_
  refine v_callq 2 hA (rV_Pg 2 C L_RX3_90 lk_244 lk_3 (m_partThere_no hg hN hI hP rz hp) (vg.o hg) rfl ⟨rfl, rfl⟩ (rm_ok rfl) dX3_hinge_2) (fun r1 w2 h3 => ?_)
  obtain ⟨e_r1, rfl⟩ := h3
  refine v_eqv .null (by rw [e_r1]; rfl) ?_
  refine v_astoreN 5 [(4, .null), (0, .ref (ad 0)), (1, .int (iZ z)), (2, .int (iZ f)), (3, .int (iZ v))] C dX3_hinge_5 (by decide) rfl ?_
  refine v_aloadN 7 0 C dX3_hinge_7 rfl ?_
  refine v_ifnonnullN 9 C dX3_hinge_9 ?_
  refine v_aload_n 12 1 C dX3_hinge_12 rfl ?_
  refine v_iconst 13 C (iZ (-1)) dX3_hinge_13 rfl ?_
  refine v_calli 14 hA (rV_Pg 14 C L_RX3_62 lk_252 lk_5 (m_refuse hg hN hI hP 1 (by decide) (by decide)) (vg.o hg) rfl ⟨rfl, rfl⟩ (rm_ok rfl) dX3_hinge_14) (fun r4 w5 h6 => ?_)
  obtain ⟨e_r4, rfl⟩ := h6
  refine v_eqi (iZ (-1)) (e_r4) ?_
  exact v_iret 17 C (⟨rfl, refS S b 1, t, rfl, refRC hC, refLE hE, refInv hI, refM⟩) dX3_hinge_17

set_option maxHeartbeats 4000000 in
set_option maxRecDepth 100000 in
theorem c_hinge_4 {l : Launch} {D : va_G} {kc : Nat → ClassId} {N : Nat} {ad : Nat → Nat} {S : St} {b : Bs} {t : Ts} (hg : vg N) (hN : N = 66 + 15 * bn b) (hI : Inv b) (hC : RC S b t) (hE : LE b t) {k : Nat} (hk : k < bn b) (ht : b 8 k = 1) {f v : Int} (hf : b01 f) (rv : r32 v) (h4 : v < (if b 3 k = 1 then 1 else 0)) : MetK l yX3_hinge cX3_hinge 6 (some FieldType.int) 7 0 0 173 D kc (wl kc N ad S) [.ref (ad 0), .int (iZ (k : Int)), .int (iZ f), .int (iZ v)] (QI D kc (wl kc N ad S) (cQ kc N ad S (-4) (refB b 4))) := by
  refine MetK.of (by decide +kernel) (Nat.le_of_ble_eq_true rfl) ?_
  intro p e s m below meth c C
  have hA : ∀ q, s.heap.size ≤ q → va_A (wl kc N ad S) s.heap.size q := fun _ h => Or.inr h
  show V p l e { frames := 7, cells := 0, slots := 0, locals := 173 } s m ([.ref (ad 0), .int (iZ (k : Int)), .int (iZ f), .int (iZ v)] : List Value).toArray below meth c (MQ below (QI D kc (wl kc N ad S) (cQ kc N ad S (-4) (refB b 4)) s.heap.size) ([.ref (ad 0), .int (iZ (k : Int)), .int (iZ f), .int (iZ v)] : List Value).toArray s 0 0 (va_A (wl kc N ad S) s.heap.size)) D (va_A (wl kc N ad S) s.heap.size) 6 0 0 (wl kc N ad S) 0 [(0, .ref (ad 0)), (1, .int (iZ (k : Int))), (2, .int (iZ f)), (3, .int (iZ v))] []
  have hP := hC.1
  have hW := hC.2.1
  have hEn := hC.2.2.1
  have hR := hC.2.2.2
  have hb0 := hI.1
  have J := hI.2.2.2.1 k hk
  have hr := hP.2.2.2.2.2 k hk
  have J0 := hI.2.2.2.2 k hk (2 * k) (Or.inl rfl)
  have J1 := hI.2.2.2.2 k hk (2 * k + 1) (Or.inr rfl)
  have hle : (if b 3 k = 1 then (1 : Int) else 0) = if b 3 k = 1 then 1 else 0 := rfl
  refine v_aload_n 0 0 C dX3_hinge_0 rfl ?_
  refine v_iload_n 1 1 C dX3_hinge_1 rfl ?_
  refine v_callq 2 hA (rV_Pg 2 C L_RX3_90 lk_244 lk_3 (m_partThere hg hN hI hP hk ht) (vg.o hg) rfl ⟨rfl, rfl⟩ (rm_ok rfl) dX3_hinge_2) (fun r1 w2 h3 => ?_)
  obtain ⟨e_r1, rfl⟩ := h3
  refine v_eqv (.ref (ad (66 + 15 * k))) (by rw [e_r1]; rfl) ?_
  refine v_astore 5 [(4, .ref (ad (66 + 15 * k))), (0, .ref (ad 0)), (1, .int (iZ (k : Int))), (2, .int (iZ f)), (3, .int (iZ v))] C dX3_hinge_5 (by decide) rfl ?_
  refine v_aload 7 0 C dX3_hinge_7 rfl ?_
  refine v_ifnonnull 9 18 C dX3_hinge_9 (by decide) ?_
  refine v_iload_n 18 4 C dX3_hinge_18 rfl ?_
  refine v_aload 19 0 C dX3_hinge_19 rfl ?_
  refine v_calli 21 hA (rV_Pt 21 C L_RX3_104 lk_275 lk_276 (m_least (vp_k hN hk) ⟨by omega, by omega⟩ hr.1) (vp.o (vp_k hN hk)) rfl ⟨rfl, rfl⟩ (rm_ok rfl) dX3_hinge_21) (fun r4 w5 h6 => ?_)
  obtain ⟨e_r4, rfl⟩ := h6
  refine v_eqi (iZ (if b 3 k = 1 then 1 else 0)) (e_r4) ?_
  refine z_icmp_ge 24 34 C (by assumption) (by split <;> decide) dX3_hinge_24 (by decide) (fun c24_0 => absurd c24_0 (by omega)) (fun c24_0 => ?_)
  refine v_aload_n 27 1 C dX3_hinge_27 rfl ?_
  refine v_bipush 28 C (iZ (-4)) dX3_hinge_28 (by decide) ?_
  refine v_calli 30 hA (rV_Pg 30 C L_RX3_62 lk_252 lk_5 (m_refuse hg hN hI hP 4 (by decide) (by decide)) (vg.o hg) rfl ⟨rfl, rfl⟩ (rm_ok rfl) dX3_hinge_30) (fun r7 w8 h9 => ?_)
  obtain ⟨e_r7, rfl⟩ := h9
  refine v_eqi (iZ (-4)) (e_r7) ?_
  exact v_iret 33 C (⟨rfl, refS S b 4, t, rfl, refRC hC, refLE hE, refInv hI, refM⟩) dX3_hinge_33

def hgU (b : Bs) (k : Nat) (f : Int) : Nat := if f = 0 then (b 4 (2 * k + 1)).toNat else (b 4 (2 * k)).toNat
set_option maxHeartbeats 4000000 in
set_option maxRecDepth 100000 in
theorem c_hinge_6 {l : Launch} {D : va_G} {kc : Nat → ClassId} {N : Nat} {ad : Nat → Nat} {S : St} {b : Bs} {t : Ts} (hg : vg N) (hN : N = 66 + 15 * bn b) (hI : Inv b) (hC : RC S b t) (hE : LE b t) {k : Nat} (hk : k < bn b) (ht : b 8 k = 1) {f v : Int} (hf : b01 f) (rv : r32 v) (h4 : (if b 3 k = 1 then 1 else 0) ≤ v) (h6 : szL b (hgU b k f) < v) : MetK l yX3_hinge cX3_hinge 6 (some FieldType.int) 7 0 0 173 D kc (wl kc N ad S) [.ref (ad 0), .int (iZ (k : Int)), .int (iZ f), .int (iZ v)] (QI D kc (wl kc N ad S) (cQ kc N ad S (-6) (refB b 6))) := by
  refine MetK.of (by decide +kernel) (Nat.le_of_ble_eq_true rfl) ?_
  intro p e s m below meth c C
  have hA : ∀ q, s.heap.size ≤ q → va_A (wl kc N ad S) s.heap.size q := fun _ h => Or.inr h
  show V p l e { frames := 7, cells := 0, slots := 0, locals := 173 } s m ([.ref (ad 0), .int (iZ (k : Int)), .int (iZ f), .int (iZ v)] : List Value).toArray below meth c (MQ below (QI D kc (wl kc N ad S) (cQ kc N ad S (-6) (refB b 6)) s.heap.size) ([.ref (ad 0), .int (iZ (k : Int)), .int (iZ f), .int (iZ v)] : List Value).toArray s 0 0 (va_A (wl kc N ad S) s.heap.size)) D (va_A (wl kc N ad S) s.heap.size) 6 0 0 (wl kc N ad S) 0 [(0, .ref (ad 0)), (1, .int (iZ (k : Int))), (2, .int (iZ f)), (3, .int (iZ v))] []
  have hP := hC.1
  have hW := hC.2.1
  have hEn := hC.2.2.1
  have hR := hC.2.2.2
  have hb0 := hI.1
  have J := hI.2.2.2.1 k hk
  have hr := hP.2.2.2.2.2 k hk
  have J0 := hI.2.2.2.2 k hk (2 * k) (Or.inl rfl)
  have J1 := hI.2.2.2.2 k hk (2 * k + 1) (Or.inr rfl)
  have hle : (if b 3 k = 1 then (1 : Int) else 0) = if b 3 k = 1 then 1 else 0 := rfl
  have hu : thL b (hgU b k f) := by
    unfold hgU
    split
    · exact J1.2.2.2 ht
    · exact J0.2.2.2 ht
  have hsz := szL_b hI hu
  have heu : (if f = 0 then b 4 (2 * k + 1) else b 4 (2 * k)) = ((hgU b k f : Nat) : Int) := by
    unfold hgU
    split <;> omega
  refine v_aload_n 0 0 C dX3_hinge_0 rfl ?_
  refine v_iload_n 1 1 C dX3_hinge_1 rfl ?_
  refine v_callq 2 hA (rV_Pg 2 C L_RX3_90 lk_244 lk_3 (m_partThere hg hN hI hP hk ht) (vg.o hg) rfl ⟨rfl, rfl⟩ (rm_ok rfl) dX3_hinge_2) (fun r1 w2 h3 => ?_)
  obtain ⟨e_r1, rfl⟩ := h3
  refine v_eqv (.ref (ad (66 + 15 * k))) (by rw [e_r1]; rfl) ?_
  refine v_astore 5 [(4, .ref (ad (66 + 15 * k))), (0, .ref (ad 0)), (1, .int (iZ (k : Int))), (2, .int (iZ f)), (3, .int (iZ v))] C dX3_hinge_5 (by decide) rfl ?_
  refine v_aload 7 0 C dX3_hinge_7 rfl ?_
  refine v_ifnonnull 9 18 C dX3_hinge_9 (by decide) ?_
  refine v_iload_n 18 4 C dX3_hinge_18 rfl ?_
  refine v_aload 19 0 C dX3_hinge_19 rfl ?_
  refine v_calli 21 hA (rV_Pt 21 C L_RX3_104 lk_275 lk_276 (m_least (vp_k hN hk) ⟨by omega, by omega⟩ hr.1) (vp.o (vp_k hN hk)) rfl ⟨rfl, rfl⟩ (rm_ok rfl) dX3_hinge_21) (fun r4 w5 h6 => ?_)
  obtain ⟨e_r4, rfl⟩ := h6
  refine v_eqi (iZ (if b 3 k = 1 then 1 else 0)) (e_r4) ?_
  refine z_icmp_ge 24 34 C (by assumption) (by split <;> decide) dX3_hinge_24 (by decide) (fun c24_0 => ?_) (fun c24_0 => absurd (by omega) c24_0)
  refine v_iload_n 34 4 C dX3_hinge_34 rfl ?_
  refine v_aload_n 35 1 C dX3_hinge_35 rfl ?_
  refine v_aload 36 0 C dX3_hinge_36 rfl ?_
  refine v_iload_n 38 3 C dX3_hinge_38 rfl ?_
  refine v_calli 39 hA (rV_Pt 39 C L_RX3_107 lk_350 lk_351 (m_planeOf (vp_k hN hk) ⟨by omega, by omega⟩ hr.2.1 hr.2.2.2.1) (vp.o (vp_k hN hk)) rfl ⟨rfl, rfl⟩ (rm_ok rfl) dX3_hinge_39) (fun PO w7 h8 => ?_)
  obtain ⟨e_PO, rfl⟩ := h8
  refine v_eqi (iZ ((hgU b k f : Nat) : Int)) (by rw [e_PO, heu]) ?_
  refine v_calli 42 hA (rV_Pg 42 C L_RX3_111 lk_355 lk_14 (m_sizeOf hg hN hI hP hu) (vg.o hg) rfl ⟨rfl, rfl⟩ (rm_ok rfl) dX3_hinge_42) (fun r9 w10 h11 => ?_)
  obtain ⟨e_r9, rfl⟩ := h11
  refine v_eqi (iZ (szL b (hgU b k f))) (e_r9) ?_
  refine z_icmp_le 45 55 C (by first | assumption | exact ⟨by omega, by omega⟩) (by first | assumption | exact ⟨by omega, by omega⟩) dX3_hinge_45 (by decide) (fun c45_1 => absurd c45_1 (by omega)) (fun c45_1 => ?_)
  refine v_aload_n 48 1 C dX3_hinge_48 rfl ?_
  refine v_bipush 49 C (iZ (-6)) dX3_hinge_49 (by decide) ?_
  refine v_calli 51 hA (rV_Pg 51 C L_RX3_62 lk_252 lk_5 (m_refuse hg hN hI hP 6 (by decide) (by decide)) (vg.o hg) rfl ⟨rfl, rfl⟩ (rm_ok rfl) dX3_hinge_51) (fun r12 w13 h14 => ?_)
  obtain ⟨e_r12, rfl⟩ := h14
  refine v_eqi (iZ (-6)) (e_r12) ?_
  exact v_iret 54 C (⟨rfl, refS S b 6, t, rfl, refRC hC, refLE hE, refInv hI, refM⟩) dX3_hinge_54

set_option maxHeartbeats 4000000 in
set_option maxRecDepth 100000 in
theorem c_hinge {l : Launch} {D : va_G} {kc : Nat → ClassId} {N : Nat} {ad : Nat → Nat} {S : St} {b : Bs} {t : Ts} (hg : vg N) (hN : N = 66 + 15 * bn b) (hI : Inv b) (hC : RC S b t) (hE : LE b t) {k : Nat} (hk : k < bn b) (ht : b 8 k = 1) {f v : Int} (hf : b01 f) (rv : r32 v) (h4 : (if b 3 k = 1 then 1 else 0) ≤ v) (h6 : v ≤ szL b (hgU b k f)) : MetK l yX3_hinge cX3_hinge 6 (some FieldType.int) 7 0 0 173 D kc (wl kc N ad S) [.ref (ad 0), .int (iZ (k : Int)), .int (iZ f), .int (iZ v)] (QI D kc (wl kc N ad S) (cQ kc N ad S (if f = 0 then b 5 (2 * k + 1) else b 5 (2 * k)) (hgB b k f v))) := by
  refine MetK.of (by decide +kernel) (Nat.le_of_ble_eq_true rfl) ?_
  intro p e s m below meth c C
  have hA : ∀ q, s.heap.size ≤ q → va_A (wl kc N ad S) s.heap.size q := fun _ h => Or.inr h
  show V p l e { frames := 7, cells := 0, slots := 0, locals := 173 } s m ([.ref (ad 0), .int (iZ (k : Int)), .int (iZ f), .int (iZ v)] : List Value).toArray below meth c (MQ below (QI D kc (wl kc N ad S) (cQ kc N ad S (if f = 0 then b 5 (2 * k + 1) else b 5 (2 * k)) (hgB b k f v)) s.heap.size) ([.ref (ad 0), .int (iZ (k : Int)), .int (iZ f), .int (iZ v)] : List Value).toArray s 0 0 (va_A (wl kc N ad S) s.heap.size)) D (va_A (wl kc N ad S) s.heap.size) 6 0 0 (wl kc N ad S) 0 [(0, .ref (ad 0)), (1, .int (iZ (k : Int))), (2, .int (iZ f)), (3, .int (iZ v))] []
  have hP := hC.1
  have hW := hC.2.1
  have hEn := hC.2.2.1
  have hR := hC.2.2.2
  have hb0 := hI.1
  have J := hI.2.2.2.1 k hk
  have hr := hP.2.2.2.2.2 k hk
  have J0 := hI.2.2.2.2 k hk (2 * k) (Or.inl rfl)
  have J1 := hI.2.2.2.2 k hk (2 * k + 1) (Or.inr rfl)
  have hle : (if b 3 k = 1 then (1 : Int) else 0) = if b 3 k = 1 then 1 else 0 := rfl
  have hu : thL b (hgU b k f) := by
    unfold hgU
    split
    · exact J1.2.2.2 ht
    · exact J0.2.2.2 ht
  have hsz := szL_b hI hu
  have heu : (if f = 0 then b 4 (2 * k + 1) else b 4 (2 * k)) = ((hgU b k f : Nat) : Int) := by
    unfold hgU
    split <;> omega
  have hv0 : 0 ≤ v ∧ v ≤ 1000 := by split at h4 <;> omega
  have hv1 : b 3 k = 1 → 1 ≤ v := fun q => by rw [if_pos q] at h4; exact h4
  refine v_aload_n 0 0 C dX3_hinge_0 rfl ?_
  refine v_iload_n 1 1 C dX3_hinge_1 rfl ?_
  refine v_callq 2 hA (rV_Pg 2 C L_RX3_90 lk_244 lk_3 (m_partThere hg hN hI hP hk ht) (vg.o hg) rfl ⟨rfl, rfl⟩ (rm_ok rfl) dX3_hinge_2) (fun r1 w2 h3 => ?_)
  obtain ⟨e_r1, rfl⟩ := h3
  refine v_eqv (.ref (ad (66 + 15 * k))) (by rw [e_r1]; rfl) ?_
  refine v_astore 5 [(4, .ref (ad (66 + 15 * k))), (0, .ref (ad 0)), (1, .int (iZ (k : Int))), (2, .int (iZ f)), (3, .int (iZ v))] C dX3_hinge_5 (by decide) rfl ?_
  refine v_aload 7 0 C dX3_hinge_7 rfl ?_
  refine v_ifnonnull 9 18 C dX3_hinge_9 (by decide) ?_
  refine v_iload_n 18 4 C dX3_hinge_18 rfl ?_
  refine v_aload 19 0 C dX3_hinge_19 rfl ?_
  refine v_calli 21 hA (rV_Pt 21 C L_RX3_104 lk_275 lk_276 (m_least (vp_k hN hk) ⟨by omega, by omega⟩ hr.1) (vp.o (vp_k hN hk)) rfl ⟨rfl, rfl⟩ (rm_ok rfl) dX3_hinge_21) (fun r4 w5 h6 => ?_)
  obtain ⟨e_r4, rfl⟩ := h6
  refine v_eqi (iZ (if b 3 k = 1 then 1 else 0)) (e_r4) ?_
  refine z_icmp_ge 24 34 C (by assumption) (by split <;> decide) dX3_hinge_24 (by decide) (fun c24_0 => ?_) (fun c24_0 => absurd (by omega) c24_0)
  refine v_iload_n 34 4 C dX3_hinge_34 rfl ?_
  refine v_aload_n 35 1 C dX3_hinge_35 rfl ?_
  refine v_aload 36 0 C dX3_hinge_36 rfl ?_
  refine v_iload_n 38 3 C dX3_hinge_38 rfl ?_
  refine v_calli 39 hA (rV_Pt 39 C L_RX3_107 lk_350 lk_351 (m_planeOf (vp_k hN hk) ⟨by omega, by omega⟩ hr.2.1 hr.2.2.2.1) (vp.o (vp_k hN hk)) rfl ⟨rfl, rfl⟩ (rm_ok rfl) dX3_hinge_39) (fun PO w7 h8 => ?_)
  obtain ⟨e_PO, rfl⟩ := h8
  refine v_eqi (iZ ((hgU b k f : Nat) : Int)) (by rw [e_PO, heu]) ?_
  refine v_calli 42 hA (rV_Pg 42 C L_RX3_111 lk_355 lk_14 (m_sizeOf hg hN hI hP hu) (vg.o hg) rfl ⟨rfl, rfl⟩ (rm_ok rfl) dX3_hinge_42) (fun r9 w10 h11 => ?_)
  obtain ⟨e_r9, rfl⟩ := h11
  refine v_eqi (iZ (szL b (hgU b k f))) (e_r9) ?_
  refine z_icmp_le 45 55 C (by first | assumption | exact ⟨by omega, by omega⟩) (by first | assumption | exact ⟨by omega, by omega⟩) dX3_hinge_45 (by decide) (fun c45_1 => ?_) (fun c45_1 => absurd (by omega) c45_1)
  refine v_aload 55 0 C dX3_hinge_55 rfl ?_
  refine v_iload_n 57 3 C dX3_hinge_57 rfl ?_
  refine v_calli 58 hA (rV_Pt 58 C L_RX3_114 lk_358 lk_359 (m_distanceOf (vp_k hN hk) ⟨by omega, by omega⟩ hr.2.2.1 hr.2.2.2.2.1) (vp.o (vp_k hN hk)) rfl ⟨rfl, rfl⟩ (rm_ok rfl) dX3_hinge_58) (fun r12 w13 h14 => ?_)
  obtain ⟨e_r12, rfl⟩ := h14
  refine v_eqi (iZ (if f = 0 then b 5 (2 * k + 1) else b 5 (2 * k))) (e_r12) ?_
  refine z_topi (fun was e_was => ?_)
  refine v_istore 61 [(5, .int (iZ was)), (4, .ref (ad (66 + 15 * k))), (0, .ref (ad 0)), (1, .int (iZ (k : Int))), (2, .int (iZ f)), (3, .int (iZ v))] C dX3_hinge_61 (by decide) rfl ?_
  refine v_aload 63 1 C dX3_hinge_63 rfl ?_
  refine v_iload_n 65 4 C dX3_hinge_65 rfl ?_
  refine v_iload_n 66 5 C dX3_hinge_66 rfl ?_
  refine v_callv 67 hA (rV_Pt 67 C L_RX3_117 lk_362 lk_363 (m_rehang (vp_k hN hk) ⟨by omega, by omega⟩ ⟨by omega, by omega⟩ hr.1 hr.2.2.1 hr.2.2.2.2.1 hr.2.2.2.2.2.2.2.1 hr.2.2.2.2.2.2.2.2) (vp.o (vp_k hN hk)) rfl ⟨rfl, rfl⟩ (rm_ok rfl) dX3_hinge_67) (fun w16 h17 => ?_)
  obtain rfl := h17
  refine v_aload_n 70 2 C dX3_hinge_70 rfl ?_
  refine v_iload_n 71 3 C dX3_hinge_71 rfl ?_
  refine v_callv 72 hA (rV_Pg 72 C L_RX3_121 lk_313 lk_11 (m_settleFrom hg (by rw [hgB_bn]; exact hN) (hgInv hI hk hv0 hv1) (by rw [hgB_bn]; omega) (hinge_SF hI hC hE hk)) (vg.o hg) rfl ⟨rfl, rfl⟩ (rm_ok rfl) dX3_hinge_72) (fun w19 h20 => ?_)
  obtain ⟨S2, t2, rfl, g1, g2, g3⟩ := h20
  refine v_iload 75 0 C dX3_hinge_75 rfl ?_
  exact v_iret 77 C (⟨by rw [e_was], S2, t2, rfl, g1, g2, hgInv hI hk hv0 hv1, (rehM (by omega)).tr g3⟩) dX3_hinge_77

def fSt (S : St) (k : Nat) (x y : Option Nat) : St := pR (pR S 2 (2 * k + 2) x) 2 (2 * k + 3) y
theorem cnt_0 {P : Nat → Bool} : ∀ n, ¬ 0 < cnt P n → ∀ i, i < n → P i = false := by
  intro n
  induction n with
  | zero => intro _ i h; omega
  | succ n ih =>
    intro h i hi
    have hb := cnt_b P n
    cases hp : P n with
    | true => rw [cnt_T hp] at h; omega
    | false =>
      rw [cnt_F hp] at h
      by_cases e : i = n
      · rw [e]; exact hp
      · exact ih h i (by omega)
def frB (b : Bs) (k : Nat) : Bs := upB b 8 k 0
theorem frB_bn {b : Bs} {k : Nat} : bn (frB b k) = bn b := rfl
theorem frInv {b : Bs} {k : Nat} (hI : Inv b) (hk : k < bn b) (hh : ¬ 0 < hangN b k) : Inv (frB b k) := by
  refine ⟨hI.1, hI.2.1, hI.2.2.1, fun a ha => ?_, fun a ha i hi => ?_⟩
  · have A := hI.2.2.2.1 a ha
    refine ⟨A.1, A.2.1, ?_, A.2.2.2⟩
    by_cases e : a = k
    · rw [e]; exact Or.inl (upB_s _ _ _ _)
    · show b01 (upB b 8 k 0 8 a); rw [upB_i e]; exact A.2.2.1
  · have A := hI.2.2.2.2 a ha i hi
    refine ⟨A.1, A.2.1, A.2.2.1, fun q => ?_⟩
    have hak : a ≠ k := fun e => by rw [e] at q; rw [show frB b k 8 k = 0 from upB_s _ _ _ _] at q; omega
    have q2 : b 8 a = 1 := by rw [← q]; exact (upB_i hak).symm
    have hz := cnt_0 _ hh a ha
    unfold hgP at hz
    rw [decide_eq_true q2] at hz
    have hz0 : onP b k (2 * a) = false ∧ onP b k (2 * a + 1) = false := by
      cases h1 : onP b k (2 * a) <;> cases h2 : onP b k (2 * a + 1) <;> simp_all
    have hz2 : onP b k i = false := by rcases hi with rfl | rfl; exact hz0.1; exact hz0.2
    have hz1 := of_decide_eq_false hz2
    rcases A.2.2.2 q2 with h | ⟨h1, h2, h3⟩
    · exact Or.inl h
    · refine Or.inr ⟨h1, h2, ?_⟩
      show upB b 8 k 0 8 ((b 4 i).toNat / 2 - 1) = 1
      rw [upB_i (by omega)]; exact h3
theorem frLE {b : Bs} {t : Ts} {k : Nat} (hE : LE b t) : LE (frB b k) t := by
  intro a h1 h2 h3 s hs
  have hak : a ≠ k := fun e => by rw [e] at h3; rw [show frB b k 8 k = 0 from upB_s _ _ _ _] at h3; omega
  have q2 : b 8 a = 1 := by rw [← h3]; exact (upB_i hak).symm
  exact hE a h1 h2 q2 s hs
theorem frRC {S : St} {b : Bs} {t : Ts} {k : Nat} (hk : k < bn b) (hI : Inv b) (hC : RC S b t) : RC (fSt (pI S (66 + 15 * k) 11 (iZ 0)) k none none) (frB b k) t := by
  obtain ⟨⟨⟨a1, a2, a3⟩, a4, a5, a6, ⟨a7, a8⟩, a9⟩, hw, he, ht⟩ := hC
  have I : ∀ m f, ¬ (m = 66 + 15 * k ∧ f = 11) → gI (fSt (pI S (66 + 15 * k) 11 (iZ 0)) k none none) m f = gI S m f := fun m f q => by
    show gI (pI S _ _ _) m f = _
    rw [gI_pI, if_neg q]
  have R : ∀ m f, ¬ (m = 2 ∧ (f = 2 * k + 2 ∨ f = 2 * k + 3)) → gR (fSt (pI S (66 + 15 * k) 11 (iZ 0)) k none none) m f = gR S m f := fun m f q => by
    unfold fSt
    rw [gR_pR, if_neg (by omega), gR_pR, if_neg (by omega)]; rfl
  refine ⟨⟨⟨?_, ?_, ?_⟩, fun r hr => a4 r hr, fun q hq => ?_, fun p hp => ?_, ⟨?_, ?_⟩, fun q hq => ?_⟩, hw, he, fun q h1 h2 h3 s hs => ?_⟩
  · rw [I _ _ (by omega)]; exact a1
  · rw [I _ _ (by omega)]; exact a2
  · rw [I _ _ (by omega)]; exact a3
  · rw [R _ _ (by omega)]; exact a5 q hq
  · by_cases e : p = 2 * k + 2 ∨ p = 2 * k + 3
    · have h1 : plI (frB b k) p = none := plI_n (fun q => by
        rcases q with q | ⟨q1, q2, q3⟩
        · omega
        · rw [show p / 2 - 1 = k by omega, show frB b k 8 k = 0 from upB_s _ _ _ _] at q3; omega)
      rw [h1]
      unfold fSt
      rw [gR_pR]
      rcases e with rfl | rfl
      · rw [if_neg (by omega), gR_pR, if_pos ⟨rfl, rfl⟩]
      · rw [if_pos ⟨rfl, rfl⟩]
    · rw [R _ _ (by omega), a6 p hp]
      unfold plI
      by_cases e2 : p / 2 - 1 = k
      · have : p < 2 := by omega
        rw [if_pos (Or.inl this), if_pos (Or.inl this)]
      · rw [show frB b k 8 (p / 2 - 1) = b 8 (p / 2 - 1) from upB_i e2]; rfl
  · rw [I _ _ (by omega)]; exact a7
  · rw [I _ _ (by omega)]; exact a8
  · have A := a9 q hq
    rw [I _ 5 (by omega), I _ 6 (by omega), I _ 7 (by omega), I _ 8 (by omega), I _ 9 (by omega), I _ 10 (by omega), I _ 4 (by omega), I _ 4 (by omega)]
    refine ⟨A.1, A.2.1, A.2.2.1, A.2.2.2.1, A.2.2.2.2.1, A.2.2.2.2.2.1, ?_, A.2.2.2.2.2.2.2.1, A.2.2.2.2.2.2.2.2⟩
    by_cases e : q = k
    · subst e
      show gI (pI S _ _ _) _ _ = _
      rw [gI_pI, if_pos ⟨rfl, rfl⟩, show frB b q 8 q = 0 from upB_s _ _ _ _]
    · rw [I _ _ (by omega), show frB b k 8 q = b 8 q from upB_i e]; exact A.2.2.2.2.2.2.1
  · have hak : q ≠ k := fun e => by rw [e] at h3; rw [show frB b k 8 k = 0 from upB_s _ _ _ _] at h3; omega
    have q2 : b 8 q = 1 := by rw [← h3]; exact (upB_i hak).symm
    exact ht q h1 h2 q2 s hs
set_option maxHeartbeats 4000000 in
set_option maxRecDepth 100000 in
theorem m_putPlanes_null {l : Launch} {D : va_G} {kc : Nat → ClassId} {N : Nat} {ad : Nat → Nat} {S : St} {k : Nat} (hg : vg N) (hk : k < 30) : MetK l yX3_putPlanes cX3_putPlanes 5 (none) 1 0 0 24 D kc (wl kc N ad S) [.ref (ad 0), .int (iZ (k : Int)), .null, .null] (QV D kc (wl kc N ad S) (fun ws' => ws' = wl kc N ad (fSt S k none none))) := by
  refine MetK.of (by decide +kernel) (Nat.le_of_ble_eq_true rfl) ?_
  intro p e s m below meth c C
  have hA : ∀ q, s.heap.size ≤ q → va_A (wl kc N ad S) s.heap.size q := fun _ h => Or.inr h
  show V p l e { frames := 1, cells := 0, slots := 0, locals := 24 } s m ([.ref (ad 0), .int (iZ (k : Int)), .null, .null] : List Value).toArray below meth c (MQ below (QV D kc (wl kc N ad S) (fun ws' => ws' = wl kc N ad (fSt S k none none)) s.heap.size) ([.ref (ad 0), .int (iZ (k : Int)), .null, .null] : List Value).toArray s 0 0 (va_A (wl kc N ad S) s.heap.size)) D (va_A (wl kc N ad S) s.heap.size) 5 0 0 (wl kc N ad S) 0 [(0, .ref (ad 0)), (1, .int (iZ (k : Int))), (2, .null), (3, .null)] []
  refine v_iconst 0 C (iZ 2) dX3_putPlanes_0 rfl ?_
  refine v_iconst 1 C (iZ 2) dX3_putPlanes_1 rfl ?_
  refine v_iload_n 2 1 C dX3_putPlanes_2 rfl ?_
  refine z_imul 3 C dX3_putPlanes_3 ?_
  refine z_iadd 4 C dX3_putPlanes_4 ?_
  refine v_istore 5 [(4, .int (iZ (2 + (2 * (k : Int))))), (0, .ref (ad 0)), (1, .int (iZ (k : Int))), (2, .null), (3, .null)] C dX3_putPlanes_5 (by decide) rfl ?_
  refine v_iload 7 0 C dX3_putPlanes_7 rfl ?_
  refine v_iconst 9 C (iZ 2) dX3_putPlanes_9 rfl ?_
  refine z_icmp_lt 10 40 C (by first | assumption | exact ⟨by omega, by omega⟩) (by first | assumption | exact ⟨by omega, by omega⟩) dX3_putPlanes_10 (by decide) (fun c10_0 => absurd c10_0 (by omega)) (fun c10_0 => ?_)
  refine v_iload 13 0 C dX3_putPlanes_13 rfl ?_
  refine v_iconst 15 C (iZ 1) dX3_putPlanes_15 rfl ?_
  refine z_iadd 16 C dX3_putPlanes_16 ?_
  refine v_bipush 17 C (iZ 62) dX3_putPlanes_17 (by decide) ?_
  refine z_icmp_ge 19 40 C (by first | assumption | exact ⟨by omega, by omega⟩) (by first | assumption | exact ⟨by omega, by omega⟩) dX3_putPlanes_19 (by decide) (fun c19_1 => absurd c19_1 (by omega)) (fun c19_1 => ?_)
  refine v_aload_n 22 1 C dX3_putPlanes_22 rfl ?_
  refine g_Pg_planes 23 C (vg.o hg).1 (vg.o hg).2 lk_210 dX3_putPlanes_23 ?_
  refine v_iload 26 0 C dX3_putPlanes_26 rfl ?_
  refine v_aload_nN 28 3 C dX3_putPlanes_28 rfl ?_
  refine v_aastLN 29 C (vg.q hg).1 (vg.q hg).2 (2 * k + 2) (izn (by omega)) (by omega) dX3_putPlanes_29 ?_
  refine v_aload_n 30 1 C dX3_putPlanes_30 rfl ?_
  refine g_Pg_planes 31 C (vg.o hg).1 (vg.o hg).2 lk_210 dX3_putPlanes_31 ?_
  refine v_iload 34 0 C dX3_putPlanes_34 rfl ?_
  refine v_iconst 36 C (iZ 1) dX3_putPlanes_36 rfl ?_
  refine z_iadd 37 C dX3_putPlanes_37 ?_
  refine v_aload_nN 38 4 C dX3_putPlanes_38 rfl ?_
  refine v_aastLN 39 C (vg.q hg).1 (vg.q hg).2 (2 * k + 3) (izn (by omega)) (by omega) dX3_putPlanes_39 ?_
  exact v_vret 40 C (rfl) dX3_putPlanes_40

set_option maxHeartbeats 4000000 in
set_option maxRecDepth 100000 in
theorem c_free_p {l : Launch} {D : va_G} {kc : Nat → ClassId} {N : Nat} {ad : Nat → Nat} {S : St} {b : Bs} {t : Ts} (hg : vg N) (hN : N = 66 + 15 * bn b) (hI : Inv b) (hC : RC S b t) (hE : LE b t) {z : Int} (rz : r32 z) (hp : ¬ isP b z) : MetK l yX3_free cX3_free 3 (some FieldType.int) 4 0 0 92 D kc (wl kc N ad S) [.ref (ad 0), .int (iZ z)] (QI D kc (wl kc N ad S) (cQ kc N ad S (-1) (refB b 1))) := by
  refine MetK.of (by decide +kernel) (Nat.le_of_ble_eq_true rfl) ?_
  intro p e s m below meth c C
  have hA : ∀ q, s.heap.size ≤ q → va_A (wl kc N ad S) s.heap.size q := fun _ h => Or.inr h
  show V p l e { frames := 4, cells := 0, slots := 0, locals := 92 } s m ([.ref (ad 0), .int (iZ z)] : List Value).toArray below meth c (MQ below (QI D kc (wl kc N ad S) (cQ kc N ad S (-1) (refB b 1)) s.heap.size) ([.ref (ad 0), .int (iZ z)] : List Value).toArray s 0 0 (va_A (wl kc N ad S) s.heap.size)) D (va_A (wl kc N ad S) s.heap.size) 3 0 0 (wl kc N ad S) 0 [(0, .ref (ad 0)), (1, .int (iZ z))] []
  have hP := hC.1
  have hW := hC.2.1
  have hEn := hC.2.2.1
  have hR := hC.2.2.2
  have hb0 := hI.1
  refine v_aload_n 0 0 C dX3_free_0 rfl ?_
  refine v_iload_n 1 1 C dX3_free_1 rfl ?_
  refine v_callq 2 hA (rV_Pg 2 C L_RX3_90 lk_244 lk_3 (m_partThere_no hg hN hI hP rz hp) (vg.o hg) rfl ⟨rfl, rfl⟩ (rm_ok rfl) dX3_free_2) (fun r1 w2 h3 => ?_)
  obtain ⟨e_r1, rfl⟩ := h3
  refine v_eqv .null (by rw [e_r1]; rfl) ?_
  refine v_astore_nN 5 [(2, .null), (0, .ref (ad 0)), (1, .int (iZ z))] C dX3_free_5 (by decide) rfl ?_
  refine v_aload_nN 6 0 C dX3_free_6 rfl ?_
  refine v_ifnonnullN 7 C dX3_free_7 ?_
  refine v_aload_n 10 1 C dX3_free_10 rfl ?_
  refine v_iconst 11 C (iZ (-1)) dX3_free_11 rfl ?_
  refine v_calli 12 hA (rV_Pg 12 C L_RX3_62 lk_252 lk_5 (m_refuse hg hN hI hP 1 (by decide) (by decide)) (vg.o hg) rfl ⟨rfl, rfl⟩ (rm_ok rfl) dX3_free_12) (fun r4 w5 h6 => ?_)
  obtain ⟨e_r4, rfl⟩ := h6
  refine v_eqi (iZ (-1)) (e_r4) ?_
  exact v_iret 15 C (⟨rfl, refS S b 1, t, rfl, refRC hC, refLE hE, refInv hI, refM⟩) dX3_free_15

set_option maxHeartbeats 4000000 in
set_option maxRecDepth 100000 in
theorem c_free_3 {l : Launch} {D : va_G} {kc : Nat → ClassId} {N : Nat} {ad : Nat → Nat} {S : St} {b : Bs} {t : Ts} (hg : vg N) (hN : N = 66 + 15 * bn b) (hI : Inv b) (hC : RC S b t) (hE : LE b t) {k : Nat} (hk : k < bn b) (ht : b 8 k = 1) (h3 : 0 < hangN b k) : MetK l yX3_free cX3_free 3 (some FieldType.int) 4 0 0 92 D kc (wl kc N ad S) [.ref (ad 0), .int (iZ (k : Int))] (QI D kc (wl kc N ad S) (cQ kc N ad S (-3) (refB b 3))) := by
  refine MetK.of (by decide +kernel) (Nat.le_of_ble_eq_true rfl) ?_
  intro p e s m below meth c C
  have hA : ∀ q, s.heap.size ≤ q → va_A (wl kc N ad S) s.heap.size q := fun _ h => Or.inr h
  show V p l e { frames := 4, cells := 0, slots := 0, locals := 92 } s m ([.ref (ad 0), .int (iZ (k : Int))] : List Value).toArray below meth c (MQ below (QI D kc (wl kc N ad S) (cQ kc N ad S (-3) (refB b 3)) s.heap.size) ([.ref (ad 0), .int (iZ (k : Int))] : List Value).toArray s 0 0 (va_A (wl kc N ad S) s.heap.size)) D (va_A (wl kc N ad S) s.heap.size) 3 0 0 (wl kc N ad S) 0 [(0, .ref (ad 0)), (1, .int (iZ (k : Int)))] []
  have hP := hC.1
  have hW := hC.2.1
  have hEn := hC.2.2.1
  have hR := hC.2.2.2
  have hb0 := hI.1
  have hcb := cnt_b (hgP b k) (bn b)
  have hhn : hangN b k = cnt (hgP b k) (bn b) := rfl
  refine v_aload_n 0 0 C dX3_free_0 rfl ?_
  refine v_iload_n 1 1 C dX3_free_1 rfl ?_
  refine v_callq 2 hA (rV_Pg 2 C L_RX3_90 lk_244 lk_3 (m_partThere hg hN hI hP hk ht) (vg.o hg) rfl ⟨rfl, rfl⟩ (rm_ok rfl) dX3_free_2) (fun r1 w2 h3 => ?_)
  obtain ⟨e_r1, rfl⟩ := h3
  refine v_eqv (.ref (ad (66 + 15 * k))) (by rw [e_r1]; rfl) ?_
  refine v_astore_n 5 [(2, .ref (ad (66 + 15 * k))), (0, .ref (ad 0)), (1, .int (iZ (k : Int)))] C dX3_free_5 (by decide) rfl ?_
  refine v_aload_n 6 0 C dX3_free_6 rfl ?_
  refine v_ifnonnull 7 16 C dX3_free_7 (by decide) ?_
  refine v_aload_n 16 1 C dX3_free_16 rfl ?_
  refine v_iload_n 17 2 C dX3_free_17 rfl ?_
  refine v_calli 18 hA (rV_Pg 18 C L_RX3_94 lk_340 lk_13 (m_hangingOn hg hN hI hP hk) (vg.o hg) rfl ⟨rfl, rfl⟩ (rm_ok rfl) dX3_free_18) (fun r4 w5 h6 => ?_)
  obtain ⟨e_r4, rfl⟩ := h6
  refine v_eqi (iZ (hangN b k)) (e_r4) ?_
  refine z_if_le 21 31 C (by first | assumption | exact ⟨by omega, by omega⟩) dX3_free_21 (by decide) (fun c21_0 => absurd c21_0 (by omega)) (fun c21_0 => ?_)
  refine v_aload_n 24 1 C dX3_free_24 rfl ?_
  refine v_bipush 25 C (iZ (-3)) dX3_free_25 (by decide) ?_
  refine v_calli 27 hA (rV_Pg 27 C L_RX3_62 lk_252 lk_5 (m_refuse hg hN hI hP 3 (by decide) (by decide)) (vg.o hg) rfl ⟨rfl, rfl⟩ (rm_ok rfl) dX3_free_27) (fun r7 w8 h9 => ?_)
  obtain ⟨e_r7, rfl⟩ := h9
  refine v_eqi (iZ (-3)) (e_r7) ?_
  exact v_iret 30 C (⟨rfl, refS S b 3, t, rfl, refRC hC, refLE hE, refInv hI, refM⟩) dX3_free_30

set_option maxHeartbeats 4000000 in
set_option maxRecDepth 100000 in
theorem c_free {l : Launch} {D : va_G} {kc : Nat → ClassId} {N : Nat} {ad : Nat → Nat} {S : St} {b : Bs} {t : Ts} (hg : vg N) (hN : N = 66 + 15 * bn b) (hI : Inv b) (hC : RC S b t) (hE : LE b t) {k : Nat} (hk : k < bn b) (ht : b 8 k = 1) (h3 : ¬ 0 < hangN b k) : MetK l yX3_free cX3_free 3 (some FieldType.int) 4 0 0 92 D kc (wl kc N ad S) [.ref (ad 0), .int (iZ (k : Int))] (QI D kc (wl kc N ad S) (cQ kc N ad S (1) (frB b k))) := by
  refine MetK.of (by decide +kernel) (Nat.le_of_ble_eq_true rfl) ?_
  intro p e s m below meth c C
  have hA : ∀ q, s.heap.size ≤ q → va_A (wl kc N ad S) s.heap.size q := fun _ h => Or.inr h
  show V p l e { frames := 4, cells := 0, slots := 0, locals := 92 } s m ([.ref (ad 0), .int (iZ (k : Int))] : List Value).toArray below meth c (MQ below (QI D kc (wl kc N ad S) (cQ kc N ad S (1) (frB b k)) s.heap.size) ([.ref (ad 0), .int (iZ (k : Int))] : List Value).toArray s 0 0 (va_A (wl kc N ad S) s.heap.size)) D (va_A (wl kc N ad S) s.heap.size) 3 0 0 (wl kc N ad S) 0 [(0, .ref (ad 0)), (1, .int (iZ (k : Int)))] []
  have hP := hC.1
  have hW := hC.2.1
  have hEn := hC.2.2.1
  have hR := hC.2.2.2
  have hb0 := hI.1
  have hcb := cnt_b (hgP b k) (bn b)
  have hhn : hangN b k = cnt (hgP b k) (bn b) := rfl
  refine v_aload_n 0 0 C dX3_free_0 rfl ?_
  refine v_iload_n 1 1 C dX3_free_1 rfl ?_
  refine v_callq 2 hA (rV_Pg 2 C L_RX3_90 lk_244 lk_3 (m_partThere hg hN hI hP hk ht) (vg.o hg) rfl ⟨rfl, rfl⟩ (rm_ok rfl) dX3_free_2) (fun r1 w2 h3 => ?_)
  obtain ⟨e_r1, rfl⟩ := h3
  refine v_eqv (.ref (ad (66 + 15 * k))) (by rw [e_r1]; rfl) ?_
  refine v_astore_n 5 [(2, .ref (ad (66 + 15 * k))), (0, .ref (ad 0)), (1, .int (iZ (k : Int)))] C dX3_free_5 (by decide) rfl ?_
  refine v_aload_n 6 0 C dX3_free_6 rfl ?_
  refine v_ifnonnull 7 16 C dX3_free_7 (by decide) ?_
  refine v_aload_n 16 1 C dX3_free_16 rfl ?_
  refine v_iload_n 17 2 C dX3_free_17 rfl ?_
  refine v_calli 18 hA (rV_Pg 18 C L_RX3_94 lk_340 lk_13 (m_hangingOn hg hN hI hP hk) (vg.o hg) rfl ⟨rfl, rfl⟩ (rm_ok rfl) dX3_free_18) (fun r4 w5 h6 => ?_)
  obtain ⟨e_r4, rfl⟩ := h6
  refine v_eqi (iZ (hangN b k)) (e_r4) ?_
  refine z_if_le 21 31 C (by first | assumption | exact ⟨by omega, by omega⟩) dX3_free_21 (by decide) (fun c21_0 => ?_) (fun c21_0 => absurd (by omega) c21_0)
  refine v_aload_n 31 0 C dX3_free_31 rfl ?_
  refine v_iconst 32 C (iZ 0) dX3_free_32 rfl ?_
  refine s_Pt_there 33 C (vp.o (vp_k hN hk)).1 (vp.o (vp_k hN hk)).2 (zn01 (Or.inl rfl)) (zf01 (Or.inl rfl)) lk_144 dX3_free_33 ?_
  refine v_aload_n 36 1 C dX3_free_36 rfl ?_
  refine v_iload_n 37 2 C dX3_free_37 rfl ?_
  refine v_null 38 C dX3_free_38 ?_
  refine v_null 39 C dX3_free_39 ?_
  refine v_callv 40 hA (rV_Pg 40 C L_RX3_100 lk_309 lk_10 (m_putPlanes_null hg (by omega)) (vg.o hg) rfl ⟨rfl, rfl⟩ (rm_ok rfl) dX3_free_40) (fun w8 h9 => ?_)
  obtain rfl := h9
  refine v_iconst 43 C (iZ 1) dX3_free_43 rfl ?_
  exact v_iret 44 C (⟨rfl, fSt (pI S (66 + 15 * k) 11 (iZ 0)) k none none, t, rfl, frRC hk hI hC, frLE hE, frInv hI hk h3, ((sameM_pI (nM_hi (by omega))).tr (sameM_pR (nM_lo (by decide)))).tr (sameM_pR (nM_lo (by decide)))⟩) dX3_free_44
