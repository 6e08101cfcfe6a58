/-! ADD: a page with one part more -/
theorem ptB_lo {b : Bs} {kd a b_ c d f : Int} {u q : Nat} {g i : Nat} (h : g = 1 ∨ g = 2 ∨ g = 9 ∨ ((g = 3 ∨ g = 7 ∨ g = 8) ∧ i < bn b) ∨ ((g = 4 ∨ g = 5 ∨ g = 6) ∧ i < 2 * bn b)) : ptB b kd u a q b_ c d f g i = b g i := by
  unfold ptB upB
  rw [if_neg (by omega), if_neg (by omega), if_neg (by omega), if_neg (by omega), if_neg (by omega), if_neg (by omega), if_neg (by omega), if_neg (by omega), if_neg (by omega), if_neg (by omega)]
theorem ptB_new {b : Bs} {kd a b_ c d f : Int} {u q : Nat} : ptB b kd u a q b_ c d f 0 0 = b 0 0 + 1 ∧ ptB b kd u a q b_ c d f 3 (bn b) = kd ∧ ptB b kd u a q b_ c d f 7 (bn b) = f ∧ ptB b kd u a q b_ c d f 8 (bn b) = 1 ∧ (ptB b kd u a q b_ c d f 4 (2 * bn b) = u ∧ ptB b kd u a q b_ c d f 4 (2 * bn b + 1) = q) ∧ (ptB b kd u a q b_ c d f 5 (2 * bn b) = a ∧ ptB b kd u a q b_ c d f 5 (2 * bn b + 1) = b_) ∧ ptB b kd u a q b_ c d f 6 (2 * bn b) = c ∧ ptB b kd u a q b_ c d f 6 (2 * bn b + 1) = d := by
  refine ⟨?_, ?_, ?_, ?_, ⟨?_, ?_⟩, ⟨?_, ?_⟩, ?_, ?_⟩ <;> simp [ptB, upB]
theorem ptB_thL {b : Bs} {kd a b_ c d f : Int} {u q : Nat} (hI : Inv b) {p : Nat} (h : thL b p) : thL (ptB b kd u a q b_ c d f) p := by
  rcases h with h | ⟨h1, h2, h3⟩
  · exact Or.inl h
  · refine Or.inr ⟨h1, ?_, ?_⟩
    · rw [ptB_bn hI]; omega
    · rw [ptB_lo (by omega)]; exact h3
theorem ptB_pl {b : Bs} {kd a b_ c d f : Int} {u q : Nat} (hI : Inv b) {p : Nat} : plI (ptB b kd u a q b_ c d f) p = if p = 2 * bn b + 2 ∨ p = 2 * bn b + 3 then some (plN p) else plI b p := by
  have N := ptB_new (b := b) (kd := kd) (a := a) (b_ := b_) (c := c) (d := d) (f := f) (u := u) (q := q)
  unfold plI
  rw [ptB_bn hI]
  by_cases h : p = 2 * bn b + 2 ∨ p = 2 * bn b + 3
  · rw [if_pos h, if_pos]
    right
    refine ⟨by omega, ?_⟩
    rw [show p / 2 - 1 = bn b by omega]; exact N.2.2.2.1
  · rw [if_neg h]
    by_cases h2 : p < 2
    · rw [if_pos (Or.inl h2), if_pos (Or.inl h2)]
    · by_cases h3 : p / 2 - 1 < bn b
      · rw [ptB_lo (by omega)]
        by_cases h4 : b 8 (p / 2 - 1) = 1
        · rw [if_pos (Or.inr ⟨by omega, h4⟩), if_pos (Or.inr ⟨h3, h4⟩)]
        · rw [if_neg (by omega), if_neg (by omega)]
      · rw [if_neg (by omega), if_neg (by omega)]
theorem ptInv {b : Bs} {kd a b_ c d f : Int} {u q : Nat} (hI : Inv b) (hn : bn b < 30) (hk : 0 ≤ kd ∧ kd ≤ 2) (hu : thL b u) (hq : thL b q) (ha : 0 ≤ a ∧ a ≤ 1000) (hb : 0 ≤ b_ ∧ b_ ≤ 1000) (hc : 1 ≤ c ∧ c ≤ 1000) (hd : 1 ≤ d ∧ d ≤ 1000) (hf : b01 f) (h1 : kd = 1 → c = b_ ∧ d = a) : Inv (ptB b kd u a q b_ c d f) := by
  obtain ⟨n0, n3, n7, n8, ⟨n4, n4'⟩, ⟨n5, n5'⟩, n6, n6'⟩ := ptB_new (b := b) (kd := kd) (a := a) (b_ := b_) (c := c) (d := d) (f := f) (u := u) (q := q)
  have hbn := ptB_bn hI (kd := kd) (a := a) (b_ := b_) (c := c) (d := d) (f := f) (u := u) (q := q)
  have h00 := hI.1.1
  have lu : ∀ p, thL b p → p < 2 * bn b + 2 := fun p h => by rcases h with h | h <;> omega
  have hu2 := lu u hu
  have hq2 := lu q hq
  refine ⟨⟨?_, ?_⟩, ?_, ?_, fun k hk2 => ?_, fun k hk2 i hi => ?_⟩
  · rw [n0, hbn]; omega
  · rw [hbn]; omega
  · rw [ptB_lo (by omega)]; exact hI.2.1
  · rw [ptB_lo (by omega)]; exact hI.2.2.1
  · rw [hbn] at hk2
    by_cases z : k < bn b
    · rw [ptB_lo (by omega), ptB_lo (by omega), ptB_lo (by omega), ptB_lo (by omega), ptB_lo (by omega), ptB_lo (by omega), ptB_lo (by omega)]
      exact hI.2.2.2.1 k z
    · have e : k = bn b := by omega
      subst e
      rw [n3, n7, n8, n5, n5', n6, n6']
      exact ⟨hk, hf, Or.inr rfl, fun z => ⟨(h1 z).1, (h1 z).2⟩⟩
  · rw [hbn] at hk2
    by_cases z : k < bn b
    · rw [ptB_lo (by omega), ptB_lo (by omega), ptB_lo (by omega), ptB_lo (g := 8) (by omega)]
      have A := hI.2.2.2.2 k z i hi
      exact ⟨A.1, A.2.1, A.2.2.1, fun y => ptB_thL hI (A.2.2.2 y)⟩
    · have e : k = bn b := by omega
      subst e
      rcases hi with rfl | rfl
      · rw [n4, n5, n6]
        exact ⟨⟨by omega, by omega⟩, ha, hc, fun _ => by rw [Int.toNat_natCast]; exact ptB_thL hI hu⟩
      · rw [n4', n5', n6']
        exact ⟨⟨by omega, by omega⟩, hb, hd, fun _ => by rw [Int.toNat_natCast]; exact ptB_thL hI hq⟩
def newS (N : Nat) (S : St) (b : Bs) (kd : Int) (u : Nat) (a : Int) (q : Nat) (b_ c d f : Int) : St := fSt (pI (pR (pI (likeT (stG N S) (66 + 15 * bn b) kd (u : Int) a (q : Int) b_ c d f) (66 + 15 * bn b) 11 (iZ 1)) 1 (bn b) (some (66 + 15 * bn b))) 0 7 (iZ (b 0 0 + 1))) (bn b) (some (66 + 15 * bn b + 13)) (some (66 + 15 * bn b + 14))
theorem newS_I {N : Nat} {S : St} {b : Bs} {kd a b_ c d f : Int} {u q : Nat} {m f_ : Nat} (h : ¬ (m = 66 + 15 * bn b ∧ 5 ≤ f_) ∧ ¬ (m = 66 + 15 * bn b + 13) ∧ ¬ (m = 66 + 15 * bn b + 14) ∧ ¬ (m = 0 ∧ f_ = 7)) (hm : m < N) : gI (newS N S b kd u a q b_ c d f) m f_ = gI S m f_ := by
  show gI (pI (pR (pI (likeT (stG N S) (66 + 15 * bn b) kd (u : Int) a (q : Int) b_ c d f) (66 + 15 * bn b) 11 (iZ 1)) 1 (bn b) (some (66 + 15 * bn b))) 0 7 (iZ (b 0 0 + 1))) m f_ = _
  unfold likeT cutT hangT
  rw [gI_pI, if_neg (by omega), gI_pR, gI_pI, if_neg (by omega), gI_pI, if_neg (by omega), gI_pI, if_neg (by omega), gI_pI, if_neg (by omega), gI_pI, if_neg (by omega), gI_pI, if_neg (by omega), gI_pI, if_neg (by omega), gI_pI, if_neg (by omega), gI_pI, if_neg (by omega)]
  exact stG_I hm
theorem newS_A {N : Nat} {S : St} {b : Bs} {kd a b_ c d f : Int} {u q : Nat} {m f_ : Nat} (hm : m < N) : gA (newS N S b kd u a q b_ c d f) m f_ = gA S m f_ := stG_A hm
theorem newS_i {N : Nat} {S : St} {b : Bs} {kd a b_ c d f : Int} {u q : Nat} : gI (newS N S b kd u a q b_ c d f) (66 + 15 * bn b) 5 = iZ kd ∧ gI (newS N S b kd u a q b_ c d f) (66 + 15 * bn b) 6 = iZ (u : Int) ∧ gI (newS N S b kd u a q b_ c d f) (66 + 15 * bn b) 7 = iZ a ∧ gI (newS N S b kd u a q b_ c d f) (66 + 15 * bn b) 8 = iZ (q : Int) ∧ gI (newS N S b kd u a q b_ c d f) (66 + 15 * bn b) 9 = iZ b_ ∧ gI (newS N S b kd u a q b_ c d f) (66 + 15 * bn b) 10 = iZ f ∧ gI (newS N S b kd u a q b_ c d f) (66 + 15 * bn b) 11 = iZ 1 ∧ gI (newS N S b kd u a q b_ c d f) (66 + 15 * bn b + 13) 4 = iZ c ∧ gI (newS N S b kd u a q b_ c d f) (66 + 15 * bn b + 14) 4 = iZ d ∧ gI (newS N S b kd u a q b_ c d f) 0 7 = iZ (b 0 0 + 1) := by
  refine ⟨?_, ?_, ?_, ?_, ?_, ?_, ?_, ?_, ?_, ?_⟩ <;> (unfold newS fSt likeT cutT hangT; simp [gI_pI, gI_pR])
theorem newS_R1 {N : Nat} {S : St} {b : Bs} {kd a b_ c d f : Int} {u q : Nat} {k : Nat} (hk : k < 30) : gR (newS N S b kd u a q b_ c d f) 1 k = if k = bn b then some (66 + 15 * bn b) else gR S 1 k := by
  unfold newS fSt
  rw [gR_pR, if_neg (by omega), gR_pR, if_neg (by omega), gR_pI, gR_pR]
  by_cases h : k = bn b
  · rw [if_pos ⟨rfl, h⟩, if_pos h]
  · rw [if_neg (fun z => h z.2), if_neg h]
    exact stG_R1 hk
theorem newS_R2 {N : Nat} {S : St} {b : Bs} {kd a b_ c d f : Int} {u q : Nat} {p : Nat} (hp : p < 62) : gR (newS N S b kd u a q b_ c d f) 2 p = if p = 2 * bn b + 2 ∨ p = 2 * bn b + 3 then some (plN p) else gR S 2 p := by
  unfold newS fSt
  rw [gR_pR]
  by_cases h : p = 2 * bn b + 3
  · rw [if_pos ⟨rfl, h⟩, if_pos (Or.inr h), h]
    congr 1
    exact (plN_p (bn b) 1 (by decide)).symm
  · rw [if_neg (fun z => h z.2), gR_pR]
    by_cases h2 : p = 2 * bn b + 2
    · rw [if_pos ⟨rfl, h2⟩, if_pos (Or.inl h2), h2]
      congr 1
      exact (plN_p (bn b) 0 (by decide)).symm
    · rw [if_neg (fun z => h2 z.2), if_neg (by omega), gR_pI, gR_pR, if_neg (by omega)]
      exact stG_R2 hp
theorem newS_M {N : Nat} {S : St} {b : Bs} {kd a b_ c d f : Int} {u q : Nat} (h : 66 ≤ N) : sameOn atM S (newS N S b kd u a q b_ c d f) := by
  unfold newS fSt
  exact ((((((stG_M h).tr (same_like (nM_hi (by omega)) (nM_hi (by omega)) (nM_hi (by omega)))).tr (sameM_pI (nM_hi (by omega)))).tr (sameM_pR (nM_lo (by decide)))).tr (sameM_pI (nM_lo (by decide)))).tr (sameM_pR (nM_lo (by decide)))).tr (sameM_pR (nM_lo (by decide)))
theorem new_SF {N : Nat} {S : St} {t : Ts} {b : Bs} {kd a b_ c d f : Int} {u q : Nat} (hN : N = 66 + 15 * bn b) (hI : Inv b) (hC : RC S b t) (hE : LE b t) : SF (newS N S b kd u a q b_ c d f) (newS N S b kd u a q b_ c d f) (ptB b kd u a q b_ c d f) t (bn b) := by
  obtain ⟨⟨⟨a1, a2, a3⟩, a4, a5, a6, ⟨a7, a8⟩, a9⟩, hw, he, ht⟩ := hC
  obtain ⟨n0, n3, n7, n8, ⟨n4, n4'⟩, ⟨n5, n5'⟩, n6, n6'⟩ := ptB_new (b := b) (kd := kd) (a := a) (b_ := b_) (c := c) (d := d) (f := f) (u := u) (q := q)
  have hbn := ptB_bn hI (kd := kd) (a := a) (b_ := b_) (c := c) (d := d) (f := f) (u := u) (q := q)
  have NI := newS_i (N := N) (S := S) (b := b) (kd := kd) (a := a) (b_ := b_) (c := c) (d := d) (f := f) (u := u) (q := q)
  have I := fun m f_ h hm => newS_I (N := N) (S := S) (b := b) (kd := kd) (a := a) (b_ := b_) (c := c) (d := d) (f := f) (u := u) (q := q) (m := m) (f_ := f_) h hm
  have A := fun m f_ hm => newS_A (N := N) (S := S) (b := b) (kd := kd) (a := a) (b_ := b_) (c := c) (d := d) (f := f) (u := u) (q := q) (m := m) (f_ := f_) hm
  refine ⟨⟨⟨?_, ?_, ?_⟩, fun r hr => ?_, fun k hk => ?_, fun p hp => ?_, ⟨?_, ?_⟩, fun k hk => ?_⟩, fun s hs => ?_, fun s hs => ?_, fun k h1 h2 h3 s hs => ?_, fun k h1 h2 h3 s hs => ?_, sameOn.rf⟩
  · rw [I 0 5 (by omega) (by omega), ptB_lo (by omega)]; exact a1
  · rw [I 0 6 (by omega) (by omega), ptB_lo (by omega)]; exact a2
  · rw [NI.2.2.2.2.2.2.2.2.2, n0]
  · rw [A 3 r (by omega), ptB_lo (by omega)]; exact a4 r hr
  · rw [newS_R1 hk, hbn, a5 k hk]
    by_cases z : k = bn b
    · rw [if_pos z, if_pos (by omega), z]
    · rw [if_neg z]
      by_cases y : k < bn b
      · rw [if_pos y, if_pos (by omega)]
      · rw [if_neg y, if_neg (by omega)]
  · rw [newS_R2 hp, ptB_pl hI, a6 p hp]
  · rw [I 35 4 (by omega) (by omega), ptB_lo (by omega)]; exact a7
  · rw [I 40 4 (by omega) (by omega), ptB_lo (by omega)]; exact a8
  · rw [hbn] at hk
    by_cases z : k < bn b
    · rw [I (66 + 15 * k) 5 (by omega) (by omega), I (66 + 15 * k) 6 (by omega) (by omega), I (66 + 15 * k) 7 (by omega) (by omega), I (66 + 15 * k) 8 (by omega) (by omega), I (66 + 15 * k) 9 (by omega) (by omega), I (66 + 15 * k) 10 (by omega) (by omega), I (66 + 15 * k) 11 (by omega) (by omega), I (66 + 15 * k + 13) 4 (by omega) (by omega), I (66 + 15 * k + 14) 4 (by omega) (by omega)]
      rw [ptB_lo (by omega), ptB_lo (by omega), ptB_lo (by omega), ptB_lo (by omega), ptB_lo (by omega), ptB_lo (by omega), ptB_lo (by omega), ptB_lo (by omega), ptB_lo (by omega)]
      exact a9 k z
    · have e : k = bn b := by omega
      subst e
      rw [n3, n4, n4', n5, n5', n6, n6', n7, n8]
      exact ⟨NI.1, NI.2.1, NI.2.2.1, NI.2.2.2.1, NI.2.2.2.2.1, NI.2.2.2.2.2.1, NI.2.2.2.2.2.2.1, NI.2.2.2.2.2.2.2.1, NI.2.2.2.2.2.2.2.2.1⟩
  · rw [A 24 s (by omega), A 25 s (by omega), A 28 s (by omega), A 29 s (by omega), A 32 s (by omega), A 33 s (by omega), A 39 s (by omega), A 44 s (by omega)]; exact hw s hs
  · rw [A 37 s (by omega), A 38 s (by omega), A 42 s (by omega), A 43 s (by omega), ptB_lo (by omega)]; exact he s hs
  · rw [ptB_lo (by omega)] at h3
    unfold RT1
    rw [A (66 + 15 * k + 9 + 3) s (by omega), A (66 + 15 * k + 1 + 1) s (by omega), A (66 + 15 * k + 1 + 2) s (by omega), A (66 + 15 * k + 5 + 1) s (by omega), A (66 + 15 * k + 5 + 2) s (by omega), A (66 + 15 * k + 9 + 1) s (by omega), A (66 + 15 * k + 9 + 2) s (by omega)]
    exact ht k h1 h1 h3 s hs
  · rw [ptB_lo (by omega)] at h3
    exact LE1_b hI h1 (fun i hi => ⟨ptB_lo (by omega), ptB_lo (by omega), ptB_lo (by omega)⟩) (ptB_lo (by omega)) (fun i hi => ptB_lo (by omega)) (hE k h1 h1 h3 s hs)
set_option maxHeartbeats 4000000 in
set_option maxRecDepth 100000 in
theorem m_putPlanes {l : Launch} {D : va_G} {kc : Nat → ClassId} {N : Nat} {ad : Nat → Nat} {S : St} {k : Nat} (hg : vg N) (hk : k < 30) (hv : vp N (66 + 15 * k)) : MetK l yX3_putPlanes cX3_putPlanes 5 (none) 1 0 0 24 D kc (wl kc N ad S) [.ref (ad 0), .int (iZ (k : Int)), .ref (ad (66 + 15 * k + 13)), .ref (ad (66 + 15 * k + 14))] (QV D kc (wl kc N ad S) (fun ws' => ws' = wl kc N ad (fSt S k (some (66 + 15 * k + 13)) (some (66 + 15 * k + 14))))) := by
  refine MetK.of (by decide +kernel) (Nat.le_of_ble_eq_true rfl) ?_
  intro p e s m below meth c C
  have hA : ∀ q, s.heap.size ≤ q → va_A (wl kc N ad S) s.heap.size q := fun _ h => Or.inr h
  show V p l e { frames := 1, cells := 0, slots := 0, locals := 24 } s m ([.ref (ad 0), .int (iZ (k : Int)), .ref (ad (66 + 15 * k + 13)), .ref (ad (66 + 15 * k + 14))] : List Value).toArray below meth c (MQ below (QV D kc (wl kc N ad S) (fun ws' => ws' = wl kc N ad (fSt S k (some (66 + 15 * k + 13)) (some (66 + 15 * k + 14)))) s.heap.size) ([.ref (ad 0), .int (iZ (k : Int)), .ref (ad (66 + 15 * k + 13)), .ref (ad (66 + 15 * k + 14))] : List Value).toArray s 0 0 (va_A (wl kc N ad S) s.heap.size)) D (va_A (wl kc N ad S) s.heap.size) 5 0 0 (wl kc N ad S) 0 [(0, .ref (ad 0)), (1, .int (iZ (k : Int))), (2, .ref (ad (66 + 15 * k + 13))), (3, .ref (ad (66 + 15 * k + 14)))] []
  refine v_iconst 0 C (iZ 2) dX3_putPlanes_0 rfl ?_
  refine v_iconst 1 C (iZ 2) dX3_putPlanes_1 rfl ?_
  refine v_iload_n 2 1 C dX3_putPlanes_2 rfl ?_
  refine z_imul 3 C dX3_putPlanes_3 ?_
  refine z_iadd 4 C dX3_putPlanes_4 ?_
  refine v_istore 5 [(4, .int (iZ (2 + (2 * (k : Int))))), (0, .ref (ad 0)), (1, .int (iZ (k : Int))), (2, .ref (ad (66 + 15 * k + 13))), (3, .ref (ad (66 + 15 * k + 14)))] C dX3_putPlanes_5 (by decide) rfl ?_
  refine v_iload 7 0 C dX3_putPlanes_7 rfl ?_
  refine v_iconst 9 C (iZ 2) dX3_putPlanes_9 rfl ?_
  refine z_icmp_lt 10 40 C (by first | assumption | exact ⟨by omega, by omega⟩) (by first | assumption | exact ⟨by omega, by omega⟩) dX3_putPlanes_10 (by decide) (fun c10_0 => absurd c10_0 (by omega)) (fun c10_0 => ?_)
  refine v_iload 13 0 C dX3_putPlanes_13 rfl ?_
  refine v_iconst 15 C (iZ 1) dX3_putPlanes_15 rfl ?_
  refine z_iadd 16 C dX3_putPlanes_16 ?_
  refine v_bipush 17 C (iZ 62) dX3_putPlanes_17 (by decide) ?_
  refine z_icmp_ge 19 40 C (by first | assumption | exact ⟨by omega, by omega⟩) (by first | assumption | exact ⟨by omega, by omega⟩) dX3_putPlanes_19 (by decide) (fun c19_1 => absurd c19_1 (by omega)) (fun c19_1 => ?_)
  refine v_aload_n 22 1 C dX3_putPlanes_22 rfl ?_
  refine g_Pg_planes 23 C (vg.o hg).1 (vg.o hg).2 lk_210 dX3_putPlanes_23 ?_
  refine v_iload 26 0 C dX3_putPlanes_26 rfl ?_
  refine v_aload_n 28 3 C dX3_putPlanes_28 rfl ?_
  refine v_aastL 29 C (vg.q hg).1 (vg.q hg).2 (2 * k + 2) (izn (by omega)) (by omega) (vl.o (vp.fA hv)) dX3_putPlanes_29 ?_
  refine v_aload_n 30 1 C dX3_putPlanes_30 rfl ?_
  refine g_Pg_planes 31 C (vg.o hg).1 (vg.o hg).2 lk_210 dX3_putPlanes_31 ?_
  refine v_iload 34 0 C dX3_putPlanes_34 rfl ?_
  refine v_iconst 36 C (iZ 1) dX3_putPlanes_36 rfl ?_
  refine z_iadd 37 C dX3_putPlanes_37 ?_
  refine v_aload_n 38 4 C dX3_putPlanes_38 rfl ?_
  refine v_aastL 39 C (vg.q hg).1 (vg.q hg).2 (2 * k + 3) (izn (by omega)) (by omega) (vl.o (vp.fB hv)) dX3_putPlanes_39 ?_
  exact v_vret 40 C (rfl) dX3_putPlanes_40

