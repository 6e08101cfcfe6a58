/-! MODEL: planes and how they run into each other -/
theorem pl_bd {b : Bs} {t : Ts} (hI : Inv b) (hE : LE b t) {p j : Nat} (h : thL b p) (hj : j < 17) (h0 : PS t j p = 0) : bd (bgx t j p) ∧ bd (bgy t j p) ∧ bd (enx b t j p) ∧ bd (eny b t j p) := by
  have hb := hI.2.1
  rcases thL_or h with rfl | rfl | ⟨k, w, hw, rfl, hk, ht⟩
  · exact ⟨(by decide : bd 0), (by decide : bd 0), (by show bd (b 1 0); omega), (by decide : bd 0)⟩
  · have w0 := w_b j hj
    have w1 := way_le w0.1 (n := b 1 0) (by omega)
    have w2 := way_le w0.2 (n := b 1 0) (by omega)
    exact ⟨(by decide : bd 0), (by decide : bd 0), (by show bd (rnd _ _); omega), (by show bd (rnd _ _); omega)⟩
  · have e0 : (2 * k + 2 + w) / 2 - 1 = k := by omega
    have eP : PS t j (2 * k + 2 + w) = t 4 k j := by unfold PS; rw [if_neg (by omega), e0]
    have B := bd_k hI hE hk ht hj (by rw [← eP]; exact h0)
    have C := B.2 (2 * k + w) (by omega)
    unfold bgx bgy enx eny
    rw [if_neg (by omega), if_neg (by omega), if_neg (by omega), if_neg (by omega), if_neg (by omega), if_neg (by omega), e0, show 2 * k + 2 + w - 2 = 2 * k + w by omega]
    exact ⟨C.1, C.2, B.1.1, B.1.2⟩
def stZ (b : Bs) (t : Ts) (j p : Nat) : Int := bz (thLb b p && decide (PS t j p = 0))
theorem stZ_1 {b : Bs} {t : Ts} {j p : Nat} (h : ¬ stZ b t j p = 0) : thL b p ∧ PS t j p = 0 := by
  have := bz_ne h
  rw [Bool.and_eq_true, decide_eq_true_eq] at this
  exact ⟨thLb_iff.mp this.1, this.2⟩
theorem stZ_y {b : Bs} {t : Ts} {j p : Nat} (h : thL b p) (h0 : PS t j p = 0) : stZ b t j p = 1 := by
  unfold stZ; rw [thLb_iff.mpr h, decide_eq_true h0]; rfl
theorem stZ_n {b : Bs} {t : Ts} {j p : Nat} (h : ¬ (thL b p ∧ PS t j p = 0)) : stZ b t j p = 0 := by
  unfold stZ
  cases q : (thLb b p && decide (PS t j p = 0)) with
  | false => rfl
  | true =>
    rw [Bool.and_eq_true, decide_eq_true_eq] at q
    exact absurd ⟨thLb_iff.mp q.1, q.2⟩ h
/-- the planes that the model found -/
def FP (S : St) (b : Bs) (t : Ts) (j K : Nat) : Prop := ∀ p, p < K → gA S 62 p = iZ (stZ b t j p) ∧ (thL b p → PS t j p = 0 → gJ S 58 p = lZ (bgx t j p) ∧ gJ S 59 p = lZ (bgy t j p) ∧ gJ S 60 p = lZ (enx b t j p) ∧ gJ S 61 p = lZ (eny b t j p))
def BF (S S' : St) (p : Nat) : Prop := sameOn (fun i => i ≠ 45 ∧ i ≠ 57 ∧ i ≠ 58 ∧ i ≠ 59 ∧ i ≠ 60 ∧ i ≠ 61 ∧ i ≠ 62) S S' ∧ (∀ f, gI S' 45 f = gI S 45 f) ∧ ∀ f, f ≠ p → gA S' 62 f = gA S 62 f ∧ gJ S' 58 f = gJ S 58 f ∧ gJ S' 59 f = gJ S 59 f ∧ gJ S' 60 f = gJ S 60 f ∧ gJ S' 61 f = gJ S 61 f
theorem BF.tr {S T U : St} {p : Nat} (h1 : BF S T p) (h2 : BF T U p) : BF S U p := ⟨h1.1.tr h2.1, fun f => (h2.2.1 f).trans (h1.2.1 f), fun f q => by
  obtain ⟨a1, a2, a3, a4, a5⟩ := h1.2.2 f q
  obtain ⟨c1, c2, c3, c4, c5⟩ := h2.2.2 f q
  exact ⟨c1.trans a1, c2.trans a2, c3.trans a3, c4.trans a4, c5.trans a5⟩⟩
theorem ShF.BF {S S' : St} {p : Nat} (h : ShF S S') : BF S S' p := ⟨fun i hi f => h.1 i ⟨hi.1, hi.2.1⟩ f, h.2, fun f _ => ⟨(h.1 62 (by decide) f).2.1, (h.1 58 (by decide) f).2.2.2.1, (h.1 59 (by decide) f).2.2.2.1, (h.1 60 (by decide) f).2.2.2.1, (h.1 61 (by decide) f).2.2.2.1⟩⟩
theorem BF.a {S : St} {p : Nat} {v : Int32} : BF S (pA S 62 p v) p := ⟨same_pA (fun q => q.2.2.2.2.2.2 rfl), fun _ => rfl, fun f q => ⟨by rw [gA_pA, if_neg (fun z => q z.2)], rfl, rfl, rfl, rfl⟩⟩
theorem BF.j {S : St} {i p : Nat} {v : Int64} (h : i = 58 ∨ i = 59 ∨ i = 60 ∨ i = 61) : BF S (pJ S i p v) p := ⟨same_pJ (fun q => by omega), fun _ => rfl, fun f q => ⟨rfl, by rw [gJ_pJ, if_neg (fun z => q z.2)], by rw [gJ_pJ, if_neg (fun z => q z.2)], by rw [gJ_pJ, if_neg (fun z => q z.2)], by rw [gJ_pJ, if_neg (fun z => q z.2)]⟩⟩
theorem BF.OP {S S' : St} {b : Bs} {t : Ts} {s K p : Nat} (h : BF S S' p) (hO : OPk S b t s K) : OPk S' b t s K := by
  refine ⟨(h.2.1 11).trans hO.1, fun k h1 h2 => ?_⟩
  rw [(h.1 56 (by decide) k).2.1, (h.1 54 (by decide) k).2.2.2.1, (h.1 55 (by decide) k).2.2.2.1]
  exact hO.2 k h1 h2
theorem FP_next {S S' : St} {b : Bs} {t : Ts} {j p : Nat} (hB : BF S S' p) (h : FP S b t j p) (h1 : gA S' 62 p = iZ (stZ b t j p)) (h2 : thL b p → PS t j p = 0 → gJ S' 58 p = lZ (bgx t j p) ∧ gJ S' 59 p = lZ (bgy t j p) ∧ gJ S' 60 p = lZ (enx b t j p) ∧ gJ S' 61 p = lZ (eny b t j p)) : FP S' b t j (p + 1) := by
  intro q hq
  by_cases e : q = p
  · subst e; exact ⟨h1, h2⟩
  · obtain ⟨a1, a2, a3, a4, a5⟩ := hB.2.2 q e
    rw [a1, a2, a3, a4, a5]
    exact h q (by omega)
/-- what finding the planes changes -/
def FpF (S S' : St) : Prop := sameOn (fun i => i ≠ 45 ∧ i ≠ 57 ∧ i ≠ 54 ∧ i ≠ 55 ∧ i ≠ 56 ∧ i ≠ 58 ∧ i ≠ 59 ∧ i ≠ 60 ∧ i ≠ 61 ∧ i ≠ 62) S S' ∧ ∀ f, f ≠ 11 → gI S' 45 f = gI S 45 f
theorem FpF.rf {S : St} : FpF S S := ⟨sameOn.rf, fun _ _ => rfl⟩
theorem FpF.tr {S T U : St} (h1 : FpF S T) (h2 : FpF T U) : FpF S U := ⟨h1.1.tr h2.1, fun f q => (h2.2 f q).trans (h1.2 f q)⟩
theorem OpF.P {S S' : St} (h : OpF S S') : FpF S S' := ⟨fun i hi f => h.1 i ⟨hi.1, hi.2.1, hi.2.2.1, hi.2.2.2.1, hi.2.2.2.2.1⟩ f, h.2⟩
theorem BF.P {S S' : St} {p : Nat} (h : BF S S' p) : FpF S S' := ⟨fun i hi f => h.1 i ⟨hi.1, hi.2.1, hi.2.2.2.2.2⟩ f, fun f _ => h.2.1 f⟩
theorem FpF.RM {S S' : St} {b : Bs} (h : FpF S S') (hM : RM S b) : RM S' b := by
  obtain ⟨⟨a1, a2, a3⟩, c, d, e, f⟩ := hM
  have A : ∀ i k, (i ≠ 45 ∧ i ≠ 57 ∧ i ≠ 54 ∧ i ≠ 55 ∧ i ≠ 56 ∧ i ≠ 58 ∧ i ≠ 59 ∧ i ≠ 60 ∧ i ≠ 61 ∧ i ≠ 62) → gA S' i k = gA S i k := fun i k x => (h.1 i x k).2.1
  refine ⟨⟨(h.2 0 (by decide)).trans a1, (h.2 1 (by decide)).trans a2, (h.2 2 (by decide)).trans a3⟩, fun k hk => ?_, fun i hi => ?_, fun r hr => ?_, fun i hi => ?_⟩
  · rw [A 46 k (by decide), A 50 k (by decide), A 51 k (by decide)]; exact c k hk
  · rw [A 47 i (by decide), A 48 i (by decide), A 49 i (by decide)]; exact d i hi
  · rw [A 52 r (by decide)]; exact e r hr
  · rw [A 53 i (by decide)]; exact f i hi
theorem FpF.C {S S' : St} (h : FpF S S') : sameOn atC S S' := fun i hi f => h.1 i (by unfold atC at hi; omega) f
set_option maxHeartbeats 4000000 in
set_option maxRecDepth 100000 in
theorem m4_begin_lo {l : Launch} {D : va_G} {kc : Nat → ClassId} {N : Nat} {ad : Nat → Nat} {S : St} {b : Bs} (hm : vm N) (hI : Inv b) (hM : RM S b) {t : Ts} (hE : LE b t) {j u : Nat} (hp : u < 2) : MetK l yX4_begin cX4_begin 2 (none) 4 0 0 103 D kc (wl kc N ad S) [.ref (ad 45), .int (iZ (u : Int))] (QV D kc (wl kc N ad S) (fun ws' => ∃ S', ws' = wl kc N ad S' ∧ ShF S S' ∧ gL S' 45 15 = lZ (bgx t j u) ∧ gL S' 45 16 = lZ (bgy t j u))) := by
  refine MetK.of (by decide +kernel) (Nat.le_of_ble_eq_true rfl) ?_
  intro p e s m below meth c C
  have hA : ∀ q, s.heap.size ≤ q → va_A (wl kc N ad S) s.heap.size q := fun _ h => Or.inr h
  show V p l e { frames := 4, cells := 0, slots := 0, locals := 103 } s m ([.ref (ad 45), .int (iZ (u : Int))] : List Value).toArray below meth c (MQ below (QV D kc (wl kc N ad S) (fun ws' => ∃ S', ws' = wl kc N ad S' ∧ ShF S S' ∧ gL S' 45 15 = lZ (bgx t j u) ∧ gL S' 45 16 = lZ (bgy t j u)) s.heap.size) ([.ref (ad 45), .int (iZ (u : Int))] : List Value).toArray s 0 0 (va_A (wl kc N ad S) s.heap.size)) D (va_A (wl kc N ad S) s.heap.size) 2 0 0 (wl kc N ad S) 0 [(0, .ref (ad 45)), (1, .int (iZ (u : Int)))] []
  have hb0 := hI.1
  refine v_iload_n 0 1 C dX4_begin_0 rfl ?_
  refine v_iconst 1 C (iZ 2) dX4_begin_1 rfl ?_
  refine z_icmp_ge 2 18 C (by first | assumption | exact ⟨by omega, by omega⟩) (by first | assumption | exact ⟨by omega, by omega⟩) dX4_begin_2 (by decide) (fun c2_0 => absurd c2_0 (by omega)) (fun c2_0 => ?_)
  refine v_aload_n 5 0 C dX4_begin_5 rfl ?_
  refine v_lconst 6 C (lZ 0) dX4_begin_6 (by decide) ?_
  refine s_Mo_placeX 7 C (vm.o hm).1 (vm.o hm).2 lk_514 dX4_begin_7 ?_
  refine v_aload_n 10 0 C dX4_begin_10 rfl ?_
  refine v_lconst 11 C (lZ 0) dX4_begin_11 (by decide) ?_
  refine s_Mo_placeY 12 C (vm.o hm).1 (vm.o hm).2 lk_515 dX4_begin_12 ?_
  refine v_goto 15 38 C dX4_begin_15 (by decide) ?_
  exact v_vret 38 C (⟨_, rfl, ShF.pL.tr ShF.pL, by unfold bgx; rw [if_pos hp, gL_pL, if_neg (by decide), gL_pL, if_pos ⟨rfl, rfl⟩], by unfold bgy; rw [if_pos hp, gL_pL, if_pos ⟨rfl, rfl⟩]⟩) dX4_begin_38

set_option maxHeartbeats 4000000 in
set_option maxRecDepth 100000 in
theorem m4_begin_hi {l : Launch} {D : va_G} {kc : Nat → ClassId} {N : Nat} {ad : Nat → Nat} {S : St} {b : Bs} (hm : vm N) (hI : Inv b) (hM : RM S b) {t : Ts} (hE : LE b t) {j u i : Nat} (hpi : u = i + 2) (hj : j < 17) (hth : thL b u) (hps0 : PS t j u = 0) (hO : OPk S b t j (bn b)) : MetK l yX4_begin cX4_begin 2 (none) 4 0 0 103 D kc (wl kc N ad S) [.ref (ad 45), .int (iZ (u : Int))] (QV D kc (wl kc N ad S) (fun ws' => ∃ S', ws' = wl kc N ad S' ∧ ShF S S' ∧ gL S' 45 15 = lZ (bgx t j u) ∧ gL S' 45 16 = lZ (bgy t j u))) := by
  refine MetK.of (by decide +kernel) (Nat.le_of_ble_eq_true rfl) ?_
  intro p e s m below meth c C
  have hA : ∀ q, s.heap.size ≤ q → va_A (wl kc N ad S) s.heap.size q := fun _ h => Or.inr h
  show V p l e { frames := 4, cells := 0, slots := 0, locals := 103 } s m ([.ref (ad 45), .int (iZ (u : Int))] : List Value).toArray below meth c (MQ below (QV D kc (wl kc N ad S) (fun ws' => ∃ S', ws' = wl kc N ad S' ∧ ShF S S' ∧ gL S' 45 15 = lZ (bgx t j u) ∧ gL S' 45 16 = lZ (bgy t j u)) s.heap.size) ([.ref (ad 45), .int (iZ (u : Int))] : List Value).toArray s 0 0 (va_A (wl kc N ad S) s.heap.size)) D (va_A (wl kc N ad S) s.heap.size) 2 0 0 (wl kc N ad S) 0 [(0, .ref (ad 45)), (1, .int (iZ (u : Int)))] []
  have hb0 := hI.1
  obtain ⟨k, hk, hi2, ht, h0, hp⟩ : ∃ k, k < bn b ∧ (i = 2 * k ∨ i = 2 * k + 1) ∧ b 8 k = 1 ∧ t 4 k j = 0 ∧ u / 2 - 1 = k := by
    have T := thL_lt hth (by omega)
    refine ⟨u / 2 - 1, T.1, by omega, T.2, ?_, rfl⟩
    unfold PS at hps0; rw [if_neg (by omega)] at hps0; exact hps0
  have J := hI.2.2.2.2 k hk i hi2
  obtain ⟨pu, hpu⟩ : ∃ pu : Nat, (b 4 i).toNat = pu := ⟨_, rfl⟩
  have tp := J.2.2.2 ht
  have L := hE k hk hk ht j hj
  have hps : PS t j (b 4 (2 * k)).toNat = 0 ∧ PS t j (b 4 (2 * k + 1)).toNat = 0 := by
    by_cases q : PS t j (b 4 (2 * k)).toNat = 0 ∧ PS t j (b 4 (2 * k + 1)).toNat = 0
    · exact q
    · have := L.2.1 q; omega
  have E := (L.2.2 hps.1 hps.2).1
  have ps : PS t j (b 4 i).toNat = 0 := by
    rcases hi2 with e | e
    · rw [e]; exact hps.1
    · rw [e]; exact hps.2
  have hx0 : PLx b t j (b 4 i).toNat (b 5 i) = t 0 i j := by
    rcases hi2 with e | e
    · rw [e]; exact E.1.symm
    · rw [e]; exact E.2.2.1.symm
  have hy0 : PLy b t j (b 4 i).toNat (b 5 i) = t 1 i j := by
    rcases hi2 with e | e
    · rw [e]; exact E.2.1.symm
    · rw [e]; exact E.2.2.2.symm
  rw [hpu] at tp ps hx0 hy0
  have ep : b 4 i = (pu : Int) := by omega
  have p62 := thL_62 hI tp
  refine v_iload_n 0 1 C dX4_begin_0 rfl ?_
  refine v_iconst 1 C (iZ 2) dX4_begin_1 rfl ?_
  refine z_icmp_ge 2 18 C (by first | assumption | exact ⟨by omega, by omega⟩) (by first | assumption | exact ⟨by omega, by omega⟩) dX4_begin_2 (by decide) (fun c2_0 => ?_) (fun c2_0 => absurd (by omega) c2_0)
  refine v_aload_n 18 0 C dX4_begin_18 rfl ?_
  refine v_aload_n 19 0 C dX4_begin_19 rfl ?_
  refine g_Mo_on 20 C (vm.o hm).1 (vm.o hm).2 lk_503 dX4_begin_20 ?_
  refine v_iload_n 23 1 C dX4_begin_23 rfl ?_
  refine v_iconst 24 C (iZ 2) dX4_begin_24 rfl ?_
  refine z_isub 25 C dX4_begin_25 ?_
  refine v_iald 26 C (vm.a hm 47 (by decide) rfl).1 (vm.a hm 47 (by decide) rfl).2 i (izn (by omega)) (lnx (show ln 47 = 60 from rfl) (by omega)) dX4_begin_26 ?_
  refine v_eqi (iZ (pu : Int)) ((hM.2.2.1 i (by omega)).1.trans (by rw [ep])) ?_
  refine v_aload_n 27 0 C dX4_begin_27 rfl ?_
  refine g_Mo_far 28 C (vm.o hm).1 (vm.o hm).2 lk_504 dX4_begin_28 ?_
  refine v_iload_n 31 1 C dX4_begin_31 rfl ?_
  refine v_iconst 32 C (iZ 2) dX4_begin_32 rfl ?_
  refine z_isub 33 C dX4_begin_33 ?_
  refine v_iald 34 C (vm.a hm 48 (by decide) rfl).1 (vm.a hm 48 (by decide) rfl).2 i (izn (by omega)) (lnx (show ln 48 = 60 from rfl) (by omega)) dX4_begin_34 ?_
  refine v_eqi (iZ (b 5 i)) ((hM.2.2.1 i (by omega)).2.1) ?_
  refine v_callv 35 hA (rV_Mo 35 C L_RX4_113 lk_629 lk_29 (m4_show hm hI hM hj hE hO tp (by omega) ps ⟨by omega, by omega⟩) (vm.o hm) rfl ⟨rfl, rfl⟩ (rm_ok rfl) dX4_begin_35) (fun w2 h3 => ?_)
  obtain ⟨S2, rfl, F2, gx, gy⟩ := h3
  exact v_vret 38 C (⟨S2, rfl, F2, by rw [gx, hx0]; unfold bgx; rw [if_neg (by omega), hpi]; rfl, by rw [gy, hy0]; unfold bgy; rw [if_neg (by omega), hpi]; rfl⟩) dX4_begin_38

set_option maxHeartbeats 4000000 in
set_option maxRecDepth 100000 in
theorem m4_sideOf {l : Launch} {D : va_G} {kc : Nat → ClassId} {N : Nat} {ad : Nat → Nat} {S : St} {u : Nat} {bx by_ ex ey ox oy : Int} (hm : vm N) (hp : u < 62) (e1 : gJ S 58 u = lZ bx) (e2 : gJ S 59 u = lZ by_) (e3 : gJ S 60 u = lZ ex) (e4 : gJ S 61 u = lZ ey) : MetK l yX4_sideOf cX4_sideOf 6 (some FieldType.long) 1 0 0 24 D kc (wl kc N ad S) [.ref (ad 45), .int (iZ (u : Int)), .long (lZ ox), .long (lZ oy)] (QL D kc (wl kc N ad S) (fun r ws' => r = lZ (sideZ bx by_ ex ey ox oy) ∧ ws' = wl kc N ad S)) := by
  refine MetK.of (by decide +kernel) (Nat.le_of_ble_eq_true rfl) ?_
  intro p e s m below meth c C
  have hA : ∀ q, s.heap.size ≤ q → va_A (wl kc N ad S) s.heap.size q := fun _ h => Or.inr h
  show V p l e { frames := 1, cells := 0, slots := 0, locals := 24 } s m ([.ref (ad 45), .int (iZ (u : Int)), .long (lZ ox), .long (lZ oy)] : List Value).toArray below meth c (MQ below (QL D kc (wl kc N ad S) (fun r ws' => r = lZ (sideZ bx by_ ex ey ox oy) ∧ ws' = wl kc N ad S) s.heap.size) ([.ref (ad 45), .int (iZ (u : Int)), .long (lZ ox), .long (lZ oy)] : List Value).toArray s 0 0 (va_A (wl kc N ad S) s.heap.size)) D (va_A (wl kc N ad S) s.heap.size) 6 0 0 (wl kc N ad S) 0 [(0, .ref (ad 45)), (1, .int (iZ (u : Int))), (2, .long (lZ ox)), (4, .long (lZ oy))] []
  refine v_aload_n 0 0 C dX4_sideOf_0 rfl ?_
  refine g_Mo_endX 1 C (vm.o hm).1 (vm.o hm).2 lk_519 dX4_sideOf_1 ?_
  refine v_iload_n 4 1 C dX4_sideOf_4 rfl ?_
  refine v_lald 5 C (vm.a hm 60 (by decide) rfl).1 (vm.a hm 60 (by decide) rfl).2 u (izn (by omega)) (lnx (show ln 60 = 62 from rfl) (by omega)) dX4_sideOf_5 ?_
  refine v_eql (lZ ex) (e3) ?_
  refine v_aload_n 6 0 C dX4_sideOf_6 rfl ?_
  refine g_Mo_beginX 7 C (vm.o hm).1 (vm.o hm).2 lk_517 dX4_sideOf_7 ?_
  refine v_iload_n 10 1 C dX4_sideOf_10 rfl ?_
  refine v_lald 11 C (vm.a hm 58 (by decide) rfl).1 (vm.a hm 58 (by decide) rfl).2 u (izn (by omega)) (lnx (show ln 58 = 62 from rfl) (by omega)) dX4_sideOf_11 ?_
  refine v_eql (lZ bx) (e1) ?_
  refine z_lsub 12 C dX4_sideOf_12 ?_
  refine v_lload 13 3 C dX4_sideOf_13 rfl ?_
  refine v_aload_n 15 0 C dX4_sideOf_15 rfl ?_
  refine g_Mo_beginY 16 C (vm.o hm).1 (vm.o hm).2 lk_518 dX4_sideOf_16 ?_
  refine v_iload_n 19 1 C dX4_sideOf_19 rfl ?_
  refine v_lald 20 C (vm.a hm 59 (by decide) rfl).1 (vm.a hm 59 (by decide) rfl).2 u (izn (by omega)) (lnx (show ln 59 = 62 from rfl) (by omega)) dX4_sideOf_20 ?_
  refine v_eql (lZ by_) (e2) ?_
  refine z_lsub 21 C dX4_sideOf_21 ?_
  refine z_lmul 22 C dX4_sideOf_22 ?_
  refine v_aload_n 23 0 C dX4_sideOf_23 rfl ?_
  refine g_Mo_endY 24 C (vm.o hm).1 (vm.o hm).2 lk_520 dX4_sideOf_24 ?_
  refine v_iload_n 27 1 C dX4_sideOf_27 rfl ?_
  refine v_lald 28 C (vm.a hm 61 (by decide) rfl).1 (vm.a hm 61 (by decide) rfl).2 u (izn (by omega)) (lnx (show ln 61 = 62 from rfl) (by omega)) dX4_sideOf_28 ?_
  refine v_eql (lZ ey) (e4) ?_
  refine v_aload_n 29 0 C dX4_sideOf_29 rfl ?_
  refine g_Mo_beginY 30 C (vm.o hm).1 (vm.o hm).2 lk_518 dX4_sideOf_30 ?_
  refine v_iload_n 33 1 C dX4_sideOf_33 rfl ?_
  refine v_lald 34 C (vm.a hm 59 (by decide) rfl).1 (vm.a hm 59 (by decide) rfl).2 u (izn (by omega)) (lnx (show ln 59 = 62 from rfl) (by omega)) dX4_sideOf_34 ?_
  refine v_eql (lZ by_) (e2) ?_
  refine z_lsub 35 C dX4_sideOf_35 ?_
  refine v_lload_n 36 2 C dX4_sideOf_36 rfl ?_
  refine v_aload_n 37 0 C dX4_sideOf_37 rfl ?_
  refine g_Mo_beginX 38 C (vm.o hm).1 (vm.o hm).2 lk_517 dX4_sideOf_38 ?_
  refine v_iload_n 41 1 C dX4_sideOf_41 rfl ?_
  refine v_lald 42 C (vm.a hm 58 (by decide) rfl).1 (vm.a hm 58 (by decide) rfl).2 u (izn (by omega)) (lnx (show ln 58 = 62 from rfl) (by omega)) dX4_sideOf_42 ?_
  refine v_eql (lZ bx) (e1) ?_
  refine z_lsub 43 C dX4_sideOf_43 ?_
  refine z_lmul 44 C dX4_sideOf_44 ?_
  refine z_lsub 45 C dX4_sideOf_45 ?_
  exact v_lret 46 C (⟨rfl, rfl⟩) dX4_sideOf_46

set_option maxHeartbeats 4000000 in
set_option maxRecDepth 100000 in
theorem m4_isParted {l : Launch} {D : va_G} {kc : Nat → ClassId} {N : Nat} {ad : Nat → Nat} {S : St} {u q : Nat} {bx by_ ex ey bx' by' ex' ey' : Int} (hm : vm N) (hp : u < 62) (hq : q < 62) (e1 : gJ S 58 u = lZ bx) (e2 : gJ S 59 u = lZ by_) (e3 : gJ S 60 u = lZ ex) (e4 : gJ S 61 u = lZ ey) (f1 : gJ S 58 q = lZ bx') (f2 : gJ S 59 q = lZ by') (f3 : gJ S 60 q = lZ ex') (f4 : gJ S 61 q = lZ ey') (b1 : bd bx) (b2 : bd by_) (b3 : bd ex) (b4 : bd ey) (d1 : bd bx') (d2 : bd by') (d3 : bd ex') (d4 : bd ey') : MetK l yX4_isParted cX4_isParted 7 (some FieldType.boolean) 2 0 0 49 D kc (wl kc N ad S) [.ref (ad 45), .int (iZ (u : Int)), .int (iZ (q : Int))] (QI D kc (wl kc N ad S) (fun r ws' => r = iZ (bz (partZ bx by_ ex ey bx' by' ex' ey')) ∧ ws' = wl kc N ad S)) := by
  refine MetK.of (by decide +kernel) (Nat.le_of_ble_eq_true rfl) ?_
  intro p e s m below meth c C
  have hA : ∀ q, s.heap.size ≤ q → va_A (wl kc N ad S) s.heap.size q := fun _ h => Or.inr h
  show V p l e { frames := 2, cells := 0, slots := 0, locals := 49 } s m ([.ref (ad 45), .int (iZ (u : Int)), .int (iZ (q : Int))] : List Value).toArray below meth c (MQ below (QI D kc (wl kc N ad S) (fun r ws' => r = iZ (bz (partZ bx by_ ex ey bx' by' ex' ey')) ∧ ws' = wl kc N ad S) s.heap.size) ([.ref (ad 45), .int (iZ (u : Int)), .int (iZ (q : Int))] : List Value).toArray s 0 0 (va_A (wl kc N ad S) s.heap.size)) D (va_A (wl kc N ad S) s.heap.size) 7 0 0 (wl kc N ad S) 0 [(0, .ref (ad 45)), (1, .int (iZ (u : Int))), (2, .int (iZ (q : Int)))] []
  refine v_aload_n 0 0 C dX4_isParted_0 rfl ?_
  refine v_iload_n 1 1 C dX4_isParted_1 rfl ?_
  refine v_aload_n 2 0 C dX4_isParted_2 rfl ?_
  refine g_Mo_beginX 3 C (vm.o hm).1 (vm.o hm).2 lk_517 dX4_isParted_3 ?_
  refine v_iload_n 6 2 C dX4_isParted_6 rfl ?_
  refine v_lald 7 C (vm.a hm 58 (by decide) rfl).1 (vm.a hm 58 (by decide) rfl).2 q (izn (by omega)) (lnx (show ln 58 = 62 from rfl) (by omega)) dX4_isParted_7 ?_
  refine v_eql (lZ bx') (f1) ?_
  refine v_aload_n 8 0 C dX4_isParted_8 rfl ?_
  refine g_Mo_beginY 9 C (vm.o hm).1 (vm.o hm).2 lk_518 dX4_isParted_9 ?_
  refine v_iload_n 12 2 C dX4_isParted_12 rfl ?_
  refine v_lald 13 C (vm.a hm 59 (by decide) rfl).1 (vm.a hm 59 (by decide) rfl).2 q (izn (by omega)) (lnx (show ln 59 = 62 from rfl) (by omega)) dX4_isParted_13 ?_
  refine v_eql (lZ by') (f2) ?_
  refine v_calll 14 hA (rV_Mo 14 C L_RX4_192 lk_738 lk_43 (m4_sideOf hm hp e1 e2 e3 e4) (vm.o hm) rfl ⟨rfl, rfl⟩ (rm_ok rfl) dX4_isParted_14) (fun r1 w2 h3 => ?_)
  obtain ⟨e_r1, rfl⟩ := h3
  refine v_eql (lZ (sideZ bx by_ ex ey bx' by')) (e_r1) ?_
  refine z_topl (fun sa e_sa => ?_)
  refine v_lstore_n 17 [(3, .long (lZ sa)), (0, .ref (ad 45)), (1, .int (iZ (u : Int))), (2, .int (iZ (q : Int)))] C dX4_isParted_17 (by decide) rfl ?_
  refine v_aload_n 18 1 C dX4_isParted_18 rfl ?_
  refine v_iload_n 19 2 C dX4_isParted_19 rfl ?_
  refine v_aload_n 20 1 C dX4_isParted_20 rfl ?_
  refine g_Mo_endX 21 C (vm.o hm).1 (vm.o hm).2 lk_519 dX4_isParted_21 ?_
  refine v_iload_n 24 3 C dX4_isParted_24 rfl ?_
  refine v_lald 25 C (vm.a hm 60 (by decide) rfl).1 (vm.a hm 60 (by decide) rfl).2 q (izn (by omega)) (lnx (show ln 60 = 62 from rfl) (by omega)) dX4_isParted_25 ?_
  refine v_eql (lZ ex') (f3) ?_
  refine v_aload_n 26 1 C dX4_isParted_26 rfl ?_
  refine g_Mo_endY 27 C (vm.o hm).1 (vm.o hm).2 lk_520 dX4_isParted_27 ?_
  refine v_iload_n 30 3 C dX4_isParted_30 rfl ?_
  refine v_lald 31 C (vm.a hm 61 (by decide) rfl).1 (vm.a hm 61 (by decide) rfl).2 q (izn (by omega)) (lnx (show ln 61 = 62 from rfl) (by omega)) dX4_isParted_31 ?_
  refine v_eql (lZ ey') (f4) ?_
  refine v_calll 32 hA (rV_Mo 32 C L_RX4_192 lk_738 lk_43 (m4_sideOf hm hp e1 e2 e3 e4) (vm.o hm) rfl ⟨rfl, rfl⟩ (rm_ok rfl) dX4_isParted_32) (fun r4 w5 h6 => ?_)
  obtain ⟨e_r4, rfl⟩ := h6
  refine v_eql (lZ (sideZ bx by_ ex ey ex' ey')) (e_r4) ?_
  refine z_topl (fun sb e_sb => ?_)
  refine v_lstore 35 [(5, .long (lZ sb)), (3, .long (lZ sa)), (0, .ref (ad 45)), (1, .int (iZ (u : Int))), (2, .int (iZ (q : Int)))] C dX4_isParted_35 (by decide) rfl ?_
  have q1 : r64 sa := by rw [e_sa]; exact sideZ_b b1 b2 b3 b4 d1 d2
  have q2 : r64 sb := by rw [e_sb]; exact sideZ_b b1 b2 b3 b4 d3 d4
  refine v_lload_n 37 1 C dX4_isParted_37 rfl ?_
  refine v_lconst 38 C (lZ 0) dX4_isParted_38 (by decide) ?_
  refine z_lcmp_le 39 50 C (by first | assumption | exact ⟨by omega, by omega⟩) (by first | assumption | exact ⟨by omega, by omega⟩) dX4_isParted_39 dX4_isParted_40 (by decide) (fun c39_0 => ?_) (fun c39_0 => ?_)
  · skip
    refine v_lload_n 50 1 C dX4_isParted_50 rfl ?_
    refine v_lconst 51 C (lZ 0) dX4_isParted_51 (by decide) ?_
    refine z_lcmp_ge 52 67 C (by first | assumption | exact ⟨by omega, by omega⟩) (by first | assumption | exact ⟨by omega, by omega⟩) dX4_isParted_52 dX4_isParted_53 (by decide) (fun c52_1 => ?_) (fun c52_1 => ?_)
    · skip
      refine v_iconst 67 C (iZ 0) dX4_isParted_67 rfl ?_
      exact v_zret 68 C (rfl) (⟨bzF (by unfold partZ; rw [← e_sa, ← e_sb]; simp; omega), rfl⟩) dX4_isParted_68
    · skip
      refine v_lload 56 0 C dX4_isParted_56 rfl ?_
      refine v_lconst 58 C (lZ 0) dX4_isParted_58 (by decide) ?_
      refine z_lcmp_le 59 67 C (by first | assumption | exact ⟨by omega, by omega⟩) (by first | assumption | exact ⟨by omega, by omega⟩) dX4_isParted_59 dX4_isParted_60 (by decide) (fun c59_2 => ?_) (fun c59_2 => ?_)
      · skip
        refine v_iconst 67 C (iZ 0) dX4_isParted_67 rfl ?_
        exact v_zret 68 C (rfl) (⟨bzF (by unfold partZ; rw [← e_sa, ← e_sb]; simp; omega), rfl⟩) dX4_isParted_68
      · skip
        refine v_iconst 63 C (iZ 1) dX4_isParted_63 rfl ?_
        refine v_goto 64 68 C dX4_isParted_64 (by decide) ?_
        exact v_zret 68 C (rfl) (⟨bzT (by unfold partZ; rw [← e_sa, ← e_sb]; simp; omega), rfl⟩) dX4_isParted_68
  · skip
    refine v_lload 43 0 C dX4_isParted_43 rfl ?_
    refine v_lconst 45 C (lZ 0) dX4_isParted_45 (by decide) ?_
    refine z_lcmp_lt 46 63 C (by first | assumption | exact ⟨by omega, by omega⟩) (by first | assumption | exact ⟨by omega, by omega⟩) dX4_isParted_46 dX4_isParted_47 (by decide) (fun c46_1 => ?_) (fun c46_1 => ?_)
    · skip
      refine v_iconst 63 C (iZ 1) dX4_isParted_63 rfl ?_
      refine v_goto 64 68 C dX4_isParted_64 (by decide) ?_
      exact v_zret 68 C (rfl) (⟨bzT (by unfold partZ; rw [← e_sa, ← e_sb]; simp; omega), rfl⟩) dX4_isParted_68
    · skip
      refine v_lload_n 50 1 C dX4_isParted_50 rfl ?_
      refine v_lconst 51 C (lZ 0) dX4_isParted_51 (by decide) ?_
      refine z_lcmp_ge 52 67 C (by first | assumption | exact ⟨by omega, by omega⟩) (by first | assumption | exact ⟨by omega, by omega⟩) dX4_isParted_52 dX4_isParted_53 (by decide) (fun c52_2 => ?_) (fun c52_2 => ?_)
      · skip
        refine v_iconst 67 C (iZ 0) dX4_isParted_67 rfl ?_
        exact v_zret 68 C (rfl) (⟨bzF (by unfold partZ; rw [← e_sa, ← e_sb]; simp; omega), rfl⟩) dX4_isParted_68
      · skip
        refine v_lload 56 0 C dX4_isParted_56 rfl ?_
        refine v_lconst 58 C (lZ 0) dX4_isParted_58 (by decide) ?_
        refine z_lcmp_le 59 67 C (by first | assumption | exact ⟨by omega, by omega⟩) (by first | assumption | exact ⟨by omega, by omega⟩) dX4_isParted_59 dX4_isParted_60 (by decide) (fun c59_3 => ?_) (fun c59_3 => ?_)
        · skip
          refine v_iconst 67 C (iZ 0) dX4_isParted_67 rfl ?_
          exact v_zret 68 C (rfl) (⟨bzF (by unfold partZ; rw [← e_sa, ← e_sb]; simp; omega), rfl⟩) dX4_isParted_68
        · skip
          refine v_iconst 63 C (iZ 1) dX4_isParted_63 rfl ?_
          refine v_goto 64 68 C dX4_isParted_64 (by decide) ?_
          exact v_zret 68 C (rfl) (⟨bzT (by unfold partZ; rw [← e_sa, ← e_sb]; simp; omega), rfl⟩) dX4_isParted_68

theorem rn_no {b : Bs} {t : Ts} {j u q : Nat} (h : stZ b t j u = 0 ∨ stZ b t j q = 0) : rn b t j u q = false := by
  unfold rn frP runZ
  rcases h with h | h
  · have := bz_eq h
    cases a : thLb b u with
    | false => rfl
    | true => rw [a, Bool.true_and] at this; rw [this]; simp
  · have := bz_eq h
    cases a : thLb b q with
    | false => simp
    | true => rw [a, Bool.true_and] at this; rw [this]; simp
set_option maxHeartbeats 4000000 in
set_option maxRecDepth 100000 in
theorem m4_cross {l : Launch} {D : va_G} {kc : Nat → ClassId} {N : Nat} {ad : Nat → Nat} {S : St} {b : Bs} {t : Ts} (hm : vm N) (hI : Inv b) (hE : LE b t) {j u q K : Nat} (hj : j < 17) (hK : K ≤ 62) (hp : u < K) (hq : q < K) (hF : FP S b t j K) : MetK l yX4_cross cX4_cross 3 (some FieldType.boolean) 3 0 0 75 D kc (wl kc N ad S) [.ref (ad 45), .int (iZ (u : Int)), .int (iZ (q : Int))] (QI D kc (wl kc N ad S) (fun r ws' => r = iZ (bz (rn b t j u q)) ∧ ws' = wl kc N ad S)) := by
  refine MetK.of (by decide +kernel) (Nat.le_of_ble_eq_true rfl) ?_
  intro p e s m below meth c C
  have hA : ∀ q, s.heap.size ≤ q → va_A (wl kc N ad S) s.heap.size q := fun _ h => Or.inr h
  show V p l e { frames := 3, cells := 0, slots := 0, locals := 75 } s m ([.ref (ad 45), .int (iZ (u : Int)), .int (iZ (q : Int))] : List Value).toArray below meth c (MQ below (QI D kc (wl kc N ad S) (fun r ws' => r = iZ (bz (rn b t j u q)) ∧ ws' = wl kc N ad S) s.heap.size) ([.ref (ad 45), .int (iZ (u : Int)), .int (iZ (q : Int))] : List Value).toArray s 0 0 (va_A (wl kc N ad S) s.heap.size)) D (va_A (wl kc N ad S) s.heap.size) 3 0 0 (wl kc N ad S) 0 [(0, .ref (ad 45)), (1, .int (iZ (u : Int))), (2, .int (iZ (q : Int)))] []
  refine v_aload_n 0 0 C dX4_cross_0 rfl ?_
  refine g_Mo_stands 1 C (vm.o hm).1 (vm.o hm).2 lk_521 dX4_cross_1 ?_
  refine v_iload_n 4 1 C dX4_cross_4 rfl ?_
  refine v_zald 5 C (vm.a hm 62 (by decide) rfl).1 (vm.a hm 62 (by decide) rfl).2 u (izn (by omega)) (lnx (show ln 62 = 62 from rfl) (by omega)) dX4_cross_5 ?_
  refine v_eqi (iZ (stZ b t j u)) ((hF u hp).1) ?_
  refine z_if_eq 6 40 C (bzr _) dX4_cross_6 (by decide) (fun cA => ?_) (fun cA => ?_)
  · skip
    refine v_iconst 40 C (iZ 0) dX4_cross_40 rfl ?_
    exact v_zret 41 C (rfl) (⟨bzF (rn_no (Or.inl cA)), rfl⟩) dX4_cross_41
  · skip
    refine v_aload_n 9 0 C dX4_cross_9 rfl ?_
    refine g_Mo_stands 10 C (vm.o hm).1 (vm.o hm).2 lk_521 dX4_cross_10 ?_
    refine v_iload_n 13 2 C dX4_cross_13 rfl ?_
    refine v_zald 14 C (vm.a hm 62 (by decide) rfl).1 (vm.a hm 62 (by decide) rfl).2 q (izn (by omega)) (lnx (show ln 62 = 62 from rfl) (by omega)) dX4_cross_14 ?_
    refine v_eqi (iZ (stZ b t j q)) ((hF q hq).1) ?_
    refine z_if_eq 15 40 C (bzr _) dX4_cross_15 (by decide) (fun cB => ?_) (fun cB => ?_)
    · skip
      refine v_iconst 40 C (iZ 0) dX4_cross_40 rfl ?_
      exact v_zret 41 C (rfl) (⟨bzF (rn_no (Or.inr cB)), rfl⟩) dX4_cross_41
    · skip
      have T1 := stZ_1 cA
      have T2 := stZ_1 cB
      obtain ⟨e1, e2, e3, e4⟩ := (hF u hp).2 T1.1 T1.2
      obtain ⟨f1, f2, f3, f4⟩ := (hF q hq).2 T2.1 T2.2
      obtain ⟨b1, b2, b3, b4⟩ := pl_bd hI hE T1.1 hj T1.2
      obtain ⟨d1, d2, d3, d4⟩ := pl_bd hI hE T2.1 hj T2.2
      refine v_aload_n 18 0 C dX4_cross_18 rfl ?_
      refine v_iload_n 19 1 C dX4_cross_19 rfl ?_
      refine v_iload_n 20 2 C dX4_cross_20 rfl ?_
      refine v_calli 21 hA (rV_Mo 21 C L_RX4_196 lk_734 lk_42 (m4_isParted hm (by omega) (by omega) e1 e2 e3 e4 f1 f2 f3 f4 b1 b2 b3 b4 d1 d2 d3 d4) (vm.o hm) rfl ⟨rfl, rfl⟩ (rm_ok rfl) dX4_cross_21) (fun r1 w2 h3 => ?_)
      obtain ⟨e_r1, rfl⟩ := h3
      refine v_eqi (iZ (bz (partZ (bgx t j u) (bgy t j u) (enx b t j u) (eny b t j u) (bgx t j q) (bgy t j q) (enx b t j q) (eny b t j q)))) (e_r1) ?_
      refine z_if_eq 24 40 C (bzr _) dX4_cross_24 (by decide) (fun cC => ?_) (fun cC => ?_)
      · skip
        refine v_iconst 40 C (iZ 0) dX4_cross_40 rfl ?_
        exact v_zret 41 C (rfl) (⟨bzF (by unfold rn frP runZ; rw [bz_eq cC]; simp), rfl⟩) dX4_cross_41
      · skip
        refine v_aload_n 27 0 C dX4_cross_27 rfl ?_
        refine v_iload_n 28 2 C dX4_cross_28 rfl ?_
        refine v_iload_n 29 1 C dX4_cross_29 rfl ?_
        refine v_calli 30 hA (rV_Mo 30 C L_RX4_196 lk_734 lk_42 (m4_isParted hm (by omega) (by omega) f1 f2 f3 f4 e1 e2 e3 e4 d1 d2 d3 d4 b1 b2 b3 b4) (vm.o hm) rfl ⟨rfl, rfl⟩ (rm_ok rfl) dX4_cross_30) (fun r4 w5 h6 => ?_)
        obtain ⟨e_r4, rfl⟩ := h6
        refine v_eqi (iZ (bz (partZ (bgx t j q) (bgy t j q) (enx b t j q) (eny b t j q) (bgx t j u) (bgy t j u) (enx b t j u) (eny b t j u)))) (e_r4) ?_
        refine z_if_eq 33 40 C (bzr _) dX4_cross_33 (by decide) (fun cD => ?_) (fun cD => ?_)
        · skip
          refine v_iconst 40 C (iZ 0) dX4_cross_40 rfl ?_
          exact v_zret 41 C (rfl) (⟨bzF (by unfold rn frP runZ; rw [bz_eq cD]; simp), rfl⟩) dX4_cross_41
        · skip
          refine v_iconst 36 C (iZ 1) dX4_cross_36 rfl ?_
          refine v_goto 37 41 C dX4_cross_37 (by decide) ?_
          exact v_zret 41 C (rfl) (⟨bzT (by unfold rn frP runZ; rw [thLb_iff.mpr T1.1, thLb_iff.mpr T2.1, decide_eq_true T1.2, decide_eq_true T2.2, bz_ne cC, bz_ne cD]; rfl), rfl⟩) dX4_cross_41
