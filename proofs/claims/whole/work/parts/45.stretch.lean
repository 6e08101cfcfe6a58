/-! PART: a strap's second flat -/
def stQ (kc : Nat → ClassId) (N : Nat) (ad : Nat → Nat) (S : St) (R : Int) (kd : Int) (u : Nat) (a : Int) (q : Nat) (b_ c d f : Int) : Int32 → va_W → Prop := fun r ws' => r = iZ R ∧ ∃ S' : St, ws' = wl kc N ad S' ∧ sameOn usedC S S' ∧ sameOn atM S S' ∧ TJ S' kd (u : Int) a (q : Int) b_ c d f
theorem TJ_Wr {S S' : St} {j : Nat} {kd p_ a q_ b_ c d f : Int} (w : Wr S S' 4 j) (h : TJ S kd p_ a q_ b_ c d f) : TJ S' kd p_ a q_ b_ c d f := ⟨(w.1 _ _).1.trans h.1, (w.1 _ _).1.trans h.2.1, (w.1 _ _).1.trans h.2.2.1, (w.1 _ _).1.trans h.2.2.2.1, (w.1 _ _).1.trans h.2.2.2.2.1, (w.1 _ _).1.trans h.2.2.2.2.2.1, (w.1 _ _).1.trans h.2.2.2.2.2.2.1, (w.1 _ _).1.trans h.2.2.2.2.2.2.2⟩
theorem TJ_d {S : St} {kd p_ a q_ b_ c d f x : Int} (h : TJ S kd p_ a q_ b_ c d f) : TJ (pI S 18 4 (iZ x)) kd p_ a q_ b_ c x f := by
  obtain ⟨h1, h2, h3, h4, h5, h6, h7, h8⟩ := h
  refine ⟨?_, ?_, ?_, ?_, ?_, ?_, ?_, ?_⟩
  · rw [gI_pI, if_neg (by decide)]; exact h1
  · rw [gI_pI, if_neg (by decide)]; exact h2
  · rw [gI_pI, if_neg (by decide)]; exact h3
  · rw [gI_pI, if_neg (by decide)]; exact h4
  · rw [gI_pI, if_neg (by decide)]; exact h5
  · rw [gI_pI, if_neg (by decide)]; exact h6
  · rw [gI_pI, if_neg (by decide)]; exact h7
  · rw [gI_pI, if_pos (by decide)]
theorem nU4 : ∀ m, 4 < m → m ≤ 4 + 12 → ¬ usedC m := fun m z1 z2 z => by unfold usedC at z; omega
theorem nM4 : ∀ m, 4 < m → m ≤ 4 + 12 → ¬ atM m := fun m z1 z2 z => by unfold atM at z; omega
theorem RC_uF {S : St} {b : Bs} {t : Ts} {j : Nat} (hI : Inv b) (hE : LE b t) (hC : RC S b t) (hj : j < 17) (u : Nat) (hu : thL b u) (q : 2 ≤ u) : RT1 S t (u / 2 - 1) j ∧ BD1 b t (u / 2 - 1) j ∧ b01 (t 4 (u / 2 - 1) j) := ⟨hC.2.2.2 _ (thL_lt hu q).1 (thL_lt hu q).1 (thL_lt hu q).2 j hj, LE_bd hI hE _ _ (Nat.lt_succ_self _) (thL_lt hu q).1 (thL_lt hu q).1 (thL_lt hu q).2 j hj, (hE _ (thL_lt hu q).1 (thL_lt hu q).1 (thL_lt hu q).2 j hj).1⟩
set_option maxHeartbeats 4000000 in
set_option maxRecDepth 100000 in
theorem m_stretch_3 {l : Launch} {D : va_G} {kc : Nat → ClassId} {N : Nat} {ad : Nat → Nat} {S : St} {b : Bs} {t : Ts} (hg : vg N) (hN : N = 66 + 15 * bn b) (hI : Inv b) (hC : RC S b t) (hE : LE b t) {u q : Nat} (hu : thL b u) (hq : thL b q) {kd a b_ cF dF f : Int} (ha : 0 ≤ a ∧ a ≤ 1000) (hb : 0 ≤ b_ ∧ b_ ≤ 1000) (hc : 0 ≤ cF ∧ cF ≤ 1000) (hT : TJ S kd (u : Int) a (q : Int) b_ cF dF f) (h3 : ¬ (PS t 16 u = 0 ∧ PS t 16 q = 0)) : MetK l yX3_stretchTrial cX3_stretchTrial 5 (some FieldType.int) 5 0 0 127 D kc (wl kc N ad S) [.ref (ad 0)] (QI D kc (wl kc N ad S) (stQ kc N ad S (-3) kd u a q b_ cF dF f)) := by
  refine MetK.of (by decide +kernel) (Nat.le_of_ble_eq_true rfl) ?_
  intro p e s m below meth c C
  have hA : ∀ q, s.heap.size ≤ q → va_A (wl kc N ad S) s.heap.size q := fun _ h => Or.inr h
  show V p l e { frames := 5, cells := 0, slots := 0, locals := 127 } s m ([.ref (ad 0)] : List Value).toArray below meth c (MQ below (QI D kc (wl kc N ad S) (stQ kc N ad S (-3) kd u a q b_ cF dF f) s.heap.size) ([.ref (ad 0)] : List Value).toArray s 0 0 (va_A (wl kc N ad S) s.heap.size)) D (va_A (wl kc N ad S) s.heap.size) 5 0 0 (wl kc N ad S) 0 [(0, .ref (ad 0))] []
  have hP := hC.1
  have hW := hC.2.1
  have hEn := hC.2.2.1
  have hR := hC.2.2.2
  have hb0 := hI.1
  have p01 : ∀ u, thL b u → b01 (PS t 16 u) := fun u h => by
    unfold PS
    split
    · exact Or.inl rfl
    · have T := thL_lt h (by omega)
      exact (hE _ T.1 T.1 T.2 16 (by decide)).1
  have p1 := p01 u hu
  have p2 := p01 q hq
  have h62u := thL_62 hI hu
  have h62q := thL_62 hI hq
  refine v_aload_n 0 0 C dX3_stretchTrial_0 rfl ?_
  refine v_aload_n 1 0 C dX3_stretchTrial_1 rfl ?_
  refine g_Pg_trial 2 C (vg.o hg).1 (vg.o hg).2 lk_212 dX3_stretchTrial_2 ?_
  refine g_Pt_p 5 C (vp.o (vg.t hg)).1 (vp.o (vg.t hg)).2 lk_135 dX3_stretchTrial_5 ?_
  refine v_eqi (iZ (u : Int)) (hT.2.1) ?_
  refine v_aload_n 8 0 C dX3_stretchTrial_8 rfl ?_
  refine g_Pg_trial 9 C (vg.o hg).1 (vg.o hg).2 lk_212 dX3_stretchTrial_9 ?_
  refine g_Pt_a 12 C (vp.o (vg.t hg)).1 (vp.o (vg.t hg)).2 lk_137 dX3_stretchTrial_12 ?_
  refine v_eqi (iZ a) (hT.2.2.1) ?_
  refine v_bipush 15 C (iZ 16) dX3_stretchTrial_15 (by decide) ?_
  refine v_aload_n 17 0 C dX3_stretchTrial_17 rfl ?_
  refine g_Pg_trial 18 C (vg.o hg).1 (vg.o hg).2 lk_212 dX3_stretchTrial_18 ?_
  refine g_Pt_hingeA 21 C (vp.o (vg.t hg)).1 (vp.o (vg.t hg)).2 lk_123 dX3_stretchTrial_21 ?_
  refine v_callv 24 hA (rV_Pg 24 C L_RX3_253 lk_284 lk_8 (m_markOn (t := t) (u := u) (j := 16) (T_ := 5) (n := a) hg hN hI hP hW hu (by decide) (vp.A (vg.t hg)) ha (RC_uF hI hE hC (by decide) u hu)) (vg.o hg) rfl ⟨rfl, rfl⟩ (rm_ok rfl) dX3_stretchTrial_24) (fun w2 h3 => ?_)
  obtain rfl := h3
  obtain ⟨S1, hS1⟩ : ∃ S1, S1 = mkT S 5 16 (PS t 16 u) (PLx b t 16 u a) (PLy b t 16 u a) := ⟨_, rfl⟩
  rw [← hS1]
  have w1 : Wr S S1 4 16 := by rw [hS1]; exact Wr.mk (by omega)
  have C1 := hC.keep2 (same_Wr w1 nU4)
  have T1 := TJ_Wr w1 hT
  refine v_aload_n 27 0 C dX3_stretchTrial_27 rfl ?_
  refine v_aload_n 28 0 C dX3_stretchTrial_28 rfl ?_
  refine g_Pg_trial 29 C (vg.o hg).1 (vg.o hg).2 lk_212 dX3_stretchTrial_29 ?_
  refine g_Pt_q 32 C (vp.o (vg.t hg)).1 (vp.o (vg.t hg)).2 lk_139 dX3_stretchTrial_32 ?_
  refine v_eqi (iZ (q : Int)) (T1.2.2.2.1) ?_
  refine v_aload_n 35 0 C dX3_stretchTrial_35 rfl ?_
  refine g_Pg_trial 36 C (vg.o hg).1 (vg.o hg).2 lk_212 dX3_stretchTrial_36 ?_
  refine g_Pt_b 39 C (vp.o (vg.t hg)).1 (vp.o (vg.t hg)).2 lk_141 dX3_stretchTrial_39 ?_
  refine v_eqi (iZ b_) (T1.2.2.2.2.1) ?_
  refine v_bipush 42 C (iZ 16) dX3_stretchTrial_42 (by decide) ?_
  refine v_aload_n 44 0 C dX3_stretchTrial_44 rfl ?_
  refine g_Pg_trial 45 C (vg.o hg).1 (vg.o hg).2 lk_212 dX3_stretchTrial_45 ?_
  refine g_Pt_hingeB 48 C (vp.o (vg.t hg)).1 (vp.o (vg.t hg)).2 lk_125 dX3_stretchTrial_48 ?_
  refine v_callv 51 hA (rV_Pg 51 C L_RX3_253 lk_284 lk_8 (m_markOn (t := t) (u := q) (j := 16) (T_ := 9) (n := b_) hg hN hI C1.1 C1.2.1 hq (by decide) (vp.B (vg.t hg)) hb (RC_uF hI hE C1 (by decide) q hq)) (vg.o hg) rfl ⟨rfl, rfl⟩ (rm_ok rfl) dX3_stretchTrial_51) (fun w5 h6 => ?_)
  obtain rfl := h6
  obtain ⟨S2, hS2⟩ : ∃ S2, S2 = mkT S1 9 16 (PS t 16 q) (PLx b t 16 q b_) (PLy b t 16 q b_) := ⟨_, rfl⟩
  rw [← hS2]
  have w2 : Wr S1 S2 4 16 := by rw [hS2]; exact Wr.mk (by omega)
  have w := w1.tr w2
  have T2 := TJ_Wr w2 T1
  have s1 : gA S2 8 16 = iZ (PS t 16 u) := by rw [hS2, tw_o (by omega), hS1]; exact mkT_s p1
  have s2 : gA S2 12 16 = iZ (PS t 16 q) := by rw [hS2]; exact mkT_s p2
  refine v_aload_n 54 0 C dX3_stretchTrial_54 rfl ?_
  refine g_Pg_trial 55 C (vg.o hg).1 (vg.o hg).2 lk_212 dX3_stretchTrial_55 ?_
  refine g_Pt_hingeA 58 C (vp.o (vg.t hg)).1 (vp.o (vg.t hg)).2 lk_123 dX3_stretchTrial_58 ?_
  refine g_Tr_stuck 61 C (vt.o (vp.A (vg.t hg))).1 (vt.o (vp.A (vg.t hg))).2 lk_87 dX3_stretchTrial_61 ?_
  refine v_bipush 64 C (iZ 16) dX3_stretchTrial_64 (by decide) ?_
  refine v_zald 66 C (vt.s (vp.A (vg.t hg))).1 (vt.s (vp.A (vg.t hg))).2 16 (izn (by omega)) (lnx (vt.ls (vp.A (vg.t hg))) (by omega)) dX3_stretchTrial_66 ?_
  refine v_eqi (iZ (PS t 16 u)) (s1) ?_
  refine z_if_ne 67 86 C (by first | assumption | exact ⟨by omega, by omega⟩) dX3_stretchTrial_67 (by decide) (fun cS => ?_) (fun cS => ?_)
  · skip
    refine v_bipush 86 C (iZ (-3)) dX3_stretchTrial_86 (by decide) ?_
    exact v_iret 88 C (⟨rfl, S2, rfl, same_Wr w nU4, same_Wr w nM4, T2⟩) dX3_stretchTrial_88
  · skip
    refine v_aload_n 70 0 C dX3_stretchTrial_70 rfl ?_
    refine g_Pg_trial 71 C (vg.o hg).1 (vg.o hg).2 lk_212 dX3_stretchTrial_71 ?_
    refine g_Pt_hingeB 74 C (vp.o (vg.t hg)).1 (vp.o (vg.t hg)).2 lk_125 dX3_stretchTrial_74 ?_
    refine g_Tr_stuck 77 C (vt.o (vp.B (vg.t hg))).1 (vt.o (vp.B (vg.t hg))).2 lk_87 dX3_stretchTrial_77 ?_
    refine v_bipush 80 C (iZ 16) dX3_stretchTrial_80 (by decide) ?_
    refine v_zald 82 C (vt.s (vp.B (vg.t hg))).1 (vt.s (vp.B (vg.t hg))).2 16 (izn (by omega)) (lnx (vt.ls (vp.B (vg.t hg))) (by omega)) dX3_stretchTrial_82 ?_
    refine v_eqi (iZ (PS t 16 q)) (s2) ?_
    refine z_if_eq 83 89 C (by first | assumption | exact ⟨by omega, by omega⟩) dX3_stretchTrial_83 (by decide) (fun cT => absurd cT (fun z => h3 ⟨by omega, z⟩)) (fun cT => ?_)
    refine v_bipush 86 C (iZ (-3)) dX3_stretchTrial_86 (by decide) ?_
    exact v_iret 88 C (⟨rfl, S2, rfl, same_Wr w nU4, same_Wr w nM4, T2⟩) dX3_stretchTrial_88

set_option maxHeartbeats 4000000 in
set_option maxRecDepth 100000 in
theorem m_stretch_7 {l : Launch} {D : va_G} {kc : Nat → ClassId} {N : Nat} {ad : Nat → Nat} {S : St} {b : Bs} {t : Ts} (hg : vg N) (hN : N = 66 + 15 * bn b) (hI : Inv b) (hC : RC S b t) (hE : LE b t) {u q : Nat} (hu : thL b u) (hq : thL b q) {kd a b_ cF dF f : Int} (ha : 0 ≤ a ∧ a ≤ 1000) (hb : 0 ≤ b_ ∧ b_ ≤ 1000) (hc : 0 ≤ cF ∧ cF ≤ 1000) (hT : TJ S kd (u : Int) a (q : Int) b_ cF dF f) (h3 : PS t 16 u = 0 ∧ PS t 16 q = 0) (h7 : 1000 < stL b t u a q b_ cF) : MetK l yX3_stretchTrial cX3_stretchTrial 5 (some FieldType.int) 5 0 0 127 D kc (wl kc N ad S) [.ref (ad 0)] (QI D kc (wl kc N ad S) (stQ kc N ad S (-6) kd u a q b_ cF dF f)) := by
  refine MetK.of (by decide +kernel) (Nat.le_of_ble_eq_true rfl) ?_
  intro p e s m below meth c C
  have hA : ∀ q, s.heap.size ≤ q → va_A (wl kc N ad S) s.heap.size q := fun _ h => Or.inr h
  show V p l e { frames := 5, cells := 0, slots := 0, locals := 127 } s m ([.ref (ad 0)] : List Value).toArray below meth c (MQ below (QI D kc (wl kc N ad S) (stQ kc N ad S (-6) kd u a q b_ cF dF f) s.heap.size) ([.ref (ad 0)] : List Value).toArray s 0 0 (va_A (wl kc N ad S) s.heap.size)) D (va_A (wl kc N ad S) s.heap.size) 5 0 0 (wl kc N ad S) 0 [(0, .ref (ad 0))] []
  have hP := hC.1
  have hW := hC.2.1
  have hEn := hC.2.2.1
  have hR := hC.2.2.2
  have hb0 := hI.1
  have p01 : ∀ u, thL b u → b01 (PS t 16 u) := fun u h => by
    unfold PS
    split
    · exact Or.inl rfl
    · have T := thL_lt h (by omega)
      exact (hE _ T.1 T.1 T.2 16 (by decide)).1
  have p1 := p01 u hu
  have p2 := p01 q hq
  have h62u := thL_62 hI hu
  have h62q := thL_62 hI hq
  have sqb := stSq_b (a := a) (b_ := b_) hI hE hu hq h3.1 h3.2 ha hb
  have isb := isq_spec sqb.1
  have isb2 : -100000 ≤ isq (stSq b t u a q b_) ∧ isq (stSq b t u a q b_) ≤ 100000 := sq_le (by decide) (by omega)
  have hst : stL b t u a q b_ cF = max 1 (isq (stSq b t u a q b_) - cF) := rfl
  have B1 := PL_32 hI hE hu (by decide) h3.1 ha
  have B2 := PL_32 hI hE hq (by decide) h3.2 hb
  refine v_aload_n 0 0 C dX3_stretchTrial_0 rfl ?_
  refine v_aload_n 1 0 C dX3_stretchTrial_1 rfl ?_
  refine g_Pg_trial 2 C (vg.o hg).1 (vg.o hg).2 lk_212 dX3_stretchTrial_2 ?_
  refine g_Pt_p 5 C (vp.o (vg.t hg)).1 (vp.o (vg.t hg)).2 lk_135 dX3_stretchTrial_5 ?_
  refine v_eqi (iZ (u : Int)) (hT.2.1) ?_
  refine v_aload_n 8 0 C dX3_stretchTrial_8 rfl ?_
  refine g_Pg_trial 9 C (vg.o hg).1 (vg.o hg).2 lk_212 dX3_stretchTrial_9 ?_
  refine g_Pt_a 12 C (vp.o (vg.t hg)).1 (vp.o (vg.t hg)).2 lk_137 dX3_stretchTrial_12 ?_
  refine v_eqi (iZ a) (hT.2.2.1) ?_
  refine v_bipush 15 C (iZ 16) dX3_stretchTrial_15 (by decide) ?_
  refine v_aload_n 17 0 C dX3_stretchTrial_17 rfl ?_
  refine g_Pg_trial 18 C (vg.o hg).1 (vg.o hg).2 lk_212 dX3_stretchTrial_18 ?_
  refine g_Pt_hingeA 21 C (vp.o (vg.t hg)).1 (vp.o (vg.t hg)).2 lk_123 dX3_stretchTrial_21 ?_
  refine v_callv 24 hA (rV_Pg 24 C L_RX3_253 lk_284 lk_8 (m_markOn (t := t) (u := u) (j := 16) (T_ := 5) (n := a) hg hN hI hP hW hu (by decide) (vp.A (vg.t hg)) ha (RC_uF hI hE hC (by decide) u hu)) (vg.o hg) rfl ⟨rfl, rfl⟩ (rm_ok rfl) dX3_stretchTrial_24) (fun w2 h3 => ?_)
  obtain rfl := h3
  obtain ⟨S1, hS1⟩ : ∃ S1, S1 = mkT S 5 16 (PS t 16 u) (PLx b t 16 u a) (PLy b t 16 u a) := ⟨_, rfl⟩
  rw [← hS1]
  have w1 : Wr S S1 4 16 := by rw [hS1]; exact Wr.mk (by omega)
  have C1 := hC.keep2 (same_Wr w1 nU4)
  have T1 := TJ_Wr w1 hT
  refine v_aload_n 27 0 C dX3_stretchTrial_27 rfl ?_
  refine v_aload_n 28 0 C dX3_stretchTrial_28 rfl ?_
  refine g_Pg_trial 29 C (vg.o hg).1 (vg.o hg).2 lk_212 dX3_stretchTrial_29 ?_
  refine g_Pt_q 32 C (vp.o (vg.t hg)).1 (vp.o (vg.t hg)).2 lk_139 dX3_stretchTrial_32 ?_
  refine v_eqi (iZ (q : Int)) (T1.2.2.2.1) ?_
  refine v_aload_n 35 0 C dX3_stretchTrial_35 rfl ?_
  refine g_Pg_trial 36 C (vg.o hg).1 (vg.o hg).2 lk_212 dX3_stretchTrial_36 ?_
  refine g_Pt_b 39 C (vp.o (vg.t hg)).1 (vp.o (vg.t hg)).2 lk_141 dX3_stretchTrial_39 ?_
  refine v_eqi (iZ b_) (T1.2.2.2.2.1) ?_
  refine v_bipush 42 C (iZ 16) dX3_stretchTrial_42 (by decide) ?_
  refine v_aload_n 44 0 C dX3_stretchTrial_44 rfl ?_
  refine g_Pg_trial 45 C (vg.o hg).1 (vg.o hg).2 lk_212 dX3_stretchTrial_45 ?_
  refine g_Pt_hingeB 48 C (vp.o (vg.t hg)).1 (vp.o (vg.t hg)).2 lk_125 dX3_stretchTrial_48 ?_
  refine v_callv 51 hA (rV_Pg 51 C L_RX3_253 lk_284 lk_8 (m_markOn (t := t) (u := q) (j := 16) (T_ := 9) (n := b_) hg hN hI C1.1 C1.2.1 hq (by decide) (vp.B (vg.t hg)) hb (RC_uF hI hE C1 (by decide) q hq)) (vg.o hg) rfl ⟨rfl, rfl⟩ (rm_ok rfl) dX3_stretchTrial_51) (fun w5 h6 => ?_)
  obtain rfl := h6
  obtain ⟨S2, hS2⟩ : ∃ S2, S2 = mkT S1 9 16 (PS t 16 q) (PLx b t 16 q b_) (PLy b t 16 q b_) := ⟨_, rfl⟩
  rw [← hS2]
  have w2 : Wr S1 S2 4 16 := by rw [hS2]; exact Wr.mk (by omega)
  have w := w1.tr w2
  have T2 := TJ_Wr w2 T1
  have s1 : gA S2 8 16 = iZ (PS t 16 u) := by rw [hS2, tw_o (by omega), hS1]; exact mkT_s p1
  have s2 : gA S2 12 16 = iZ (PS t 16 q) := by rw [hS2]; exact mkT_s p2
  refine v_aload_n 54 0 C dX3_stretchTrial_54 rfl ?_
  refine g_Pg_trial 55 C (vg.o hg).1 (vg.o hg).2 lk_212 dX3_stretchTrial_55 ?_
  refine g_Pt_hingeA 58 C (vp.o (vg.t hg)).1 (vp.o (vg.t hg)).2 lk_123 dX3_stretchTrial_58 ?_
  refine g_Tr_stuck 61 C (vt.o (vp.A (vg.t hg))).1 (vt.o (vp.A (vg.t hg))).2 lk_87 dX3_stretchTrial_61 ?_
  refine v_bipush 64 C (iZ 16) dX3_stretchTrial_64 (by decide) ?_
  refine v_zald 66 C (vt.s (vp.A (vg.t hg))).1 (vt.s (vp.A (vg.t hg))).2 16 (izn (by omega)) (lnx (vt.ls (vp.A (vg.t hg))) (by omega)) dX3_stretchTrial_66 ?_
  refine v_eqi (iZ (PS t 16 u)) (s1) ?_
  refine z_if_ne 67 86 C (by first | assumption | exact ⟨by omega, by omega⟩) dX3_stretchTrial_67 (by decide) (fun c67_0 => absurd c67_0 (fun z => z h3.1)) (fun c67_0 => ?_)
  refine v_aload_n 70 0 C dX3_stretchTrial_70 rfl ?_
  refine g_Pg_trial 71 C (vg.o hg).1 (vg.o hg).2 lk_212 dX3_stretchTrial_71 ?_
  refine g_Pt_hingeB 74 C (vp.o (vg.t hg)).1 (vp.o (vg.t hg)).2 lk_125 dX3_stretchTrial_74 ?_
  refine g_Tr_stuck 77 C (vt.o (vp.B (vg.t hg))).1 (vt.o (vp.B (vg.t hg))).2 lk_87 dX3_stretchTrial_77 ?_
  refine v_bipush 80 C (iZ 16) dX3_stretchTrial_80 (by decide) ?_
  refine v_zald 82 C (vt.s (vp.B (vg.t hg))).1 (vt.s (vp.B (vg.t hg))).2 16 (izn (by omega)) (lnx (vt.ls (vp.B (vg.t hg))) (by omega)) dX3_stretchTrial_82 ?_
  refine v_eqi (iZ (PS t 16 q)) (s2) ?_
  refine z_if_eq 83 89 C (by first | assumption | exact ⟨by omega, by omega⟩) dX3_stretchTrial_83 (by decide) (fun c83_1 => ?_) (fun c83_1 => absurd (h3.2) c83_1)
  have x1 : gA S2 (5 + 1) 16 = iZ (PLx b t 16 u a) := by rw [hS2, tw_o (by omega), hS1]; exact mkT_x h3.1
  have x2 : gA S2 (5 + 2) 16 = iZ (PLy b t 16 u a) := by rw [hS2, tw_o (by omega), hS1]; exact mkT_y h3.1
  have x3 : gA S2 (9 + 1) 16 = iZ (PLx b t 16 q b_) := by rw [hS2]; exact mkT_x h3.2
  have x4 : gA S2 (9 + 2) 16 = iZ (PLy b t 16 q b_) := by rw [hS2]; exact mkT_y h3.2
  refine v_aload_n 89 0 C dX3_stretchTrial_89 rfl ?_
  refine g_Pg_trial 90 C (vg.o hg).1 (vg.o hg).2 lk_212 dX3_stretchTrial_90 ?_
  refine g_Pt_hingeA 93 C (vp.o (vg.t hg)).1 (vp.o (vg.t hg)).2 lk_123 dX3_stretchTrial_93 ?_
  refine v_aload_n 96 0 C dX3_stretchTrial_96 rfl ?_
  refine g_Pg_trial 97 C (vg.o hg).1 (vg.o hg).2 lk_212 dX3_stretchTrial_97 ?_
  refine g_Pt_hingeB 100 C (vp.o (vg.t hg)).1 (vp.o (vg.t hg)).2 lk_125 dX3_stretchTrial_100 ?_
  refine v_bipush 103 C (iZ 16) dX3_stretchTrial_103 (by decide) ?_
  refine v_calll 105 hA (rV_Tr 105 C L_RX3_260 lk_288 lk_289 (m_squareTo (t := 5) (o := 9) (j := 16) (vp.A (vg.t hg)) (vp.B (vg.t hg)) (by decide) x1 x2 x3 x4 ⟨by omega, by omega⟩ ⟨by omega, by omega⟩ ⟨by omega, by omega⟩ ⟨by omega, by omega⟩) (vt.o (vp.A (vg.t hg))) rfl ⟨rfl, rfl⟩ (rm_ok rfl) dX3_stretchTrial_105) (fun r7 w8 h9 => ?_)
  obtain ⟨e_r7, rfl⟩ := h9
  refine v_eql (lZ (stSq b t u a q b_)) (e_r7) ?_
  refine v_calll 108 hA (rS 108 C L_RX3_264 lk_292 (m_rootBelow (v := stSq b t u a q b_) sqb.1 (by omega)) rfl rfl (rm_ok rfl) dX3_stretchTrial_108) (fun r10 w11 h12 => ?_)
  obtain ⟨e_r10, rfl⟩ := h12
  refine v_eql (lZ (isq (stSq b t u a q b_))) (e_r10) ?_
  refine v_lstore_n 111 [(1, .long (lZ (isq (stSq b t u a q b_)))), (0, .ref (ad 0))] C dX3_stretchTrial_111 (by decide) rfl ?_
  refine v_lconst 112 C (lZ 1) dX3_stretchTrial_112 (by decide) ?_
  refine v_lload_n 113 0 C dX3_stretchTrial_113 rfl ?_
  refine v_aload_n 114 1 C dX3_stretchTrial_114 rfl ?_
  refine g_Pg_trial 115 C (vg.o hg).1 (vg.o hg).2 lk_212 dX3_stretchTrial_115 ?_
  refine g_Pt_flatA 118 C (vp.o (vg.t hg)).1 (vp.o (vg.t hg)).2 lk_129 dX3_stretchTrial_118 ?_
  refine g_Pl_size 121 C (vl.o (vp.fA (vg.t hg))).1 (vl.o (vp.fA (vg.t hg))).2 lk_110 dX3_stretchTrial_121 ?_
  refine v_eqi (iZ cF) (T2.2.2.2.2.2.2.1) ?_
  refine z_i2l 124 C (by first | assumption | exact ⟨by omega, by omega⟩) dX3_stretchTrial_124 ?_
  refine z_lsub 125 C dX3_stretchTrial_125 ?_
  refine v_mmaxl 126 C lk_294 ⟨Nat.le_of_ble_eq_true rfl, Nat.le_of_ble_eq_true rfl, Nat.le_of_ble_eq_true rfl, Nat.le_of_ble_eq_true rfl⟩ dX3_stretchTrial_126 ?_
  refine v_eql (lZ (max 1 ((isq (stSq b t u a q b_)) - cF))) (mmaxl_z (by first | assumption | exact ⟨by omega, by omega⟩) (by first | assumption | exact ⟨by omega, by omega⟩)) ?_
  refine v_eql (lZ (stL b t u a q b_ cF)) (rfl) ?_
  refine v_lstore_n 129 [(3, .long (lZ (stL b t u a q b_ cF))), (1, .long (lZ (isq (stSq b t u a q b_)))), (0, .ref (ad 0))] C dX3_stretchTrial_129 (by decide) rfl ?_
  refine v_lload_n 130 0 C dX3_stretchTrial_130 rfl ?_
  refine v_ldc2 131 C (1000) lk_297 dX3_stretchTrial_131 ?_
  refine v_eql (lZ 1000) (by decide) ?_
  refine z_lcmp_le 134 141 C (by first | assumption | exact ⟨by omega, by omega⟩) (by first | assumption | exact ⟨by omega, by omega⟩) dX3_stretchTrial_134 dX3_stretchTrial_135 (by decide) (fun c134_2 => absurd c134_2 (by omega)) (fun c134_2 => ?_)
  refine v_bipush 138 C (iZ (-6)) dX3_stretchTrial_138 (by decide) ?_
  exact v_iret 140 C (⟨rfl, S2, rfl, same_Wr w nU4, same_Wr w nM4, T2⟩) dX3_stretchTrial_140

set_option maxHeartbeats 4000000 in
set_option maxRecDepth 100000 in
theorem m_stretch_0 {l : Launch} {D : va_G} {kc : Nat → ClassId} {N : Nat} {ad : Nat → Nat} {S : St} {b : Bs} {t : Ts} (hg : vg N) (hN : N = 66 + 15 * bn b) (hI : Inv b) (hC : RC S b t) (hE : LE b t) {u q : Nat} (hu : thL b u) (hq : thL b q) {kd a b_ cF dF f : Int} (ha : 0 ≤ a ∧ a ≤ 1000) (hb : 0 ≤ b_ ∧ b_ ≤ 1000) (hc : 0 ≤ cF ∧ cF ≤ 1000) (hT : TJ S kd (u : Int) a (q : Int) b_ cF dF f) (h3 : PS t 16 u = 0 ∧ PS t 16 q = 0) (h7 : stL b t u a q b_ cF ≤ 1000) : MetK l yX3_stretchTrial cX3_stretchTrial 5 (some FieldType.int) 5 0 0 127 D kc (wl kc N ad S) [.ref (ad 0)] (QI D kc (wl kc N ad S) (stQ kc N ad S 0 kd u a q b_ cF (stL b t u a q b_ cF) f)) := by
  refine MetK.of (by decide +kernel) (Nat.le_of_ble_eq_true rfl) ?_
  intro p e s m below meth c C
  have hA : ∀ q, s.heap.size ≤ q → va_A (wl kc N ad S) s.heap.size q := fun _ h => Or.inr h
  show V p l e { frames := 5, cells := 0, slots := 0, locals := 127 } s m ([.ref (ad 0)] : List Value).toArray below meth c (MQ below (QI D kc (wl kc N ad S) (stQ kc N ad S 0 kd u a q b_ cF (stL b t u a q b_ cF) f) s.heap.size) ([.ref (ad 0)] : List Value).toArray s 0 0 (va_A (wl kc N ad S) s.heap.size)) D (va_A (wl kc N ad S) s.heap.size) 5 0 0 (wl kc N ad S) 0 [(0, .ref (ad 0))] []
  have hP := hC.1
  have hW := hC.2.1
  have hEn := hC.2.2.1
  have hR := hC.2.2.2
  have hb0 := hI.1
  have p01 : ∀ u, thL b u → b01 (PS t 16 u) := fun u h => by
    unfold PS
    split
    · exact Or.inl rfl
    · have T := thL_lt h (by omega)
      exact (hE _ T.1 T.1 T.2 16 (by decide)).1
  have p1 := p01 u hu
  have p2 := p01 q hq
  have h62u := thL_62 hI hu
  have h62q := thL_62 hI hq
  have sqb := stSq_b (a := a) (b_ := b_) hI hE hu hq h3.1 h3.2 ha hb
  have isb := isq_spec sqb.1
  have isb2 : -100000 ≤ isq (stSq b t u a q b_) ∧ isq (stSq b t u a q b_) ≤ 100000 := sq_le (by decide) (by omega)
  have hst : stL b t u a q b_ cF = max 1 (isq (stSq b t u a q b_) - cF) := rfl
  have B1 := PL_32 hI hE hu (by decide) h3.1 ha
  have B2 := PL_32 hI hE hq (by decide) h3.2 hb
  refine v_aload_n 0 0 C dX3_stretchTrial_0 rfl ?_
  refine v_aload_n 1 0 C dX3_stretchTrial_1 rfl ?_
  refine g_Pg_trial 2 C (vg.o hg).1 (vg.o hg).2 lk_212 dX3_stretchTrial_2 ?_
  refine g_Pt_p 5 C (vp.o (vg.t hg)).1 (vp.o (vg.t hg)).2 lk_135 dX3_stretchTrial_5 ?_
  refine v_eqi (iZ (u : Int)) (hT.2.1) ?_
  refine v_aload_n 8 0 C dX3_stretchTrial_8 rfl ?_
  refine g_Pg_trial 9 C (vg.o hg).1 (vg.o hg).2 lk_212 dX3_stretchTrial_9 ?_
  refine g_Pt_a 12 C (vp.o (vg.t hg)).1 (vp.o (vg.t hg)).2 lk_137 dX3_stretchTrial_12 ?_
  refine v_eqi (iZ a) (hT.2.2.1) ?_
  refine v_bipush 15 C (iZ 16) dX3_stretchTrial_15 (by decide) ?_
  refine v_aload_n 17 0 C dX3_stretchTrial_17 rfl ?_
  refine g_Pg_trial 18 C (vg.o hg).1 (vg.o hg).2 lk_212 dX3_stretchTrial_18 ?_
  refine g_Pt_hingeA 21 C (vp.o (vg.t hg)).1 (vp.o (vg.t hg)).2 lk_123 dX3_stretchTrial_21 ?_
  refine v_callv 24 hA (rV_Pg 24 C L_RX3_253 lk_284 lk_8 (m_markOn (t := t) (u := u) (j := 16) (T_ := 5) (n := a) hg hN hI hP hW hu (by decide) (vp.A (vg.t hg)) ha (RC_uF hI hE hC (by decide) u hu)) (vg.o hg) rfl ⟨rfl, rfl⟩ (rm_ok rfl) dX3_stretchTrial_24) (fun w2 h3 => ?_)
  obtain rfl := h3
  obtain ⟨S1, hS1⟩ : ∃ S1, S1 = mkT S 5 16 (PS t 16 u) (PLx b t 16 u a) (PLy b t 16 u a) := ⟨_, rfl⟩
  rw [← hS1]
  have w1 : Wr S S1 4 16 := by rw [hS1]; exact Wr.mk (by omega)
  have C1 := hC.keep2 (same_Wr w1 nU4)
  have T1 := TJ_Wr w1 hT
  refine v_aload_n 27 0 C dX3_stretchTrial_27 rfl ?_
  refine v_aload_n 28 0 C dX3_stretchTrial_28 rfl ?_
  refine g_Pg_trial 29 C (vg.o hg).1 (vg.o hg).2 lk_212 dX3_stretchTrial_29 ?_
  refine g_Pt_q 32 C (vp.o (vg.t hg)).1 (vp.o (vg.t hg)).2 lk_139 dX3_stretchTrial_32 ?_
  refine v_eqi (iZ (q : Int)) (T1.2.2.2.1) ?_
  refine v_aload_n 35 0 C dX3_stretchTrial_35 rfl ?_
  refine g_Pg_trial 36 C (vg.o hg).1 (vg.o hg).2 lk_212 dX3_stretchTrial_36 ?_
  refine g_Pt_b 39 C (vp.o (vg.t hg)).1 (vp.o (vg.t hg)).2 lk_141 dX3_stretchTrial_39 ?_
  refine v_eqi (iZ b_) (T1.2.2.2.2.1) ?_
  refine v_bipush 42 C (iZ 16) dX3_stretchTrial_42 (by decide) ?_
  refine v_aload_n 44 0 C dX3_stretchTrial_44 rfl ?_
  refine g_Pg_trial 45 C (vg.o hg).1 (vg.o hg).2 lk_212 dX3_stretchTrial_45 ?_
  refine g_Pt_hingeB 48 C (vp.o (vg.t hg)).1 (vp.o (vg.t hg)).2 lk_125 dX3_stretchTrial_48 ?_
  refine v_callv 51 hA (rV_Pg 51 C L_RX3_253 lk_284 lk_8 (m_markOn (t := t) (u := q) (j := 16) (T_ := 9) (n := b_) hg hN hI C1.1 C1.2.1 hq (by decide) (vp.B (vg.t hg)) hb (RC_uF hI hE C1 (by decide) q hq)) (vg.o hg) rfl ⟨rfl, rfl⟩ (rm_ok rfl) dX3_stretchTrial_51) (fun w5 h6 => ?_)
  obtain rfl := h6
  obtain ⟨S2, hS2⟩ : ∃ S2, S2 = mkT S1 9 16 (PS t 16 q) (PLx b t 16 q b_) (PLy b t 16 q b_) := ⟨_, rfl⟩
  rw [← hS2]
  have w2 : Wr S1 S2 4 16 := by rw [hS2]; exact Wr.mk (by omega)
  have w := w1.tr w2
  have T2 := TJ_Wr w2 T1
  have s1 : gA S2 8 16 = iZ (PS t 16 u) := by rw [hS2, tw_o (by omega), hS1]; exact mkT_s p1
  have s2 : gA S2 12 16 = iZ (PS t 16 q) := by rw [hS2]; exact mkT_s p2
  refine v_aload_n 54 0 C dX3_stretchTrial_54 rfl ?_
  refine g_Pg_trial 55 C (vg.o hg).1 (vg.o hg).2 lk_212 dX3_stretchTrial_55 ?_
  refine g_Pt_hingeA 58 C (vp.o (vg.t hg)).1 (vp.o (vg.t hg)).2 lk_123 dX3_stretchTrial_58 ?_
  refine g_Tr_stuck 61 C (vt.o (vp.A (vg.t hg))).1 (vt.o (vp.A (vg.t hg))).2 lk_87 dX3_stretchTrial_61 ?_
  refine v_bipush 64 C (iZ 16) dX3_stretchTrial_64 (by decide) ?_
  refine v_zald 66 C (vt.s (vp.A (vg.t hg))).1 (vt.s (vp.A (vg.t hg))).2 16 (izn (by omega)) (lnx (vt.ls (vp.A (vg.t hg))) (by omega)) dX3_stretchTrial_66 ?_
  refine v_eqi (iZ (PS t 16 u)) (s1) ?_
  refine z_if_ne 67 86 C (by first | assumption | exact ⟨by omega, by omega⟩) dX3_stretchTrial_67 (by decide) (fun c67_0 => absurd c67_0 (fun z => z h3.1)) (fun c67_0 => ?_)
  refine v_aload_n 70 0 C dX3_stretchTrial_70 rfl ?_
  refine g_Pg_trial 71 C (vg.o hg).1 (vg.o hg).2 lk_212 dX3_stretchTrial_71 ?_
  refine g_Pt_hingeB 74 C (vp.o (vg.t hg)).1 (vp.o (vg.t hg)).2 lk_125 dX3_stretchTrial_74 ?_
  refine g_Tr_stuck 77 C (vt.o (vp.B (vg.t hg))).1 (vt.o (vp.B (vg.t hg))).2 lk_87 dX3_stretchTrial_77 ?_
  refine v_bipush 80 C (iZ 16) dX3_stretchTrial_80 (by decide) ?_
  refine v_zald 82 C (vt.s (vp.B (vg.t hg))).1 (vt.s (vp.B (vg.t hg))).2 16 (izn (by omega)) (lnx (vt.ls (vp.B (vg.t hg))) (by omega)) dX3_stretchTrial_82 ?_
  refine v_eqi (iZ (PS t 16 q)) (s2) ?_
  refine z_if_eq 83 89 C (by first | assumption | exact ⟨by omega, by omega⟩) dX3_stretchTrial_83 (by decide) (fun c83_1 => ?_) (fun c83_1 => absurd (h3.2) c83_1)
  have x1 : gA S2 (5 + 1) 16 = iZ (PLx b t 16 u a) := by rw [hS2, tw_o (by omega), hS1]; exact mkT_x h3.1
  have x2 : gA S2 (5 + 2) 16 = iZ (PLy b t 16 u a) := by rw [hS2, tw_o (by omega), hS1]; exact mkT_y h3.1
  have x3 : gA S2 (9 + 1) 16 = iZ (PLx b t 16 q b_) := by rw [hS2]; exact mkT_x h3.2
  have x4 : gA S2 (9 + 2) 16 = iZ (PLy b t 16 q b_) := by rw [hS2]; exact mkT_y h3.2
  refine v_aload_n 89 0 C dX3_stretchTrial_89 rfl ?_
  refine g_Pg_trial 90 C (vg.o hg).1 (vg.o hg).2 lk_212 dX3_stretchTrial_90 ?_
  refine g_Pt_hingeA 93 C (vp.o (vg.t hg)).1 (vp.o (vg.t hg)).2 lk_123 dX3_stretchTrial_93 ?_
  refine v_aload_n 96 0 C dX3_stretchTrial_96 rfl ?_
  refine g_Pg_trial 97 C (vg.o hg).1 (vg.o hg).2 lk_212 dX3_stretchTrial_97 ?_
  refine g_Pt_hingeB 100 C (vp.o (vg.t hg)).1 (vp.o (vg.t hg)).2 lk_125 dX3_stretchTrial_100 ?_
  refine v_bipush 103 C (iZ 16) dX3_stretchTrial_103 (by decide) ?_
  refine v_calll 105 hA (rV_Tr 105 C L_RX3_260 lk_288 lk_289 (m_squareTo (t := 5) (o := 9) (j := 16) (vp.A (vg.t hg)) (vp.B (vg.t hg)) (by decide) x1 x2 x3 x4 ⟨by omega, by omega⟩ ⟨by omega, by omega⟩ ⟨by omega, by omega⟩ ⟨by omega, by omega⟩) (vt.o (vp.A (vg.t hg))) rfl ⟨rfl, rfl⟩ (rm_ok rfl) dX3_stretchTrial_105) (fun r7 w8 h9 => ?_)
  obtain ⟨e_r7, rfl⟩ := h9
  refine v_eql (lZ (stSq b t u a q b_)) (e_r7) ?_
  refine v_calll 108 hA (rS 108 C L_RX3_264 lk_292 (m_rootBelow (v := stSq b t u a q b_) sqb.1 (by omega)) rfl rfl (rm_ok rfl) dX3_stretchTrial_108) (fun r10 w11 h12 => ?_)
  obtain ⟨e_r10, rfl⟩ := h12
  refine v_eql (lZ (isq (stSq b t u a q b_))) (e_r10) ?_
  refine v_lstore_n 111 [(1, .long (lZ (isq (stSq b t u a q b_)))), (0, .ref (ad 0))] C dX3_stretchTrial_111 (by decide) rfl ?_
  refine v_lconst 112 C (lZ 1) dX3_stretchTrial_112 (by decide) ?_
  refine v_lload_n 113 0 C dX3_stretchTrial_113 rfl ?_
  refine v_aload_n 114 1 C dX3_stretchTrial_114 rfl ?_
  refine g_Pg_trial 115 C (vg.o hg).1 (vg.o hg).2 lk_212 dX3_stretchTrial_115 ?_
  refine g_Pt_flatA 118 C (vp.o (vg.t hg)).1 (vp.o (vg.t hg)).2 lk_129 dX3_stretchTrial_118 ?_
  refine g_Pl_size 121 C (vl.o (vp.fA (vg.t hg))).1 (vl.o (vp.fA (vg.t hg))).2 lk_110 dX3_stretchTrial_121 ?_
  refine v_eqi (iZ cF) (T2.2.2.2.2.2.2.1) ?_
  refine z_i2l 124 C (by first | assumption | exact ⟨by omega, by omega⟩) dX3_stretchTrial_124 ?_
  refine z_lsub 125 C dX3_stretchTrial_125 ?_
  refine v_mmaxl 126 C lk_294 ⟨Nat.le_of_ble_eq_true rfl, Nat.le_of_ble_eq_true rfl, Nat.le_of_ble_eq_true rfl, Nat.le_of_ble_eq_true rfl⟩ dX3_stretchTrial_126 ?_
  refine v_eql (lZ (max 1 ((isq (stSq b t u a q b_)) - cF))) (mmaxl_z (by first | assumption | exact ⟨by omega, by omega⟩) (by first | assumption | exact ⟨by omega, by omega⟩)) ?_
  refine v_eql (lZ (stL b t u a q b_ cF)) (rfl) ?_
  refine v_lstore_n 129 [(3, .long (lZ (stL b t u a q b_ cF))), (1, .long (lZ (isq (stSq b t u a q b_)))), (0, .ref (ad 0))] C dX3_stretchTrial_129 (by decide) rfl ?_
  refine v_lload_n 130 0 C dX3_stretchTrial_130 rfl ?_
  refine v_ldc2 131 C (1000) lk_297 dX3_stretchTrial_131 ?_
  refine v_eql (lZ 1000) (by decide) ?_
  refine z_lcmp_le 134 141 C (by first | assumption | exact ⟨by omega, by omega⟩) (by first | assumption | exact ⟨by omega, by omega⟩) dX3_stretchTrial_134 dX3_stretchTrial_135 (by decide) (fun c134_2 => ?_) (fun c134_2 => absurd (by omega) c134_2)
  refine v_aload_n 141 2 C dX3_stretchTrial_141 rfl ?_
  refine g_Pg_trial 142 C (vg.o hg).1 (vg.o hg).2 lk_212 dX3_stretchTrial_142 ?_
  refine g_Pt_flatB 145 C (vp.o (vg.t hg)).1 (vp.o (vg.t hg)).2 lk_131 dX3_stretchTrial_145 ?_
  refine v_lload_n 148 0 C dX3_stretchTrial_148 rfl ?_
  refine z_l2i 149 C dX3_stretchTrial_149 ?_
  refine s_Pl_size 150 C (vl.o (vp.fB (vg.t hg))).1 (vl.o (vp.fB (vg.t hg))).2 lk_110 dX3_stretchTrial_150 ?_
  refine v_iconst 153 C (iZ 0) dX3_stretchTrial_153 rfl ?_
  exact v_iret 154 C (⟨rfl, pI S2 18 4 (iZ (stL b t u a q b_ cF)), rfl, (same_Wr w nU4).tr (same_pI (by unfold usedC; omega)), (same_Wr w nM4).tr (same_pI (by unfold atM; omega)), TJ_d T2⟩) dX3_stretchTrial_154
