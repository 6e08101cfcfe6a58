/-! MODEL: open, and what it answers -/
def OpF (S S' : St) : Prop := sameOn (fun i => i ≠ 45 ∧ i ≠ 57 ∧ i ≠ 54 ∧ i ≠ 55 ∧ i ≠ 56) S S' ∧ ∀ f, f ≠ 11 → gI S' 45 f = gI S 45 f
theorem OpF.rf {S : St} : OpF S S := ⟨sameOn.rf, fun _ _ => rfl⟩
theorem OpF.tr {S T U : St} (h1 : OpF S T) (h2 : OpF T U) : OpF S U := ⟨h1.1.tr h2.1, fun f q => (h2.2 f q).trans (h1.2 f q)⟩
theorem BeF.O {S S' : St} {k : Nat} (h : BeF S S' k) : OpF S S' := ⟨h.1, fun f _ => h.2.1 f⟩
theorem ShF.O {S S' : St} (h : ShF S S') : OpF S S' := (h.B (k := 0)).O
theorem OpF.RM {S S' : St} {b : Bs} (h : OpF S S') (hM : RM S b) : RM S' b := by
  obtain ⟨⟨a1, a2, a3⟩, c, d, e, f⟩ := hM
  have A : ∀ i k, (i ≠ 45 ∧ i ≠ 57 ∧ i ≠ 54 ∧ i ≠ 55 ∧ i ≠ 56) → gA S' i k = gA S i k := fun i k x => (h.1 i x k).2.1
  refine ⟨⟨(h.2 0 (by decide)).trans a1, (h.2 1 (by decide)).trans a2, (h.2 2 (by decide)).trans a3⟩, fun k hk => ?_, fun i hi => ?_, fun r hr => ?_, fun i hi => ?_⟩
  · rw [A 46 k (by decide), A 50 k (by decide), A 51 k (by decide)]; exact c k hk
  · rw [A 47 i (by decide), A 48 i (by decide), A 49 i (by decide)]; exact d i hi
  · rw [A 52 r (by decide)]; exact e r hr
  · rw [A 53 i (by decide)]; exact f i hi
theorem OpF.C {S S' : St} (h : OpF S S') : sameOn atC S S' := fun i hi f => h.1 i (by unfold atC at hi; omega) f
theorem be_open {S S' : St} {b : Bs} {t : Ts} {k j : Nat} {v : Int} (h : BeQ S S' b t k j v) (hL : LE1 b t k j) : v = t 4 k j ∧ (t 4 k j = 0 → gJ S' 54 k = lZ (t 2 k j) ∧ gJ S' 55 k = lZ (t 3 k j)) := by
  obtain ⟨h1, h2, h3, h4, h5⟩ := h
  obtain ⟨l1, l2, l3⟩ := hL
  by_cases h0 : PS t j (b 4 (2 * k)).toNat = 0 ∧ PS t j (b 4 (2 * k + 1)).toNat = 0
  · obtain ⟨⟨e1, e2, e3, e4⟩, hf⟩ := l3 h0.1 h0.2
    have g := h5 h0.1 h0.2
    rw [← e1, ← e2, ← e3, ← e4] at g
    rcases hf with ⟨f1, f2⟩ | ⟨f1, f2⟩
    · rcases g with ⟨g1, g2⟩ | ⟨x, y, g1, g2, _, _⟩
      · exact ⟨by omega, fun q => by omega⟩
      · rw [f1] at g1; cases g1
    · rcases g with ⟨g1, g2⟩ | ⟨x, y, g1, g2, g3, g4⟩
      · rw [f1] at g1; cases g1
      · rw [f1] at g1
        have e := Option.some.inj g1
        have ex : t 2 k j = x := congrArg Prod.fst e
        have ey : t 3 k j = y := congrArg Prod.snd e
        exact ⟨by omega, fun _ => by rw [ex, ey]; exact ⟨g3, g4⟩⟩
  · have a := h4 h0
    have c := l2 h0
    exact ⟨by omega, fun q => by omega⟩
theorem op_next {S S' : St} {b : Bs} {t : Ts} {k j : Nat} {v : Int} (hF : BeF S S' k) (hO : OPk S b t j k) (hv : gA S' 56 k = iZ (if b 8 k = 1 then t 4 k j else 1)) (hx : b 8 k = 1 → t 4 k j = 0 → gJ S' 54 k = lZ (t 2 k j) ∧ gJ S' 55 k = lZ (t 3 k j)) : OPk S' b t j (k + 1) := by
  have O2 := hF.OP (Nat.le_refl k) hO
  refine ⟨O2.1, fun a h1 h2 => ?_⟩
  by_cases e : a = k
  · subst e; exact ⟨hv, hx⟩
  · exact O2.2 a (by omega) h2
set_option maxHeartbeats 4000000 in
set_option maxRecDepth 100000 in
theorem m4_open {l : Launch} {D : va_G} {kc : Nat → ClassId} {N : Nat} {ad : Nat → Nat} {S : St} {b : Bs} (hm : vm N) (hI : Inv b) (hM : RM S b) {t : Ts} (hE : LE b t) {j : Nat} (hj : j < 17) : MetK l yX4_open cX4_open 3 (none) 5 0 0 144 D kc (wl kc N ad S) [.ref (ad 45), .int (iZ (j : Int))] (QV D kc (wl kc N ad S) (fun ws' => ∃ S', ws' = wl kc N ad S' ∧ OpF S S' ∧ OPk S' b t j (bn b))) := by
  refine MetK.of (by decide +kernel) (Nat.le_of_ble_eq_true rfl) ?_
  intro p e s m below meth c C
  have hA : ∀ q, s.heap.size ≤ q → va_A (wl kc N ad S) s.heap.size q := fun _ h => Or.inr h
  show V p l e { frames := 5, cells := 0, slots := 0, locals := 144 } s m ([.ref (ad 45), .int (iZ (j : Int))] : List Value).toArray below meth c (MQ below (QV D kc (wl kc N ad S) (fun ws' => ∃ S', ws' = wl kc N ad S' ∧ OpF S S' ∧ OPk S' b t j (bn b)) s.heap.size) ([.ref (ad 45), .int (iZ (j : Int))] : List Value).toArray s 0 0 (va_A (wl kc N ad S) s.heap.size)) D (va_A (wl kc N ad S) s.heap.size) 3 0 0 (wl kc N ad S) 0 [(0, .ref (ad 45)), (1, .int (iZ (j : Int)))] []
  have hb0 := hI.1
  have loop : ∀ (d k : Nat) (S1 : St), k + d = bn b → OpF S S1 → OPk S1 b t j k → V p l e { frames := 5, cells := 0, slots := 0, locals := 144 } s m ([.ref (ad 45), .int (iZ (j : Int))] : List Value).toArray below meth c (MQ below (QV D kc (wl kc N ad S) (fun ws' => ∃ S', ws' = wl kc N ad S' ∧ OpF S S' ∧ OPk S' b t j (bn b)) s.heap.size) ([.ref (ad 45), .int (iZ (j : Int))] : List Value).toArray s 0 0 (va_A (wl kc N ad S) s.heap.size)) D (va_A (wl kc N ad S) s.heap.size) 3 0 0 (wl kc N ad S1) 7 [(2, .int (iZ (k : Int))), (1, .int (iZ (j : Int))), (0, .ref (ad 45))] [] := by
    intro d
    induction d with
    | zero =>
      intro k S1 hk hF hO
      have M1 := hF.RM hM
      refine v_iload_n 7 0 C dX4_open_7 rfl ?_
      refine v_aload_n 8 2 C dX4_open_8 rfl ?_
      refine g_Mo_parts 9 C (vm.o hm).1 (vm.o hm).2 lk_501 dX4_open_9 ?_
      refine v_eqi (iZ (b 0 0)) (M1.1.2.2) ?_
      refine z_icmp_ge 12 55 C (by first | assumption | exact ⟨by omega, by omega⟩) (by first | assumption | exact ⟨by omega, by omega⟩) dX4_open_12 (by decide) (fun c12_0 => ?_) (fun c12_0 => absurd (by omega) c12_0)
      exact v_vret 55 C (⟨S1, rfl, hF, by rw [← show k = bn b by omega]; exact hO⟩) dX4_open_55
    | succ d ih =>
      intro k S1 hk hF hO
      have M1 := hF.RM hM
      have hk2 : k < bn b := by omega
      have h8 := (hI.2.2.2.1 k hk2).2.2.1
      by_cases ht : b 8 k = 1
      · skip
        refine v_iload_n 7 0 C dX4_open_7 rfl ?_
        refine v_aload_n 8 2 C dX4_open_8 rfl ?_
        refine g_Mo_parts 9 C (vm.o hm).1 (vm.o hm).2 lk_501 dX4_open_9 ?_
        refine v_eqi (iZ (b 0 0)) (M1.1.2.2) ?_
        refine z_icmp_ge 12 55 C (by first | assumption | exact ⟨by omega, by omega⟩) (by first | assumption | exact ⟨by omega, by omega⟩) dX4_open_12 (by decide) (fun c12_0 => absurd c12_0 (by omega)) (fun c12_0 => ?_)
        refine v_aload_n 15 2 C dX4_open_15 rfl ?_
        refine g_Mo_isStuck 16 C (vm.o hm).1 (vm.o hm).2 lk_513 dX4_open_16 ?_
        refine v_iload_n 19 0 C dX4_open_19 rfl ?_
        refine v_aload_n 20 2 C dX4_open_20 rfl ?_
        refine g_Mo_isThere 21 C (vm.o hm).1 (vm.o hm).2 lk_507 dX4_open_21 ?_
        refine v_iload_n 24 0 C dX4_open_24 rfl ?_
        refine v_zald 25 C (vm.a hm 51 (by decide) rfl).1 (vm.a hm 51 (by decide) rfl).2 k (izn (by omega)) (lnx (show ln 51 = 30 from rfl) (by omega)) dX4_open_25 ?_
        refine v_eqi (iZ (b 8 k)) ((M1.2.1 k hk2).2.2) ?_
        refine z_if_ne 26 33 C (by first | assumption | exact ⟨by omega, by omega⟩) dX4_open_26 (by decide) (fun c26_1 => ?_) (fun c26_1 => absurd c26_1 (by omega))
        refine v_iconst 33 C (iZ 0) dX4_open_33 rfl ?_
        refine v_zast 34 C (vm.a hm 56 (by decide) rfl).1 (vm.a hm 56 (by decide) rfl).2 k (izn (by omega)) (lnx (show ln 56 = 30 from rfl) (by omega)) dX4_open_34 ?_
        rw [vn0]
        refine v_aload_n 35 2 C dX4_open_35 rfl ?_
        refine g_Mo_isThere 36 C (vm.o hm).1 (vm.o hm).2 lk_507 dX4_open_36 ?_
        refine v_iload_n 39 0 C dX4_open_39 rfl ?_
        refine v_zald 40 C (vm.a hm 51 (by decide) rfl).1 (vm.a hm 51 (by decide) rfl).2 k (izn (by omega)) (lnx (show ln 51 = 30 from rfl) (by omega)) dX4_open_40 ?_
        refine v_eqi (iZ (b 8 k)) (((BeF.a (k := k)).RM M1).2.1 k hk2 |>.2.2) ?_
        refine z_if_eq 41 49 C (by first | assumption | exact ⟨by omega, by omega⟩) dX4_open_41 (by decide) (fun c41_2 => absurd c41_2 (by omega)) (fun c41_2 => ?_)
        refine v_aload_n 44 2 C dX4_open_44 rfl ?_
        refine v_iload_n 45 0 C dX4_open_45 rfl ?_
        refine v_callv 46 hA (rV_Mo 46 C L_RX4_141 lk_621 lk_27 (m4_bend hm hI ((BeF.a (k := k)).RM M1) hj hk2 ht (fun a h1 h2 h3 => hE a h2 h2 h3) ((BeF.a (k := k)).OP (Nat.le_refl k) hO)) (vm.o hm) rfl ⟨rfl, rfl⟩ (rm_ok rfl) dX4_open_46) (fun w2 h3 => ?_)
        obtain ⟨S3, v3, rfl, hQ⟩ := h3
        obtain ⟨ev, ex⟩ := be_open hQ (hE k hk2 hk2 ht j hj)
        refine v_iinc 49 0 (iZ ((k + 1 : Nat) : Int)) [(2, .int (iZ ((k + 1 : Nat) : Int))), (1, .int (iZ (j : Int))), (0, .ref (ad 45))] C dX4_open_49 rfl (iZ_add _ _) (by decide) rfl ?_
        refine v_goto 52 7 C dX4_open_52 (by decide) ?_
        refine v_sub [0, 1, 2] rfl ?_
        exact ih (k + 1) S3 (by omega) (hF.tr (BeF.a.O.tr hQ.1.O)) (op_next (v := v3) (BeF.a.tr hQ.1) hO (by rw [if_pos ht, ← ev]; exact hQ.2.1) (fun _ => ex))
      · skip
        refine v_iload_n 7 0 C dX4_open_7 rfl ?_
        refine v_aload_n 8 2 C dX4_open_8 rfl ?_
        refine g_Mo_parts 9 C (vm.o hm).1 (vm.o hm).2 lk_501 dX4_open_9 ?_
        refine v_eqi (iZ (b 0 0)) (M1.1.2.2) ?_
        refine z_icmp_ge 12 55 C (by first | assumption | exact ⟨by omega, by omega⟩) (by first | assumption | exact ⟨by omega, by omega⟩) dX4_open_12 (by decide) (fun c12_0 => absurd c12_0 (by omega)) (fun c12_0 => ?_)
        refine v_aload_n 15 2 C dX4_open_15 rfl ?_
        refine g_Mo_isStuck 16 C (vm.o hm).1 (vm.o hm).2 lk_513 dX4_open_16 ?_
        refine v_iload_n 19 0 C dX4_open_19 rfl ?_
        refine v_aload_n 20 2 C dX4_open_20 rfl ?_
        refine g_Mo_isThere 21 C (vm.o hm).1 (vm.o hm).2 lk_507 dX4_open_21 ?_
        refine v_iload_n 24 0 C dX4_open_24 rfl ?_
        refine v_zald 25 C (vm.a hm 51 (by decide) rfl).1 (vm.a hm 51 (by decide) rfl).2 k (izn (by omega)) (lnx (show ln 51 = 30 from rfl) (by omega)) dX4_open_25 ?_
        refine v_eqi (iZ (b 8 k)) ((M1.2.1 k hk2).2.2) ?_
        refine z_if_ne 26 33 C (by first | assumption | exact ⟨by omega, by omega⟩) dX4_open_26 (by decide) (fun c26_1 => absurd c26_1 (fun q => by omega)) (fun c26_1 => ?_)
        refine v_iconst 29 C (iZ 1) dX4_open_29 rfl ?_
        refine v_goto 30 34 C dX4_open_30 (by decide) ?_
        refine v_zast 34 C (vm.a hm 56 (by decide) rfl).1 (vm.a hm 56 (by decide) rfl).2 k (izn (by omega)) (lnx (show ln 56 = 30 from rfl) (by omega)) dX4_open_34 ?_
        rw [vn1]
        refine v_aload_n 35 2 C dX4_open_35 rfl ?_
        refine g_Mo_isThere 36 C (vm.o hm).1 (vm.o hm).2 lk_507 dX4_open_36 ?_
        refine v_iload_n 39 0 C dX4_open_39 rfl ?_
        refine v_zald 40 C (vm.a hm 51 (by decide) rfl).1 (vm.a hm 51 (by decide) rfl).2 k (izn (by omega)) (lnx (show ln 51 = 30 from rfl) (by omega)) dX4_open_40 ?_
        refine v_eqi (iZ (b 8 k)) (((BeF.a (k := k)).RM M1).2.1 k hk2 |>.2.2) ?_
        refine z_if_eq 41 49 C (by first | assumption | exact ⟨by omega, by omega⟩) dX4_open_41 (by decide) (fun c41_2 => ?_) (fun c41_2 => absurd (by omega) c41_2)
        refine v_iinc 49 0 (iZ ((k + 1 : Nat) : Int)) [(2, .int (iZ ((k + 1 : Nat) : Int))), (1, .int (iZ (j : Int))), (0, .ref (ad 45))] C dX4_open_49 rfl (iZ_add _ _) (by decide) rfl ?_
        refine v_goto 52 7 C dX4_open_52 (by decide) ?_
        refine v_sub [0, 1, 2] rfl ?_
        exact ih (k + 1) _ (by omega) (hF.tr BeF.a.O) (op_next (v := 1) BeF.a hO (by rw [if_neg ht, gA_pA, if_pos ⟨rfl, rfl⟩]) (fun q => absurd q ht))
  refine v_aload_n 0 0 C dX4_open_0 rfl ?_
  refine v_iload_n 1 1 C dX4_open_1 rfl ?_
  refine s_Mo_step 2 C (vm.o hm).1 (vm.o hm).2 lk_510 dX4_open_2 ?_
  refine v_iconst 5 C (iZ 0) dX4_open_5 rfl ?_
  refine v_istore_n 6 [(2, .int (iZ 0)), (0, .ref (ad 45)), (1, .int (iZ (j : Int)))] C dX4_open_6 (by decide) rfl ?_
  refine v_sub [0, 2, 1] rfl ?_
  exact loop (bn b) 0 _ (by omega) ⟨fun i hi f => ⟨by rw [gI_pI, if_neg (fun q => hi.1 q.1)], rfl, rfl, rfl, rfl⟩, fun f q => by rw [gI_pI, if_neg (fun z => q z.2)]⟩ ⟨by rw [gI_pI, if_pos ⟨rfl, rfl⟩], fun k h1 => absurd h1 (by omega)⟩

set_option maxHeartbeats 4000000 in
set_option maxRecDepth 100000 in
theorem d_tol_4 {l : Launch} {D : va_G} {kc : Nat → ClassId} {N : Nat} {ad : Nat → Nat} {S : St} {b : Bs} (hm : vm N) (hI : Inv b) (hM : RM S b) {t : Ts} (hE : LE b t) {z : Int} (rz : r32 z) (h : z < 0) : MetK l yX4_tolerance cX4_tolerance 3 (some FieldType.int) 2 0 0 45 D kc (wl kc N ad S) [.ref (ad 45), .int (iZ z)] (QI D kc (wl kc N ad S) (mQ kc N ad S (-4) (refB b 4))) := by
  refine MetK.of (by decide +kernel) (Nat.le_of_ble_eq_true rfl) ?_
  intro p e s m below meth c C
  have hA : ∀ q, s.heap.size ≤ q → va_A (wl kc N ad S) s.heap.size q := fun _ h => Or.inr h
  show V p l e { frames := 2, cells := 0, slots := 0, locals := 45 } s m ([.ref (ad 45), .int (iZ z)] : List Value).toArray below meth c (MQ below (QI D kc (wl kc N ad S) (mQ kc N ad S (-4) (refB b 4)) s.heap.size) ([.ref (ad 45), .int (iZ z)] : List Value).toArray s 0 0 (va_A (wl kc N ad S) s.heap.size)) D (va_A (wl kc N ad S) s.heap.size) 3 0 0 (wl kc N ad S) 0 [(0, .ref (ad 45)), (1, .int (iZ z))] []
  have hb0 := hI.1
  refine v_iload_n 0 1 C dX4_tolerance_0 rfl ?_
  refine z_if_ge 1 11 C (by first | assumption | exact ⟨by omega, by omega⟩) dX4_tolerance_1 (by decide) (fun c1_0 => absurd c1_0 (by omega)) (fun c1_0 => ?_)
  refine v_aload_n 4 0 C dX4_tolerance_4 rfl ?_
  refine v_bipush 5 C (iZ (-4)) dX4_tolerance_5 (by decide) ?_
  refine v_calli 7 hA (rV_Mo 7 C L_RX4_95 lk_589 lk_22 (m4_refuse hm hI hM 4 (by decide) (by decide)) (vm.o hm) rfl ⟨rfl, rfl⟩ (rm_ok rfl) dX4_tolerance_7) (fun r1 w2 h3 => ?_)
  obtain ⟨e_r1, rfl⟩ := h3
  refine v_eqi (iZ (-4)) (e_r1) ?_
  exact v_iret 10 C (⟨rfl, refM4 S b 4, rfl, refRM hM, refC⟩) dX4_tolerance_10

set_option maxHeartbeats 4000000 in
set_option maxRecDepth 100000 in
theorem d_tol_6 {l : Launch} {D : va_G} {kc : Nat → ClassId} {N : Nat} {ad : Nat → Nat} {S : St} {b : Bs} (hm : vm N) (hI : Inv b) (hM : RM S b) {t : Ts} (hE : LE b t) {z : Int} (rz : r32 z) (h : 100 < z) : MetK l yX4_tolerance cX4_tolerance 3 (some FieldType.int) 2 0 0 45 D kc (wl kc N ad S) [.ref (ad 45), .int (iZ z)] (QI D kc (wl kc N ad S) (mQ kc N ad S (-6) (refB b 6))) := by
  refine MetK.of (by decide +kernel) (Nat.le_of_ble_eq_true rfl) ?_
  intro p e s m below meth c C
  have hA : ∀ q, s.heap.size ≤ q → va_A (wl kc N ad S) s.heap.size q := fun _ h => Or.inr h
  show V p l e { frames := 2, cells := 0, slots := 0, locals := 45 } s m ([.ref (ad 45), .int (iZ z)] : List Value).toArray below meth c (MQ below (QI D kc (wl kc N ad S) (mQ kc N ad S (-6) (refB b 6)) s.heap.size) ([.ref (ad 45), .int (iZ z)] : List Value).toArray s 0 0 (va_A (wl kc N ad S) s.heap.size)) D (va_A (wl kc N ad S) s.heap.size) 3 0 0 (wl kc N ad S) 0 [(0, .ref (ad 45)), (1, .int (iZ z))] []
  have hb0 := hI.1
  refine v_iload_n 0 1 C dX4_tolerance_0 rfl ?_
  refine z_if_ge 1 11 C (by first | assumption | exact ⟨by omega, by omega⟩) dX4_tolerance_1 (by decide) (fun c1_0 => ?_) (fun c1_0 => absurd (by omega) c1_0)
  refine v_iload_n 11 1 C dX4_tolerance_11 rfl ?_
  refine v_bipush 12 C (iZ 100) dX4_tolerance_12 (by decide) ?_
  refine z_icmp_le 14 24 C (by first | assumption | exact ⟨by omega, by omega⟩) (by first | assumption | exact ⟨by omega, by omega⟩) dX4_tolerance_14 (by decide) (fun c14_1 => absurd c14_1 (by omega)) (fun c14_1 => ?_)
  refine v_aload_n 17 0 C dX4_tolerance_17 rfl ?_
  refine v_bipush 18 C (iZ (-6)) dX4_tolerance_18 (by decide) ?_
  refine v_calli 20 hA (rV_Mo 20 C L_RX4_95 lk_589 lk_22 (m4_refuse hm hI hM 6 (by decide) (by decide)) (vm.o hm) rfl ⟨rfl, rfl⟩ (rm_ok rfl) dX4_tolerance_20) (fun r1 w2 h3 => ?_)
  obtain ⟨e_r1, rfl⟩ := h3
  refine v_eqi (iZ (-6)) (e_r1) ?_
  exact v_iret 23 C (⟨rfl, refM4 S b 6, rfl, refRM hM, refC⟩) dX4_tolerance_23

theorem sameC_pI {S : St} {f : Nat} {v : Int32} : sameOn atC S (pI S 45 f v) := same_pI (fun q => by unfold atC at q; omega)
theorem sameC_pA {S : St} {i f : Nat} {v : Int32} (h : 45 ≤ i ∧ i < 66) : sameOn atC S (pA S i f v) := same_pA (fun q => by unfold atC at q; omega)
theorem RM_f {S : St} {b b' : Bs} {f : Nat} {v : Int32} (hM : RM S b) (h0 : (gI (pI S 45 f v) 45 0 = iZ (b' 1 0) ∧ gI (pI S 45 f v) 45 1 = iZ (b' 2 0) ∧ gI (pI S 45 f v) 45 2 = iZ (b' 0 0))) (hb : ∀ g i, 3 ≤ g → b' g i = b g i) (hn : bn b' = bn b) : RM (pI S 45 f v) b' := by
  obtain ⟨_, c, d, e, g⟩ := hM
  refine ⟨h0, fun k hk => ?_, fun i hi => ?_, fun r hr => ?_, g⟩
  · rw [hn] at hk; rw [hb 3 k (by decide), hb 7 k (by decide), hb 8 k (by decide)]; exact c k hk
  · rw [hn] at hi; rw [hb 4 i (by decide), hb 5 i (by decide), hb 6 i (by decide)]; exact d i hi
  · rw [hb 9 r (by decide)]; exact e r hr
set_option maxHeartbeats 4000000 in
set_option maxRecDepth 100000 in
theorem d_tol {l : Launch} {D : va_G} {kc : Nat → ClassId} {N : Nat} {ad : Nat → Nat} {S : St} {b : Bs} (hm : vm N) (hI : Inv b) (hM : RM S b) {t : Ts} (hE : LE b t) {z : Int} (rz : r32 z) (h : 0 ≤ z ∧ z ≤ 100) : MetK l yX4_tolerance cX4_tolerance 3 (some FieldType.int) 2 0 0 45 D kc (wl kc N ad S) [.ref (ad 45), .int (iZ z)] (QI D kc (wl kc N ad S) (mQ kc N ad S (b 2 0) (upB b 2 0 z))) := by
  refine MetK.of (by decide +kernel) (Nat.le_of_ble_eq_true rfl) ?_
  intro p e s m below meth c C
  have hA : ∀ q, s.heap.size ≤ q → va_A (wl kc N ad S) s.heap.size q := fun _ h => Or.inr h
  show V p l e { frames := 2, cells := 0, slots := 0, locals := 45 } s m ([.ref (ad 45), .int (iZ z)] : List Value).toArray below meth c (MQ below (QI D kc (wl kc N ad S) (mQ kc N ad S (b 2 0) (upB b 2 0 z)) s.heap.size) ([.ref (ad 45), .int (iZ z)] : List Value).toArray s 0 0 (va_A (wl kc N ad S) s.heap.size)) D (va_A (wl kc N ad S) s.heap.size) 3 0 0 (wl kc N ad S) 0 [(0, .ref (ad 45)), (1, .int (iZ z))] []
  have hb0 := hI.1
  refine v_iload_n 0 1 C dX4_tolerance_0 rfl ?_
  refine z_if_ge 1 11 C (by first | assumption | exact ⟨by omega, by omega⟩) dX4_tolerance_1 (by decide) (fun c1_0 => ?_) (fun c1_0 => absurd (by omega) c1_0)
  refine v_iload_n 11 1 C dX4_tolerance_11 rfl ?_
  refine v_bipush 12 C (iZ 100) dX4_tolerance_12 (by decide) ?_
  refine z_icmp_le 14 24 C (by first | assumption | exact ⟨by omega, by omega⟩) (by first | assumption | exact ⟨by omega, by omega⟩) dX4_tolerance_14 (by decide) (fun c14_1 => ?_) (fun c14_1 => absurd (by omega) c14_1)
  refine v_aload_n 24 0 C dX4_tolerance_24 rfl ?_
  refine g_Mo_tol 25 C (vm.o hm).1 (vm.o hm).2 lk_500 dX4_tolerance_25 ?_
  refine v_eqi (iZ (b 2 0)) (hM.1.2.1) ?_
  refine v_istore_n 28 [(2, .int (iZ (b 2 0))), (0, .ref (ad 45)), (1, .int (iZ z))] C dX4_tolerance_28 (by decide) rfl ?_
  refine v_aload_n 29 1 C dX4_tolerance_29 rfl ?_
  refine v_iload_n 30 2 C dX4_tolerance_30 rfl ?_
  refine s_Mo_tol 31 C (vm.o hm).1 (vm.o hm).2 lk_500 dX4_tolerance_31 ?_
  refine v_iload_n 34 0 C dX4_tolerance_34 rfl ?_
  exact v_iret 35 C (⟨rfl, pI S 45 1 (iZ z), rfl, RM_f hM ⟨by rw [gI_pI, if_neg (by decide)]; exact hM.1.1, by rw [gI_pI, if_pos ⟨rfl, rfl⟩]; rfl, by rw [gI_pI, if_neg (by decide)]; exact hM.1.2.2⟩ (fun g i q => upB_f (by omega)) rfl, sameC_pI⟩) dX4_tolerance_35

set_option maxHeartbeats 4000000 in
set_option maxRecDepth 100000 in
theorem d_width_3 {l : Launch} {D : va_G} {kc : Nat → ClassId} {N : Nat} {ad : Nat → Nat} {S : St} {b : Bs} (hm : vm N) (hI : Inv b) (hM : RM S b) {t : Ts} (hE : LE b t) {v : Int} (rv : r32 v) (h : 0 < thC b) : MetK l yX4_width cX4_width 3 (some FieldType.int) 2 0 0 46 D kc (wl kc N ad S) [.ref (ad 45), .int (iZ v)] (QI D kc (wl kc N ad S) (mQ kc N ad S (-3) (refB b 3))) := by
  refine MetK.of (by decide +kernel) (Nat.le_of_ble_eq_true rfl) ?_
  intro p e s m below meth c C
  have hA : ∀ q, s.heap.size ≤ q → va_A (wl kc N ad S) s.heap.size q := fun _ h => Or.inr h
  show V p l e { frames := 2, cells := 0, slots := 0, locals := 46 } s m ([.ref (ad 45), .int (iZ v)] : List Value).toArray below meth c (MQ below (QI D kc (wl kc N ad S) (mQ kc N ad S (-3) (refB b 3)) s.heap.size) ([.ref (ad 45), .int (iZ v)] : List Value).toArray s 0 0 (va_A (wl kc N ad S) s.heap.size)) D (va_A (wl kc N ad S) s.heap.size) 3 0 0 (wl kc N ad S) 0 [(0, .ref (ad 45)), (1, .int (iZ v))] []
  have hb0 := hI.1
  have hcb := cnt_b (thP b) (bn b)
  have hth : thC b = cnt (thP b) (bn b) := rfl
  refine v_aload_n 0 0 C dX4_width_0 rfl ?_
  refine v_calli 1 hA (rV_Mo 1 C L_RX4_91 lk_585 lk_21 (m4_manyThere hm hI hM) (vm.o hm) rfl ⟨rfl, rfl⟩ (rm_ok rfl) dX4_width_1) (fun r1 w2 h3 => ?_)
  obtain ⟨e_r1, rfl⟩ := h3
  refine v_eqi (iZ (thC b)) (e_r1) ?_
  refine z_if_le 4 14 C (by first | assumption | exact ⟨by omega, by omega⟩) dX4_width_4 (by decide) (fun c4_0 => absurd c4_0 (by omega)) (fun c4_0 => ?_)
  refine v_aload_n 7 0 C dX4_width_7 rfl ?_
  refine v_bipush 8 C (iZ (-3)) dX4_width_8 (by decide) ?_
  refine v_calli 10 hA (rV_Mo 10 C L_RX4_95 lk_589 lk_22 (m4_refuse hm hI hM 3 (by decide) (by decide)) (vm.o hm) rfl ⟨rfl, rfl⟩ (rm_ok rfl) dX4_width_10) (fun r4 w5 h6 => ?_)
  obtain ⟨e_r4, rfl⟩ := h6
  refine v_eqi (iZ (-3)) (e_r4) ?_
  exact v_iret 13 C (⟨rfl, refM4 S b 3, rfl, refRM hM, refC⟩) dX4_width_13

set_option maxHeartbeats 4000000 in
set_option maxRecDepth 100000 in
theorem d_width_4 {l : Launch} {D : va_G} {kc : Nat → ClassId} {N : Nat} {ad : Nat → Nat} {S : St} {b : Bs} (hm : vm N) (hI : Inv b) (hM : RM S b) {t : Ts} (hE : LE b t) {v : Int} (rv : r32 v) (h : ¬ 0 < thC b) (hv : v < 1) : MetK l yX4_width cX4_width 3 (some FieldType.int) 2 0 0 46 D kc (wl kc N ad S) [.ref (ad 45), .int (iZ v)] (QI D kc (wl kc N ad S) (mQ kc N ad S (-4) (refB b 4))) := by
  refine MetK.of (by decide +kernel) (Nat.le_of_ble_eq_true rfl) ?_
  intro p e s m below meth c C
  have hA : ∀ q, s.heap.size ≤ q → va_A (wl kc N ad S) s.heap.size q := fun _ h => Or.inr h
  show V p l e { frames := 2, cells := 0, slots := 0, locals := 46 } s m ([.ref (ad 45), .int (iZ v)] : List Value).toArray below meth c (MQ below (QI D kc (wl kc N ad S) (mQ kc N ad S (-4) (refB b 4)) s.heap.size) ([.ref (ad 45), .int (iZ v)] : List Value).toArray s 0 0 (va_A (wl kc N ad S) s.heap.size)) D (va_A (wl kc N ad S) s.heap.size) 3 0 0 (wl kc N ad S) 0 [(0, .ref (ad 45)), (1, .int (iZ v))] []
  have hb0 := hI.1
  have hcb := cnt_b (thP b) (bn b)
  have hth : thC b = cnt (thP b) (bn b) := rfl
  refine v_aload_n 0 0 C dX4_width_0 rfl ?_
  refine v_calli 1 hA (rV_Mo 1 C L_RX4_91 lk_585 lk_21 (m4_manyThere hm hI hM) (vm.o hm) rfl ⟨rfl, rfl⟩ (rm_ok rfl) dX4_width_1) (fun r1 w2 h3 => ?_)
  obtain ⟨e_r1, rfl⟩ := h3
  refine v_eqi (iZ (thC b)) (e_r1) ?_
  refine z_if_le 4 14 C (by first | assumption | exact ⟨by omega, by omega⟩) dX4_width_4 (by decide) (fun c4_0 => ?_) (fun c4_0 => absurd (by omega) c4_0)
  refine v_iload_n 14 1 C dX4_width_14 rfl ?_
  refine v_iconst 15 C (iZ 1) dX4_width_15 rfl ?_
  refine z_icmp_ge 16 26 C (by first | assumption | exact ⟨by omega, by omega⟩) (by first | assumption | exact ⟨by omega, by omega⟩) dX4_width_16 (by decide) (fun c16_1 => absurd c16_1 (by omega)) (fun c16_1 => ?_)
  refine v_aload_n 19 0 C dX4_width_19 rfl ?_
  refine v_bipush 20 C (iZ (-4)) dX4_width_20 (by decide) ?_
  refine v_calli 22 hA (rV_Mo 22 C L_RX4_95 lk_589 lk_22 (m4_refuse hm hI hM 4 (by decide) (by decide)) (vm.o hm) rfl ⟨rfl, rfl⟩ (rm_ok rfl) dX4_width_22) (fun r4 w5 h6 => ?_)
  obtain ⟨e_r4, rfl⟩ := h6
  refine v_eqi (iZ (-4)) (e_r4) ?_
  exact v_iret 25 C (⟨rfl, refM4 S b 4, rfl, refRM hM, refC⟩) dX4_width_25

set_option maxHeartbeats 4000000 in
set_option maxRecDepth 100000 in
theorem d_width_6 {l : Launch} {D : va_G} {kc : Nat → ClassId} {N : Nat} {ad : Nat → Nat} {S : St} {b : Bs} (hm : vm N) (hI : Inv b) (hM : RM S b) {t : Ts} (hE : LE b t) {v : Int} (rv : r32 v) (h : ¬ 0 < thC b) (hv : 1000 < v) : MetK l yX4_width cX4_width 3 (some FieldType.int) 2 0 0 46 D kc (wl kc N ad S) [.ref (ad 45), .int (iZ v)] (QI D kc (wl kc N ad S) (mQ kc N ad S (-6) (refB b 6))) := by
  refine MetK.of (by decide +kernel) (Nat.le_of_ble_eq_true rfl) ?_
  intro p e s m below meth c C
  have hA : ∀ q, s.heap.size ≤ q → va_A (wl kc N ad S) s.heap.size q := fun _ h => Or.inr h
  show V p l e { frames := 2, cells := 0, slots := 0, locals := 46 } s m ([.ref (ad 45), .int (iZ v)] : List Value).toArray below meth c (MQ below (QI D kc (wl kc N ad S) (mQ kc N ad S (-6) (refB b 6)) s.heap.size) ([.ref (ad 45), .int (iZ v)] : List Value).toArray s 0 0 (va_A (wl kc N ad S) s.heap.size)) D (va_A (wl kc N ad S) s.heap.size) 3 0 0 (wl kc N ad S) 0 [(0, .ref (ad 45)), (1, .int (iZ v))] []
  have hb0 := hI.1
  have hcb := cnt_b (thP b) (bn b)
  have hth : thC b = cnt (thP b) (bn b) := rfl
  refine v_aload_n 0 0 C dX4_width_0 rfl ?_
  refine v_calli 1 hA (rV_Mo 1 C L_RX4_91 lk_585 lk_21 (m4_manyThere hm hI hM) (vm.o hm) rfl ⟨rfl, rfl⟩ (rm_ok rfl) dX4_width_1) (fun r1 w2 h3 => ?_)
  obtain ⟨e_r1, rfl⟩ := h3
  refine v_eqi (iZ (thC b)) (e_r1) ?_
  refine z_if_le 4 14 C (by first | assumption | exact ⟨by omega, by omega⟩) dX4_width_4 (by decide) (fun c4_0 => ?_) (fun c4_0 => absurd (by omega) c4_0)
  refine v_iload_n 14 1 C dX4_width_14 rfl ?_
  refine v_iconst 15 C (iZ 1) dX4_width_15 rfl ?_
  refine z_icmp_ge 16 26 C (by first | assumption | exact ⟨by omega, by omega⟩) (by first | assumption | exact ⟨by omega, by omega⟩) dX4_width_16 (by decide) (fun c16_1 => ?_) (fun c16_1 => absurd (by omega) c16_1)
  refine v_iload_n 26 1 C dX4_width_26 rfl ?_
  refine v_sipush 27 C (iZ 1000) dX4_width_27 (by decide) ?_
  refine z_icmp_le 30 40 C (by first | assumption | exact ⟨by omega, by omega⟩) (by first | assumption | exact ⟨by omega, by omega⟩) dX4_width_30 (by decide) (fun c30_2 => absurd c30_2 (by omega)) (fun c30_2 => ?_)
  refine v_aload_n 33 0 C dX4_width_33 rfl ?_
  refine v_bipush 34 C (iZ (-6)) dX4_width_34 (by decide) ?_
  refine v_calli 36 hA (rV_Mo 36 C L_RX4_95 lk_589 lk_22 (m4_refuse hm hI hM 6 (by decide) (by decide)) (vm.o hm) rfl ⟨rfl, rfl⟩ (rm_ok rfl) dX4_width_36) (fun r4 w5 h6 => ?_)
  obtain ⟨e_r4, rfl⟩ := h6
  refine v_eqi (iZ (-6)) (e_r4) ?_
  exact v_iret 39 C (⟨rfl, refM4 S b 6, rfl, refRM hM, refC⟩) dX4_width_39

set_option maxHeartbeats 4000000 in
set_option maxRecDepth 100000 in
theorem d_width {l : Launch} {D : va_G} {kc : Nat → ClassId} {N : Nat} {ad : Nat → Nat} {S : St} {b : Bs} (hm : vm N) (hI : Inv b) (hM : RM S b) {t : Ts} (hE : LE b t) {v : Int} (rv : r32 v) (h : ¬ 0 < thC b) (hv : 1 ≤ v ∧ v ≤ 1000) : MetK l yX4_width cX4_width 3 (some FieldType.int) 2 0 0 46 D kc (wl kc N ad S) [.ref (ad 45), .int (iZ v)] (QI D kc (wl kc N ad S) (mQ kc N ad S (b 1 0) (upB b 1 0 v))) := by
  refine MetK.of (by decide +kernel) (Nat.le_of_ble_eq_true rfl) ?_
  intro p e s m below meth c C
  have hA : ∀ q, s.heap.size ≤ q → va_A (wl kc N ad S) s.heap.size q := fun _ h => Or.inr h
  show V p l e { frames := 2, cells := 0, slots := 0, locals := 46 } s m ([.ref (ad 45), .int (iZ v)] : List Value).toArray below meth c (MQ below (QI D kc (wl kc N ad S) (mQ kc N ad S (b 1 0) (upB b 1 0 v)) s.heap.size) ([.ref (ad 45), .int (iZ v)] : List Value).toArray s 0 0 (va_A (wl kc N ad S) s.heap.size)) D (va_A (wl kc N ad S) s.heap.size) 3 0 0 (wl kc N ad S) 0 [(0, .ref (ad 45)), (1, .int (iZ v))] []
  have hb0 := hI.1
  have hcb := cnt_b (thP b) (bn b)
  have hth : thC b = cnt (thP b) (bn b) := rfl
  refine v_aload_n 0 0 C dX4_width_0 rfl ?_
  refine v_calli 1 hA (rV_Mo 1 C L_RX4_91 lk_585 lk_21 (m4_manyThere hm hI hM) (vm.o hm) rfl ⟨rfl, rfl⟩ (rm_ok rfl) dX4_width_1) (fun r1 w2 h3 => ?_)
  obtain ⟨e_r1, rfl⟩ := h3
  refine v_eqi (iZ (thC b)) (e_r1) ?_
  refine z_if_le 4 14 C (by first | assumption | exact ⟨by omega, by omega⟩) dX4_width_4 (by decide) (fun c4_0 => ?_) (fun c4_0 => absurd (by omega) c4_0)
  refine v_iload_n 14 1 C dX4_width_14 rfl ?_
  refine v_iconst 15 C (iZ 1) dX4_width_15 rfl ?_
  refine z_icmp_ge 16 26 C (by first | assumption | exact ⟨by omega, by omega⟩) (by first | assumption | exact ⟨by omega, by omega⟩) dX4_width_16 (by decide) (fun c16_1 => ?_) (fun c16_1 => absurd (by omega) c16_1)
  refine v_iload_n 26 1 C dX4_width_26 rfl ?_
  refine v_sipush 27 C (iZ 1000) dX4_width_27 (by decide) ?_
  refine z_icmp_le 30 40 C (by first | assumption | exact ⟨by omega, by omega⟩) (by first | assumption | exact ⟨by omega, by omega⟩) dX4_width_30 (by decide) (fun c30_2 => ?_) (fun c30_2 => absurd (by omega) c30_2)
  refine v_aload_n 40 0 C dX4_width_40 rfl ?_
  refine g_Mo_width 41 C (vm.o hm).1 (vm.o hm).2 lk_499 dX4_width_41 ?_
  refine v_eqi (iZ (b 1 0)) (hM.1.1) ?_
  refine v_istore_n 44 [(2, .int (iZ (b 1 0))), (0, .ref (ad 45)), (1, .int (iZ v))] C dX4_width_44 (by decide) rfl ?_
  refine v_aload_n 45 1 C dX4_width_45 rfl ?_
  refine v_iload_n 46 2 C dX4_width_46 rfl ?_
  refine s_Mo_width 47 C (vm.o hm).1 (vm.o hm).2 lk_499 dX4_width_47 ?_
  refine v_iload_n 50 0 C dX4_width_50 rfl ?_
  exact v_iret 51 C (⟨rfl, pI S 45 0 (iZ v), rfl, RM_f hM ⟨by rw [gI_pI, if_pos ⟨rfl, rfl⟩]; rfl, by rw [gI_pI, if_neg (by decide)]; exact hM.1.2.1, by rw [gI_pI, if_neg (by decide)]; exact hM.1.2.2⟩ (fun g i q => upB_f (by omega)) rfl, sameC_pI⟩) dX4_width_51

set_option maxHeartbeats 4000000 in
set_option maxRecDepth 100000 in
theorem d_crease_p {l : Launch} {D : va_G} {kc : Nat → ClassId} {N : Nat} {ad : Nat → Nat} {S : St} {b : Bs} (hm : vm N) (hI : Inv b) (hM : RM S b) {t : Ts} (hE : LE b t) {z s_ w : Int} (rz : r32 z) (rs : r32 s_) (rw_ : r32 w) (hp : ¬ isP b z) : MetK l yX4_crease cX4_crease 4 (some FieldType.int) 6 0 0 166 D kc (wl kc N ad S) [.ref (ad 45), .int (iZ z), .int (iZ s_), .int (iZ w)] (QI D kc (wl kc N ad S) (mQ kc N ad S (1000000000 - (-1)) (refB b 1))) := by
  refine MetK.of (by decide +kernel) (Nat.le_of_ble_eq_true rfl) ?_
  intro p e s m below meth c C
  have hA : ∀ q, s.heap.size ≤ q → va_A (wl kc N ad S) s.heap.size q := fun _ h => Or.inr h
  show V p l e { frames := 6, cells := 0, slots := 0, locals := 166 } s m ([.ref (ad 45), .int (iZ z), .int (iZ s_), .int (iZ w)] : List Value).toArray below meth c (MQ below (QI D kc (wl kc N ad S) (mQ kc N ad S (1000000000 - (-1)) (refB b 1)) s.heap.size) ([.ref (ad 45), .int (iZ z), .int (iZ s_), .int (iZ w)] : List Value).toArray s 0 0 (va_A (wl kc N ad S) s.heap.size)) D (va_A (wl kc N ad S) s.heap.size) 4 0 0 (wl kc N ad S) 0 [(0, .ref (ad 45)), (1, .int (iZ z)), (2, .int (iZ s_)), (3, .int (iZ w))] []
  have hb0 := hI.1
  refine v_aload_n 0 0 C dX4_crease_0 rfl ?_
  refine v_iload_n 1 1 C dX4_crease_1 rfl ?_
  refine v_calli 2 hA (rV_Mo 2 C L_RX4_160 lk_658 lk_32 (m4_isPart hm hI hM (by first | assumption | exact ⟨by omega, by omega⟩)) (vm.o hm) rfl ⟨rfl, rfl⟩ (rm_ok rfl) dX4_crease_2) (fun r1 w2 h3 => ?_)
  obtain ⟨e_r1, rfl⟩ := h3
  refine v_eqi (iZ (bz (isPb b z))) (e_r1) ?_
  refine z_if_eq 5 15 C (bzr _) dX4_crease_5 (by decide) (fun c5_0 => ?_) (fun c5_0 => absurd (by rw [isPb_n hp]; rfl) c5_0)
  refine v_aload_n 15 0 C dX4_crease_15 rfl ?_
  refine v_iconst 16 C (iZ (-1)) dX4_crease_16 rfl ?_
  refine v_calli 17 hA (rV_Mo 17 C L_RX4_173 lk_682 lk_35 (m4_refuseB hm hI hM 1 (by decide) (by decide)) (vm.o hm) rfl ⟨rfl, rfl⟩ (rm_ok rfl) dX4_crease_17) (fun r4 w5 h6 => ?_)
  obtain ⟨e_r4, rfl⟩ := h6
  refine v_eqi (iZ (1000000000 - (-1))) (e_r4) ?_
  exact v_iret 20 C (⟨rfl, refM4 S b 1, rfl, refRM hM, refC⟩) dX4_crease_20

set_option maxHeartbeats 4000000 in
set_option maxRecDepth 100000 in
theorem d_crease_s {l : Launch} {D : va_G} {kc : Nat → ClassId} {N : Nat} {ad : Nat → Nat} {S : St} {b : Bs} (hm : vm N) (hI : Inv b) (hM : RM S b) {t : Ts} (hE : LE b t) {k : Nat} (hk : k < bn b) (ht : b 8 k = 1) {s_ w : Int} (rs : r32 s_) (rw_ : r32 w) (hs : ¬ (0 ≤ s_ ∧ s_ < 17)) : MetK l yX4_crease cX4_crease 4 (some FieldType.int) 6 0 0 166 D kc (wl kc N ad S) [.ref (ad 45), .int (iZ (k : Int)), .int (iZ s_), .int (iZ w)] (QI D kc (wl kc N ad S) (mQ kc N ad S (1000000000 - (-1)) (refB b 1))) := by
  refine MetK.of (by decide +kernel) (Nat.le_of_ble_eq_true rfl) ?_
  intro p e s m below meth c C
  have hA : ∀ q, s.heap.size ≤ q → va_A (wl kc N ad S) s.heap.size q := fun _ h => Or.inr h
  show V p l e { frames := 6, cells := 0, slots := 0, locals := 166 } s m ([.ref (ad 45), .int (iZ (k : Int)), .int (iZ s_), .int (iZ w)] : List Value).toArray below meth c (MQ below (QI D kc (wl kc N ad S) (mQ kc N ad S (1000000000 - (-1)) (refB b 1)) s.heap.size) ([.ref (ad 45), .int (iZ (k : Int)), .int (iZ s_), .int (iZ w)] : List Value).toArray s 0 0 (va_A (wl kc N ad S) s.heap.size)) D (va_A (wl kc N ad S) s.heap.size) 4 0 0 (wl kc N ad S) 0 [(0, .ref (ad 45)), (1, .int (iZ (k : Int))), (2, .int (iZ s_)), (3, .int (iZ w))] []
  have hb0 := hI.1
  refine v_aload_n 0 0 C dX4_crease_0 rfl ?_
  refine v_iload_n 1 1 C dX4_crease_1 rfl ?_
  refine v_calli 2 hA (rV_Mo 2 C L_RX4_160 lk_658 lk_32 (m4_isPart hm hI hM (by first | assumption | exact ⟨by omega, by omega⟩)) (vm.o hm) rfl ⟨rfl, rfl⟩ (rm_ok rfl) dX4_crease_2) (fun r1 w2 h3 => ?_)
  obtain ⟨e_r1, rfl⟩ := h3
  refine v_eqi (iZ (bz (isPb b (k : Int)))) (e_r1) ?_
  refine z_if_eq 5 15 C (bzr _) dX4_crease_5 (by decide) (fun c5_0 => absurd c5_0 (by rw [isPb_y hI hk ht]; decide)) (fun c5_0 => ?_)
  refine v_iload_n 8 2 C dX4_crease_8 rfl ?_
  refine v_calli 9 hA (rS 9 C L_RX4_170 lk_677 (m4_isStep (by first | assumption | exact ⟨by omega, by omega⟩)) rfl rfl (rm_ok rfl) dX4_crease_9) (fun r4 w5 h6 => ?_)
  obtain ⟨e_r4, rfl⟩ := h6
  refine v_eqi (iZ (bz (decide (0 ≤ s_ ∧ s_ ≤ 16)))) (e_r4) ?_
  refine z_if_ne 12 21 C (bzr _) dX4_crease_12 (by decide) (fun c12_1 => absurd c12_1 (fun q => q (by rw [decide_eq_false (show ¬ (0 ≤ s_ ∧ s_ ≤ 16) by omega)]; rfl))) (fun c12_1 => ?_)
  refine v_aload_n 15 0 C dX4_crease_15 rfl ?_
  refine v_iconst 16 C (iZ (-1)) dX4_crease_16 rfl ?_
  refine v_calli 17 hA (rV_Mo 17 C L_RX4_173 lk_682 lk_35 (m4_refuseB hm hI hM 1 (by decide) (by decide)) (vm.o hm) rfl ⟨rfl, rfl⟩ (rm_ok rfl) dX4_crease_17) (fun r7 w8 h9 => ?_)
  obtain ⟨e_r7, rfl⟩ := h9
  refine v_eqi (iZ (1000000000 - (-1))) (e_r7) ?_
  exact v_iret 20 C (⟨rfl, refM4 S b 1, rfl, refRM hM, refC⟩) dX4_crease_20

set_option maxHeartbeats 4000000 in
set_option maxRecDepth 100000 in
theorem d_crease_w {l : Launch} {D : va_G} {kc : Nat → ClassId} {N : Nat} {ad : Nat → Nat} {S : St} {b : Bs} (hm : vm N) (hI : Inv b) (hM : RM S b) {t : Ts} (hE : LE b t) {k : Nat} (hk : k < bn b) (ht : b 8 k = 1) {j : Nat} {w : Int} (hj : j < 17) (rw_ : r32 w) (hw : ¬ (w = 0 ∨ w = 1)) : MetK l yX4_crease cX4_crease 4 (some FieldType.int) 6 0 0 166 D kc (wl kc N ad S) [.ref (ad 45), .int (iZ (k : Int)), .int (iZ (j : Int)), .int (iZ w)] (QI D kc (wl kc N ad S) (mQ kc N ad S (1000000000 - (-2)) (refB b 2))) := by
  refine MetK.of (by decide +kernel) (Nat.le_of_ble_eq_true rfl) ?_
  intro p e s m below meth c C
  have hA : ∀ q, s.heap.size ≤ q → va_A (wl kc N ad S) s.heap.size q := fun _ h => Or.inr h
  show V p l e { frames := 6, cells := 0, slots := 0, locals := 166 } s m ([.ref (ad 45), .int (iZ (k : Int)), .int (iZ (j : Int)), .int (iZ w)] : List Value).toArray below meth c (MQ below (QI D kc (wl kc N ad S) (mQ kc N ad S (1000000000 - (-2)) (refB b 2)) s.heap.size) ([.ref (ad 45), .int (iZ (k : Int)), .int (iZ (j : Int)), .int (iZ w)] : List Value).toArray s 0 0 (va_A (wl kc N ad S) s.heap.size)) D (va_A (wl kc N ad S) s.heap.size) 4 0 0 (wl kc N ad S) 0 [(0, .ref (ad 45)), (1, .int (iZ (k : Int))), (2, .int (iZ (j : Int))), (3, .int (iZ w))] []
  have hb0 := hI.1
  refine v_aload_n 0 0 C dX4_crease_0 rfl ?_
  refine v_iload_n 1 1 C dX4_crease_1 rfl ?_
  refine v_calli 2 hA (rV_Mo 2 C L_RX4_160 lk_658 lk_32 (m4_isPart hm hI hM (by first | assumption | exact ⟨by omega, by omega⟩)) (vm.o hm) rfl ⟨rfl, rfl⟩ (rm_ok rfl) dX4_crease_2) (fun r1 w2 h3 => ?_)
  obtain ⟨e_r1, rfl⟩ := h3
  refine v_eqi (iZ (bz (isPb b (k : Int)))) (e_r1) ?_
  refine z_if_eq 5 15 C (bzr _) dX4_crease_5 (by decide) (fun c5_0 => absurd c5_0 (by rw [isPb_y hI hk ht]; decide)) (fun c5_0 => ?_)
  refine v_iload_n 8 2 C dX4_crease_8 rfl ?_
  refine v_calli 9 hA (rS 9 C L_RX4_170 lk_677 (m4_isStep (by first | assumption | exact ⟨by omega, by omega⟩)) rfl rfl (rm_ok rfl) dX4_crease_9) (fun r4 w5 h6 => ?_)
  obtain ⟨e_r4, rfl⟩ := h6
  refine v_eqi (iZ (bz (decide (0 ≤ (j : Int) ∧ (j : Int) ≤ 16)))) (e_r4) ?_
  refine z_if_ne 12 21 C (bzr _) dX4_crease_12 (by decide) (fun c12_1 => ?_) (fun c12_1 => absurd c12_1 (by rw [decide_eq_true (show 0 ≤ (j : Int) ∧ (j : Int) ≤ 16 by omega)]; decide))
  refine v_iload_n 21 3 C dX4_crease_21 rfl ?_
  refine z_i2l 22 C (by first | assumption | exact ⟨by omega, by omega⟩) dX4_crease_22 ?_
  refine v_lconst 23 C (lZ 0) dX4_crease_23 (by decide) ?_
  refine v_lconst 24 C (lZ 1) dX4_crease_24 (by decide) ?_
  refine v_calli 25 hA (rS 25 C L_RX4_83 lk_604 (m4_in (by first | assumption | exact ⟨by omega, by omega⟩) (by decide) (by decide)) rfl rfl (rm_ok rfl) dX4_crease_25) (fun r7 w8 h9 => ?_)
  obtain ⟨e_r7, rfl⟩ := h9
  refine v_eqi (iZ (bz (decide (0 ≤ w ∧ w ≤ 1)))) (e_r7) ?_
  refine z_if_ne 28 38 C (bzr _) dX4_crease_28 (by decide) (fun c28_2 => absurd c28_2 (fun q => q (by rw [decide_eq_false (show ¬ (0 ≤ w ∧ w ≤ 1) by omega)]; rfl))) (fun c28_2 => ?_)
  refine v_aload_n 31 0 C dX4_crease_31 rfl ?_
  refine v_bipush 32 C (iZ (-2)) dX4_crease_32 (by decide) ?_
  refine v_calli 34 hA (rV_Mo 34 C L_RX4_173 lk_682 lk_35 (m4_refuseB hm hI hM 2 (by decide) (by decide)) (vm.o hm) rfl ⟨rfl, rfl⟩ (rm_ok rfl) dX4_crease_34) (fun r10 w11 h12 => ?_)
  obtain ⟨e_r10, rfl⟩ := h12
  refine v_eqi (iZ (1000000000 - (-2))) (e_r10) ?_
  exact v_iret 37 C (⟨rfl, refM4 S b 2, rfl, refRM hM, refC⟩) dX4_crease_37

set_option maxHeartbeats 4000000 in
set_option maxRecDepth 100000 in
theorem d_crease {l : Launch} {D : va_G} {kc : Nat → ClassId} {N : Nat} {ad : Nat → Nat} {S : St} {b : Bs} (hm : vm N) (hI : Inv b) (hM : RM S b) {t : Ts} (hE : LE b t) {k : Nat} (hk : k < bn b) (ht : b 8 k = 1) {j : Nat} {w : Int} (hj : j < 17) (rw_ : r32 w) (hw : w = 0 ∨ w = 1) : MetK l yX4_crease cX4_crease 4 (some FieldType.int) 6 0 0 166 D kc (wl kc N ad S) [.ref (ad 45), .int (iZ (k : Int)), .int (iZ (j : Int)), .int (iZ w)] (QI D kc (wl kc N ad S) (mQ kc N ad S (if t 4 k j = 0 then (if w = 0 then t 2 k j else t 3 k j) else 1000000000) (b))) := by
  refine MetK.of (by decide +kernel) (Nat.le_of_ble_eq_true rfl) ?_
  intro p e s m below meth c C
  have hA : ∀ q, s.heap.size ≤ q → va_A (wl kc N ad S) s.heap.size q := fun _ h => Or.inr h
  show V p l e { frames := 6, cells := 0, slots := 0, locals := 166 } s m ([.ref (ad 45), .int (iZ (k : Int)), .int (iZ (j : Int)), .int (iZ w)] : List Value).toArray below meth c (MQ below (QI D kc (wl kc N ad S) (mQ kc N ad S (if t 4 k j = 0 then (if w = 0 then t 2 k j else t 3 k j) else 1000000000) (b)) s.heap.size) ([.ref (ad 45), .int (iZ (k : Int)), .int (iZ (j : Int)), .int (iZ w)] : List Value).toArray s 0 0 (va_A (wl kc N ad S) s.heap.size)) D (va_A (wl kc N ad S) s.heap.size) 4 0 0 (wl kc N ad S) 0 [(0, .ref (ad 45)), (1, .int (iZ (k : Int))), (2, .int (iZ (j : Int))), (3, .int (iZ w))] []
  have hb0 := hI.1
  refine v_aload_n 0 0 C dX4_crease_0 rfl ?_
  refine v_iload_n 1 1 C dX4_crease_1 rfl ?_
  refine v_calli 2 hA (rV_Mo 2 C L_RX4_160 lk_658 lk_32 (m4_isPart hm hI hM (by first | assumption | exact ⟨by omega, by omega⟩)) (vm.o hm) rfl ⟨rfl, rfl⟩ (rm_ok rfl) dX4_crease_2) (fun r1 w2 h3 => ?_)
  obtain ⟨e_r1, rfl⟩ := h3
  refine v_eqi (iZ (bz (isPb b (k : Int)))) (e_r1) ?_
  refine z_if_eq 5 15 C (bzr _) dX4_crease_5 (by decide) (fun c5_0 => absurd c5_0 (by rw [isPb_y hI hk ht]; decide)) (fun c5_0 => ?_)
  refine v_iload_n 8 2 C dX4_crease_8 rfl ?_
  refine v_calli 9 hA (rS 9 C L_RX4_170 lk_677 (m4_isStep (by first | assumption | exact ⟨by omega, by omega⟩)) rfl rfl (rm_ok rfl) dX4_crease_9) (fun r4 w5 h6 => ?_)
  obtain ⟨e_r4, rfl⟩ := h6
  refine v_eqi (iZ (bz (decide (0 ≤ (j : Int) ∧ (j : Int) ≤ 16)))) (e_r4) ?_
  refine z_if_ne 12 21 C (bzr _) dX4_crease_12 (by decide) (fun c12_1 => ?_) (fun c12_1 => absurd c12_1 (by rw [decide_eq_true (show 0 ≤ (j : Int) ∧ (j : Int) ≤ 16 by omega)]; decide))
  refine v_iload_n 21 3 C dX4_crease_21 rfl ?_
  refine z_i2l 22 C (by first | assumption | exact ⟨by omega, by omega⟩) dX4_crease_22 ?_
  refine v_lconst 23 C (lZ 0) dX4_crease_23 (by decide) ?_
  refine v_lconst 24 C (lZ 1) dX4_crease_24 (by decide) ?_
  refine v_calli 25 hA (rS 25 C L_RX4_83 lk_604 (m4_in (by first | assumption | exact ⟨by omega, by omega⟩) (by decide) (by decide)) rfl rfl (rm_ok rfl) dX4_crease_25) (fun r7 w8 h9 => ?_)
  obtain ⟨e_r7, rfl⟩ := h9
  refine v_eqi (iZ (bz (decide (0 ≤ w ∧ w ≤ 1)))) (e_r7) ?_
  refine z_if_ne 28 38 C (bzr _) dX4_crease_28 (by decide) (fun c28_2 => ?_) (fun c28_2 => absurd c28_2 (by rw [decide_eq_true (show 0 ≤ w ∧ w ≤ 1 by omega)]; decide))
  refine v_aload_n 38 0 C dX4_crease_38 rfl ?_
  refine v_iload_n 39 2 C dX4_crease_39 rfl ?_
  refine v_callv 40 hA (rV_Mo 40 C L_RX4_155 lk_617 lk_26 (m4_open hm hI hM hE hj) (vm.o hm) rfl ⟨rfl, rfl⟩ (rm_ok rfl) dX4_crease_40) (fun w11 h12 => ?_)
  obtain ⟨S1, rfl, F1, O1⟩ := h12
  have M1 := F1.RM hM
  have ok1 := O1.2 k hk hk
  rw [if_pos ht] at ok1
  have h01 := (hE k hk hk ht j hj).1
  refine v_aload_n 43 0 C dX4_crease_43 rfl ?_
  refine g_Mo_isStuck 44 C (vm.o hm).1 (vm.o hm).2 lk_513 dX4_crease_44 ?_
  refine v_iload_n 47 1 C dX4_crease_47 rfl ?_
  refine v_zald 48 C (vm.a hm 56 (by decide) rfl).1 (vm.a hm 56 (by decide) rfl).2 k (izn (by omega)) (lnx (show ln 56 = 30 from rfl) (by omega)) dX4_crease_48 ?_
  refine v_eqi (iZ (t 4 k j)) (ok1.1) ?_
  refine z_if_eq 49 57 C (by first | assumption | exact ⟨by omega, by omega⟩) dX4_crease_49 (by decide) (fun c49_3 => ?_) (fun c49_3 => ?_)
  · skip
    refine v_iload_n 57 3 C dX4_crease_57 rfl ?_
    refine z_if_ne 58 70 C (by first | assumption | exact ⟨by omega, by omega⟩) dX4_crease_58 (by decide) (fun c58_4 => ?_) (fun c58_4 => ?_)
    · skip
      refine v_aload_n 70 0 C dX4_crease_70 rfl ?_
      refine g_Mo_atY 71 C (vm.o hm).1 (vm.o hm).2 lk_512 dX4_crease_71 ?_
      refine v_iload_n 74 1 C dX4_crease_74 rfl ?_
      refine v_lald 75 C (vm.a hm 55 (by decide) rfl).1 (vm.a hm 55 (by decide) rfl).2 k (izn (by omega)) (lnx (show ln 55 = 30 from rfl) (by omega)) dX4_crease_75 ?_
      refine v_eql (lZ (t 3 k j)) ((ok1.2 ht c49_3).2) ?_
      refine z_l2i 76 C dX4_crease_76 ?_
      exact v_iret 77 C (⟨by rw [if_pos c49_3, if_neg c58_4], S1, rfl, M1, F1.C⟩) dX4_crease_77
    · skip
      refine v_aload_n 61 0 C dX4_crease_61 rfl ?_
      refine g_Mo_atX 62 C (vm.o hm).1 (vm.o hm).2 lk_511 dX4_crease_62 ?_
      refine v_iload_n 65 1 C dX4_crease_65 rfl ?_
      refine v_lald 66 C (vm.a hm 54 (by decide) rfl).1 (vm.a hm 54 (by decide) rfl).2 k (izn (by omega)) (lnx (show ln 54 = 30 from rfl) (by omega)) dX4_crease_66 ?_
      refine v_eql (lZ (t 2 k j)) ((ok1.2 ht c49_3).1) ?_
      refine v_goto 67 76 C dX4_crease_67 (by decide) ?_
      refine z_l2i 76 C dX4_crease_76 ?_
      exact v_iret 77 C (⟨by rw [if_pos c49_3, if_pos c58_4], S1, rfl, M1, F1.C⟩) dX4_crease_77
  · skip
    refine v_ldc 52 C (1000000000) lk_684 dX4_crease_52 ?_
    refine v_eqi (iZ 1000000000) (by decide) ?_
    refine v_goto 54 77 C dX4_crease_54 (by decide) ?_
    exact v_iret 77 C (⟨by rw [if_neg c49_3], S1, rfl, M1, F1.C⟩) dX4_crease_77
