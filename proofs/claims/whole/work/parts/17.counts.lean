set_option maxHeartbeats 4000000 in
set_option maxRecDepth 100000 in
theorem c_even_p {l : Launch} {D : va_G} {kc : Nat → ClassId} {N : Nat} {ad : Nat → Nat} {S : St} {b : Bs} {t : Ts} (hg : vg N) (hN : N = 66 + 15 * bn b) (hI : Inv b) (hC : RC S b t) (hE : LE b t) {z : Int} (rz : r32 z) (hp : ¬ isP b z) : MetK l yX3_even cX3_even 3 (some FieldType.boolean) 3 0 0 67 D kc (wl kc N ad S) [.ref (ad 0), .int (iZ z)] (QI D kc (wl kc N ad S) (cQ kc N ad S (0) (b))) := by
  refine MetK.of (by decide +kernel) (Nat.le_of_ble_eq_true rfl) ?_
  intro p e s m below meth c C
  have hA : ∀ q, s.heap.size ≤ q → va_A (wl kc N ad S) s.heap.size q := fun _ h => Or.inr h
  show V p l e { frames := 3, cells := 0, slots := 0, locals := 67 } s m ([.ref (ad 0), .int (iZ z)] : List Value).toArray below meth c (MQ below (QI D kc (wl kc N ad S) (cQ kc N ad S (0) (b)) s.heap.size) ([.ref (ad 0), .int (iZ z)] : List Value).toArray s 0 0 (va_A (wl kc N ad S) s.heap.size)) D (va_A (wl kc N ad S) s.heap.size) 3 0 0 (wl kc N ad S) 0 [(0, .ref (ad 0)), (1, .int (iZ z))] []
  have hP := hC.1
  have hW := hC.2.1
  have hEn := hC.2.2.1
  have hR := hC.2.2.2
  have hb0 := hI.1
  refine v_aload_n 0 0 C dX3_even_0 rfl ?_
  refine v_iload_n 1 1 C dX3_even_1 rfl ?_
  refine v_callq 2 hA (rV_Pg 2 C L_RX3_90 lk_244 lk_3 (m_partThere_no hg hN hI hP rz hp) (vg.o hg) rfl ⟨rfl, rfl⟩ (rm_ok rfl) dX3_even_2) (fun r1 w2 h3 => ?_)
  obtain ⟨e_r1, rfl⟩ := h3
  refine v_eqv .null (by rw [e_r1]; rfl) ?_
  refine v_astore_nN 5 [(2, .null), (0, .ref (ad 0)), (1, .int (iZ z))] C dX3_even_5 (by decide) rfl ?_
  refine v_aload_nN 6 0 C dX3_even_6 rfl ?_
  refine v_ifnullN 7 23 C dX3_even_7 (by decide) ?_
  refine v_iconst 23 C (iZ 0) dX3_even_23 rfl ?_
  exact v_zret 24 C (rfl) (⟨rfl, S, t, rfl, hC, hE, hI, sameOn.rf⟩) dX3_even_24

set_option maxHeartbeats 4000000 in
set_option maxRecDepth 100000 in
theorem c_even {l : Launch} {D : va_G} {kc : Nat → ClassId} {N : Nat} {ad : Nat → Nat} {S : St} {b : Bs} {t : Ts} (hg : vg N) (hN : N = 66 + 15 * bn b) (hI : Inv b) (hC : RC S b t) (hE : LE b t) {k : Nat} (hk : k < bn b) (ht : b 8 k = 1) : MetK l yX3_even cX3_even 3 (some FieldType.boolean) 3 0 0 67 D kc (wl kc N ad S) [.ref (ad 0), .int (iZ (k : Int))] (QI D kc (wl kc N ad S) (cQ kc N ad S (bz (decide (t 4 k 8 = 0) && decide (((t 2 k 8 - t 3 k 8).natAbs : Int) ≤ b 2 0))) (b))) := by
  refine MetK.of (by decide +kernel) (Nat.le_of_ble_eq_true rfl) ?_
  intro p e s m below meth c C
  have hA : ∀ q, s.heap.size ≤ q → va_A (wl kc N ad S) s.heap.size q := fun _ h => Or.inr h
  show V p l e { frames := 3, cells := 0, slots := 0, locals := 67 } s m ([.ref (ad 0), .int (iZ (k : Int))] : List Value).toArray below meth c (MQ below (QI D kc (wl kc N ad S) (cQ kc N ad S (bz (decide (t 4 k 8 = 0) && decide (((t 2 k 8 - t 3 k 8).natAbs : Int) ≤ b 2 0))) (b)) s.heap.size) ([.ref (ad 0), .int (iZ (k : Int))] : List Value).toArray s 0 0 (va_A (wl kc N ad S) s.heap.size)) D (va_A (wl kc N ad S) s.heap.size) 3 0 0 (wl kc N ad S) 0 [(0, .ref (ad 0)), (1, .int (iZ (k : Int)))] []
  have hP := hC.1
  have hW := hC.2.1
  have hEn := hC.2.2.1
  have hR := hC.2.2.2
  have hb0 := hI.1
  have hb2 := hI.2.2.1
  have h01 := cr_01 hE hk ht (show 8 < 17 by decide)
  refine v_aload_n 0 0 C dX3_even_0 rfl ?_
  refine v_iload_n 1 1 C dX3_even_1 rfl ?_
  refine v_callq 2 hA (rV_Pg 2 C L_RX3_90 lk_244 lk_3 (m_partThere hg hN hI hP hk ht) (vg.o hg) rfl ⟨rfl, rfl⟩ (rm_ok rfl) dX3_even_2) (fun r1 w2 h3 => ?_)
  obtain ⟨e_r1, rfl⟩ := h3
  refine v_eqv (.ref (ad (66 + 15 * k))) (by rw [e_r1]; rfl) ?_
  refine v_astore_n 5 [(2, .ref (ad (66 + 15 * k))), (0, .ref (ad 0)), (1, .int (iZ (k : Int)))] C dX3_even_5 (by decide) rfl ?_
  refine v_aload_n 6 0 C dX3_even_6 rfl ?_
  refine v_ifnull 7 C dX3_even_7 ?_
  refine v_aload_n 10 0 C dX3_even_10 rfl ?_
  refine g_Pt_crease 11 C (vp.o (vp_k hN hk)).1 (vp.o (vp_k hN hk)).2 lk_127 dX3_even_11 ?_
  refine g_Tr_stuck 14 C (vt.o (vp.C (vp_k hN hk))).1 (vt.o (vp.C (vp_k hN hk))).2 lk_87 dX3_even_14 ?_
  refine v_bipush 17 C (iZ 8) dX3_even_17 (by decide) ?_
  refine v_zald 19 C (vt.s (vp.C (vp_k hN hk))).1 (vt.s (vp.C (vp_k hN hk))).2 8 (izn (by omega)) (lnx (vt.ls (vp.C (vp_k hN hk))) (by omega)) dX3_even_19 ?_
  refine v_eqi (iZ (t 4 k 8)) (cr_s hR hk ht (by decide)) ?_
  refine z_if_eq 20 25 C (by first | assumption | exact ⟨by omega, by omega⟩) dX3_even_20 (by decide) (fun c20_0 => ?_) (fun c20_0 => ?_)
  · skip
    obtain ⟨-, -, q1, q2⟩ := cr_xy hI hR hE hk ht (by decide) c20_0
    refine v_aload_n 25 0 C dX3_even_25 rfl ?_
    refine g_Pt_crease 26 C (vp.o (vp_k hN hk)).1 (vp.o (vp_k hN hk)).2 lk_127 dX3_even_26 ?_
    refine g_Tr_x 29 C (vt.o (vp.C (vp_k hN hk))).1 (vt.o (vp.C (vp_k hN hk))).2 lk_79 dX3_even_29 ?_
    refine v_bipush 32 C (iZ 8) dX3_even_32 (by decide) ?_
    refine v_iald 34 C (vt.x (vp.C (vp_k hN hk))).1 (vt.x (vp.C (vp_k hN hk))).2 8 (izn (by omega)) (lnx (vt.lx (vp.C (vp_k hN hk))) (by omega)) dX3_even_34 ?_
    refine v_eqi (iZ (t 2 k 8)) ((cr_xy hI hR hE hk ht (by decide) c20_0).1) ?_
    refine v_aload_n 35 0 C dX3_even_35 rfl ?_
    refine g_Pt_crease 36 C (vp.o (vp_k hN hk)).1 (vp.o (vp_k hN hk)).2 lk_127 dX3_even_36 ?_
    refine g_Tr_y 39 C (vt.o (vp.C (vp_k hN hk))).1 (vt.o (vp.C (vp_k hN hk))).2 lk_83 dX3_even_39 ?_
    refine v_bipush 42 C (iZ 8) dX3_even_42 (by decide) ?_
    refine v_iald 44 C (vt.y (vp.C (vp_k hN hk))).1 (vt.y (vp.C (vp_k hN hk))).2 8 (izn (by omega)) (lnx (vt.ly (vp.C (vp_k hN hk))) (by omega)) dX3_even_44 ?_
    refine v_eqi (iZ (t 3 k 8)) ((cr_xy hI hR hE hk ht (by decide) c20_0).2.1) ?_
    refine z_isub 45 C dX3_even_45 ?_
    refine v_mabs 46 C lk_413 ⟨Nat.le_of_ble_eq_true rfl, Nat.le_of_ble_eq_true rfl, Nat.le_of_ble_eq_true rfl, Nat.le_of_ble_eq_true rfl⟩ dX3_even_46 ?_
    refine v_eqi (iZ (((t 2 k 8) - (t 3 k 8)).natAbs : Int)) (mabs_z (by first | assumption | exact ⟨by omega, by omega⟩)) ?_
    refine v_aload_n 49 1 C dX3_even_49 rfl ?_
    refine g_Pg_pageTolerance 50 C (vg.o hg).1 (vg.o hg).2 lk_215 dX3_even_50 ?_
    refine v_eqi (iZ (b 2 0)) (hP.1.2.1) ?_
    refine z_icmp_gt 53 60 C (by first | assumption | exact ⟨by omega, by omega⟩) (by first | assumption | exact ⟨by omega, by omega⟩) dX3_even_53 (by decide) (fun c53_1 => ?_) (fun c53_1 => ?_)
    · skip
      refine v_iconst 60 C (iZ 0) dX3_even_60 rfl ?_
      exact v_zret 61 C (rfl) (⟨bzF (by rw [decide_eq_false (show ¬ ((t 2 k 8 - t 3 k 8).natAbs : Int) ≤ b 2 0 by omega)]; simp), S, t, rfl, hC, hE, hI, sameOn.rf⟩) dX3_even_61
    · skip
      refine v_iconst 56 C (iZ 1) dX3_even_56 rfl ?_
      refine v_goto 57 61 C dX3_even_57 (by decide) ?_
      exact v_zret 61 C (rfl) (⟨bzT (by rw [decide_eq_true c20_0, decide_eq_true (show ((t 2 k 8 - t 3 k 8).natAbs : Int) ≤ b 2 0 by omega)]; rfl), S, t, rfl, hC, hE, hI, sameOn.rf⟩) dX3_even_61
  · skip
    refine v_iconst 23 C (iZ 0) dX3_even_23 rfl ?_
    exact v_zret 24 C (rfl) (⟨bzF (by rw [decide_eq_false c20_0]; rfl), S, t, rfl, hC, hE, hI, sameOn.rf⟩) dX3_even_24

set_option maxHeartbeats 4000000 in
set_option maxRecDepth 100000 in
theorem c_partOf_p {l : Launch} {D : va_G} {kc : Nat → ClassId} {N : Nat} {ad : Nat → Nat} {S : St} {b : Bs} {t : Ts} (hg : vg N) (hN : N = 66 + 15 * bn b) (hI : Inv b) (hC : RC S b t) (hE : LE b t) {z w : Int} (rz : r32 z) (rw_ : r32 w) (hz : ¬ (0 ≤ z ∧ z < b 0 0)) : MetK l yX3_partOf cX3_partOf 4 (some FieldType.int) 4 0 0 92 D kc (wl kc N ad S) [.ref (ad 0), .int (iZ z), .int (iZ w)] (QI D kc (wl kc N ad S) (cQ kc N ad S (-1) (refB b 1))) := by
  refine MetK.of (by decide +kernel) (Nat.le_of_ble_eq_true rfl) ?_
  intro p e s m below meth c C
  have hA : ∀ q, s.heap.size ≤ q → va_A (wl kc N ad S) s.heap.size q := fun _ h => Or.inr h
  show V p l e { frames := 4, cells := 0, slots := 0, locals := 92 } s m ([.ref (ad 0), .int (iZ z), .int (iZ w)] : List Value).toArray below meth c (MQ below (QI D kc (wl kc N ad S) (cQ kc N ad S (-1) (refB b 1)) s.heap.size) ([.ref (ad 0), .int (iZ z), .int (iZ w)] : List Value).toArray s 0 0 (va_A (wl kc N ad S) s.heap.size)) D (va_A (wl kc N ad S) s.heap.size) 4 0 0 (wl kc N ad S) 0 [(0, .ref (ad 0)), (1, .int (iZ z)), (2, .int (iZ w))] []
  have hP := hC.1
  have hW := hC.2.1
  have hEn := hC.2.2.1
  have hR := hC.2.2.2
  have hb0 := hI.1
  refine v_aload_n 0 0 C dX3_partOf_0 rfl ?_
  refine v_iload_n 1 1 C dX3_partOf_1 rfl ?_
  refine v_callq 2 hA (rV_Pg 2 C L_RX3_208 lk_248 lk_4 (m_partEver_no hg hN hI hP rz hz) (vg.o hg) rfl ⟨rfl, rfl⟩ (rm_ok rfl) dX3_partOf_2) (fun r1 w2 h3 => ?_)
  obtain ⟨e_r1, rfl⟩ := h3
  refine v_eqv .null (by rw [e_r1]; rfl) ?_
  refine v_astore_nN 5 [(3, .null), (0, .ref (ad 0)), (1, .int (iZ z)), (2, .int (iZ w))] C dX3_partOf_5 (by decide) rfl ?_
  refine v_aload_nN 6 0 C dX3_partOf_6 rfl ?_
  refine v_ifnonnullN 7 C dX3_partOf_7 ?_
  refine v_aload_n 10 1 C dX3_partOf_10 rfl ?_
  refine v_iconst 11 C (iZ (-1)) dX3_partOf_11 rfl ?_
  refine v_calli 12 hA (rV_Pg 12 C L_RX3_62 lk_252 lk_5 (m_refuse hg hN hI hP 1 (by decide) (by decide)) (vg.o hg) rfl ⟨rfl, rfl⟩ (rm_ok rfl) dX3_partOf_12) (fun r4 w5 h6 => ?_)
  obtain ⟨e_r4, rfl⟩ := h6
  refine v_eqi (iZ (-1)) (e_r4) ?_
  exact v_iret 15 C (⟨rfl, refS S b 1, t, rfl, refRC hC, refLE hE, refInv hI, refM⟩) dX3_partOf_15

set_option maxHeartbeats 4000000 in
set_option maxRecDepth 100000 in
theorem c_partOf_w {l : Launch} {D : va_G} {kc : Nat → ClassId} {N : Nat} {ad : Nat → Nat} {S : St} {b : Bs} {t : Ts} (hg : vg N) (hN : N = 66 + 15 * bn b) (hI : Inv b) (hC : RC S b t) (hE : LE b t) {k : Nat} (hk : k < bn b) {w : Int} (rw_ : r32 w) (hw : w < 0 ∨ 9 < w) : MetK l yX3_partOf cX3_partOf 4 (some FieldType.int) 4 0 0 92 D kc (wl kc N ad S) [.ref (ad 0), .int (iZ (k : Int)), .int (iZ w)] (QI D kc (wl kc N ad S) (cQ kc N ad S (-2) (refB b 2))) := by
  refine MetK.of (by decide +kernel) (Nat.le_of_ble_eq_true rfl) ?_
  intro p e s m below meth c C
  have hA : ∀ q, s.heap.size ≤ q → va_A (wl kc N ad S) s.heap.size q := fun _ h => Or.inr h
  show V p l e { frames := 4, cells := 0, slots := 0, locals := 92 } s m ([.ref (ad 0), .int (iZ (k : Int)), .int (iZ w)] : List Value).toArray below meth c (MQ below (QI D kc (wl kc N ad S) (cQ kc N ad S (-2) (refB b 2)) s.heap.size) ([.ref (ad 0), .int (iZ (k : Int)), .int (iZ w)] : List Value).toArray s 0 0 (va_A (wl kc N ad S) s.heap.size)) D (va_A (wl kc N ad S) s.heap.size) 4 0 0 (wl kc N ad S) 0 [(0, .ref (ad 0)), (1, .int (iZ (k : Int))), (2, .int (iZ w))] []
  have hP := hC.1
  have hW := hC.2.1
  have hEn := hC.2.2.1
  have hR := hC.2.2.2
  have hb0 := hI.1
  refine v_aload_n 0 0 C dX3_partOf_0 rfl ?_
  refine v_iload_n 1 1 C dX3_partOf_1 rfl ?_
  refine v_callq 2 hA (rV_Pg 2 C L_RX3_208 lk_248 lk_4 (m_partEver hg hN hI hP hk) (vg.o hg) rfl ⟨rfl, rfl⟩ (rm_ok rfl) dX3_partOf_2) (fun r1 w2 h3 => ?_)
  obtain ⟨e_r1, rfl⟩ := h3
  refine v_eqv (.ref (ad (66 + 15 * k))) (by rw [e_r1]; rfl) ?_
  refine v_astore_n 5 [(3, .ref (ad (66 + 15 * k))), (0, .ref (ad 0)), (1, .int (iZ (k : Int))), (2, .int (iZ w))] C dX3_partOf_5 (by decide) rfl ?_
  refine v_aload_n 6 0 C dX3_partOf_6 rfl ?_
  refine v_ifnonnull 7 16 C dX3_partOf_7 (by decide) ?_
  refine v_iload_n 16 3 C dX3_partOf_16 rfl ?_
  refine v_tabOut 17 145 C dX3_partOf_17 (by rw [iZ_toInt rw_]; exact hw) (by decide) ?_
  refine v_aload_n 145 1 C dX3_partOf_145 rfl ?_
  refine v_bipush 146 C (iZ (-2)) dX3_partOf_146 (by decide) ?_
  refine v_calli 148 hA (rV_Pg 148 C L_RX3_62 lk_252 lk_5 (m_refuse hg hN hI hP 2 (by decide) (by decide)) (vg.o hg) rfl ⟨rfl, rfl⟩ (rm_ok rfl) dX3_partOf_148) (fun r4 w5 h6 => ?_)
  obtain ⟨e_r4, rfl⟩ := h6
  refine v_eqi (iZ (-2)) (e_r4) ?_
  exact v_iret 151 C (⟨rfl, refS S b 2, t, rfl, refRC hC, refLE hE, refInv hI, refM⟩) dX3_partOf_151

def poZ (b : Bs) (k w : Nat) : Int := match w with | 0 => b 3 k | 1 => b 4 (2 * k) | 2 => b 5 (2 * k) | 3 => b 4 (2 * k + 1) | 4 => b 5 (2 * k + 1) | 5 => b 6 (2 * k) | 6 => b 6 (2 * k + 1) | 7 => b 7 k | 8 => b 8 k | _ => hangN b k
set_option maxHeartbeats 4000000 in
set_option maxRecDepth 100000 in
theorem c_partOf_0 {l : Launch} {D : va_G} {kc : Nat → ClassId} {N : Nat} {ad : Nat → Nat} {S : St} {b : Bs} {t : Ts} (hg : vg N) (hN : N = 66 + 15 * bn b) (hI : Inv b) (hC : RC S b t) (hE : LE b t) {k : Nat} (hk : k < bn b) : MetK l yX3_partOf cX3_partOf 4 (some FieldType.int) 4 0 0 92 D kc (wl kc N ad S) [.ref (ad 0), .int (iZ (k : Int)), .int (iZ 0)] (QI D kc (wl kc N ad S) (cQ kc N ad S (poZ b k 0) (b))) := by
  refine MetK.of (by decide +kernel) (Nat.le_of_ble_eq_true rfl) ?_
  intro p e s m below meth c C
  have hA : ∀ q, s.heap.size ≤ q → va_A (wl kc N ad S) s.heap.size q := fun _ h => Or.inr h
  show V p l e { frames := 4, cells := 0, slots := 0, locals := 92 } s m ([.ref (ad 0), .int (iZ (k : Int)), .int (iZ 0)] : List Value).toArray below meth c (MQ below (QI D kc (wl kc N ad S) (cQ kc N ad S (poZ b k 0) (b)) s.heap.size) ([.ref (ad 0), .int (iZ (k : Int)), .int (iZ 0)] : List Value).toArray s 0 0 (va_A (wl kc N ad S) s.heap.size)) D (va_A (wl kc N ad S) s.heap.size) 4 0 0 (wl kc N ad S) 0 [(0, .ref (ad 0)), (1, .int (iZ (k : Int))), (2, .int (iZ 0))] []
  have hP := hC.1
  have hW := hC.2.1
  have hEn := hC.2.2.1
  have hR := hC.2.2.2
  have hb0 := hI.1
  have J := hI.2.2.2.1 k hk
  refine v_aload_n 0 0 C dX3_partOf_0 rfl ?_
  refine v_iload_n 1 1 C dX3_partOf_1 rfl ?_
  refine v_callq 2 hA (rV_Pg 2 C L_RX3_208 lk_248 lk_4 (m_partEver hg hN hI hP hk) (vg.o hg) rfl ⟨rfl, rfl⟩ (rm_ok rfl) dX3_partOf_2) (fun r1 w2 h3 => ?_)
  obtain ⟨e_r1, rfl⟩ := h3
  refine v_eqv (.ref (ad (66 + 15 * k))) (by rw [e_r1]; rfl) ?_
  refine v_astore_n 5 [(3, .ref (ad (66 + 15 * k))), (0, .ref (ad 0)), (1, .int (iZ (k : Int))), (2, .int (iZ 0))] C dX3_partOf_5 (by decide) rfl ?_
  refine v_aload_n 6 0 C dX3_partOf_6 rfl ?_
  refine v_ifnonnull 7 16 C dX3_partOf_7 (by decide) ?_
  refine v_iload_n 16 3 C dX3_partOf_16 rfl ?_
  refine v_tabIn 17 72 C (off := 55) dX3_partOf_17 (by decide) (by decide) (by decide) (by decide) ?_
  refine v_aload_n 72 0 C dX3_partOf_72 rfl ?_
  refine g_Pt_kind 73 C (vp.o (vp_k hN hk)).1 (vp.o (vp_k hN hk)).2 lk_133 dX3_partOf_73 ?_
  refine v_eqi (iZ (b 3 k)) ((hP.2.2.2.2.2 k hk).1) ?_
  exact v_iret 76 C (⟨rfl, S, t, rfl, hC, hE, hI, sameOn.rf⟩) dX3_partOf_76

set_option maxHeartbeats 4000000 in
set_option maxRecDepth 100000 in
theorem c_partOf_1 {l : Launch} {D : va_G} {kc : Nat → ClassId} {N : Nat} {ad : Nat → Nat} {S : St} {b : Bs} {t : Ts} (hg : vg N) (hN : N = 66 + 15 * bn b) (hI : Inv b) (hC : RC S b t) (hE : LE b t) {k : Nat} (hk : k < bn b) : MetK l yX3_partOf cX3_partOf 4 (some FieldType.int) 4 0 0 92 D kc (wl kc N ad S) [.ref (ad 0), .int (iZ (k : Int)), .int (iZ 1)] (QI D kc (wl kc N ad S) (cQ kc N ad S (poZ b k 1) (b))) := by
  refine MetK.of (by decide +kernel) (Nat.le_of_ble_eq_true rfl) ?_
  intro p e s m below meth c C
  have hA : ∀ q, s.heap.size ≤ q → va_A (wl kc N ad S) s.heap.size q := fun _ h => Or.inr h
  show V p l e { frames := 4, cells := 0, slots := 0, locals := 92 } s m ([.ref (ad 0), .int (iZ (k : Int)), .int (iZ 1)] : List Value).toArray below meth c (MQ below (QI D kc (wl kc N ad S) (cQ kc N ad S (poZ b k 1) (b)) s.heap.size) ([.ref (ad 0), .int (iZ (k : Int)), .int (iZ 1)] : List Value).toArray s 0 0 (va_A (wl kc N ad S) s.heap.size)) D (va_A (wl kc N ad S) s.heap.size) 4 0 0 (wl kc N ad S) 0 [(0, .ref (ad 0)), (1, .int (iZ (k : Int))), (2, .int (iZ 1))] []
  have hP := hC.1
  have hW := hC.2.1
  have hEn := hC.2.2.1
  have hR := hC.2.2.2
  have hb0 := hI.1
  have J := hI.2.2.2.1 k hk
  refine v_aload_n 0 0 C dX3_partOf_0 rfl ?_
  refine v_iload_n 1 1 C dX3_partOf_1 rfl ?_
  refine v_callq 2 hA (rV_Pg 2 C L_RX3_208 lk_248 lk_4 (m_partEver hg hN hI hP hk) (vg.o hg) rfl ⟨rfl, rfl⟩ (rm_ok rfl) dX3_partOf_2) (fun r1 w2 h3 => ?_)
  obtain ⟨e_r1, rfl⟩ := h3
  refine v_eqv (.ref (ad (66 + 15 * k))) (by rw [e_r1]; rfl) ?_
  refine v_astore_n 5 [(3, .ref (ad (66 + 15 * k))), (0, .ref (ad 0)), (1, .int (iZ (k : Int))), (2, .int (iZ 1))] C dX3_partOf_5 (by decide) rfl ?_
  refine v_aload_n 6 0 C dX3_partOf_6 rfl ?_
  refine v_ifnonnull 7 16 C dX3_partOf_7 (by decide) ?_
  refine v_iload_n 16 3 C dX3_partOf_16 rfl ?_
  refine v_tabIn 17 77 C (off := 60) dX3_partOf_17 (by decide) (by decide) (by decide) (by decide) ?_
  refine v_aload_n 77 0 C dX3_partOf_77 rfl ?_
  refine g_Pt_p 78 C (vp.o (vp_k hN hk)).1 (vp.o (vp_k hN hk)).2 lk_135 dX3_partOf_78 ?_
  refine v_eqi (iZ (b 4 (2 * k))) ((hP.2.2.2.2.2 k hk).2.1) ?_
  exact v_iret 81 C (⟨rfl, S, t, rfl, hC, hE, hI, sameOn.rf⟩) dX3_partOf_81

set_option maxHeartbeats 4000000 in
set_option maxRecDepth 100000 in
theorem c_partOf_2 {l : Launch} {D : va_G} {kc : Nat → ClassId} {N : Nat} {ad : Nat → Nat} {S : St} {b : Bs} {t : Ts} (hg : vg N) (hN : N = 66 + 15 * bn b) (hI : Inv b) (hC : RC S b t) (hE : LE b t) {k : Nat} (hk : k < bn b) : MetK l yX3_partOf cX3_partOf 4 (some FieldType.int) 4 0 0 92 D kc (wl kc N ad S) [.ref (ad 0), .int (iZ (k : Int)), .int (iZ 2)] (QI D kc (wl kc N ad S) (cQ kc N ad S (poZ b k 2) (b))) := by
  refine MetK.of (by decide +kernel) (Nat.le_of_ble_eq_true rfl) ?_
  intro p e s m below meth c C
  have hA : ∀ q, s.heap.size ≤ q → va_A (wl kc N ad S) s.heap.size q := fun _ h => Or.inr h
  show V p l e { frames := 4, cells := 0, slots := 0, locals := 92 } s m ([.ref (ad 0), .int (iZ (k : Int)), .int (iZ 2)] : List Value).toArray below meth c (MQ below (QI D kc (wl kc N ad S) (cQ kc N ad S (poZ b k 2) (b)) s.heap.size) ([.ref (ad 0), .int (iZ (k : Int)), .int (iZ 2)] : List Value).toArray s 0 0 (va_A (wl kc N ad S) s.heap.size)) D (va_A (wl kc N ad S) s.heap.size) 4 0 0 (wl kc N ad S) 0 [(0, .ref (ad 0)), (1, .int (iZ (k : Int))), (2, .int (iZ 2))] []
  have hP := hC.1
  have hW := hC.2.1
  have hEn := hC.2.2.1
  have hR := hC.2.2.2
  have hb0 := hI.1
  have J := hI.2.2.2.1 k hk
  refine v_aload_n 0 0 C dX3_partOf_0 rfl ?_
  refine v_iload_n 1 1 C dX3_partOf_1 rfl ?_
  refine v_callq 2 hA (rV_Pg 2 C L_RX3_208 lk_248 lk_4 (m_partEver hg hN hI hP hk) (vg.o hg) rfl ⟨rfl, rfl⟩ (rm_ok rfl) dX3_partOf_2) (fun r1 w2 h3 => ?_)
  obtain ⟨e_r1, rfl⟩ := h3
  refine v_eqv (.ref (ad (66 + 15 * k))) (by rw [e_r1]; rfl) ?_
  refine v_astore_n 5 [(3, .ref (ad (66 + 15 * k))), (0, .ref (ad 0)), (1, .int (iZ (k : Int))), (2, .int (iZ 2))] C dX3_partOf_5 (by decide) rfl ?_
  refine v_aload_n 6 0 C dX3_partOf_6 rfl ?_
  refine v_ifnonnull 7 16 C dX3_partOf_7 (by decide) ?_
  refine v_iload_n 16 3 C dX3_partOf_16 rfl ?_
  refine v_tabIn 17 82 C (off := 65) dX3_partOf_17 (by decide) (by decide) (by decide) (by decide) ?_
  refine v_aload_n 82 0 C dX3_partOf_82 rfl ?_
  refine g_Pt_a 83 C (vp.o (vp_k hN hk)).1 (vp.o (vp_k hN hk)).2 lk_137 dX3_partOf_83 ?_
  refine v_eqi (iZ (b 5 (2 * k))) ((hP.2.2.2.2.2 k hk).2.2.1) ?_
  exact v_iret 86 C (⟨rfl, S, t, rfl, hC, hE, hI, sameOn.rf⟩) dX3_partOf_86

set_option maxHeartbeats 4000000 in
set_option maxRecDepth 100000 in
theorem c_partOf_3 {l : Launch} {D : va_G} {kc : Nat → ClassId} {N : Nat} {ad : Nat → Nat} {S : St} {b : Bs} {t : Ts} (hg : vg N) (hN : N = 66 + 15 * bn b) (hI : Inv b) (hC : RC S b t) (hE : LE b t) {k : Nat} (hk : k < bn b) : MetK l yX3_partOf cX3_partOf 4 (some FieldType.int) 4 0 0 92 D kc (wl kc N ad S) [.ref (ad 0), .int (iZ (k : Int)), .int (iZ 3)] (QI D kc (wl kc N ad S) (cQ kc N ad S (poZ b k 3) (b))) := by
  refine MetK.of (by decide +kernel) (Nat.le_of_ble_eq_true rfl) ?_
  intro p e s m below meth c C
  have hA : ∀ q, s.heap.size ≤ q → va_A (wl kc N ad S) s.heap.size q := fun _ h => Or.inr h
  show V p l e { frames := 4, cells := 0, slots := 0, locals := 92 } s m ([.ref (ad 0), .int (iZ (k : Int)), .int (iZ 3)] : List Value).toArray below meth c (MQ below (QI D kc (wl kc N ad S) (cQ kc N ad S (poZ b k 3) (b)) s.heap.size) ([.ref (ad 0), .int (iZ (k : Int)), .int (iZ 3)] : List Value).toArray s 0 0 (va_A (wl kc N ad S) s.heap.size)) D (va_A (wl kc N ad S) s.heap.size) 4 0 0 (wl kc N ad S) 0 [(0, .ref (ad 0)), (1, .int (iZ (k : Int))), (2, .int (iZ 3))] []
  have hP := hC.1
  have hW := hC.2.1
  have hEn := hC.2.2.1
  have hR := hC.2.2.2
  have hb0 := hI.1
  have J := hI.2.2.2.1 k hk
  refine v_aload_n 0 0 C dX3_partOf_0 rfl ?_
  refine v_iload_n 1 1 C dX3_partOf_1 rfl ?_
  refine v_callq 2 hA (rV_Pg 2 C L_RX3_208 lk_248 lk_4 (m_partEver hg hN hI hP hk) (vg.o hg) rfl ⟨rfl, rfl⟩ (rm_ok rfl) dX3_partOf_2) (fun r1 w2 h3 => ?_)
  obtain ⟨e_r1, rfl⟩ := h3
  refine v_eqv (.ref (ad (66 + 15 * k))) (by rw [e_r1]; rfl) ?_
  refine v_astore_n 5 [(3, .ref (ad (66 + 15 * k))), (0, .ref (ad 0)), (1, .int (iZ (k : Int))), (2, .int (iZ 3))] C dX3_partOf_5 (by decide) rfl ?_
  refine v_aload_n 6 0 C dX3_partOf_6 rfl ?_
  refine v_ifnonnull 7 16 C dX3_partOf_7 (by decide) ?_
  refine v_iload_n 16 3 C dX3_partOf_16 rfl ?_
  refine v_tabIn 17 87 C (off := 70) dX3_partOf_17 (by decide) (by decide) (by decide) (by decide) ?_
  refine v_aload_n 87 0 C dX3_partOf_87 rfl ?_
  refine g_Pt_q 88 C (vp.o (vp_k hN hk)).1 (vp.o (vp_k hN hk)).2 lk_139 dX3_partOf_88 ?_
  refine v_eqi (iZ (b 4 (2 * k + 1))) ((hP.2.2.2.2.2 k hk).2.2.2.1) ?_
  exact v_iret 91 C (⟨rfl, S, t, rfl, hC, hE, hI, sameOn.rf⟩) dX3_partOf_91

set_option maxHeartbeats 4000000 in
set_option maxRecDepth 100000 in
theorem c_partOf_4 {l : Launch} {D : va_G} {kc : Nat → ClassId} {N : Nat} {ad : Nat → Nat} {S : St} {b : Bs} {t : Ts} (hg : vg N) (hN : N = 66 + 15 * bn b) (hI : Inv b) (hC : RC S b t) (hE : LE b t) {k : Nat} (hk : k < bn b) : MetK l yX3_partOf cX3_partOf 4 (some FieldType.int) 4 0 0 92 D kc (wl kc N ad S) [.ref (ad 0), .int (iZ (k : Int)), .int (iZ 4)] (QI D kc (wl kc N ad S) (cQ kc N ad S (poZ b k 4) (b))) := by
  refine MetK.of (by decide +kernel) (Nat.le_of_ble_eq_true rfl) ?_
  intro p e s m below meth c C
  have hA : ∀ q, s.heap.size ≤ q → va_A (wl kc N ad S) s.heap.size q := fun _ h => Or.inr h
  show V p l e { frames := 4, cells := 0, slots := 0, locals := 92 } s m ([.ref (ad 0), .int (iZ (k : Int)), .int (iZ 4)] : List Value).toArray below meth c (MQ below (QI D kc (wl kc N ad S) (cQ kc N ad S (poZ b k 4) (b)) s.heap.size) ([.ref (ad 0), .int (iZ (k : Int)), .int (iZ 4)] : List Value).toArray s 0 0 (va_A (wl kc N ad S) s.heap.size)) D (va_A (wl kc N ad S) s.heap.size) 4 0 0 (wl kc N ad S) 0 [(0, .ref (ad 0)), (1, .int (iZ (k : Int))), (2, .int (iZ 4))] []
  have hP := hC.1
  have hW := hC.2.1
  have hEn := hC.2.2.1
  have hR := hC.2.2.2
  have hb0 := hI.1
  have J := hI.2.2.2.1 k hk
  refine v_aload_n 0 0 C dX3_partOf_0 rfl ?_
  refine v_iload_n 1 1 C dX3_partOf_1 rfl ?_
  refine v_callq 2 hA (rV_Pg 2 C L_RX3_208 lk_248 lk_4 (m_partEver hg hN hI hP hk) (vg.o hg) rfl ⟨rfl, rfl⟩ (rm_ok rfl) dX3_partOf_2) (fun r1 w2 h3 => ?_)
  obtain ⟨e_r1, rfl⟩ := h3
  refine v_eqv (.ref (ad (66 + 15 * k))) (by rw [e_r1]; rfl) ?_
  refine v_astore_n 5 [(3, .ref (ad (66 + 15 * k))), (0, .ref (ad 0)), (1, .int (iZ (k : Int))), (2, .int (iZ 4))] C dX3_partOf_5 (by decide) rfl ?_
  refine v_aload_n 6 0 C dX3_partOf_6 rfl ?_
  refine v_ifnonnull 7 16 C dX3_partOf_7 (by decide) ?_
  refine v_iload_n 16 3 C dX3_partOf_16 rfl ?_
  refine v_tabIn 17 92 C (off := 75) dX3_partOf_17 (by decide) (by decide) (by decide) (by decide) ?_
  refine v_aload_n 92 0 C dX3_partOf_92 rfl ?_
  refine g_Pt_b 93 C (vp.o (vp_k hN hk)).1 (vp.o (vp_k hN hk)).2 lk_141 dX3_partOf_93 ?_
  refine v_eqi (iZ (b 5 (2 * k + 1))) ((hP.2.2.2.2.2 k hk).2.2.2.2.1) ?_
  exact v_iret 96 C (⟨rfl, S, t, rfl, hC, hE, hI, sameOn.rf⟩) dX3_partOf_96

set_option maxHeartbeats 4000000 in
set_option maxRecDepth 100000 in
theorem c_partOf_5 {l : Launch} {D : va_G} {kc : Nat → ClassId} {N : Nat} {ad : Nat → Nat} {S : St} {b : Bs} {t : Ts} (hg : vg N) (hN : N = 66 + 15 * bn b) (hI : Inv b) (hC : RC S b t) (hE : LE b t) {k : Nat} (hk : k < bn b) : MetK l yX3_partOf cX3_partOf 4 (some FieldType.int) 4 0 0 92 D kc (wl kc N ad S) [.ref (ad 0), .int (iZ (k : Int)), .int (iZ 5)] (QI D kc (wl kc N ad S) (cQ kc N ad S (poZ b k 5) (b))) := by
  refine MetK.of (by decide +kernel) (Nat.le_of_ble_eq_true rfl) ?_
  intro p e s m below meth c C
  have hA : ∀ q, s.heap.size ≤ q → va_A (wl kc N ad S) s.heap.size q := fun _ h => Or.inr h
  show V p l e { frames := 4, cells := 0, slots := 0, locals := 92 } s m ([.ref (ad 0), .int (iZ (k : Int)), .int (iZ 5)] : List Value).toArray below meth c (MQ below (QI D kc (wl kc N ad S) (cQ kc N ad S (poZ b k 5) (b)) s.heap.size) ([.ref (ad 0), .int (iZ (k : Int)), .int (iZ 5)] : List Value).toArray s 0 0 (va_A (wl kc N ad S) s.heap.size)) D (va_A (wl kc N ad S) s.heap.size) 4 0 0 (wl kc N ad S) 0 [(0, .ref (ad 0)), (1, .int (iZ (k : Int))), (2, .int (iZ 5))] []
  have hP := hC.1
  have hW := hC.2.1
  have hEn := hC.2.2.1
  have hR := hC.2.2.2
  have hb0 := hI.1
  have J := hI.2.2.2.1 k hk
  refine v_aload_n 0 0 C dX3_partOf_0 rfl ?_
  refine v_iload_n 1 1 C dX3_partOf_1 rfl ?_
  refine v_callq 2 hA (rV_Pg 2 C L_RX3_208 lk_248 lk_4 (m_partEver hg hN hI hP hk) (vg.o hg) rfl ⟨rfl, rfl⟩ (rm_ok rfl) dX3_partOf_2) (fun r1 w2 h3 => ?_)
  obtain ⟨e_r1, rfl⟩ := h3
  refine v_eqv (.ref (ad (66 + 15 * k))) (by rw [e_r1]; rfl) ?_
  refine v_astore_n 5 [(3, .ref (ad (66 + 15 * k))), (0, .ref (ad 0)), (1, .int (iZ (k : Int))), (2, .int (iZ 5))] C dX3_partOf_5 (by decide) rfl ?_
  refine v_aload_n 6 0 C dX3_partOf_6 rfl ?_
  refine v_ifnonnull 7 16 C dX3_partOf_7 (by decide) ?_
  refine v_iload_n 16 3 C dX3_partOf_16 rfl ?_
  refine v_tabIn 17 97 C (off := 80) dX3_partOf_17 (by decide) (by decide) (by decide) (by decide) ?_
  refine v_aload_n 97 0 C dX3_partOf_97 rfl ?_
  refine g_Pt_flatA 98 C (vp.o (vp_k hN hk)).1 (vp.o (vp_k hN hk)).2 lk_129 dX3_partOf_98 ?_
  refine g_Pl_size 101 C (vl.o (vp.fA (vp_k hN hk))).1 (vl.o (vp.fA (vp_k hN hk))).2 lk_110 dX3_partOf_101 ?_
  refine v_eqi (iZ (b 6 (2 * k))) ((hP.2.2.2.2.2 k hk).2.2.2.2.2.2.2.1) ?_
  exact v_iret 104 C (⟨rfl, S, t, rfl, hC, hE, hI, sameOn.rf⟩) dX3_partOf_104

set_option maxHeartbeats 4000000 in
set_option maxRecDepth 100000 in
theorem c_partOf_6 {l : Launch} {D : va_G} {kc : Nat → ClassId} {N : Nat} {ad : Nat → Nat} {S : St} {b : Bs} {t : Ts} (hg : vg N) (hN : N = 66 + 15 * bn b) (hI : Inv b) (hC : RC S b t) (hE : LE b t) {k : Nat} (hk : k < bn b) : MetK l yX3_partOf cX3_partOf 4 (some FieldType.int) 4 0 0 92 D kc (wl kc N ad S) [.ref (ad 0), .int (iZ (k : Int)), .int (iZ 6)] (QI D kc (wl kc N ad S) (cQ kc N ad S (poZ b k 6) (b))) := by
  refine MetK.of (by decide +kernel) (Nat.le_of_ble_eq_true rfl) ?_
  intro p e s m below meth c C
  have hA : ∀ q, s.heap.size ≤ q → va_A (wl kc N ad S) s.heap.size q := fun _ h => Or.inr h
  show V p l e { frames := 4, cells := 0, slots := 0, locals := 92 } s m ([.ref (ad 0), .int (iZ (k : Int)), .int (iZ 6)] : List Value).toArray below meth c (MQ below (QI D kc (wl kc N ad S) (cQ kc N ad S (poZ b k 6) (b)) s.heap.size) ([.ref (ad 0), .int (iZ (k : Int)), .int (iZ 6)] : List Value).toArray s 0 0 (va_A (wl kc N ad S) s.heap.size)) D (va_A (wl kc N ad S) s.heap.size) 4 0 0 (wl kc N ad S) 0 [(0, .ref (ad 0)), (1, .int (iZ (k : Int))), (2, .int (iZ 6))] []
  have hP := hC.1
  have hW := hC.2.1
  have hEn := hC.2.2.1
  have hR := hC.2.2.2
  have hb0 := hI.1
  have J := hI.2.2.2.1 k hk
  refine v_aload_n 0 0 C dX3_partOf_0 rfl ?_
  refine v_iload_n 1 1 C dX3_partOf_1 rfl ?_
  refine v_callq 2 hA (rV_Pg 2 C L_RX3_208 lk_248 lk_4 (m_partEver hg hN hI hP hk) (vg.o hg) rfl ⟨rfl, rfl⟩ (rm_ok rfl) dX3_partOf_2) (fun r1 w2 h3 => ?_)
  obtain ⟨e_r1, rfl⟩ := h3
  refine v_eqv (.ref (ad (66 + 15 * k))) (by rw [e_r1]; rfl) ?_
  refine v_astore_n 5 [(3, .ref (ad (66 + 15 * k))), (0, .ref (ad 0)), (1, .int (iZ (k : Int))), (2, .int (iZ 6))] C dX3_partOf_5 (by decide) rfl ?_
  refine v_aload_n 6 0 C dX3_partOf_6 rfl ?_
  refine v_ifnonnull 7 16 C dX3_partOf_7 (by decide) ?_
  refine v_iload_n 16 3 C dX3_partOf_16 rfl ?_
  refine v_tabIn 17 105 C (off := 88) dX3_partOf_17 (by decide) (by decide) (by decide) (by decide) ?_
  refine v_aload_n 105 0 C dX3_partOf_105 rfl ?_
  refine g_Pt_flatB 106 C (vp.o (vp_k hN hk)).1 (vp.o (vp_k hN hk)).2 lk_131 dX3_partOf_106 ?_
  refine g_Pl_size 109 C (vl.o (vp.fB (vp_k hN hk))).1 (vl.o (vp.fB (vp_k hN hk))).2 lk_110 dX3_partOf_109 ?_
  refine v_eqi (iZ (b 6 (2 * k + 1))) ((hP.2.2.2.2.2 k hk).2.2.2.2.2.2.2.2) ?_
  exact v_iret 112 C (⟨rfl, S, t, rfl, hC, hE, hI, sameOn.rf⟩) dX3_partOf_112

set_option maxHeartbeats 4000000 in
set_option maxRecDepth 100000 in
theorem c_partOf_7 {l : Launch} {D : va_G} {kc : Nat → ClassId} {N : Nat} {ad : Nat → Nat} {S : St} {b : Bs} {t : Ts} (hg : vg N) (hN : N = 66 + 15 * bn b) (hI : Inv b) (hC : RC S b t) (hE : LE b t) {k : Nat} (hk : k < bn b) : MetK l yX3_partOf cX3_partOf 4 (some FieldType.int) 4 0 0 92 D kc (wl kc N ad S) [.ref (ad 0), .int (iZ (k : Int)), .int (iZ 7)] (QI D kc (wl kc N ad S) (cQ kc N ad S (poZ b k 7) (b))) := by
  refine MetK.of (by decide +kernel) (Nat.le_of_ble_eq_true rfl) ?_
  intro p e s m below meth c C
  have hA : ∀ q, s.heap.size ≤ q → va_A (wl kc N ad S) s.heap.size q := fun _ h => Or.inr h
  show V p l e { frames := 4, cells := 0, slots := 0, locals := 92 } s m ([.ref (ad 0), .int (iZ (k : Int)), .int (iZ 7)] : List Value).toArray below meth c (MQ below (QI D kc (wl kc N ad S) (cQ kc N ad S (poZ b k 7) (b)) s.heap.size) ([.ref (ad 0), .int (iZ (k : Int)), .int (iZ 7)] : List Value).toArray s 0 0 (va_A (wl kc N ad S) s.heap.size)) D (va_A (wl kc N ad S) s.heap.size) 4 0 0 (wl kc N ad S) 0 [(0, .ref (ad 0)), (1, .int (iZ (k : Int))), (2, .int (iZ 7))] []
  have hP := hC.1
  have hW := hC.2.1
  have hEn := hC.2.2.1
  have hR := hC.2.2.2
  have hb0 := hI.1
  have J := hI.2.2.2.1 k hk
  refine v_aload_n 0 0 C dX3_partOf_0 rfl ?_
  refine v_iload_n 1 1 C dX3_partOf_1 rfl ?_
  refine v_callq 2 hA (rV_Pg 2 C L_RX3_208 lk_248 lk_4 (m_partEver hg hN hI hP hk) (vg.o hg) rfl ⟨rfl, rfl⟩ (rm_ok rfl) dX3_partOf_2) (fun r1 w2 h3 => ?_)
  obtain ⟨e_r1, rfl⟩ := h3
  refine v_eqv (.ref (ad (66 + 15 * k))) (by rw [e_r1]; rfl) ?_
  refine v_astore_n 5 [(3, .ref (ad (66 + 15 * k))), (0, .ref (ad 0)), (1, .int (iZ (k : Int))), (2, .int (iZ 7))] C dX3_partOf_5 (by decide) rfl ?_
  refine v_aload_n 6 0 C dX3_partOf_6 rfl ?_
  refine v_ifnonnull 7 16 C dX3_partOf_7 (by decide) ?_
  refine v_iload_n 16 3 C dX3_partOf_16 rfl ?_
  refine v_tabIn 17 113 C (off := 96) dX3_partOf_17 (by decide) (by decide) (by decide) (by decide) ?_
  refine v_aload_n 113 0 C dX3_partOf_113 rfl ?_
  refine g_Pt_leftward 114 C (vp.o (vp_k hN hk)).1 (vp.o (vp_k hN hk)).2 lk_142 dX3_partOf_114 ?_
  refine v_eqi (iZ (b 7 k)) ((hP.2.2.2.2.2 k hk).2.2.2.2.2.1) ?_
  refine z_if_eq 117 124 C (by first | assumption | exact ⟨by omega, by omega⟩) dX3_partOf_117 (by decide) (fun c117_0 => ?_) (fun c117_0 => ?_)
  · skip
    refine v_iconst 124 C (iZ 0) dX3_partOf_124 rfl ?_
    exact v_iret 125 C (⟨congrArg iZ (by show _ = b 7 k; omega), S, t, rfl, hC, hE, hI, sameOn.rf⟩) dX3_partOf_125
  · skip
    refine v_iconst 120 C (iZ 1) dX3_partOf_120 rfl ?_
    refine v_goto 121 125 C dX3_partOf_121 (by decide) ?_
    exact v_iret 125 C (⟨congrArg iZ (by show _ = b 7 k; omega), S, t, rfl, hC, hE, hI, sameOn.rf⟩) dX3_partOf_125

set_option maxHeartbeats 4000000 in
set_option maxRecDepth 100000 in
theorem c_partOf_8 {l : Launch} {D : va_G} {kc : Nat → ClassId} {N : Nat} {ad : Nat → Nat} {S : St} {b : Bs} {t : Ts} (hg : vg N) (hN : N = 66 + 15 * bn b) (hI : Inv b) (hC : RC S b t) (hE : LE b t) {k : Nat} (hk : k < bn b) : MetK l yX3_partOf cX3_partOf 4 (some FieldType.int) 4 0 0 92 D kc (wl kc N ad S) [.ref (ad 0), .int (iZ (k : Int)), .int (iZ 8)] (QI D kc (wl kc N ad S) (cQ kc N ad S (poZ b k 8) (b))) := by
  refine MetK.of (by decide +kernel) (Nat.le_of_ble_eq_true rfl) ?_
  intro p e s m below meth c C
  have hA : ∀ q, s.heap.size ≤ q → va_A (wl kc N ad S) s.heap.size q := fun _ h => Or.inr h
  show V p l e { frames := 4, cells := 0, slots := 0, locals := 92 } s m ([.ref (ad 0), .int (iZ (k : Int)), .int (iZ 8)] : List Value).toArray below meth c (MQ below (QI D kc (wl kc N ad S) (cQ kc N ad S (poZ b k 8) (b)) s.heap.size) ([.ref (ad 0), .int (iZ (k : Int)), .int (iZ 8)] : List Value).toArray s 0 0 (va_A (wl kc N ad S) s.heap.size)) D (va_A (wl kc N ad S) s.heap.size) 4 0 0 (wl kc N ad S) 0 [(0, .ref (ad 0)), (1, .int (iZ (k : Int))), (2, .int (iZ 8))] []
  have hP := hC.1
  have hW := hC.2.1
  have hEn := hC.2.2.1
  have hR := hC.2.2.2
  have hb0 := hI.1
  have J := hI.2.2.2.1 k hk
  refine v_aload_n 0 0 C dX3_partOf_0 rfl ?_
  refine v_iload_n 1 1 C dX3_partOf_1 rfl ?_
  refine v_callq 2 hA (rV_Pg 2 C L_RX3_208 lk_248 lk_4 (m_partEver hg hN hI hP hk) (vg.o hg) rfl ⟨rfl, rfl⟩ (rm_ok rfl) dX3_partOf_2) (fun r1 w2 h3 => ?_)
  obtain ⟨e_r1, rfl⟩ := h3
  refine v_eqv (.ref (ad (66 + 15 * k))) (by rw [e_r1]; rfl) ?_
  refine v_astore_n 5 [(3, .ref (ad (66 + 15 * k))), (0, .ref (ad 0)), (1, .int (iZ (k : Int))), (2, .int (iZ 8))] C dX3_partOf_5 (by decide) rfl ?_
  refine v_aload_n 6 0 C dX3_partOf_6 rfl ?_
  refine v_ifnonnull 7 16 C dX3_partOf_7 (by decide) ?_
  refine v_iload_n 16 3 C dX3_partOf_16 rfl ?_
  refine v_tabIn 17 126 C (off := 109) dX3_partOf_17 (by decide) (by decide) (by decide) (by decide) ?_
  refine v_aload_n 126 0 C dX3_partOf_126 rfl ?_
  refine g_Pt_there 127 C (vp.o (vp_k hN hk)).1 (vp.o (vp_k hN hk)).2 lk_144 dX3_partOf_127 ?_
  refine v_eqi (iZ (b 8 k)) ((hP.2.2.2.2.2 k hk).2.2.2.2.2.2.1) ?_
  refine z_if_eq 130 137 C (by first | assumption | exact ⟨by omega, by omega⟩) dX3_partOf_130 (by decide) (fun c130_0 => ?_) (fun c130_0 => ?_)
  · skip
    refine v_iconst 137 C (iZ 0) dX3_partOf_137 rfl ?_
    exact v_iret 138 C (⟨congrArg iZ (by show _ = b 8 k; omega), S, t, rfl, hC, hE, hI, sameOn.rf⟩) dX3_partOf_138
  · skip
    refine v_iconst 133 C (iZ 1) dX3_partOf_133 rfl ?_
    refine v_goto 134 138 C dX3_partOf_134 (by decide) ?_
    exact v_iret 138 C (⟨congrArg iZ (by show _ = b 8 k; omega), S, t, rfl, hC, hE, hI, sameOn.rf⟩) dX3_partOf_138

set_option maxHeartbeats 4000000 in
set_option maxRecDepth 100000 in
theorem c_partOf_9 {l : Launch} {D : va_G} {kc : Nat → ClassId} {N : Nat} {ad : Nat → Nat} {S : St} {b : Bs} {t : Ts} (hg : vg N) (hN : N = 66 + 15 * bn b) (hI : Inv b) (hC : RC S b t) (hE : LE b t) {k : Nat} (hk : k < bn b) : MetK l yX3_partOf cX3_partOf 4 (some FieldType.int) 4 0 0 92 D kc (wl kc N ad S) [.ref (ad 0), .int (iZ (k : Int)), .int (iZ 9)] (QI D kc (wl kc N ad S) (cQ kc N ad S (poZ b k 9) (b))) := by
  refine MetK.of (by decide +kernel) (Nat.le_of_ble_eq_true rfl) ?_
  intro p e s m below meth c C
  have hA : ∀ q, s.heap.size ≤ q → va_A (wl kc N ad S) s.heap.size q := fun _ h => Or.inr h
  show V p l e { frames := 4, cells := 0, slots := 0, locals := 92 } s m ([.ref (ad 0), .int (iZ (k : Int)), .int (iZ 9)] : List Value).toArray below meth c (MQ below (QI D kc (wl kc N ad S) (cQ kc N ad S (poZ b k 9) (b)) s.heap.size) ([.ref (ad 0), .int (iZ (k : Int)), .int (iZ 9)] : List Value).toArray s 0 0 (va_A (wl kc N ad S) s.heap.size)) D (va_A (wl kc N ad S) s.heap.size) 4 0 0 (wl kc N ad S) 0 [(0, .ref (ad 0)), (1, .int (iZ (k : Int))), (2, .int (iZ 9))] []
  have hP := hC.1
  have hW := hC.2.1
  have hEn := hC.2.2.1
  have hR := hC.2.2.2
  have hb0 := hI.1
  have J := hI.2.2.2.1 k hk
  refine v_aload_n 0 0 C dX3_partOf_0 rfl ?_
  refine v_iload_n 1 1 C dX3_partOf_1 rfl ?_
  refine v_callq 2 hA (rV_Pg 2 C L_RX3_208 lk_248 lk_4 (m_partEver hg hN hI hP hk) (vg.o hg) rfl ⟨rfl, rfl⟩ (rm_ok rfl) dX3_partOf_2) (fun r1 w2 h3 => ?_)
  obtain ⟨e_r1, rfl⟩ := h3
  refine v_eqv (.ref (ad (66 + 15 * k))) (by rw [e_r1]; rfl) ?_
  refine v_astore_n 5 [(3, .ref (ad (66 + 15 * k))), (0, .ref (ad 0)), (1, .int (iZ (k : Int))), (2, .int (iZ 9))] C dX3_partOf_5 (by decide) rfl ?_
  refine v_aload_n 6 0 C dX3_partOf_6 rfl ?_
  refine v_ifnonnull 7 16 C dX3_partOf_7 (by decide) ?_
  refine v_iload_n 16 3 C dX3_partOf_16 rfl ?_
  refine v_tabIn 17 139 C (off := 122) dX3_partOf_17 (by decide) (by decide) (by decide) (by decide) ?_
  refine v_aload_n 139 1 C dX3_partOf_139 rfl ?_
  refine v_iload_n 140 2 C dX3_partOf_140 rfl ?_
  refine v_calli 141 hA (rV_Pg 141 C L_RX3_94 lk_340 lk_13 (m_hangingOn hg hN hI hP hk) (vg.o hg) rfl ⟨rfl, rfl⟩ (rm_ok rfl) dX3_partOf_141) (fun r4 w5 h6 => ?_)
  obtain ⟨e_r4, rfl⟩ := h6
  refine v_eqi (iZ (hangN b k)) (e_r4) ?_
  exact v_iret 144 C (⟨rfl, S, t, rfl, hC, hE, hI, sameOn.rf⟩) dX3_partOf_144

def stP (b : Bs) (t : Ts) (i : Nat) : Bool := decide (b 8 i = 1) && decide (¬ fsZ (t 4 i) = -9)
def stC (b : Bs) (t : Ts) : Int := cnt (stP b t) (bn b)
theorem fsZ_b (k : Nat → Int) : r32 (fsZ k) := by
  rcases fsF_b k 17 0 with h | h
  · unfold fsZ; rw [h]; decide
  · unfold fsZ; exact ⟨by omega, by omega⟩
set_option maxHeartbeats 4000000 in
set_option maxRecDepth 100000 in
theorem m_partsStuck {l : Launch} {D : va_G} {kc : Nat → ClassId} {N : Nat} {ad : Nat → Nat} {S : St} {b : Bs} (hg : vg N) (hN : N = 66 + 15 * bn b) (hI : Inv b) (hP : RP S b) {t : Ts} (hR : RTk S b t (bn b)) (hE : LE b t) : MetK l yX3_partsStuck cX3_partsStuck 4 (some FieldType.int) 3 0 0 67 D kc (wl kc N ad S) [.ref (ad 0)] (QI D kc (wl kc N ad S) (fun r ws' => r = iZ (stC b t) ∧ ws' = wl kc N ad S)) := by
  refine MetK.of (by decide +kernel) (Nat.le_of_ble_eq_true rfl) ?_
  intro p e s m below meth c C
  have hA : ∀ q, s.heap.size ≤ q → va_A (wl kc N ad S) s.heap.size q := fun _ h => Or.inr h
  show V p l e { frames := 3, cells := 0, slots := 0, locals := 67 } s m ([.ref (ad 0)] : List Value).toArray below meth c (MQ below (QI D kc (wl kc N ad S) (fun r ws' => r = iZ (stC b t) ∧ ws' = wl kc N ad S) s.heap.size) ([.ref (ad 0)] : List Value).toArray s 0 0 (va_A (wl kc N ad S) s.heap.size)) D (va_A (wl kc N ad S) s.heap.size) 4 0 0 (wl kc N ad S) 0 [(0, .ref (ad 0))] []
  have hb0 := hI.1
  have loop : ∀ (d : Nat) (i : Nat), i + d = bn b → V p l e { frames := 3, cells := 0, slots := 0, locals := 67 } s m ([.ref (ad 0)] : List Value).toArray below meth c (MQ below (QI D kc (wl kc N ad S) (fun r ws' => r = iZ (stC b t) ∧ ws' = wl kc N ad S) s.heap.size) ([.ref (ad 0)] : List Value).toArray s 0 0 (va_A (wl kc N ad S) s.heap.size)) D (va_A (wl kc N ad S) s.heap.size) 4 0 0 (wl kc N ad S) 4 [(2, .int (iZ (i : Int))), (1, .int (iZ (cnt (stP b t) i))), (0, .ref (ad 0))] [] := by
    intro d
    induction d with
    | zero =>
      intro i hi
      have hcb := cnt_b (stP b t) i
      refine v_iload_n 4 0 C dX3_partsStuck_4 rfl ?_
      refine v_aload_n 5 2 C dX3_partsStuck_5 rfl ?_
      refine g_Pg_made 6 C (vg.o hg).1 (vg.o hg).2 lk_216 dX3_partsStuck_6 ?_
      refine v_eqi (iZ (b 0 0)) (hP.1.2.2) ?_
      refine z_icmp_ge 9 43 C (by first | assumption | exact ⟨by omega, by omega⟩) (by first | assumption | exact ⟨by omega, by omega⟩) dX3_partsStuck_9 (by decide) (fun c9_0 => ?_) (fun c9_0 => absurd (by omega) c9_0)
      refine v_iload_n 43 1 C dX3_partsStuck_43 rfl ?_
      exact v_iret 44 C (⟨by rw [show i = bn b by omega]; rfl, rfl⟩) dX3_partsStuck_44
    | succ d ih =>
      intro i hi
      by_cases ht : b 8 i = 1
      · skip
        have hcb := cnt_b (stP b t) i
        have hi2 : i < bn b := by omega
        have hfs := fsZ_b (t 4 i)
        refine v_iload_n 4 0 C dX3_partsStuck_4 rfl ?_
        refine v_aload_n 5 2 C dX3_partsStuck_5 rfl ?_
        refine g_Pg_made 6 C (vg.o hg).1 (vg.o hg).2 lk_216 dX3_partsStuck_6 ?_
        refine v_eqi (iZ (b 0 0)) (hP.1.2.2) ?_
        refine z_icmp_ge 9 43 C (by first | assumption | exact ⟨by omega, by omega⟩) (by first | assumption | exact ⟨by omega, by omega⟩) dX3_partsStuck_9 (by decide) (fun c9_0 => absurd c9_0 (by omega)) (fun c9_0 => ?_)
        refine v_aload_n 12 2 C dX3_partsStuck_12 rfl ?_
        refine v_iload_n 13 0 C dX3_partsStuck_13 rfl ?_
        refine v_callq 14 hA (rV_Pg 14 C L_RX3_90 lk_244 lk_3 (m_partThere hg hN hI hP hi2 ht) (vg.o hg) rfl ⟨rfl, rfl⟩ (rm_ok rfl) dX3_partsStuck_14) (fun r1 w2 h3 => ?_)
        obtain ⟨e_r1, rfl⟩ := h3
        refine v_eqv (.ref (ad (66 + 15 * i))) (by rw [e_r1]; rfl) ?_
        refine v_astore_n 17 [(3, .ref (ad (66 + 15 * i))), (2, .int (iZ (i : Int))), (1, .int (iZ (cnt (stP b t) i))), (0, .ref (ad 0))] C dX3_partsStuck_17 (by decide) rfl ?_
        refine v_aload_n 18 0 C dX3_partsStuck_18 rfl ?_
        refine v_ifnull 19 C dX3_partsStuck_19 ?_
        refine v_aload_n 22 0 C dX3_partsStuck_22 rfl ?_
        refine g_Pt_crease 23 C (vp.o (vp_k hN hi2)).1 (vp.o (vp_k hN hi2)).2 lk_127 dX3_partsStuck_23 ?_
        refine v_calli 26 hA (rV_Tr 26 C L_RX3_152 lk_402 lk_403 (m_firstStuck (vp.C (vp_k hN hi2)) (sk := t 4 i) (fun j hj => ⟨cr_s hR hi2 ht hj, cr_01 hE hi2 ht hj⟩)) (vt.o (vp.C (vp_k hN hi2))) rfl ⟨rfl, rfl⟩ (rm_ok rfl) dX3_partsStuck_26) (fun r4 w5 h6 => ?_)
        obtain ⟨e_r4, rfl⟩ := h6
        refine v_eqi (iZ (fsZ (t 4 i))) (e_r4) ?_
        refine v_bipush 29 C (iZ (-9)) dX3_partsStuck_29 (by decide) ?_
        refine z_icmp_eq 31 37 C (by first | assumption | exact ⟨by omega, by omega⟩) (by first | assumption | exact ⟨by omega, by omega⟩) dX3_partsStuck_31 (by decide) (fun c31_1 => ?_) (fun c31_1 => ?_)
        · skip
          refine v_iinc 37 1 (iZ ((i + 1 : Nat) : Int)) [(2, .int (iZ ((i + 1 : Nat) : Int))), (3, .ref (ad (66 + 15 * i))), (1, .int (iZ (cnt (stP b t) i))), (0, .ref (ad 0))] C dX3_partsStuck_37 rfl (iZ_add _ _) (by decide) rfl ?_
          refine v_goto 40 4 C dX3_partsStuck_40 (by decide) ?_
          refine v_sub [0, 2, 3] rfl ?_
          have q := ih (i + 1) (by omega)
          rw [cnt_F (P := stP b t) (by unfold stP; rw [c31_1]; simp)] at q
          exact q
        · skip
          refine v_iinc 34 2 (iZ ((cnt (stP b t) i) + 1)) [(1, .int (iZ ((cnt (stP b t) i) + 1))), (3, .ref (ad (66 + 15 * i))), (2, .int (iZ (i : Int))), (0, .ref (ad 0))] C dX3_partsStuck_34 rfl (iZ_add _ _) (by decide) rfl ?_
          refine v_iinc 37 2 (iZ ((i + 1 : Nat) : Int)) [(2, .int (iZ ((i + 1 : Nat) : Int))), (1, .int (iZ ((cnt (stP b t) i) + 1))), (3, .ref (ad (66 + 15 * i))), (0, .ref (ad 0))] C dX3_partsStuck_37 rfl (iZ_add _ _) (by decide) rfl ?_
          refine v_goto 40 4 C dX3_partsStuck_40 (by decide) ?_
          refine v_sub [0, 1, 3] rfl ?_
          have q := ih (i + 1) (by omega)
          rw [cnt_T (P := stP b t) (by unfold stP; rw [decide_eq_true ht, decide_eq_true c31_1]; rfl)] at q
          exact q
      · skip
        have hcb := cnt_b (stP b t) i
        have hi2 : i < bn b := by omega
        refine v_iload_n 4 0 C dX3_partsStuck_4 rfl ?_
        refine v_aload_n 5 2 C dX3_partsStuck_5 rfl ?_
        refine g_Pg_made 6 C (vg.o hg).1 (vg.o hg).2 lk_216 dX3_partsStuck_6 ?_
        refine v_eqi (iZ (b 0 0)) (hP.1.2.2) ?_
        refine z_icmp_ge 9 43 C (by first | assumption | exact ⟨by omega, by omega⟩) (by first | assumption | exact ⟨by omega, by omega⟩) dX3_partsStuck_9 (by decide) (fun c9_0 => absurd c9_0 (by omega)) (fun c9_0 => ?_)
        refine v_aload_n 12 2 C dX3_partsStuck_12 rfl ?_
        refine v_iload_n 13 0 C dX3_partsStuck_13 rfl ?_
        refine v_callq 14 hA (rV_Pg 14 C L_RX3_90 lk_244 lk_3 (m_partThere_no (z := (i : Int)) hg hN hI hP ⟨by omega, by omega⟩ (fun q => ht q.2.2)) (vg.o hg) rfl ⟨rfl, rfl⟩ (rm_ok rfl) dX3_partsStuck_14) (fun r7 w8 h9 => ?_)
        obtain ⟨e_r7, rfl⟩ := h9
        refine v_eqv .null (by rw [e_r7]; rfl) ?_
        refine v_astore_nN 17 [(3, .null), (2, .int (iZ (i : Int))), (1, .int (iZ (cnt (stP b t) i))), (0, .ref (ad 0))] C dX3_partsStuck_17 (by decide) rfl ?_
        refine v_aload_nN 18 0 C dX3_partsStuck_18 rfl ?_
        refine v_ifnullN 19 37 C dX3_partsStuck_19 (by decide) ?_
        refine v_iinc 37 1 (iZ ((i + 1 : Nat) : Int)) [(2, .int (iZ ((i + 1 : Nat) : Int))), (3, .null), (1, .int (iZ (cnt (stP b t) i))), (0, .ref (ad 0))] C dX3_partsStuck_37 rfl (iZ_add _ _) (by decide) rfl ?_
        refine v_goto 40 4 C dX3_partsStuck_40 (by decide) ?_
        refine v_sub [0, 2, 3] rfl ?_
        have q := ih (i + 1) (by omega)
        rw [cnt_F (P := stP b t) (by unfold stP; rw [decide_eq_false ht]; rfl)] at q
        exact q
  refine v_iconst 0 C (iZ 0) dX3_partsStuck_0 rfl ?_
  refine v_istore_n 1 [(1, .int (iZ 0)), (0, .ref (ad 0))] C dX3_partsStuck_1 (by decide) rfl ?_
  refine v_iconst 2 C (iZ 0) dX3_partsStuck_2 rfl ?_
  refine v_istore_n 3 [(2, .int (iZ 0)), (1, .int (iZ 0)), (0, .ref (ad 0))] C dX3_partsStuck_3 (by decide) rfl ?_
  refine v_sub [0, 1, 2] rfl ?_
  exact loop (bn b) 0 (by omega)

def coZ (b : Bs) (t : Ts) (w : Nat) : Int := match w with | 0 => b 1 0 | 1 => b 0 0 | 2 => thC b | 3 => bz (decide (outN b t 0 = 0)) | 4 => stC b t | 11 => b 9 1 | 12 => b 9 2 | 13 => b 9 3 | 14 => b 9 4 | 15 => b 9 5 | 16 => b 9 6 | _ => -9
theorem outN_b (b : Bs) (t : Ts) (j : Nat) (hI : Inv b) : r32 (outN b t j) := by
  unfold outN
  have h := cnt_b (outP b t j) (bn b)
  have h2 := hI.1.2
  split
  · exact ⟨by omega, by omega⟩
  · decide
set_option maxHeartbeats 4000000 in
set_option maxRecDepth 100000 in
theorem c_count_0 {l : Launch} {D : va_G} {kc : Nat → ClassId} {N : Nat} {ad : Nat → Nat} {S : St} {b : Bs} {t : Ts} (hg : vg N) (hN : N = 66 + 15 * bn b) (hI : Inv b) (hC : RC S b t) (hE : LE b t)  : MetK l yX3_count cX3_count 2 (some FieldType.int) 4 0 0 93 D kc (wl kc N ad S) [.ref (ad 0), .int (iZ 0)] (QI D kc (wl kc N ad S) (cQ kc N ad S (coZ b t 0) (b))) := by
  refine MetK.of (by decide +kernel) (Nat.le_of_ble_eq_true rfl) ?_
  intro p e s m below meth c C
  have hA : ∀ q, s.heap.size ≤ q → va_A (wl kc N ad S) s.heap.size q := fun _ h => Or.inr h
  show V p l e { frames := 4, cells := 0, slots := 0, locals := 93 } s m ([.ref (ad 0), .int (iZ 0)] : List Value).toArray below meth c (MQ below (QI D kc (wl kc N ad S) (cQ kc N ad S (coZ b t 0) (b)) s.heap.size) ([.ref (ad 0), .int (iZ 0)] : List Value).toArray s 0 0 (va_A (wl kc N ad S) s.heap.size)) D (va_A (wl kc N ad S) s.heap.size) 2 0 0 (wl kc N ad S) 0 [(0, .ref (ad 0)), (1, .int (iZ 0))] []
  have hP := hC.1
  have hW := hC.2.1
  have hEn := hC.2.2.1
  have hR := hC.2.2.2
  have hb0 := hI.1
  refine v_iload_n 0 1 C dX3_count_0 rfl ?_
  refine v_tabIn 1 84 C (off := 83) dX3_count_1 (by decide) (by decide) (by decide) (by decide) ?_
  refine v_aload_n 84 0 C dX3_count_84 rfl ?_
  refine g_Pg_pageWidth 85 C (vg.o hg).1 (vg.o hg).2 lk_214 dX3_count_85 ?_
  refine v_eqi (iZ (b 1 0)) (hP.1.1) ?_
  exact v_iret 88 C (⟨rfl, S, t, rfl, hC, hE, hI, sameOn.rf⟩) dX3_count_88

set_option maxHeartbeats 4000000 in
set_option maxRecDepth 100000 in
theorem c_count_1 {l : Launch} {D : va_G} {kc : Nat → ClassId} {N : Nat} {ad : Nat → Nat} {S : St} {b : Bs} {t : Ts} (hg : vg N) (hN : N = 66 + 15 * bn b) (hI : Inv b) (hC : RC S b t) (hE : LE b t)  : MetK l yX3_count cX3_count 2 (some FieldType.int) 4 0 0 93 D kc (wl kc N ad S) [.ref (ad 0), .int (iZ 1)] (QI D kc (wl kc N ad S) (cQ kc N ad S (coZ b t 1) (b))) := by
  refine MetK.of (by decide +kernel) (Nat.le_of_ble_eq_true rfl) ?_
  intro p e s m below meth c C
  have hA : ∀ q, s.heap.size ≤ q → va_A (wl kc N ad S) s.heap.size q := fun _ h => Or.inr h
  show V p l e { frames := 4, cells := 0, slots := 0, locals := 93 } s m ([.ref (ad 0), .int (iZ 1)] : List Value).toArray below meth c (MQ below (QI D kc (wl kc N ad S) (cQ kc N ad S (coZ b t 1) (b)) s.heap.size) ([.ref (ad 0), .int (iZ 1)] : List Value).toArray s 0 0 (va_A (wl kc N ad S) s.heap.size)) D (va_A (wl kc N ad S) s.heap.size) 2 0 0 (wl kc N ad S) 0 [(0, .ref (ad 0)), (1, .int (iZ 1))] []
  have hP := hC.1
  have hW := hC.2.1
  have hEn := hC.2.2.1
  have hR := hC.2.2.2
  have hb0 := hI.1
  refine v_iload_n 0 1 C dX3_count_0 rfl ?_
  refine v_tabIn 1 89 C (off := 88) dX3_count_1 (by decide) (by decide) (by decide) (by decide) ?_
  refine v_aload_n 89 0 C dX3_count_89 rfl ?_
  refine g_Pg_made 90 C (vg.o hg).1 (vg.o hg).2 lk_216 dX3_count_90 ?_
  refine v_eqi (iZ (b 0 0)) (hP.1.2.2) ?_
  exact v_iret 93 C (⟨rfl, S, t, rfl, hC, hE, hI, sameOn.rf⟩) dX3_count_93

set_option maxHeartbeats 4000000 in
set_option maxRecDepth 100000 in
theorem c_count_2 {l : Launch} {D : va_G} {kc : Nat → ClassId} {N : Nat} {ad : Nat → Nat} {S : St} {b : Bs} {t : Ts} (hg : vg N) (hN : N = 66 + 15 * bn b) (hI : Inv b) (hC : RC S b t) (hE : LE b t)  : MetK l yX3_count cX3_count 2 (some FieldType.int) 4 0 0 93 D kc (wl kc N ad S) [.ref (ad 0), .int (iZ 2)] (QI D kc (wl kc N ad S) (cQ kc N ad S (coZ b t 2) (b))) := by
  refine MetK.of (by decide +kernel) (Nat.le_of_ble_eq_true rfl) ?_
  intro p e s m below meth c C
  have hA : ∀ q, s.heap.size ≤ q → va_A (wl kc N ad S) s.heap.size q := fun _ h => Or.inr h
  show V p l e { frames := 4, cells := 0, slots := 0, locals := 93 } s m ([.ref (ad 0), .int (iZ 2)] : List Value).toArray below meth c (MQ below (QI D kc (wl kc N ad S) (cQ kc N ad S (coZ b t 2) (b)) s.heap.size) ([.ref (ad 0), .int (iZ 2)] : List Value).toArray s 0 0 (va_A (wl kc N ad S) s.heap.size)) D (va_A (wl kc N ad S) s.heap.size) 2 0 0 (wl kc N ad S) 0 [(0, .ref (ad 0)), (1, .int (iZ 2))] []
  have hP := hC.1
  have hW := hC.2.1
  have hEn := hC.2.2.1
  have hR := hC.2.2.2
  have hb0 := hI.1
  refine v_iload_n 0 1 C dX3_count_0 rfl ?_
  refine v_tabIn 1 94 C (off := 93) dX3_count_1 (by decide) (by decide) (by decide) (by decide) ?_
  refine v_aload_n 94 0 C dX3_count_94 rfl ?_
  refine v_calli 95 hA (rV_Pg 95 C L_RX3_58 lk_240 lk_2 (m_partsThere hg hN hI hP) (vg.o hg) rfl ⟨rfl, rfl⟩ (rm_ok rfl) dX3_count_95) (fun r1 w2 h3 => ?_)
  obtain ⟨e_r1, rfl⟩ := h3
  refine v_eqi (iZ (thC b)) (e_r1) ?_
  exact v_iret 98 C (⟨rfl, S, t, rfl, hC, hE, hI, sameOn.rf⟩) dX3_count_98

set_option maxHeartbeats 4000000 in
set_option maxRecDepth 100000 in
theorem c_count_3 {l : Launch} {D : va_G} {kc : Nat → ClassId} {N : Nat} {ad : Nat → Nat} {S : St} {b : Bs} {t : Ts} (hg : vg N) (hN : N = 66 + 15 * bn b) (hI : Inv b) (hC : RC S b t) (hE : LE b t)  : MetK l yX3_count cX3_count 2 (some FieldType.int) 4 0 0 93 D kc (wl kc N ad S) [.ref (ad 0), .int (iZ 3)] (QI D kc (wl kc N ad S) (cQ kc N ad S (coZ b t 3) (b))) := by
  refine MetK.of (by decide +kernel) (Nat.le_of_ble_eq_true rfl) ?_
  intro p e s m below meth c C
  have hA : ∀ q, s.heap.size ≤ q → va_A (wl kc N ad S) s.heap.size q := fun _ h => Or.inr h
  show V p l e { frames := 4, cells := 0, slots := 0, locals := 93 } s m ([.ref (ad 0), .int (iZ 3)] : List Value).toArray below meth c (MQ below (QI D kc (wl kc N ad S) (cQ kc N ad S (coZ b t 3) (b)) s.heap.size) ([.ref (ad 0), .int (iZ 3)] : List Value).toArray s 0 0 (va_A (wl kc N ad S) s.heap.size)) D (va_A (wl kc N ad S) s.heap.size) 2 0 0 (wl kc N ad S) 0 [(0, .ref (ad 0)), (1, .int (iZ 3))] []
  have hP := hC.1
  have hW := hC.2.1
  have hEn := hC.2.2.1
  have hR := hC.2.2.2
  have hb0 := hI.1
  refine v_iload_n 0 1 C dX3_count_0 rfl ?_
  refine v_tabIn 1 99 C (off := 98) dX3_count_1 (by decide) (by decide) (by decide) (by decide) ?_
  refine v_aload_n 99 0 C dX3_count_99 rfl ?_
  refine v_iconst 100 C (iZ 0) dX3_count_100 rfl ?_
  refine v_calli 101 hA (rV_Pg 101 C L_RX3_155 lk_411 lk_16 (m_outside (j := 0) hg hN hI hP hR hE (by decide)) (vg.o hg) rfl ⟨rfl, rfl⟩ (rm_ok rfl) dX3_count_101) (fun r1 w2 h3 => ?_)
  obtain ⟨e_r1, rfl⟩ := h3
  refine v_eqi (iZ (outN b t 0)) (e_r1) ?_
  refine z_if_ne 104 111 C (outN_b b t 0 hI) dX3_count_104 (by decide) (fun c104_0 => ?_) (fun c104_0 => ?_)
  · skip
    refine v_iconst 111 C (iZ 0) dX3_count_111 rfl ?_
    exact v_iret 112 C (⟨bzF (decide_eq_false c104_0), S, t, rfl, hC, hE, hI, sameOn.rf⟩) dX3_count_112
  · skip
    refine v_iconst 107 C (iZ 1) dX3_count_107 rfl ?_
    refine v_goto 108 112 C dX3_count_108 (by decide) ?_
    exact v_iret 112 C (⟨bzT (decide_eq_true c104_0), S, t, rfl, hC, hE, hI, sameOn.rf⟩) dX3_count_112

set_option maxHeartbeats 4000000 in
set_option maxRecDepth 100000 in
theorem c_count_4 {l : Launch} {D : va_G} {kc : Nat → ClassId} {N : Nat} {ad : Nat → Nat} {S : St} {b : Bs} {t : Ts} (hg : vg N) (hN : N = 66 + 15 * bn b) (hI : Inv b) (hC : RC S b t) (hE : LE b t)  : MetK l yX3_count cX3_count 2 (some FieldType.int) 4 0 0 93 D kc (wl kc N ad S) [.ref (ad 0), .int (iZ 4)] (QI D kc (wl kc N ad S) (cQ kc N ad S (coZ b t 4) (b))) := by
  refine MetK.of (by decide +kernel) (Nat.le_of_ble_eq_true rfl) ?_
  intro p e s m below meth c C
  have hA : ∀ q, s.heap.size ≤ q → va_A (wl kc N ad S) s.heap.size q := fun _ h => Or.inr h
  show V p l e { frames := 4, cells := 0, slots := 0, locals := 93 } s m ([.ref (ad 0), .int (iZ 4)] : List Value).toArray below meth c (MQ below (QI D kc (wl kc N ad S) (cQ kc N ad S (coZ b t 4) (b)) s.heap.size) ([.ref (ad 0), .int (iZ 4)] : List Value).toArray s 0 0 (va_A (wl kc N ad S) s.heap.size)) D (va_A (wl kc N ad S) s.heap.size) 2 0 0 (wl kc N ad S) 0 [(0, .ref (ad 0)), (1, .int (iZ 4))] []
  have hP := hC.1
  have hW := hC.2.1
  have hEn := hC.2.2.1
  have hR := hC.2.2.2
  have hb0 := hI.1
  refine v_iload_n 0 1 C dX3_count_0 rfl ?_
  refine v_tabIn 1 113 C (off := 112) dX3_count_1 (by decide) (by decide) (by decide) (by decide) ?_
  refine v_aload_n 113 0 C dX3_count_113 rfl ?_
  refine v_calli 114 hA (rV_Pg 114 C L_RX3_233 lk_491 lk_20 (m_partsStuck hg hN hI hP hR hE) (vg.o hg) rfl ⟨rfl, rfl⟩ (rm_ok rfl) dX3_count_114) (fun r1 w2 h3 => ?_)
  obtain ⟨e_r1, rfl⟩ := h3
  refine v_eqi (iZ (stC b t)) (e_r1) ?_
  exact v_iret 117 C (⟨rfl, S, t, rfl, hC, hE, hI, sameOn.rf⟩) dX3_count_117

set_option maxHeartbeats 4000000 in
set_option maxRecDepth 100000 in
theorem c_count_5 {l : Launch} {D : va_G} {kc : Nat → ClassId} {N : Nat} {ad : Nat → Nat} {S : St} {b : Bs} {t : Ts} (hg : vg N) (hN : N = 66 + 15 * bn b) (hI : Inv b) (hC : RC S b t) (hE : LE b t)  : MetK l yX3_count cX3_count 2 (some FieldType.int) 4 0 0 93 D kc (wl kc N ad S) [.ref (ad 0), .int (iZ 5)] (QI D kc (wl kc N ad S) (cQ kc N ad S (coZ b t 5) (b))) := by
  refine MetK.of (by decide +kernel) (Nat.le_of_ble_eq_true rfl) ?_
  intro p e s m below meth c C
  have hA : ∀ q, s.heap.size ≤ q → va_A (wl kc N ad S) s.heap.size q := fun _ h => Or.inr h
  show V p l e { frames := 4, cells := 0, slots := 0, locals := 93 } s m ([.ref (ad 0), .int (iZ 5)] : List Value).toArray below meth c (MQ below (QI D kc (wl kc N ad S) (cQ kc N ad S (coZ b t 5) (b)) s.heap.size) ([.ref (ad 0), .int (iZ 5)] : List Value).toArray s 0 0 (va_A (wl kc N ad S) s.heap.size)) D (va_A (wl kc N ad S) s.heap.size) 2 0 0 (wl kc N ad S) 0 [(0, .ref (ad 0)), (1, .int (iZ 5))] []
  have hP := hC.1
  have hW := hC.2.1
  have hEn := hC.2.2.1
  have hR := hC.2.2.2
  have hb0 := hI.1
  refine v_iload_n 0 1 C dX3_count_0 rfl ?_
  refine v_tabIn 1 128 C (off := 127) dX3_count_1 (by decide) (by decide) (by decide) (by decide) ?_
  refine v_bipush 128 C (iZ (-9)) dX3_count_128 (by decide) ?_
  exact v_iret 130 C (⟨rfl, S, t, rfl, hC, hE, hI, sameOn.rf⟩) dX3_count_130

set_option maxHeartbeats 4000000 in
set_option maxRecDepth 100000 in
theorem c_count_6 {l : Launch} {D : va_G} {kc : Nat → ClassId} {N : Nat} {ad : Nat → Nat} {S : St} {b : Bs} {t : Ts} (hg : vg N) (hN : N = 66 + 15 * bn b) (hI : Inv b) (hC : RC S b t) (hE : LE b t)  : MetK l yX3_count cX3_count 2 (some FieldType.int) 4 0 0 93 D kc (wl kc N ad S) [.ref (ad 0), .int (iZ 6)] (QI D kc (wl kc N ad S) (cQ kc N ad S (coZ b t 6) (b))) := by
  refine MetK.of (by decide +kernel) (Nat.le_of_ble_eq_true rfl) ?_
  intro p e s m below meth c C
  have hA : ∀ q, s.heap.size ≤ q → va_A (wl kc N ad S) s.heap.size q := fun _ h => Or.inr h
  show V p l e { frames := 4, cells := 0, slots := 0, locals := 93 } s m ([.ref (ad 0), .int (iZ 6)] : List Value).toArray below meth c (MQ below (QI D kc (wl kc N ad S) (cQ kc N ad S (coZ b t 6) (b)) s.heap.size) ([.ref (ad 0), .int (iZ 6)] : List Value).toArray s 0 0 (va_A (wl kc N ad S) s.heap.size)) D (va_A (wl kc N ad S) s.heap.size) 2 0 0 (wl kc N ad S) 0 [(0, .ref (ad 0)), (1, .int (iZ 6))] []
  have hP := hC.1
  have hW := hC.2.1
  have hEn := hC.2.2.1
  have hR := hC.2.2.2
  have hb0 := hI.1
  refine v_iload_n 0 1 C dX3_count_0 rfl ?_
  refine v_tabIn 1 128 C (off := 127) dX3_count_1 (by decide) (by decide) (by decide) (by decide) ?_
  refine v_bipush 128 C (iZ (-9)) dX3_count_128 (by decide) ?_
  exact v_iret 130 C (⟨rfl, S, t, rfl, hC, hE, hI, sameOn.rf⟩) dX3_count_130

set_option maxHeartbeats 4000000 in
set_option maxRecDepth 100000 in
theorem c_count_7 {l : Launch} {D : va_G} {kc : Nat → ClassId} {N : Nat} {ad : Nat → Nat} {S : St} {b : Bs} {t : Ts} (hg : vg N) (hN : N = 66 + 15 * bn b) (hI : Inv b) (hC : RC S b t) (hE : LE b t)  : MetK l yX3_count cX3_count 2 (some FieldType.int) 4 0 0 93 D kc (wl kc N ad S) [.ref (ad 0), .int (iZ 7)] (QI D kc (wl kc N ad S) (cQ kc N ad S (coZ b t 7) (b))) := by
  refine MetK.of (by decide +kernel) (Nat.le_of_ble_eq_true rfl) ?_
  intro p e s m below meth c C
  have hA : ∀ q, s.heap.size ≤ q → va_A (wl kc N ad S) s.heap.size q := fun _ h => Or.inr h
  show V p l e { frames := 4, cells := 0, slots := 0, locals := 93 } s m ([.ref (ad 0), .int (iZ 7)] : List Value).toArray below meth c (MQ below (QI D kc (wl kc N ad S) (cQ kc N ad S (coZ b t 7) (b)) s.heap.size) ([.ref (ad 0), .int (iZ 7)] : List Value).toArray s 0 0 (va_A (wl kc N ad S) s.heap.size)) D (va_A (wl kc N ad S) s.heap.size) 2 0 0 (wl kc N ad S) 0 [(0, .ref (ad 0)), (1, .int (iZ 7))] []
  have hP := hC.1
  have hW := hC.2.1
  have hEn := hC.2.2.1
  have hR := hC.2.2.2
  have hb0 := hI.1
  refine v_iload_n 0 1 C dX3_count_0 rfl ?_
  refine v_tabIn 1 128 C (off := 127) dX3_count_1 (by decide) (by decide) (by decide) (by decide) ?_
  refine v_bipush 128 C (iZ (-9)) dX3_count_128 (by decide) ?_
  exact v_iret 130 C (⟨rfl, S, t, rfl, hC, hE, hI, sameOn.rf⟩) dX3_count_130

set_option maxHeartbeats 4000000 in
set_option maxRecDepth 100000 in
theorem c_count_8 {l : Launch} {D : va_G} {kc : Nat → ClassId} {N : Nat} {ad : Nat → Nat} {S : St} {b : Bs} {t : Ts} (hg : vg N) (hN : N = 66 + 15 * bn b) (hI : Inv b) (hC : RC S b t) (hE : LE b t)  : MetK l yX3_count cX3_count 2 (some FieldType.int) 4 0 0 93 D kc (wl kc N ad S) [.ref (ad 0), .int (iZ 8)] (QI D kc (wl kc N ad S) (cQ kc N ad S (coZ b t 8) (b))) := by
  refine MetK.of (by decide +kernel) (Nat.le_of_ble_eq_true rfl) ?_
  intro p e s m below meth c C
  have hA : ∀ q, s.heap.size ≤ q → va_A (wl kc N ad S) s.heap.size q := fun _ h => Or.inr h
  show V p l e { frames := 4, cells := 0, slots := 0, locals := 93 } s m ([.ref (ad 0), .int (iZ 8)] : List Value).toArray below meth c (MQ below (QI D kc (wl kc N ad S) (cQ kc N ad S (coZ b t 8) (b)) s.heap.size) ([.ref (ad 0), .int (iZ 8)] : List Value).toArray s 0 0 (va_A (wl kc N ad S) s.heap.size)) D (va_A (wl kc N ad S) s.heap.size) 2 0 0 (wl kc N ad S) 0 [(0, .ref (ad 0)), (1, .int (iZ 8))] []
  have hP := hC.1
  have hW := hC.2.1
  have hEn := hC.2.2.1
  have hR := hC.2.2.2
  have hb0 := hI.1
  refine v_iload_n 0 1 C dX3_count_0 rfl ?_
  refine v_tabIn 1 128 C (off := 127) dX3_count_1 (by decide) (by decide) (by decide) (by decide) ?_
  refine v_bipush 128 C (iZ (-9)) dX3_count_128 (by decide) ?_
  exact v_iret 130 C (⟨rfl, S, t, rfl, hC, hE, hI, sameOn.rf⟩) dX3_count_130

set_option maxHeartbeats 4000000 in
set_option maxRecDepth 100000 in
theorem c_count_9 {l : Launch} {D : va_G} {kc : Nat → ClassId} {N : Nat} {ad : Nat → Nat} {S : St} {b : Bs} {t : Ts} (hg : vg N) (hN : N = 66 + 15 * bn b) (hI : Inv b) (hC : RC S b t) (hE : LE b t)  : MetK l yX3_count cX3_count 2 (some FieldType.int) 4 0 0 93 D kc (wl kc N ad S) [.ref (ad 0), .int (iZ 9)] (QI D kc (wl kc N ad S) (cQ kc N ad S (coZ b t 9) (b))) := by
  refine MetK.of (by decide +kernel) (Nat.le_of_ble_eq_true rfl) ?_
  intro p e s m below meth c C
  have hA : ∀ q, s.heap.size ≤ q → va_A (wl kc N ad S) s.heap.size q := fun _ h => Or.inr h
  show V p l e { frames := 4, cells := 0, slots := 0, locals := 93 } s m ([.ref (ad 0), .int (iZ 9)] : List Value).toArray below meth c (MQ below (QI D kc (wl kc N ad S) (cQ kc N ad S (coZ b t 9) (b)) s.heap.size) ([.ref (ad 0), .int (iZ 9)] : List Value).toArray s 0 0 (va_A (wl kc N ad S) s.heap.size)) D (va_A (wl kc N ad S) s.heap.size) 2 0 0 (wl kc N ad S) 0 [(0, .ref (ad 0)), (1, .int (iZ 9))] []
  have hP := hC.1
  have hW := hC.2.1
  have hEn := hC.2.2.1
  have hR := hC.2.2.2
  have hb0 := hI.1
  refine v_iload_n 0 1 C dX3_count_0 rfl ?_
  refine v_tabIn 1 128 C (off := 127) dX3_count_1 (by decide) (by decide) (by decide) (by decide) ?_
  refine v_bipush 128 C (iZ (-9)) dX3_count_128 (by decide) ?_
  exact v_iret 130 C (⟨rfl, S, t, rfl, hC, hE, hI, sameOn.rf⟩) dX3_count_130

set_option maxHeartbeats 4000000 in
set_option maxRecDepth 100000 in
theorem c_count_10 {l : Launch} {D : va_G} {kc : Nat → ClassId} {N : Nat} {ad : Nat → Nat} {S : St} {b : Bs} {t : Ts} (hg : vg N) (hN : N = 66 + 15 * bn b) (hI : Inv b) (hC : RC S b t) (hE : LE b t)  : MetK l yX3_count cX3_count 2 (some FieldType.int) 4 0 0 93 D kc (wl kc N ad S) [.ref (ad 0), .int (iZ 10)] (QI D kc (wl kc N ad S) (cQ kc N ad S (coZ b t 10) (b))) := by
  refine MetK.of (by decide +kernel) (Nat.le_of_ble_eq_true rfl) ?_
  intro p e s m below meth c C
  have hA : ∀ q, s.heap.size ≤ q → va_A (wl kc N ad S) s.heap.size q := fun _ h => Or.inr h
  show V p l e { frames := 4, cells := 0, slots := 0, locals := 93 } s m ([.ref (ad 0), .int (iZ 10)] : List Value).toArray below meth c (MQ below (QI D kc (wl kc N ad S) (cQ kc N ad S (coZ b t 10) (b)) s.heap.size) ([.ref (ad 0), .int (iZ 10)] : List Value).toArray s 0 0 (va_A (wl kc N ad S) s.heap.size)) D (va_A (wl kc N ad S) s.heap.size) 2 0 0 (wl kc N ad S) 0 [(0, .ref (ad 0)), (1, .int (iZ 10))] []
  have hP := hC.1
  have hW := hC.2.1
  have hEn := hC.2.2.1
  have hR := hC.2.2.2
  have hb0 := hI.1
  refine v_iload_n 0 1 C dX3_count_0 rfl ?_
  refine v_tabIn 1 128 C (off := 127) dX3_count_1 (by decide) (by decide) (by decide) (by decide) ?_
  refine v_bipush 128 C (iZ (-9)) dX3_count_128 (by decide) ?_
  exact v_iret 130 C (⟨rfl, S, t, rfl, hC, hE, hI, sameOn.rf⟩) dX3_count_130

set_option maxHeartbeats 4000000 in
set_option maxRecDepth 100000 in
theorem c_count_11 {l : Launch} {D : va_G} {kc : Nat → ClassId} {N : Nat} {ad : Nat → Nat} {S : St} {b : Bs} {t : Ts} (hg : vg N) (hN : N = 66 + 15 * bn b) (hI : Inv b) (hC : RC S b t) (hE : LE b t)  : MetK l yX3_count cX3_count 2 (some FieldType.int) 4 0 0 93 D kc (wl kc N ad S) [.ref (ad 0), .int (iZ 11)] (QI D kc (wl kc N ad S) (cQ kc N ad S (coZ b t 11) (b))) := by
  refine MetK.of (by decide +kernel) (Nat.le_of_ble_eq_true rfl) ?_
  intro p e s m below meth c C
  have hA : ∀ q, s.heap.size ≤ q → va_A (wl kc N ad S) s.heap.size q := fun _ h => Or.inr h
  show V p l e { frames := 4, cells := 0, slots := 0, locals := 93 } s m ([.ref (ad 0), .int (iZ 11)] : List Value).toArray below meth c (MQ below (QI D kc (wl kc N ad S) (cQ kc N ad S (coZ b t 11) (b)) s.heap.size) ([.ref (ad 0), .int (iZ 11)] : List Value).toArray s 0 0 (va_A (wl kc N ad S) s.heap.size)) D (va_A (wl kc N ad S) s.heap.size) 2 0 0 (wl kc N ad S) 0 [(0, .ref (ad 0)), (1, .int (iZ 11))] []
  have hP := hC.1
  have hW := hC.2.1
  have hEn := hC.2.2.1
  have hR := hC.2.2.2
  have hb0 := hI.1
  refine v_iload_n 0 1 C dX3_count_0 rfl ?_
  refine v_tabIn 1 118 C (off := 117) dX3_count_1 (by decide) (by decide) (by decide) (by decide) ?_
  refine v_aload_n 118 0 C dX3_count_118 rfl ?_
  refine g_Pg_refusals 119 C (vg.o hg).1 (vg.o hg).2 lk_211 dX3_count_119 ?_
  refine v_iload_n 122 1 C dX3_count_122 rfl ?_
  refine v_bipush 123 C (iZ 10) dX3_count_123 (by decide) ?_
  refine z_isub 125 C dX3_count_125 ?_
  refine v_iald 126 C (vg.r hg).1 (vg.r hg).2 1 (izn (by decide)) (lnx (show ln 3 = 7 from rfl) (by decide)) dX3_count_126 ?_
  refine v_eqi (iZ (b 9 1)) (hP.2.1 1 (by decide)) ?_
  exact v_iret 127 C (⟨rfl, S, t, rfl, hC, hE, hI, sameOn.rf⟩) dX3_count_127

set_option maxHeartbeats 4000000 in
set_option maxRecDepth 100000 in
theorem c_count_12 {l : Launch} {D : va_G} {kc : Nat → ClassId} {N : Nat} {ad : Nat → Nat} {S : St} {b : Bs} {t : Ts} (hg : vg N) (hN : N = 66 + 15 * bn b) (hI : Inv b) (hC : RC S b t) (hE : LE b t)  : MetK l yX3_count cX3_count 2 (some FieldType.int) 4 0 0 93 D kc (wl kc N ad S) [.ref (ad 0), .int (iZ 12)] (QI D kc (wl kc N ad S) (cQ kc N ad S (coZ b t 12) (b))) := by
  refine MetK.of (by decide +kernel) (Nat.le_of_ble_eq_true rfl) ?_
  intro p e s m below meth c C
  have hA : ∀ q, s.heap.size ≤ q → va_A (wl kc N ad S) s.heap.size q := fun _ h => Or.inr h
  show V p l e { frames := 4, cells := 0, slots := 0, locals := 93 } s m ([.ref (ad 0), .int (iZ 12)] : List Value).toArray below meth c (MQ below (QI D kc (wl kc N ad S) (cQ kc N ad S (coZ b t 12) (b)) s.heap.size) ([.ref (ad 0), .int (iZ 12)] : List Value).toArray s 0 0 (va_A (wl kc N ad S) s.heap.size)) D (va_A (wl kc N ad S) s.heap.size) 2 0 0 (wl kc N ad S) 0 [(0, .ref (ad 0)), (1, .int (iZ 12))] []
  have hP := hC.1
  have hW := hC.2.1
  have hEn := hC.2.2.1
  have hR := hC.2.2.2
  have hb0 := hI.1
  refine v_iload_n 0 1 C dX3_count_0 rfl ?_
  refine v_tabIn 1 118 C (off := 117) dX3_count_1 (by decide) (by decide) (by decide) (by decide) ?_
  refine v_aload_n 118 0 C dX3_count_118 rfl ?_
  refine g_Pg_refusals 119 C (vg.o hg).1 (vg.o hg).2 lk_211 dX3_count_119 ?_
  refine v_iload_n 122 1 C dX3_count_122 rfl ?_
  refine v_bipush 123 C (iZ 10) dX3_count_123 (by decide) ?_
  refine z_isub 125 C dX3_count_125 ?_
  refine v_iald 126 C (vg.r hg).1 (vg.r hg).2 2 (izn (by decide)) (lnx (show ln 3 = 7 from rfl) (by decide)) dX3_count_126 ?_
  refine v_eqi (iZ (b 9 2)) (hP.2.1 2 (by decide)) ?_
  exact v_iret 127 C (⟨rfl, S, t, rfl, hC, hE, hI, sameOn.rf⟩) dX3_count_127

set_option maxHeartbeats 4000000 in
set_option maxRecDepth 100000 in
theorem c_count_13 {l : Launch} {D : va_G} {kc : Nat → ClassId} {N : Nat} {ad : Nat → Nat} {S : St} {b : Bs} {t : Ts} (hg : vg N) (hN : N = 66 + 15 * bn b) (hI : Inv b) (hC : RC S b t) (hE : LE b t)  : MetK l yX3_count cX3_count 2 (some FieldType.int) 4 0 0 93 D kc (wl kc N ad S) [.ref (ad 0), .int (iZ 13)] (QI D kc (wl kc N ad S) (cQ kc N ad S (coZ b t 13) (b))) := by
  refine MetK.of (by decide +kernel) (Nat.le_of_ble_eq_true rfl) ?_
  intro p e s m below meth c C
  have hA : ∀ q, s.heap.size ≤ q → va_A (wl kc N ad S) s.heap.size q := fun _ h => Or.inr h
  show V p l e { frames := 4, cells := 0, slots := 0, locals := 93 } s m ([.ref (ad 0), .int (iZ 13)] : List Value).toArray below meth c (MQ below (QI D kc (wl kc N ad S) (cQ kc N ad S (coZ b t 13) (b)) s.heap.size) ([.ref (ad 0), .int (iZ 13)] : List Value).toArray s 0 0 (va_A (wl kc N ad S) s.heap.size)) D (va_A (wl kc N ad S) s.heap.size) 2 0 0 (wl kc N ad S) 0 [(0, .ref (ad 0)), (1, .int (iZ 13))] []
  have hP := hC.1
  have hW := hC.2.1
  have hEn := hC.2.2.1
  have hR := hC.2.2.2
  have hb0 := hI.1
  refine v_iload_n 0 1 C dX3_count_0 rfl ?_
  refine v_tabIn 1 118 C (off := 117) dX3_count_1 (by decide) (by decide) (by decide) (by decide) ?_
  refine v_aload_n 118 0 C dX3_count_118 rfl ?_
  refine g_Pg_refusals 119 C (vg.o hg).1 (vg.o hg).2 lk_211 dX3_count_119 ?_
  refine v_iload_n 122 1 C dX3_count_122 rfl ?_
  refine v_bipush 123 C (iZ 10) dX3_count_123 (by decide) ?_
  refine z_isub 125 C dX3_count_125 ?_
  refine v_iald 126 C (vg.r hg).1 (vg.r hg).2 3 (izn (by decide)) (lnx (show ln 3 = 7 from rfl) (by decide)) dX3_count_126 ?_
  refine v_eqi (iZ (b 9 3)) (hP.2.1 3 (by decide)) ?_
  exact v_iret 127 C (⟨rfl, S, t, rfl, hC, hE, hI, sameOn.rf⟩) dX3_count_127

set_option maxHeartbeats 4000000 in
set_option maxRecDepth 100000 in
theorem c_count_14 {l : Launch} {D : va_G} {kc : Nat → ClassId} {N : Nat} {ad : Nat → Nat} {S : St} {b : Bs} {t : Ts} (hg : vg N) (hN : N = 66 + 15 * bn b) (hI : Inv b) (hC : RC S b t) (hE : LE b t)  : MetK l yX3_count cX3_count 2 (some FieldType.int) 4 0 0 93 D kc (wl kc N ad S) [.ref (ad 0), .int (iZ 14)] (QI D kc (wl kc N ad S) (cQ kc N ad S (coZ b t 14) (b))) := by
  refine MetK.of (by decide +kernel) (Nat.le_of_ble_eq_true rfl) ?_
  intro p e s m below meth c C
  have hA : ∀ q, s.heap.size ≤ q → va_A (wl kc N ad S) s.heap.size q := fun _ h => Or.inr h
  show V p l e { frames := 4, cells := 0, slots := 0, locals := 93 } s m ([.ref (ad 0), .int (iZ 14)] : List Value).toArray below meth c (MQ below (QI D kc (wl kc N ad S) (cQ kc N ad S (coZ b t 14) (b)) s.heap.size) ([.ref (ad 0), .int (iZ 14)] : List Value).toArray s 0 0 (va_A (wl kc N ad S) s.heap.size)) D (va_A (wl kc N ad S) s.heap.size) 2 0 0 (wl kc N ad S) 0 [(0, .ref (ad 0)), (1, .int (iZ 14))] []
  have hP := hC.1
  have hW := hC.2.1
  have hEn := hC.2.2.1
  have hR := hC.2.2.2
  have hb0 := hI.1
  refine v_iload_n 0 1 C dX3_count_0 rfl ?_
  refine v_tabIn 1 118 C (off := 117) dX3_count_1 (by decide) (by decide) (by decide) (by decide) ?_
  refine v_aload_n 118 0 C dX3_count_118 rfl ?_
  refine g_Pg_refusals 119 C (vg.o hg).1 (vg.o hg).2 lk_211 dX3_count_119 ?_
  refine v_iload_n 122 1 C dX3_count_122 rfl ?_
  refine v_bipush 123 C (iZ 10) dX3_count_123 (by decide) ?_
  refine z_isub 125 C dX3_count_125 ?_
  refine v_iald 126 C (vg.r hg).1 (vg.r hg).2 4 (izn (by decide)) (lnx (show ln 3 = 7 from rfl) (by decide)) dX3_count_126 ?_
  refine v_eqi (iZ (b 9 4)) (hP.2.1 4 (by decide)) ?_
  exact v_iret 127 C (⟨rfl, S, t, rfl, hC, hE, hI, sameOn.rf⟩) dX3_count_127

set_option maxHeartbeats 4000000 in
set_option maxRecDepth 100000 in
theorem c_count_15 {l : Launch} {D : va_G} {kc : Nat → ClassId} {N : Nat} {ad : Nat → Nat} {S : St} {b : Bs} {t : Ts} (hg : vg N) (hN : N = 66 + 15 * bn b) (hI : Inv b) (hC : RC S b t) (hE : LE b t)  : MetK l yX3_count cX3_count 2 (some FieldType.int) 4 0 0 93 D kc (wl kc N ad S) [.ref (ad 0), .int (iZ 15)] (QI D kc (wl kc N ad S) (cQ kc N ad S (coZ b t 15) (b))) := by
  refine MetK.of (by decide +kernel) (Nat.le_of_ble_eq_true rfl) ?_
  intro p e s m below meth c C
  have hA : ∀ q, s.heap.size ≤ q → va_A (wl kc N ad S) s.heap.size q := fun _ h => Or.inr h
  show V p l e { frames := 4, cells := 0, slots := 0, locals := 93 } s m ([.ref (ad 0), .int (iZ 15)] : List Value).toArray below meth c (MQ below (QI D kc (wl kc N ad S) (cQ kc N ad S (coZ b t 15) (b)) s.heap.size) ([.ref (ad 0), .int (iZ 15)] : List Value).toArray s 0 0 (va_A (wl kc N ad S) s.heap.size)) D (va_A (wl kc N ad S) s.heap.size) 2 0 0 (wl kc N ad S) 0 [(0, .ref (ad 0)), (1, .int (iZ 15))] []
  have hP := hC.1
  have hW := hC.2.1
  have hEn := hC.2.2.1
  have hR := hC.2.2.2
  have hb0 := hI.1
  refine v_iload_n 0 1 C dX3_count_0 rfl ?_
  refine v_tabIn 1 118 C (off := 117) dX3_count_1 (by decide) (by decide) (by decide) (by decide) ?_
  refine v_aload_n 118 0 C dX3_count_118 rfl ?_
  refine g_Pg_refusals 119 C (vg.o hg).1 (vg.o hg).2 lk_211 dX3_count_119 ?_
  refine v_iload_n 122 1 C dX3_count_122 rfl ?_
  refine v_bipush 123 C (iZ 10) dX3_count_123 (by decide) ?_
  refine z_isub 125 C dX3_count_125 ?_
  refine v_iald 126 C (vg.r hg).1 (vg.r hg).2 5 (izn (by decide)) (lnx (show ln 3 = 7 from rfl) (by decide)) dX3_count_126 ?_
  refine v_eqi (iZ (b 9 5)) (hP.2.1 5 (by decide)) ?_
  exact v_iret 127 C (⟨rfl, S, t, rfl, hC, hE, hI, sameOn.rf⟩) dX3_count_127

set_option maxHeartbeats 4000000 in
set_option maxRecDepth 100000 in
theorem c_count_16 {l : Launch} {D : va_G} {kc : Nat → ClassId} {N : Nat} {ad : Nat → Nat} {S : St} {b : Bs} {t : Ts} (hg : vg N) (hN : N = 66 + 15 * bn b) (hI : Inv b) (hC : RC S b t) (hE : LE b t)  : MetK l yX3_count cX3_count 2 (some FieldType.int) 4 0 0 93 D kc (wl kc N ad S) [.ref (ad 0), .int (iZ 16)] (QI D kc (wl kc N ad S) (cQ kc N ad S (coZ b t 16) (b))) := by
  refine MetK.of (by decide +kernel) (Nat.le_of_ble_eq_true rfl) ?_
  intro p e s m below meth c C
  have hA : ∀ q, s.heap.size ≤ q → va_A (wl kc N ad S) s.heap.size q := fun _ h => Or.inr h
  show V p l e { frames := 4, cells := 0, slots := 0, locals := 93 } s m ([.ref (ad 0), .int (iZ 16)] : List Value).toArray below meth c (MQ below (QI D kc (wl kc N ad S) (cQ kc N ad S (coZ b t 16) (b)) s.heap.size) ([.ref (ad 0), .int (iZ 16)] : List Value).toArray s 0 0 (va_A (wl kc N ad S) s.heap.size)) D (va_A (wl kc N ad S) s.heap.size) 2 0 0 (wl kc N ad S) 0 [(0, .ref (ad 0)), (1, .int (iZ 16))] []
  have hP := hC.1
  have hW := hC.2.1
  have hEn := hC.2.2.1
  have hR := hC.2.2.2
  have hb0 := hI.1
  refine v_iload_n 0 1 C dX3_count_0 rfl ?_
  refine v_tabIn 1 118 C (off := 117) dX3_count_1 (by decide) (by decide) (by decide) (by decide) ?_
  refine v_aload_n 118 0 C dX3_count_118 rfl ?_
  refine g_Pg_refusals 119 C (vg.o hg).1 (vg.o hg).2 lk_211 dX3_count_119 ?_
  refine v_iload_n 122 1 C dX3_count_122 rfl ?_
  refine v_bipush 123 C (iZ 10) dX3_count_123 (by decide) ?_
  refine z_isub 125 C dX3_count_125 ?_
  refine v_iald 126 C (vg.r hg).1 (vg.r hg).2 6 (izn (by decide)) (lnx (show ln 3 = 7 from rfl) (by decide)) dX3_count_126 ?_
  refine v_eqi (iZ (b 9 6)) (hP.2.1 6 (by decide)) ?_
  exact v_iret 127 C (⟨rfl, S, t, rfl, hC, hE, hI, sameOn.rf⟩) dX3_count_127

set_option maxHeartbeats 4000000 in
set_option maxRecDepth 100000 in
theorem c_count_w {l : Launch} {D : va_G} {kc : Nat → ClassId} {N : Nat} {ad : Nat → Nat} {S : St} {b : Bs} {t : Ts} (hg : vg N) (hN : N = 66 + 15 * bn b) (hI : Inv b) (hC : RC S b t) (hE : LE b t) {w : Int} (rw_ : r32 w) (hw : w < 0 ∨ 16 < w) : MetK l yX3_count cX3_count 2 (some FieldType.int) 4 0 0 93 D kc (wl kc N ad S) [.ref (ad 0), .int (iZ w)] (QI D kc (wl kc N ad S) (cQ kc N ad S (-9) (b))) := by
  refine MetK.of (by decide +kernel) (Nat.le_of_ble_eq_true rfl) ?_
  intro p e s m below meth c C
  have hA : ∀ q, s.heap.size ≤ q → va_A (wl kc N ad S) s.heap.size q := fun _ h => Or.inr h
  show V p l e { frames := 4, cells := 0, slots := 0, locals := 93 } s m ([.ref (ad 0), .int (iZ w)] : List Value).toArray below meth c (MQ below (QI D kc (wl kc N ad S) (cQ kc N ad S (-9) (b)) s.heap.size) ([.ref (ad 0), .int (iZ w)] : List Value).toArray s 0 0 (va_A (wl kc N ad S) s.heap.size)) D (va_A (wl kc N ad S) s.heap.size) 2 0 0 (wl kc N ad S) 0 [(0, .ref (ad 0)), (1, .int (iZ w))] []
  have hP := hC.1
  have hW := hC.2.1
  have hEn := hC.2.2.1
  have hR := hC.2.2.2
  have hb0 := hI.1
  refine v_iload_n 0 1 C dX3_count_0 rfl ?_
  refine v_tabOut 1 128 C dX3_count_1 (by rw [iZ_toInt rw_]; exact hw) (by decide) ?_
  refine v_bipush 128 C (iZ (-9)) dX3_count_128 (by decide) ?_
  exact v_iret 130 C (⟨rfl, S, t, rfl, hC, hE, hI, sameOn.rf⟩) dX3_count_130

def mvK (t : Ts) (k s : Nat) : Int := mvZ (t 4 k s) (t 4 k (s + 1)) (t 2 k s) (t 3 k s) (t 2 k (s + 1)) (t 3 k (s + 1))
def gm (t : Ts) (Dm : Nat → Nat → Prop) (m : Int) : Prop := (0 ≤ m ∧ m ≤ 200000) ∧ (∀ i s, Dm i s → mvK t i s ≤ m) ∧ (m = 0 ∨ ∃ i s, Dm i s ∧ mvK t i s = m)
theorem gm_step {t : Ts} {Dm Dm' : Nat → Nat → Prop} {m : Int} {i s : Nat} (h : gm t Dm m) (hb : mvK t i s ≤ 200000) (h1 : Dm' i s) (h2 : ∀ a c, Dm a c → Dm' a c) (h3 : ∀ a c, Dm' a c → Dm a c ∨ (a = i ∧ c = s)) : gm t Dm' (max m (mvK t i s)) := by
  obtain ⟨a1, a2, a3⟩ := h
  refine ⟨by omega, fun a c q => ?_, ?_⟩
  · rcases h3 a c q with q | ⟨rfl, rfl⟩
    · have := a2 a c q; omega
    · omega
  · rcases Int.le_total (mvK t i s) m with z | z
    · rw [show max m (mvK t i s) = m by omega]
      rcases a3 with a3 | ⟨a, c, q, e⟩
      · exact Or.inl a3
      · exact Or.inr ⟨a, c, h2 a c q, e⟩
    · rw [show max m (mvK t i s) = mvK t i s by omega]
      exact Or.inr ⟨i, s, h1, rfl⟩
theorem gm_same {t : Ts} {Dm Dm' : Nat → Nat → Prop} {m : Int} (h : gm t Dm m) (h2 : ∀ a c, Dm a c ↔ Dm' a c) : gm t Dm' m := by
  obtain ⟨a1, a2, a3⟩ := h
  refine ⟨a1, fun a c q => a2 a c ((h2 a c).mpr q), ?_⟩
  rcases a3 with a3 | ⟨a, c, q, e⟩
  · exact Or.inl a3
  · exact Or.inr ⟨a, c, (h2 a c).mp q, e⟩
theorem gm_uniq {t : Ts} {Dm : Nat → Nat → Prop} {m m' : Int} (h : gm t Dm m) (h' : gm t Dm m') : m = m' := by
  obtain ⟨a1, a2, a3⟩ := h
  obtain ⟨c1, c2, c3⟩ := h'
  have e1 : m ≤ m' := by
    rcases a3 with a3 | ⟨a, c, q, e⟩
    · omega
    · have := c2 a c q; omega
  have e2 : m' ≤ m := by
    rcases c3 with a3 | ⟨a, c, q, e⟩
    · omega
    · have := a2 a c q; omega
  omega
def DG (b : Bs) (n : Nat) (i s : Nat) : Prop := i < n ∧ b 8 i = 1 ∧ s < 16
theorem mv_b {v0 v1 x0 y0 x1 y1 : Int} (h0 : v0 = 0 → bd x0 ∧ bd y0) (h1 : v1 = 0 → bd x1 ∧ bd y1) : -1 ≤ mvZ v0 v1 x0 y0 x1 y1 ∧ mvZ v0 v1 x0 y0 x1 y1 ≤ 200000 := by
  unfold mvZ
  split
  · rename_i h
    have a := h0 h.1
    have c := h1 h.2
    omega
  · omega
theorem mvK_b {b : Bs} {t : Ts} (hI : Inv b) (hE : LE b t) {k s : Nat} (hk : k < bn b) (ht : b 8 k = 1) (hs : s < 16) : -1 ≤ mvK t k s ∧ mvK t k s ≤ 200000 :=
  mv_b (fun q => (bd_k hI hE hk ht (by omega) q).1) (fun q => (bd_k hI hE hk ht (by omega) q).1)
theorem dg_in {p_ : Prop} {a i c s : Nat} (q : p_ ∨ (a = i ∧ c < s + 1)) : (p_ ∨ (a = i ∧ c < s)) ∨ (a = i ∧ c = s) := by
  rcases q with q | q
  · exact Or.inl (Or.inl q)
  · by_cases y : c = s
    · exact Or.inr ⟨q.1, y⟩
    · exact Or.inl (Or.inr ⟨q.1, by omega⟩)
theorem DG_succ {b : Bs} {i s a c : Nat} (ht : b 8 i = 1) (hs : s = 16) : (DG b i a c ∨ (a = i ∧ c < s)) ↔ DG b (i + 1) a c := by
  unfold DG
  constructor
  · intro q
    rcases q with ⟨q1, q2, q3⟩ | ⟨rfl, q⟩
    · exact ⟨by omega, q2, q3⟩
    · exact ⟨by omega, ht, by omega⟩
  · intro ⟨q1, q2, q3⟩
    by_cases y : a = i
    · exact Or.inr ⟨y, by omega⟩
    · exact Or.inl ⟨by omega, q2, q3⟩
theorem DG_skip {b : Bs} {i a c : Nat} (ht : ¬ b 8 i = 1) : DG b i a c ↔ DG b (i + 1) a c := by
  unfold DG
  constructor
  · intro ⟨q1, q2, q3⟩; exact ⟨by omega, q2, q3⟩
  · intro ⟨q1, q2, q3⟩
    by_cases y : a = i
    · rw [y] at q2; exact absurd q2 ht
    · exact ⟨by omega, q2, q3⟩
set_option maxHeartbeats 4000000 in
set_option maxRecDepth 100000 in
theorem c_greatest {l : Launch} {D : va_G} {kc : Nat → ClassId} {N : Nat} {ad : Nat → Nat} {S : St} {b : Bs} {t : Ts} (hg : vg N) (hN : N = 66 + 15 * bn b) (hI : Inv b) (hC : RC S b t) (hE : LE b t)  : MetK l yX3_greatest cX3_greatest 5 (some FieldType.int) 3 0 0 67 D kc (wl kc N ad S) [.ref (ad 0)] (QI D kc (wl kc N ad S) (fun r ws' => ∃ mo : Int, gm t (DG b (bn b)) mo ∧ cQ kc N ad S mo b r ws')) := by
  refine MetK.of (by decide +kernel) (Nat.le_of_ble_eq_true rfl) ?_
  intro p e s m below meth c C
  have hA : ∀ q, s.heap.size ≤ q → va_A (wl kc N ad S) s.heap.size q := fun _ h => Or.inr h
  show V p l e { frames := 3, cells := 0, slots := 0, locals := 67 } s m ([.ref (ad 0)] : List Value).toArray below meth c (MQ below (QI D kc (wl kc N ad S) (fun r ws' => ∃ mo : Int, gm t (DG b (bn b)) mo ∧ cQ kc N ad S mo b r ws') s.heap.size) ([.ref (ad 0)] : List Value).toArray s 0 0 (va_A (wl kc N ad S) s.heap.size)) D (va_A (wl kc N ad S) s.heap.size) 5 0 0 (wl kc N ad S) 0 [(0, .ref (ad 0))] []
  have hP := hC.1
  have hW := hC.2.1
  have hEn := hC.2.2.1
  have hR := hC.2.2.2
  have hb0 := hI.1
  have loop : ∀ (d : Nat) (i : Nat) (mo : Int), i + d = bn b → gm t (DG b i) mo → V p l e { frames := 3, cells := 0, slots := 0, locals := 67 } s m ([.ref (ad 0)] : List Value).toArray below meth c (MQ below (QI D kc (wl kc N ad S) (fun r ws' => ∃ mo : Int, gm t (DG b (bn b)) mo ∧ cQ kc N ad S mo b r ws') s.heap.size) ([.ref (ad 0)] : List Value).toArray s 0 0 (va_A (wl kc N ad S) s.heap.size)) D (va_A (wl kc N ad S) s.heap.size) 5 0 0 (wl kc N ad S) 4 [(2, .int (iZ (i : Int))), (1, .int (iZ mo)), (0, .ref (ad 0))] [] := by
    intro d
    induction d with
    | zero =>
      intro i mo hi hm
      have hmb := hm.1
      refine v_iload_n 4 0 C dX3_greatest_4 rfl ?_
      refine v_aload_n 5 2 C dX3_greatest_5 rfl ?_
      refine g_Pg_made 6 C (vg.o hg).1 (vg.o hg).2 lk_216 dX3_greatest_6 ?_
      refine v_eqi (iZ (b 0 0)) (hP.1.2.2) ?_
      refine z_icmp_ge 9 58 C (by first | assumption | exact ⟨by omega, by omega⟩) (by first | assumption | exact ⟨by omega, by omega⟩) dX3_greatest_9 (by decide) (fun c9_0 => ?_) (fun c9_0 => absurd (by omega) c9_0)
      refine v_iload_n 58 1 C dX3_greatest_58 rfl ?_
      exact v_iret 59 C (⟨mo, by rw [← show i = bn b by omega]; exact hm, rfl, S, t, rfl, hC, hE, hI, sameOn.rf⟩) dX3_greatest_59
    | succ d ih =>
      intro i mo hi hm
      have hi2 : i < bn b := by omega
      by_cases ht : b 8 i = 1
      · skip
        have inner : ∀ (f : Nat) (s_ : Nat) (mo : Int), s_ + f = 16 → gm t (fun a c => DG b i a c ∨ (a = i ∧ c < s_)) mo → V p l e { frames := 3, cells := 0, slots := 0, locals := 67 } s m ([.ref (ad 0)] : List Value).toArray below meth c (MQ below (QI D kc (wl kc N ad S) (fun r ws' => ∃ mo : Int, gm t (DG b (bn b)) mo ∧ cQ kc N ad S mo b r ws') s.heap.size) ([.ref (ad 0)] : List Value).toArray s 0 0 (va_A (wl kc N ad S) s.heap.size)) D (va_A (wl kc N ad S) s.heap.size) 5 0 0 (wl kc N ad S) 25 [(4, .int (iZ (s_ : Int))), (3, .ref (ad (66 + 15 * i))), (2, .int (iZ (i : Int))), (1, .int (iZ mo)), (0, .ref (ad 0))] [] := by
          intro f
          induction f with
          | zero =>
            intro s_ mo hs hm
            have hmb := hm.1
            refine v_iload 25 0 C dX3_greatest_25 rfl ?_
            refine v_bipush 27 C (iZ 16) dX3_greatest_27 (by decide) ?_
            refine z_icmp_ge 29 52 C (by first | assumption | exact ⟨by omega, by omega⟩) (by first | assumption | exact ⟨by omega, by omega⟩) dX3_greatest_29 (by decide) (fun c29_0 => ?_) (fun c29_0 => absurd (by omega) c29_0)
            refine v_iinc 52 2 (iZ ((i + 1 : Nat) : Int)) [(2, .int (iZ ((i + 1 : Nat) : Int))), (4, .int (iZ (s_ : Int))), (3, .ref (ad (66 + 15 * i))), (1, .int (iZ mo)), (0, .ref (ad 0))] C dX3_greatest_52 rfl (iZ_add _ _) (by decide) rfl ?_
            refine v_goto 55 4 C dX3_greatest_55 (by decide) ?_
            refine v_sub [0, 3, 4] rfl ?_
            exact ih (i + 1) mo (by omega) (gm_same hm (fun a c => DG_succ ht (by omega)))
          | succ f ih2 =>
            intro s_ mo hs hm
            have hmb := hm.1
            have hmv := mvK_b hI hE hi2 ht (show s_ < 16 by omega)
            refine v_iload 25 0 C dX3_greatest_25 rfl ?_
            refine v_bipush 27 C (iZ 16) dX3_greatest_27 (by decide) ?_
            refine z_icmp_ge 29 52 C (by first | assumption | exact ⟨by omega, by omega⟩) (by first | assumption | exact ⟨by omega, by omega⟩) dX3_greatest_29 (by decide) (fun c29_0 => absurd c29_0 (by omega)) (fun c29_0 => ?_)
            refine v_iload_n 32 3 C dX3_greatest_32 rfl ?_
            refine v_aload_n 33 1 C dX3_greatest_33 rfl ?_
            refine g_Pt_crease 34 C (vp.o (vp_k hN hi2)).1 (vp.o (vp_k hN hi2)).2 lk_127 dX3_greatest_34 ?_
            refine v_iload 37 0 C dX3_greatest_37 rfl ?_
            refine v_calli 39 hA (rV_Tr 39 C L_RX3_172 lk_460 lk_461 (m_moveFrom (vp.C (vp_k hN hi2)) (show s_ < 16 by omega) (cr_s hR hi2 ht (by omega)) (cr_s hR hi2 ht (by omega)) (cr_01 hE hi2 ht (by omega)) (cr_01 hE hi2 ht (by omega)) (cr_xy hI hR hE hi2 ht (by omega)) (cr_xy hI hR hE hi2 ht (by omega))) (vt.o (vp.C (vp_k hN hi2))) rfl ⟨rfl, rfl⟩ (rm_ok rfl) dX3_greatest_39) (fun r1 w2 h3 => ?_)
            obtain ⟨e_r1, rfl⟩ := h3
            refine v_eqi (iZ (mvK t i s_)) (e_r1) ?_
            refine v_mmax 42 C lk_452 ⟨Nat.le_of_ble_eq_true rfl, Nat.le_of_ble_eq_true rfl, Nat.le_of_ble_eq_true rfl, Nat.le_of_ble_eq_true rfl⟩ dX3_greatest_42 ?_
            refine v_eqi (iZ (max mo (mvK t i s_))) (mmax_z (by first | assumption | exact ⟨by omega, by omega⟩) (by first | assumption | exact ⟨by omega, by omega⟩)) ?_
            refine v_istore_n 45 [(1, .int (iZ (max mo (mvK t i s_)))), (4, .int (iZ (s_ : Int))), (3, .ref (ad (66 + 15 * i))), (2, .int (iZ (i : Int))), (0, .ref (ad 0))] C dX3_greatest_45 (by decide) rfl ?_
            refine v_iinc 46 1 (iZ ((s_ + 1 : Nat) : Int)) [(4, .int (iZ ((s_ + 1 : Nat) : Int))), (1, .int (iZ (max mo (mvK t i s_)))), (3, .ref (ad (66 + 15 * i))), (2, .int (iZ (i : Int))), (0, .ref (ad 0))] C dX3_greatest_46 rfl (iZ_add _ _) (by decide) rfl ?_
            refine v_goto 49 25 C dX3_greatest_49 (by decide) ?_
            refine v_sub [0, 2, 3, 1, 4] rfl ?_
            exact ih2 (s_ + 1) _ (by omega) (gm_step hm hmv.2 (Or.inr ⟨rfl, by omega⟩) (fun a c q => q.elim Or.inl (fun z => Or.inr ⟨z.1, by omega⟩)) (fun a c q => dg_in q))
        have hmb := hm.1
        refine v_iload_n 4 0 C dX3_greatest_4 rfl ?_
        refine v_aload_n 5 2 C dX3_greatest_5 rfl ?_
        refine g_Pg_made 6 C (vg.o hg).1 (vg.o hg).2 lk_216 dX3_greatest_6 ?_
        refine v_eqi (iZ (b 0 0)) (hP.1.2.2) ?_
        refine z_icmp_ge 9 58 C (by first | assumption | exact ⟨by omega, by omega⟩) (by first | assumption | exact ⟨by omega, by omega⟩) dX3_greatest_9 (by decide) (fun c9_0 => absurd c9_0 (by omega)) (fun c9_0 => ?_)
        refine v_aload_n 12 2 C dX3_greatest_12 rfl ?_
        refine v_iload_n 13 0 C dX3_greatest_13 rfl ?_
        refine v_callq 14 hA (rV_Pg 14 C L_RX3_90 lk_244 lk_3 (m_partThere hg hN hI hP hi2 ht) (vg.o hg) rfl ⟨rfl, rfl⟩ (rm_ok rfl) dX3_greatest_14) (fun r4 w5 h6 => ?_)
        obtain ⟨e_r4, rfl⟩ := h6
        refine v_eqv (.ref (ad (66 + 15 * i))) (by rw [e_r4]; rfl) ?_
        refine v_astore_n 17 [(3, .ref (ad (66 + 15 * i))), (2, .int (iZ (i : Int))), (1, .int (iZ mo)), (0, .ref (ad 0))] C dX3_greatest_17 (by decide) rfl ?_
        refine v_aload_n 18 0 C dX3_greatest_18 rfl ?_
        refine v_ifnull 19 C dX3_greatest_19 ?_
        refine v_iconst 22 C (iZ 0) dX3_greatest_22 rfl ?_
        refine v_istore 23 [(4, .int (iZ 0)), (3, .ref (ad (66 + 15 * i))), (2, .int (iZ (i : Int))), (1, .int (iZ mo)), (0, .ref (ad 0))] C dX3_greatest_23 (by decide) rfl ?_
        refine v_sub [0, 1, 2, 3, 4] rfl ?_
        exact inner 16 0 mo (by omega) (gm_same hm (fun a c => ⟨Or.inl, fun q => q.elim id (fun z => by omega)⟩))
      · skip
        have hmb := hm.1
        refine v_iload_n 4 0 C dX3_greatest_4 rfl ?_
        refine v_aload_n 5 2 C dX3_greatest_5 rfl ?_
        refine g_Pg_made 6 C (vg.o hg).1 (vg.o hg).2 lk_216 dX3_greatest_6 ?_
        refine v_eqi (iZ (b 0 0)) (hP.1.2.2) ?_
        refine z_icmp_ge 9 58 C (by first | assumption | exact ⟨by omega, by omega⟩) (by first | assumption | exact ⟨by omega, by omega⟩) dX3_greatest_9 (by decide) (fun c9_0 => absurd c9_0 (by omega)) (fun c9_0 => ?_)
        refine v_aload_n 12 2 C dX3_greatest_12 rfl ?_
        refine v_iload_n 13 0 C dX3_greatest_13 rfl ?_
        refine v_callq 14 hA (rV_Pg 14 C L_RX3_90 lk_244 lk_3 (m_partThere_no (z := (i : Int)) hg hN hI hP ⟨by omega, by omega⟩ (fun q => ht q.2.2)) (vg.o hg) rfl ⟨rfl, rfl⟩ (rm_ok rfl) dX3_greatest_14) (fun r7 w8 h9 => ?_)
        obtain ⟨e_r7, rfl⟩ := h9
        refine v_eqv .null (by rw [e_r7]; rfl) ?_
        refine v_astore_nN 17 [(3, .null), (2, .int (iZ (i : Int))), (1, .int (iZ mo)), (0, .ref (ad 0))] C dX3_greatest_17 (by decide) rfl ?_
        refine v_aload_nN 18 0 C dX3_greatest_18 rfl ?_
        refine v_ifnullN 19 52 C dX3_greatest_19 (by decide) ?_
        refine v_iinc 52 1 (iZ ((i + 1 : Nat) : Int)) [(2, .int (iZ ((i + 1 : Nat) : Int))), (3, .null), (1, .int (iZ mo)), (0, .ref (ad 0))] C dX3_greatest_52 rfl (iZ_add _ _) (by decide) rfl ?_
        refine v_goto 55 4 C dX3_greatest_55 (by decide) ?_
        refine v_sub [0, 2, 3] rfl ?_
        exact ih (i + 1) mo (by omega) (gm_same hm (fun a c => DG_skip ht))
  refine v_iconst 0 C (iZ 0) dX3_greatest_0 rfl ?_
  refine v_istore_n 1 [(1, .int (iZ 0)), (0, .ref (ad 0))] C dX3_greatest_1 (by decide) rfl ?_
  refine v_iconst 2 C (iZ 0) dX3_greatest_2 rfl ?_
  refine v_istore_n 3 [(2, .int (iZ 0)), (1, .int (iZ 0)), (0, .ref (ad 0))] C dX3_greatest_3 (by decide) rfl ?_
  refine v_sub [0, 1, 2] rfl ?_
  exact loop (bn b) 0 0 (by omega) ⟨by decide, fun a c q => absurd q.1 (by omega), Or.inl rfl⟩
