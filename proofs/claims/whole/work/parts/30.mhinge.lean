def hgS (S : St) (b : Bs) (k : Nat) (f v : Int) : St := if b 3 k = 1 then pA (pA S 48 (if f = 0 then 2 * k + 1 else 2 * k) (iZ v)) 49 (if f = 0 then 2 * k else 2 * k + 1) (iZ v) else pA S 48 (if f = 0 then 2 * k + 1 else 2 * k) (iZ v)
theorem hgS_C {S : St} {b : Bs} {k : Nat} {f v : Int} : sameOn atC S (hgS S b k f v) := by
  unfold hgS
  split
  · exact (sameC_pA (by decide)).tr (sameC_pA (by decide))
  · exact sameC_pA (by decide)
theorem hgS_RM {S : St} {b : Bs} {k : Nat} {f v : Int} (hM : RM S b) : RM (hgS S b k f v) (hgB b k f v) := by
  obtain ⟨a, c, d, e, g⟩ := hM
  have A : ∀ i q, i ≠ 48 → i ≠ 49 → gA (hgS S b k f v) i q = gA S i q := fun i q h h2 => by
    unfold hgS
    split
    · rw [gA_pA, if_neg (fun z => h2 z.1), gA_pA, if_neg (fun z => h z.1)]
    · rw [gA_pA, if_neg (fun z => h z.1)]
  have X : ∀ q, gI (hgS S b k f v) 45 q = gI S 45 q := fun q => by unfold hgS; split <;> rfl
  refine ⟨?_, fun q hq => ?_, fun i hi => ?_, fun r hr => ?_, fun i hi => ?_⟩
  · rw [X, X, X, hgB_o (by decide) (by decide), hgB_o (by decide) (by decide), hgB_o (by decide) (by decide)]; exact a
  · rw [hgB_bn] at hq
    rw [A 46 q (by decide) (by decide), A 50 q (by decide) (by decide), A 51 q (by decide) (by decide), hgB_o (g := 3) (by decide) (by decide), hgB_o (g := 7) (by decide) (by decide), hgB_o (g := 8) (by decide) (by decide)]; exact c q hq
  · rw [hgB_bn] at hi
    rw [A 47 i (by decide) (by decide), hgB_o (g := 4) (by decide) (by decide)]
    refine ⟨(d i hi).1, ?_, ?_⟩
    · unfold hgS hgB
      split
      · rw [gA_pA, if_neg (fun z => absurd z.1 (by decide)), upB_f (by decide), gA_pA]
        by_cases z : i = (if f = 0 then 2 * k + 1 else 2 * k)
        · rw [if_pos ⟨rfl, z⟩, z, upB_s]
        · rw [if_neg (fun y => z y.2), upB_i z]; exact (d i hi).2.1
      · rw [gA_pA]
        by_cases z : i = (if f = 0 then 2 * k + 1 else 2 * k)
        · rw [if_pos ⟨rfl, z⟩, z, upB_s]
        · rw [if_neg (fun y => z y.2), upB_i z]; exact (d i hi).2.1
    · unfold hgS hgB
      split
      · rw [gA_pA]
        by_cases z : i = (if f = 0 then 2 * k else 2 * k + 1)
        · rw [if_pos ⟨rfl, z⟩, z, upB_s]
        · rw [if_neg (fun y => z y.2), upB_i z, gA_pA, if_neg (fun z => absurd z.1 (by decide)), upB_f (by decide)]; exact (d i hi).2.2
      · rw [gA_pA, if_neg (fun z => absurd z.1 (by decide)), upB_f (by decide)]; exact (d i hi).2.2
  · rw [A 52 r (by decide) (by decide), hgB_o (g := 9) (by decide) (by decide)]; exact e r hr
  · rw [A 53 i (by decide) (by decide)]; exact g i hi
set_option maxHeartbeats 4000000 in
set_option maxRecDepth 100000 in
theorem m4_hang {l : Launch} {D : va_G} {kc : Nat → ClassId} {N : Nat} {ad : Nat → Nat} {S : St} {b : Bs} (hm : vm N) (hI : Inv b) (hM : RM S b) {k : Nat} {f v w : Int} (hk : k < bn b) (hf : b01 f) (hw : w = if f = 0 then 1 else 0) : MetK l yX4_hang cX4_hang 4 (none) 1 0 0 24 D kc (wl kc N ad S) [.ref (ad 45), .int (iZ (k : Int)), .int (iZ w), .int (iZ v)] (QV D kc (wl kc N ad S) (fun ws' => ws' = wl kc N ad (hgS S b k f v))) := by
  refine MetK.of (by decide +kernel) (Nat.le_of_ble_eq_true rfl) ?_
  intro p e s m below meth c C
  have hA : ∀ q, s.heap.size ≤ q → va_A (wl kc N ad S) s.heap.size q := fun _ h => Or.inr h
  show V p l e { frames := 1, cells := 0, slots := 0, locals := 24 } s m ([.ref (ad 45), .int (iZ (k : Int)), .int (iZ w), .int (iZ v)] : List Value).toArray below meth c (MQ below (QV D kc (wl kc N ad S) (fun ws' => ws' = wl kc N ad (hgS S b k f v)) s.heap.size) ([.ref (ad 45), .int (iZ (k : Int)), .int (iZ w), .int (iZ v)] : List Value).toArray s 0 0 (va_A (wl kc N ad S) s.heap.size)) D (va_A (wl kc N ad S) s.heap.size) 4 0 0 (wl kc N ad S) 0 [(0, .ref (ad 45)), (1, .int (iZ (k : Int))), (2, .int (iZ w)), (3, .int (iZ v))] []
  have hb0 := hI.1
  have J := hI.2.2.2.1 k hk
  by_cases q : f = 0
  · skip
    rw [if_pos q] at hw
    have e1 : (if f = 0 then 2 * k + 1 else 2 * k) = 2 * k + 1 := if_pos q
    have e2 : (if f = 0 then 2 * k else 2 * k + 1) = 2 * k := if_pos q
    unfold hgS
    rw [e1, e2]
    refine v_aload_n 0 0 C dX4_hang_0 rfl ?_
    refine g_Mo_far 1 C (vm.o hm).1 (vm.o hm).2 lk_504 dX4_hang_1 ?_
    refine v_iconst 4 C (iZ 2) dX4_hang_4 rfl ?_
    refine v_iload_n 5 1 C dX4_hang_5 rfl ?_
    refine z_imul 6 C dX4_hang_6 ?_
    refine v_iload_n 7 2 C dX4_hang_7 rfl ?_
    refine z_iadd 8 C dX4_hang_8 ?_
    refine v_iload_n 9 3 C dX4_hang_9 rfl ?_
    refine v_iast 10 C (vm.a hm 48 (by decide) rfl).1 (vm.a hm 48 (by decide) rfl).2 (2 * k + 1) (izn (by omega)) (lnx (show ln 48 = 60 from rfl) (by omega)) dX4_hang_10 ?_
    refine v_aload_n 11 0 C dX4_hang_11 rfl ?_
    refine g_Mo_kind 12 C (vm.o hm).1 (vm.o hm).2 lk_502 dX4_hang_12 ?_
    refine v_iload_n 15 1 C dX4_hang_15 rfl ?_
    refine v_iald 16 C (vm.a hm 46 (by decide) rfl).1 (vm.a hm 46 (by decide) rfl).2 k (izn (by omega)) (lnx (show ln 46 = 30 from rfl) (by omega)) dX4_hang_16 ?_
    refine v_eqi (iZ (b 3 k)) (by rw [gA_pA, if_neg (fun z => absurd z.1 (by decide))]; exact (hM.2.1 k hk).1) ?_
    refine v_iconst 17 C (iZ 1) dX4_hang_17 rfl ?_
    refine z_icmp_ne 18 34 C (by first | assumption | exact ⟨by omega, by omega⟩) (by first | assumption | exact ⟨by omega, by omega⟩) dX4_hang_18 (by decide) (fun cK => ?_) (fun cK => ?_)
    · skip
      exact v_vret 34 C (by rw [if_neg cK]) dX4_hang_34
    · skip
      refine v_aload_n 21 0 C dX4_hang_21 rfl ?_
      refine g_Mo_flat 22 C (vm.o hm).1 (vm.o hm).2 lk_505 dX4_hang_22 ?_
      refine v_iconst 25 C (iZ 2) dX4_hang_25 rfl ?_
      refine v_iload_n 26 1 C dX4_hang_26 rfl ?_
      refine z_imul 27 C dX4_hang_27 ?_
      refine v_iconst 28 C (iZ 1) dX4_hang_28 rfl ?_
      refine z_iadd 29 C dX4_hang_29 ?_
      refine v_iload_n 30 2 C dX4_hang_30 rfl ?_
      refine z_isub 31 C dX4_hang_31 ?_
      refine v_iload_n 32 3 C dX4_hang_32 rfl ?_
      refine v_iast 33 C (vm.a hm 49 (by decide) rfl).1 (vm.a hm 49 (by decide) rfl).2 (2 * k) (izn (by omega)) (lnx (show ln 49 = 60 from rfl) (by omega)) dX4_hang_33 ?_
      exact v_vret 34 C (by rw [if_pos cK]) dX4_hang_34
  · skip
    rw [if_neg q] at hw
    have e1 : (if f = 0 then 2 * k + 1 else 2 * k) = 2 * k := if_neg q
    have e2 : (if f = 0 then 2 * k else 2 * k + 1) = 2 * k + 1 := if_neg q
    unfold hgS
    rw [e1, e2]
    refine v_aload_n 0 0 C dX4_hang_0 rfl ?_
    refine g_Mo_far 1 C (vm.o hm).1 (vm.o hm).2 lk_504 dX4_hang_1 ?_
    refine v_iconst 4 C (iZ 2) dX4_hang_4 rfl ?_
    refine v_iload_n 5 1 C dX4_hang_5 rfl ?_
    refine z_imul 6 C dX4_hang_6 ?_
    refine v_iload_n 7 2 C dX4_hang_7 rfl ?_
    refine z_iadd 8 C dX4_hang_8 ?_
    refine v_iload_n 9 3 C dX4_hang_9 rfl ?_
    refine v_iast 10 C (vm.a hm 48 (by decide) rfl).1 (vm.a hm 48 (by decide) rfl).2 (2 * k) (izn (by omega)) (lnx (show ln 48 = 60 from rfl) (by omega)) dX4_hang_10 ?_
    refine v_aload_n 11 0 C dX4_hang_11 rfl ?_
    refine g_Mo_kind 12 C (vm.o hm).1 (vm.o hm).2 lk_502 dX4_hang_12 ?_
    refine v_iload_n 15 1 C dX4_hang_15 rfl ?_
    refine v_iald 16 C (vm.a hm 46 (by decide) rfl).1 (vm.a hm 46 (by decide) rfl).2 k (izn (by omega)) (lnx (show ln 46 = 30 from rfl) (by omega)) dX4_hang_16 ?_
    refine v_eqi (iZ (b 3 k)) (by rw [gA_pA, if_neg (fun z => absurd z.1 (by decide))]; exact (hM.2.1 k hk).1) ?_
    refine v_iconst 17 C (iZ 1) dX4_hang_17 rfl ?_
    refine z_icmp_ne 18 34 C (by first | assumption | exact ⟨by omega, by omega⟩) (by first | assumption | exact ⟨by omega, by omega⟩) dX4_hang_18 (by decide) (fun cK => ?_) (fun cK => ?_)
    · skip
      exact v_vret 34 C (by rw [if_neg cK]) dX4_hang_34
    · skip
      refine v_aload_n 21 0 C dX4_hang_21 rfl ?_
      refine g_Mo_flat 22 C (vm.o hm).1 (vm.o hm).2 lk_505 dX4_hang_22 ?_
      refine v_iconst 25 C (iZ 2) dX4_hang_25 rfl ?_
      refine v_iload_n 26 1 C dX4_hang_26 rfl ?_
      refine z_imul 27 C dX4_hang_27 ?_
      refine v_iconst 28 C (iZ 1) dX4_hang_28 rfl ?_
      refine z_iadd 29 C dX4_hang_29 ?_
      refine v_iload_n 30 2 C dX4_hang_30 rfl ?_
      refine z_isub 31 C dX4_hang_31 ?_
      refine v_iload_n 32 3 C dX4_hang_32 rfl ?_
      refine v_iast 33 C (vm.a hm 49 (by decide) rfl).1 (vm.a hm 49 (by decide) rfl).2 (2 * k + 1) (izn (by omega)) (lnx (show ln 49 = 60 from rfl) (by omega)) dX4_hang_33 ?_
      exact v_vret 34 C (by rw [if_pos cK]) dX4_hang_34

set_option maxHeartbeats 4000000 in
set_option maxRecDepth 100000 in
theorem d_hinge_p {l : Launch} {D : va_G} {kc : Nat → ClassId} {N : Nat} {ad : Nat → Nat} {S : St} {b : Bs} (hm : vm N) (hI : Inv b) (hM : RM S b) {t : Ts} (hE : LE b t) {z f v : Int} (rz : r32 z) (hf : b01 f) (rv : r32 v) (hp : ¬ isP b z) : MetK l yX4_hinge cX4_hinge 6 (some FieldType.int) 3 0 0 70 D kc (wl kc N ad S) [.ref (ad 45), .int (iZ z), .int (iZ f), .int (iZ v)] (QI D kc (wl kc N ad S) (mQ kc N ad S (-1) (refB b 1))) := by
  refine MetK.of (by decide +kernel) (Nat.le_of_ble_eq_true rfl) ?_
  intro p e s m below meth c C
  have hA : ∀ q, s.heap.size ≤ q → va_A (wl kc N ad S) s.heap.size q := fun _ h => Or.inr h
  show V p l e { frames := 3, cells := 0, slots := 0, locals := 70 } s m ([.ref (ad 45), .int (iZ z), .int (iZ f), .int (iZ v)] : List Value).toArray below meth c (MQ below (QI D kc (wl kc N ad S) (mQ kc N ad S (-1) (refB b 1)) s.heap.size) ([.ref (ad 45), .int (iZ z), .int (iZ f), .int (iZ v)] : List Value).toArray s 0 0 (va_A (wl kc N ad S) s.heap.size)) D (va_A (wl kc N ad S) s.heap.size) 6 0 0 (wl kc N ad S) 0 [(0, .ref (ad 45)), (1, .int (iZ z)), (2, .int (iZ f)), (3, .int (iZ v))] []
  have hb0 := hI.1
  refine v_aload_n 0 0 C dX4_hinge_0 rfl ?_
  refine v_iload_n 1 1 C dX4_hinge_1 rfl ?_
  refine v_calli 2 hA (rV_Mo 2 C L_RX4_160 lk_658 lk_32 (m4_isPart hm hI hM (by first | assumption | exact ⟨by omega, by omega⟩)) (vm.o hm) rfl ⟨rfl, rfl⟩ (rm_ok rfl) dX4_hinge_2) (fun r1 w2 h3 => ?_)
  obtain ⟨e_r1, rfl⟩ := h3
  refine v_eqi (iZ (bz (isPb b z))) (e_r1) ?_
  refine z_if_ne 5 14 C (bzr _) dX4_hinge_5 (by decide) (fun c5_0 => absurd c5_0 (fun q => q (by rw [isPb_n hp]; rfl))) (fun c5_0 => ?_)
  refine v_aload_n 8 0 C dX4_hinge_8 rfl ?_
  refine v_iconst 9 C (iZ (-1)) dX4_hinge_9 rfl ?_
  refine v_calli 10 hA (rV_Mo 10 C L_RX4_95 lk_589 lk_22 (m4_refuse hm hI hM 1 (by decide) (by decide)) (vm.o hm) rfl ⟨rfl, rfl⟩ (rm_ok rfl) dX4_hinge_10) (fun r4 w5 h6 => ?_)
  obtain ⟨e_r4, rfl⟩ := h6
  refine v_eqi (iZ (-1)) (e_r4) ?_
  exact v_iret 13 C (⟨rfl, refM4 S b 1, rfl, refRM hM, refC⟩) dX4_hinge_13

set_option maxHeartbeats 4000000 in
set_option maxRecDepth 100000 in
theorem d_hinge_4 {l : Launch} {D : va_G} {kc : Nat → ClassId} {N : Nat} {ad : Nat → Nat} {S : St} {b : Bs} (hm : vm N) (hI : Inv b) (hM : RM S b) {t : Ts} (hE : LE b t) {k : Nat} (hk : k < bn b) (ht : b 8 k = 1) {f v : Int} (hf : b01 f) (rv : r32 v) (h4 : v < (if b 3 k = 1 then 1 else 0)) : MetK l yX4_hinge cX4_hinge 6 (some FieldType.int) 3 0 0 70 D kc (wl kc N ad S) [.ref (ad 45), .int (iZ (k : Int)), .int (iZ f), .int (iZ v)] (QI D kc (wl kc N ad S) (mQ kc N ad S (-4) (refB b 4))) := by
  refine MetK.of (by decide +kernel) (Nat.le_of_ble_eq_true rfl) ?_
  intro p e s m below meth c C
  have hA : ∀ q, s.heap.size ≤ q → va_A (wl kc N ad S) s.heap.size q := fun _ h => Or.inr h
  show V p l e { frames := 3, cells := 0, slots := 0, locals := 70 } s m ([.ref (ad 45), .int (iZ (k : Int)), .int (iZ f), .int (iZ v)] : List Value).toArray below meth c (MQ below (QI D kc (wl kc N ad S) (mQ kc N ad S (-4) (refB b 4)) s.heap.size) ([.ref (ad 45), .int (iZ (k : Int)), .int (iZ f), .int (iZ v)] : List Value).toArray s 0 0 (va_A (wl kc N ad S) s.heap.size)) D (va_A (wl kc N ad S) s.heap.size) 6 0 0 (wl kc N ad S) 0 [(0, .ref (ad 45)), (1, .int (iZ (k : Int))), (2, .int (iZ f)), (3, .int (iZ v))] []
  have hb0 := hI.1
  have J0 := hI.2.2.2.2 k hk (2 * k) (Or.inl rfl)
  have J1 := hI.2.2.2.2 k hk (2 * k + 1) (Or.inr rfl)
  have J := hI.2.2.2.1 k hk
  by_cases q : f = 0
  · skip
    have hU : hgU b k f = (b 4 (2 * k + 1)).toNat := if_pos q
    have hu : thL b (hgU b k f) := by rw [hU]; exact J1.2.2.2 ht
    have hsz := szL_b hI hu
    have eU : b 4 (2 * k + 1) = ((hgU b k f : Nat) : Int) := by rw [hU]; omega
    refine v_aload_n 0 0 C dX4_hinge_0 rfl ?_
    refine v_iload_n 1 1 C dX4_hinge_1 rfl ?_
    refine v_calli 2 hA (rV_Mo 2 C L_RX4_160 lk_658 lk_32 (m4_isPart hm hI hM (by first | assumption | exact ⟨by omega, by omega⟩)) (vm.o hm) rfl ⟨rfl, rfl⟩ (rm_ok rfl) dX4_hinge_2) (fun r1 w2 h3 => ?_)
    obtain ⟨e_r1, rfl⟩ := h3
    refine v_eqi (iZ (bz (isPb b (k : Int)))) (e_r1) ?_
    refine z_if_ne 5 14 C (bzr _) dX4_hinge_5 (by decide) (fun c5_0 => ?_) (fun c5_0 => absurd c5_0 (by rw [isPb_y hI hk ht]; decide))
    refine v_iload_n 14 2 C dX4_hinge_14 rfl ?_
    refine z_if_eq 15 22 C (by first | assumption | exact ⟨by omega, by omega⟩) dX4_hinge_15 (by decide) (fun c15_1 => ?_) (fun c15_1 => absurd (q) c15_1)
    refine v_iconst 22 C (iZ 1) dX4_hinge_22 rfl ?_
    refine v_istore 23 [(4, .int (iZ 1)), (0, .ref (ad 45)), (1, .int (iZ (k : Int))), (2, .int (iZ f)), (3, .int (iZ v))] C dX4_hinge_23 (by decide) rfl ?_
    refine v_iload_n 25 4 C dX4_hinge_25 rfl ?_
    refine v_aload_n 26 1 C dX4_hinge_26 rfl ?_
    refine g_Mo_kind 27 C (vm.o hm).1 (vm.o hm).2 lk_502 dX4_hinge_27 ?_
    refine v_iload_n 30 2 C dX4_hinge_30 rfl ?_
    refine v_iald 31 C (vm.a hm 46 (by decide) rfl).1 (vm.a hm 46 (by decide) rfl).2 k (izn (by omega)) (lnx (show ln 46 = 30 from rfl) (by omega)) dX4_hinge_31 ?_
    refine v_eqi (iZ (b 3 k)) ((hM.2.1 k hk).1) ?_
    refine v_iconst 32 C (iZ 1) dX4_hinge_32 rfl ?_
    refine z_icmp_ne 33 40 C (by first | assumption | exact ⟨by omega, by omega⟩) (by first | assumption | exact ⟨by omega, by omega⟩) dX4_hinge_33 (by decide) (fun cK => ?_) (fun cK => ?_)
    · skip
      refine v_iconst 40 C (iZ 0) dX4_hinge_40 rfl ?_
      refine z_icmp_ge 41 51 C (by first | assumption | exact ⟨by omega, by omega⟩) (by first | assumption | exact ⟨by omega, by omega⟩) dX4_hinge_41 (by decide) (fun c41_3 => absurd c41_3 (by rw [if_neg cK] at h4; omega)) (fun c41_3 => ?_)
      refine v_aload_n 44 1 C dX4_hinge_44 rfl ?_
      refine v_bipush 45 C (iZ (-4)) dX4_hinge_45 (by decide) ?_
      refine v_calli 47 hA (rV_Mo 47 C L_RX4_95 lk_589 lk_22 (m4_refuse hm hI hM 4 (by decide) (by decide)) (vm.o hm) rfl ⟨rfl, rfl⟩ (rm_ok rfl) dX4_hinge_47) (fun r4 w5 h6 => ?_)
      obtain ⟨e_r4, rfl⟩ := h6
      refine v_eqi (iZ (-4)) (e_r4) ?_
      exact v_iret 50 C (⟨rfl, refM4 S b 4, rfl, refRM hM, refC⟩) dX4_hinge_50
    · skip
      refine v_iconst 36 C (iZ 1) dX4_hinge_36 rfl ?_
      refine v_goto 37 41 C dX4_hinge_37 (by decide) ?_
      refine z_icmp_ge 41 51 C (by first | assumption | exact ⟨by omega, by omega⟩) (by first | assumption | exact ⟨by omega, by omega⟩) dX4_hinge_41 (by decide) (fun c41_3 => absurd c41_3 (by rw [if_pos cK] at h4; omega)) (fun c41_3 => ?_)
      refine v_aload_n 44 1 C dX4_hinge_44 rfl ?_
      refine v_bipush 45 C (iZ (-4)) dX4_hinge_45 (by decide) ?_
      refine v_calli 47 hA (rV_Mo 47 C L_RX4_95 lk_589 lk_22 (m4_refuse hm hI hM 4 (by decide) (by decide)) (vm.o hm) rfl ⟨rfl, rfl⟩ (rm_ok rfl) dX4_hinge_47) (fun r7 w8 h9 => ?_)
      obtain ⟨e_r7, rfl⟩ := h9
      refine v_eqi (iZ (-4)) (e_r7) ?_
      exact v_iret 50 C (⟨rfl, refM4 S b 4, rfl, refRM hM, refC⟩) dX4_hinge_50
  · skip
    have hU : hgU b k f = (b 4 (2 * k)).toNat := if_neg q
    have hu : thL b (hgU b k f) := by rw [hU]; exact J0.2.2.2 ht
    have hsz := szL_b hI hu
    have eU : b 4 (2 * k) = ((hgU b k f : Nat) : Int) := by rw [hU]; omega
    refine v_aload_n 0 0 C dX4_hinge_0 rfl ?_
    refine v_iload_n 1 1 C dX4_hinge_1 rfl ?_
    refine v_calli 2 hA (rV_Mo 2 C L_RX4_160 lk_658 lk_32 (m4_isPart hm hI hM (by first | assumption | exact ⟨by omega, by omega⟩)) (vm.o hm) rfl ⟨rfl, rfl⟩ (rm_ok rfl) dX4_hinge_2) (fun r10 w11 h12 => ?_)
    obtain ⟨e_r10, rfl⟩ := h12
    refine v_eqi (iZ (bz (isPb b (k : Int)))) (e_r10) ?_
    refine z_if_ne 5 14 C (bzr _) dX4_hinge_5 (by decide) (fun c5_0 => ?_) (fun c5_0 => absurd c5_0 (by rw [isPb_y hI hk ht]; decide))
    refine v_iload_n 14 2 C dX4_hinge_14 rfl ?_
    refine z_if_eq 15 22 C (by first | assumption | exact ⟨by omega, by omega⟩) dX4_hinge_15 (by decide) (fun c15_1 => absurd c15_1 (q)) (fun c15_1 => ?_)
    refine v_iconst 18 C (iZ 0) dX4_hinge_18 rfl ?_
    refine v_goto 19 23 C dX4_hinge_19 (by decide) ?_
    refine v_istore 23 [(4, .int (iZ 0)), (0, .ref (ad 45)), (1, .int (iZ (k : Int))), (2, .int (iZ f)), (3, .int (iZ v))] C dX4_hinge_23 (by decide) rfl ?_
    refine v_iload_n 25 4 C dX4_hinge_25 rfl ?_
    refine v_aload_n 26 1 C dX4_hinge_26 rfl ?_
    refine g_Mo_kind 27 C (vm.o hm).1 (vm.o hm).2 lk_502 dX4_hinge_27 ?_
    refine v_iload_n 30 2 C dX4_hinge_30 rfl ?_
    refine v_iald 31 C (vm.a hm 46 (by decide) rfl).1 (vm.a hm 46 (by decide) rfl).2 k (izn (by omega)) (lnx (show ln 46 = 30 from rfl) (by omega)) dX4_hinge_31 ?_
    refine v_eqi (iZ (b 3 k)) ((hM.2.1 k hk).1) ?_
    refine v_iconst 32 C (iZ 1) dX4_hinge_32 rfl ?_
    refine z_icmp_ne 33 40 C (by first | assumption | exact ⟨by omega, by omega⟩) (by first | assumption | exact ⟨by omega, by omega⟩) dX4_hinge_33 (by decide) (fun cK => ?_) (fun cK => ?_)
    · skip
      refine v_iconst 40 C (iZ 0) dX4_hinge_40 rfl ?_
      refine z_icmp_ge 41 51 C (by first | assumption | exact ⟨by omega, by omega⟩) (by first | assumption | exact ⟨by omega, by omega⟩) dX4_hinge_41 (by decide) (fun c41_3 => absurd c41_3 (by rw [if_neg cK] at h4; omega)) (fun c41_3 => ?_)
      refine v_aload_n 44 1 C dX4_hinge_44 rfl ?_
      refine v_bipush 45 C (iZ (-4)) dX4_hinge_45 (by decide) ?_
      refine v_calli 47 hA (rV_Mo 47 C L_RX4_95 lk_589 lk_22 (m4_refuse hm hI hM 4 (by decide) (by decide)) (vm.o hm) rfl ⟨rfl, rfl⟩ (rm_ok rfl) dX4_hinge_47) (fun r13 w14 h15 => ?_)
      obtain ⟨e_r13, rfl⟩ := h15
      refine v_eqi (iZ (-4)) (e_r13) ?_
      exact v_iret 50 C (⟨rfl, refM4 S b 4, rfl, refRM hM, refC⟩) dX4_hinge_50
    · skip
      refine v_iconst 36 C (iZ 1) dX4_hinge_36 rfl ?_
      refine v_goto 37 41 C dX4_hinge_37 (by decide) ?_
      refine z_icmp_ge 41 51 C (by first | assumption | exact ⟨by omega, by omega⟩) (by first | assumption | exact ⟨by omega, by omega⟩) dX4_hinge_41 (by decide) (fun c41_3 => absurd c41_3 (by rw [if_pos cK] at h4; omega)) (fun c41_3 => ?_)
      refine v_aload_n 44 1 C dX4_hinge_44 rfl ?_
      refine v_bipush 45 C (iZ (-4)) dX4_hinge_45 (by decide) ?_
      refine v_calli 47 hA (rV_Mo 47 C L_RX4_95 lk_589 lk_22 (m4_refuse hm hI hM 4 (by decide) (by decide)) (vm.o hm) rfl ⟨rfl, rfl⟩ (rm_ok rfl) dX4_hinge_47) (fun r16 w17 h18 => ?_)
      obtain ⟨e_r16, rfl⟩ := h18
      refine v_eqi (iZ (-4)) (e_r16) ?_
      exact v_iret 50 C (⟨rfl, refM4 S b 4, rfl, refRM hM, refC⟩) dX4_hinge_50

set_option maxHeartbeats 4000000 in
set_option maxRecDepth 100000 in
theorem d_hinge_6 {l : Launch} {D : va_G} {kc : Nat → ClassId} {N : Nat} {ad : Nat → Nat} {S : St} {b : Bs} (hm : vm N) (hI : Inv b) (hM : RM S b) {t : Ts} (hE : LE b t) {k : Nat} (hk : k < bn b) (ht : b 8 k = 1) {f v : Int} (hf : b01 f) (rv : r32 v) (h4 : (if b 3 k = 1 then 1 else 0) ≤ v) (h6 : szL b (hgU b k f) < v) : MetK l yX4_hinge cX4_hinge 6 (some FieldType.int) 3 0 0 70 D kc (wl kc N ad S) [.ref (ad 45), .int (iZ (k : Int)), .int (iZ f), .int (iZ v)] (QI D kc (wl kc N ad S) (mQ kc N ad S (-6) (refB b 6))) := by
  refine MetK.of (by decide +kernel) (Nat.le_of_ble_eq_true rfl) ?_
  intro p e s m below meth c C
  have hA : ∀ q, s.heap.size ≤ q → va_A (wl kc N ad S) s.heap.size q := fun _ h => Or.inr h
  show V p l e { frames := 3, cells := 0, slots := 0, locals := 70 } s m ([.ref (ad 45), .int (iZ (k : Int)), .int (iZ f), .int (iZ v)] : List Value).toArray below meth c (MQ below (QI D kc (wl kc N ad S) (mQ kc N ad S (-6) (refB b 6)) s.heap.size) ([.ref (ad 45), .int (iZ (k : Int)), .int (iZ f), .int (iZ v)] : List Value).toArray s 0 0 (va_A (wl kc N ad S) s.heap.size)) D (va_A (wl kc N ad S) s.heap.size) 6 0 0 (wl kc N ad S) 0 [(0, .ref (ad 45)), (1, .int (iZ (k : Int))), (2, .int (iZ f)), (3, .int (iZ v))] []
  have hb0 := hI.1
  have J0 := hI.2.2.2.2 k hk (2 * k) (Or.inl rfl)
  have J1 := hI.2.2.2.2 k hk (2 * k + 1) (Or.inr rfl)
  have J := hI.2.2.2.1 k hk
  by_cases q : f = 0
  · skip
    have hU : hgU b k f = (b 4 (2 * k + 1)).toNat := if_pos q
    have hu : thL b (hgU b k f) := by rw [hU]; exact J1.2.2.2 ht
    have hsz := szL_b hI hu
    have eU : b 4 (2 * k + 1) = ((hgU b k f : Nat) : Int) := by rw [hU]; omega
    refine v_aload_n 0 0 C dX4_hinge_0 rfl ?_
    refine v_iload_n 1 1 C dX4_hinge_1 rfl ?_
    refine v_calli 2 hA (rV_Mo 2 C L_RX4_160 lk_658 lk_32 (m4_isPart hm hI hM (by first | assumption | exact ⟨by omega, by omega⟩)) (vm.o hm) rfl ⟨rfl, rfl⟩ (rm_ok rfl) dX4_hinge_2) (fun r1 w2 h3 => ?_)
    obtain ⟨e_r1, rfl⟩ := h3
    refine v_eqi (iZ (bz (isPb b (k : Int)))) (e_r1) ?_
    refine z_if_ne 5 14 C (bzr _) dX4_hinge_5 (by decide) (fun c5_0 => ?_) (fun c5_0 => absurd c5_0 (by rw [isPb_y hI hk ht]; decide))
    refine v_iload_n 14 2 C dX4_hinge_14 rfl ?_
    refine z_if_eq 15 22 C (by first | assumption | exact ⟨by omega, by omega⟩) dX4_hinge_15 (by decide) (fun c15_1 => ?_) (fun c15_1 => absurd (q) c15_1)
    refine v_iconst 22 C (iZ 1) dX4_hinge_22 rfl ?_
    refine v_istore 23 [(4, .int (iZ 1)), (0, .ref (ad 45)), (1, .int (iZ (k : Int))), (2, .int (iZ f)), (3, .int (iZ v))] C dX4_hinge_23 (by decide) rfl ?_
    refine v_iload_n 25 4 C dX4_hinge_25 rfl ?_
    refine v_aload_n 26 1 C dX4_hinge_26 rfl ?_
    refine g_Mo_kind 27 C (vm.o hm).1 (vm.o hm).2 lk_502 dX4_hinge_27 ?_
    refine v_iload_n 30 2 C dX4_hinge_30 rfl ?_
    refine v_iald 31 C (vm.a hm 46 (by decide) rfl).1 (vm.a hm 46 (by decide) rfl).2 k (izn (by omega)) (lnx (show ln 46 = 30 from rfl) (by omega)) dX4_hinge_31 ?_
    refine v_eqi (iZ (b 3 k)) ((hM.2.1 k hk).1) ?_
    refine v_iconst 32 C (iZ 1) dX4_hinge_32 rfl ?_
    refine z_icmp_ne 33 40 C (by first | assumption | exact ⟨by omega, by omega⟩) (by first | assumption | exact ⟨by omega, by omega⟩) dX4_hinge_33 (by decide) (fun cK => ?_) (fun cK => ?_)
    · skip
      refine v_iconst 40 C (iZ 0) dX4_hinge_40 rfl ?_
      refine z_icmp_ge 41 51 C (by first | assumption | exact ⟨by omega, by omega⟩) (by first | assumption | exact ⟨by omega, by omega⟩) dX4_hinge_41 (by decide) (fun c41_3 => ?_) (fun c41_3 => absurd (by rw [if_neg cK] at h4; omega) c41_3)
      refine v_iload_n 51 4 C dX4_hinge_51 rfl ?_
      refine v_aload_n 52 1 C dX4_hinge_52 rfl ?_
      refine v_aload_n 53 1 C dX4_hinge_53 rfl ?_
      refine g_Mo_on 54 C (vm.o hm).1 (vm.o hm).2 lk_503 dX4_hinge_54 ?_
      refine v_iconst 57 C (iZ 2) dX4_hinge_57 rfl ?_
      refine v_iload_n 58 2 C dX4_hinge_58 rfl ?_
      refine z_imul 59 C dX4_hinge_59 ?_
      refine v_iload 60 0 C dX4_hinge_60 rfl ?_
      refine z_iadd 62 C dX4_hinge_62 ?_
      refine v_iald 63 C (vm.a hm 47 (by decide) rfl).1 (vm.a hm 47 (by decide) rfl).2 (2 * k + 1) (izn (by omega)) (lnx (show ln 47 = 60 from rfl) (by omega)) dX4_hinge_63 ?_
      refine v_eqi (iZ ((hgU b k f : Nat) : Int)) ((hM.2.2.1 (2 * k + 1) (by omega)).1.trans (by rw [eU])) ?_
      refine v_calli 64 hA (rV_Mo 64 C L_RX4_152 lk_613 lk_25 (m4_sizeOf hm hI hM hu) (vm.o hm) rfl ⟨rfl, rfl⟩ (rm_ok rfl) dX4_hinge_64) (fun r4 w5 h6 => ?_)
      obtain ⟨e_r4, rfl⟩ := h6
      refine v_eqi (iZ (szL b (hgU b k f))) (e_r4) ?_
      refine z_icmp_le 67 77 C (by first | assumption | exact ⟨by omega, by omega⟩) (by first | assumption | exact ⟨by omega, by omega⟩) dX4_hinge_67 (by decide) (fun c67_4 => absurd c67_4 (by omega)) (fun c67_4 => ?_)
      refine v_aload_n 70 1 C dX4_hinge_70 rfl ?_
      refine v_bipush 71 C (iZ (-6)) dX4_hinge_71 (by decide) ?_
      refine v_calli 73 hA (rV_Mo 73 C L_RX4_95 lk_589 lk_22 (m4_refuse hm hI hM 6 (by decide) (by decide)) (vm.o hm) rfl ⟨rfl, rfl⟩ (rm_ok rfl) dX4_hinge_73) (fun r7 w8 h9 => ?_)
      obtain ⟨e_r7, rfl⟩ := h9
      refine v_eqi (iZ (-6)) (e_r7) ?_
      exact v_iret 76 C (⟨rfl, refM4 S b 6, rfl, refRM hM, refC⟩) dX4_hinge_76
    · skip
      refine v_iconst 36 C (iZ 1) dX4_hinge_36 rfl ?_
      refine v_goto 37 41 C dX4_hinge_37 (by decide) ?_
      refine z_icmp_ge 41 51 C (by first | assumption | exact ⟨by omega, by omega⟩) (by first | assumption | exact ⟨by omega, by omega⟩) dX4_hinge_41 (by decide) (fun c41_3 => ?_) (fun c41_3 => absurd (by rw [if_pos cK] at h4; omega) c41_3)
      refine v_iload_n 51 4 C dX4_hinge_51 rfl ?_
      refine v_aload_n 52 1 C dX4_hinge_52 rfl ?_
      refine v_aload_n 53 1 C dX4_hinge_53 rfl ?_
      refine g_Mo_on 54 C (vm.o hm).1 (vm.o hm).2 lk_503 dX4_hinge_54 ?_
      refine v_iconst 57 C (iZ 2) dX4_hinge_57 rfl ?_
      refine v_iload_n 58 2 C dX4_hinge_58 rfl ?_
      refine z_imul 59 C dX4_hinge_59 ?_
      refine v_iload 60 0 C dX4_hinge_60 rfl ?_
      refine z_iadd 62 C dX4_hinge_62 ?_
      refine v_iald 63 C (vm.a hm 47 (by decide) rfl).1 (vm.a hm 47 (by decide) rfl).2 (2 * k + 1) (izn (by omega)) (lnx (show ln 47 = 60 from rfl) (by omega)) dX4_hinge_63 ?_
      refine v_eqi (iZ ((hgU b k f : Nat) : Int)) ((hM.2.2.1 (2 * k + 1) (by omega)).1.trans (by rw [eU])) ?_
      refine v_calli 64 hA (rV_Mo 64 C L_RX4_152 lk_613 lk_25 (m4_sizeOf hm hI hM hu) (vm.o hm) rfl ⟨rfl, rfl⟩ (rm_ok rfl) dX4_hinge_64) (fun r10 w11 h12 => ?_)
      obtain ⟨e_r10, rfl⟩ := h12
      refine v_eqi (iZ (szL b (hgU b k f))) (e_r10) ?_
      refine z_icmp_le 67 77 C (by first | assumption | exact ⟨by omega, by omega⟩) (by first | assumption | exact ⟨by omega, by omega⟩) dX4_hinge_67 (by decide) (fun c67_4 => absurd c67_4 (by omega)) (fun c67_4 => ?_)
      refine v_aload_n 70 1 C dX4_hinge_70 rfl ?_
      refine v_bipush 71 C (iZ (-6)) dX4_hinge_71 (by decide) ?_
      refine v_calli 73 hA (rV_Mo 73 C L_RX4_95 lk_589 lk_22 (m4_refuse hm hI hM 6 (by decide) (by decide)) (vm.o hm) rfl ⟨rfl, rfl⟩ (rm_ok rfl) dX4_hinge_73) (fun r13 w14 h15 => ?_)
      obtain ⟨e_r13, rfl⟩ := h15
      refine v_eqi (iZ (-6)) (e_r13) ?_
      exact v_iret 76 C (⟨rfl, refM4 S b 6, rfl, refRM hM, refC⟩) dX4_hinge_76
  · skip
    have hU : hgU b k f = (b 4 (2 * k)).toNat := if_neg q
    have hu : thL b (hgU b k f) := by rw [hU]; exact J0.2.2.2 ht
    have hsz := szL_b hI hu
    have eU : b 4 (2 * k) = ((hgU b k f : Nat) : Int) := by rw [hU]; omega
    refine v_aload_n 0 0 C dX4_hinge_0 rfl ?_
    refine v_iload_n 1 1 C dX4_hinge_1 rfl ?_
    refine v_calli 2 hA (rV_Mo 2 C L_RX4_160 lk_658 lk_32 (m4_isPart hm hI hM (by first | assumption | exact ⟨by omega, by omega⟩)) (vm.o hm) rfl ⟨rfl, rfl⟩ (rm_ok rfl) dX4_hinge_2) (fun r16 w17 h18 => ?_)
    obtain ⟨e_r16, rfl⟩ := h18
    refine v_eqi (iZ (bz (isPb b (k : Int)))) (e_r16) ?_
    refine z_if_ne 5 14 C (bzr _) dX4_hinge_5 (by decide) (fun c5_0 => ?_) (fun c5_0 => absurd c5_0 (by rw [isPb_y hI hk ht]; decide))
    refine v_iload_n 14 2 C dX4_hinge_14 rfl ?_
    refine z_if_eq 15 22 C (by first | assumption | exact ⟨by omega, by omega⟩) dX4_hinge_15 (by decide) (fun c15_1 => absurd c15_1 (q)) (fun c15_1 => ?_)
    refine v_iconst 18 C (iZ 0) dX4_hinge_18 rfl ?_
    refine v_goto 19 23 C dX4_hinge_19 (by decide) ?_
    refine v_istore 23 [(4, .int (iZ 0)), (0, .ref (ad 45)), (1, .int (iZ (k : Int))), (2, .int (iZ f)), (3, .int (iZ v))] C dX4_hinge_23 (by decide) rfl ?_
    refine v_iload_n 25 4 C dX4_hinge_25 rfl ?_
    refine v_aload_n 26 1 C dX4_hinge_26 rfl ?_
    refine g_Mo_kind 27 C (vm.o hm).1 (vm.o hm).2 lk_502 dX4_hinge_27 ?_
    refine v_iload_n 30 2 C dX4_hinge_30 rfl ?_
    refine v_iald 31 C (vm.a hm 46 (by decide) rfl).1 (vm.a hm 46 (by decide) rfl).2 k (izn (by omega)) (lnx (show ln 46 = 30 from rfl) (by omega)) dX4_hinge_31 ?_
    refine v_eqi (iZ (b 3 k)) ((hM.2.1 k hk).1) ?_
    refine v_iconst 32 C (iZ 1) dX4_hinge_32 rfl ?_
    refine z_icmp_ne 33 40 C (by first | assumption | exact ⟨by omega, by omega⟩) (by first | assumption | exact ⟨by omega, by omega⟩) dX4_hinge_33 (by decide) (fun cK => ?_) (fun cK => ?_)
    · skip
      refine v_iconst 40 C (iZ 0) dX4_hinge_40 rfl ?_
      refine z_icmp_ge 41 51 C (by first | assumption | exact ⟨by omega, by omega⟩) (by first | assumption | exact ⟨by omega, by omega⟩) dX4_hinge_41 (by decide) (fun c41_3 => ?_) (fun c41_3 => absurd (by rw [if_neg cK] at h4; omega) c41_3)
      refine v_iload_n 51 4 C dX4_hinge_51 rfl ?_
      refine v_aload_n 52 1 C dX4_hinge_52 rfl ?_
      refine v_aload_n 53 1 C dX4_hinge_53 rfl ?_
      refine g_Mo_on 54 C (vm.o hm).1 (vm.o hm).2 lk_503 dX4_hinge_54 ?_
      refine v_iconst 57 C (iZ 2) dX4_hinge_57 rfl ?_
      refine v_iload_n 58 2 C dX4_hinge_58 rfl ?_
      refine z_imul 59 C dX4_hinge_59 ?_
      refine v_iload 60 0 C dX4_hinge_60 rfl ?_
      refine z_iadd 62 C dX4_hinge_62 ?_
      refine v_iald 63 C (vm.a hm 47 (by decide) rfl).1 (vm.a hm 47 (by decide) rfl).2 (2 * k) (izn (by omega)) (lnx (show ln 47 = 60 from rfl) (by omega)) dX4_hinge_63 ?_
      refine v_eqi (iZ ((hgU b k f : Nat) : Int)) ((hM.2.2.1 (2 * k) (by omega)).1.trans (by rw [eU])) ?_
      refine v_calli 64 hA (rV_Mo 64 C L_RX4_152 lk_613 lk_25 (m4_sizeOf hm hI hM hu) (vm.o hm) rfl ⟨rfl, rfl⟩ (rm_ok rfl) dX4_hinge_64) (fun r19 w20 h21 => ?_)
      obtain ⟨e_r19, rfl⟩ := h21
      refine v_eqi (iZ (szL b (hgU b k f))) (e_r19) ?_
      refine z_icmp_le 67 77 C (by first | assumption | exact ⟨by omega, by omega⟩) (by first | assumption | exact ⟨by omega, by omega⟩) dX4_hinge_67 (by decide) (fun c67_4 => absurd c67_4 (by omega)) (fun c67_4 => ?_)
      refine v_aload_n 70 1 C dX4_hinge_70 rfl ?_
      refine v_bipush 71 C (iZ (-6)) dX4_hinge_71 (by decide) ?_
      refine v_calli 73 hA (rV_Mo 73 C L_RX4_95 lk_589 lk_22 (m4_refuse hm hI hM 6 (by decide) (by decide)) (vm.o hm) rfl ⟨rfl, rfl⟩ (rm_ok rfl) dX4_hinge_73) (fun r22 w23 h24 => ?_)
      obtain ⟨e_r22, rfl⟩ := h24
      refine v_eqi (iZ (-6)) (e_r22) ?_
      exact v_iret 76 C (⟨rfl, refM4 S b 6, rfl, refRM hM, refC⟩) dX4_hinge_76
    · skip
      refine v_iconst 36 C (iZ 1) dX4_hinge_36 rfl ?_
      refine v_goto 37 41 C dX4_hinge_37 (by decide) ?_
      refine z_icmp_ge 41 51 C (by first | assumption | exact ⟨by omega, by omega⟩) (by first | assumption | exact ⟨by omega, by omega⟩) dX4_hinge_41 (by decide) (fun c41_3 => ?_) (fun c41_3 => absurd (by rw [if_pos cK] at h4; omega) c41_3)
      refine v_iload_n 51 4 C dX4_hinge_51 rfl ?_
      refine v_aload_n 52 1 C dX4_hinge_52 rfl ?_
      refine v_aload_n 53 1 C dX4_hinge_53 rfl ?_
      refine g_Mo_on 54 C (vm.o hm).1 (vm.o hm).2 lk_503 dX4_hinge_54 ?_
      refine v_iconst 57 C (iZ 2) dX4_hinge_57 rfl ?_
      refine v_iload_n 58 2 C dX4_hinge_58 rfl ?_
      refine z_imul 59 C dX4_hinge_59 ?_
      refine v_iload 60 0 C dX4_hinge_60 rfl ?_
      refine z_iadd 62 C dX4_hinge_62 ?_
      refine v_iald 63 C (vm.a hm 47 (by decide) rfl).1 (vm.a hm 47 (by decide) rfl).2 (2 * k) (izn (by omega)) (lnx (show ln 47 = 60 from rfl) (by omega)) dX4_hinge_63 ?_
      refine v_eqi (iZ ((hgU b k f : Nat) : Int)) ((hM.2.2.1 (2 * k) (by omega)).1.trans (by rw [eU])) ?_
      refine v_calli 64 hA (rV_Mo 64 C L_RX4_152 lk_613 lk_25 (m4_sizeOf hm hI hM hu) (vm.o hm) rfl ⟨rfl, rfl⟩ (rm_ok rfl) dX4_hinge_64) (fun r25 w26 h27 => ?_)
      obtain ⟨e_r25, rfl⟩ := h27
      refine v_eqi (iZ (szL b (hgU b k f))) (e_r25) ?_
      refine z_icmp_le 67 77 C (by first | assumption | exact ⟨by omega, by omega⟩) (by first | assumption | exact ⟨by omega, by omega⟩) dX4_hinge_67 (by decide) (fun c67_4 => absurd c67_4 (by omega)) (fun c67_4 => ?_)
      refine v_aload_n 70 1 C dX4_hinge_70 rfl ?_
      refine v_bipush 71 C (iZ (-6)) dX4_hinge_71 (by decide) ?_
      refine v_calli 73 hA (rV_Mo 73 C L_RX4_95 lk_589 lk_22 (m4_refuse hm hI hM 6 (by decide) (by decide)) (vm.o hm) rfl ⟨rfl, rfl⟩ (rm_ok rfl) dX4_hinge_73) (fun r28 w29 h30 => ?_)
      obtain ⟨e_r28, rfl⟩ := h30
      refine v_eqi (iZ (-6)) (e_r28) ?_
      exact v_iret 76 C (⟨rfl, refM4 S b 6, rfl, refRM hM, refC⟩) dX4_hinge_76

set_option maxHeartbeats 4000000 in
set_option maxRecDepth 100000 in
theorem d_hinge {l : Launch} {D : va_G} {kc : Nat → ClassId} {N : Nat} {ad : Nat → Nat} {S : St} {b : Bs} (hm : vm N) (hI : Inv b) (hM : RM S b) {t : Ts} (hE : LE b t) {k : Nat} (hk : k < bn b) (ht : b 8 k = 1) {f v : Int} (hf : b01 f) (rv : r32 v) (h4 : (if b 3 k = 1 then 1 else 0) ≤ v) (h6 : v ≤ szL b (hgU b k f)) : MetK l yX4_hinge cX4_hinge 6 (some FieldType.int) 3 0 0 70 D kc (wl kc N ad S) [.ref (ad 45), .int (iZ (k : Int)), .int (iZ f), .int (iZ v)] (QI D kc (wl kc N ad S) (mQ kc N ad S (if f = 0 then b 5 (2 * k + 1) else b 5 (2 * k)) (hgB b k f v))) := by
  refine MetK.of (by decide +kernel) (Nat.le_of_ble_eq_true rfl) ?_
  intro p e s m below meth c C
  have hA : ∀ q, s.heap.size ≤ q → va_A (wl kc N ad S) s.heap.size q := fun _ h => Or.inr h
  show V p l e { frames := 3, cells := 0, slots := 0, locals := 70 } s m ([.ref (ad 45), .int (iZ (k : Int)), .int (iZ f), .int (iZ v)] : List Value).toArray below meth c (MQ below (QI D kc (wl kc N ad S) (mQ kc N ad S (if f = 0 then b 5 (2 * k + 1) else b 5 (2 * k)) (hgB b k f v)) s.heap.size) ([.ref (ad 45), .int (iZ (k : Int)), .int (iZ f), .int (iZ v)] : List Value).toArray s 0 0 (va_A (wl kc N ad S) s.heap.size)) D (va_A (wl kc N ad S) s.heap.size) 6 0 0 (wl kc N ad S) 0 [(0, .ref (ad 45)), (1, .int (iZ (k : Int))), (2, .int (iZ f)), (3, .int (iZ v))] []
  have hb0 := hI.1
  have J0 := hI.2.2.2.2 k hk (2 * k) (Or.inl rfl)
  have J1 := hI.2.2.2.2 k hk (2 * k + 1) (Or.inr rfl)
  have J := hI.2.2.2.1 k hk
  by_cases q : f = 0
  · skip
    have hU : hgU b k f = (b 4 (2 * k + 1)).toNat := if_pos q
    have hu : thL b (hgU b k f) := by rw [hU]; exact J1.2.2.2 ht
    have hsz := szL_b hI hu
    have eU : b 4 (2 * k + 1) = ((hgU b k f : Nat) : Int) := by rw [hU]; omega
    refine v_aload_n 0 0 C dX4_hinge_0 rfl ?_
    refine v_iload_n 1 1 C dX4_hinge_1 rfl ?_
    refine v_calli 2 hA (rV_Mo 2 C L_RX4_160 lk_658 lk_32 (m4_isPart hm hI hM (by first | assumption | exact ⟨by omega, by omega⟩)) (vm.o hm) rfl ⟨rfl, rfl⟩ (rm_ok rfl) dX4_hinge_2) (fun r1 w2 h3 => ?_)
    obtain ⟨e_r1, rfl⟩ := h3
    refine v_eqi (iZ (bz (isPb b (k : Int)))) (e_r1) ?_
    refine z_if_ne 5 14 C (bzr _) dX4_hinge_5 (by decide) (fun c5_0 => ?_) (fun c5_0 => absurd c5_0 (by rw [isPb_y hI hk ht]; decide))
    refine v_iload_n 14 2 C dX4_hinge_14 rfl ?_
    refine z_if_eq 15 22 C (by first | assumption | exact ⟨by omega, by omega⟩) dX4_hinge_15 (by decide) (fun c15_1 => ?_) (fun c15_1 => absurd (q) c15_1)
    refine v_iconst 22 C (iZ 1) dX4_hinge_22 rfl ?_
    refine v_istore 23 [(4, .int (iZ 1)), (0, .ref (ad 45)), (1, .int (iZ (k : Int))), (2, .int (iZ f)), (3, .int (iZ v))] C dX4_hinge_23 (by decide) rfl ?_
    refine v_iload_n 25 4 C dX4_hinge_25 rfl ?_
    refine v_aload_n 26 1 C dX4_hinge_26 rfl ?_
    refine g_Mo_kind 27 C (vm.o hm).1 (vm.o hm).2 lk_502 dX4_hinge_27 ?_
    refine v_iload_n 30 2 C dX4_hinge_30 rfl ?_
    refine v_iald 31 C (vm.a hm 46 (by decide) rfl).1 (vm.a hm 46 (by decide) rfl).2 k (izn (by omega)) (lnx (show ln 46 = 30 from rfl) (by omega)) dX4_hinge_31 ?_
    refine v_eqi (iZ (b 3 k)) ((hM.2.1 k hk).1) ?_
    refine v_iconst 32 C (iZ 1) dX4_hinge_32 rfl ?_
    refine z_icmp_ne 33 40 C (by first | assumption | exact ⟨by omega, by omega⟩) (by first | assumption | exact ⟨by omega, by omega⟩) dX4_hinge_33 (by decide) (fun cK => ?_) (fun cK => ?_)
    · skip
      refine v_iconst 40 C (iZ 0) dX4_hinge_40 rfl ?_
      refine z_icmp_ge 41 51 C (by first | assumption | exact ⟨by omega, by omega⟩) (by first | assumption | exact ⟨by omega, by omega⟩) dX4_hinge_41 (by decide) (fun c41_3 => ?_) (fun c41_3 => absurd (by rw [if_neg cK] at h4; omega) c41_3)
      refine v_iload_n 51 4 C dX4_hinge_51 rfl ?_
      refine v_aload_n 52 1 C dX4_hinge_52 rfl ?_
      refine v_aload_n 53 1 C dX4_hinge_53 rfl ?_
      refine g_Mo_on 54 C (vm.o hm).1 (vm.o hm).2 lk_503 dX4_hinge_54 ?_
      refine v_iconst 57 C (iZ 2) dX4_hinge_57 rfl ?_
      refine v_iload_n 58 2 C dX4_hinge_58 rfl ?_
      refine z_imul 59 C dX4_hinge_59 ?_
      refine v_iload 60 0 C dX4_hinge_60 rfl ?_
      refine z_iadd 62 C dX4_hinge_62 ?_
      refine v_iald 63 C (vm.a hm 47 (by decide) rfl).1 (vm.a hm 47 (by decide) rfl).2 (2 * k + 1) (izn (by omega)) (lnx (show ln 47 = 60 from rfl) (by omega)) dX4_hinge_63 ?_
      refine v_eqi (iZ ((hgU b k f : Nat) : Int)) ((hM.2.2.1 (2 * k + 1) (by omega)).1.trans (by rw [eU])) ?_
      refine v_calli 64 hA (rV_Mo 64 C L_RX4_152 lk_613 lk_25 (m4_sizeOf hm hI hM hu) (vm.o hm) rfl ⟨rfl, rfl⟩ (rm_ok rfl) dX4_hinge_64) (fun r4 w5 h6 => ?_)
      obtain ⟨e_r4, rfl⟩ := h6
      refine v_eqi (iZ (szL b (hgU b k f))) (e_r4) ?_
      refine z_icmp_le 67 77 C (by first | assumption | exact ⟨by omega, by omega⟩) (by first | assumption | exact ⟨by omega, by omega⟩) dX4_hinge_67 (by decide) (fun c67_4 => ?_) (fun c67_4 => absurd (by omega) c67_4)
      refine v_aload_n 77 1 C dX4_hinge_77 rfl ?_
      refine g_Mo_far 78 C (vm.o hm).1 (vm.o hm).2 lk_504 dX4_hinge_78 ?_
      refine v_iconst 81 C (iZ 2) dX4_hinge_81 rfl ?_
      refine v_iload_n 82 2 C dX4_hinge_82 rfl ?_
      refine z_imul 83 C dX4_hinge_83 ?_
      refine v_iload 84 0 C dX4_hinge_84 rfl ?_
      refine z_iadd 86 C dX4_hinge_86 ?_
      refine v_iald 87 C (vm.a hm 48 (by decide) rfl).1 (vm.a hm 48 (by decide) rfl).2 (2 * k + 1) (izn (by omega)) (lnx (show ln 48 = 60 from rfl) (by omega)) dX4_hinge_87 ?_
      refine v_eqi (iZ (b 5 (2 * k + 1))) ((hM.2.2.1 (2 * k + 1) (by omega)).2.1) ?_
      refine v_istore 88 [(5, .int (iZ (b 5 (2 * k + 1)))), (4, .int (iZ 1)), (0, .ref (ad 45)), (1, .int (iZ (k : Int))), (2, .int (iZ f)), (3, .int (iZ v))] C dX4_hinge_88 (by decide) rfl ?_
      refine v_aload_n 90 2 C dX4_hinge_90 rfl ?_
      refine v_iload_n 91 3 C dX4_hinge_91 rfl ?_
      refine v_iload 92 1 C dX4_hinge_92 rfl ?_
      refine v_iload_n 94 5 C dX4_hinge_94 rfl ?_
      refine v_callv 95 hA (rV_Mo 95 C L_RX4_166 lk_670 lk_34 (m4_hang (f := f) hm hI hM hk hf (by rw [if_pos q])) (vm.o hm) rfl ⟨rfl, rfl⟩ (rm_ok rfl) dX4_hinge_95) (fun w8 h9 => ?_)
      obtain rfl := h9
      refine v_iload 98 0 C dX4_hinge_98 rfl ?_
      exact v_iret 100 C (⟨by rw [if_pos q], hgS S b k f v, rfl, hgS_RM hM, hgS_C⟩) dX4_hinge_100
    · skip
      refine v_iconst 36 C (iZ 1) dX4_hinge_36 rfl ?_
      refine v_goto 37 41 C dX4_hinge_37 (by decide) ?_
      refine z_icmp_ge 41 51 C (by first | assumption | exact ⟨by omega, by omega⟩) (by first | assumption | exact ⟨by omega, by omega⟩) dX4_hinge_41 (by decide) (fun c41_3 => ?_) (fun c41_3 => absurd (by rw [if_pos cK] at h4; omega) c41_3)
      refine v_iload_n 51 4 C dX4_hinge_51 rfl ?_
      refine v_aload_n 52 1 C dX4_hinge_52 rfl ?_
      refine v_aload_n 53 1 C dX4_hinge_53 rfl ?_
      refine g_Mo_on 54 C (vm.o hm).1 (vm.o hm).2 lk_503 dX4_hinge_54 ?_
      refine v_iconst 57 C (iZ 2) dX4_hinge_57 rfl ?_
      refine v_iload_n 58 2 C dX4_hinge_58 rfl ?_
      refine z_imul 59 C dX4_hinge_59 ?_
      refine v_iload 60 0 C dX4_hinge_60 rfl ?_
      refine z_iadd 62 C dX4_hinge_62 ?_
      refine v_iald 63 C (vm.a hm 47 (by decide) rfl).1 (vm.a hm 47 (by decide) rfl).2 (2 * k + 1) (izn (by omega)) (lnx (show ln 47 = 60 from rfl) (by omega)) dX4_hinge_63 ?_
      refine v_eqi (iZ ((hgU b k f : Nat) : Int)) ((hM.2.2.1 (2 * k + 1) (by omega)).1.trans (by rw [eU])) ?_
      refine v_calli 64 hA (rV_Mo 64 C L_RX4_152 lk_613 lk_25 (m4_sizeOf hm hI hM hu) (vm.o hm) rfl ⟨rfl, rfl⟩ (rm_ok rfl) dX4_hinge_64) (fun r10 w11 h12 => ?_)
      obtain ⟨e_r10, rfl⟩ := h12
      refine v_eqi (iZ (szL b (hgU b k f))) (e_r10) ?_
      refine z_icmp_le 67 77 C (by first | assumption | exact ⟨by omega, by omega⟩) (by first | assumption | exact ⟨by omega, by omega⟩) dX4_hinge_67 (by decide) (fun c67_4 => ?_) (fun c67_4 => absurd (by omega) c67_4)
      refine v_aload_n 77 1 C dX4_hinge_77 rfl ?_
      refine g_Mo_far 78 C (vm.o hm).1 (vm.o hm).2 lk_504 dX4_hinge_78 ?_
      refine v_iconst 81 C (iZ 2) dX4_hinge_81 rfl ?_
      refine v_iload_n 82 2 C dX4_hinge_82 rfl ?_
      refine z_imul 83 C dX4_hinge_83 ?_
      refine v_iload 84 0 C dX4_hinge_84 rfl ?_
      refine z_iadd 86 C dX4_hinge_86 ?_
      refine v_iald 87 C (vm.a hm 48 (by decide) rfl).1 (vm.a hm 48 (by decide) rfl).2 (2 * k + 1) (izn (by omega)) (lnx (show ln 48 = 60 from rfl) (by omega)) dX4_hinge_87 ?_
      refine v_eqi (iZ (b 5 (2 * k + 1))) ((hM.2.2.1 (2 * k + 1) (by omega)).2.1) ?_
      refine v_istore 88 [(5, .int (iZ (b 5 (2 * k + 1)))), (4, .int (iZ 1)), (0, .ref (ad 45)), (1, .int (iZ (k : Int))), (2, .int (iZ f)), (3, .int (iZ v))] C dX4_hinge_88 (by decide) rfl ?_
      refine v_aload_n 90 2 C dX4_hinge_90 rfl ?_
      refine v_iload_n 91 3 C dX4_hinge_91 rfl ?_
      refine v_iload 92 1 C dX4_hinge_92 rfl ?_
      refine v_iload_n 94 5 C dX4_hinge_94 rfl ?_
      refine v_callv 95 hA (rV_Mo 95 C L_RX4_166 lk_670 lk_34 (m4_hang (f := f) hm hI hM hk hf (by rw [if_pos q])) (vm.o hm) rfl ⟨rfl, rfl⟩ (rm_ok rfl) dX4_hinge_95) (fun w14 h15 => ?_)
      obtain rfl := h15
      refine v_iload 98 0 C dX4_hinge_98 rfl ?_
      exact v_iret 100 C (⟨by rw [if_pos q], hgS S b k f v, rfl, hgS_RM hM, hgS_C⟩) dX4_hinge_100
  · skip
    have hU : hgU b k f = (b 4 (2 * k)).toNat := if_neg q
    have hu : thL b (hgU b k f) := by rw [hU]; exact J0.2.2.2 ht
    have hsz := szL_b hI hu
    have eU : b 4 (2 * k) = ((hgU b k f : Nat) : Int) := by rw [hU]; omega
    refine v_aload_n 0 0 C dX4_hinge_0 rfl ?_
    refine v_iload_n 1 1 C dX4_hinge_1 rfl ?_
    refine v_calli 2 hA (rV_Mo 2 C L_RX4_160 lk_658 lk_32 (m4_isPart hm hI hM (by first | assumption | exact ⟨by omega, by omega⟩)) (vm.o hm) rfl ⟨rfl, rfl⟩ (rm_ok rfl) dX4_hinge_2) (fun r16 w17 h18 => ?_)
    obtain ⟨e_r16, rfl⟩ := h18
    refine v_eqi (iZ (bz (isPb b (k : Int)))) (e_r16) ?_
    refine z_if_ne 5 14 C (bzr _) dX4_hinge_5 (by decide) (fun c5_0 => ?_) (fun c5_0 => absurd c5_0 (by rw [isPb_y hI hk ht]; decide))
    refine v_iload_n 14 2 C dX4_hinge_14 rfl ?_
    refine z_if_eq 15 22 C (by first | assumption | exact ⟨by omega, by omega⟩) dX4_hinge_15 (by decide) (fun c15_1 => absurd c15_1 (q)) (fun c15_1 => ?_)
    refine v_iconst 18 C (iZ 0) dX4_hinge_18 rfl ?_
    refine v_goto 19 23 C dX4_hinge_19 (by decide) ?_
    refine v_istore 23 [(4, .int (iZ 0)), (0, .ref (ad 45)), (1, .int (iZ (k : Int))), (2, .int (iZ f)), (3, .int (iZ v))] C dX4_hinge_23 (by decide) rfl ?_
    refine v_iload_n 25 4 C dX4_hinge_25 rfl ?_
    refine v_aload_n 26 1 C dX4_hinge_26 rfl ?_
    refine g_Mo_kind 27 C (vm.o hm).1 (vm.o hm).2 lk_502 dX4_hinge_27 ?_
    refine v_iload_n 30 2 C dX4_hinge_30 rfl ?_
    refine v_iald 31 C (vm.a hm 46 (by decide) rfl).1 (vm.a hm 46 (by decide) rfl).2 k (izn (by omega)) (lnx (show ln 46 = 30 from rfl) (by omega)) dX4_hinge_31 ?_
    refine v_eqi (iZ (b 3 k)) ((hM.2.1 k hk).1) ?_
    refine v_iconst 32 C (iZ 1) dX4_hinge_32 rfl ?_
    refine z_icmp_ne 33 40 C (by first | assumption | exact ⟨by omega, by omega⟩) (by first | assumption | exact ⟨by omega, by omega⟩) dX4_hinge_33 (by decide) (fun cK => ?_) (fun cK => ?_)
    · skip
      refine v_iconst 40 C (iZ 0) dX4_hinge_40 rfl ?_
      refine z_icmp_ge 41 51 C (by first | assumption | exact ⟨by omega, by omega⟩) (by first | assumption | exact ⟨by omega, by omega⟩) dX4_hinge_41 (by decide) (fun c41_3 => ?_) (fun c41_3 => absurd (by rw [if_neg cK] at h4; omega) c41_3)
      refine v_iload_n 51 4 C dX4_hinge_51 rfl ?_
      refine v_aload_n 52 1 C dX4_hinge_52 rfl ?_
      refine v_aload_n 53 1 C dX4_hinge_53 rfl ?_
      refine g_Mo_on 54 C (vm.o hm).1 (vm.o hm).2 lk_503 dX4_hinge_54 ?_
      refine v_iconst 57 C (iZ 2) dX4_hinge_57 rfl ?_
      refine v_iload_n 58 2 C dX4_hinge_58 rfl ?_
      refine z_imul 59 C dX4_hinge_59 ?_
      refine v_iload 60 0 C dX4_hinge_60 rfl ?_
      refine z_iadd 62 C dX4_hinge_62 ?_
      refine v_iald 63 C (vm.a hm 47 (by decide) rfl).1 (vm.a hm 47 (by decide) rfl).2 (2 * k) (izn (by omega)) (lnx (show ln 47 = 60 from rfl) (by omega)) dX4_hinge_63 ?_
      refine v_eqi (iZ ((hgU b k f : Nat) : Int)) ((hM.2.2.1 (2 * k) (by omega)).1.trans (by rw [eU])) ?_
      refine v_calli 64 hA (rV_Mo 64 C L_RX4_152 lk_613 lk_25 (m4_sizeOf hm hI hM hu) (vm.o hm) rfl ⟨rfl, rfl⟩ (rm_ok rfl) dX4_hinge_64) (fun r19 w20 h21 => ?_)
      obtain ⟨e_r19, rfl⟩ := h21
      refine v_eqi (iZ (szL b (hgU b k f))) (e_r19) ?_
      refine z_icmp_le 67 77 C (by first | assumption | exact ⟨by omega, by omega⟩) (by first | assumption | exact ⟨by omega, by omega⟩) dX4_hinge_67 (by decide) (fun c67_4 => ?_) (fun c67_4 => absurd (by omega) c67_4)
      refine v_aload_n 77 1 C dX4_hinge_77 rfl ?_
      refine g_Mo_far 78 C (vm.o hm).1 (vm.o hm).2 lk_504 dX4_hinge_78 ?_
      refine v_iconst 81 C (iZ 2) dX4_hinge_81 rfl ?_
      refine v_iload_n 82 2 C dX4_hinge_82 rfl ?_
      refine z_imul 83 C dX4_hinge_83 ?_
      refine v_iload 84 0 C dX4_hinge_84 rfl ?_
      refine z_iadd 86 C dX4_hinge_86 ?_
      refine v_iald 87 C (vm.a hm 48 (by decide) rfl).1 (vm.a hm 48 (by decide) rfl).2 (2 * k) (izn (by omega)) (lnx (show ln 48 = 60 from rfl) (by omega)) dX4_hinge_87 ?_
      refine v_eqi (iZ (b 5 (2 * k))) ((hM.2.2.1 (2 * k) (by omega)).2.1) ?_
      refine v_istore 88 [(5, .int (iZ (b 5 (2 * k)))), (4, .int (iZ 0)), (0, .ref (ad 45)), (1, .int (iZ (k : Int))), (2, .int (iZ f)), (3, .int (iZ v))] C dX4_hinge_88 (by decide) rfl ?_
      refine v_aload_n 90 2 C dX4_hinge_90 rfl ?_
      refine v_iload_n 91 3 C dX4_hinge_91 rfl ?_
      refine v_iload 92 1 C dX4_hinge_92 rfl ?_
      refine v_iload_n 94 5 C dX4_hinge_94 rfl ?_
      refine v_callv 95 hA (rV_Mo 95 C L_RX4_166 lk_670 lk_34 (m4_hang (f := f) hm hI hM hk hf (by rw [if_neg q])) (vm.o hm) rfl ⟨rfl, rfl⟩ (rm_ok rfl) dX4_hinge_95) (fun w23 h24 => ?_)
      obtain rfl := h24
      refine v_iload 98 0 C dX4_hinge_98 rfl ?_
      exact v_iret 100 C (⟨by rw [if_neg q], hgS S b k f v, rfl, hgS_RM hM, hgS_C⟩) dX4_hinge_100
    · skip
      refine v_iconst 36 C (iZ 1) dX4_hinge_36 rfl ?_
      refine v_goto 37 41 C dX4_hinge_37 (by decide) ?_
      refine z_icmp_ge 41 51 C (by first | assumption | exact ⟨by omega, by omega⟩) (by first | assumption | exact ⟨by omega, by omega⟩) dX4_hinge_41 (by decide) (fun c41_3 => ?_) (fun c41_3 => absurd (by rw [if_pos cK] at h4; omega) c41_3)
      refine v_iload_n 51 4 C dX4_hinge_51 rfl ?_
      refine v_aload_n 52 1 C dX4_hinge_52 rfl ?_
      refine v_aload_n 53 1 C dX4_hinge_53 rfl ?_
      refine g_Mo_on 54 C (vm.o hm).1 (vm.o hm).2 lk_503 dX4_hinge_54 ?_
      refine v_iconst 57 C (iZ 2) dX4_hinge_57 rfl ?_
      refine v_iload_n 58 2 C dX4_hinge_58 rfl ?_
      refine z_imul 59 C dX4_hinge_59 ?_
      refine v_iload 60 0 C dX4_hinge_60 rfl ?_
      refine z_iadd 62 C dX4_hinge_62 ?_
      refine v_iald 63 C (vm.a hm 47 (by decide) rfl).1 (vm.a hm 47 (by decide) rfl).2 (2 * k) (izn (by omega)) (lnx (show ln 47 = 60 from rfl) (by omega)) dX4_hinge_63 ?_
      refine v_eqi (iZ ((hgU b k f : Nat) : Int)) ((hM.2.2.1 (2 * k) (by omega)).1.trans (by rw [eU])) ?_
      refine v_calli 64 hA (rV_Mo 64 C L_RX4_152 lk_613 lk_25 (m4_sizeOf hm hI hM hu) (vm.o hm) rfl ⟨rfl, rfl⟩ (rm_ok rfl) dX4_hinge_64) (fun r25 w26 h27 => ?_)
      obtain ⟨e_r25, rfl⟩ := h27
      refine v_eqi (iZ (szL b (hgU b k f))) (e_r25) ?_
      refine z_icmp_le 67 77 C (by first | assumption | exact ⟨by omega, by omega⟩) (by first | assumption | exact ⟨by omega, by omega⟩) dX4_hinge_67 (by decide) (fun c67_4 => ?_) (fun c67_4 => absurd (by omega) c67_4)
      refine v_aload_n 77 1 C dX4_hinge_77 rfl ?_
      refine g_Mo_far 78 C (vm.o hm).1 (vm.o hm).2 lk_504 dX4_hinge_78 ?_
      refine v_iconst 81 C (iZ 2) dX4_hinge_81 rfl ?_
      refine v_iload_n 82 2 C dX4_hinge_82 rfl ?_
      refine z_imul 83 C dX4_hinge_83 ?_
      refine v_iload 84 0 C dX4_hinge_84 rfl ?_
      refine z_iadd 86 C dX4_hinge_86 ?_
      refine v_iald 87 C (vm.a hm 48 (by decide) rfl).1 (vm.a hm 48 (by decide) rfl).2 (2 * k) (izn (by omega)) (lnx (show ln 48 = 60 from rfl) (by omega)) dX4_hinge_87 ?_
      refine v_eqi (iZ (b 5 (2 * k))) ((hM.2.2.1 (2 * k) (by omega)).2.1) ?_
      refine v_istore 88 [(5, .int (iZ (b 5 (2 * k)))), (4, .int (iZ 0)), (0, .ref (ad 45)), (1, .int (iZ (k : Int))), (2, .int (iZ f)), (3, .int (iZ v))] C dX4_hinge_88 (by decide) rfl ?_
      refine v_aload_n 90 2 C dX4_hinge_90 rfl ?_
      refine v_iload_n 91 3 C dX4_hinge_91 rfl ?_
      refine v_iload 92 1 C dX4_hinge_92 rfl ?_
      refine v_iload_n 94 5 C dX4_hinge_94 rfl ?_
      refine v_callv 95 hA (rV_Mo 95 C L_RX4_166 lk_670 lk_34 (m4_hang (f := f) hm hI hM hk hf (by rw [if_neg q])) (vm.o hm) rfl ⟨rfl, rfl⟩ (rm_ok rfl) dX4_hinge_95) (fun w29 h30 => ?_)
      obtain rfl := h30
      refine v_iload 98 0 C dX4_hinge_98 rfl ?_
      exact v_iret 100 C (⟨by rw [if_neg q], hgS S b k f v, rfl, hgS_RM hM, hgS_C⟩) dX4_hinge_100
