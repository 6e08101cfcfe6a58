theorem out_in {b : Bs} {t : Ts} {k j : Nat} {X Y : Int} (h : b 8 k = 1 ∧ t 4 k j = 0 ∧ X = t 2 k j ∧ Y = t 3 k j) (hq : (decide ((if j = 0 then 0 else -(b 1 0)) ≤ X ∧ X ≤ b 1 0) && decide (-(b 2 0) ≤ Y ∧ Y ≤ b 2 0)) = true) : outP b t j k = false := by
  obtain ⟨h1, h2, rfl, rfl⟩ := h
  rw [Bool.and_eq_true, decide_eq_true_eq, decide_eq_true_eq] at hq
  unfold outP
  rw [decide_eq_false (show ¬ (t 2 k j < (if j = 0 then 0 else -(b 1 0)) ∨ b 1 0 < t 2 k j) by omega), decide_eq_false (show ¬ b 2 0 < ((t 3 k j).natAbs : Int) by omega)]
  simp
theorem out_out {b : Bs} {t : Ts} {k j : Nat} {X Y : Int} (h : b 8 k = 1 ∧ t 4 k j = 0 ∧ X = t 2 k j ∧ Y = t 3 k j) (hq : (decide ((if j = 0 then 0 else -(b 1 0)) ≤ X ∧ X ≤ b 1 0) && decide (-(b 2 0) ≤ Y ∧ Y ≤ b 2 0)) = false) : outP b t j k = true := by
  obtain ⟨h1, h2, rfl, rfl⟩ := h
  have hn : ¬ (((if j = 0 then 0 else -(b 1 0)) ≤ t 2 k j ∧ t 2 k j ≤ b 1 0) ∧ (-(b 2 0) ≤ t 3 k j ∧ t 3 k j ≤ b 2 0)) := fun z => by
    rw [decide_eq_true z.1, decide_eq_true z.2] at hq; cases hq
  unfold outP
  rw [decide_eq_true h1, decide_eq_true h2]
  by_cases z : t 2 k j < (if j = 0 then 0 else -(b 1 0)) ∨ b 1 0 < t 2 k j
  · rw [decide_eq_true z]; rfl
  · rw [decide_eq_true (show b 2 0 < ((t 3 k j).natAbs : Int) by omega)]; simp
set_option maxHeartbeats 4000000 in
set_option maxRecDepth 100000 in
theorem m4_outOf {l : Launch} {D : va_G} {kc : Nat → ClassId} {N : Nat} {ad : Nat → Nat} {S : St} {b : Bs} (hm : vm N) (hI : Inv b) (hM : RM S b) {t : Ts} (hE : LE b t) {j : Nat} (hj : j < 17) : MetK l yX4_outOf cX4_outOf 5 (some FieldType.int) 6 0 0 166 D kc (wl kc N ad S) [.ref (ad 45), .int (iZ (j : Int))] (QI D kc (wl kc N ad S) (fun r ws' => r = iZ (outN b t j) ∧ ∃ S', ws' = wl kc N ad S' ∧ OpF S S')) := by
  refine MetK.of (by decide +kernel) (Nat.le_of_ble_eq_true rfl) ?_
  intro p e s m below meth c C
  have hA : ∀ q, s.heap.size ≤ q → va_A (wl kc N ad S) s.heap.size q := fun _ h => Or.inr h
  show V p l e { frames := 6, cells := 0, slots := 0, locals := 166 } s m ([.ref (ad 45), .int (iZ (j : Int))] : List Value).toArray below meth c (MQ below (QI D kc (wl kc N ad S) (fun r ws' => r = iZ (outN b t j) ∧ ∃ S', ws' = wl kc N ad S' ∧ OpF S S') s.heap.size) ([.ref (ad 45), .int (iZ (j : Int))] : List Value).toArray s 0 0 (va_A (wl kc N ad S) s.heap.size)) D (va_A (wl kc N ad S) s.heap.size) 5 0 0 (wl kc N ad S) 0 [(0, .ref (ad 45)), (1, .int (iZ (j : Int)))] []
  have hb0 := hI.1
  have hb1 := hI.2.1
  have hb2 := hI.2.2.1
  refine v_aload_n 0 0 C dX4_outOf_0 rfl ?_
  refine v_iload_n 1 1 C dX4_outOf_1 rfl ?_
  refine v_callv 2 hA (rV_Mo 2 C L_RX4_155 lk_617 lk_26 (m4_open hm hI hM hE hj) (vm.o hm) rfl ⟨rfl, rfl⟩ (rm_ok rfl) dX4_outOf_2) (fun w2 h3 => ?_)
  obtain ⟨S1, rfl, F1, O1⟩ := h3
  have M1 := F1.RM hM
  by_cases hj16 : j = 0 ∨ j = 16
  · skip
    have main : ∀ (d k : Nat), k + d = bn b → V p l e { frames := 6, cells := 0, slots := 0, locals := 166 } s m ([.ref (ad 45), .int (iZ (j : Int))] : List Value).toArray below meth c (MQ below (QI D kc (wl kc N ad S) (fun r ws' => r = iZ (outN b t j) ∧ ∃ S', ws' = wl kc N ad S' ∧ OpF S S') s.heap.size) ([.ref (ad 45), .int (iZ (j : Int))] : List Value).toArray s 0 0 (va_A (wl kc N ad S) s.heap.size)) D (va_A (wl kc N ad S) s.heap.size) 5 0 0 (wl kc N ad S1) 9 [(3, .int (iZ (k : Int))), (2, .int (iZ (cnt (outP b t j) k))), (1, .int (iZ (j : Int))), (0, .ref (ad 45))] [] := by
      intro d
      induction d with
      | zero =>
        intro k hk
        have hcb := cnt_b (outP b t j) k
        refine v_iload_n 9 0 C dX4_outOf_9 rfl ?_
        refine v_aload_n 10 3 C dX4_outOf_10 rfl ?_
        refine g_Mo_parts 11 C (vm.o hm).1 (vm.o hm).2 lk_501 dX4_outOf_11 ?_
        refine v_eqi (iZ (b 0 0)) (M1.1.2.2) ?_
        refine z_icmp_ge 14 116 C (by first | assumption | exact ⟨by omega, by omega⟩) (by first | assumption | exact ⟨by omega, by omega⟩) dX4_outOf_14 (by decide) (fun c14_0 => ?_) (fun c14_0 => absurd (by omega) c14_0)
        refine v_iload_n 116 1 C dX4_outOf_116 rfl ?_
        exact v_iret 117 C (⟨by unfold outN; rw [if_pos hj16, show k = bn b by omega], S1, rfl, F1⟩) dX4_outOf_117
      | succ d ih =>
        intro k hk
        have hcb := cnt_b (outP b t j) k
        have hk2 : k < bn b := by omega
        have ok1 := O1.2 k hk2 hk2
        obtain ⟨X, hX, rX⟩ : ∃ X : Int, gJ S1 54 k = lZ X ∧ r64 X := ⟨_, (lZ_of _).symm, r64_of _⟩
        obtain ⟨Y, hY, rY⟩ : ∃ Y : Int, gJ S1 55 k = lZ Y ∧ r64 Y := ⟨_, (lZ_of _).symm, r64_of _⟩
        obtain ⟨v, hv⟩ : ∃ v : Int, v = (if b 8 k = 1 then t 4 k j else 1) := ⟨_, rfl⟩
        rw [← hv] at ok1
        have hv01 : b01 v := by
          rw [hv]
          split
          · rename_i q; exact (hE k hk2 hk2 q j hj).1
          · exact Or.inr rfl
        have hXY : v = 0 → b 8 k = 1 ∧ t 4 k j = 0 ∧ X = t 2 k j ∧ Y = t 3 k j := fun q => by
          rw [hv] at q
          by_cases ht : b 8 k = 1
          · rw [if_pos ht] at q
            have e := ok1.2 ht q
            have B := (bd_k hI hE hk2 ht hj q).1
            rw [hX, hY] at e
            exact ⟨ht, q, (lZ_eq rX ⟨by omega, by omega⟩).mp e.1, (lZ_eq rY ⟨by omega, by omega⟩).mp e.2⟩
          · rw [if_neg ht] at q; omega
        have hnv : ¬ v = 0 → outP b t j k = false := fun q => by
          unfold outP
          by_cases ht : b 8 k = 1
          · rw [hv, if_pos ht] at q; rw [decide_eq_false q]; simp
          · rw [decide_eq_false ht]; rfl
        have tail : ∀ q : Bool, q = (decide ((if j = 0 then 0 else -(b 1 0)) ≤ X ∧ X ≤ b 1 0) && decide (-(b 2 0) ≤ Y ∧ Y ≤ b 2 0)) → V p l e { frames := 6, cells := 0, slots := 0, locals := 166 } s m ([.ref (ad 45), .int (iZ (j : Int))] : List Value).toArray below meth c (MQ below (QI D kc (wl kc N ad S) (fun r ws' => r = iZ (outN b t j) ∧ ∃ S', ws' = wl kc N ad S' ∧ OpF S S') s.heap.size) ([.ref (ad 45), .int (iZ (j : Int))] : List Value).toArray s 0 0 (va_A (wl kc N ad S) s.heap.size)) D (va_A (wl kc N ad S) s.heap.size) 5 0 0 (wl kc N ad S1) 86 [(3, .int (iZ (k : Int))), (2, .int (iZ (cnt (outP b t j) k))), (1, .int (iZ (j : Int))), (0, .ref (ad 45))] [.int (iZ (bz q))] := by
          intro q hq
          refine v_istore 86 [(4, .int (iZ (bz q))), (3, .int (iZ (k : Int))), (2, .int (iZ (cnt (outP b t j) k))), (1, .int (iZ (j : Int))), (0, .ref (ad 45))] C dX4_outOf_86 (by decide) rfl ?_
          refine v_iload_n 88 2 C dX4_outOf_88 rfl ?_
          refine v_aload_n 89 4 C dX4_outOf_89 rfl ?_
          refine g_Mo_isStuck 90 C (vm.o hm).1 (vm.o hm).2 lk_513 dX4_outOf_90 ?_
          refine v_iload_n 93 1 C dX4_outOf_93 rfl ?_
          refine v_zald 94 C (vm.a hm 56 (by decide) rfl).1 (vm.a hm 56 (by decide) rfl).2 k (izn (by omega)) (lnx (show ln 56 = 30 from rfl) (by omega)) dX4_outOf_94 ?_
          refine v_eqi (iZ v) (ok1.1) ?_
          refine z_if_ne 95 107 C (by first | assumption | exact ⟨by omega, by omega⟩) dX4_outOf_95 (by decide) (fun cV => ?_) (fun cV => ?_)
          · skip
            refine v_iconst 107 C (iZ 0) dX4_outOf_107 rfl ?_
            refine z_iadd 108 C dX4_outOf_108 ?_
            refine v_istore_n 109 [(2, .int (iZ ((cnt (outP b t j) k) + 0))), (4, .int (iZ (bz q))), (3, .int (iZ (k : Int))), (1, .int (iZ (j : Int))), (0, .ref (ad 45))] C dX4_outOf_109 (by decide) rfl ?_
            refine v_iinc 110 2 (iZ ((k + 1 : Nat) : Int)) [(3, .int (iZ ((k + 1 : Nat) : Int))), (2, .int (iZ ((cnt (outP b t j) k) + 0))), (4, .int (iZ (bz q))), (1, .int (iZ (j : Int))), (0, .ref (ad 45))] C dX4_outOf_110 rfl (iZ_add _ _) (by decide) rfl ?_
            refine v_goto 113 9 C dX4_outOf_113 (by decide) ?_
            refine v_sub [0, 1, 3, 4] rfl ?_
            have z := ih (k + 1) (by omega)
            rw [cnt_F (hnv cV), ← Int.add_zero (cnt (outP b t j) k)] at z
            exact z
          · skip
            refine v_iload 98 0 C dX4_outOf_98 rfl ?_
            refine z_if_ne 100 107 C (bzr _) dX4_outOf_100 (by decide) (fun cQ => ?_) (fun cQ => ?_)
            · skip
              refine v_iconst 107 C (iZ 0) dX4_outOf_107 rfl ?_
              refine z_iadd 108 C dX4_outOf_108 ?_
              refine v_istore_n 109 [(2, .int (iZ ((cnt (outP b t j) k) + 0))), (4, .int (iZ (bz q))), (3, .int (iZ (k : Int))), (1, .int (iZ (j : Int))), (0, .ref (ad 45))] C dX4_outOf_109 (by decide) rfl ?_
              refine v_iinc 110 2 (iZ ((k + 1 : Nat) : Int)) [(3, .int (iZ ((k + 1 : Nat) : Int))), (2, .int (iZ ((cnt (outP b t j) k) + 0))), (4, .int (iZ (bz q))), (1, .int (iZ (j : Int))), (0, .ref (ad 45))] C dX4_outOf_110 rfl (iZ_add _ _) (by decide) rfl ?_
              refine v_goto 113 9 C dX4_outOf_113 (by decide) ?_
              refine v_sub [0, 1, 3, 4] rfl ?_
              have z := ih (k + 1) (by omega)
              rw [cnt_F (out_in (hXY cV) (hq ▸ bz_ne cQ)), ← Int.add_zero (cnt (outP b t j) k)] at z
              exact z
            · skip
              refine v_iconst 103 C (iZ 1) dX4_outOf_103 rfl ?_
              refine v_goto 104 108 C dX4_outOf_104 (by decide) ?_
              refine z_iadd 108 C dX4_outOf_108 ?_
              refine v_istore_n 109 [(2, .int (iZ ((cnt (outP b t j) k) + 1))), (4, .int (iZ (bz q))), (3, .int (iZ (k : Int))), (1, .int (iZ (j : Int))), (0, .ref (ad 45))] C dX4_outOf_109 (by decide) rfl ?_
              refine v_iinc 110 2 (iZ ((k + 1 : Nat) : Int)) [(3, .int (iZ ((k + 1 : Nat) : Int))), (2, .int (iZ ((cnt (outP b t j) k) + 1))), (4, .int (iZ (bz q))), (1, .int (iZ (j : Int))), (0, .ref (ad 45))] C dX4_outOf_110 rfl (iZ_add _ _) (by decide) rfl ?_
              refine v_goto 113 9 C dX4_outOf_113 (by decide) ?_
              refine v_sub [0, 1, 3, 4] rfl ?_
              have z := ih (k + 1) (by omega)
              rw [cnt_T (out_out (hXY cV) (hq ▸ bz_eq cQ))] at z
              exact z
        by_cases j0 : j = 0
        · skip
          refine v_iload_n 9 0 C dX4_outOf_9 rfl ?_
          refine v_aload_n 10 3 C dX4_outOf_10 rfl ?_
          refine g_Mo_parts 11 C (vm.o hm).1 (vm.o hm).2 lk_501 dX4_outOf_11 ?_
          refine v_eqi (iZ (b 0 0)) (M1.1.2.2) ?_
          refine z_icmp_ge 14 116 C (by first | assumption | exact ⟨by omega, by omega⟩) (by first | assumption | exact ⟨by omega, by omega⟩) dX4_outOf_14 (by decide) (fun c14_0 => absurd c14_0 (by omega)) (fun c14_0 => ?_)
          refine v_iload_n 17 2 C dX4_outOf_17 rfl ?_
          refine z_if_eq 18 27 C (by first | assumption | exact ⟨by omega, by omega⟩) dX4_outOf_18 (by decide) (fun c18_1 => ?_) (fun c18_1 => absurd (by omega) c18_1)
          refine v_aload_n 27 3 C dX4_outOf_27 rfl ?_
          refine g_Mo_atX 28 C (vm.o hm).1 (vm.o hm).2 lk_511 dX4_outOf_28 ?_
          refine v_iload_n 31 0 C dX4_outOf_31 rfl ?_
          refine v_lald 32 C (vm.a hm 54 (by decide) rfl).1 (vm.a hm 54 (by decide) rfl).2 k (izn (by omega)) (lnx (show ln 54 = 30 from rfl) (by omega)) dX4_outOf_32 ?_
          refine v_eql (lZ X) (hX) ?_
          refine v_iload_n 33 2 C dX4_outOf_33 rfl ?_
          refine z_if_ne 34 41 C (by first | assumption | exact ⟨by omega, by omega⟩) dX4_outOf_34 (by decide) (fun c34_2 => absurd c34_2 (by omega)) (fun c34_2 => ?_)
          refine v_lconst 37 C (lZ 0) dX4_outOf_37 (by decide) ?_
          refine v_goto 38 47 C dX4_outOf_38 (by decide) ?_
          refine v_aload_n 47 3 C dX4_outOf_47 rfl ?_
          refine g_Mo_width 48 C (vm.o hm).1 (vm.o hm).2 lk_499 dX4_outOf_48 ?_
          refine v_eqi (iZ (b 1 0)) (M1.1.1) ?_
          refine z_i2l 51 C (by first | assumption | exact ⟨by omega, by omega⟩) dX4_outOf_51 ?_
          refine v_calli 52 hA (rS 52 C L_RX4_83 lk_604 (m4_in rX (by first | assumption | exact ⟨by omega, by omega⟩) (by first | assumption | exact ⟨by omega, by omega⟩)) rfl rfl (rm_ok rfl) dX4_outOf_52) (fun r4 w5 h6 => ?_)
          obtain ⟨e_r4, rfl⟩ := h6
          refine v_eqi (iZ (bz (decide (0 ≤ X ∧ X ≤ b 1 0)))) (e_r4) ?_
          refine z_if_eq 55 85 C (bzr _) dX4_outOf_55 (by decide) (fun cX => ?_) (fun cX => ?_)
          · skip
            refine v_iconst 85 C (iZ 0) dX4_outOf_85 rfl ?_
            refine v_sub [0, 1, 2, 3] rfl ?_
            exact tail false (by rw [if_pos j0, bz_eq cX]; rfl)
          · skip
            refine v_aload_n 58 3 C dX4_outOf_58 rfl ?_
            refine g_Mo_atY 59 C (vm.o hm).1 (vm.o hm).2 lk_512 dX4_outOf_59 ?_
            refine v_iload_n 62 0 C dX4_outOf_62 rfl ?_
            refine v_lald 63 C (vm.a hm 55 (by decide) rfl).1 (vm.a hm 55 (by decide) rfl).2 k (izn (by omega)) (lnx (show ln 55 = 30 from rfl) (by omega)) dX4_outOf_63 ?_
            refine v_eql (lZ Y) (hY) ?_
            refine v_aload_n 64 3 C dX4_outOf_64 rfl ?_
            refine g_Mo_tol 65 C (vm.o hm).1 (vm.o hm).2 lk_500 dX4_outOf_65 ?_
            refine v_eqi (iZ (b 2 0)) (M1.1.2.1) ?_
            refine z_ineg 68 C dX4_outOf_68 ?_
            refine z_i2l 69 C (by first | assumption | exact ⟨by omega, by omega⟩) dX4_outOf_69 ?_
            refine v_aload_n 70 3 C dX4_outOf_70 rfl ?_
            refine g_Mo_tol 71 C (vm.o hm).1 (vm.o hm).2 lk_500 dX4_outOf_71 ?_
            refine v_eqi (iZ (b 2 0)) (M1.1.2.1) ?_
            refine z_i2l 74 C (by first | assumption | exact ⟨by omega, by omega⟩) dX4_outOf_74 ?_
            refine v_calli 75 hA (rS 75 C L_RX4_83 lk_604 (m4_in rY (by first | assumption | exact ⟨by omega, by omega⟩) (by first | assumption | exact ⟨by omega, by omega⟩)) rfl rfl (rm_ok rfl) dX4_outOf_75) (fun r7 w8 h9 => ?_)
            obtain ⟨e_r7, rfl⟩ := h9
            refine v_eqi (iZ (bz (decide (-b 2 0 ≤ Y ∧ Y ≤ b 2 0)))) (e_r7) ?_
            refine z_if_eq 78 85 C (bzr _) dX4_outOf_78 (by decide) (fun cY => ?_) (fun cY => ?_)
            · skip
              refine v_iconst 85 C (iZ 0) dX4_outOf_85 rfl ?_
              refine v_sub [0, 1, 2, 3] rfl ?_
              exact tail false (by rw [bz_eq cY]; simp)
            · skip
              refine v_iconst 81 C (iZ 1) dX4_outOf_81 rfl ?_
              refine v_goto 82 86 C dX4_outOf_82 (by decide) ?_
              refine v_sub [0, 1, 2, 3] rfl ?_
              exact tail true (by rw [if_pos j0, bz_ne cX, bz_ne cY]; rfl)
        · skip
          refine v_iload_n 9 0 C dX4_outOf_9 rfl ?_
          refine v_aload_n 10 3 C dX4_outOf_10 rfl ?_
          refine g_Mo_parts 11 C (vm.o hm).1 (vm.o hm).2 lk_501 dX4_outOf_11 ?_
          refine v_eqi (iZ (b 0 0)) (M1.1.2.2) ?_
          refine z_icmp_ge 14 116 C (by first | assumption | exact ⟨by omega, by omega⟩) (by first | assumption | exact ⟨by omega, by omega⟩) dX4_outOf_14 (by decide) (fun c14_0 => absurd c14_0 (by omega)) (fun c14_0 => ?_)
          refine v_iload_n 17 2 C dX4_outOf_17 rfl ?_
          refine z_if_eq 18 27 C (by first | assumption | exact ⟨by omega, by omega⟩) dX4_outOf_18 (by decide) (fun c18_1 => absurd c18_1 (by omega)) (fun c18_1 => ?_)
          refine v_iload_n 21 2 C dX4_outOf_21 rfl ?_
          refine v_bipush 22 C (iZ 16) dX4_outOf_22 (by decide) ?_
          refine z_icmp_ne 24 116 C (by first | assumption | exact ⟨by omega, by omega⟩) (by first | assumption | exact ⟨by omega, by omega⟩) dX4_outOf_24 (by decide) (fun c24_2 => absurd c24_2 (by omega)) (fun c24_2 => ?_)
          refine v_aload_n 27 3 C dX4_outOf_27 rfl ?_
          refine g_Mo_atX 28 C (vm.o hm).1 (vm.o hm).2 lk_511 dX4_outOf_28 ?_
          refine v_iload_n 31 0 C dX4_outOf_31 rfl ?_
          refine v_lald 32 C (vm.a hm 54 (by decide) rfl).1 (vm.a hm 54 (by decide) rfl).2 k (izn (by omega)) (lnx (show ln 54 = 30 from rfl) (by omega)) dX4_outOf_32 ?_
          refine v_eql (lZ X) (hX) ?_
          refine v_iload_n 33 2 C dX4_outOf_33 rfl ?_
          refine z_if_ne 34 41 C (by first | assumption | exact ⟨by omega, by omega⟩) dX4_outOf_34 (by decide) (fun c34_3 => ?_) (fun c34_3 => absurd c34_3 (by omega))
          refine v_aload_n 41 3 C dX4_outOf_41 rfl ?_
          refine g_Mo_width 42 C (vm.o hm).1 (vm.o hm).2 lk_499 dX4_outOf_42 ?_
          refine v_eqi (iZ (b 1 0)) (M1.1.1) ?_
          refine z_ineg 45 C dX4_outOf_45 ?_
          refine z_i2l 46 C (by first | assumption | exact ⟨by omega, by omega⟩) dX4_outOf_46 ?_
          refine v_aload_n 47 3 C dX4_outOf_47 rfl ?_
          refine g_Mo_width 48 C (vm.o hm).1 (vm.o hm).2 lk_499 dX4_outOf_48 ?_
          refine v_eqi (iZ (b 1 0)) (M1.1.1) ?_
          refine z_i2l 51 C (by first | assumption | exact ⟨by omega, by omega⟩) dX4_outOf_51 ?_
          refine v_calli 52 hA (rS 52 C L_RX4_83 lk_604 (m4_in rX (by first | assumption | exact ⟨by omega, by omega⟩) (by first | assumption | exact ⟨by omega, by omega⟩)) rfl rfl (rm_ok rfl) dX4_outOf_52) (fun r10 w11 h12 => ?_)
          obtain ⟨e_r10, rfl⟩ := h12
          refine v_eqi (iZ (bz (decide (-b 1 0 ≤ X ∧ X ≤ b 1 0)))) (e_r10) ?_
          refine z_if_eq 55 85 C (bzr _) dX4_outOf_55 (by decide) (fun cX => ?_) (fun cX => ?_)
          · skip
            refine v_iconst 85 C (iZ 0) dX4_outOf_85 rfl ?_
            refine v_sub [0, 1, 2, 3] rfl ?_
            exact tail false (by rw [if_neg j0, bz_eq cX]; rfl)
          · skip
            refine v_aload_n 58 3 C dX4_outOf_58 rfl ?_
            refine g_Mo_atY 59 C (vm.o hm).1 (vm.o hm).2 lk_512 dX4_outOf_59 ?_
            refine v_iload_n 62 0 C dX4_outOf_62 rfl ?_
            refine v_lald 63 C (vm.a hm 55 (by decide) rfl).1 (vm.a hm 55 (by decide) rfl).2 k (izn (by omega)) (lnx (show ln 55 = 30 from rfl) (by omega)) dX4_outOf_63 ?_
            refine v_eql (lZ Y) (hY) ?_
            refine v_aload_n 64 3 C dX4_outOf_64 rfl ?_
            refine g_Mo_tol 65 C (vm.o hm).1 (vm.o hm).2 lk_500 dX4_outOf_65 ?_
            refine v_eqi (iZ (b 2 0)) (M1.1.2.1) ?_
            refine z_ineg 68 C dX4_outOf_68 ?_
            refine z_i2l 69 C (by first | assumption | exact ⟨by omega, by omega⟩) dX4_outOf_69 ?_
            refine v_aload_n 70 3 C dX4_outOf_70 rfl ?_
            refine g_Mo_tol 71 C (vm.o hm).1 (vm.o hm).2 lk_500 dX4_outOf_71 ?_
            refine v_eqi (iZ (b 2 0)) (M1.1.2.1) ?_
            refine z_i2l 74 C (by first | assumption | exact ⟨by omega, by omega⟩) dX4_outOf_74 ?_
            refine v_calli 75 hA (rS 75 C L_RX4_83 lk_604 (m4_in rY (by first | assumption | exact ⟨by omega, by omega⟩) (by first | assumption | exact ⟨by omega, by omega⟩)) rfl rfl (rm_ok rfl) dX4_outOf_75) (fun r13 w14 h15 => ?_)
            obtain ⟨e_r13, rfl⟩ := h15
            refine v_eqi (iZ (bz (decide (-b 2 0 ≤ Y ∧ Y ≤ b 2 0)))) (e_r13) ?_
            refine z_if_eq 78 85 C (bzr _) dX4_outOf_78 (by decide) (fun cY => ?_) (fun cY => ?_)
            · skip
              refine v_iconst 85 C (iZ 0) dX4_outOf_85 rfl ?_
              refine v_sub [0, 1, 2, 3] rfl ?_
              exact tail false (by rw [bz_eq cY]; simp)
            · skip
              refine v_iconst 81 C (iZ 1) dX4_outOf_81 rfl ?_
              refine v_goto 82 86 C dX4_outOf_82 (by decide) ?_
              refine v_sub [0, 1, 2, 3] rfl ?_
              exact tail true (by rw [if_neg j0, bz_ne cX, bz_ne cY]; rfl)
    refine v_iconst 5 C (iZ 0) dX4_outOf_5 rfl ?_
    refine v_istore_n 6 [(2, .int (iZ 0)), (0, .ref (ad 45)), (1, .int (iZ (j : Int)))] C dX4_outOf_6 (by decide) rfl ?_
    refine v_iconst 7 C (iZ 0) dX4_outOf_7 rfl ?_
    refine v_istore_n 8 [(3, .int (iZ 0)), (2, .int (iZ 0)), (0, .ref (ad 45)), (1, .int (iZ (j : Int)))] C dX4_outOf_8 (by decide) rfl ?_
    refine v_sub [0, 1, 3, 2] rfl ?_
    exact main (bn b) 0 (by omega)
  · skip
    refine v_iconst 5 C (iZ 0) dX4_outOf_5 rfl ?_
    refine v_istore_n 6 [(2, .int (iZ 0)), (0, .ref (ad 45)), (1, .int (iZ (j : Int)))] C dX4_outOf_6 (by decide) rfl ?_
    refine v_iconst 7 C (iZ 0) dX4_outOf_7 rfl ?_
    refine v_istore_n 8 [(3, .int (iZ 0)), (2, .int (iZ 0)), (0, .ref (ad 45)), (1, .int (iZ (j : Int)))] C dX4_outOf_8 (by decide) rfl ?_
    refine v_iload_n 9 0 C dX4_outOf_9 rfl ?_
    refine v_aload_n 10 2 C dX4_outOf_10 rfl ?_
    refine g_Mo_parts 11 C (vm.o hm).1 (vm.o hm).2 lk_501 dX4_outOf_11 ?_
    refine v_eqi (iZ (b 0 0)) (M1.1.2.2) ?_
    refine z_icmp_ge 14 116 C (by first | assumption | exact ⟨by omega, by omega⟩) (by first | assumption | exact ⟨by omega, by omega⟩) dX4_outOf_14 (by decide) (fun c14_0 => ?_) (fun c14_0 => ?_)
    · skip
      refine v_iload_n 116 1 C dX4_outOf_116 rfl ?_
      exact v_iret 117 C (⟨by unfold outN; rw [if_neg hj16], S1, rfl, F1⟩) dX4_outOf_117
    · skip
      refine v_iload_n 17 3 C dX4_outOf_17 rfl ?_
      refine z_if_eq 18 27 C (by first | assumption | exact ⟨by omega, by omega⟩) dX4_outOf_18 (by decide) (fun c18_1 => absurd c18_1 (by omega)) (fun c18_1 => ?_)
      refine v_iload_n 21 3 C dX4_outOf_21 rfl ?_
      refine v_bipush 22 C (iZ 16) dX4_outOf_22 (by decide) ?_
      refine z_icmp_ne 24 116 C (by first | assumption | exact ⟨by omega, by omega⟩) (by first | assumption | exact ⟨by omega, by omega⟩) dX4_outOf_24 (by decide) (fun c24_2 => ?_) (fun c24_2 => absurd c24_2 (by omega))
      refine v_iload_n 116 1 C dX4_outOf_116 rfl ?_
      exact v_iret 117 C (⟨by unfold outN; rw [if_neg hj16], S1, rfl, F1⟩) dX4_outOf_117

set_option maxHeartbeats 4000000 in
set_option maxRecDepth 100000 in
theorem d_out_s {l : Launch} {D : va_G} {kc : Nat → ClassId} {N : Nat} {ad : Nat → Nat} {S : St} {b : Bs} (hm : vm N) (hI : Inv b) (hM : RM S b) {t : Ts} (hE : LE b t) {s_ : Int} (rs : r32 s_) (hs : ¬ (0 ≤ s_ ∧ s_ < 17)) : MetK l yX4_out cX4_out 2 (some FieldType.int) 7 0 0 190 D kc (wl kc N ad S) [.ref (ad 45), .int (iZ s_)] (QI D kc (wl kc N ad S) (mQ kc N ad S (-1) (refB b 1))) := by
  refine MetK.of (by decide +kernel) (Nat.le_of_ble_eq_true rfl) ?_
  intro p e s m below meth c C
  have hA : ∀ q, s.heap.size ≤ q → va_A (wl kc N ad S) s.heap.size q := fun _ h => Or.inr h
  show V p l e { frames := 7, cells := 0, slots := 0, locals := 190 } s m ([.ref (ad 45), .int (iZ s_)] : List Value).toArray below meth c (MQ below (QI D kc (wl kc N ad S) (mQ kc N ad S (-1) (refB b 1)) s.heap.size) ([.ref (ad 45), .int (iZ s_)] : List Value).toArray s 0 0 (va_A (wl kc N ad S) s.heap.size)) D (va_A (wl kc N ad S) s.heap.size) 2 0 0 (wl kc N ad S) 0 [(0, .ref (ad 45)), (1, .int (iZ s_))] []
  have hb0 := hI.1
  refine v_iload_n 0 1 C dX4_out_0 rfl ?_
  refine v_calli 1 hA (rS 1 C L_RX4_170 lk_677 (m4_isStep (by first | assumption | exact ⟨by omega, by omega⟩)) rfl rfl (rm_ok rfl) dX4_out_1) (fun r1 w2 h3 => ?_)
  obtain ⟨e_r1, rfl⟩ := h3
  refine v_eqi (iZ (bz (decide (0 ≤ s_ ∧ s_ ≤ 16)))) (e_r1) ?_
  refine z_if_eq 4 15 C (bzr _) dX4_out_4 (by decide) (fun c4_0 => ?_) (fun c4_0 => absurd (by rw [decide_eq_false (show ¬ (0 ≤ s_ ∧ s_ ≤ 16) by omega)]; rfl) c4_0)
  refine v_aload_n 15 0 C dX4_out_15 rfl ?_
  refine v_iconst 16 C (iZ (-1)) dX4_out_16 rfl ?_
  refine v_calli 17 hA (rV_Mo 17 C L_RX4_95 lk_589 lk_22 (m4_refuse hm hI hM 1 (by decide) (by decide)) (vm.o hm) rfl ⟨rfl, rfl⟩ (rm_ok rfl) dX4_out_17) (fun r4 w5 h6 => ?_)
  obtain ⟨e_r4, rfl⟩ := h6
  refine v_eqi (iZ (-1)) (e_r4) ?_
  exact v_iret 20 C (⟨rfl, refM4 S b 1, rfl, refRM hM, refC⟩) dX4_out_20

set_option maxHeartbeats 4000000 in
set_option maxRecDepth 100000 in
theorem d_out {l : Launch} {D : va_G} {kc : Nat → ClassId} {N : Nat} {ad : Nat → Nat} {S : St} {b : Bs} (hm : vm N) (hI : Inv b) (hM : RM S b) {t : Ts} (hE : LE b t) {j : Nat} (hj : j < 17) : MetK l yX4_out cX4_out 2 (some FieldType.int) 7 0 0 190 D kc (wl kc N ad S) [.ref (ad 45), .int (iZ (j : Int))] (QI D kc (wl kc N ad S) (mQ kc N ad S (outN b t j) (b))) := by
  refine MetK.of (by decide +kernel) (Nat.le_of_ble_eq_true rfl) ?_
  intro p e s m below meth c C
  have hA : ∀ q, s.heap.size ≤ q → va_A (wl kc N ad S) s.heap.size q := fun _ h => Or.inr h
  show V p l e { frames := 7, cells := 0, slots := 0, locals := 190 } s m ([.ref (ad 45), .int (iZ (j : Int))] : List Value).toArray below meth c (MQ below (QI D kc (wl kc N ad S) (mQ kc N ad S (outN b t j) (b)) s.heap.size) ([.ref (ad 45), .int (iZ (j : Int))] : List Value).toArray s 0 0 (va_A (wl kc N ad S) s.heap.size)) D (va_A (wl kc N ad S) s.heap.size) 2 0 0 (wl kc N ad S) 0 [(0, .ref (ad 45)), (1, .int (iZ (j : Int)))] []
  have hb0 := hI.1
  refine v_iload_n 0 1 C dX4_out_0 rfl ?_
  refine v_calli 1 hA (rS 1 C L_RX4_170 lk_677 (m4_isStep (by first | assumption | exact ⟨by omega, by omega⟩)) rfl rfl (rm_ok rfl) dX4_out_1) (fun r1 w2 h3 => ?_)
  obtain ⟨e_r1, rfl⟩ := h3
  refine v_eqi (iZ (bz (decide (0 ≤ (j : Int) ∧ (j : Int) ≤ 16)))) (e_r1) ?_
  refine z_if_eq 4 15 C (bzr _) dX4_out_4 (by decide) (fun c4_0 => absurd c4_0 (by rw [decide_eq_true (show 0 ≤ (j : Int) ∧ (j : Int) ≤ 16 by omega)]; decide)) (fun c4_0 => ?_)
  refine v_aload_n 7 0 C dX4_out_7 rfl ?_
  refine v_iload_n 8 1 C dX4_out_8 rfl ?_
  refine v_calli 9 hA (rV_Mo 9 C L_RX4_186 lk_714 lk_38 (m4_outOf hm hI hM hE hj) (vm.o hm) rfl ⟨rfl, rfl⟩ (rm_ok rfl) dX4_out_9) (fun OU w4 h5 => ?_)
  obtain ⟨e_OU, S1, rfl, F1⟩ := h5
  refine v_eqi (iZ (outN b t j)) (e_OU) ?_
  refine v_goto 12 20 C dX4_out_12 (by decide) ?_
  exact v_iret 20 C (⟨rfl, S1, rfl, F1.RM hM, F1.C⟩) dX4_out_20

set_option maxHeartbeats 4000000 in
set_option maxRecDepth 100000 in
theorem d_tall_s {l : Launch} {D : va_G} {kc : Nat → ClassId} {N : Nat} {ad : Nat → Nat} {S : St} {b : Bs} (hm : vm N) (hI : Inv b) (hM : RM S b) {t : Ts} (hE : LE b t) {s_ : Int} (rs : r32 s_) (hs : ¬ (0 ≤ s_ ∧ s_ < 17)) : MetK l yX4_tall cX4_tall 6 (some FieldType.int) 6 0 0 166 D kc (wl kc N ad S) [.ref (ad 45), .int (iZ s_)] (QI D kc (wl kc N ad S) (mQ kc N ad S (1000000000 - (-1)) (refB b 1))) := by
  refine MetK.of (by decide +kernel) (Nat.le_of_ble_eq_true rfl) ?_
  intro p e s m below meth c C
  have hA : ∀ q, s.heap.size ≤ q → va_A (wl kc N ad S) s.heap.size q := fun _ h => Or.inr h
  show V p l e { frames := 6, cells := 0, slots := 0, locals := 166 } s m ([.ref (ad 45), .int (iZ s_)] : List Value).toArray below meth c (MQ below (QI D kc (wl kc N ad S) (mQ kc N ad S (1000000000 - (-1)) (refB b 1)) s.heap.size) ([.ref (ad 45), .int (iZ s_)] : List Value).toArray s 0 0 (va_A (wl kc N ad S) s.heap.size)) D (va_A (wl kc N ad S) s.heap.size) 6 0 0 (wl kc N ad S) 0 [(0, .ref (ad 45)), (1, .int (iZ s_))] []
  have hb0 := hI.1
  refine v_iload_n 0 1 C dX4_tall_0 rfl ?_
  refine v_calli 1 hA (rS 1 C L_RX4_170 lk_677 (m4_isStep (by first | assumption | exact ⟨by omega, by omega⟩)) rfl rfl (rm_ok rfl) dX4_tall_1) (fun r1 w2 h3 => ?_)
  obtain ⟨e_r1, rfl⟩ := h3
  refine v_eqi (iZ (bz (decide (0 ≤ s_ ∧ s_ ≤ 16)))) (e_r1) ?_
  refine z_if_ne 4 13 C (bzr _) dX4_tall_4 (by decide) (fun c4_0 => absurd c4_0 (fun q => q (by rw [decide_eq_false (show ¬ (0 ≤ s_ ∧ s_ ≤ 16) by omega)]; rfl))) (fun c4_0 => ?_)
  refine v_aload_n 7 0 C dX4_tall_7 rfl ?_
  refine v_iconst 8 C (iZ (-1)) dX4_tall_8 rfl ?_
  refine v_calli 9 hA (rV_Mo 9 C L_RX4_173 lk_682 lk_35 (m4_refuseB hm hI hM 1 (by decide) (by decide)) (vm.o hm) rfl ⟨rfl, rfl⟩ (rm_ok rfl) dX4_tall_9) (fun r4 w5 h6 => ?_)
  obtain ⟨e_r4, rfl⟩ := h6
  refine v_eqi (iZ (1000000000 - (-1))) (e_r4) ?_
  exact v_iret 12 C (⟨rfl, refM4 S b 1, rfl, refRM hM, refC⟩) dX4_tall_12

set_option maxHeartbeats 4000000 in
set_option maxRecDepth 100000 in
theorem d_tall {l : Launch} {D : va_G} {kc : Nat → ClassId} {N : Nat} {ad : Nat → Nat} {S : St} {b : Bs} (hm : vm N) (hI : Inv b) (hM : RM S b) {t : Ts} (hE : LE b t) {j : Nat} (hj : j < 17) : MetK l yX4_tall cX4_tall 6 (some FieldType.int) 6 0 0 166 D kc (wl kc N ad S) [.ref (ad 45), .int (iZ (j : Int))] (QI D kc (wl kc N ad S) (mQ kc N ad S (tlN b t j) (b))) := by
  refine MetK.of (by decide +kernel) (Nat.le_of_ble_eq_true rfl) ?_
  intro p e s m below meth c C
  have hA : ∀ q, s.heap.size ≤ q → va_A (wl kc N ad S) s.heap.size q := fun _ h => Or.inr h
  show V p l e { frames := 6, cells := 0, slots := 0, locals := 166 } s m ([.ref (ad 45), .int (iZ (j : Int))] : List Value).toArray below meth c (MQ below (QI D kc (wl kc N ad S) (mQ kc N ad S (tlN b t j) (b)) s.heap.size) ([.ref (ad 45), .int (iZ (j : Int))] : List Value).toArray s 0 0 (va_A (wl kc N ad S) s.heap.size)) D (va_A (wl kc N ad S) s.heap.size) 6 0 0 (wl kc N ad S) 0 [(0, .ref (ad 45)), (1, .int (iZ (j : Int)))] []
  have hb0 := hI.1
  refine v_iload_n 0 1 C dX4_tall_0 rfl ?_
  refine v_calli 1 hA (rS 1 C L_RX4_170 lk_677 (m4_isStep (by first | assumption | exact ⟨by omega, by omega⟩)) rfl rfl (rm_ok rfl) dX4_tall_1) (fun r1 w2 h3 => ?_)
  obtain ⟨e_r1, rfl⟩ := h3
  refine v_eqi (iZ (bz (decide (0 ≤ (j : Int) ∧ (j : Int) ≤ 16)))) (e_r1) ?_
  refine z_if_ne 4 13 C (bzr _) dX4_tall_4 (by decide) (fun c4_0 => ?_) (fun c4_0 => absurd c4_0 (by rw [decide_eq_true (show 0 ≤ (j : Int) ∧ (j : Int) ≤ 16 by omega)]; decide))
  refine v_aload_n 13 0 C dX4_tall_13 rfl ?_
  refine v_iload_n 14 1 C dX4_tall_14 rfl ?_
  refine v_callv 15 hA (rV_Mo 15 C L_RX4_155 lk_617 lk_26 (m4_open hm hI hM hE hj) (vm.o hm) rfl ⟨rfl, rfl⟩ (rm_ok rfl) dX4_tall_15) (fun w5 h6 => ?_)
  obtain ⟨S1, rfl, F1, O1⟩ := h6
  have M1 := F1.RM hM
  have main : ∀ (d i : Nat) (an mo : Int), i + d = bn b → bd mo → (an = 0 ∧ mo = 0 ∧ tlF b t j i = none ∨ an = 1 ∧ tlF b t j i = some mo) → V p l e { frames := 6, cells := 0, slots := 0, locals := 166 } s m ([.ref (ad 45), .int (iZ (j : Int))] : List Value).toArray below meth c (MQ below (QI D kc (wl kc N ad S) (mQ kc N ad S (tlN b t j) (b)) s.heap.size) ([.ref (ad 45), .int (iZ (j : Int))] : List Value).toArray s 0 0 (va_A (wl kc N ad S) s.heap.size)) D (va_A (wl kc N ad S) s.heap.size) 6 0 0 (wl kc N ad S1) 26 [(5, .int (iZ (i : Int))), (4, .int (iZ an)), (2, .long (lZ mo)), (1, .int (iZ (j : Int))), (0, .ref (ad 45))] [] := by
    intro d
    induction d with
    | zero =>
      intro i an mo hi hb hm4
      refine v_iload 26 0 C dX4_tall_26 rfl ?_
      refine v_aload_n 28 4 C dX4_tall_28 rfl ?_
      refine g_Mo_parts 29 C (vm.o hm).1 (vm.o hm).2 lk_501 dX4_tall_29 ?_
      refine v_eqi (iZ (b 0 0)) (M1.1.2.2) ?_
      refine z_icmp_ge 32 83 C (by first | assumption | exact ⟨by omega, by omega⟩) (by first | assumption | exact ⟨by omega, by omega⟩) dX4_tall_32 (by decide) (fun c32_0 => ?_) (fun c32_0 => absurd (by omega) c32_0)
      refine v_lload_n 83 2 C dX4_tall_83 rfl ?_
      refine z_l2i 84 C dX4_tall_84 ?_
      exact v_iret 85 C (⟨by unfold tlN; rw [← show i = bn b by omega]; exact tl_end hm4, S1, rfl, M1, F1.C⟩) dX4_tall_85
    | succ d ih =>
      intro i an mo hi hb hm4
      have hi2 : i < bn b := by omega
      have ok1 := O1.2 i hi2 hi2
      have han : 0 ≤ an ∧ an ≤ 1 := by rcases hm4 with ⟨q, _⟩ | ⟨q, _⟩ <;> omega
      by_cases hz : b 8 i = 1 ∧ t 4 i j = 0
      · skip
        rw [if_pos hz.1] at ok1
        have q2 := (bd_k hI hE hi2 hz.1 hj hz.2).1.2
        refine v_iload 26 0 C dX4_tall_26 rfl ?_
        refine v_aload_n 28 4 C dX4_tall_28 rfl ?_
        refine g_Mo_parts 29 C (vm.o hm).1 (vm.o hm).2 lk_501 dX4_tall_29 ?_
        refine v_eqi (iZ (b 0 0)) (M1.1.2.2) ?_
        refine z_icmp_ge 32 83 C (by first | assumption | exact ⟨by omega, by omega⟩) (by first | assumption | exact ⟨by omega, by omega⟩) dX4_tall_32 (by decide) (fun c32_0 => absurd c32_0 (by omega)) (fun c32_0 => ?_)
        refine v_aload_n 35 4 C dX4_tall_35 rfl ?_
        refine g_Mo_isStuck 36 C (vm.o hm).1 (vm.o hm).2 lk_513 dX4_tall_36 ?_
        refine v_iload 39 0 C dX4_tall_39 rfl ?_
        refine v_zald 41 C (vm.a hm 56 (by decide) rfl).1 (vm.a hm 56 (by decide) rfl).2 i (izn (by omega)) (lnx (show ln 56 = 30 from rfl) (by omega)) dX4_tall_41 ?_
        refine v_eqi (iZ (t 4 i j)) (ok1.1) ?_
        refine z_if_ne 42 77 C (by rw [hz.2]; decide) dX4_tall_42 (by decide) (fun c42_1 => absurd c42_1 (fun q => q hz.2)) (fun c42_1 => ?_)
        refine v_iload 45 1 C dX4_tall_45 rfl ?_
        refine z_if_eq 47 62 C (by first | assumption | exact ⟨by omega, by omega⟩) dX4_tall_47 (by decide) (fun cA => ?_) (fun cA => ?_)
        · skip
          refine v_aload_n 62 4 C dX4_tall_62 rfl ?_
          refine g_Mo_atY 63 C (vm.o hm).1 (vm.o hm).2 lk_512 dX4_tall_63 ?_
          refine v_iload 66 0 C dX4_tall_66 rfl ?_
          refine v_lald 68 C (vm.a hm 55 (by decide) rfl).1 (vm.a hm 55 (by decide) rfl).2 i (izn (by omega)) (lnx (show ln 55 = 30 from rfl) (by omega)) dX4_tall_68 ?_
          refine v_eql (lZ (t 3 i j)) ((ok1.2 hz.1 hz.2).2) ?_
          refine v_goto 69 73 C dX4_tall_69 (by decide) ?_
          refine v_lstore_n 73 [(2, .long (lZ (t 3 i j))), (5, .int (iZ (i : Int))), (4, .int (iZ an)), (1, .int (iZ (j : Int))), (0, .ref (ad 45))] C dX4_tall_73 (by decide) rfl ?_
          refine v_iconst 74 C (iZ 1) dX4_tall_74 rfl ?_
          refine v_istore 75 [(4, .int (iZ 1)), (2, .long (lZ (t 3 i j))), (5, .int (iZ (i : Int))), (1, .int (iZ (j : Int))), (0, .ref (ad 45))] C dX4_tall_75 (by decide) rfl ?_
          refine v_iinc 77 2 (iZ ((i + 1 : Nat) : Int)) [(5, .int (iZ ((i + 1 : Nat) : Int))), (4, .int (iZ 1)), (2, .long (lZ (t 3 i j))), (1, .int (iZ (j : Int))), (0, .ref (ad 45))] C dX4_tall_77 rfl (iZ_add _ _) (by decide) rfl ?_
          refine v_goto 80 26 C dX4_tall_80 (by decide) ?_
          refine v_sub [0, 1, 2, 3, 4] rfl ?_
          exact ih (i + 1) 1 (t 3 i j) (by omega) q2 (Or.inr ⟨rfl, tlF_1 hz.1 hz.2 (tl_n hm4 cA)⟩)
        · skip
          refine v_aload_n 50 4 C dX4_tall_50 rfl ?_
          refine g_Mo_atY 51 C (vm.o hm).1 (vm.o hm).2 lk_512 dX4_tall_51 ?_
          refine v_iload 54 0 C dX4_tall_54 rfl ?_
          refine v_lald 56 C (vm.a hm 55 (by decide) rfl).1 (vm.a hm 55 (by decide) rfl).2 i (izn (by omega)) (lnx (show ln 55 = 30 from rfl) (by omega)) dX4_tall_56 ?_
          refine v_eql (lZ (t 3 i j)) ((ok1.2 hz.1 hz.2).2) ?_
          refine v_lload_n 57 2 C dX4_tall_57 rfl ?_
          refine z_lcmp_le 58 72 C (by first | assumption | exact ⟨by omega, by omega⟩) (by first | assumption | exact ⟨by omega, by omega⟩) dX4_tall_58 dX4_tall_59 (by decide) (fun cB => ?_) (fun cB => ?_)
          · skip
            refine v_lload_n 72 2 C dX4_tall_72 rfl ?_
            refine v_lstore_n 73 [(2, .long (lZ mo)), (5, .int (iZ (i : Int))), (4, .int (iZ an)), (1, .int (iZ (j : Int))), (0, .ref (ad 45))] C dX4_tall_73 (by decide) rfl ?_
            refine v_iconst 74 C (iZ 1) dX4_tall_74 rfl ?_
            refine v_istore 75 [(4, .int (iZ 1)), (2, .long (lZ mo)), (5, .int (iZ (i : Int))), (1, .int (iZ (j : Int))), (0, .ref (ad 45))] C dX4_tall_75 (by decide) rfl ?_
            refine v_iinc 77 2 (iZ ((i + 1 : Nat) : Int)) [(5, .int (iZ ((i + 1 : Nat) : Int))), (4, .int (iZ 1)), (2, .long (lZ mo)), (1, .int (iZ (j : Int))), (0, .ref (ad 45))] C dX4_tall_77 rfl (iZ_add _ _) (by decide) rfl ?_
            refine v_goto 80 26 C dX4_tall_80 (by decide) ?_
            refine v_sub [0, 1, 2, 3, 4] rfl ?_
            exact ih (i + 1) 1 mo (by omega) hb (Or.inr ⟨rfl, by rw [tlF_2 hz.1 hz.2 (tl_s hm4 cA), show max mo (t 3 i j) = mo by omega]⟩)
          · skip
            refine v_aload_n 62 4 C dX4_tall_62 rfl ?_
            refine g_Mo_atY 63 C (vm.o hm).1 (vm.o hm).2 lk_512 dX4_tall_63 ?_
            refine v_iload 66 0 C dX4_tall_66 rfl ?_
            refine v_lald 68 C (vm.a hm 55 (by decide) rfl).1 (vm.a hm 55 (by decide) rfl).2 i (izn (by omega)) (lnx (show ln 55 = 30 from rfl) (by omega)) dX4_tall_68 ?_
            refine v_eql (lZ (t 3 i j)) ((ok1.2 hz.1 hz.2).2) ?_
            refine v_goto 69 73 C dX4_tall_69 (by decide) ?_
            refine v_lstore_n 73 [(2, .long (lZ (t 3 i j))), (5, .int (iZ (i : Int))), (4, .int (iZ an)), (1, .int (iZ (j : Int))), (0, .ref (ad 45))] C dX4_tall_73 (by decide) rfl ?_
            refine v_iconst 74 C (iZ 1) dX4_tall_74 rfl ?_
            refine v_istore 75 [(4, .int (iZ 1)), (2, .long (lZ (t 3 i j))), (5, .int (iZ (i : Int))), (1, .int (iZ (j : Int))), (0, .ref (ad 45))] C dX4_tall_75 (by decide) rfl ?_
            refine v_iinc 77 2 (iZ ((i + 1 : Nat) : Int)) [(5, .int (iZ ((i + 1 : Nat) : Int))), (4, .int (iZ 1)), (2, .long (lZ (t 3 i j))), (1, .int (iZ (j : Int))), (0, .ref (ad 45))] C dX4_tall_77 rfl (iZ_add _ _) (by decide) rfl ?_
            refine v_goto 80 26 C dX4_tall_80 (by decide) ?_
            refine v_sub [0, 1, 2, 3, 4] rfl ?_
            exact ih (i + 1) 1 (t 3 i j) (by omega) q2 (Or.inr ⟨rfl, by rw [tlF_2 hz.1 hz.2 (tl_s hm4 cA), show max mo (t 3 i j) = t 3 i j by omega]⟩)
      · skip
        obtain ⟨v, hv⟩ : ∃ v : Int, v = (if b 8 i = 1 then t 4 i j else 1) := ⟨_, rfl⟩
        rw [← hv] at ok1
        have hv1 : v = 1 := by
          rw [hv]
          split
          · rename_i q
            rcases (hE i hi2 hi2 q j hj).1 with z | z
            · exact absurd ⟨q, z⟩ hz
            · exact z
          · rfl
        refine v_iload 26 0 C dX4_tall_26 rfl ?_
        refine v_aload_n 28 4 C dX4_tall_28 rfl ?_
        refine g_Mo_parts 29 C (vm.o hm).1 (vm.o hm).2 lk_501 dX4_tall_29 ?_
        refine v_eqi (iZ (b 0 0)) (M1.1.2.2) ?_
        refine z_icmp_ge 32 83 C (by first | assumption | exact ⟨by omega, by omega⟩) (by first | assumption | exact ⟨by omega, by omega⟩) dX4_tall_32 (by decide) (fun c32_0 => absurd c32_0 (by omega)) (fun c32_0 => ?_)
        refine v_aload_n 35 4 C dX4_tall_35 rfl ?_
        refine g_Mo_isStuck 36 C (vm.o hm).1 (vm.o hm).2 lk_513 dX4_tall_36 ?_
        refine v_iload 39 0 C dX4_tall_39 rfl ?_
        refine v_zald 41 C (vm.a hm 56 (by decide) rfl).1 (vm.a hm 56 (by decide) rfl).2 i (izn (by omega)) (lnx (show ln 56 = 30 from rfl) (by omega)) dX4_tall_41 ?_
        refine v_eqi (iZ v) (ok1.1) ?_
        refine z_if_ne 42 77 C (by first | assumption | exact ⟨by omega, by omega⟩) dX4_tall_42 (by decide) (fun c42_1 => ?_) (fun c42_1 => absurd c42_1 (by omega))
        refine v_iinc 77 0 (iZ ((i + 1 : Nat) : Int)) [(5, .int (iZ ((i + 1 : Nat) : Int))), (4, .int (iZ an)), (2, .long (lZ mo)), (1, .int (iZ (j : Int))), (0, .ref (ad 45))] C dX4_tall_77 rfl (iZ_add _ _) (by decide) rfl ?_
        refine v_goto 80 26 C dX4_tall_80 (by decide) ?_
        refine v_sub [0, 1, 2, 3, 4] rfl ?_
        exact ih (i + 1) an mo (by omega) hb (by rw [tlF_0 hz]; exact hm4)
  refine v_lconst 18 C (lZ 0) dX4_tall_18 (by decide) ?_
  refine v_lstore_n 19 [(2, .long (lZ 0)), (0, .ref (ad 45)), (1, .int (iZ (j : Int)))] C dX4_tall_19 (by decide) rfl ?_
  refine v_iconst 20 C (iZ 0) dX4_tall_20 rfl ?_
  refine v_istore 21 [(4, .int (iZ 0)), (2, .long (lZ 0)), (0, .ref (ad 45)), (1, .int (iZ (j : Int)))] C dX4_tall_21 (by decide) rfl ?_
  refine v_iconst 23 C (iZ 0) dX4_tall_23 rfl ?_
  refine v_istore 24 [(5, .int (iZ 0)), (4, .int (iZ 0)), (2, .long (lZ 0)), (0, .ref (ad 45)), (1, .int (iZ (j : Int)))] C dX4_tall_24 (by decide) rfl ?_
  refine v_sub [0, 1, 2, 4, 3] rfl ?_
  exact main (bn b) 0 0 0 (by omega) (by decide) (Or.inl ⟨rfl, rfl, rfl⟩)

set_option maxHeartbeats 4000000 in
set_option maxRecDepth 100000 in
theorem m4_hangOn {l : Launch} {D : va_G} {kc : Nat → ClassId} {N : Nat} {ad : Nat → Nat} {S : St} {b : Bs} (hm : vm N) (hI : Inv b) (hM : RM S b) {k : Nat} (hk : k < bn b) : MetK l yX4_hangOn cX4_hangOn 4 (some FieldType.int) 1 0 0 24 D kc (wl kc N ad S) [.ref (ad 45), .int (iZ (k : Int))] (QI D kc (wl kc N ad S) (fun r ws' => r = iZ (hangN b k) ∧ ws' = wl kc N ad S)) := by
  refine MetK.of (by decide +kernel) (Nat.le_of_ble_eq_true rfl) ?_
  intro p e s m below meth c C
  have hA : ∀ q, s.heap.size ≤ q → va_A (wl kc N ad S) s.heap.size q := fun _ h => Or.inr h
  show V p l e { frames := 1, cells := 0, slots := 0, locals := 24 } s m ([.ref (ad 45), .int (iZ (k : Int))] : List Value).toArray below meth c (MQ below (QI D kc (wl kc N ad S) (fun r ws' => r = iZ (hangN b k) ∧ ws' = wl kc N ad S) s.heap.size) ([.ref (ad 45), .int (iZ (k : Int))] : List Value).toArray s 0 0 (va_A (wl kc N ad S) s.heap.size)) D (va_A (wl kc N ad S) s.heap.size) 4 0 0 (wl kc N ad S) 0 [(0, .ref (ad 45)), (1, .int (iZ (k : Int)))] []
  have hb0 := hI.1
  have loop : ∀ (d : Nat) (i : Nat), i + d = bn b → V p l e { frames := 1, cells := 0, slots := 0, locals := 24 } s m ([.ref (ad 45), .int (iZ (k : Int))] : List Value).toArray below meth c (MQ below (QI D kc (wl kc N ad S) (fun r ws' => r = iZ (hangN b k) ∧ ws' = wl kc N ad S) s.heap.size) ([.ref (ad 45), .int (iZ (k : Int))] : List Value).toArray s 0 0 (va_A (wl kc N ad S) s.heap.size)) D (va_A (wl kc N ad S) s.heap.size) 4 0 0 (wl kc N ad S) 4 [(3, .int (iZ (i : Int))), (2, .int (iZ (cnt (hgP b k) i))), (1, .int (iZ (k : Int))), (0, .ref (ad 45))] [] := by
    intro d
    induction d with
    | zero =>
      intro i hi
      have hcb := cnt_b (hgP b k) i
      refine v_iload_n 4 0 C dX4_hangOn_4 rfl ?_
      refine v_aload_n 5 3 C dX4_hangOn_5 rfl ?_
      refine g_Mo_parts 6 C (vm.o hm).1 (vm.o hm).2 lk_501 dX4_hangOn_6 ?_
      refine v_eqi (iZ (b 0 0)) (hM.1.2.2) ?_
      refine z_icmp_ge 9 69 C (by first | assumption | exact ⟨by omega, by omega⟩) (by first | assumption | exact ⟨by omega, by omega⟩) dX4_hangOn_9 (by decide) (fun c9_0 => ?_) (fun c9_0 => absurd (by omega) c9_0)
      refine v_iload_n 69 1 C dX4_hangOn_69 rfl ?_
      exact v_iret 70 C (⟨by rw [show i = bn b by omega]; rfl, rfl⟩) dX4_hangOn_70
    | succ d ih =>
      intro i hi
      skip
      have hcb := cnt_b (hgP b k) i
      have hi2 : i < bn b := by omega
      have h8 := (hI.2.2.2.1 i hi2).2.2.1
      have J0 := (hI.2.2.2.2 i hi2 (2 * i) (Or.inl rfl)).1
      have J1 := (hI.2.2.2.2 i hi2 (2 * i + 1) (Or.inr rfl)).1
      refine v_iload_n 4 0 C dX4_hangOn_4 rfl ?_
      refine v_aload_n 5 3 C dX4_hangOn_5 rfl ?_
      refine g_Mo_parts 6 C (vm.o hm).1 (vm.o hm).2 lk_501 dX4_hangOn_6 ?_
      refine v_eqi (iZ (b 0 0)) (hM.1.2.2) ?_
      refine z_icmp_ge 9 69 C (by first | assumption | exact ⟨by omega, by omega⟩) (by first | assumption | exact ⟨by omega, by omega⟩) dX4_hangOn_9 (by decide) (fun c9_0 => absurd c9_0 (by omega)) (fun c9_0 => ?_)
      refine v_iload_n 12 1 C dX4_hangOn_12 rfl ?_
      refine v_aload_n 13 3 C dX4_hangOn_13 rfl ?_
      refine g_Mo_isThere 14 C (vm.o hm).1 (vm.o hm).2 lk_507 dX4_hangOn_14 ?_
      refine v_iload_n 17 0 C dX4_hangOn_17 rfl ?_
      refine v_zald 18 C (vm.a hm 51 (by decide) rfl).1 (vm.a hm 51 (by decide) rfl).2 i (izn (by omega)) (lnx (show ln 51 = 30 from rfl) (by omega)) dX4_hangOn_18 ?_
      refine v_eqi (iZ (b 8 i)) ((hM.2.1 i hi2).2.2) ?_
      refine z_if_eq 19 60 C (by first | assumption | exact ⟨by omega, by omega⟩) dX4_hangOn_19 (by decide) (fun c19_1 => ?_) (fun c19_1 => ?_)
      · skip
        refine v_iconst 60 C (iZ 0) dX4_hangOn_60 rfl ?_
        refine z_iadd 61 C dX4_hangOn_61 ?_
        refine v_istore_n 62 [(2, .int (iZ ((cnt (hgP b k) i) + 0))), (3, .int (iZ (i : Int))), (1, .int (iZ (k : Int))), (0, .ref (ad 45))] C dX4_hangOn_62 (by decide) rfl ?_
        refine v_iinc 63 1 (iZ ((i + 1 : Nat) : Int)) [(3, .int (iZ ((i + 1 : Nat) : Int))), (2, .int (iZ ((cnt (hgP b k) i) + 0))), (1, .int (iZ (k : Int))), (0, .ref (ad 45))] C dX4_hangOn_63 rfl (iZ_add _ _) (by decide) rfl ?_
        refine v_goto 66 4 C dX4_hangOn_66 (by decide) ?_
        refine v_sub [0, 1, 2, 3] rfl ?_
        have q := ih (i + 1) (by omega)
        rw [cnt_F (P := hgP b k) (by unfold hgP; rw [decide_eq_false (show ¬ b 8 i = 1 by omega)]; rfl), ← Int.add_zero (cnt (hgP b k) i)] at q
        exact q
      · skip
        refine v_aload_n 22 3 C dX4_hangOn_22 rfl ?_
        refine g_Mo_on 23 C (vm.o hm).1 (vm.o hm).2 lk_503 dX4_hangOn_23 ?_
        refine v_iconst 26 C (iZ 2) dX4_hangOn_26 rfl ?_
        refine v_iload_n 27 0 C dX4_hangOn_27 rfl ?_
        refine z_imul 28 C dX4_hangOn_28 ?_
        refine v_iald 29 C (vm.a hm 47 (by decide) rfl).1 (vm.a hm 47 (by decide) rfl).2 (2 * i) (izn (by omega)) (lnx (show ln 47 = 60 from rfl) (by omega)) dX4_hangOn_29 ?_
        refine v_eqi (iZ (b 4 (2 * i))) ((hM.2.2.1 (2 * i) (by omega)).1) ?_
        refine v_iconst 30 C (iZ 2) dX4_hangOn_30 rfl ?_
        refine z_idiv2 31 C (by first | assumption | exact ⟨by omega, by omega⟩) dX4_hangOn_31 ?_
        refine v_eqi (iZ (b 4 (2 * i) / 2)) (congrArg iZ (Int.tdiv_eq_ediv_of_nonneg (by omega))) ?_
        refine v_iconst 32 C (iZ 1) dX4_hangOn_32 rfl ?_
        refine z_isub 33 C dX4_hangOn_33 ?_
        refine v_iload_n 34 2 C dX4_hangOn_34 rfl ?_
        refine z_icmp_eq 35 56 C (by first | assumption | exact ⟨by omega, by omega⟩) (by first | assumption | exact ⟨by omega, by omega⟩) dX4_hangOn_35 (by decide) (fun c35_2 => ?_) (fun c35_2 => ?_)
        · skip
          refine v_iconst 56 C (iZ 1) dX4_hangOn_56 rfl ?_
          refine v_goto 57 61 C dX4_hangOn_57 (by decide) ?_
          refine z_iadd 61 C dX4_hangOn_61 ?_
          refine v_istore_n 62 [(2, .int (iZ ((cnt (hgP b k) i) + 1))), (3, .int (iZ (i : Int))), (1, .int (iZ (k : Int))), (0, .ref (ad 45))] C dX4_hangOn_62 (by decide) rfl ?_
          refine v_iinc 63 1 (iZ ((i + 1 : Nat) : Int)) [(3, .int (iZ ((i + 1 : Nat) : Int))), (2, .int (iZ ((cnt (hgP b k) i) + 1))), (1, .int (iZ (k : Int))), (0, .ref (ad 45))] C dX4_hangOn_63 rfl (iZ_add _ _) (by decide) rfl ?_
          refine v_goto 66 4 C dX4_hangOn_66 (by decide) ?_
          refine v_sub [0, 1, 2, 3] rfl ?_
          have q := ih (i + 1) (by omega)
          rw [cnt_T (P := hgP b k) (by unfold hgP onP; rw [decide_eq_true (show b 8 i = 1 by omega), decide_eq_true (show b 4 (2 * i) = 2 * (k : Int) + 2 ∨ b 4 (2 * i) = 2 * (k : Int) + 2 + 1 by omega)]; rfl)] at q
          exact q
        · skip
          refine v_aload_n 38 3 C dX4_hangOn_38 rfl ?_
          refine g_Mo_on 39 C (vm.o hm).1 (vm.o hm).2 lk_503 dX4_hangOn_39 ?_
          refine v_iconst 42 C (iZ 2) dX4_hangOn_42 rfl ?_
          refine v_iload_n 43 0 C dX4_hangOn_43 rfl ?_
          refine z_imul 44 C dX4_hangOn_44 ?_
          refine v_iconst 45 C (iZ 1) dX4_hangOn_45 rfl ?_
          refine z_iadd 46 C dX4_hangOn_46 ?_
          refine v_iald 47 C (vm.a hm 47 (by decide) rfl).1 (vm.a hm 47 (by decide) rfl).2 (2 * i + 1) (izn (by omega)) (lnx (show ln 47 = 60 from rfl) (by omega)) dX4_hangOn_47 ?_
          refine v_eqi (iZ (b 4 (2 * i + 1))) ((hM.2.2.1 (2 * i + 1) (by omega)).1) ?_
          refine v_iconst 48 C (iZ 2) dX4_hangOn_48 rfl ?_
          refine z_idiv2 49 C (by first | assumption | exact ⟨by omega, by omega⟩) dX4_hangOn_49 ?_
          refine v_eqi (iZ (b 4 (2 * i + 1) / 2)) (congrArg iZ (Int.tdiv_eq_ediv_of_nonneg (by omega))) ?_
          refine v_iconst 50 C (iZ 1) dX4_hangOn_50 rfl ?_
          refine z_isub 51 C dX4_hangOn_51 ?_
          refine v_iload_n 52 2 C dX4_hangOn_52 rfl ?_
          refine z_icmp_ne 53 60 C (by first | assumption | exact ⟨by omega, by omega⟩) (by first | assumption | exact ⟨by omega, by omega⟩) dX4_hangOn_53 (by decide) (fun c53_3 => ?_) (fun c53_3 => ?_)
          · skip
            refine v_iconst 60 C (iZ 0) dX4_hangOn_60 rfl ?_
            refine z_iadd 61 C dX4_hangOn_61 ?_
            refine v_istore_n 62 [(2, .int (iZ ((cnt (hgP b k) i) + 0))), (3, .int (iZ (i : Int))), (1, .int (iZ (k : Int))), (0, .ref (ad 45))] C dX4_hangOn_62 (by decide) rfl ?_
            refine v_iinc 63 1 (iZ ((i + 1 : Nat) : Int)) [(3, .int (iZ ((i + 1 : Nat) : Int))), (2, .int (iZ ((cnt (hgP b k) i) + 0))), (1, .int (iZ (k : Int))), (0, .ref (ad 45))] C dX4_hangOn_63 rfl (iZ_add _ _) (by decide) rfl ?_
            refine v_goto 66 4 C dX4_hangOn_66 (by decide) ?_
            refine v_sub [0, 1, 2, 3] rfl ?_
            have q := ih (i + 1) (by omega)
            rw [cnt_F (P := hgP b k) (by unfold hgP onP; rw [decide_eq_false (show ¬ (b 4 (2 * i) = 2 * (k : Int) + 2 ∨ b 4 (2 * i) = 2 * (k : Int) + 2 + 1) by omega), decide_eq_false (show ¬ (b 4 (2 * i + 1) = 2 * (k : Int) + 2 ∨ b 4 (2 * i + 1) = 2 * (k : Int) + 2 + 1) by omega)]; simp), ← Int.add_zero (cnt (hgP b k) i)] at q
            exact q
          · skip
            refine v_iconst 56 C (iZ 1) dX4_hangOn_56 rfl ?_
            refine v_goto 57 61 C dX4_hangOn_57 (by decide) ?_
            refine z_iadd 61 C dX4_hangOn_61 ?_
            refine v_istore_n 62 [(2, .int (iZ ((cnt (hgP b k) i) + 1))), (3, .int (iZ (i : Int))), (1, .int (iZ (k : Int))), (0, .ref (ad 45))] C dX4_hangOn_62 (by decide) rfl ?_
            refine v_iinc 63 1 (iZ ((i + 1 : Nat) : Int)) [(3, .int (iZ ((i + 1 : Nat) : Int))), (2, .int (iZ ((cnt (hgP b k) i) + 1))), (1, .int (iZ (k : Int))), (0, .ref (ad 45))] C dX4_hangOn_63 rfl (iZ_add _ _) (by decide) rfl ?_
            refine v_goto 66 4 C dX4_hangOn_66 (by decide) ?_
            refine v_sub [0, 1, 2, 3] rfl ?_
            have q := ih (i + 1) (by omega)
            rw [cnt_T (P := hgP b k) (by unfold hgP onP; rw [decide_eq_true (show b 8 i = 1 by omega), decide_eq_true (show b 4 (2 * i + 1) = 2 * (k : Int) + 2 ∨ b 4 (2 * i + 1) = 2 * (k : Int) + 2 + 1 by omega)]; simp)] at q
            exact q
  refine v_iconst 0 C (iZ 0) dX4_hangOn_0 rfl ?_
  refine v_istore_n 1 [(2, .int (iZ 0)), (0, .ref (ad 45)), (1, .int (iZ (k : Int)))] C dX4_hangOn_1 (by decide) rfl ?_
  refine v_iconst 2 C (iZ 0) dX4_hangOn_2 rfl ?_
  refine v_istore_n 3 [(3, .int (iZ 0)), (2, .int (iZ 0)), (0, .ref (ad 45)), (1, .int (iZ (k : Int)))] C dX4_hangOn_3 (by decide) rfl ?_
  refine v_sub [0, 1, 3, 2] rfl ?_
  exact loop (bn b) 0 (by omega)

set_option maxHeartbeats 4000000 in
set_option maxRecDepth 100000 in
theorem d_free_p {l : Launch} {D : va_G} {kc : Nat → ClassId} {N : Nat} {ad : Nat → Nat} {S : St} {b : Bs} (hm : vm N) (hI : Inv b) (hM : RM S b) {t : Ts} (hE : LE b t) {z : Int} (rz : r32 z) (hp : ¬ isP b z) : MetK l yX4_free cX4_free 2 (some FieldType.int) 3 0 0 70 D kc (wl kc N ad S) [.ref (ad 45), .int (iZ z)] (QI D kc (wl kc N ad S) (mQ kc N ad S (-1) (refB b 1))) := by
  refine MetK.of (by decide +kernel) (Nat.le_of_ble_eq_true rfl) ?_
  intro p e s m below meth c C
  have hA : ∀ q, s.heap.size ≤ q → va_A (wl kc N ad S) s.heap.size q := fun _ h => Or.inr h
  show V p l e { frames := 3, cells := 0, slots := 0, locals := 70 } s m ([.ref (ad 45), .int (iZ z)] : List Value).toArray below meth c (MQ below (QI D kc (wl kc N ad S) (mQ kc N ad S (-1) (refB b 1)) s.heap.size) ([.ref (ad 45), .int (iZ z)] : List Value).toArray s 0 0 (va_A (wl kc N ad S) s.heap.size)) D (va_A (wl kc N ad S) s.heap.size) 2 0 0 (wl kc N ad S) 0 [(0, .ref (ad 45)), (1, .int (iZ z))] []
  have hb0 := hI.1
  refine v_aload_n 0 0 C dX4_free_0 rfl ?_
  refine v_iload_n 1 1 C dX4_free_1 rfl ?_
  refine v_calli 2 hA (rV_Mo 2 C L_RX4_160 lk_658 lk_32 (m4_isPart hm hI hM (by first | assumption | exact ⟨by omega, by omega⟩)) (vm.o hm) rfl ⟨rfl, rfl⟩ (rm_ok rfl) dX4_free_2) (fun r1 w2 h3 => ?_)
  obtain ⟨e_r1, rfl⟩ := h3
  refine v_eqi (iZ (bz (isPb b z))) (e_r1) ?_
  refine z_if_ne 5 14 C (bzr _) dX4_free_5 (by decide) (fun c5_0 => absurd c5_0 (fun q => q (by rw [isPb_n hp]; rfl))) (fun c5_0 => ?_)
  refine v_aload_n 8 0 C dX4_free_8 rfl ?_
  refine v_iconst 9 C (iZ (-1)) dX4_free_9 rfl ?_
  refine v_calli 10 hA (rV_Mo 10 C L_RX4_95 lk_589 lk_22 (m4_refuse hm hI hM 1 (by decide) (by decide)) (vm.o hm) rfl ⟨rfl, rfl⟩ (rm_ok rfl) dX4_free_10) (fun r4 w5 h6 => ?_)
  obtain ⟨e_r4, rfl⟩ := h6
  refine v_eqi (iZ (-1)) (e_r4) ?_
  exact v_iret 13 C (⟨rfl, refM4 S b 1, rfl, refRM hM, refC⟩) dX4_free_13

set_option maxHeartbeats 4000000 in
set_option maxRecDepth 100000 in
theorem d_free_3 {l : Launch} {D : va_G} {kc : Nat → ClassId} {N : Nat} {ad : Nat → Nat} {S : St} {b : Bs} (hm : vm N) (hI : Inv b) (hM : RM S b) {t : Ts} (hE : LE b t) {k : Nat} (hk : k < bn b) (ht : b 8 k = 1) (h3 : 0 < hangN b k) : MetK l yX4_free cX4_free 2 (some FieldType.int) 3 0 0 70 D kc (wl kc N ad S) [.ref (ad 45), .int (iZ (k : Int))] (QI D kc (wl kc N ad S) (mQ kc N ad S (-3) (refB b 3))) := by
  refine MetK.of (by decide +kernel) (Nat.le_of_ble_eq_true rfl) ?_
  intro p e s m below meth c C
  have hA : ∀ q, s.heap.size ≤ q → va_A (wl kc N ad S) s.heap.size q := fun _ h => Or.inr h
  show V p l e { frames := 3, cells := 0, slots := 0, locals := 70 } s m ([.ref (ad 45), .int (iZ (k : Int))] : List Value).toArray below meth c (MQ below (QI D kc (wl kc N ad S) (mQ kc N ad S (-3) (refB b 3)) s.heap.size) ([.ref (ad 45), .int (iZ (k : Int))] : List Value).toArray s 0 0 (va_A (wl kc N ad S) s.heap.size)) D (va_A (wl kc N ad S) s.heap.size) 2 0 0 (wl kc N ad S) 0 [(0, .ref (ad 45)), (1, .int (iZ (k : Int)))] []
  have hb0 := hI.1
  have hcb := cnt_b (hgP b k) (bn b)
  have hhn : hangN b k = cnt (hgP b k) (bn b) := rfl
  refine v_aload_n 0 0 C dX4_free_0 rfl ?_
  refine v_iload_n 1 1 C dX4_free_1 rfl ?_
  refine v_calli 2 hA (rV_Mo 2 C L_RX4_160 lk_658 lk_32 (m4_isPart hm hI hM (by first | assumption | exact ⟨by omega, by omega⟩)) (vm.o hm) rfl ⟨rfl, rfl⟩ (rm_ok rfl) dX4_free_2) (fun r1 w2 h3 => ?_)
  obtain ⟨e_r1, rfl⟩ := h3
  refine v_eqi (iZ (bz (isPb b (k : Int)))) (e_r1) ?_
  refine z_if_ne 5 14 C (bzr _) dX4_free_5 (by decide) (fun c5_0 => ?_) (fun c5_0 => absurd c5_0 (by rw [isPb_y hI hk ht]; decide))
  refine v_aload_n 14 0 C dX4_free_14 rfl ?_
  refine v_iload_n 15 1 C dX4_free_15 rfl ?_
  refine v_calli 16 hA (rV_Mo 16 C L_RX4_163 lk_662 lk_33 (m4_hangOn hm hI hM hk) (vm.o hm) rfl ⟨rfl, rfl⟩ (rm_ok rfl) dX4_free_16) (fun r4 w5 h6 => ?_)
  obtain ⟨e_r4, rfl⟩ := h6
  refine v_eqi (iZ (hangN b k)) (e_r4) ?_
  refine z_if_le 19 29 C (by first | assumption | exact ⟨by omega, by omega⟩) dX4_free_19 (by decide) (fun c19_1 => absurd c19_1 (by omega)) (fun c19_1 => ?_)
  refine v_aload_n 22 0 C dX4_free_22 rfl ?_
  refine v_bipush 23 C (iZ (-3)) dX4_free_23 (by decide) ?_
  refine v_calli 25 hA (rV_Mo 25 C L_RX4_95 lk_589 lk_22 (m4_refuse hm hI hM 3 (by decide) (by decide)) (vm.o hm) rfl ⟨rfl, rfl⟩ (rm_ok rfl) dX4_free_25) (fun r7 w8 h9 => ?_)
  obtain ⟨e_r7, rfl⟩ := h9
  refine v_eqi (iZ (-3)) (e_r7) ?_
  exact v_iret 28 C (⟨rfl, refM4 S b 3, rfl, refRM hM, refC⟩) dX4_free_28

theorem frRM {S : St} {b : Bs} {k : Nat} (hM : RM S b) : RM (pA S 51 k (iZ 0)) (frB b k) := by
  obtain ⟨a, c, d, e, f⟩ := hM
  have A : ∀ i q, i ≠ 51 → gA (pA S 51 k (iZ 0)) i q = gA S i q := fun i q h => by rw [gA_pA, if_neg (fun z => h z.1)]
  refine ⟨a, fun q hq => ?_, fun i hi => ?_, fun r hr => ?_, fun i hi => ?_⟩
  · rw [A 46 q (by decide), A 50 q (by decide), gA_pA]
    refine ⟨(c q hq).1, (c q hq).2.1, ?_⟩
    by_cases e : q = k
    · subst e; rw [if_pos ⟨rfl, rfl⟩, show frB b q 8 q = 0 from upB_s _ _ _ _]
    · rw [if_neg (fun z => e z.2), show frB b k 8 q = b 8 q from upB_i e]; exact (c q hq).2.2
  · rw [A 47 i (by decide), A 48 i (by decide), A 49 i (by decide)]; exact d i hi
  · rw [A 52 r (by decide)]; exact e r hr
  · rw [A 53 i (by decide)]; exact f i hi
set_option maxHeartbeats 4000000 in
set_option maxRecDepth 100000 in
theorem d_free {l : Launch} {D : va_G} {kc : Nat → ClassId} {N : Nat} {ad : Nat → Nat} {S : St} {b : Bs} (hm : vm N) (hI : Inv b) (hM : RM S b) {t : Ts} (hE : LE b t) {k : Nat} (hk : k < bn b) (ht : b 8 k = 1) (h3 : ¬ 0 < hangN b k) : MetK l yX4_free cX4_free 2 (some FieldType.int) 3 0 0 70 D kc (wl kc N ad S) [.ref (ad 45), .int (iZ (k : Int))] (QI D kc (wl kc N ad S) (mQ kc N ad S (1) (frB b k))) := by
  refine MetK.of (by decide +kernel) (Nat.le_of_ble_eq_true rfl) ?_
  intro p e s m below meth c C
  have hA : ∀ q, s.heap.size ≤ q → va_A (wl kc N ad S) s.heap.size q := fun _ h => Or.inr h
  show V p l e { frames := 3, cells := 0, slots := 0, locals := 70 } s m ([.ref (ad 45), .int (iZ (k : Int))] : List Value).toArray below meth c (MQ below (QI D kc (wl kc N ad S) (mQ kc N ad S (1) (frB b k)) s.heap.size) ([.ref (ad 45), .int (iZ (k : Int))] : List Value).toArray s 0 0 (va_A (wl kc N ad S) s.heap.size)) D (va_A (wl kc N ad S) s.heap.size) 2 0 0 (wl kc N ad S) 0 [(0, .ref (ad 45)), (1, .int (iZ (k : Int)))] []
  have hb0 := hI.1
  have hcb := cnt_b (hgP b k) (bn b)
  have hhn : hangN b k = cnt (hgP b k) (bn b) := rfl
  refine v_aload_n 0 0 C dX4_free_0 rfl ?_
  refine v_iload_n 1 1 C dX4_free_1 rfl ?_
  refine v_calli 2 hA (rV_Mo 2 C L_RX4_160 lk_658 lk_32 (m4_isPart hm hI hM (by first | assumption | exact ⟨by omega, by omega⟩)) (vm.o hm) rfl ⟨rfl, rfl⟩ (rm_ok rfl) dX4_free_2) (fun r1 w2 h3 => ?_)
  obtain ⟨e_r1, rfl⟩ := h3
  refine v_eqi (iZ (bz (isPb b (k : Int)))) (e_r1) ?_
  refine z_if_ne 5 14 C (bzr _) dX4_free_5 (by decide) (fun c5_0 => ?_) (fun c5_0 => absurd c5_0 (by rw [isPb_y hI hk ht]; decide))
  refine v_aload_n 14 0 C dX4_free_14 rfl ?_
  refine v_iload_n 15 1 C dX4_free_15 rfl ?_
  refine v_calli 16 hA (rV_Mo 16 C L_RX4_163 lk_662 lk_33 (m4_hangOn hm hI hM hk) (vm.o hm) rfl ⟨rfl, rfl⟩ (rm_ok rfl) dX4_free_16) (fun r4 w5 h6 => ?_)
  obtain ⟨e_r4, rfl⟩ := h6
  refine v_eqi (iZ (hangN b k)) (e_r4) ?_
  refine z_if_le 19 29 C (by first | assumption | exact ⟨by omega, by omega⟩) dX4_free_19 (by decide) (fun c19_1 => ?_) (fun c19_1 => absurd (by omega) c19_1)
  refine v_aload_n 29 0 C dX4_free_29 rfl ?_
  refine g_Mo_isThere 30 C (vm.o hm).1 (vm.o hm).2 lk_507 dX4_free_30 ?_
  refine v_iload_n 33 1 C dX4_free_33 rfl ?_
  refine v_iconst 34 C (iZ 0) dX4_free_34 rfl ?_
  refine v_zast 35 C (vm.a hm 51 (by decide) rfl).1 (vm.a hm 51 (by decide) rfl).2 k (izn (by omega)) (lnx (show ln 51 = 30 from rfl) (by omega)) dX4_free_35 ?_
  rw [vn0]
  refine v_iconst 36 C (iZ 1) dX4_free_36 rfl ?_
  exact v_iret 37 C (⟨rfl, pA S 51 k (iZ 0), rfl, frRM hM, sameC_pA (by decide)⟩) dX4_free_37
