theorem en_lo {b : Bs} {t : Ts} {j u : Nat} : (u < 2 → PLx b t j u (b 1 0) = enx b t j u) ∧ (u < 2 → PLy b t j u (b 1 0) = eny b t j u) := by
  constructor
  · intro h
    rcases (show u = 0 ∨ u = 1 by omega) with rfl | rfl <;> rfl
  · intro h
    rcases (show u = 0 ∨ u = 1 by omega) with rfl | rfl <;> rfl
set_option maxHeartbeats 4000000 in
set_option maxRecDepth 100000 in
theorem m4_findPlanes {l : Launch} {D : va_G} {kc : Nat → ClassId} {N : Nat} {ad : Nat → Nat} {S : St} {b : Bs} (hm : vm N) (hI : Inv b) (hM : RM S b) {t : Ts} (hE : LE b t) {j : Nat} (hj : j < 17) : MetK l yX4_findPlanes cX4_findPlanes 3 (none) 6 0 0 166 D kc (wl kc N ad S) [.ref (ad 45), .int (iZ (j : Int))] (QV D kc (wl kc N ad S) (fun ws' => ∃ S', ws' = wl kc N ad S' ∧ FpF S S' ∧ FP S' b t j (2 * bn b + 2))) := by
  refine MetK.of (by decide +kernel) (Nat.le_of_ble_eq_true rfl) ?_
  intro p e s m below meth c C
  have hA : ∀ q, s.heap.size ≤ q → va_A (wl kc N ad S) s.heap.size q := fun _ h => Or.inr h
  show V p l e { frames := 6, cells := 0, slots := 0, locals := 166 } s m ([.ref (ad 45), .int (iZ (j : Int))] : List Value).toArray below meth c (MQ below (QV D kc (wl kc N ad S) (fun ws' => ∃ S', ws' = wl kc N ad S' ∧ FpF S S' ∧ FP S' b t j (2 * bn b + 2)) s.heap.size) ([.ref (ad 45), .int (iZ (j : Int))] : List Value).toArray s 0 0 (va_A (wl kc N ad S) s.heap.size)) D (va_A (wl kc N ad S) s.heap.size) 3 0 0 (wl kc N ad S) 0 [(0, .ref (ad 45)), (1, .int (iZ (j : Int)))] []
  have hb0 := hI.1
  have loop : ∀ (d u : Nat) (S1 : St), u + d = 2 * bn b + 2 → FpF S S1 → OPk S1 b t j (bn b) → FP S1 b t j u → V p l e { frames := 6, cells := 0, slots := 0, locals := 166 } s m ([.ref (ad 45), .int (iZ (j : Int))] : List Value).toArray below meth c (MQ below (QV D kc (wl kc N ad S) (fun ws' => ∃ S', ws' = wl kc N ad S' ∧ FpF S S' ∧ FP S' b t j (2 * bn b + 2)) s.heap.size) ([.ref (ad 45), .int (iZ (j : Int))] : List Value).toArray s 0 0 (va_A (wl kc N ad S) s.heap.size)) D (va_A (wl kc N ad S) s.heap.size) 3 0 0 (wl kc N ad S1) 7 [(2, .int (iZ (u : Int))), (1, .int (iZ (j : Int))), (0, .ref (ad 45))] [] := by
    intro d
    induction d with
    | zero =>
      intro u S1 hu hF hO hP
      have M1 := hF.RM hM
      refine v_iload_n 7 0 C dX4_findPlanes_7 rfl ?_
      refine v_iconst 8 C (iZ 2) dX4_findPlanes_8 rfl ?_
      refine v_aload_n 9 2 C dX4_findPlanes_9 rfl ?_
      refine g_Mo_parts 10 C (vm.o hm).1 (vm.o hm).2 lk_501 dX4_findPlanes_10 ?_
      refine v_eqi (iZ (b 0 0)) (M1.1.2.2) ?_
      refine z_imul 13 C dX4_findPlanes_13 ?_
      refine v_iconst 14 C (iZ 2) dX4_findPlanes_14 rfl ?_
      refine z_iadd 15 C dX4_findPlanes_15 ?_
      refine z_icmp_ge 16 158 C (by first | assumption | exact ⟨by omega, by omega⟩) (by first | assumption | exact ⟨by omega, by omega⟩) dX4_findPlanes_16 (by decide) (fun c16_0 => ?_) (fun c16_0 => absurd (by omega) c16_0)
      exact v_vret 158 C (⟨S1, rfl, hF, by rw [← show u = 2 * bn b + 2 by omega]; exact hP⟩) dX4_findPlanes_158
    | succ d ih =>
      intro u S1 hu hF hO hP
      have M1 := hF.RM hM
      have hu62 : u < 62 := by omega
      by_cases hlo : u < 2
      · have hth : thL b u := Or.inl hlo
        have hps : PS t j u = 0 := by unfold PS; rw [if_pos hlo]
        have hst := stZ_y hth hps
        have hlo_i : (u : Int) < 2 := by omega
        have A0 := (BF.a (S := S1) (p := u) (v := iZ 1))
        refine v_iload_n 7 0 C dX4_findPlanes_7 rfl ?_
        refine v_iconst 8 C (iZ 2) dX4_findPlanes_8 rfl ?_
        refine v_aload_n 9 2 C dX4_findPlanes_9 rfl ?_
        refine g_Mo_parts 10 C (vm.o hm).1 (vm.o hm).2 lk_501 dX4_findPlanes_10 ?_
        refine v_eqi (iZ (b 0 0)) (M1.1.2.2) ?_
        refine z_imul 13 C dX4_findPlanes_13 ?_
        refine v_iconst 14 C (iZ 2) dX4_findPlanes_14 rfl ?_
        refine z_iadd 15 C dX4_findPlanes_15 ?_
        refine z_icmp_ge 16 158 C (by first | assumption | exact ⟨by omega, by omega⟩) (by first | assumption | exact ⟨by omega, by omega⟩) dX4_findPlanes_16 (by decide) (fun c16_0 => absurd c16_0 (by omega)) (fun c16_0 => ?_)
        refine v_aload_n 19 2 C dX4_findPlanes_19 rfl ?_
        refine g_Mo_stands 20 C (vm.o hm).1 (vm.o hm).2 lk_521 dX4_findPlanes_20 ?_
        refine v_iload_n 23 0 C dX4_findPlanes_23 rfl ?_
        refine v_iload_n 24 0 C dX4_findPlanes_24 rfl ?_
        refine v_iconst 25 C (iZ 2) dX4_findPlanes_25 rfl ?_
        refine z_icmp_lt 26 42 C (by first | assumption | exact ⟨by omega, by omega⟩) (by first | assumption | exact ⟨by omega, by omega⟩) dX4_findPlanes_26 (by decide) (fun c26_1 => ?_) (fun c26_1 => absurd (hlo_i) c26_1)
        refine v_iconst 42 C (iZ 1) dX4_findPlanes_42 rfl ?_
        refine v_goto 43 47 C dX4_findPlanes_43 (by decide) ?_
        refine v_zast 47 C (vm.a hm 62 (by decide) rfl).1 (vm.a hm 62 (by decide) rfl).2 u (izn (by omega)) (lnx (show ln 62 = 62 from rfl) (by omega)) dX4_findPlanes_47 ?_
        rw [vn1]
        refine v_aload_n 48 2 C dX4_findPlanes_48 rfl ?_
        refine g_Mo_stands 49 C (vm.o hm).1 (vm.o hm).2 lk_521 dX4_findPlanes_49 ?_
        refine v_iload_n 52 0 C dX4_findPlanes_52 rfl ?_
        refine v_zald 53 C (vm.a hm 62 (by decide) rfl).1 (vm.a hm 62 (by decide) rfl).2 u (izn (by omega)) (lnx (show ln 62 = 62 from rfl) (by omega)) dX4_findPlanes_53 ?_
        refine v_eqi (iZ 1) (by rw [gA_pA, if_pos ⟨rfl, rfl⟩]) ?_
        refine z_if_eq 54 152 C (by first | assumption | exact ⟨by omega, by omega⟩) dX4_findPlanes_54 (by decide) (fun c54_2 => absurd c54_2 (by decide)) (fun c54_2 => ?_)
        refine v_aload_n 57 2 C dX4_findPlanes_57 rfl ?_
        refine v_iload_n 58 0 C dX4_findPlanes_58 rfl ?_
        refine v_callv 59 hA (rV_Mo 59 C L_RX4_189 lk_726 lk_40 (m4_begin_lo (j := j) (t := t) hm hI (A0.P.RM M1) hE hlo) (vm.o hm) rfl ⟨rfl, rfl⟩ (rm_ok rfl) dX4_findPlanes_59) (fun w2 h3 => ?_)
        obtain ⟨S2, rfl, F2, gx, gy⟩ := h3
        have gyB : gL (pJ S2 58 u (lZ (bgx t j u))) 45 16 = lZ (bgy t j u) := gy
        have A1 := (A0.tr F2.BF).tr ((BF.j (i := 58) (v := lZ (bgx t j u)) (by decide)).tr (BF.j (i := 59) (v := lZ (bgy t j u)) (by decide)))
        have M3 := A1.P.RM M1
        have O3 := A1.OP hO
        refine v_aload_n 62 2 C dX4_findPlanes_62 rfl ?_
        refine g_Mo_beginX 63 C (vm.o hm).1 (vm.o hm).2 lk_517 dX4_findPlanes_63 ?_
        refine v_iload_n 66 0 C dX4_findPlanes_66 rfl ?_
        refine v_aload_n 67 2 C dX4_findPlanes_67 rfl ?_
        refine g_Mo_placeX 68 C (vm.o hm).1 (vm.o hm).2 lk_514 dX4_findPlanes_68 ?_
        refine v_eql (lZ (bgx t j u)) (gx) ?_
        refine v_last 71 C (vm.a hm 58 (by decide) rfl).1 (vm.a hm 58 (by decide) rfl).2 u (izn (by omega)) (lnx (show ln 58 = 62 from rfl) (by omega)) dX4_findPlanes_71 ?_
        refine v_aload_n 72 2 C dX4_findPlanes_72 rfl ?_
        refine g_Mo_beginY 73 C (vm.o hm).1 (vm.o hm).2 lk_518 dX4_findPlanes_73 ?_
        refine v_iload_n 76 0 C dX4_findPlanes_76 rfl ?_
        refine v_aload_n 77 2 C dX4_findPlanes_77 rfl ?_
        refine g_Mo_placeY 78 C (vm.o hm).1 (vm.o hm).2 lk_515 dX4_findPlanes_78 ?_
        refine v_eql (lZ (bgy t j u)) (gyB) ?_
        refine v_last 81 C (vm.a hm 59 (by decide) rfl).1 (vm.a hm 59 (by decide) rfl).2 u (izn (by omega)) (lnx (show ln 59 = 62 from rfl) (by omega)) dX4_findPlanes_81 ?_
        refine v_iload_n 82 0 C dX4_findPlanes_82 rfl ?_
        refine v_iconst 83 C (iZ 2) dX4_findPlanes_83 rfl ?_
        refine z_icmp_ge 84 96 C (by first | assumption | exact ⟨by omega, by omega⟩) (by first | assumption | exact ⟨by omega, by omega⟩) dX4_findPlanes_84 (by decide) (fun c84_3 => absurd c84_3 (by omega)) (fun c84_3 => ?_)
        refine v_aload_n 87 2 C dX4_findPlanes_87 rfl ?_
        refine v_iload_n 88 0 C dX4_findPlanes_88 rfl ?_
        refine v_aload_n 89 2 C dX4_findPlanes_89 rfl ?_
        refine g_Mo_width 90 C (vm.o hm).1 (vm.o hm).2 lk_499 dX4_findPlanes_90 ?_
        refine v_eqi (iZ (b 1 0)) (M3.1.1) ?_
        refine v_callv 93 hA (rV_Mo 93 C L_RX4_113 lk_629 lk_29 (m4_show hm hI M3 hj hE O3 hth (by omega) hps ⟨by have := hI.2.1; omega, hI.2.1.2⟩) (vm.o hm) rfl ⟨rfl, rfl⟩ (rm_ok rfl) dX4_findPlanes_93) (fun w5 h6 => ?_)
        obtain ⟨S3, rfl, F3, hx, hy⟩ := h6
        have hyB : gL (pJ S3 60 u (lZ (PLx b t j u (b 1 0)))) 45 16 = lZ (PLy b t j u (b 1 0)) := hy
        have A2 := (A1.tr F3.BF).tr ((BF.j (i := 60) (v := lZ (PLx b t j u (b 1 0))) (by decide)).tr (BF.j (i := 61) (v := lZ (PLy b t j u (b 1 0))) (by decide)))
        refine v_aload_n 96 2 C dX4_findPlanes_96 rfl ?_
        refine g_Mo_endX 97 C (vm.o hm).1 (vm.o hm).2 lk_519 dX4_findPlanes_97 ?_
        refine v_iload_n 100 0 C dX4_findPlanes_100 rfl ?_
        refine v_iload_n 101 0 C dX4_findPlanes_101 rfl ?_
        refine v_iconst 102 C (iZ 2) dX4_findPlanes_102 rfl ?_
        refine z_icmp_ge 103 113 C (by first | assumption | exact ⟨by omega, by omega⟩) (by first | assumption | exact ⟨by omega, by omega⟩) dX4_findPlanes_103 (by decide) (fun c103_4 => absurd c103_4 (by omega)) (fun c103_4 => ?_)
        refine v_aload_n 106 2 C dX4_findPlanes_106 rfl ?_
        refine g_Mo_placeX 107 C (vm.o hm).1 (vm.o hm).2 lk_514 dX4_findPlanes_107 ?_
        refine v_eql (lZ (PLx b t j u (b 1 0))) (hx) ?_
        refine v_goto 110 123 C dX4_findPlanes_110 (by decide) ?_
        refine v_last 123 C (vm.a hm 60 (by decide) rfl).1 (vm.a hm 60 (by decide) rfl).2 u (izn (by omega)) (lnx (show ln 60 = 62 from rfl) (by omega)) dX4_findPlanes_123 ?_
        refine v_aload_n 124 2 C dX4_findPlanes_124 rfl ?_
        refine g_Mo_endY 125 C (vm.o hm).1 (vm.o hm).2 lk_520 dX4_findPlanes_125 ?_
        refine v_iload_n 128 0 C dX4_findPlanes_128 rfl ?_
        refine v_iload_n 129 0 C dX4_findPlanes_129 rfl ?_
        refine v_iconst 130 C (iZ 2) dX4_findPlanes_130 rfl ?_
        refine z_icmp_ge 131 141 C (by first | assumption | exact ⟨by omega, by omega⟩) (by first | assumption | exact ⟨by omega, by omega⟩) dX4_findPlanes_131 (by decide) (fun c131_5 => absurd c131_5 (by omega)) (fun c131_5 => ?_)
        refine v_aload_n 134 2 C dX4_findPlanes_134 rfl ?_
        refine g_Mo_placeY 135 C (vm.o hm).1 (vm.o hm).2 lk_515 dX4_findPlanes_135 ?_
        refine v_eql (lZ (PLy b t j u (b 1 0))) (hyB) ?_
        refine v_goto 138 151 C dX4_findPlanes_138 (by decide) ?_
        refine v_last 151 C (vm.a hm 61 (by decide) rfl).1 (vm.a hm 61 (by decide) rfl).2 u (izn (by omega)) (lnx (show ln 61 = 62 from rfl) (by omega)) dX4_findPlanes_151 ?_
        refine v_iinc 152 0 (iZ ((u + 1 : Nat) : Int)) [(2, .int (iZ ((u + 1 : Nat) : Int))), (1, .int (iZ (j : Int))), (0, .ref (ad 45))] C dX4_findPlanes_152 rfl (iZ_add _ _) (by decide) rfl ?_
        refine v_goto 155 7 C dX4_findPlanes_155 (by decide) ?_
        refine v_sub [0, 1, 2] rfl ?_
        refine ih (u + 1) _ (by omega) (hF.tr A2.P) (A2.OP hO) (FP_next A2 hP ?_ (fun _ _ => ⟨?_, ?_, ?_, ?_⟩))
        · show gA S3 62 u = _
          rw [(F3.1 62 (by decide) u).2.1]
          show gA S2 62 u = _
          rw [(F2.1 62 (by decide) u).2.1, gA_pA, if_pos ⟨rfl, rfl⟩, hst]
        · rw [gJ_pJ, if_neg (fun z => absurd z.1 (by decide)), gJ_pJ, if_neg (fun z => absurd z.1 (by decide)), (F3.1 58 (by decide) u).2.2.2.1, gJ_pJ, if_neg (fun z => absurd z.1 (by decide)), gJ_pJ, if_pos ⟨rfl, rfl⟩]
        · rw [gJ_pJ, if_neg (fun z => absurd z.1 (by decide)), gJ_pJ, if_neg (fun z => absurd z.1 (by decide)), (F3.1 59 (by decide) u).2.2.2.1, gJ_pJ, if_pos ⟨rfl, rfl⟩]
        · rw [gJ_pJ, if_neg (fun z => absurd z.1 (by decide)), gJ_pJ, if_pos ⟨rfl, rfl⟩, en_lo.1 hlo]
        · rw [gJ_pJ, if_pos ⟨rfl, rfl⟩, en_lo.2 hlo]
      · obtain ⟨k, hk2⟩ : ∃ k, u / 2 - 1 = k := ⟨_, rfl⟩
        have hk : k < bn b := by omega
        obtain ⟨v, hv0⟩ : ∃ v : Int, v = (if b 8 k = 1 then t 4 k j else 1) := ⟨_, rfl⟩
        have hv : gA S1 56 k = iZ v := by rw [hv0]; exact (hO.2 k hk hk).1
        have hv01 : b01 v := by
          rw [hv0]
          split
          · rename_i q; exact (hE k hk hk q j hj).1
          · exact Or.inr rfl
        have ePS : PS t j u = t 4 k j := by unfold PS; rw [if_neg hlo, hk2]
        by_cases hs : v = 0
        · have h8 : b 8 k = 1 := by
            by_cases q : b 8 k = 1
            · exact q
            · rw [if_neg q] at hv0; omega
          rw [if_pos h8] at hv0
          have hth : thL b u := Or.inr ⟨by omega, by rw [hk2]; exact hk, by rw [hk2]; exact h8⟩
          have hps : PS t j u = 0 := by omega
          have hst := stZ_y hth hps
          have A0 := (BF.a (S := S1) (p := u) (v := iZ 1))
          have at0 := (hO.2 k hk hk).2 h8 (by omega)
          refine v_iload_n 7 0 C dX4_findPlanes_7 rfl ?_
          refine v_iconst 8 C (iZ 2) dX4_findPlanes_8 rfl ?_
          refine v_aload_n 9 2 C dX4_findPlanes_9 rfl ?_
          refine g_Mo_parts 10 C (vm.o hm).1 (vm.o hm).2 lk_501 dX4_findPlanes_10 ?_
          refine v_eqi (iZ (b 0 0)) (M1.1.2.2) ?_
          refine z_imul 13 C dX4_findPlanes_13 ?_
          refine v_iconst 14 C (iZ 2) dX4_findPlanes_14 rfl ?_
          refine z_iadd 15 C dX4_findPlanes_15 ?_
          refine z_icmp_ge 16 158 C (by first | assumption | exact ⟨by omega, by omega⟩) (by first | assumption | exact ⟨by omega, by omega⟩) dX4_findPlanes_16 (by decide) (fun c16_0 => absurd c16_0 (by omega)) (fun c16_0 => ?_)
          refine v_aload_n 19 2 C dX4_findPlanes_19 rfl ?_
          refine g_Mo_stands 20 C (vm.o hm).1 (vm.o hm).2 lk_521 dX4_findPlanes_20 ?_
          refine v_iload_n 23 0 C dX4_findPlanes_23 rfl ?_
          refine v_iload_n 24 0 C dX4_findPlanes_24 rfl ?_
          refine v_iconst 25 C (iZ 2) dX4_findPlanes_25 rfl ?_
          refine z_icmp_lt 26 42 C (by first | assumption | exact ⟨by omega, by omega⟩) (by first | assumption | exact ⟨by omega, by omega⟩) dX4_findPlanes_26 (by decide) (fun c26_1 => absurd c26_1 (by omega)) (fun c26_1 => ?_)
          refine v_aload_n 29 2 C dX4_findPlanes_29 rfl ?_
          refine g_Mo_isStuck 30 C (vm.o hm).1 (vm.o hm).2 lk_513 dX4_findPlanes_30 ?_
          refine v_iload_n 33 0 C dX4_findPlanes_33 rfl ?_
          refine v_iconst 34 C (iZ 2) dX4_findPlanes_34 rfl ?_
          refine z_idiv2 35 C (by first | assumption | exact ⟨by omega, by omega⟩) dX4_findPlanes_35 ?_
          refine v_eqi (iZ ((u : Int) / 2)) (congrArg iZ (Int.tdiv_eq_ediv_of_nonneg (by omega))) ?_
          refine v_iconst 36 C (iZ 1) dX4_findPlanes_36 rfl ?_
          refine z_isub 37 C dX4_findPlanes_37 ?_
          refine v_zald 38 C (vm.a hm 56 (by decide) rfl).1 (vm.a hm 56 (by decide) rfl).2 k (izn (by omega)) (lnx (show ln 56 = 30 from rfl) (by omega)) dX4_findPlanes_38 ?_
          refine v_eqi (iZ v) (hv) ?_
          refine z_if_ne 39 46 C (by first | assumption | exact ⟨by omega, by omega⟩) dX4_findPlanes_39 (by decide) (fun c39_2 => absurd c39_2 (fun q => q hs)) (fun c39_2 => ?_)
          refine v_iconst 42 C (iZ 1) dX4_findPlanes_42 rfl ?_
          refine v_goto 43 47 C dX4_findPlanes_43 (by decide) ?_
          refine v_zast 47 C (vm.a hm 62 (by decide) rfl).1 (vm.a hm 62 (by decide) rfl).2 u (izn (by omega)) (lnx (show ln 62 = 62 from rfl) (by omega)) dX4_findPlanes_47 ?_
          rw [vn1]
          refine v_aload_n 48 2 C dX4_findPlanes_48 rfl ?_
          refine g_Mo_stands 49 C (vm.o hm).1 (vm.o hm).2 lk_521 dX4_findPlanes_49 ?_
          refine v_iload_n 52 0 C dX4_findPlanes_52 rfl ?_
          refine v_zald 53 C (vm.a hm 62 (by decide) rfl).1 (vm.a hm 62 (by decide) rfl).2 u (izn (by omega)) (lnx (show ln 62 = 62 from rfl) (by omega)) dX4_findPlanes_53 ?_
          refine v_eqi (iZ 1) (by rw [gA_pA, if_pos ⟨rfl, rfl⟩]) ?_
          refine z_if_eq 54 152 C (by first | assumption | exact ⟨by omega, by omega⟩) dX4_findPlanes_54 (by decide) (fun c54_3 => absurd c54_3 (by decide)) (fun c54_3 => ?_)
          refine v_aload_n 57 2 C dX4_findPlanes_57 rfl ?_
          refine v_iload_n 58 0 C dX4_findPlanes_58 rfl ?_
          refine v_callv 59 hA (rV_Mo 59 C L_RX4_189 lk_726 lk_40 (m4_begin_hi (i := u - 2) (j := j) (t := t) hm hI (A0.P.RM M1) hE (by omega) hj hth hps (A0.OP hO)) (vm.o hm) rfl ⟨rfl, rfl⟩ (rm_ok rfl) dX4_findPlanes_59) (fun w8 h9 => ?_)
          obtain ⟨S2, rfl, F2, gx, gy⟩ := h9
          have gyB : gL (pJ S2 58 u (lZ (bgx t j u))) 45 16 = lZ (bgy t j u) := gy
          have A1 := (A0.tr F2.BF).tr ((BF.j (i := 58) (v := lZ (bgx t j u)) (by decide)).tr (BF.j (i := 59) (v := lZ (bgy t j u)) (by decide)))
          have A2 := A1.tr ((BF.j (i := 60) (v := lZ (t 2 k j)) (by decide)).tr (BF.j (i := 61) (v := lZ (t 3 k j)) (by decide)))
          refine v_aload_n 62 2 C dX4_findPlanes_62 rfl ?_
          refine g_Mo_beginX 63 C (vm.o hm).1 (vm.o hm).2 lk_517 dX4_findPlanes_63 ?_
          refine v_iload_n 66 0 C dX4_findPlanes_66 rfl ?_
          refine v_aload_n 67 2 C dX4_findPlanes_67 rfl ?_
          refine g_Mo_placeX 68 C (vm.o hm).1 (vm.o hm).2 lk_514 dX4_findPlanes_68 ?_
          refine v_eql (lZ (bgx t j u)) (gx) ?_
          refine v_last 71 C (vm.a hm 58 (by decide) rfl).1 (vm.a hm 58 (by decide) rfl).2 u (izn (by omega)) (lnx (show ln 58 = 62 from rfl) (by omega)) dX4_findPlanes_71 ?_
          refine v_aload_n 72 2 C dX4_findPlanes_72 rfl ?_
          refine g_Mo_beginY 73 C (vm.o hm).1 (vm.o hm).2 lk_518 dX4_findPlanes_73 ?_
          refine v_iload_n 76 0 C dX4_findPlanes_76 rfl ?_
          refine v_aload_n 77 2 C dX4_findPlanes_77 rfl ?_
          refine g_Mo_placeY 78 C (vm.o hm).1 (vm.o hm).2 lk_515 dX4_findPlanes_78 ?_
          refine v_eql (lZ (bgy t j u)) (gyB) ?_
          refine v_last 81 C (vm.a hm 59 (by decide) rfl).1 (vm.a hm 59 (by decide) rfl).2 u (izn (by omega)) (lnx (show ln 59 = 62 from rfl) (by omega)) dX4_findPlanes_81 ?_
          refine v_iload_n 82 0 C dX4_findPlanes_82 rfl ?_
          refine v_iconst 83 C (iZ 2) dX4_findPlanes_83 rfl ?_
          refine z_icmp_ge 84 96 C (by first | assumption | exact ⟨by omega, by omega⟩) (by first | assumption | exact ⟨by omega, by omega⟩) dX4_findPlanes_84 (by decide) (fun c84_4 => ?_) (fun c84_4 => absurd (by omega) c84_4)
          refine v_aload_n 96 2 C dX4_findPlanes_96 rfl ?_
          refine g_Mo_endX 97 C (vm.o hm).1 (vm.o hm).2 lk_519 dX4_findPlanes_97 ?_
          refine v_iload_n 100 0 C dX4_findPlanes_100 rfl ?_
          refine v_iload_n 101 0 C dX4_findPlanes_101 rfl ?_
          refine v_iconst 102 C (iZ 2) dX4_findPlanes_102 rfl ?_
          refine z_icmp_ge 103 113 C (by first | assumption | exact ⟨by omega, by omega⟩) (by first | assumption | exact ⟨by omega, by omega⟩) dX4_findPlanes_103 (by decide) (fun c103_5 => ?_) (fun c103_5 => absurd (by omega) c103_5)
          refine v_aload_n 113 2 C dX4_findPlanes_113 rfl ?_
          refine g_Mo_atX 114 C (vm.o hm).1 (vm.o hm).2 lk_511 dX4_findPlanes_114 ?_
          refine v_iload_n 117 0 C dX4_findPlanes_117 rfl ?_
          refine v_iconst 118 C (iZ 2) dX4_findPlanes_118 rfl ?_
          refine z_idiv2 119 C (by first | assumption | exact ⟨by omega, by omega⟩) dX4_findPlanes_119 ?_
          refine v_eqi (iZ ((u : Int) / 2)) (congrArg iZ (Int.tdiv_eq_ediv_of_nonneg (by omega))) ?_
          refine v_iconst 120 C (iZ 1) dX4_findPlanes_120 rfl ?_
          refine z_isub 121 C dX4_findPlanes_121 ?_
          refine v_lald 122 C (vm.a hm 54 (by decide) rfl).1 (vm.a hm 54 (by decide) rfl).2 k (izn (by omega)) (lnx (show ln 54 = 30 from rfl) (by omega)) dX4_findPlanes_122 ?_
          refine v_eql (lZ (t 2 k j)) ((((A1.OP hO).2 k hk hk).2 h8 (by omega)).1) ?_
          refine v_last 123 C (vm.a hm 60 (by decide) rfl).1 (vm.a hm 60 (by decide) rfl).2 u (izn (by omega)) (lnx (show ln 60 = 62 from rfl) (by omega)) dX4_findPlanes_123 ?_
          refine v_aload_n 124 2 C dX4_findPlanes_124 rfl ?_
          refine g_Mo_endY 125 C (vm.o hm).1 (vm.o hm).2 lk_520 dX4_findPlanes_125 ?_
          refine v_iload_n 128 0 C dX4_findPlanes_128 rfl ?_
          refine v_iload_n 129 0 C dX4_findPlanes_129 rfl ?_
          refine v_iconst 130 C (iZ 2) dX4_findPlanes_130 rfl ?_
          refine z_icmp_ge 131 141 C (by first | assumption | exact ⟨by omega, by omega⟩) (by first | assumption | exact ⟨by omega, by omega⟩) dX4_findPlanes_131 (by decide) (fun c131_6 => ?_) (fun c131_6 => absurd (by omega) c131_6)
          refine v_aload_n 141 2 C dX4_findPlanes_141 rfl ?_
          refine g_Mo_atY 142 C (vm.o hm).1 (vm.o hm).2 lk_512 dX4_findPlanes_142 ?_
          refine v_iload_n 145 0 C dX4_findPlanes_145 rfl ?_
          refine v_iconst 146 C (iZ 2) dX4_findPlanes_146 rfl ?_
          refine z_idiv2 147 C (by first | assumption | exact ⟨by omega, by omega⟩) dX4_findPlanes_147 ?_
          refine v_eqi (iZ ((u : Int) / 2)) (congrArg iZ (Int.tdiv_eq_ediv_of_nonneg (by omega))) ?_
          refine v_iconst 148 C (iZ 1) dX4_findPlanes_148 rfl ?_
          refine z_isub 149 C dX4_findPlanes_149 ?_
          refine v_lald 150 C (vm.a hm 55 (by decide) rfl).1 (vm.a hm 55 (by decide) rfl).2 k (izn (by omega)) (lnx (show ln 55 = 30 from rfl) (by omega)) dX4_findPlanes_150 ?_
          refine v_eql (lZ (t 3 k j)) ((((A1.OP hO).2 k hk hk).2 h8 (by omega)).2) ?_
          refine v_last 151 C (vm.a hm 61 (by decide) rfl).1 (vm.a hm 61 (by decide) rfl).2 u (izn (by omega)) (lnx (show ln 61 = 62 from rfl) (by omega)) dX4_findPlanes_151 ?_
          refine v_iinc 152 0 (iZ ((u + 1 : Nat) : Int)) [(2, .int (iZ ((u + 1 : Nat) : Int))), (1, .int (iZ (j : Int))), (0, .ref (ad 45))] C dX4_findPlanes_152 rfl (iZ_add _ _) (by decide) rfl ?_
          refine v_goto 155 7 C dX4_findPlanes_155 (by decide) ?_
          refine v_sub [0, 1, 2] rfl ?_
          refine ih (u + 1) _ (by omega) (hF.tr A2.P) (A2.OP hO) (FP_next A2 hP ?_ (fun _ _ => ⟨?_, ?_, ?_, ?_⟩))
          · show gA S2 62 u = _
            rw [(F2.1 62 (by decide) u).2.1, gA_pA, if_pos ⟨rfl, rfl⟩, hst]
          · rw [gJ_pJ, if_neg (fun z => absurd z.1 (by decide)), gJ_pJ, if_neg (fun z => absurd z.1 (by decide)), gJ_pJ, if_neg (fun z => absurd z.1 (by decide)), gJ_pJ, if_pos ⟨rfl, rfl⟩]
          · rw [gJ_pJ, if_neg (fun z => absurd z.1 (by decide)), gJ_pJ, if_neg (fun z => absurd z.1 (by decide)), gJ_pJ, if_pos ⟨rfl, rfl⟩]
          · rw [gJ_pJ, if_neg (fun z => absurd z.1 (by decide)), gJ_pJ, if_pos ⟨rfl, rfl⟩]; unfold enx; rw [if_neg (by omega), if_neg (by omega), hk2]
          · rw [gJ_pJ, if_pos ⟨rfl, rfl⟩]; unfold eny; rw [if_neg (by omega), if_neg (by omega), hk2]
        · have hno : ¬ (thL b u ∧ PS t j u = 0) := fun q => by
            have T := thL_lt q.1 (by omega)
            rw [hk2] at T
            rw [if_pos T.2] at hv0
            have := q.2
            omega
          have hst := stZ_n hno
          have A0 := (BF.a (S := S1) (p := u) (v := iZ 0))
          refine v_iload_n 7 0 C dX4_findPlanes_7 rfl ?_
          refine v_iconst 8 C (iZ 2) dX4_findPlanes_8 rfl ?_
          refine v_aload_n 9 2 C dX4_findPlanes_9 rfl ?_
          refine g_Mo_parts 10 C (vm.o hm).1 (vm.o hm).2 lk_501 dX4_findPlanes_10 ?_
          refine v_eqi (iZ (b 0 0)) (M1.1.2.2) ?_
          refine z_imul 13 C dX4_findPlanes_13 ?_
          refine v_iconst 14 C (iZ 2) dX4_findPlanes_14 rfl ?_
          refine z_iadd 15 C dX4_findPlanes_15 ?_
          refine z_icmp_ge 16 158 C (by first | assumption | exact ⟨by omega, by omega⟩) (by first | assumption | exact ⟨by omega, by omega⟩) dX4_findPlanes_16 (by decide) (fun c16_0 => absurd c16_0 (by omega)) (fun c16_0 => ?_)
          refine v_aload_n 19 2 C dX4_findPlanes_19 rfl ?_
          refine g_Mo_stands 20 C (vm.o hm).1 (vm.o hm).2 lk_521 dX4_findPlanes_20 ?_
          refine v_iload_n 23 0 C dX4_findPlanes_23 rfl ?_
          refine v_iload_n 24 0 C dX4_findPlanes_24 rfl ?_
          refine v_iconst 25 C (iZ 2) dX4_findPlanes_25 rfl ?_
          refine z_icmp_lt 26 42 C (by first | assumption | exact ⟨by omega, by omega⟩) (by first | assumption | exact ⟨by omega, by omega⟩) dX4_findPlanes_26 (by decide) (fun c26_1 => absurd c26_1 (by omega)) (fun c26_1 => ?_)
          refine v_aload_n 29 2 C dX4_findPlanes_29 rfl ?_
          refine g_Mo_isStuck 30 C (vm.o hm).1 (vm.o hm).2 lk_513 dX4_findPlanes_30 ?_
          refine v_iload_n 33 0 C dX4_findPlanes_33 rfl ?_
          refine v_iconst 34 C (iZ 2) dX4_findPlanes_34 rfl ?_
          refine z_idiv2 35 C (by first | assumption | exact ⟨by omega, by omega⟩) dX4_findPlanes_35 ?_
          refine v_eqi (iZ ((u : Int) / 2)) (congrArg iZ (Int.tdiv_eq_ediv_of_nonneg (by omega))) ?_
          refine v_iconst 36 C (iZ 1) dX4_findPlanes_36 rfl ?_
          refine z_isub 37 C dX4_findPlanes_37 ?_
          refine v_zald 38 C (vm.a hm 56 (by decide) rfl).1 (vm.a hm 56 (by decide) rfl).2 k (izn (by omega)) (lnx (show ln 56 = 30 from rfl) (by omega)) dX4_findPlanes_38 ?_
          refine v_eqi (iZ v) (hv) ?_
          refine z_if_ne 39 46 C (by first | assumption | exact ⟨by omega, by omega⟩) dX4_findPlanes_39 (by decide) (fun c39_2 => ?_) (fun c39_2 => absurd c39_2 (hs))
          refine v_iconst 46 C (iZ 0) dX4_findPlanes_46 rfl ?_
          refine v_zast 47 C (vm.a hm 62 (by decide) rfl).1 (vm.a hm 62 (by decide) rfl).2 u (izn (by omega)) (lnx (show ln 62 = 62 from rfl) (by omega)) dX4_findPlanes_47 ?_
          rw [vn0]
          refine v_aload_n 48 2 C dX4_findPlanes_48 rfl ?_
          refine g_Mo_stands 49 C (vm.o hm).1 (vm.o hm).2 lk_521 dX4_findPlanes_49 ?_
          refine v_iload_n 52 0 C dX4_findPlanes_52 rfl ?_
          refine v_zald 53 C (vm.a hm 62 (by decide) rfl).1 (vm.a hm 62 (by decide) rfl).2 u (izn (by omega)) (lnx (show ln 62 = 62 from rfl) (by omega)) dX4_findPlanes_53 ?_
          refine v_eqi (iZ 0) (by rw [gA_pA, if_pos ⟨rfl, rfl⟩]) ?_
          refine z_if_eq 54 152 C (by first | assumption | exact ⟨by omega, by omega⟩) dX4_findPlanes_54 (by decide) (fun c54_3 => ?_) (fun c54_3 => absurd (rfl) c54_3)
          refine v_iinc 152 0 (iZ ((u + 1 : Nat) : Int)) [(2, .int (iZ ((u + 1 : Nat) : Int))), (1, .int (iZ (j : Int))), (0, .ref (ad 45))] C dX4_findPlanes_152 rfl (iZ_add _ _) (by decide) rfl ?_
          refine v_goto 155 7 C dX4_findPlanes_155 (by decide) ?_
          refine v_sub [0, 1, 2] rfl ?_
          exact ih (u + 1) _ (by omega) (hF.tr A0.P) (A0.OP hO) (FP_next A0 hP (by rw [gA_pA, if_pos ⟨rfl, rfl⟩, hst]) (fun q1 q2 => absurd ⟨q1, q2⟩ hno))
  refine v_aload_n 0 0 C dX4_findPlanes_0 rfl ?_
  refine v_iload_n 1 1 C dX4_findPlanes_1 rfl ?_
  refine v_callv 2 hA (rV_Mo 2 C L_RX4_155 lk_617 lk_26 (m4_open hm hI hM hE hj) (vm.o hm) rfl ⟨rfl, rfl⟩ (rm_ok rfl) dX4_findPlanes_2) (fun w11 h12 => ?_)
  obtain ⟨S1, rfl, F1, O1⟩ := h12
  refine v_iconst 5 C (iZ 0) dX4_findPlanes_5 rfl ?_
  refine v_istore_n 6 [(2, .int (iZ 0)), (0, .ref (ad 45)), (1, .int (iZ (j : Int)))] C dX4_findPlanes_6 (by decide) rfl ?_
  refine v_sub [0, 2, 1] rfl ?_
  exact loop (2 * bn b + 2) 0 S1 (by omega) F1.P O1 (fun p h => absurd h (by omega))
