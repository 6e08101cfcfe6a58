set_option maxHeartbeats 4000000 in
set_option maxRecDepth 100000 in
theorem m_judge_6 {l : Launch} {D : va_G} {kc : Nat → ClassId} {N : Nat} {ad : Nat → Nat} {S : St} {b : Bs} (hg : vg N) (hN : N = 66 + 15 * bn b) (hI : Inv b) (hP : RP S b) {u q : Nat} (hu : thL b u) (hq : thL b q) (he : ¬ u = q) {kd a b_ cF dF f : Int} (rk : r32 kd) (ra : r32 a) (rb : r32 b_) (rc : r32 cF) (rd : r32 dF) (hk : 0 ≤ kd ∧ kd ≤ 2) (h4 : gdP kd a b_ cF dF) (h6 : ¬ rmP b kd u a q b_ cF dF) (hT : TJ S kd (u : Int) a (q : Int) b_ cF dF f) : MetK l yX3_judgeTrial cX3_judgeTrial 8 (some FieldType.int) 2 0 0 45 D kc (wl kc N ad S) [.ref (ad 0)] (QI D kc (wl kc N ad S) (fun r ws' => r = iZ (-6) ∧ ws' = wl kc N ad S)) := by
  refine MetK.of (by decide +kernel) (Nat.le_of_ble_eq_true rfl) ?_
  intro p e s m below meth c C
  have hA : ∀ q, s.heap.size ≤ q → va_A (wl kc N ad S) s.heap.size q := fun _ h => Or.inr h
  show V p l e { frames := 2, cells := 0, slots := 0, locals := 45 } s m ([.ref (ad 0)] : List Value).toArray below meth c (MQ below (QI D kc (wl kc N ad S) (fun r ws' => r = iZ (-6) ∧ ws' = wl kc N ad S) s.heap.size) ([.ref (ad 0)] : List Value).toArray s 0 0 (va_A (wl kc N ad S) s.heap.size)) D (va_A (wl kc N ad S) s.heap.size) 8 0 0 (wl kc N ad S) 0 [(0, .ref (ad 0))] []
  have hb0 := hI.1
  have h62u := thL_62 hI hu
  have h62q := thL_62 hI hq
  have hszu := szL_b hI hu
  have hszq := szL_b hI hq
  have hn30 := hI.1
  unfold rmP at h6
  rw [Int.toNat_natCast, Int.toNat_natCast] at h6
  refine v_aload_n 0 0 C dX3_judgeTrial_0 rfl ?_
  refine v_aload_n 1 0 C dX3_judgeTrial_1 rfl ?_
  refine g_Pg_trial 2 C (vg.o hg).1 (vg.o hg).2 lk_212 dX3_judgeTrial_2 ?_
  refine g_Pt_p 5 C (vp.o (vg.t hg)).1 (vp.o (vg.t hg)).2 lk_135 dX3_judgeTrial_5 ?_
  refine v_eqi (iZ (u : Int)) (hT.2.1) ?_
  refine v_callq 8 hA (rV_Pg 8 C L_RX3_138 lk_187 lk_1 (m_planeThere hg hN hI hP hu) (vg.o hg) rfl ⟨rfl, rfl⟩ (rm_ok rfl) dX3_judgeTrial_8) (fun r1 w2 h3 => ?_)
  obtain ⟨e_r1, rfl⟩ := h3
  refine v_eqv (.ref (ad (plN u))) (by rw [e_r1]; rfl) ?_
  refine v_astore_n 11 [(1, .ref (ad (plN u))), (0, .ref (ad 0))] C dX3_judgeTrial_11 (by decide) rfl ?_
  refine v_aload_n 12 1 C dX3_judgeTrial_12 rfl ?_
  refine v_aload_n 13 1 C dX3_judgeTrial_13 rfl ?_
  refine g_Pg_trial 14 C (vg.o hg).1 (vg.o hg).2 lk_212 dX3_judgeTrial_14 ?_
  refine g_Pt_q 17 C (vp.o (vg.t hg)).1 (vp.o (vg.t hg)).2 lk_139 dX3_judgeTrial_17 ?_
  refine v_eqi (iZ (q : Int)) (hT.2.2.2.1) ?_
  refine v_callq 20 hA (rV_Pg 20 C L_RX3_138 lk_187 lk_1 (m_planeThere hg hN hI hP hq) (vg.o hg) rfl ⟨rfl, rfl⟩ (rm_ok rfl) dX3_judgeTrial_20) (fun r4 w5 h6 => ?_)
  obtain ⟨e_r4, rfl⟩ := h6
  refine v_eqv (.ref (ad (plN q))) (by rw [e_r4]; rfl) ?_
  refine v_astore_n 23 [(2, .ref (ad (plN q))), (1, .ref (ad (plN u))), (0, .ref (ad 0))] C dX3_judgeTrial_23 (by decide) rfl ?_
  refine v_aload_n 24 1 C dX3_judgeTrial_24 rfl ?_
  refine v_ifnull 25 C dX3_judgeTrial_25 ?_
  refine v_aload_n 28 0 C dX3_judgeTrial_28 rfl ?_
  refine v_ifnull 29 C dX3_judgeTrial_29 ?_
  refine v_aload_n 32 2 C dX3_judgeTrial_32 rfl ?_
  refine g_Pg_trial 33 C (vg.o hg).1 (vg.o hg).2 lk_212 dX3_judgeTrial_33 ?_
  refine g_Pt_p 36 C (vp.o (vg.t hg)).1 (vp.o (vg.t hg)).2 lk_135 dX3_judgeTrial_36 ?_
  refine v_eqi (iZ (u : Int)) (hT.2.1) ?_
  refine v_aload_n 39 2 C dX3_judgeTrial_39 rfl ?_
  refine g_Pg_trial 40 C (vg.o hg).1 (vg.o hg).2 lk_212 dX3_judgeTrial_40 ?_
  refine g_Pt_q 43 C (vp.o (vg.t hg)).1 (vp.o (vg.t hg)).2 lk_139 dX3_judgeTrial_43 ?_
  refine v_eqi (iZ (q : Int)) (hT.2.2.2.1) ?_
  refine z_icmp_ne 46 51 C (by first | assumption | exact ⟨by omega, by omega⟩) (by first | assumption | exact ⟨by omega, by omega⟩) dX3_judgeTrial_46 (by decide) (fun c46_0 => ?_) (fun c46_0 => absurd c46_0 (by omega))
  refine v_aload_n 51 2 C dX3_judgeTrial_51 rfl ?_
  refine g_Pg_trial 52 C (vg.o hg).1 (vg.o hg).2 lk_212 dX3_judgeTrial_52 ?_
  refine g_Pt_kind 55 C (vp.o (vg.t hg)).1 (vp.o (vg.t hg)).2 lk_133 dX3_judgeTrial_55 ?_
  refine v_eqi (iZ kd) (hT.1) ?_
  refine z_if_lt 58 72 C (by first | assumption | exact ⟨by omega, by omega⟩) dX3_judgeTrial_58 (by decide) (fun c58_1 => absurd c58_1 (by omega)) (fun c58_1 => ?_)
  refine v_aload_n 61 2 C dX3_judgeTrial_61 rfl ?_
  refine g_Pg_trial 62 C (vg.o hg).1 (vg.o hg).2 lk_212 dX3_judgeTrial_62 ?_
  refine g_Pt_kind 65 C (vp.o (vg.t hg)).1 (vp.o (vg.t hg)).2 lk_133 dX3_judgeTrial_65 ?_
  refine v_eqi (iZ kd) (hT.1) ?_
  refine v_iconst 68 C (iZ 2) dX3_judgeTrial_68 rfl ?_
  refine z_icmp_le 69 75 C (by first | assumption | exact ⟨by omega, by omega⟩) (by first | assumption | exact ⟨by omega, by omega⟩) dX3_judgeTrial_69 (by decide) (fun c69_2 => ?_) (fun c69_2 => absurd (by omega) c69_2)
  refine v_aload_n 75 2 C dX3_judgeTrial_75 rfl ?_
  refine g_Pg_trial 76 C (vg.o hg).1 (vg.o hg).2 lk_212 dX3_judgeTrial_76 ?_
  refine g_Pt_kind 79 C (vp.o (vg.t hg)).1 (vp.o (vg.t hg)).2 lk_133 dX3_judgeTrial_79 ?_
  refine v_eqi (iZ kd) (hT.1) ?_
  refine v_iconst 82 C (iZ 1) dX3_judgeTrial_82 rfl ?_
  refine z_icmp_eq 83 90 C (by first | assumption | exact ⟨by omega, by omega⟩) (by first | assumption | exact ⟨by omega, by omega⟩) dX3_judgeTrial_83 (by decide) (fun c83_3 => ?_) (fun c83_3 => ?_)
  · skip
    refine v_iconst 90 C (iZ 0) dX3_judgeTrial_90 rfl ?_
    refine v_istore_n 91 [(3, .int (iZ 0)), (2, .ref (ad (plN q))), (1, .ref (ad (plN u))), (0, .ref (ad 0))] C dX3_judgeTrial_91 (by decide) rfl ?_
    refine v_aload_n 92 3 C dX3_judgeTrial_92 rfl ?_
    refine g_Pg_trial 93 C (vg.o hg).1 (vg.o hg).2 lk_212 dX3_judgeTrial_93 ?_
    refine g_Pt_kind 96 C (vp.o (vg.t hg)).1 (vp.o (vg.t hg)).2 lk_133 dX3_judgeTrial_96 ?_
    refine v_eqi (iZ kd) (hT.1) ?_
    refine z_if_ne 99 106 C (by first | assumption | exact ⟨by omega, by omega⟩) dX3_judgeTrial_99 (by decide) (fun c99_4 => ?_) (fun c99_4 => ?_)
    · skip
      refine v_iconst 106 C (iZ 0) dX3_judgeTrial_106 rfl ?_
      refine v_istore 107 [(4, .int (iZ 0)), (3, .int (iZ 0)), (2, .ref (ad (plN q))), (1, .ref (ad (plN u))), (0, .ref (ad 0))] C dX3_judgeTrial_107 (by decide) rfl ?_
      refine v_aload_n 109 4 C dX3_judgeTrial_109 rfl ?_
      refine g_Pg_trial 110 C (vg.o hg).1 (vg.o hg).2 lk_212 dX3_judgeTrial_110 ?_
      refine g_Pt_flatA 113 C (vp.o (vg.t hg)).1 (vp.o (vg.t hg)).2 lk_129 dX3_judgeTrial_113 ?_
      refine g_Pl_size 116 C (vl.o (vp.fA (vg.t hg))).1 (vl.o (vp.fA (vg.t hg))).2 lk_110 dX3_judgeTrial_116 ?_
      refine v_eqi (iZ cF) (hT.2.2.2.2.2.2.1) ?_
      refine v_istore 119 [(5, .int (iZ cF)), (4, .int (iZ 0)), (3, .int (iZ 0)), (2, .ref (ad (plN q))), (1, .ref (ad (plN u))), (0, .ref (ad 0))] C dX3_judgeTrial_119 (by decide) rfl ?_
      refine v_aload_n 121 5 C dX3_judgeTrial_121 rfl ?_
      refine g_Pg_trial 122 C (vg.o hg).1 (vg.o hg).2 lk_212 dX3_judgeTrial_122 ?_
      refine g_Pt_flatB 125 C (vp.o (vg.t hg)).1 (vp.o (vg.t hg)).2 lk_131 dX3_judgeTrial_125 ?_
      refine g_Pl_size 128 C (vl.o (vp.fB (vg.t hg))).1 (vl.o (vp.fB (vg.t hg))).2 lk_110 dX3_judgeTrial_128 ?_
      refine v_eqi (iZ dF) (hT.2.2.2.2.2.2.2) ?_
      refine v_istore 131 [(6, .int (iZ dF)), (5, .int (iZ cF)), (4, .int (iZ 0)), (3, .int (iZ 0)), (2, .ref (ad (plN q))), (1, .ref (ad (plN u))), (0, .ref (ad 0))] C dX3_judgeTrial_131 (by decide) rfl ?_
      refine v_aload_n 133 6 C dX3_judgeTrial_133 rfl ?_
      refine g_Pg_trial 134 C (vg.o hg).1 (vg.o hg).2 lk_212 dX3_judgeTrial_134 ?_
      refine v_calli 137 hA (rV_Pt 137 C L_RX3_104 lk_275 lk_276 (m_least (vg.t hg) rk hT.1) (vp.o (vg.t hg)) rfl ⟨rfl, rfl⟩ (rm_ok rfl) dX3_judgeTrial_137) (fun r7 w8 h9 => ?_)
      obtain ⟨e_r7, rfl⟩ := h9
      refine v_eqi (iZ (if kd = 1 then 1 else 0)) (e_r7) ?_
      refine z_topi (fun ls e_ls => ?_)
      have hls : (kd = 1 → ls = 1) ∧ (¬ kd = 1 → ls = 0) := by
        rw [e_ls]
        constructor <;> intro z
        · rw [if_pos z]
        · rw [if_neg z]
      have hls2 : 0 ≤ ls ∧ ls ≤ 1 := by omega
      refine v_istore 140 [(7, .int (iZ ls)), (6, .int (iZ dF)), (5, .int (iZ cF)), (4, .int (iZ 0)), (3, .int (iZ 0)), (2, .ref (ad (plN q))), (1, .ref (ad (plN u))), (0, .ref (ad 0))] C dX3_judgeTrial_140 (by decide) rfl ?_
      refine v_aload_n 142 7 C dX3_judgeTrial_142 rfl ?_
      refine g_Pg_trial 143 C (vg.o hg).1 (vg.o hg).2 lk_212 dX3_judgeTrial_143 ?_
      refine g_Pt_a 146 C (vp.o (vg.t hg)).1 (vp.o (vg.t hg)).2 lk_137 dX3_judgeTrial_146 ?_
      refine v_eqi (iZ a) (hT.2.2.1) ?_
      refine v_iload 149 0 C dX3_judgeTrial_149 rfl ?_
      refine z_icmp_lt 151 187 C (by first | assumption | exact ⟨by omega, by omega⟩) (by first | assumption | exact ⟨by omega, by omega⟩) dX3_judgeTrial_151 (by decide) (fun c151_5 => absurd c151_5 (by omega)) (fun c151_5 => ?_)
      refine v_aload_n 154 7 C dX3_judgeTrial_154 rfl ?_
      refine g_Pg_trial 155 C (vg.o hg).1 (vg.o hg).2 lk_212 dX3_judgeTrial_155 ?_
      refine g_Pt_b 158 C (vp.o (vg.t hg)).1 (vp.o (vg.t hg)).2 lk_141 dX3_judgeTrial_158 ?_
      refine v_eqi (iZ b_) (hT.2.2.2.2.1) ?_
      refine v_iload 161 0 C dX3_judgeTrial_161 rfl ?_
      refine z_icmp_lt 163 187 C (by first | assumption | exact ⟨by omega, by omega⟩) (by first | assumption | exact ⟨by omega, by omega⟩) dX3_judgeTrial_163 (by decide) (fun c163_6 => absurd c163_6 (by omega)) (fun c163_6 => ?_)
      refine v_iload_n 166 4 C dX3_judgeTrial_166 rfl ?_
      refine z_if_eq 167 176 C (by first | assumption | exact ⟨by omega, by omega⟩) dX3_judgeTrial_167 (by decide) (fun c167_7 => ?_) (fun c167_7 => absurd (rfl) c167_7)
      refine v_iload 176 3 C dX3_judgeTrial_176 rfl ?_
      refine z_if_eq 178 190 C (by first | assumption | exact ⟨by omega, by omega⟩) dX3_judgeTrial_178 (by decide) (fun c178_8 => ?_) (fun c178_8 => absurd (rfl) c178_8)
      refine v_aload_n 190 7 C dX3_judgeTrial_190 rfl ?_
      refine g_Pg_trial 191 C (vg.o hg).1 (vg.o hg).2 lk_212 dX3_judgeTrial_191 ?_
      refine g_Pt_a 194 C (vp.o (vg.t hg)).1 (vp.o (vg.t hg)).2 lk_137 dX3_judgeTrial_194 ?_
      refine v_eqi (iZ a) (hT.2.2.1) ?_
      refine v_aload_n 197 6 C dX3_judgeTrial_197 rfl ?_
      refine g_Pl_size 198 C (vl.o (vl_p hg hN hu)).1 (vl.o (vl_p hg hN hu)).2 lk_110 dX3_judgeTrial_198 ?_
      refine v_eqi (iZ (szL b u)) (szL_S hP hu) ?_
      refine z_icmp_gt 201 252 C (by first | assumption | exact ⟨by omega, by omega⟩) (by first | assumption | exact ⟨by omega, by omega⟩) dX3_judgeTrial_201 (by decide) (fun c201_9 => ?_) (fun c201_9 => ?_)
      · skip
        refine v_bipush 252 C (iZ (-6)) dX3_judgeTrial_252 (by decide) ?_
        exact v_iret 254 C (⟨rfl, rfl⟩) dX3_judgeTrial_254
      · skip
        refine v_aload_n 204 7 C dX3_judgeTrial_204 rfl ?_
        refine g_Pg_trial 205 C (vg.o hg).1 (vg.o hg).2 lk_212 dX3_judgeTrial_205 ?_
        refine g_Pt_b 208 C (vp.o (vg.t hg)).1 (vp.o (vg.t hg)).2 lk_141 dX3_judgeTrial_208 ?_
        refine v_eqi (iZ b_) (hT.2.2.2.2.1) ?_
        refine v_aload_n 211 5 C dX3_judgeTrial_211 rfl ?_
        refine g_Pl_size 212 C (vl.o (vl_p hg hN hq)).1 (vl.o (vl_p hg hN hq)).2 lk_110 dX3_judgeTrial_212 ?_
        refine v_eqi (iZ (szL b q)) (szL_S hP hq) ?_
        refine z_icmp_gt 215 252 C (by first | assumption | exact ⟨by omega, by omega⟩) (by first | assumption | exact ⟨by omega, by omega⟩) dX3_judgeTrial_215 (by decide) (fun c215_10 => ?_) (fun c215_10 => ?_)
        · skip
          refine v_bipush 252 C (iZ (-6)) dX3_judgeTrial_252 (by decide) ?_
          exact v_iret 254 C (⟨rfl, rfl⟩) dX3_judgeTrial_254
        · skip
          refine v_iload_n 218 4 C dX3_judgeTrial_218 rfl ?_
          refine z_if_eq 219 230 C (by first | assumption | exact ⟨by omega, by omega⟩) dX3_judgeTrial_219 (by decide) (fun c219_11 => ?_) (fun c219_11 => absurd (rfl) c219_11)
          refine v_iload 230 3 C dX3_judgeTrial_230 rfl ?_
          refine z_if_eq 232 243 C (by first | assumption | exact ⟨by omega, by omega⟩) dX3_judgeTrial_232 (by decide) (fun c232_12 => ?_) (fun c232_12 => absurd (rfl) c232_12)
          refine v_aload_n 243 7 C dX3_judgeTrial_243 rfl ?_
          refine g_Pg_made 244 C (vg.o hg).1 (vg.o hg).2 lk_216 dX3_judgeTrial_244 ?_
          refine v_eqi (iZ (b 0 0)) (hP.1.2.2) ?_
          refine v_bipush 247 C (iZ 30) dX3_judgeTrial_247 (by decide) ?_
          refine z_icmp_lt 249 255 C (by first | assumption | exact ⟨by omega, by omega⟩) (by first | assumption | exact ⟨by omega, by omega⟩) dX3_judgeTrial_249 (by decide) (fun c249_13 => ?_) (fun c249_13 => ?_)
          · skip
            exact absurd (show _ ∧ _ ∧ _ ∧ _ ∧ _ from ⟨by omega, by omega, fun _ => by omega, fun _ => by omega, by omega⟩) h6
          · skip
            refine v_bipush 252 C (iZ (-6)) dX3_judgeTrial_252 (by decide) ?_
            exact v_iret 254 C (⟨rfl, rfl⟩) dX3_judgeTrial_254
    · skip
      refine v_iconst 102 C (iZ 1) dX3_judgeTrial_102 rfl ?_
      refine v_goto 103 107 C dX3_judgeTrial_103 (by decide) ?_
      refine v_istore 107 [(4, .int (iZ 1)), (3, .int (iZ 0)), (2, .ref (ad (plN q))), (1, .ref (ad (plN u))), (0, .ref (ad 0))] C dX3_judgeTrial_107 (by decide) rfl ?_
      refine v_aload_n 109 4 C dX3_judgeTrial_109 rfl ?_
      refine g_Pg_trial 110 C (vg.o hg).1 (vg.o hg).2 lk_212 dX3_judgeTrial_110 ?_
      refine g_Pt_flatA 113 C (vp.o (vg.t hg)).1 (vp.o (vg.t hg)).2 lk_129 dX3_judgeTrial_113 ?_
      refine g_Pl_size 116 C (vl.o (vp.fA (vg.t hg))).1 (vl.o (vp.fA (vg.t hg))).2 lk_110 dX3_judgeTrial_116 ?_
      refine v_eqi (iZ cF) (hT.2.2.2.2.2.2.1) ?_
      refine v_istore 119 [(5, .int (iZ cF)), (4, .int (iZ 1)), (3, .int (iZ 0)), (2, .ref (ad (plN q))), (1, .ref (ad (plN u))), (0, .ref (ad 0))] C dX3_judgeTrial_119 (by decide) rfl ?_
      refine v_aload_n 121 5 C dX3_judgeTrial_121 rfl ?_
      refine g_Pg_trial 122 C (vg.o hg).1 (vg.o hg).2 lk_212 dX3_judgeTrial_122 ?_
      refine g_Pt_flatB 125 C (vp.o (vg.t hg)).1 (vp.o (vg.t hg)).2 lk_131 dX3_judgeTrial_125 ?_
      refine g_Pl_size 128 C (vl.o (vp.fB (vg.t hg))).1 (vl.o (vp.fB (vg.t hg))).2 lk_110 dX3_judgeTrial_128 ?_
      refine v_eqi (iZ dF) (hT.2.2.2.2.2.2.2) ?_
      refine v_istore 131 [(6, .int (iZ dF)), (5, .int (iZ cF)), (4, .int (iZ 1)), (3, .int (iZ 0)), (2, .ref (ad (plN q))), (1, .ref (ad (plN u))), (0, .ref (ad 0))] C dX3_judgeTrial_131 (by decide) rfl ?_
      refine v_aload_n 133 6 C dX3_judgeTrial_133 rfl ?_
      refine g_Pg_trial 134 C (vg.o hg).1 (vg.o hg).2 lk_212 dX3_judgeTrial_134 ?_
      refine v_calli 137 hA (rV_Pt 137 C L_RX3_104 lk_275 lk_276 (m_least (vg.t hg) rk hT.1) (vp.o (vg.t hg)) rfl ⟨rfl, rfl⟩ (rm_ok rfl) dX3_judgeTrial_137) (fun r10 w11 h12 => ?_)
      obtain ⟨e_r10, rfl⟩ := h12
      refine v_eqi (iZ (if kd = 1 then 1 else 0)) (e_r10) ?_
      refine z_topi (fun ls e_ls => ?_)
      have hls : (kd = 1 → ls = 1) ∧ (¬ kd = 1 → ls = 0) := by
        rw [e_ls]
        constructor <;> intro z
        · rw [if_pos z]
        · rw [if_neg z]
      have hls2 : 0 ≤ ls ∧ ls ≤ 1 := by omega
      refine v_istore 140 [(7, .int (iZ ls)), (6, .int (iZ dF)), (5, .int (iZ cF)), (4, .int (iZ 1)), (3, .int (iZ 0)), (2, .ref (ad (plN q))), (1, .ref (ad (plN u))), (0, .ref (ad 0))] C dX3_judgeTrial_140 (by decide) rfl ?_
      refine v_aload_n 142 7 C dX3_judgeTrial_142 rfl ?_
      refine g_Pg_trial 143 C (vg.o hg).1 (vg.o hg).2 lk_212 dX3_judgeTrial_143 ?_
      refine g_Pt_a 146 C (vp.o (vg.t hg)).1 (vp.o (vg.t hg)).2 lk_137 dX3_judgeTrial_146 ?_
      refine v_eqi (iZ a) (hT.2.2.1) ?_
      refine v_iload 149 0 C dX3_judgeTrial_149 rfl ?_
      refine z_icmp_lt 151 187 C (by first | assumption | exact ⟨by omega, by omega⟩) (by first | assumption | exact ⟨by omega, by omega⟩) dX3_judgeTrial_151 (by decide) (fun c151_5 => absurd c151_5 (by omega)) (fun c151_5 => ?_)
      refine v_aload_n 154 7 C dX3_judgeTrial_154 rfl ?_
      refine g_Pg_trial 155 C (vg.o hg).1 (vg.o hg).2 lk_212 dX3_judgeTrial_155 ?_
      refine g_Pt_b 158 C (vp.o (vg.t hg)).1 (vp.o (vg.t hg)).2 lk_141 dX3_judgeTrial_158 ?_
      refine v_eqi (iZ b_) (hT.2.2.2.2.1) ?_
      refine v_iload 161 0 C dX3_judgeTrial_161 rfl ?_
      refine z_icmp_lt 163 187 C (by first | assumption | exact ⟨by omega, by omega⟩) (by first | assumption | exact ⟨by omega, by omega⟩) dX3_judgeTrial_163 (by decide) (fun c163_6 => absurd c163_6 (by omega)) (fun c163_6 => ?_)
      refine v_iload_n 166 4 C dX3_judgeTrial_166 rfl ?_
      refine z_if_eq 167 176 C (by first | assumption | exact ⟨by omega, by omega⟩) dX3_judgeTrial_167 (by decide) (fun c167_7 => ?_) (fun c167_7 => absurd (rfl) c167_7)
      refine v_iload 176 3 C dX3_judgeTrial_176 rfl ?_
      refine z_if_eq 178 190 C (by first | assumption | exact ⟨by omega, by omega⟩) dX3_judgeTrial_178 (by decide) (fun c178_8 => absurd c178_8 (by decide)) (fun c178_8 => ?_)
      refine v_iload 181 1 C dX3_judgeTrial_181 rfl ?_
      refine v_iconst 183 C (iZ 1) dX3_judgeTrial_183 rfl ?_
      refine z_icmp_ge 184 190 C (by first | assumption | exact ⟨by omega, by omega⟩) (by first | assumption | exact ⟨by omega, by omega⟩) dX3_judgeTrial_184 (by decide) (fun c184_9 => ?_) (fun c184_9 => absurd (by omega) c184_9)
      refine v_aload_n 190 7 C dX3_judgeTrial_190 rfl ?_
      refine g_Pg_trial 191 C (vg.o hg).1 (vg.o hg).2 lk_212 dX3_judgeTrial_191 ?_
      refine g_Pt_a 194 C (vp.o (vg.t hg)).1 (vp.o (vg.t hg)).2 lk_137 dX3_judgeTrial_194 ?_
      refine v_eqi (iZ a) (hT.2.2.1) ?_
      refine v_aload_n 197 6 C dX3_judgeTrial_197 rfl ?_
      refine g_Pl_size 198 C (vl.o (vl_p hg hN hu)).1 (vl.o (vl_p hg hN hu)).2 lk_110 dX3_judgeTrial_198 ?_
      refine v_eqi (iZ (szL b u)) (szL_S hP hu) ?_
      refine z_icmp_gt 201 252 C (by first | assumption | exact ⟨by omega, by omega⟩) (by first | assumption | exact ⟨by omega, by omega⟩) dX3_judgeTrial_201 (by decide) (fun c201_10 => ?_) (fun c201_10 => ?_)
      · skip
        refine v_bipush 252 C (iZ (-6)) dX3_judgeTrial_252 (by decide) ?_
        exact v_iret 254 C (⟨rfl, rfl⟩) dX3_judgeTrial_254
      · skip
        refine v_aload_n 204 7 C dX3_judgeTrial_204 rfl ?_
        refine g_Pg_trial 205 C (vg.o hg).1 (vg.o hg).2 lk_212 dX3_judgeTrial_205 ?_
        refine g_Pt_b 208 C (vp.o (vg.t hg)).1 (vp.o (vg.t hg)).2 lk_141 dX3_judgeTrial_208 ?_
        refine v_eqi (iZ b_) (hT.2.2.2.2.1) ?_
        refine v_aload_n 211 5 C dX3_judgeTrial_211 rfl ?_
        refine g_Pl_size 212 C (vl.o (vl_p hg hN hq)).1 (vl.o (vl_p hg hN hq)).2 lk_110 dX3_judgeTrial_212 ?_
        refine v_eqi (iZ (szL b q)) (szL_S hP hq) ?_
        refine z_icmp_gt 215 252 C (by first | assumption | exact ⟨by omega, by omega⟩) (by first | assumption | exact ⟨by omega, by omega⟩) dX3_judgeTrial_215 (by decide) (fun c215_11 => ?_) (fun c215_11 => ?_)
        · skip
          refine v_bipush 252 C (iZ (-6)) dX3_judgeTrial_252 (by decide) ?_
          exact v_iret 254 C (⟨rfl, rfl⟩) dX3_judgeTrial_254
        · skip
          refine v_iload_n 218 4 C dX3_judgeTrial_218 rfl ?_
          refine z_if_eq 219 230 C (by first | assumption | exact ⟨by omega, by omega⟩) dX3_judgeTrial_219 (by decide) (fun c219_12 => ?_) (fun c219_12 => absurd (rfl) c219_12)
          refine v_iload 230 3 C dX3_judgeTrial_230 rfl ?_
          refine z_if_eq 232 243 C (by first | assumption | exact ⟨by omega, by omega⟩) dX3_judgeTrial_232 (by decide) (fun c232_13 => absurd c232_13 (by decide)) (fun c232_13 => ?_)
          refine v_iload 235 1 C dX3_judgeTrial_235 rfl ?_
          refine v_sipush 237 C (iZ 1000) dX3_judgeTrial_237 (by decide) ?_
          refine z_icmp_gt 240 252 C (by first | assumption | exact ⟨by omega, by omega⟩) (by first | assumption | exact ⟨by omega, by omega⟩) dX3_judgeTrial_240 (by decide) (fun c240_14 => ?_) (fun c240_14 => ?_)
          · skip
            refine v_bipush 252 C (iZ (-6)) dX3_judgeTrial_252 (by decide) ?_
            exact v_iret 254 C (⟨rfl, rfl⟩) dX3_judgeTrial_254
          · skip
            refine v_aload_n 243 7 C dX3_judgeTrial_243 rfl ?_
            refine g_Pg_made 244 C (vg.o hg).1 (vg.o hg).2 lk_216 dX3_judgeTrial_244 ?_
            refine v_eqi (iZ (b 0 0)) (hP.1.2.2) ?_
            refine v_bipush 247 C (iZ 30) dX3_judgeTrial_247 (by decide) ?_
            refine z_icmp_lt 249 255 C (by first | assumption | exact ⟨by omega, by omega⟩) (by first | assumption | exact ⟨by omega, by omega⟩) dX3_judgeTrial_249 (by decide) (fun c249_15 => ?_) (fun c249_15 => ?_)
            · skip
              exact absurd (show _ ∧ _ ∧ _ ∧ _ ∧ _ from ⟨by omega, by omega, fun _ => by omega, fun _ => by omega, by omega⟩) h6
            · skip
              refine v_bipush 252 C (iZ (-6)) dX3_judgeTrial_252 (by decide) ?_
              exact v_iret 254 C (⟨rfl, rfl⟩) dX3_judgeTrial_254
  · skip
    refine v_iconst 86 C (iZ 1) dX3_judgeTrial_86 rfl ?_
    refine v_goto 87 91 C dX3_judgeTrial_87 (by decide) ?_
    refine v_istore_n 91 [(3, .int (iZ 1)), (2, .ref (ad (plN q))), (1, .ref (ad (plN u))), (0, .ref (ad 0))] C dX3_judgeTrial_91 (by decide) rfl ?_
    refine v_aload_n 92 3 C dX3_judgeTrial_92 rfl ?_
    refine g_Pg_trial 93 C (vg.o hg).1 (vg.o hg).2 lk_212 dX3_judgeTrial_93 ?_
    refine g_Pt_kind 96 C (vp.o (vg.t hg)).1 (vp.o (vg.t hg)).2 lk_133 dX3_judgeTrial_96 ?_
    refine v_eqi (iZ kd) (hT.1) ?_
    refine z_if_ne 99 106 C (by first | assumption | exact ⟨by omega, by omega⟩) dX3_judgeTrial_99 (by decide) (fun c99_4 => ?_) (fun c99_4 => ?_)
    · skip
      refine v_iconst 106 C (iZ 0) dX3_judgeTrial_106 rfl ?_
      refine v_istore 107 [(4, .int (iZ 0)), (3, .int (iZ 1)), (2, .ref (ad (plN q))), (1, .ref (ad (plN u))), (0, .ref (ad 0))] C dX3_judgeTrial_107 (by decide) rfl ?_
      refine v_aload_n 109 4 C dX3_judgeTrial_109 rfl ?_
      refine g_Pg_trial 110 C (vg.o hg).1 (vg.o hg).2 lk_212 dX3_judgeTrial_110 ?_
      refine g_Pt_flatA 113 C (vp.o (vg.t hg)).1 (vp.o (vg.t hg)).2 lk_129 dX3_judgeTrial_113 ?_
      refine g_Pl_size 116 C (vl.o (vp.fA (vg.t hg))).1 (vl.o (vp.fA (vg.t hg))).2 lk_110 dX3_judgeTrial_116 ?_
      refine v_eqi (iZ cF) (hT.2.2.2.2.2.2.1) ?_
      refine v_istore 119 [(5, .int (iZ cF)), (4, .int (iZ 0)), (3, .int (iZ 1)), (2, .ref (ad (plN q))), (1, .ref (ad (plN u))), (0, .ref (ad 0))] C dX3_judgeTrial_119 (by decide) rfl ?_
      refine v_aload_n 121 5 C dX3_judgeTrial_121 rfl ?_
      refine g_Pg_trial 122 C (vg.o hg).1 (vg.o hg).2 lk_212 dX3_judgeTrial_122 ?_
      refine g_Pt_flatB 125 C (vp.o (vg.t hg)).1 (vp.o (vg.t hg)).2 lk_131 dX3_judgeTrial_125 ?_
      refine g_Pl_size 128 C (vl.o (vp.fB (vg.t hg))).1 (vl.o (vp.fB (vg.t hg))).2 lk_110 dX3_judgeTrial_128 ?_
      refine v_eqi (iZ dF) (hT.2.2.2.2.2.2.2) ?_
      refine v_istore 131 [(6, .int (iZ dF)), (5, .int (iZ cF)), (4, .int (iZ 0)), (3, .int (iZ 1)), (2, .ref (ad (plN q))), (1, .ref (ad (plN u))), (0, .ref (ad 0))] C dX3_judgeTrial_131 (by decide) rfl ?_
      refine v_aload_n 133 6 C dX3_judgeTrial_133 rfl ?_
      refine g_Pg_trial 134 C (vg.o hg).1 (vg.o hg).2 lk_212 dX3_judgeTrial_134 ?_
      refine v_calli 137 hA (rV_Pt 137 C L_RX3_104 lk_275 lk_276 (m_least (vg.t hg) rk hT.1) (vp.o (vg.t hg)) rfl ⟨rfl, rfl⟩ (rm_ok rfl) dX3_judgeTrial_137) (fun r13 w14 h15 => ?_)
      obtain ⟨e_r13, rfl⟩ := h15
      refine v_eqi (iZ (if kd = 1 then 1 else 0)) (e_r13) ?_
      refine z_topi (fun ls e_ls => ?_)
      have hls : (kd = 1 → ls = 1) ∧ (¬ kd = 1 → ls = 0) := by
        rw [e_ls]
        constructor <;> intro z
        · rw [if_pos z]
        · rw [if_neg z]
      have hls2 : 0 ≤ ls ∧ ls ≤ 1 := by omega
      refine v_istore 140 [(7, .int (iZ ls)), (6, .int (iZ dF)), (5, .int (iZ cF)), (4, .int (iZ 0)), (3, .int (iZ 1)), (2, .ref (ad (plN q))), (1, .ref (ad (plN u))), (0, .ref (ad 0))] C dX3_judgeTrial_140 (by decide) rfl ?_
      refine v_aload_n 142 7 C dX3_judgeTrial_142 rfl ?_
      refine g_Pg_trial 143 C (vg.o hg).1 (vg.o hg).2 lk_212 dX3_judgeTrial_143 ?_
      refine g_Pt_a 146 C (vp.o (vg.t hg)).1 (vp.o (vg.t hg)).2 lk_137 dX3_judgeTrial_146 ?_
      refine v_eqi (iZ a) (hT.2.2.1) ?_
      refine v_iload 149 0 C dX3_judgeTrial_149 rfl ?_
      refine z_icmp_lt 151 187 C (by first | assumption | exact ⟨by omega, by omega⟩) (by first | assumption | exact ⟨by omega, by omega⟩) dX3_judgeTrial_151 (by decide) (fun c151_5 => absurd c151_5 (by omega)) (fun c151_5 => ?_)
      refine v_aload_n 154 7 C dX3_judgeTrial_154 rfl ?_
      refine g_Pg_trial 155 C (vg.o hg).1 (vg.o hg).2 lk_212 dX3_judgeTrial_155 ?_
      refine g_Pt_b 158 C (vp.o (vg.t hg)).1 (vp.o (vg.t hg)).2 lk_141 dX3_judgeTrial_158 ?_
      refine v_eqi (iZ b_) (hT.2.2.2.2.1) ?_
      refine v_iload 161 0 C dX3_judgeTrial_161 rfl ?_
      refine z_icmp_lt 163 187 C (by first | assumption | exact ⟨by omega, by omega⟩) (by first | assumption | exact ⟨by omega, by omega⟩) dX3_judgeTrial_163 (by decide) (fun c163_6 => absurd c163_6 (by omega)) (fun c163_6 => ?_)
      refine v_iload_n 166 4 C dX3_judgeTrial_166 rfl ?_
      refine z_if_eq 167 176 C (by first | assumption | exact ⟨by omega, by omega⟩) dX3_judgeTrial_167 (by decide) (fun c167_7 => absurd c167_7 (by decide)) (fun c167_7 => ?_)
      refine v_iload 170 2 C dX3_judgeTrial_170 rfl ?_
      refine v_iconst 172 C (iZ 1) dX3_judgeTrial_172 rfl ?_
      refine z_icmp_lt 173 187 C (by first | assumption | exact ⟨by omega, by omega⟩) (by first | assumption | exact ⟨by omega, by omega⟩) dX3_judgeTrial_173 (by decide) (fun c173_8 => absurd c173_8 (by omega)) (fun c173_8 => ?_)
      refine v_iload 176 3 C dX3_judgeTrial_176 rfl ?_
      refine z_if_eq 178 190 C (by first | assumption | exact ⟨by omega, by omega⟩) dX3_judgeTrial_178 (by decide) (fun c178_9 => ?_) (fun c178_9 => absurd (rfl) c178_9)
      refine v_aload_n 190 7 C dX3_judgeTrial_190 rfl ?_
      refine g_Pg_trial 191 C (vg.o hg).1 (vg.o hg).2 lk_212 dX3_judgeTrial_191 ?_
      refine g_Pt_a 194 C (vp.o (vg.t hg)).1 (vp.o (vg.t hg)).2 lk_137 dX3_judgeTrial_194 ?_
      refine v_eqi (iZ a) (hT.2.2.1) ?_
      refine v_aload_n 197 6 C dX3_judgeTrial_197 rfl ?_
      refine g_Pl_size 198 C (vl.o (vl_p hg hN hu)).1 (vl.o (vl_p hg hN hu)).2 lk_110 dX3_judgeTrial_198 ?_
      refine v_eqi (iZ (szL b u)) (szL_S hP hu) ?_
      refine z_icmp_gt 201 252 C (by first | assumption | exact ⟨by omega, by omega⟩) (by first | assumption | exact ⟨by omega, by omega⟩) dX3_judgeTrial_201 (by decide) (fun c201_10 => ?_) (fun c201_10 => ?_)
      · skip
        refine v_bipush 252 C (iZ (-6)) dX3_judgeTrial_252 (by decide) ?_
        exact v_iret 254 C (⟨rfl, rfl⟩) dX3_judgeTrial_254
      · skip
        refine v_aload_n 204 7 C dX3_judgeTrial_204 rfl ?_
        refine g_Pg_trial 205 C (vg.o hg).1 (vg.o hg).2 lk_212 dX3_judgeTrial_205 ?_
        refine g_Pt_b 208 C (vp.o (vg.t hg)).1 (vp.o (vg.t hg)).2 lk_141 dX3_judgeTrial_208 ?_
        refine v_eqi (iZ b_) (hT.2.2.2.2.1) ?_
        refine v_aload_n 211 5 C dX3_judgeTrial_211 rfl ?_
        refine g_Pl_size 212 C (vl.o (vl_p hg hN hq)).1 (vl.o (vl_p hg hN hq)).2 lk_110 dX3_judgeTrial_212 ?_
        refine v_eqi (iZ (szL b q)) (szL_S hP hq) ?_
        refine z_icmp_gt 215 252 C (by first | assumption | exact ⟨by omega, by omega⟩) (by first | assumption | exact ⟨by omega, by omega⟩) dX3_judgeTrial_215 (by decide) (fun c215_11 => ?_) (fun c215_11 => ?_)
        · skip
          refine v_bipush 252 C (iZ (-6)) dX3_judgeTrial_252 (by decide) ?_
          exact v_iret 254 C (⟨rfl, rfl⟩) dX3_judgeTrial_254
        · skip
          refine v_iload_n 218 4 C dX3_judgeTrial_218 rfl ?_
          refine z_if_eq 219 230 C (by first | assumption | exact ⟨by omega, by omega⟩) dX3_judgeTrial_219 (by decide) (fun c219_12 => absurd c219_12 (by decide)) (fun c219_12 => ?_)
          refine v_iload 222 2 C dX3_judgeTrial_222 rfl ?_
          refine v_sipush 224 C (iZ 1000) dX3_judgeTrial_224 (by decide) ?_
          refine z_icmp_gt 227 252 C (by first | assumption | exact ⟨by omega, by omega⟩) (by first | assumption | exact ⟨by omega, by omega⟩) dX3_judgeTrial_227 (by decide) (fun c227_13 => ?_) (fun c227_13 => ?_)
          · skip
            refine v_bipush 252 C (iZ (-6)) dX3_judgeTrial_252 (by decide) ?_
            exact v_iret 254 C (⟨rfl, rfl⟩) dX3_judgeTrial_254
          · skip
            refine v_iload 230 3 C dX3_judgeTrial_230 rfl ?_
            refine z_if_eq 232 243 C (by first | assumption | exact ⟨by omega, by omega⟩) dX3_judgeTrial_232 (by decide) (fun c232_14 => ?_) (fun c232_14 => absurd (rfl) c232_14)
            refine v_aload_n 243 7 C dX3_judgeTrial_243 rfl ?_
            refine g_Pg_made 244 C (vg.o hg).1 (vg.o hg).2 lk_216 dX3_judgeTrial_244 ?_
            refine v_eqi (iZ (b 0 0)) (hP.1.2.2) ?_
            refine v_bipush 247 C (iZ 30) dX3_judgeTrial_247 (by decide) ?_
            refine z_icmp_lt 249 255 C (by first | assumption | exact ⟨by omega, by omega⟩) (by first | assumption | exact ⟨by omega, by omega⟩) dX3_judgeTrial_249 (by decide) (fun c249_15 => ?_) (fun c249_15 => ?_)
            · skip
              exact absurd (show _ ∧ _ ∧ _ ∧ _ ∧ _ from ⟨by omega, by omega, fun _ => by omega, fun _ => by omega, by omega⟩) h6
            · skip
              refine v_bipush 252 C (iZ (-6)) dX3_judgeTrial_252 (by decide) ?_
              exact v_iret 254 C (⟨rfl, rfl⟩) dX3_judgeTrial_254
    · skip
      refine v_iconst 102 C (iZ 1) dX3_judgeTrial_102 rfl ?_
      refine v_goto 103 107 C dX3_judgeTrial_103 (by decide) ?_
      refine v_istore 107 [(4, .int (iZ 1)), (3, .int (iZ 1)), (2, .ref (ad (plN q))), (1, .ref (ad (plN u))), (0, .ref (ad 0))] C dX3_judgeTrial_107 (by decide) rfl ?_
      refine v_aload_n 109 4 C dX3_judgeTrial_109 rfl ?_
      refine g_Pg_trial 110 C (vg.o hg).1 (vg.o hg).2 lk_212 dX3_judgeTrial_110 ?_
      refine g_Pt_flatA 113 C (vp.o (vg.t hg)).1 (vp.o (vg.t hg)).2 lk_129 dX3_judgeTrial_113 ?_
      refine g_Pl_size 116 C (vl.o (vp.fA (vg.t hg))).1 (vl.o (vp.fA (vg.t hg))).2 lk_110 dX3_judgeTrial_116 ?_
      refine v_eqi (iZ cF) (hT.2.2.2.2.2.2.1) ?_
      refine v_istore 119 [(5, .int (iZ cF)), (4, .int (iZ 1)), (3, .int (iZ 1)), (2, .ref (ad (plN q))), (1, .ref (ad (plN u))), (0, .ref (ad 0))] C dX3_judgeTrial_119 (by decide) rfl ?_
      refine v_aload_n 121 5 C dX3_judgeTrial_121 rfl ?_
      refine g_Pg_trial 122 C (vg.o hg).1 (vg.o hg).2 lk_212 dX3_judgeTrial_122 ?_
      refine g_Pt_flatB 125 C (vp.o (vg.t hg)).1 (vp.o (vg.t hg)).2 lk_131 dX3_judgeTrial_125 ?_
      refine g_Pl_size 128 C (vl.o (vp.fB (vg.t hg))).1 (vl.o (vp.fB (vg.t hg))).2 lk_110 dX3_judgeTrial_128 ?_
      refine v_eqi (iZ dF) (hT.2.2.2.2.2.2.2) ?_
      refine v_istore 131 [(6, .int (iZ dF)), (5, .int (iZ cF)), (4, .int (iZ 1)), (3, .int (iZ 1)), (2, .ref (ad (plN q))), (1, .ref (ad (plN u))), (0, .ref (ad 0))] C dX3_judgeTrial_131 (by decide) rfl ?_
      refine v_aload_n 133 6 C dX3_judgeTrial_133 rfl ?_
      refine g_Pg_trial 134 C (vg.o hg).1 (vg.o hg).2 lk_212 dX3_judgeTrial_134 ?_
      refine v_calli 137 hA (rV_Pt 137 C L_RX3_104 lk_275 lk_276 (m_least (vg.t hg) rk hT.1) (vp.o (vg.t hg)) rfl ⟨rfl, rfl⟩ (rm_ok rfl) dX3_judgeTrial_137) (fun r16 w17 h18 => ?_)
      obtain ⟨e_r16, rfl⟩ := h18
      refine v_eqi (iZ (if kd = 1 then 1 else 0)) (e_r16) ?_
      refine z_topi (fun ls e_ls => ?_)
      have hls : (kd = 1 → ls = 1) ∧ (¬ kd = 1 → ls = 0) := by
        rw [e_ls]
        constructor <;> intro z
        · rw [if_pos z]
        · rw [if_neg z]
      have hls2 : 0 ≤ ls ∧ ls ≤ 1 := by omega
      refine v_istore 140 [(7, .int (iZ ls)), (6, .int (iZ dF)), (5, .int (iZ cF)), (4, .int (iZ 1)), (3, .int (iZ 1)), (2, .ref (ad (plN q))), (1, .ref (ad (plN u))), (0, .ref (ad 0))] C dX3_judgeTrial_140 (by decide) rfl ?_
      refine v_aload_n 142 7 C dX3_judgeTrial_142 rfl ?_
      refine g_Pg_trial 143 C (vg.o hg).1 (vg.o hg).2 lk_212 dX3_judgeTrial_143 ?_
      refine g_Pt_a 146 C (vp.o (vg.t hg)).1 (vp.o (vg.t hg)).2 lk_137 dX3_judgeTrial_146 ?_
      refine v_eqi (iZ a) (hT.2.2.1) ?_
      refine v_iload 149 0 C dX3_judgeTrial_149 rfl ?_
      refine z_icmp_lt 151 187 C (by first | assumption | exact ⟨by omega, by omega⟩) (by first | assumption | exact ⟨by omega, by omega⟩) dX3_judgeTrial_151 (by decide) (fun c151_5 => absurd c151_5 (by omega)) (fun c151_5 => ?_)
      refine v_aload_n 154 7 C dX3_judgeTrial_154 rfl ?_
      refine g_Pg_trial 155 C (vg.o hg).1 (vg.o hg).2 lk_212 dX3_judgeTrial_155 ?_
      refine g_Pt_b 158 C (vp.o (vg.t hg)).1 (vp.o (vg.t hg)).2 lk_141 dX3_judgeTrial_158 ?_
      refine v_eqi (iZ b_) (hT.2.2.2.2.1) ?_
      refine v_iload 161 0 C dX3_judgeTrial_161 rfl ?_
      refine z_icmp_lt 163 187 C (by first | assumption | exact ⟨by omega, by omega⟩) (by first | assumption | exact ⟨by omega, by omega⟩) dX3_judgeTrial_163 (by decide) (fun c163_6 => absurd c163_6 (by omega)) (fun c163_6 => ?_)
      refine v_iload_n 166 4 C dX3_judgeTrial_166 rfl ?_
      refine z_if_eq 167 176 C (by first | assumption | exact ⟨by omega, by omega⟩) dX3_judgeTrial_167 (by decide) (fun c167_7 => absurd c167_7 (by decide)) (fun c167_7 => ?_)
      refine v_iload 170 2 C dX3_judgeTrial_170 rfl ?_
      refine v_iconst 172 C (iZ 1) dX3_judgeTrial_172 rfl ?_
      refine z_icmp_lt 173 187 C (by first | assumption | exact ⟨by omega, by omega⟩) (by first | assumption | exact ⟨by omega, by omega⟩) dX3_judgeTrial_173 (by decide) (fun c173_8 => absurd c173_8 (by omega)) (fun c173_8 => ?_)
      refine v_iload 176 3 C dX3_judgeTrial_176 rfl ?_
      refine z_if_eq 178 190 C (by first | assumption | exact ⟨by omega, by omega⟩) dX3_judgeTrial_178 (by decide) (fun c178_9 => absurd c178_9 (by decide)) (fun c178_9 => ?_)
      refine v_iload 181 1 C dX3_judgeTrial_181 rfl ?_
      refine v_iconst 183 C (iZ 1) dX3_judgeTrial_183 rfl ?_
      refine z_icmp_ge 184 190 C (by first | assumption | exact ⟨by omega, by omega⟩) (by first | assumption | exact ⟨by omega, by omega⟩) dX3_judgeTrial_184 (by decide) (fun c184_10 => ?_) (fun c184_10 => absurd (by omega) c184_10)
      refine v_aload_n 190 7 C dX3_judgeTrial_190 rfl ?_
      refine g_Pg_trial 191 C (vg.o hg).1 (vg.o hg).2 lk_212 dX3_judgeTrial_191 ?_
      refine g_Pt_a 194 C (vp.o (vg.t hg)).1 (vp.o (vg.t hg)).2 lk_137 dX3_judgeTrial_194 ?_
      refine v_eqi (iZ a) (hT.2.2.1) ?_
      refine v_aload_n 197 6 C dX3_judgeTrial_197 rfl ?_
      refine g_Pl_size 198 C (vl.o (vl_p hg hN hu)).1 (vl.o (vl_p hg hN hu)).2 lk_110 dX3_judgeTrial_198 ?_
      refine v_eqi (iZ (szL b u)) (szL_S hP hu) ?_
      refine z_icmp_gt 201 252 C (by first | assumption | exact ⟨by omega, by omega⟩) (by first | assumption | exact ⟨by omega, by omega⟩) dX3_judgeTrial_201 (by decide) (fun c201_11 => ?_) (fun c201_11 => ?_)
      · skip
        refine v_bipush 252 C (iZ (-6)) dX3_judgeTrial_252 (by decide) ?_
        exact v_iret 254 C (⟨rfl, rfl⟩) dX3_judgeTrial_254
      · skip
        refine v_aload_n 204 7 C dX3_judgeTrial_204 rfl ?_
        refine g_Pg_trial 205 C (vg.o hg).1 (vg.o hg).2 lk_212 dX3_judgeTrial_205 ?_
        refine g_Pt_b 208 C (vp.o (vg.t hg)).1 (vp.o (vg.t hg)).2 lk_141 dX3_judgeTrial_208 ?_
        refine v_eqi (iZ b_) (hT.2.2.2.2.1) ?_
        refine v_aload_n 211 5 C dX3_judgeTrial_211 rfl ?_
        refine g_Pl_size 212 C (vl.o (vl_p hg hN hq)).1 (vl.o (vl_p hg hN hq)).2 lk_110 dX3_judgeTrial_212 ?_
        refine v_eqi (iZ (szL b q)) (szL_S hP hq) ?_
        refine z_icmp_gt 215 252 C (by first | assumption | exact ⟨by omega, by omega⟩) (by first | assumption | exact ⟨by omega, by omega⟩) dX3_judgeTrial_215 (by decide) (fun c215_12 => ?_) (fun c215_12 => ?_)
        · skip
          refine v_bipush 252 C (iZ (-6)) dX3_judgeTrial_252 (by decide) ?_
          exact v_iret 254 C (⟨rfl, rfl⟩) dX3_judgeTrial_254
        · skip
          refine v_iload_n 218 4 C dX3_judgeTrial_218 rfl ?_
          refine z_if_eq 219 230 C (by first | assumption | exact ⟨by omega, by omega⟩) dX3_judgeTrial_219 (by decide) (fun c219_13 => absurd c219_13 (by decide)) (fun c219_13 => ?_)
          refine v_iload 222 2 C dX3_judgeTrial_222 rfl ?_
          refine v_sipush 224 C (iZ 1000) dX3_judgeTrial_224 (by decide) ?_
          refine z_icmp_gt 227 252 C (by first | assumption | exact ⟨by omega, by omega⟩) (by first | assumption | exact ⟨by omega, by omega⟩) dX3_judgeTrial_227 (by decide) (fun c227_14 => ?_) (fun c227_14 => ?_)
          · skip
            refine v_bipush 252 C (iZ (-6)) dX3_judgeTrial_252 (by decide) ?_
            exact v_iret 254 C (⟨rfl, rfl⟩) dX3_judgeTrial_254
          · skip
            refine v_iload 230 3 C dX3_judgeTrial_230 rfl ?_
            refine z_if_eq 232 243 C (by first | assumption | exact ⟨by omega, by omega⟩) dX3_judgeTrial_232 (by decide) (fun c232_15 => absurd c232_15 (by decide)) (fun c232_15 => ?_)
            refine v_iload 235 1 C dX3_judgeTrial_235 rfl ?_
            refine v_sipush 237 C (iZ 1000) dX3_judgeTrial_237 (by decide) ?_
            refine z_icmp_gt 240 252 C (by first | assumption | exact ⟨by omega, by omega⟩) (by first | assumption | exact ⟨by omega, by omega⟩) dX3_judgeTrial_240 (by decide) (fun c240_16 => ?_) (fun c240_16 => ?_)
            · skip
              refine v_bipush 252 C (iZ (-6)) dX3_judgeTrial_252 (by decide) ?_
              exact v_iret 254 C (⟨rfl, rfl⟩) dX3_judgeTrial_254
            · skip
              refine v_aload_n 243 7 C dX3_judgeTrial_243 rfl ?_
              refine g_Pg_made 244 C (vg.o hg).1 (vg.o hg).2 lk_216 dX3_judgeTrial_244 ?_
              refine v_eqi (iZ (b 0 0)) (hP.1.2.2) ?_
              refine v_bipush 247 C (iZ 30) dX3_judgeTrial_247 (by decide) ?_
              refine z_icmp_lt 249 255 C (by first | assumption | exact ⟨by omega, by omega⟩) (by first | assumption | exact ⟨by omega, by omega⟩) dX3_judgeTrial_249 (by decide) (fun c249_17 => ?_) (fun c249_17 => ?_)
              · skip
                exact absurd (show _ ∧ _ ∧ _ ∧ _ ∧ _ from ⟨by omega, by omega, fun _ => by omega, fun _ => by omega, by omega⟩) h6
              · skip
                refine v_bipush 252 C (iZ (-6)) dX3_judgeTrial_252 (by decide) ?_
                exact v_iret 254 C (⟨rfl, rfl⟩) dX3_judgeTrial_254

set_option maxHeartbeats 4000000 in
set_option maxRecDepth 100000 in
theorem m_judge_0 {l : Launch} {D : va_G} {kc : Nat → ClassId} {N : Nat} {ad : Nat → Nat} {S : St} {b : Bs} (hg : vg N) (hN : N = 66 + 15 * bn b) (hI : Inv b) (hP : RP S b) {u q : Nat} (hu : thL b u) (hq : thL b q) (he : ¬ u = q) {kd a b_ cF dF f : Int} (rk : r32 kd) (ra : r32 a) (rb : r32 b_) (rc : r32 cF) (rd : r32 dF) (hk : 0 ≤ kd ∧ kd ≤ 2) (h4 : gdP kd a b_ cF dF) (h6 : rmP b kd u a q b_ cF dF) (hT : TJ S kd (u : Int) a (q : Int) b_ cF dF f) : MetK l yX3_judgeTrial cX3_judgeTrial 8 (some FieldType.int) 2 0 0 45 D kc (wl kc N ad S) [.ref (ad 0)] (QI D kc (wl kc N ad S) (fun r ws' => r = iZ 0 ∧ ws' = wl kc N ad S)) := by
  refine MetK.of (by decide +kernel) (Nat.le_of_ble_eq_true rfl) ?_
  intro p e s m below meth c C
  have hA : ∀ q, s.heap.size ≤ q → va_A (wl kc N ad S) s.heap.size q := fun _ h => Or.inr h
  show V p l e { frames := 2, cells := 0, slots := 0, locals := 45 } s m ([.ref (ad 0)] : List Value).toArray below meth c (MQ below (QI D kc (wl kc N ad S) (fun r ws' => r = iZ 0 ∧ ws' = wl kc N ad S) s.heap.size) ([.ref (ad 0)] : List Value).toArray s 0 0 (va_A (wl kc N ad S) s.heap.size)) D (va_A (wl kc N ad S) s.heap.size) 8 0 0 (wl kc N ad S) 0 [(0, .ref (ad 0))] []
  have hb0 := hI.1
  have h62u := thL_62 hI hu
  have h62q := thL_62 hI hq
  have hszu := szL_b hI hu
  have hszq := szL_b hI hq
  have hn30 := hI.1
  unfold rmP at h6
  rw [Int.toNat_natCast, Int.toNat_natCast] at h6
  refine v_aload_n 0 0 C dX3_judgeTrial_0 rfl ?_
  refine v_aload_n 1 0 C dX3_judgeTrial_1 rfl ?_
  refine g_Pg_trial 2 C (vg.o hg).1 (vg.o hg).2 lk_212 dX3_judgeTrial_2 ?_
  refine g_Pt_p 5 C (vp.o (vg.t hg)).1 (vp.o (vg.t hg)).2 lk_135 dX3_judgeTrial_5 ?_
  refine v_eqi (iZ (u : Int)) (hT.2.1) ?_
  refine v_callq 8 hA (rV_Pg 8 C L_RX3_138 lk_187 lk_1 (m_planeThere hg hN hI hP hu) (vg.o hg) rfl ⟨rfl, rfl⟩ (rm_ok rfl) dX3_judgeTrial_8) (fun r1 w2 h3 => ?_)
  obtain ⟨e_r1, rfl⟩ := h3
  refine v_eqv (.ref (ad (plN u))) (by rw [e_r1]; rfl) ?_
  refine v_astore_n 11 [(1, .ref (ad (plN u))), (0, .ref (ad 0))] C dX3_judgeTrial_11 (by decide) rfl ?_
  refine v_aload_n 12 1 C dX3_judgeTrial_12 rfl ?_
  refine v_aload_n 13 1 C dX3_judgeTrial_13 rfl ?_
  refine g_Pg_trial 14 C (vg.o hg).1 (vg.o hg).2 lk_212 dX3_judgeTrial_14 ?_
  refine g_Pt_q 17 C (vp.o (vg.t hg)).1 (vp.o (vg.t hg)).2 lk_139 dX3_judgeTrial_17 ?_
  refine v_eqi (iZ (q : Int)) (hT.2.2.2.1) ?_
  refine v_callq 20 hA (rV_Pg 20 C L_RX3_138 lk_187 lk_1 (m_planeThere hg hN hI hP hq) (vg.o hg) rfl ⟨rfl, rfl⟩ (rm_ok rfl) dX3_judgeTrial_20) (fun r4 w5 h6 => ?_)
  obtain ⟨e_r4, rfl⟩ := h6
  refine v_eqv (.ref (ad (plN q))) (by rw [e_r4]; rfl) ?_
  refine v_astore_n 23 [(2, .ref (ad (plN q))), (1, .ref (ad (plN u))), (0, .ref (ad 0))] C dX3_judgeTrial_23 (by decide) rfl ?_
  refine v_aload_n 24 1 C dX3_judgeTrial_24 rfl ?_
  refine v_ifnull 25 C dX3_judgeTrial_25 ?_
  refine v_aload_n 28 0 C dX3_judgeTrial_28 rfl ?_
  refine v_ifnull 29 C dX3_judgeTrial_29 ?_
  refine v_aload_n 32 2 C dX3_judgeTrial_32 rfl ?_
  refine g_Pg_trial 33 C (vg.o hg).1 (vg.o hg).2 lk_212 dX3_judgeTrial_33 ?_
  refine g_Pt_p 36 C (vp.o (vg.t hg)).1 (vp.o (vg.t hg)).2 lk_135 dX3_judgeTrial_36 ?_
  refine v_eqi (iZ (u : Int)) (hT.2.1) ?_
  refine v_aload_n 39 2 C dX3_judgeTrial_39 rfl ?_
  refine g_Pg_trial 40 C (vg.o hg).1 (vg.o hg).2 lk_212 dX3_judgeTrial_40 ?_
  refine g_Pt_q 43 C (vp.o (vg.t hg)).1 (vp.o (vg.t hg)).2 lk_139 dX3_judgeTrial_43 ?_
  refine v_eqi (iZ (q : Int)) (hT.2.2.2.1) ?_
  refine z_icmp_ne 46 51 C (by first | assumption | exact ⟨by omega, by omega⟩) (by first | assumption | exact ⟨by omega, by omega⟩) dX3_judgeTrial_46 (by decide) (fun c46_0 => ?_) (fun c46_0 => absurd c46_0 (by omega))
  refine v_aload_n 51 2 C dX3_judgeTrial_51 rfl ?_
  refine g_Pg_trial 52 C (vg.o hg).1 (vg.o hg).2 lk_212 dX3_judgeTrial_52 ?_
  refine g_Pt_kind 55 C (vp.o (vg.t hg)).1 (vp.o (vg.t hg)).2 lk_133 dX3_judgeTrial_55 ?_
  refine v_eqi (iZ kd) (hT.1) ?_
  refine z_if_lt 58 72 C (by first | assumption | exact ⟨by omega, by omega⟩) dX3_judgeTrial_58 (by decide) (fun c58_1 => absurd c58_1 (by omega)) (fun c58_1 => ?_)
  refine v_aload_n 61 2 C dX3_judgeTrial_61 rfl ?_
  refine g_Pg_trial 62 C (vg.o hg).1 (vg.o hg).2 lk_212 dX3_judgeTrial_62 ?_
  refine g_Pt_kind 65 C (vp.o (vg.t hg)).1 (vp.o (vg.t hg)).2 lk_133 dX3_judgeTrial_65 ?_
  refine v_eqi (iZ kd) (hT.1) ?_
  refine v_iconst 68 C (iZ 2) dX3_judgeTrial_68 rfl ?_
  refine z_icmp_le 69 75 C (by first | assumption | exact ⟨by omega, by omega⟩) (by first | assumption | exact ⟨by omega, by omega⟩) dX3_judgeTrial_69 (by decide) (fun c69_2 => ?_) (fun c69_2 => absurd (by omega) c69_2)
  refine v_aload_n 75 2 C dX3_judgeTrial_75 rfl ?_
  refine g_Pg_trial 76 C (vg.o hg).1 (vg.o hg).2 lk_212 dX3_judgeTrial_76 ?_
  refine g_Pt_kind 79 C (vp.o (vg.t hg)).1 (vp.o (vg.t hg)).2 lk_133 dX3_judgeTrial_79 ?_
  refine v_eqi (iZ kd) (hT.1) ?_
  refine v_iconst 82 C (iZ 1) dX3_judgeTrial_82 rfl ?_
  refine z_icmp_eq 83 90 C (by first | assumption | exact ⟨by omega, by omega⟩) (by first | assumption | exact ⟨by omega, by omega⟩) dX3_judgeTrial_83 (by decide) (fun c83_3 => ?_) (fun c83_3 => ?_)
  · skip
    refine v_iconst 90 C (iZ 0) dX3_judgeTrial_90 rfl ?_
    refine v_istore_n 91 [(3, .int (iZ 0)), (2, .ref (ad (plN q))), (1, .ref (ad (plN u))), (0, .ref (ad 0))] C dX3_judgeTrial_91 (by decide) rfl ?_
    refine v_aload_n 92 3 C dX3_judgeTrial_92 rfl ?_
    refine g_Pg_trial 93 C (vg.o hg).1 (vg.o hg).2 lk_212 dX3_judgeTrial_93 ?_
    refine g_Pt_kind 96 C (vp.o (vg.t hg)).1 (vp.o (vg.t hg)).2 lk_133 dX3_judgeTrial_96 ?_
    refine v_eqi (iZ kd) (hT.1) ?_
    refine z_if_ne 99 106 C (by first | assumption | exact ⟨by omega, by omega⟩) dX3_judgeTrial_99 (by decide) (fun c99_4 => ?_) (fun c99_4 => ?_)
    · skip
      refine v_iconst 106 C (iZ 0) dX3_judgeTrial_106 rfl ?_
      refine v_istore 107 [(4, .int (iZ 0)), (3, .int (iZ 0)), (2, .ref (ad (plN q))), (1, .ref (ad (plN u))), (0, .ref (ad 0))] C dX3_judgeTrial_107 (by decide) rfl ?_
      refine v_aload_n 109 4 C dX3_judgeTrial_109 rfl ?_
      refine g_Pg_trial 110 C (vg.o hg).1 (vg.o hg).2 lk_212 dX3_judgeTrial_110 ?_
      refine g_Pt_flatA 113 C (vp.o (vg.t hg)).1 (vp.o (vg.t hg)).2 lk_129 dX3_judgeTrial_113 ?_
      refine g_Pl_size 116 C (vl.o (vp.fA (vg.t hg))).1 (vl.o (vp.fA (vg.t hg))).2 lk_110 dX3_judgeTrial_116 ?_
      refine v_eqi (iZ cF) (hT.2.2.2.2.2.2.1) ?_
      refine v_istore 119 [(5, .int (iZ cF)), (4, .int (iZ 0)), (3, .int (iZ 0)), (2, .ref (ad (plN q))), (1, .ref (ad (plN u))), (0, .ref (ad 0))] C dX3_judgeTrial_119 (by decide) rfl ?_
      refine v_aload_n 121 5 C dX3_judgeTrial_121 rfl ?_
      refine g_Pg_trial 122 C (vg.o hg).1 (vg.o hg).2 lk_212 dX3_judgeTrial_122 ?_
      refine g_Pt_flatB 125 C (vp.o (vg.t hg)).1 (vp.o (vg.t hg)).2 lk_131 dX3_judgeTrial_125 ?_
      refine g_Pl_size 128 C (vl.o (vp.fB (vg.t hg))).1 (vl.o (vp.fB (vg.t hg))).2 lk_110 dX3_judgeTrial_128 ?_
      refine v_eqi (iZ dF) (hT.2.2.2.2.2.2.2) ?_
      refine v_istore 131 [(6, .int (iZ dF)), (5, .int (iZ cF)), (4, .int (iZ 0)), (3, .int (iZ 0)), (2, .ref (ad (plN q))), (1, .ref (ad (plN u))), (0, .ref (ad 0))] C dX3_judgeTrial_131 (by decide) rfl ?_
      refine v_aload_n 133 6 C dX3_judgeTrial_133 rfl ?_
      refine g_Pg_trial 134 C (vg.o hg).1 (vg.o hg).2 lk_212 dX3_judgeTrial_134 ?_
      refine v_calli 137 hA (rV_Pt 137 C L_RX3_104 lk_275 lk_276 (m_least (vg.t hg) rk hT.1) (vp.o (vg.t hg)) rfl ⟨rfl, rfl⟩ (rm_ok rfl) dX3_judgeTrial_137) (fun r7 w8 h9 => ?_)
      obtain ⟨e_r7, rfl⟩ := h9
      refine v_eqi (iZ (if kd = 1 then 1 else 0)) (e_r7) ?_
      refine z_topi (fun ls e_ls => ?_)
      have hls : (kd = 1 → ls = 1) ∧ (¬ kd = 1 → ls = 0) := by
        rw [e_ls]
        constructor <;> intro z
        · rw [if_pos z]
        · rw [if_neg z]
      have hls2 : 0 ≤ ls ∧ ls ≤ 1 := by omega
      refine v_istore 140 [(7, .int (iZ ls)), (6, .int (iZ dF)), (5, .int (iZ cF)), (4, .int (iZ 0)), (3, .int (iZ 0)), (2, .ref (ad (plN q))), (1, .ref (ad (plN u))), (0, .ref (ad 0))] C dX3_judgeTrial_140 (by decide) rfl ?_
      refine v_aload_n 142 7 C dX3_judgeTrial_142 rfl ?_
      refine g_Pg_trial 143 C (vg.o hg).1 (vg.o hg).2 lk_212 dX3_judgeTrial_143 ?_
      refine g_Pt_a 146 C (vp.o (vg.t hg)).1 (vp.o (vg.t hg)).2 lk_137 dX3_judgeTrial_146 ?_
      refine v_eqi (iZ a) (hT.2.2.1) ?_
      refine v_iload 149 0 C dX3_judgeTrial_149 rfl ?_
      refine z_icmp_lt 151 187 C (by first | assumption | exact ⟨by omega, by omega⟩) (by first | assumption | exact ⟨by omega, by omega⟩) dX3_judgeTrial_151 (by decide) (fun c151_5 => absurd c151_5 (by omega)) (fun c151_5 => ?_)
      refine v_aload_n 154 7 C dX3_judgeTrial_154 rfl ?_
      refine g_Pg_trial 155 C (vg.o hg).1 (vg.o hg).2 lk_212 dX3_judgeTrial_155 ?_
      refine g_Pt_b 158 C (vp.o (vg.t hg)).1 (vp.o (vg.t hg)).2 lk_141 dX3_judgeTrial_158 ?_
      refine v_eqi (iZ b_) (hT.2.2.2.2.1) ?_
      refine v_iload 161 0 C dX3_judgeTrial_161 rfl ?_
      refine z_icmp_lt 163 187 C (by first | assumption | exact ⟨by omega, by omega⟩) (by first | assumption | exact ⟨by omega, by omega⟩) dX3_judgeTrial_163 (by decide) (fun c163_6 => absurd c163_6 (by omega)) (fun c163_6 => ?_)
      refine v_iload_n 166 4 C dX3_judgeTrial_166 rfl ?_
      refine z_if_eq 167 176 C (by first | assumption | exact ⟨by omega, by omega⟩) dX3_judgeTrial_167 (by decide) (fun c167_7 => ?_) (fun c167_7 => absurd (rfl) c167_7)
      refine v_iload 176 3 C dX3_judgeTrial_176 rfl ?_
      refine z_if_eq 178 190 C (by first | assumption | exact ⟨by omega, by omega⟩) dX3_judgeTrial_178 (by decide) (fun c178_8 => ?_) (fun c178_8 => absurd (rfl) c178_8)
      refine v_aload_n 190 7 C dX3_judgeTrial_190 rfl ?_
      refine g_Pg_trial 191 C (vg.o hg).1 (vg.o hg).2 lk_212 dX3_judgeTrial_191 ?_
      refine g_Pt_a 194 C (vp.o (vg.t hg)).1 (vp.o (vg.t hg)).2 lk_137 dX3_judgeTrial_194 ?_
      refine v_eqi (iZ a) (hT.2.2.1) ?_
      refine v_aload_n 197 6 C dX3_judgeTrial_197 rfl ?_
      refine g_Pl_size 198 C (vl.o (vl_p hg hN hu)).1 (vl.o (vl_p hg hN hu)).2 lk_110 dX3_judgeTrial_198 ?_
      refine v_eqi (iZ (szL b u)) (szL_S hP hu) ?_
      refine z_icmp_gt 201 252 C (by first | assumption | exact ⟨by omega, by omega⟩) (by first | assumption | exact ⟨by omega, by omega⟩) dX3_judgeTrial_201 (by decide) (fun c201_9 => absurd c201_9 (by omega)) (fun c201_9 => ?_)
      refine v_aload_n 204 7 C dX3_judgeTrial_204 rfl ?_
      refine g_Pg_trial 205 C (vg.o hg).1 (vg.o hg).2 lk_212 dX3_judgeTrial_205 ?_
      refine g_Pt_b 208 C (vp.o (vg.t hg)).1 (vp.o (vg.t hg)).2 lk_141 dX3_judgeTrial_208 ?_
      refine v_eqi (iZ b_) (hT.2.2.2.2.1) ?_
      refine v_aload_n 211 5 C dX3_judgeTrial_211 rfl ?_
      refine g_Pl_size 212 C (vl.o (vl_p hg hN hq)).1 (vl.o (vl_p hg hN hq)).2 lk_110 dX3_judgeTrial_212 ?_
      refine v_eqi (iZ (szL b q)) (szL_S hP hq) ?_
      refine z_icmp_gt 215 252 C (by first | assumption | exact ⟨by omega, by omega⟩) (by first | assumption | exact ⟨by omega, by omega⟩) dX3_judgeTrial_215 (by decide) (fun c215_10 => absurd c215_10 (by omega)) (fun c215_10 => ?_)
      refine v_iload_n 218 4 C dX3_judgeTrial_218 rfl ?_
      refine z_if_eq 219 230 C (by first | assumption | exact ⟨by omega, by omega⟩) dX3_judgeTrial_219 (by decide) (fun c219_11 => ?_) (fun c219_11 => absurd (rfl) c219_11)
      refine v_iload 230 3 C dX3_judgeTrial_230 rfl ?_
      refine z_if_eq 232 243 C (by first | assumption | exact ⟨by omega, by omega⟩) dX3_judgeTrial_232 (by decide) (fun c232_12 => ?_) (fun c232_12 => absurd (rfl) c232_12)
      refine v_aload_n 243 7 C dX3_judgeTrial_243 rfl ?_
      refine g_Pg_made 244 C (vg.o hg).1 (vg.o hg).2 lk_216 dX3_judgeTrial_244 ?_
      refine v_eqi (iZ (b 0 0)) (hP.1.2.2) ?_
      refine v_bipush 247 C (iZ 30) dX3_judgeTrial_247 (by decide) ?_
      refine z_icmp_lt 249 255 C (by first | assumption | exact ⟨by omega, by omega⟩) (by first | assumption | exact ⟨by omega, by omega⟩) dX3_judgeTrial_249 (by decide) (fun c249_13 => ?_) (fun c249_13 => absurd (by omega) c249_13)
      refine v_iconst 255 C (iZ 0) dX3_judgeTrial_255 rfl ?_
      exact v_iret 256 C (⟨rfl, rfl⟩) dX3_judgeTrial_256
    · skip
      refine v_iconst 102 C (iZ 1) dX3_judgeTrial_102 rfl ?_
      refine v_goto 103 107 C dX3_judgeTrial_103 (by decide) ?_
      refine v_istore 107 [(4, .int (iZ 1)), (3, .int (iZ 0)), (2, .ref (ad (plN q))), (1, .ref (ad (plN u))), (0, .ref (ad 0))] C dX3_judgeTrial_107 (by decide) rfl ?_
      refine v_aload_n 109 4 C dX3_judgeTrial_109 rfl ?_
      refine g_Pg_trial 110 C (vg.o hg).1 (vg.o hg).2 lk_212 dX3_judgeTrial_110 ?_
      refine g_Pt_flatA 113 C (vp.o (vg.t hg)).1 (vp.o (vg.t hg)).2 lk_129 dX3_judgeTrial_113 ?_
      refine g_Pl_size 116 C (vl.o (vp.fA (vg.t hg))).1 (vl.o (vp.fA (vg.t hg))).2 lk_110 dX3_judgeTrial_116 ?_
      refine v_eqi (iZ cF) (hT.2.2.2.2.2.2.1) ?_
      refine v_istore 119 [(5, .int (iZ cF)), (4, .int (iZ 1)), (3, .int (iZ 0)), (2, .ref (ad (plN q))), (1, .ref (ad (plN u))), (0, .ref (ad 0))] C dX3_judgeTrial_119 (by decide) rfl ?_
      refine v_aload_n 121 5 C dX3_judgeTrial_121 rfl ?_
      refine g_Pg_trial 122 C (vg.o hg).1 (vg.o hg).2 lk_212 dX3_judgeTrial_122 ?_
      refine g_Pt_flatB 125 C (vp.o (vg.t hg)).1 (vp.o (vg.t hg)).2 lk_131 dX3_judgeTrial_125 ?_
      refine g_Pl_size 128 C (vl.o (vp.fB (vg.t hg))).1 (vl.o (vp.fB (vg.t hg))).2 lk_110 dX3_judgeTrial_128 ?_
      refine v_eqi (iZ dF) (hT.2.2.2.2.2.2.2) ?_
      refine v_istore 131 [(6, .int (iZ dF)), (5, .int (iZ cF)), (4, .int (iZ 1)), (3, .int (iZ 0)), (2, .ref (ad (plN q))), (1, .ref (ad (plN u))), (0, .ref (ad 0))] C dX3_judgeTrial_131 (by decide) rfl ?_
      refine v_aload_n 133 6 C dX3_judgeTrial_133 rfl ?_
      refine g_Pg_trial 134 C (vg.o hg).1 (vg.o hg).2 lk_212 dX3_judgeTrial_134 ?_
      refine v_calli 137 hA (rV_Pt 137 C L_RX3_104 lk_275 lk_276 (m_least (vg.t hg) rk hT.1) (vp.o (vg.t hg)) rfl ⟨rfl, rfl⟩ (rm_ok rfl) dX3_judgeTrial_137) (fun r10 w11 h12 => ?_)
      obtain ⟨e_r10, rfl⟩ := h12
      refine v_eqi (iZ (if kd = 1 then 1 else 0)) (e_r10) ?_
      refine z_topi (fun ls e_ls => ?_)
      have hls : (kd = 1 → ls = 1) ∧ (¬ kd = 1 → ls = 0) := by
        rw [e_ls]
        constructor <;> intro z
        · rw [if_pos z]
        · rw [if_neg z]
      have hls2 : 0 ≤ ls ∧ ls ≤ 1 := by omega
      refine v_istore 140 [(7, .int (iZ ls)), (6, .int (iZ dF)), (5, .int (iZ cF)), (4, .int (iZ 1)), (3, .int (iZ 0)), (2, .ref (ad (plN q))), (1, .ref (ad (plN u))), (0, .ref (ad 0))] C dX3_judgeTrial_140 (by decide) rfl ?_
      refine v_aload_n 142 7 C dX3_judgeTrial_142 rfl ?_
      refine g_Pg_trial 143 C (vg.o hg).1 (vg.o hg).2 lk_212 dX3_judgeTrial_143 ?_
      refine g_Pt_a 146 C (vp.o (vg.t hg)).1 (vp.o (vg.t hg)).2 lk_137 dX3_judgeTrial_146 ?_
      refine v_eqi (iZ a) (hT.2.2.1) ?_
      refine v_iload 149 0 C dX3_judgeTrial_149 rfl ?_
      refine z_icmp_lt 151 187 C (by first | assumption | exact ⟨by omega, by omega⟩) (by first | assumption | exact ⟨by omega, by omega⟩) dX3_judgeTrial_151 (by decide) (fun c151_5 => absurd c151_5 (by omega)) (fun c151_5 => ?_)
      refine v_aload_n 154 7 C dX3_judgeTrial_154 rfl ?_
      refine g_Pg_trial 155 C (vg.o hg).1 (vg.o hg).2 lk_212 dX3_judgeTrial_155 ?_
      refine g_Pt_b 158 C (vp.o (vg.t hg)).1 (vp.o (vg.t hg)).2 lk_141 dX3_judgeTrial_158 ?_
      refine v_eqi (iZ b_) (hT.2.2.2.2.1) ?_
      refine v_iload 161 0 C dX3_judgeTrial_161 rfl ?_
      refine z_icmp_lt 163 187 C (by first | assumption | exact ⟨by omega, by omega⟩) (by first | assumption | exact ⟨by omega, by omega⟩) dX3_judgeTrial_163 (by decide) (fun c163_6 => absurd c163_6 (by omega)) (fun c163_6 => ?_)
      refine v_iload_n 166 4 C dX3_judgeTrial_166 rfl ?_
      refine z_if_eq 167 176 C (by first | assumption | exact ⟨by omega, by omega⟩) dX3_judgeTrial_167 (by decide) (fun c167_7 => ?_) (fun c167_7 => absurd (rfl) c167_7)
      refine v_iload 176 3 C dX3_judgeTrial_176 rfl ?_
      refine z_if_eq 178 190 C (by first | assumption | exact ⟨by omega, by omega⟩) dX3_judgeTrial_178 (by decide) (fun c178_8 => absurd c178_8 (by decide)) (fun c178_8 => ?_)
      refine v_iload 181 1 C dX3_judgeTrial_181 rfl ?_
      refine v_iconst 183 C (iZ 1) dX3_judgeTrial_183 rfl ?_
      refine z_icmp_ge 184 190 C (by first | assumption | exact ⟨by omega, by omega⟩) (by first | assumption | exact ⟨by omega, by omega⟩) dX3_judgeTrial_184 (by decide) (fun c184_9 => ?_) (fun c184_9 => absurd (by omega) c184_9)
      refine v_aload_n 190 7 C dX3_judgeTrial_190 rfl ?_
      refine g_Pg_trial 191 C (vg.o hg).1 (vg.o hg).2 lk_212 dX3_judgeTrial_191 ?_
      refine g_Pt_a 194 C (vp.o (vg.t hg)).1 (vp.o (vg.t hg)).2 lk_137 dX3_judgeTrial_194 ?_
      refine v_eqi (iZ a) (hT.2.2.1) ?_
      refine v_aload_n 197 6 C dX3_judgeTrial_197 rfl ?_
      refine g_Pl_size 198 C (vl.o (vl_p hg hN hu)).1 (vl.o (vl_p hg hN hu)).2 lk_110 dX3_judgeTrial_198 ?_
      refine v_eqi (iZ (szL b u)) (szL_S hP hu) ?_
      refine z_icmp_gt 201 252 C (by first | assumption | exact ⟨by omega, by omega⟩) (by first | assumption | exact ⟨by omega, by omega⟩) dX3_judgeTrial_201 (by decide) (fun c201_10 => absurd c201_10 (by omega)) (fun c201_10 => ?_)
      refine v_aload_n 204 7 C dX3_judgeTrial_204 rfl ?_
      refine g_Pg_trial 205 C (vg.o hg).1 (vg.o hg).2 lk_212 dX3_judgeTrial_205 ?_
      refine g_Pt_b 208 C (vp.o (vg.t hg)).1 (vp.o (vg.t hg)).2 lk_141 dX3_judgeTrial_208 ?_
      refine v_eqi (iZ b_) (hT.2.2.2.2.1) ?_
      refine v_aload_n 211 5 C dX3_judgeTrial_211 rfl ?_
      refine g_Pl_size 212 C (vl.o (vl_p hg hN hq)).1 (vl.o (vl_p hg hN hq)).2 lk_110 dX3_judgeTrial_212 ?_
      refine v_eqi (iZ (szL b q)) (szL_S hP hq) ?_
      refine z_icmp_gt 215 252 C (by first | assumption | exact ⟨by omega, by omega⟩) (by first | assumption | exact ⟨by omega, by omega⟩) dX3_judgeTrial_215 (by decide) (fun c215_11 => absurd c215_11 (by omega)) (fun c215_11 => ?_)
      refine v_iload_n 218 4 C dX3_judgeTrial_218 rfl ?_
      refine z_if_eq 219 230 C (by first | assumption | exact ⟨by omega, by omega⟩) dX3_judgeTrial_219 (by decide) (fun c219_12 => ?_) (fun c219_12 => absurd (rfl) c219_12)
      refine v_iload 230 3 C dX3_judgeTrial_230 rfl ?_
      refine z_if_eq 232 243 C (by first | assumption | exact ⟨by omega, by omega⟩) dX3_judgeTrial_232 (by decide) (fun c232_13 => absurd c232_13 (by decide)) (fun c232_13 => ?_)
      refine v_iload 235 1 C dX3_judgeTrial_235 rfl ?_
      refine v_sipush 237 C (iZ 1000) dX3_judgeTrial_237 (by decide) ?_
      refine z_icmp_gt 240 252 C (by first | assumption | exact ⟨by omega, by omega⟩) (by first | assumption | exact ⟨by omega, by omega⟩) dX3_judgeTrial_240 (by decide) (fun c240_14 => absurd c240_14 (by omega)) (fun c240_14 => ?_)
      refine v_aload_n 243 7 C dX3_judgeTrial_243 rfl ?_
      refine g_Pg_made 244 C (vg.o hg).1 (vg.o hg).2 lk_216 dX3_judgeTrial_244 ?_
      refine v_eqi (iZ (b 0 0)) (hP.1.2.2) ?_
      refine v_bipush 247 C (iZ 30) dX3_judgeTrial_247 (by decide) ?_
      refine z_icmp_lt 249 255 C (by first | assumption | exact ⟨by omega, by omega⟩) (by first | assumption | exact ⟨by omega, by omega⟩) dX3_judgeTrial_249 (by decide) (fun c249_15 => ?_) (fun c249_15 => absurd (by omega) c249_15)
      refine v_iconst 255 C (iZ 0) dX3_judgeTrial_255 rfl ?_
      exact v_iret 256 C (⟨rfl, rfl⟩) dX3_judgeTrial_256
  · skip
    refine v_iconst 86 C (iZ 1) dX3_judgeTrial_86 rfl ?_
    refine v_goto 87 91 C dX3_judgeTrial_87 (by decide) ?_
    refine v_istore_n 91 [(3, .int (iZ 1)), (2, .ref (ad (plN q))), (1, .ref (ad (plN u))), (0, .ref (ad 0))] C dX3_judgeTrial_91 (by decide) rfl ?_
    refine v_aload_n 92 3 C dX3_judgeTrial_92 rfl ?_
    refine g_Pg_trial 93 C (vg.o hg).1 (vg.o hg).2 lk_212 dX3_judgeTrial_93 ?_
    refine g_Pt_kind 96 C (vp.o (vg.t hg)).1 (vp.o (vg.t hg)).2 lk_133 dX3_judgeTrial_96 ?_
    refine v_eqi (iZ kd) (hT.1) ?_
    refine z_if_ne 99 106 C (by first | assumption | exact ⟨by omega, by omega⟩) dX3_judgeTrial_99 (by decide) (fun c99_4 => ?_) (fun c99_4 => ?_)
    · skip
      refine v_iconst 106 C (iZ 0) dX3_judgeTrial_106 rfl ?_
      refine v_istore 107 [(4, .int (iZ 0)), (3, .int (iZ 1)), (2, .ref (ad (plN q))), (1, .ref (ad (plN u))), (0, .ref (ad 0))] C dX3_judgeTrial_107 (by decide) rfl ?_
      refine v_aload_n 109 4 C dX3_judgeTrial_109 rfl ?_
      refine g_Pg_trial 110 C (vg.o hg).1 (vg.o hg).2 lk_212 dX3_judgeTrial_110 ?_
      refine g_Pt_flatA 113 C (vp.o (vg.t hg)).1 (vp.o (vg.t hg)).2 lk_129 dX3_judgeTrial_113 ?_
      refine g_Pl_size 116 C (vl.o (vp.fA (vg.t hg))).1 (vl.o (vp.fA (vg.t hg))).2 lk_110 dX3_judgeTrial_116 ?_
      refine v_eqi (iZ cF) (hT.2.2.2.2.2.2.1) ?_
      refine v_istore 119 [(5, .int (iZ cF)), (4, .int (iZ 0)), (3, .int (iZ 1)), (2, .ref (ad (plN q))), (1, .ref (ad (plN u))), (0, .ref (ad 0))] C dX3_judgeTrial_119 (by decide) rfl ?_
      refine v_aload_n 121 5 C dX3_judgeTrial_121 rfl ?_
      refine g_Pg_trial 122 C (vg.o hg).1 (vg.o hg).2 lk_212 dX3_judgeTrial_122 ?_
      refine g_Pt_flatB 125 C (vp.o (vg.t hg)).1 (vp.o (vg.t hg)).2 lk_131 dX3_judgeTrial_125 ?_
      refine g_Pl_size 128 C (vl.o (vp.fB (vg.t hg))).1 (vl.o (vp.fB (vg.t hg))).2 lk_110 dX3_judgeTrial_128 ?_
      refine v_eqi (iZ dF) (hT.2.2.2.2.2.2.2) ?_
      refine v_istore 131 [(6, .int (iZ dF)), (5, .int (iZ cF)), (4, .int (iZ 0)), (3, .int (iZ 1)), (2, .ref (ad (plN q))), (1, .ref (ad (plN u))), (0, .ref (ad 0))] C dX3_judgeTrial_131 (by decide) rfl ?_
      refine v_aload_n 133 6 C dX3_judgeTrial_133 rfl ?_
      refine g_Pg_trial 134 C (vg.o hg).1 (vg.o hg).2 lk_212 dX3_judgeTrial_134 ?_
      refine v_calli 137 hA (rV_Pt 137 C L_RX3_104 lk_275 lk_276 (m_least (vg.t hg) rk hT.1) (vp.o (vg.t hg)) rfl ⟨rfl, rfl⟩ (rm_ok rfl) dX3_judgeTrial_137) (fun r13 w14 h15 => ?_)
      obtain ⟨e_r13, rfl⟩ := h15
      refine v_eqi (iZ (if kd = 1 then 1 else 0)) (e_r13) ?_
      refine z_topi (fun ls e_ls => ?_)
      have hls : (kd = 1 → ls = 1) ∧ (¬ kd = 1 → ls = 0) := by
        rw [e_ls]
        constructor <;> intro z
        · rw [if_pos z]
        · rw [if_neg z]
      have hls2 : 0 ≤ ls ∧ ls ≤ 1 := by omega
      refine v_istore 140 [(7, .int (iZ ls)), (6, .int (iZ dF)), (5, .int (iZ cF)), (4, .int (iZ 0)), (3, .int (iZ 1)), (2, .ref (ad (plN q))), (1, .ref (ad (plN u))), (0, .ref (ad 0))] C dX3_judgeTrial_140 (by decide) rfl ?_
      refine v_aload_n 142 7 C dX3_judgeTrial_142 rfl ?_
      refine g_Pg_trial 143 C (vg.o hg).1 (vg.o hg).2 lk_212 dX3_judgeTrial_143 ?_
      refine g_Pt_a 146 C (vp.o (vg.t hg)).1 (vp.o (vg.t hg)).2 lk_137 dX3_judgeTrial_146 ?_
      refine v_eqi (iZ a) (hT.2.2.1) ?_
      refine v_iload 149 0 C dX3_judgeTrial_149 rfl ?_
      refine z_icmp_lt 151 187 C (by first | assumption | exact ⟨by omega, by omega⟩) (by first | assumption | exact ⟨by omega, by omega⟩) dX3_judgeTrial_151 (by decide) (fun c151_5 => absurd c151_5 (by omega)) (fun c151_5 => ?_)
      refine v_aload_n 154 7 C dX3_judgeTrial_154 rfl ?_
      refine g_Pg_trial 155 C (vg.o hg).1 (vg.o hg).2 lk_212 dX3_judgeTrial_155 ?_
      refine g_Pt_b 158 C (vp.o (vg.t hg)).1 (vp.o (vg.t hg)).2 lk_141 dX3_judgeTrial_158 ?_
      refine v_eqi (iZ b_) (hT.2.2.2.2.1) ?_
      refine v_iload 161 0 C dX3_judgeTrial_161 rfl ?_
      refine z_icmp_lt 163 187 C (by first | assumption | exact ⟨by omega, by omega⟩) (by first | assumption | exact ⟨by omega, by omega⟩) dX3_judgeTrial_163 (by decide) (fun c163_6 => absurd c163_6 (by omega)) (fun c163_6 => ?_)
      refine v_iload_n 166 4 C dX3_judgeTrial_166 rfl ?_
      refine z_if_eq 167 176 C (by first | assumption | exact ⟨by omega, by omega⟩) dX3_judgeTrial_167 (by decide) (fun c167_7 => absurd c167_7 (by decide)) (fun c167_7 => ?_)
      refine v_iload 170 2 C dX3_judgeTrial_170 rfl ?_
      refine v_iconst 172 C (iZ 1) dX3_judgeTrial_172 rfl ?_
      refine z_icmp_lt 173 187 C (by first | assumption | exact ⟨by omega, by omega⟩) (by first | assumption | exact ⟨by omega, by omega⟩) dX3_judgeTrial_173 (by decide) (fun c173_8 => absurd c173_8 (by omega)) (fun c173_8 => ?_)
      refine v_iload 176 3 C dX3_judgeTrial_176 rfl ?_
      refine z_if_eq 178 190 C (by first | assumption | exact ⟨by omega, by omega⟩) dX3_judgeTrial_178 (by decide) (fun c178_9 => ?_) (fun c178_9 => absurd (rfl) c178_9)
      refine v_aload_n 190 7 C dX3_judgeTrial_190 rfl ?_
      refine g_Pg_trial 191 C (vg.o hg).1 (vg.o hg).2 lk_212 dX3_judgeTrial_191 ?_
      refine g_Pt_a 194 C (vp.o (vg.t hg)).1 (vp.o (vg.t hg)).2 lk_137 dX3_judgeTrial_194 ?_
      refine v_eqi (iZ a) (hT.2.2.1) ?_
      refine v_aload_n 197 6 C dX3_judgeTrial_197 rfl ?_
      refine g_Pl_size 198 C (vl.o (vl_p hg hN hu)).1 (vl.o (vl_p hg hN hu)).2 lk_110 dX3_judgeTrial_198 ?_
      refine v_eqi (iZ (szL b u)) (szL_S hP hu) ?_
      refine z_icmp_gt 201 252 C (by first | assumption | exact ⟨by omega, by omega⟩) (by first | assumption | exact ⟨by omega, by omega⟩) dX3_judgeTrial_201 (by decide) (fun c201_10 => absurd c201_10 (by omega)) (fun c201_10 => ?_)
      refine v_aload_n 204 7 C dX3_judgeTrial_204 rfl ?_
      refine g_Pg_trial 205 C (vg.o hg).1 (vg.o hg).2 lk_212 dX3_judgeTrial_205 ?_
      refine g_Pt_b 208 C (vp.o (vg.t hg)).1 (vp.o (vg.t hg)).2 lk_141 dX3_judgeTrial_208 ?_
      refine v_eqi (iZ b_) (hT.2.2.2.2.1) ?_
      refine v_aload_n 211 5 C dX3_judgeTrial_211 rfl ?_
      refine g_Pl_size 212 C (vl.o (vl_p hg hN hq)).1 (vl.o (vl_p hg hN hq)).2 lk_110 dX3_judgeTrial_212 ?_
      refine v_eqi (iZ (szL b q)) (szL_S hP hq) ?_
      refine z_icmp_gt 215 252 C (by first | assumption | exact ⟨by omega, by omega⟩) (by first | assumption | exact ⟨by omega, by omega⟩) dX3_judgeTrial_215 (by decide) (fun c215_11 => absurd c215_11 (by omega)) (fun c215_11 => ?_)
      refine v_iload_n 218 4 C dX3_judgeTrial_218 rfl ?_
      refine z_if_eq 219 230 C (by first | assumption | exact ⟨by omega, by omega⟩) dX3_judgeTrial_219 (by decide) (fun c219_12 => absurd c219_12 (by decide)) (fun c219_12 => ?_)
      refine v_iload 222 2 C dX3_judgeTrial_222 rfl ?_
      refine v_sipush 224 C (iZ 1000) dX3_judgeTrial_224 (by decide) ?_
      refine z_icmp_gt 227 252 C (by first | assumption | exact ⟨by omega, by omega⟩) (by first | assumption | exact ⟨by omega, by omega⟩) dX3_judgeTrial_227 (by decide) (fun c227_13 => absurd c227_13 (by omega)) (fun c227_13 => ?_)
      refine v_iload 230 3 C dX3_judgeTrial_230 rfl ?_
      refine z_if_eq 232 243 C (by first | assumption | exact ⟨by omega, by omega⟩) dX3_judgeTrial_232 (by decide) (fun c232_14 => ?_) (fun c232_14 => absurd (rfl) c232_14)
      refine v_aload_n 243 7 C dX3_judgeTrial_243 rfl ?_
      refine g_Pg_made 244 C (vg.o hg).1 (vg.o hg).2 lk_216 dX3_judgeTrial_244 ?_
      refine v_eqi (iZ (b 0 0)) (hP.1.2.2) ?_
      refine v_bipush 247 C (iZ 30) dX3_judgeTrial_247 (by decide) ?_
      refine z_icmp_lt 249 255 C (by first | assumption | exact ⟨by omega, by omega⟩) (by first | assumption | exact ⟨by omega, by omega⟩) dX3_judgeTrial_249 (by decide) (fun c249_15 => ?_) (fun c249_15 => absurd (by omega) c249_15)
      refine v_iconst 255 C (iZ 0) dX3_judgeTrial_255 rfl ?_
      exact v_iret 256 C (⟨rfl, rfl⟩) dX3_judgeTrial_256
    · skip
      refine v_iconst 102 C (iZ 1) dX3_judgeTrial_102 rfl ?_
      refine v_goto 103 107 C dX3_judgeTrial_103 (by decide) ?_
      refine v_istore 107 [(4, .int (iZ 1)), (3, .int (iZ 1)), (2, .ref (ad (plN q))), (1, .ref (ad (plN u))), (0, .ref (ad 0))] C dX3_judgeTrial_107 (by decide) rfl ?_
      refine v_aload_n 109 4 C dX3_judgeTrial_109 rfl ?_
      refine g_Pg_trial 110 C (vg.o hg).1 (vg.o hg).2 lk_212 dX3_judgeTrial_110 ?_
      refine g_Pt_flatA 113 C (vp.o (vg.t hg)).1 (vp.o (vg.t hg)).2 lk_129 dX3_judgeTrial_113 ?_
      refine g_Pl_size 116 C (vl.o (vp.fA (vg.t hg))).1 (vl.o (vp.fA (vg.t hg))).2 lk_110 dX3_judgeTrial_116 ?_
      refine v_eqi (iZ cF) (hT.2.2.2.2.2.2.1) ?_
      refine v_istore 119 [(5, .int (iZ cF)), (4, .int (iZ 1)), (3, .int (iZ 1)), (2, .ref (ad (plN q))), (1, .ref (ad (plN u))), (0, .ref (ad 0))] C dX3_judgeTrial_119 (by decide) rfl ?_
      refine v_aload_n 121 5 C dX3_judgeTrial_121 rfl ?_
      refine g_Pg_trial 122 C (vg.o hg).1 (vg.o hg).2 lk_212 dX3_judgeTrial_122 ?_
      refine g_Pt_flatB 125 C (vp.o (vg.t hg)).1 (vp.o (vg.t hg)).2 lk_131 dX3_judgeTrial_125 ?_
      refine g_Pl_size 128 C (vl.o (vp.fB (vg.t hg))).1 (vl.o (vp.fB (vg.t hg))).2 lk_110 dX3_judgeTrial_128 ?_
      refine v_eqi (iZ dF) (hT.2.2.2.2.2.2.2) ?_
      refine v_istore 131 [(6, .int (iZ dF)), (5, .int (iZ cF)), (4, .int (iZ 1)), (3, .int (iZ 1)), (2, .ref (ad (plN q))), (1, .ref (ad (plN u))), (0, .ref (ad 0))] C dX3_judgeTrial_131 (by decide) rfl ?_
      refine v_aload_n 133 6 C dX3_judgeTrial_133 rfl ?_
      refine g_Pg_trial 134 C (vg.o hg).1 (vg.o hg).2 lk_212 dX3_judgeTrial_134 ?_
      refine v_calli 137 hA (rV_Pt 137 C L_RX3_104 lk_275 lk_276 (m_least (vg.t hg) rk hT.1) (vp.o (vg.t hg)) rfl ⟨rfl, rfl⟩ (rm_ok rfl) dX3_judgeTrial_137) (fun r16 w17 h18 => ?_)
      obtain ⟨e_r16, rfl⟩ := h18
      refine v_eqi (iZ (if kd = 1 then 1 else 0)) (e_r16) ?_
      refine z_topi (fun ls e_ls => ?_)
      have hls : (kd = 1 → ls = 1) ∧ (¬ kd = 1 → ls = 0) := by
        rw [e_ls]
        constructor <;> intro z
        · rw [if_pos z]
        · rw [if_neg z]
      have hls2 : 0 ≤ ls ∧ ls ≤ 1 := by omega
      refine v_istore 140 [(7, .int (iZ ls)), (6, .int (iZ dF)), (5, .int (iZ cF)), (4, .int (iZ 1)), (3, .int (iZ 1)), (2, .ref (ad (plN q))), (1, .ref (ad (plN u))), (0, .ref (ad 0))] C dX3_judgeTrial_140 (by decide) rfl ?_
      refine v_aload_n 142 7 C dX3_judgeTrial_142 rfl ?_
      refine g_Pg_trial 143 C (vg.o hg).1 (vg.o hg).2 lk_212 dX3_judgeTrial_143 ?_
      refine g_Pt_a 146 C (vp.o (vg.t hg)).1 (vp.o (vg.t hg)).2 lk_137 dX3_judgeTrial_146 ?_
      refine v_eqi (iZ a) (hT.2.2.1) ?_
      refine v_iload 149 0 C dX3_judgeTrial_149 rfl ?_
      refine z_icmp_lt 151 187 C (by first | assumption | exact ⟨by omega, by omega⟩) (by first | assumption | exact ⟨by omega, by omega⟩) dX3_judgeTrial_151 (by decide) (fun c151_5 => absurd c151_5 (by omega)) (fun c151_5 => ?_)
      refine v_aload_n 154 7 C dX3_judgeTrial_154 rfl ?_
      refine g_Pg_trial 155 C (vg.o hg).1 (vg.o hg).2 lk_212 dX3_judgeTrial_155 ?_
      refine g_Pt_b 158 C (vp.o (vg.t hg)).1 (vp.o (vg.t hg)).2 lk_141 dX3_judgeTrial_158 ?_
      refine v_eqi (iZ b_) (hT.2.2.2.2.1) ?_
      refine v_iload 161 0 C dX3_judgeTrial_161 rfl ?_
      refine z_icmp_lt 163 187 C (by first | assumption | exact ⟨by omega, by omega⟩) (by first | assumption | exact ⟨by omega, by omega⟩) dX3_judgeTrial_163 (by decide) (fun c163_6 => absurd c163_6 (by omega)) (fun c163_6 => ?_)
      refine v_iload_n 166 4 C dX3_judgeTrial_166 rfl ?_
      refine z_if_eq 167 176 C (by first | assumption | exact ⟨by omega, by omega⟩) dX3_judgeTrial_167 (by decide) (fun c167_7 => absurd c167_7 (by decide)) (fun c167_7 => ?_)
      refine v_iload 170 2 C dX3_judgeTrial_170 rfl ?_
      refine v_iconst 172 C (iZ 1) dX3_judgeTrial_172 rfl ?_
      refine z_icmp_lt 173 187 C (by first | assumption | exact ⟨by omega, by omega⟩) (by first | assumption | exact ⟨by omega, by omega⟩) dX3_judgeTrial_173 (by decide) (fun c173_8 => absurd c173_8 (by omega)) (fun c173_8 => ?_)
      refine v_iload 176 3 C dX3_judgeTrial_176 rfl ?_
      refine z_if_eq 178 190 C (by first | assumption | exact ⟨by omega, by omega⟩) dX3_judgeTrial_178 (by decide) (fun c178_9 => absurd c178_9 (by decide)) (fun c178_9 => ?_)
      refine v_iload 181 1 C dX3_judgeTrial_181 rfl ?_
      refine v_iconst 183 C (iZ 1) dX3_judgeTrial_183 rfl ?_
      refine z_icmp_ge 184 190 C (by first | assumption | exact ⟨by omega, by omega⟩) (by first | assumption | exact ⟨by omega, by omega⟩) dX3_judgeTrial_184 (by decide) (fun c184_10 => ?_) (fun c184_10 => absurd (by omega) c184_10)
      refine v_aload_n 190 7 C dX3_judgeTrial_190 rfl ?_
      refine g_Pg_trial 191 C (vg.o hg).1 (vg.o hg).2 lk_212 dX3_judgeTrial_191 ?_
      refine g_Pt_a 194 C (vp.o (vg.t hg)).1 (vp.o (vg.t hg)).2 lk_137 dX3_judgeTrial_194 ?_
      refine v_eqi (iZ a) (hT.2.2.1) ?_
      refine v_aload_n 197 6 C dX3_judgeTrial_197 rfl ?_
      refine g_Pl_size 198 C (vl.o (vl_p hg hN hu)).1 (vl.o (vl_p hg hN hu)).2 lk_110 dX3_judgeTrial_198 ?_
      refine v_eqi (iZ (szL b u)) (szL_S hP hu) ?_
      refine z_icmp_gt 201 252 C (by first | assumption | exact ⟨by omega, by omega⟩) (by first | assumption | exact ⟨by omega, by omega⟩) dX3_judgeTrial_201 (by decide) (fun c201_11 => absurd c201_11 (by omega)) (fun c201_11 => ?_)
      refine v_aload_n 204 7 C dX3_judgeTrial_204 rfl ?_
      refine g_Pg_trial 205 C (vg.o hg).1 (vg.o hg).2 lk_212 dX3_judgeTrial_205 ?_
      refine g_Pt_b 208 C (vp.o (vg.t hg)).1 (vp.o (vg.t hg)).2 lk_141 dX3_judgeTrial_208 ?_
      refine v_eqi (iZ b_) (hT.2.2.2.2.1) ?_
      refine v_aload_n 211 5 C dX3_judgeTrial_211 rfl ?_
      refine g_Pl_size 212 C (vl.o (vl_p hg hN hq)).1 (vl.o (vl_p hg hN hq)).2 lk_110 dX3_judgeTrial_212 ?_
      refine v_eqi (iZ (szL b q)) (szL_S hP hq) ?_
      refine z_icmp_gt 215 252 C (by first | assumption | exact ⟨by omega, by omega⟩) (by first | assumption | exact ⟨by omega, by omega⟩) dX3_judgeTrial_215 (by decide) (fun c215_12 => absurd c215_12 (by omega)) (fun c215_12 => ?_)
      refine v_iload_n 218 4 C dX3_judgeTrial_218 rfl ?_
      refine z_if_eq 219 230 C (by first | assumption | exact ⟨by omega, by omega⟩) dX3_judgeTrial_219 (by decide) (fun c219_13 => absurd c219_13 (by decide)) (fun c219_13 => ?_)
      refine v_iload 222 2 C dX3_judgeTrial_222 rfl ?_
      refine v_sipush 224 C (iZ 1000) dX3_judgeTrial_224 (by decide) ?_
      refine z_icmp_gt 227 252 C (by first | assumption | exact ⟨by omega, by omega⟩) (by first | assumption | exact ⟨by omega, by omega⟩) dX3_judgeTrial_227 (by decide) (fun c227_14 => absurd c227_14 (by omega)) (fun c227_14 => ?_)
      refine v_iload 230 3 C dX3_judgeTrial_230 rfl ?_
      refine z_if_eq 232 243 C (by first | assumption | exact ⟨by omega, by omega⟩) dX3_judgeTrial_232 (by decide) (fun c232_15 => absurd c232_15 (by decide)) (fun c232_15 => ?_)
      refine v_iload 235 1 C dX3_judgeTrial_235 rfl ?_
      refine v_sipush 237 C (iZ 1000) dX3_judgeTrial_237 (by decide) ?_
      refine z_icmp_gt 240 252 C (by first | assumption | exact ⟨by omega, by omega⟩) (by first | assumption | exact ⟨by omega, by omega⟩) dX3_judgeTrial_240 (by decide) (fun c240_16 => absurd c240_16 (by omega)) (fun c240_16 => ?_)
      refine v_aload_n 243 7 C dX3_judgeTrial_243 rfl ?_
      refine g_Pg_made 244 C (vg.o hg).1 (vg.o hg).2 lk_216 dX3_judgeTrial_244 ?_
      refine v_eqi (iZ (b 0 0)) (hP.1.2.2) ?_
      refine v_bipush 247 C (iZ 30) dX3_judgeTrial_247 (by decide) ?_
      refine z_icmp_lt 249 255 C (by first | assumption | exact ⟨by omega, by omega⟩) (by first | assumption | exact ⟨by omega, by omega⟩) dX3_judgeTrial_249 (by decide) (fun c249_17 => ?_) (fun c249_17 => absurd (by omega) c249_17)
      refine v_iconst 255 C (iZ 0) dX3_judgeTrial_255 rfl ?_
      exact v_iret 256 C (⟨rfl, rfl⟩) dX3_judgeTrial_256
