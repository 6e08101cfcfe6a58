set_option maxHeartbeats 4000000 in
set_option maxRecDepth 100000 in
theorem d_part_o2 {l : Launch} {D : va_G} {kc : Nat → ClassId} {N : Nat} {ad : Nat → Nat} {S : St} {b : Bs} (hm : vm N) (hI : Inv b) (hM : RM S b) {t : Ts} (hE : LE b t) {u q : Nat} (hu : thL b u) (hq : thL b q) (he : ¬ u = q) {kd a b_ c_ d_ f : Int} (rk : r32 kd) (ra : r32 a) (rb : r32 b_) (rc : r32 c_) (rd : r32 d_) (hf : b01 f) (hk : 0 ≤ kd ∧ kd ≤ 2) (h4 : gdP kd a b_ c_ d_) (h6 : rmP b kd u a q b_ c_ d_) (h2 : kd = 2) (h3 : PS t 16 u = 0 ∧ PS t 16 q = 0) (h7 : stL b t u a q b_ c_ ≤ 1000) : MetK l yX4_part cX4_part 15 (some FieldType.int) 6 0 0 166 D kc (wl kc N ad S) [.ref (ad 45), .int (iZ kd), .int (iZ (u : Int)), .int (iZ a), .int (iZ (q : Int)), .int (iZ b_), .int (iZ c_), .int (iZ d_), .int (iZ f)] (QI D kc (wl kc N ad S) (mQ kc N ad S ((bn b : Int)) (ptB b kd u a q b_ c_ (stL b t u a q b_ c_) f))) := by
  refine MetK.of (by decide +kernel) (Nat.le_of_ble_eq_true rfl) ?_
  intro p e s m below meth c C
  have hA : ∀ q, s.heap.size ≤ q → va_A (wl kc N ad S) s.heap.size q := fun _ h => Or.inr h
  show V p l e { frames := 6, cells := 0, slots := 0, locals := 166 } s m ([.ref (ad 45), .int (iZ kd), .int (iZ (u : Int)), .int (iZ a), .int (iZ (q : Int)), .int (iZ b_), .int (iZ c_), .int (iZ d_), .int (iZ f)] : List Value).toArray below meth c (MQ below (QI D kc (wl kc N ad S) (mQ kc N ad S ((bn b : Int)) (ptB b kd u a q b_ c_ (stL b t u a q b_ c_) f)) s.heap.size) ([.ref (ad 45), .int (iZ kd), .int (iZ (u : Int)), .int (iZ a), .int (iZ (q : Int)), .int (iZ b_), .int (iZ c_), .int (iZ d_), .int (iZ f)] : List Value).toArray s 0 0 (va_A (wl kc N ad S) s.heap.size)) D (va_A (wl kc N ad S) s.heap.size) 15 0 0 (wl kc N ad S) 0 [(0, .ref (ad 45)), (1, .int (iZ kd)), (2, .int (iZ (u : Int))), (3, .int (iZ a)), (4, .int (iZ (q : Int))), (5, .int (iZ b_)), (6, .int (iZ c_)), (7, .int (iZ d_)), (8, .int (iZ f))] []
  have hb0 := hI.1
  have h62u := thL_62 hI hu
  have h62q := thL_62 hI hq
  have hszu := szL_b hI hu
  have hszq := szL_b hI hq
  have hn30 := hI.1
  unfold rmP at h6
  rw [Int.toNat_natCast, Int.toNat_natCast] at h6
  have hj : 16 < 17 := by decide
  have p01 : ∀ u, thL b u → b01 (PS t 16 u) := fun u h => by
    unfold PS
    split
    · exact Or.inl rfl
    · have T := thL_lt h (by omega)
      exact (hE _ T.1 T.1 T.2 16 (by decide)).1
  have p1 := p01 u hu
  have p2 := p01 q hq
  have huK : ∀ u, thL b u → u < 2 * bn b + 2 := fun u h => by rcases h with h | h <;> omega
  have sqb := stSq_b (a := a) (b_ := b_) hI hE hu hq h3.1 h3.2 ⟨h4.1, by omega⟩ ⟨h4.2.1, by omega⟩
  have isb := isq_spec sqb.1
  have isb2 : -100000 ≤ isq (stSq b t u a q b_) ∧ isq (stSq b t u a q b_) ≤ 100000 := sq_le (by decide) (by omega)
  have hst : stL b t u a q b_ c_ = max 1 (isq (stSq b t u a q b_) - c_) := rfl
  have hst1 : 1 ≤ stL b t u a q b_ c_ := by omega
  refine v_aload_n 0 0 C dX4_part_0 rfl ?_
  refine v_iload_n 1 2 C dX4_part_1 rfl ?_
  refine v_calli 2 hA (rV_Mo 2 C L_RX4_145 lk_601 lk_23 (m4_isPlane hm hI hM (by first | assumption | exact ⟨by omega, by omega⟩)) (vm.o hm) rfl ⟨rfl, rfl⟩ (rm_ok rfl) dX4_part_2) (fun r1 w2 h3 => ?_)
  obtain ⟨e_r1, rfl⟩ := h3
  refine v_eqi (iZ (bz (isLb b (u : Int)))) (e_r1) ?_
  refine z_if_eq 5 23 C (bzr _) dX4_part_5 (by decide) (fun c5_0 => absurd c5_0 (by rw [isLb_y hI hu]; decide)) (fun c5_0 => ?_)
  refine v_aload_n 8 0 C dX4_part_8 rfl ?_
  refine v_iload 9 4 C dX4_part_9 rfl ?_
  refine v_calli 11 hA (rV_Mo 11 C L_RX4_145 lk_601 lk_23 (m4_isPlane hm hI hM (by first | assumption | exact ⟨by omega, by omega⟩)) (vm.o hm) rfl ⟨rfl, rfl⟩ (rm_ok rfl) dX4_part_11) (fun r4 w5 h6 => ?_)
  obtain ⟨e_r4, rfl⟩ := h6
  refine v_eqi (iZ (bz (isLb b (q : Int)))) (e_r4) ?_
  refine z_if_eq 14 23 C (bzr _) dX4_part_14 (by decide) (fun c14_1 => absurd c14_1 (by rw [isLb_y hI hq]; decide)) (fun c14_1 => ?_)
  refine v_iload_n 17 2 C dX4_part_17 rfl ?_
  refine v_iload 18 4 C dX4_part_18 rfl ?_
  refine z_icmp_ne 20 29 C (by first | assumption | exact ⟨by omega, by omega⟩) (by first | assumption | exact ⟨by omega, by omega⟩) dX4_part_20 (by decide) (fun c20_2 => ?_) (fun c20_2 => absurd c20_2 (by omega))
  refine v_iload_n 29 1 C dX4_part_29 rfl ?_
  refine z_i2l 30 C (by first | assumption | exact ⟨by omega, by omega⟩) dX4_part_30 ?_
  refine v_lconst 31 C (lZ 0) dX4_part_31 (by decide) ?_
  refine v_ldc2 32 C (2) lk_606 dX4_part_32 ?_
  refine v_eql (lZ 2) (by decide) ?_
  refine v_calli 35 hA (rS 35 C L_RX4_83 lk_604 (m4_in (by first | assumption | exact ⟨by omega, by omega⟩) (by decide) (by decide)) rfl rfl (rm_ok rfl) dX4_part_35) (fun r7 w8 h9 => ?_)
  obtain ⟨e_r7, rfl⟩ := h9
  refine v_eqi (iZ (bz (decide (0 ≤ kd ∧ kd ≤ 2)))) (e_r7) ?_
  refine z_if_ne 38 48 C (bzr _) dX4_part_38 (by decide) (fun c38_3 => ?_) (fun c38_3 => absurd c38_3 (by rw [decide_eq_true (show 0 ≤ kd ∧ kd ≤ 2 by omega)]; decide))
  refine v_aload_n 48 0 C dX4_part_48 rfl ?_
  refine v_iload_n 49 1 C dX4_part_49 rfl ?_
  refine v_iload_n 50 3 C dX4_part_50 rfl ?_
  refine v_iload 51 5 C dX4_part_51 rfl ?_
  refine v_iload 53 6 C dX4_part_53 rfl ?_
  refine v_iload 55 7 C dX4_part_55 rfl ?_
  refine v_calli 57 hA (rV_Mo 57 C L_RX4_148 lk_609 lk_24 (m4_isGood rk ra rb rc rd (by omega)) (vm.o hm) rfl ⟨rfl, rfl⟩ (rm_ok rfl) dX4_part_57) (fun r10 w11 h12 => ?_)
  obtain ⟨e_r10, rfl⟩ := h12
  refine v_eqi (iZ (bz (decide (gdP kd a b_ c_ d_)))) (e_r10) ?_
  refine z_if_ne 60 70 C (bzr _) dX4_part_60 (by decide) (fun c60_4 => ?_) (fun c60_4 => absurd c60_4 (by rw [decide_eq_true h4]; decide))
  refine v_iload_n 70 3 C dX4_part_70 rfl ?_
  refine v_aload_n 71 0 C dX4_part_71 rfl ?_
  refine v_iload_n 72 2 C dX4_part_72 rfl ?_
  refine v_calli 73 hA (rV_Mo 73 C L_RX4_152 lk_613 lk_25 (m4_sizeOf hm hI hM hu) (vm.o hm) rfl ⟨rfl, rfl⟩ (rm_ok rfl) dX4_part_73) (fun r13 w14 h15 => ?_)
  obtain ⟨e_r13, rfl⟩ := h15
  refine v_eqi (iZ (szL b u)) (e_r13) ?_
  refine z_icmp_gt 76 124 C (by first | assumption | exact ⟨by omega, by omega⟩) (by first | assumption | exact ⟨by omega, by omega⟩) dX4_part_76 (by decide) (fun c76_5 => absurd c76_5 (by omega)) (fun c76_5 => ?_)
  refine v_iload 79 5 C dX4_part_79 rfl ?_
  refine v_aload_n 81 0 C dX4_part_81 rfl ?_
  refine v_iload 82 4 C dX4_part_82 rfl ?_
  refine v_calli 84 hA (rV_Mo 84 C L_RX4_152 lk_613 lk_25 (m4_sizeOf hm hI hM hq) (vm.o hm) rfl ⟨rfl, rfl⟩ (rm_ok rfl) dX4_part_84) (fun r16 w17 h18 => ?_)
  obtain ⟨e_r16, rfl⟩ := h18
  refine v_eqi (iZ (szL b q)) (e_r16) ?_
  refine z_icmp_gt 87 124 C (by first | assumption | exact ⟨by omega, by omega⟩) (by first | assumption | exact ⟨by omega, by omega⟩) dX4_part_87 (by decide) (fun c87_6 => absurd c87_6 (by omega)) (fun c87_6 => ?_)
  refine v_iload_n 90 1 C dX4_part_90 rfl ?_
  refine v_iconst 91 C (iZ 1) dX4_part_91 rfl ?_
  refine z_icmp_eq 92 103 C (by first | assumption | exact ⟨by omega, by omega⟩) (by first | assumption | exact ⟨by omega, by omega⟩) dX4_part_92 (by decide) (fun c92_7 => absurd c92_7 (by omega)) (fun c92_7 => ?_)
  refine v_iload 95 6 C dX4_part_95 rfl ?_
  refine v_sipush 97 C (iZ 1000) dX4_part_97 (by decide) ?_
  refine z_icmp_gt 100 124 C (by first | assumption | exact ⟨by omega, by omega⟩) (by first | assumption | exact ⟨by omega, by omega⟩) dX4_part_100 (by decide) (fun c100_8 => absurd c100_8 (by omega)) (fun c100_8 => ?_)
  refine v_iload_n 103 1 C dX4_part_103 rfl ?_
  refine z_if_ne 104 115 C (by first | assumption | exact ⟨by omega, by omega⟩) dX4_part_104 (by decide) (fun c104_9 => ?_) (fun c104_9 => absurd c104_9 (by omega))
  refine v_aload_n 115 0 C dX4_part_115 rfl ?_
  refine g_Mo_parts 116 C (vm.o hm).1 (vm.o hm).2 lk_501 dX4_part_116 ?_
  refine v_eqi (iZ (b 0 0)) (hM.1.2.2) ?_
  refine v_bipush 119 C (iZ 30) dX4_part_119 (by decide) ?_
  refine z_icmp_ne 121 131 C (by first | assumption | exact ⟨by omega, by omega⟩) (by first | assumption | exact ⟨by omega, by omega⟩) dX4_part_121 (by decide) (fun c121_10 => ?_) (fun c121_10 => absurd c121_10 (h6.2.2.2.2))
  refine v_iload_n 131 1 C dX4_part_131 rfl ?_
  refine v_iconst 132 C (iZ 1) dX4_part_132 rfl ?_
  refine z_icmp_ne 133 141 C (by first | assumption | exact ⟨by omega, by omega⟩) (by first | assumption | exact ⟨by omega, by omega⟩) dX4_part_133 (by decide) (fun c133_11 => ?_) (fun c133_11 => absurd c133_11 (by omega))
  refine v_iload 141 7 C dX4_part_141 rfl ?_
  refine z_i2l 143 C (by first | assumption | exact ⟨by omega, by omega⟩) dX4_part_143 ?_
  refine v_lstore 144 [(9, .long (lZ d_)), (0, .ref (ad 45)), (1, .int (iZ kd)), (2, .int (iZ (u : Int))), (3, .int (iZ a)), (4, .int (iZ (q : Int))), (5, .int (iZ b_)), (6, .int (iZ c_)), (7, .int (iZ d_)), (8, .int (iZ f))] C dX4_part_144 (by decide) rfl ?_
  refine v_iload_n 146 2 C dX4_part_146 rfl ?_
  refine v_iconst 147 C (iZ 2) dX4_part_147 rfl ?_
  refine z_icmp_ne 148 278 C (by first | assumption | exact ⟨by omega, by omega⟩) (by first | assumption | exact ⟨by omega, by omega⟩) dX4_part_148 (by decide) (fun c148_12 => absurd c148_12 (by omega)) (fun c148_12 => ?_)
  refine v_aload_n 151 1 C dX4_part_151 rfl ?_
  refine v_bipush 152 C (iZ 16) dX4_part_152 (by decide) ?_
  refine v_callv 154 hA (rV_Mo 154 C L_RX4_155 lk_617 lk_26 (m4_open (j := 16) hm hI hM hE hj) (vm.o hm) rfl ⟨rfl, rfl⟩ (rm_ok rfl) dX4_part_154) (fun w20 h21 => ?_)
  obtain ⟨S1, rfl, F1, O1⟩ := h21
  have M1 := F1.RM hM
  have suF : ∀ u, thL b u → (2 ≤ u → gA S1 56 (u / 2 - 1) = iZ (t 4 (u / 2 - 1) 16) ∧ b01 (t 4 (u / 2 - 1) 16)) := fun u hu q => by
    have T := thL_lt hu q
    have A := (O1.2 _ T.1 T.1).1
    rw [if_pos T.2] at A
    exact ⟨A, (hE _ T.1 T.1 T.2 16 (by decide)).1⟩
  refine v_aload_n 157 1 C dX4_part_157 rfl ?_
  refine v_iload_n 158 3 C dX4_part_158 rfl ?_
  refine v_calli 159 hA (rV_Mo 159 C L_RX4_131 lk_625 lk_28 (m4_planeStuck (u := u) (v := t 4 (u / 2 - 1) 16) hm (by omega) (suF _ hu)) (vm.o hm) rfl ⟨rfl, rfl⟩ (rm_ok rfl) dX4_part_159) (fun r22 w23 h24 => ?_)
  obtain ⟨e_r22, rfl⟩ := h24
  refine v_eqi (iZ (PS t 16 u)) (e_r22) ?_
  refine z_if_ne 162 174 C (by first | assumption | exact ⟨by omega, by omega⟩) dX4_part_162 (by decide) (fun cS => absurd cS (fun z => z h3.1)) (fun cS => ?_)
  refine v_aload_n 165 1 C dX4_part_165 rfl ?_
  refine v_iload 166 5 C dX4_part_166 rfl ?_
  refine v_calli 168 hA (rV_Mo 168 C L_RX4_131 lk_625 lk_28 (m4_planeStuck (u := q) (v := t 4 (q / 2 - 1) 16) hm (by omega) (suF _ hq)) (vm.o hm) rfl ⟨rfl, rfl⟩ (rm_ok rfl) dX4_part_168) (fun r25 w26 h27 => ?_)
  obtain ⟨e_r25, rfl⟩ := h27
  refine v_eqi (iZ (PS t 16 q)) (e_r25) ?_
  refine z_if_eq 171 181 C (by first | assumption | exact ⟨by omega, by omega⟩) dX4_part_171 (by decide) (fun cT => ?_) (fun cT => absurd (h3.2) cT)
  refine v_aload_n 181 1 C dX4_part_181 rfl ?_
  refine v_iload_n 182 3 C dX4_part_182 rfl ?_
  refine v_iload_n 183 4 C dX4_part_183 rfl ?_
  refine v_callv 184 hA (rV_Mo 184 C L_RX4_113 lk_629 lk_29 (m4_show hm hI M1 hj hE O1 hu (huK u hu) h3.1 ⟨by omega, by omega⟩) (vm.o hm) rfl ⟨rfl, rfl⟩ (rm_ok rfl) dX4_part_184) (fun w29 h30 => ?_)
  obtain ⟨S2, rfl, F2, gx, gy⟩ := h30
  have M2 := F2.RM M1
  have O2 := F2.OP O1
  refine v_aload_n 187 1 C dX4_part_187 rfl ?_
  refine g_Mo_placeX 188 C (vm.o hm).1 (vm.o hm).2 lk_514 dX4_part_188 ?_
  refine v_eql (lZ (PLx b t 16 u a)) (gx) ?_
  refine v_lstore 191 [(11, .long (lZ (PLx b t 16 u a))), (9, .long (lZ d_)), (0, .ref (ad 45)), (1, .int (iZ kd)), (2, .int (iZ (u : Int))), (3, .int (iZ a)), (4, .int (iZ (q : Int))), (5, .int (iZ b_)), (6, .int (iZ c_)), (7, .int (iZ d_)), (8, .int (iZ f))] C dX4_part_191 (by decide) rfl ?_
  refine v_aload_n 193 2 C dX4_part_193 rfl ?_
  refine g_Mo_placeY 194 C (vm.o hm).1 (vm.o hm).2 lk_515 dX4_part_194 ?_
  refine v_eql (lZ (PLy b t 16 u a)) (gy) ?_
  refine v_lstore 197 [(13, .long (lZ (PLy b t 16 u a))), (11, .long (lZ (PLx b t 16 u a))), (9, .long (lZ d_)), (0, .ref (ad 45)), (1, .int (iZ kd)), (2, .int (iZ (u : Int))), (3, .int (iZ a)), (4, .int (iZ (q : Int))), (5, .int (iZ b_)), (6, .int (iZ c_)), (7, .int (iZ d_)), (8, .int (iZ f))] C dX4_part_197 (by decide) rfl ?_
  refine v_aload_n 199 3 C dX4_part_199 rfl ?_
  refine v_iload 200 7 C dX4_part_200 rfl ?_
  refine v_iload 202 8 C dX4_part_202 rfl ?_
  refine v_callv 204 hA (rV_Mo 204 C L_RX4_113 lk_629 lk_29 (m4_show hm hI M2 hj hE O2 hq (huK q hq) h3.2 ⟨by omega, by omega⟩) (vm.o hm) rfl ⟨rfl, rfl⟩ (rm_ok rfl) dX4_part_204) (fun w32 h33 => ?_)
  obtain ⟨S3, rfl, F3, hx, hy⟩ := h33
  have M3 := F3.RM M2
  have C3 := (F1.tr (F2.O.tr F3.O)).C
  refine v_aload_n 207 3 C dX4_part_207 rfl ?_
  refine g_Mo_placeX 208 C (vm.o hm).1 (vm.o hm).2 lk_514 dX4_part_208 ?_
  refine v_eql (lZ (PLx b t 16 q b_)) (hx) ?_
  refine v_lload 211 1 C dX4_part_211 rfl ?_
  refine z_lsub 213 C dX4_part_213 ?_
  refine v_aload_n 214 3 C dX4_part_214 rfl ?_
  refine g_Mo_placeX 215 C (vm.o hm).1 (vm.o hm).2 lk_514 dX4_part_215 ?_
  refine v_eql (lZ (PLx b t 16 q b_)) (hx) ?_
  refine v_lload 218 1 C dX4_part_218 rfl ?_
  refine z_lsub 220 C dX4_part_220 ?_
  refine z_lmul 221 C dX4_part_221 ?_
  refine v_aload_n 222 3 C dX4_part_222 rfl ?_
  refine g_Mo_placeY 223 C (vm.o hm).1 (vm.o hm).2 lk_515 dX4_part_223 ?_
  refine v_eql (lZ (PLy b t 16 q b_)) (hy) ?_
  refine v_lload 226 0 C dX4_part_226 rfl ?_
  refine z_lsub 228 C dX4_part_228 ?_
  refine v_aload_n 229 3 C dX4_part_229 rfl ?_
  refine g_Mo_placeY 230 C (vm.o hm).1 (vm.o hm).2 lk_515 dX4_part_230 ?_
  refine v_eql (lZ (PLy b t 16 q b_)) (hy) ?_
  refine v_lload 233 0 C dX4_part_233 rfl ?_
  refine z_lsub 235 C dX4_part_235 ?_
  refine z_lmul 236 C dX4_part_236 ?_
  refine z_ladd 237 C dX4_part_237 ?_
  refine v_calll 238 hA (rS 238 C L_RX4_137 lk_648 (m4_root (v := stSq b t u a q b_) sqb.1 (by omega)) rfl rfl (rm_ok rfl) dX4_part_238) (fun r34 w35 h36 => ?_)
  obtain ⟨e_r34, rfl⟩ := h36
  refine v_eql (lZ (isq (stSq b t u a q b_))) (e_r34) ?_
  refine v_iload 241 9 C dX4_part_241 rfl ?_
  refine z_i2l 243 C (by first | assumption | exact ⟨by omega, by omega⟩) dX4_part_243 ?_
  refine z_lsub 244 C dX4_part_244 ?_
  refine z_topl (fun sl e_sl => ?_)
  have hsl : -3000000000 ≤ sl ∧ sl ≤ 3000000000 := by omega
  refine v_lstore 245 [(9, .long (lZ sl)), (13, .long (lZ (PLy b t 16 u a))), (11, .long (lZ (PLx b t 16 u a))), (0, .ref (ad 45)), (1, .int (iZ kd)), (2, .int (iZ (u : Int))), (3, .int (iZ a)), (4, .int (iZ (q : Int))), (5, .int (iZ b_)), (6, .int (iZ c_)), (7, .int (iZ d_)), (8, .int (iZ f))] C dX4_part_245 (by decide) rfl ?_
  refine v_lload 247 0 C dX4_part_247 rfl ?_
  refine v_lconst 249 C (lZ 1) dX4_part_249 (by decide) ?_
  refine z_lcmp_ge 250 258 C (by first | assumption | exact ⟨by omega, by omega⟩) (by first | assumption | exact ⟨by omega, by omega⟩) dX4_part_250 dX4_part_251 (by decide) (fun c250_15 => ?_) (fun c250_15 => ?_)
  · skip
    refine v_lload 258 0 C dX4_part_258 rfl ?_
    refine v_eql (lZ (stL b t u a q b_ c_)) (congrArg lZ (by rw [hst]; omega)) ?_
    refine v_lstore 260 [(9, .long (lZ (stL b t u a q b_ c_))), (13, .long (lZ (PLy b t 16 u a))), (11, .long (lZ (PLx b t 16 u a))), (0, .ref (ad 45)), (1, .int (iZ kd)), (2, .int (iZ (u : Int))), (3, .int (iZ a)), (4, .int (iZ (q : Int))), (5, .int (iZ b_)), (6, .int (iZ c_)), (7, .int (iZ d_)), (8, .int (iZ f))] C dX4_part_260 (by decide) rfl ?_
    refine v_lload 262 0 C dX4_part_262 rfl ?_
    refine v_ldc2 264 C (1000) lk_651 dX4_part_264 ?_
    refine v_eql (lZ 1000) (by decide) ?_
    refine z_lcmp_le 267 278 C (by first | assumption | exact ⟨by omega, by omega⟩) (by first | assumption | exact ⟨by omega, by omega⟩) dX4_part_267 dX4_part_268 (by decide) (fun c267_16 => ?_) (fun c267_16 => absurd (by omega) c267_16)
    refine v_aload_n 278 3 C dX4_part_278 rfl ?_
    refine g_Mo_parts 279 C (vm.o hm).1 (vm.o hm).2 lk_501 dX4_part_279 ?_
    refine v_eqi (iZ (b 0 0)) (M3.1.2.2) ?_
    refine v_istore 282 [(11, .int (iZ (b 0 0))), (9, .long (lZ (stL b t u a q b_ c_))), (13, .long (lZ (PLy b t 16 u a))), (0, .ref (ad 45)), (1, .int (iZ kd)), (2, .int (iZ (u : Int))), (3, .int (iZ a)), (4, .int (iZ (q : Int))), (5, .int (iZ b_)), (6, .int (iZ c_)), (7, .int (iZ d_)), (8, .int (iZ f))] C dX4_part_282 (by decide) rfl ?_
    refine v_aload_n 284 3 C dX4_part_284 rfl ?_
    refine v_dup 285 C dX4_part_285 rfl ?_
    refine g_Mo_parts 286 C (vm.o hm).1 (vm.o hm).2 lk_501 dX4_part_286 ?_
    refine v_eqi (iZ (b 0 0)) (M3.1.2.2) ?_
    refine v_iconst 289 C (iZ 1) dX4_part_289 rfl ?_
    refine z_iadd 290 C dX4_part_290 ?_
    refine s_Mo_parts 291 C (vm.o hm).1 (vm.o hm).2 lk_501 dX4_part_291 ?_
    refine v_aload_n 294 3 C dX4_part_294 rfl ?_
    refine g_Mo_kind 295 C (vm.o hm).1 (vm.o hm).2 lk_502 dX4_part_295 ?_
    refine v_iload 298 0 C dX4_part_298 rfl ?_
    refine v_iload_n 300 4 C dX4_part_300 rfl ?_
    refine v_iast 301 C (vm.a hm 46 (by decide) rfl).1 (vm.a hm 46 (by decide) rfl).2 (bn b) (izn (by omega)) (lnx (show ln 46 = 30 from rfl) (by omega)) dX4_part_301 ?_
    refine v_aload_n 302 3 C dX4_part_302 rfl ?_
    refine g_Mo_on 303 C (vm.o hm).1 (vm.o hm).2 lk_503 dX4_part_303 ?_
    refine v_iconst 306 C (iZ 2) dX4_part_306 rfl ?_
    refine v_iload 307 0 C dX4_part_307 rfl ?_
    refine z_imul 309 C dX4_part_309 ?_
    refine v_iload_n 310 5 C dX4_part_310 rfl ?_
    refine v_iast 311 C (vm.a hm 47 (by decide) rfl).1 (vm.a hm 47 (by decide) rfl).2 (2 * bn b) (izn (by omega)) (lnx (show ln 47 = 60 from rfl) (by omega)) dX4_part_311 ?_
    refine v_aload_n 312 3 C dX4_part_312 rfl ?_
    refine g_Mo_on 313 C (vm.o hm).1 (vm.o hm).2 lk_503 dX4_part_313 ?_
    refine v_iconst 316 C (iZ 2) dX4_part_316 rfl ?_
    refine v_iload 317 0 C dX4_part_317 rfl ?_
    refine z_imul 319 C dX4_part_319 ?_
    refine v_iconst 320 C (iZ 1) dX4_part_320 rfl ?_
    refine z_iadd 321 C dX4_part_321 ?_
    refine v_iload 322 7 C dX4_part_322 rfl ?_
    refine v_iast 324 C (vm.a hm 47 (by decide) rfl).1 (vm.a hm 47 (by decide) rfl).2 (2 * bn b + 1) (izn (by omega)) (lnx (show ln 47 = 60 from rfl) (by omega)) dX4_part_324 ?_
    refine v_aload_n 325 3 C dX4_part_325 rfl ?_
    refine g_Mo_far 326 C (vm.o hm).1 (vm.o hm).2 lk_504 dX4_part_326 ?_
    refine v_iconst 329 C (iZ 2) dX4_part_329 rfl ?_
    refine v_iload 330 0 C dX4_part_330 rfl ?_
    refine z_imul 332 C dX4_part_332 ?_
    refine v_iload_n 333 6 C dX4_part_333 rfl ?_
    refine v_iast 334 C (vm.a hm 48 (by decide) rfl).1 (vm.a hm 48 (by decide) rfl).2 (2 * bn b) (izn (by omega)) (lnx (show ln 48 = 60 from rfl) (by omega)) dX4_part_334 ?_
    refine v_aload_n 335 3 C dX4_part_335 rfl ?_
    refine g_Mo_far 336 C (vm.o hm).1 (vm.o hm).2 lk_504 dX4_part_336 ?_
    refine v_iconst 339 C (iZ 2) dX4_part_339 rfl ?_
    refine v_iload 340 0 C dX4_part_340 rfl ?_
    refine z_imul 342 C dX4_part_342 ?_
    refine v_iconst 343 C (iZ 1) dX4_part_343 rfl ?_
    refine z_iadd 344 C dX4_part_344 ?_
    refine v_iload 345 8 C dX4_part_345 rfl ?_
    refine v_iast 347 C (vm.a hm 48 (by decide) rfl).1 (vm.a hm 48 (by decide) rfl).2 (2 * bn b + 1) (izn (by omega)) (lnx (show ln 48 = 60 from rfl) (by omega)) dX4_part_347 ?_
    refine v_aload_n 348 3 C dX4_part_348 rfl ?_
    refine g_Mo_flat 349 C (vm.o hm).1 (vm.o hm).2 lk_505 dX4_part_349 ?_
    refine v_iconst 352 C (iZ 2) dX4_part_352 rfl ?_
    refine v_iload 353 0 C dX4_part_353 rfl ?_
    refine z_imul 355 C dX4_part_355 ?_
    refine v_iload_n 356 4 C dX4_part_356 rfl ?_
    refine v_iconst 357 C (iZ 1) dX4_part_357 rfl ?_
    refine z_icmp_ne 358 366 C (by first | assumption | exact ⟨by omega, by omega⟩) (by first | assumption | exact ⟨by omega, by omega⟩) dX4_part_358 (by decide) (fun c358_17 => ?_) (fun c358_17 => absurd c358_17 (by omega))
    refine v_iload 366 9 C dX4_part_366 rfl ?_
    refine v_iast 368 C (vm.a hm 49 (by decide) rfl).1 (vm.a hm 49 (by decide) rfl).2 (2 * bn b) (izn (by omega)) (lnx (show ln 49 = 60 from rfl) (by omega)) dX4_part_368 ?_
    refine v_aload_n 369 3 C dX4_part_369 rfl ?_
    refine g_Mo_flat 370 C (vm.o hm).1 (vm.o hm).2 lk_505 dX4_part_370 ?_
    refine v_iconst 373 C (iZ 2) dX4_part_373 rfl ?_
    refine v_iload 374 0 C dX4_part_374 rfl ?_
    refine z_imul 376 C dX4_part_376 ?_
    refine v_iconst 377 C (iZ 1) dX4_part_377 rfl ?_
    refine z_iadd 378 C dX4_part_378 ?_
    refine v_lload 379 1 C dX4_part_379 rfl ?_
    refine z_l2i 381 C dX4_part_381 ?_
    refine v_iast 382 C (vm.a hm 49 (by decide) rfl).1 (vm.a hm 49 (by decide) rfl).2 (2 * bn b + 1) (izn (by omega)) (lnx (show ln 49 = 60 from rfl) (by omega)) dX4_part_382 ?_
    refine v_aload_n 383 3 C dX4_part_383 rfl ?_
    refine g_Mo_left 384 C (vm.o hm).1 (vm.o hm).2 lk_506 dX4_part_384 ?_
    refine v_iload 387 0 C dX4_part_387 rfl ?_
    refine v_iload 389 11 C dX4_part_389 rfl ?_
    refine v_zast 391 C (vm.a hm 50 (by decide) rfl).1 (vm.a hm 50 (by decide) rfl).2 (bn b) (izn (by omega)) (lnx (show ln 50 = 30 from rfl) (by omega)) dX4_part_391 ?_
    rw [vn01 hf]
    refine v_aload_n 392 3 C dX4_part_392 rfl ?_
    refine g_Mo_isThere 393 C (vm.o hm).1 (vm.o hm).2 lk_507 dX4_part_393 ?_
    refine v_iload 396 0 C dX4_part_396 rfl ?_
    refine v_iconst 398 C (iZ 1) dX4_part_398 rfl ?_
    refine v_zast 399 C (vm.a hm 51 (by decide) rfl).1 (vm.a hm 51 (by decide) rfl).2 (bn b) (izn (by omega)) (lnx (show ln 51 = 30 from rfl) (by omega)) dX4_part_399 ?_
    rw [vn1]
    refine v_iload 400 0 C dX4_part_400 rfl ?_
    exact v_iret 402 C (⟨by rw [hn30.1], ptS S3 b kd u a q b_ c_ (stL b t u a q b_ c_) f, rfl, ptS_RM hI M3, C3.tr ptS_C⟩) dX4_part_402
  · skip
    refine v_lconst 254 C (lZ 1) dX4_part_254 (by decide) ?_
    refine v_goto 255 260 C dX4_part_255 (by decide) ?_
    refine v_eql (lZ (stL b t u a q b_ c_)) (congrArg lZ (by rw [hst]; omega)) ?_
    refine v_lstore 260 [(9, .long (lZ (stL b t u a q b_ c_))), (13, .long (lZ (PLy b t 16 u a))), (11, .long (lZ (PLx b t 16 u a))), (0, .ref (ad 45)), (1, .int (iZ kd)), (2, .int (iZ (u : Int))), (3, .int (iZ a)), (4, .int (iZ (q : Int))), (5, .int (iZ b_)), (6, .int (iZ c_)), (7, .int (iZ d_)), (8, .int (iZ f))] C dX4_part_260 (by decide) rfl ?_
    refine v_lload 262 0 C dX4_part_262 rfl ?_
    refine v_ldc2 264 C (1000) lk_651 dX4_part_264 ?_
    refine v_eql (lZ 1000) (by decide) ?_
    refine z_lcmp_le 267 278 C (by first | assumption | exact ⟨by omega, by omega⟩) (by first | assumption | exact ⟨by omega, by omega⟩) dX4_part_267 dX4_part_268 (by decide) (fun c267_16 => ?_) (fun c267_16 => absurd (by omega) c267_16)
    refine v_aload_n 278 3 C dX4_part_278 rfl ?_
    refine g_Mo_parts 279 C (vm.o hm).1 (vm.o hm).2 lk_501 dX4_part_279 ?_
    refine v_eqi (iZ (b 0 0)) (M3.1.2.2) ?_
    refine v_istore 282 [(11, .int (iZ (b 0 0))), (9, .long (lZ (stL b t u a q b_ c_))), (13, .long (lZ (PLy b t 16 u a))), (0, .ref (ad 45)), (1, .int (iZ kd)), (2, .int (iZ (u : Int))), (3, .int (iZ a)), (4, .int (iZ (q : Int))), (5, .int (iZ b_)), (6, .int (iZ c_)), (7, .int (iZ d_)), (8, .int (iZ f))] C dX4_part_282 (by decide) rfl ?_
    refine v_aload_n 284 3 C dX4_part_284 rfl ?_
    refine v_dup 285 C dX4_part_285 rfl ?_
    refine g_Mo_parts 286 C (vm.o hm).1 (vm.o hm).2 lk_501 dX4_part_286 ?_
    refine v_eqi (iZ (b 0 0)) (M3.1.2.2) ?_
    refine v_iconst 289 C (iZ 1) dX4_part_289 rfl ?_
    refine z_iadd 290 C dX4_part_290 ?_
    refine s_Mo_parts 291 C (vm.o hm).1 (vm.o hm).2 lk_501 dX4_part_291 ?_
    refine v_aload_n 294 3 C dX4_part_294 rfl ?_
    refine g_Mo_kind 295 C (vm.o hm).1 (vm.o hm).2 lk_502 dX4_part_295 ?_
    refine v_iload 298 0 C dX4_part_298 rfl ?_
    refine v_iload_n 300 4 C dX4_part_300 rfl ?_
    refine v_iast 301 C (vm.a hm 46 (by decide) rfl).1 (vm.a hm 46 (by decide) rfl).2 (bn b) (izn (by omega)) (lnx (show ln 46 = 30 from rfl) (by omega)) dX4_part_301 ?_
    refine v_aload_n 302 3 C dX4_part_302 rfl ?_
    refine g_Mo_on 303 C (vm.o hm).1 (vm.o hm).2 lk_503 dX4_part_303 ?_
    refine v_iconst 306 C (iZ 2) dX4_part_306 rfl ?_
    refine v_iload 307 0 C dX4_part_307 rfl ?_
    refine z_imul 309 C dX4_part_309 ?_
    refine v_iload_n 310 5 C dX4_part_310 rfl ?_
    refine v_iast 311 C (vm.a hm 47 (by decide) rfl).1 (vm.a hm 47 (by decide) rfl).2 (2 * bn b) (izn (by omega)) (lnx (show ln 47 = 60 from rfl) (by omega)) dX4_part_311 ?_
    refine v_aload_n 312 3 C dX4_part_312 rfl ?_
    refine g_Mo_on 313 C (vm.o hm).1 (vm.o hm).2 lk_503 dX4_part_313 ?_
    refine v_iconst 316 C (iZ 2) dX4_part_316 rfl ?_
    refine v_iload 317 0 C dX4_part_317 rfl ?_
    refine z_imul 319 C dX4_part_319 ?_
    refine v_iconst 320 C (iZ 1) dX4_part_320 rfl ?_
    refine z_iadd 321 C dX4_part_321 ?_
    refine v_iload 322 7 C dX4_part_322 rfl ?_
    refine v_iast 324 C (vm.a hm 47 (by decide) rfl).1 (vm.a hm 47 (by decide) rfl).2 (2 * bn b + 1) (izn (by omega)) (lnx (show ln 47 = 60 from rfl) (by omega)) dX4_part_324 ?_
    refine v_aload_n 325 3 C dX4_part_325 rfl ?_
    refine g_Mo_far 326 C (vm.o hm).1 (vm.o hm).2 lk_504 dX4_part_326 ?_
    refine v_iconst 329 C (iZ 2) dX4_part_329 rfl ?_
    refine v_iload 330 0 C dX4_part_330 rfl ?_
    refine z_imul 332 C dX4_part_332 ?_
    refine v_iload_n 333 6 C dX4_part_333 rfl ?_
    refine v_iast 334 C (vm.a hm 48 (by decide) rfl).1 (vm.a hm 48 (by decide) rfl).2 (2 * bn b) (izn (by omega)) (lnx (show ln 48 = 60 from rfl) (by omega)) dX4_part_334 ?_
    refine v_aload_n 335 3 C dX4_part_335 rfl ?_
    refine g_Mo_far 336 C (vm.o hm).1 (vm.o hm).2 lk_504 dX4_part_336 ?_
    refine v_iconst 339 C (iZ 2) dX4_part_339 rfl ?_
    refine v_iload 340 0 C dX4_part_340 rfl ?_
    refine z_imul 342 C dX4_part_342 ?_
    refine v_iconst 343 C (iZ 1) dX4_part_343 rfl ?_
    refine z_iadd 344 C dX4_part_344 ?_
    refine v_iload 345 8 C dX4_part_345 rfl ?_
    refine v_iast 347 C (vm.a hm 48 (by decide) rfl).1 (vm.a hm 48 (by decide) rfl).2 (2 * bn b + 1) (izn (by omega)) (lnx (show ln 48 = 60 from rfl) (by omega)) dX4_part_347 ?_
    refine v_aload_n 348 3 C dX4_part_348 rfl ?_
    refine g_Mo_flat 349 C (vm.o hm).1 (vm.o hm).2 lk_505 dX4_part_349 ?_
    refine v_iconst 352 C (iZ 2) dX4_part_352 rfl ?_
    refine v_iload 353 0 C dX4_part_353 rfl ?_
    refine z_imul 355 C dX4_part_355 ?_
    refine v_iload_n 356 4 C dX4_part_356 rfl ?_
    refine v_iconst 357 C (iZ 1) dX4_part_357 rfl ?_
    refine z_icmp_ne 358 366 C (by first | assumption | exact ⟨by omega, by omega⟩) (by first | assumption | exact ⟨by omega, by omega⟩) dX4_part_358 (by decide) (fun c358_17 => ?_) (fun c358_17 => absurd c358_17 (by omega))
    refine v_iload 366 9 C dX4_part_366 rfl ?_
    refine v_iast 368 C (vm.a hm 49 (by decide) rfl).1 (vm.a hm 49 (by decide) rfl).2 (2 * bn b) (izn (by omega)) (lnx (show ln 49 = 60 from rfl) (by omega)) dX4_part_368 ?_
    refine v_aload_n 369 3 C dX4_part_369 rfl ?_
    refine g_Mo_flat 370 C (vm.o hm).1 (vm.o hm).2 lk_505 dX4_part_370 ?_
    refine v_iconst 373 C (iZ 2) dX4_part_373 rfl ?_
    refine v_iload 374 0 C dX4_part_374 rfl ?_
    refine z_imul 376 C dX4_part_376 ?_
    refine v_iconst 377 C (iZ 1) dX4_part_377 rfl ?_
    refine z_iadd 378 C dX4_part_378 ?_
    refine v_lload 379 1 C dX4_part_379 rfl ?_
    refine z_l2i 381 C dX4_part_381 ?_
    refine v_iast 382 C (vm.a hm 49 (by decide) rfl).1 (vm.a hm 49 (by decide) rfl).2 (2 * bn b + 1) (izn (by omega)) (lnx (show ln 49 = 60 from rfl) (by omega)) dX4_part_382 ?_
    refine v_aload_n 383 3 C dX4_part_383 rfl ?_
    refine g_Mo_left 384 C (vm.o hm).1 (vm.o hm).2 lk_506 dX4_part_384 ?_
    refine v_iload 387 0 C dX4_part_387 rfl ?_
    refine v_iload 389 11 C dX4_part_389 rfl ?_
    refine v_zast 391 C (vm.a hm 50 (by decide) rfl).1 (vm.a hm 50 (by decide) rfl).2 (bn b) (izn (by omega)) (lnx (show ln 50 = 30 from rfl) (by omega)) dX4_part_391 ?_
    rw [vn01 hf]
    refine v_aload_n 392 3 C dX4_part_392 rfl ?_
    refine g_Mo_isThere 393 C (vm.o hm).1 (vm.o hm).2 lk_507 dX4_part_393 ?_
    refine v_iload 396 0 C dX4_part_396 rfl ?_
    refine v_iconst 398 C (iZ 1) dX4_part_398 rfl ?_
    refine v_zast 399 C (vm.a hm 51 (by decide) rfl).1 (vm.a hm 51 (by decide) rfl).2 (bn b) (izn (by omega)) (lnx (show ln 51 = 30 from rfl) (by omega)) dX4_part_399 ?_
    rw [vn1]
    refine v_iload 400 0 C dX4_part_400 rfl ?_
    exact v_iret 402 C (⟨by rw [hn30.1], ptS S3 b kd u a q b_ c_ (stL b t u a q b_ c_) f, rfl, ptS_RM hI M3, C3.tr ptS_C⟩) dX4_part_402
