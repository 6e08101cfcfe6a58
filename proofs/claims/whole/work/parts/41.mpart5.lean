set_option maxHeartbeats 4000000 in
set_option maxRecDepth 100000 in
theorem d_part_o0 {l : Launch} {D : va_G} {kc : Nat → ClassId} {N : Nat} {ad : Nat → Nat} {S : St} {b : Bs} (hm : vm N) (hI : Inv b) (hM : RM S b) {t : Ts} (hE : LE b t) {u q : Nat} (hu : thL b u) (hq : thL b q) (he : ¬ u = q) {kd a b_ c_ d_ f : Int} (rk : r32 kd) (ra : r32 a) (rb : r32 b_) (rc : r32 c_) (rd : r32 d_) (hf : b01 f) (hk : 0 ≤ kd ∧ kd ≤ 2) (h4 : gdP kd a b_ c_ d_) (h6 : rmP b kd u a q b_ c_ d_) (h2 : kd = 0) : MetK l yX4_part cX4_part 15 (some FieldType.int) 6 0 0 166 D kc (wl kc N ad S) [.ref (ad 45), .int (iZ kd), .int (iZ (u : Int)), .int (iZ a), .int (iZ (q : Int)), .int (iZ b_), .int (iZ c_), .int (iZ d_), .int (iZ f)] (QI D kc (wl kc N ad S) (mQ kc N ad S ((bn b : Int)) (ptB b kd u a q b_ c_ d_ f))) := by
  refine MetK.of (by decide +kernel) (Nat.le_of_ble_eq_true rfl) ?_
  intro p e s m below meth c C
  have hA : ∀ q, s.heap.size ≤ q → va_A (wl kc N ad S) s.heap.size q := fun _ h => Or.inr h
  show V p l e { frames := 6, cells := 0, slots := 0, locals := 166 } s m ([.ref (ad 45), .int (iZ kd), .int (iZ (u : Int)), .int (iZ a), .int (iZ (q : Int)), .int (iZ b_), .int (iZ c_), .int (iZ d_), .int (iZ f)] : List Value).toArray below meth c (MQ below (QI D kc (wl kc N ad S) (mQ kc N ad S ((bn b : Int)) (ptB b kd u a q b_ c_ d_ f)) s.heap.size) ([.ref (ad 45), .int (iZ kd), .int (iZ (u : Int)), .int (iZ a), .int (iZ (q : Int)), .int (iZ b_), .int (iZ c_), .int (iZ d_), .int (iZ f)] : List Value).toArray s 0 0 (va_A (wl kc N ad S) s.heap.size)) D (va_A (wl kc N ad S) s.heap.size) 15 0 0 (wl kc N ad S) 0 [(0, .ref (ad 45)), (1, .int (iZ kd)), (2, .int (iZ (u : Int))), (3, .int (iZ a)), (4, .int (iZ (q : Int))), (5, .int (iZ b_)), (6, .int (iZ c_)), (7, .int (iZ d_)), (8, .int (iZ f))] []
  have hb0 := hI.1
  have h62u := thL_62 hI hu
  have h62q := thL_62 hI hq
  have hszu := szL_b hI hu
  have hszq := szL_b hI hq
  have hn30 := hI.1
  unfold rmP at h6
  rw [Int.toNat_natCast, Int.toNat_natCast] at h6
  have hj : 16 < 17 := by decide
  have p01 : ∀ u, thL b u → b01 (PS t 16 u) := fun u h => by
    unfold PS
    split
    · exact Or.inl rfl
    · have T := thL_lt h (by omega)
      exact (hE _ T.1 T.1 T.2 16 (by decide)).1
  have p1 := p01 u hu
  have p2 := p01 q hq
  refine v_aload_n 0 0 C dX4_part_0 rfl ?_
  refine v_iload_n 1 2 C dX4_part_1 rfl ?_
  refine v_calli 2 hA (rV_Mo 2 C L_RX4_145 lk_601 lk_23 (m4_isPlane hm hI hM (by first | assumption | exact ⟨by omega, by omega⟩)) (vm.o hm) rfl ⟨rfl, rfl⟩ (rm_ok rfl) dX4_part_2) (fun r1 w2 h3 => ?_)
  obtain ⟨e_r1, rfl⟩ := h3
  refine v_eqi (iZ (bz (isLb b (u : Int)))) (e_r1) ?_
  refine z_if_eq 5 23 C (bzr _) dX4_part_5 (by decide) (fun c5_0 => absurd c5_0 (by rw [isLb_y hI hu]; decide)) (fun c5_0 => ?_)
  refine v_aload_n 8 0 C dX4_part_8 rfl ?_
  refine v_iload 9 4 C dX4_part_9 rfl ?_
  refine v_calli 11 hA (rV_Mo 11 C L_RX4_145 lk_601 lk_23 (m4_isPlane hm hI hM (by first | assumption | exact ⟨by omega, by omega⟩)) (vm.o hm) rfl ⟨rfl, rfl⟩ (rm_ok rfl) dX4_part_11) (fun r4 w5 h6 => ?_)
  obtain ⟨e_r4, rfl⟩ := h6
  refine v_eqi (iZ (bz (isLb b (q : Int)))) (e_r4) ?_
  refine z_if_eq 14 23 C (bzr _) dX4_part_14 (by decide) (fun c14_1 => absurd c14_1 (by rw [isLb_y hI hq]; decide)) (fun c14_1 => ?_)
  refine v_iload_n 17 2 C dX4_part_17 rfl ?_
  refine v_iload 18 4 C dX4_part_18 rfl ?_
  refine z_icmp_ne 20 29 C (by first | assumption | exact ⟨by omega, by omega⟩) (by first | assumption | exact ⟨by omega, by omega⟩) dX4_part_20 (by decide) (fun c20_2 => ?_) (fun c20_2 => absurd c20_2 (by omega))
  refine v_iload_n 29 1 C dX4_part_29 rfl ?_
  refine z_i2l 30 C (by first | assumption | exact ⟨by omega, by omega⟩) dX4_part_30 ?_
  refine v_lconst 31 C (lZ 0) dX4_part_31 (by decide) ?_
  refine v_ldc2 32 C (2) lk_606 dX4_part_32 ?_
  refine v_eql (lZ 2) (by decide) ?_
  refine v_calli 35 hA (rS 35 C L_RX4_83 lk_604 (m4_in (by first | assumption | exact ⟨by omega, by omega⟩) (by decide) (by decide)) rfl rfl (rm_ok rfl) dX4_part_35) (fun r7 w8 h9 => ?_)
  obtain ⟨e_r7, rfl⟩ := h9
  refine v_eqi (iZ (bz (decide (0 ≤ kd ∧ kd ≤ 2)))) (e_r7) ?_
  refine z_if_ne 38 48 C (bzr _) dX4_part_38 (by decide) (fun c38_3 => ?_) (fun c38_3 => absurd c38_3 (by rw [decide_eq_true (show 0 ≤ kd ∧ kd ≤ 2 by omega)]; decide))
  refine v_aload_n 48 0 C dX4_part_48 rfl ?_
  refine v_iload_n 49 1 C dX4_part_49 rfl ?_
  refine v_iload_n 50 3 C dX4_part_50 rfl ?_
  refine v_iload 51 5 C dX4_part_51 rfl ?_
  refine v_iload 53 6 C dX4_part_53 rfl ?_
  refine v_iload 55 7 C dX4_part_55 rfl ?_
  refine v_calli 57 hA (rV_Mo 57 C L_RX4_148 lk_609 lk_24 (m4_isGood rk ra rb rc rd (by omega)) (vm.o hm) rfl ⟨rfl, rfl⟩ (rm_ok rfl) dX4_part_57) (fun r10 w11 h12 => ?_)
  obtain ⟨e_r10, rfl⟩ := h12
  refine v_eqi (iZ (bz (decide (gdP kd a b_ c_ d_)))) (e_r10) ?_
  refine z_if_ne 60 70 C (bzr _) dX4_part_60 (by decide) (fun c60_4 => ?_) (fun c60_4 => absurd c60_4 (by rw [decide_eq_true h4]; decide))
  refine v_iload_n 70 3 C dX4_part_70 rfl ?_
  refine v_aload_n 71 0 C dX4_part_71 rfl ?_
  refine v_iload_n 72 2 C dX4_part_72 rfl ?_
  refine v_calli 73 hA (rV_Mo 73 C L_RX4_152 lk_613 lk_25 (m4_sizeOf hm hI hM hu) (vm.o hm) rfl ⟨rfl, rfl⟩ (rm_ok rfl) dX4_part_73) (fun r13 w14 h15 => ?_)
  obtain ⟨e_r13, rfl⟩ := h15
  refine v_eqi (iZ (szL b u)) (e_r13) ?_
  refine z_icmp_gt 76 124 C (by first | assumption | exact ⟨by omega, by omega⟩) (by first | assumption | exact ⟨by omega, by omega⟩) dX4_part_76 (by decide) (fun c76_5 => absurd c76_5 (by omega)) (fun c76_5 => ?_)
  refine v_iload 79 5 C dX4_part_79 rfl ?_
  refine v_aload_n 81 0 C dX4_part_81 rfl ?_
  refine v_iload 82 4 C dX4_part_82 rfl ?_
  refine v_calli 84 hA (rV_Mo 84 C L_RX4_152 lk_613 lk_25 (m4_sizeOf hm hI hM hq) (vm.o hm) rfl ⟨rfl, rfl⟩ (rm_ok rfl) dX4_part_84) (fun r16 w17 h18 => ?_)
  obtain ⟨e_r16, rfl⟩ := h18
  refine v_eqi (iZ (szL b q)) (e_r16) ?_
  refine z_icmp_gt 87 124 C (by first | assumption | exact ⟨by omega, by omega⟩) (by first | assumption | exact ⟨by omega, by omega⟩) dX4_part_87 (by decide) (fun c87_6 => absurd c87_6 (by omega)) (fun c87_6 => ?_)
  refine v_iload_n 90 1 C dX4_part_90 rfl ?_
  refine v_iconst 91 C (iZ 1) dX4_part_91 rfl ?_
  refine z_icmp_eq 92 103 C (by first | assumption | exact ⟨by omega, by omega⟩) (by first | assumption | exact ⟨by omega, by omega⟩) dX4_part_92 (by decide) (fun c92_7 => absurd c92_7 (by omega)) (fun c92_7 => ?_)
  refine v_iload 95 6 C dX4_part_95 rfl ?_
  refine v_sipush 97 C (iZ 1000) dX4_part_97 (by decide) ?_
  refine z_icmp_gt 100 124 C (by first | assumption | exact ⟨by omega, by omega⟩) (by first | assumption | exact ⟨by omega, by omega⟩) dX4_part_100 (by decide) (fun c100_8 => absurd c100_8 (by omega)) (fun c100_8 => ?_)
  refine v_iload_n 103 1 C dX4_part_103 rfl ?_
  refine z_if_ne 104 115 C (by first | assumption | exact ⟨by omega, by omega⟩) dX4_part_104 (by decide) (fun c104_9 => absurd c104_9 (fun z => z h2)) (fun c104_9 => ?_)
  refine v_iload 107 7 C dX4_part_107 rfl ?_
  refine v_sipush 109 C (iZ 1000) dX4_part_109 (by decide) ?_
  refine z_icmp_gt 112 124 C (by first | assumption | exact ⟨by omega, by omega⟩) (by first | assumption | exact ⟨by omega, by omega⟩) dX4_part_112 (by decide) (fun c112_10 => absurd c112_10 (by omega)) (fun c112_10 => ?_)
  refine v_aload_n 115 0 C dX4_part_115 rfl ?_
  refine g_Mo_parts 116 C (vm.o hm).1 (vm.o hm).2 lk_501 dX4_part_116 ?_
  refine v_eqi (iZ (b 0 0)) (hM.1.2.2) ?_
  refine v_bipush 119 C (iZ 30) dX4_part_119 (by decide) ?_
  refine z_icmp_ne 121 131 C (by first | assumption | exact ⟨by omega, by omega⟩) (by first | assumption | exact ⟨by omega, by omega⟩) dX4_part_121 (by decide) (fun c121_11 => ?_) (fun c121_11 => absurd c121_11 (h6.2.2.2.2))
  refine v_iload_n 131 1 C dX4_part_131 rfl ?_
  refine v_iconst 132 C (iZ 1) dX4_part_132 rfl ?_
  refine z_icmp_ne 133 141 C (by first | assumption | exact ⟨by omega, by omega⟩) (by first | assumption | exact ⟨by omega, by omega⟩) dX4_part_133 (by decide) (fun c133_12 => ?_) (fun c133_12 => absurd c133_12 (by omega))
  refine v_iload 141 7 C dX4_part_141 rfl ?_
  refine z_i2l 143 C (by first | assumption | exact ⟨by omega, by omega⟩) dX4_part_143 ?_
  refine v_lstore 144 [(9, .long (lZ d_)), (0, .ref (ad 45)), (1, .int (iZ kd)), (2, .int (iZ (u : Int))), (3, .int (iZ a)), (4, .int (iZ (q : Int))), (5, .int (iZ b_)), (6, .int (iZ c_)), (7, .int (iZ d_)), (8, .int (iZ f))] C dX4_part_144 (by decide) rfl ?_
  refine v_iload_n 146 2 C dX4_part_146 rfl ?_
  refine v_iconst 147 C (iZ 2) dX4_part_147 rfl ?_
  refine z_icmp_ne 148 278 C (by first | assumption | exact ⟨by omega, by omega⟩) (by first | assumption | exact ⟨by omega, by omega⟩) dX4_part_148 (by decide) (fun c148_13 => ?_) (fun c148_13 => absurd c148_13 (by omega))
  refine v_aload_n 278 1 C dX4_part_278 rfl ?_
  refine g_Mo_parts 279 C (vm.o hm).1 (vm.o hm).2 lk_501 dX4_part_279 ?_
  refine v_eqi (iZ (b 0 0)) (hM.1.2.2) ?_
  refine v_istore 282 [(11, .int (iZ (b 0 0))), (9, .long (lZ d_)), (0, .ref (ad 45)), (1, .int (iZ kd)), (2, .int (iZ (u : Int))), (3, .int (iZ a)), (4, .int (iZ (q : Int))), (5, .int (iZ b_)), (6, .int (iZ c_)), (7, .int (iZ d_)), (8, .int (iZ f))] C dX4_part_282 (by decide) rfl ?_
  refine v_aload_n 284 2 C dX4_part_284 rfl ?_
  refine v_dup 285 C dX4_part_285 rfl ?_
  refine g_Mo_parts 286 C (vm.o hm).1 (vm.o hm).2 lk_501 dX4_part_286 ?_
  refine v_eqi (iZ (b 0 0)) (hM.1.2.2) ?_
  refine v_iconst 289 C (iZ 1) dX4_part_289 rfl ?_
  refine z_iadd 290 C dX4_part_290 ?_
  refine s_Mo_parts 291 C (vm.o hm).1 (vm.o hm).2 lk_501 dX4_part_291 ?_
  refine v_aload_n 294 2 C dX4_part_294 rfl ?_
  refine g_Mo_kind 295 C (vm.o hm).1 (vm.o hm).2 lk_502 dX4_part_295 ?_
  refine v_iload 298 0 C dX4_part_298 rfl ?_
  refine v_iload_n 300 3 C dX4_part_300 rfl ?_
  refine v_iast 301 C (vm.a hm 46 (by decide) rfl).1 (vm.a hm 46 (by decide) rfl).2 (bn b) (izn (by omega)) (lnx (show ln 46 = 30 from rfl) (by omega)) dX4_part_301 ?_
  refine v_aload_n 302 2 C dX4_part_302 rfl ?_
  refine g_Mo_on 303 C (vm.o hm).1 (vm.o hm).2 lk_503 dX4_part_303 ?_
  refine v_iconst 306 C (iZ 2) dX4_part_306 rfl ?_
  refine v_iload 307 0 C dX4_part_307 rfl ?_
  refine z_imul 309 C dX4_part_309 ?_
  refine v_iload_n 310 4 C dX4_part_310 rfl ?_
  refine v_iast 311 C (vm.a hm 47 (by decide) rfl).1 (vm.a hm 47 (by decide) rfl).2 (2 * bn b) (izn (by omega)) (lnx (show ln 47 = 60 from rfl) (by omega)) dX4_part_311 ?_
  refine v_aload_n 312 2 C dX4_part_312 rfl ?_
  refine g_Mo_on 313 C (vm.o hm).1 (vm.o hm).2 lk_503 dX4_part_313 ?_
  refine v_iconst 316 C (iZ 2) dX4_part_316 rfl ?_
  refine v_iload 317 0 C dX4_part_317 rfl ?_
  refine z_imul 319 C dX4_part_319 ?_
  refine v_iconst 320 C (iZ 1) dX4_part_320 rfl ?_
  refine z_iadd 321 C dX4_part_321 ?_
  refine v_iload 322 6 C dX4_part_322 rfl ?_
  refine v_iast 324 C (vm.a hm 47 (by decide) rfl).1 (vm.a hm 47 (by decide) rfl).2 (2 * bn b + 1) (izn (by omega)) (lnx (show ln 47 = 60 from rfl) (by omega)) dX4_part_324 ?_
  refine v_aload_n 325 2 C dX4_part_325 rfl ?_
  refine g_Mo_far 326 C (vm.o hm).1 (vm.o hm).2 lk_504 dX4_part_326 ?_
  refine v_iconst 329 C (iZ 2) dX4_part_329 rfl ?_
  refine v_iload 330 0 C dX4_part_330 rfl ?_
  refine z_imul 332 C dX4_part_332 ?_
  refine v_iload_n 333 5 C dX4_part_333 rfl ?_
  refine v_iast 334 C (vm.a hm 48 (by decide) rfl).1 (vm.a hm 48 (by decide) rfl).2 (2 * bn b) (izn (by omega)) (lnx (show ln 48 = 60 from rfl) (by omega)) dX4_part_334 ?_
  refine v_aload_n 335 2 C dX4_part_335 rfl ?_
  refine g_Mo_far 336 C (vm.o hm).1 (vm.o hm).2 lk_504 dX4_part_336 ?_
  refine v_iconst 339 C (iZ 2) dX4_part_339 rfl ?_
  refine v_iload 340 0 C dX4_part_340 rfl ?_
  refine z_imul 342 C dX4_part_342 ?_
  refine v_iconst 343 C (iZ 1) dX4_part_343 rfl ?_
  refine z_iadd 344 C dX4_part_344 ?_
  refine v_iload 345 7 C dX4_part_345 rfl ?_
  refine v_iast 347 C (vm.a hm 48 (by decide) rfl).1 (vm.a hm 48 (by decide) rfl).2 (2 * bn b + 1) (izn (by omega)) (lnx (show ln 48 = 60 from rfl) (by omega)) dX4_part_347 ?_
  refine v_aload_n 348 2 C dX4_part_348 rfl ?_
  refine g_Mo_flat 349 C (vm.o hm).1 (vm.o hm).2 lk_505 dX4_part_349 ?_
  refine v_iconst 352 C (iZ 2) dX4_part_352 rfl ?_
  refine v_iload 353 0 C dX4_part_353 rfl ?_
  refine z_imul 355 C dX4_part_355 ?_
  refine v_iload_n 356 3 C dX4_part_356 rfl ?_
  refine v_iconst 357 C (iZ 1) dX4_part_357 rfl ?_
  refine z_icmp_ne 358 366 C (by first | assumption | exact ⟨by omega, by omega⟩) (by first | assumption | exact ⟨by omega, by omega⟩) dX4_part_358 (by decide) (fun c358_14 => ?_) (fun c358_14 => absurd c358_14 (by omega))
  refine v_iload 366 8 C dX4_part_366 rfl ?_
  refine v_iast 368 C (vm.a hm 49 (by decide) rfl).1 (vm.a hm 49 (by decide) rfl).2 (2 * bn b) (izn (by omega)) (lnx (show ln 49 = 60 from rfl) (by omega)) dX4_part_368 ?_
  refine v_aload_n 369 2 C dX4_part_369 rfl ?_
  refine g_Mo_flat 370 C (vm.o hm).1 (vm.o hm).2 lk_505 dX4_part_370 ?_
  refine v_iconst 373 C (iZ 2) dX4_part_373 rfl ?_
  refine v_iload 374 0 C dX4_part_374 rfl ?_
  refine z_imul 376 C dX4_part_376 ?_
  refine v_iconst 377 C (iZ 1) dX4_part_377 rfl ?_
  refine z_iadd 378 C dX4_part_378 ?_
  refine v_lload 379 1 C dX4_part_379 rfl ?_
  refine z_l2i 381 C dX4_part_381 ?_
  refine v_iast 382 C (vm.a hm 49 (by decide) rfl).1 (vm.a hm 49 (by decide) rfl).2 (2 * bn b + 1) (izn (by omega)) (lnx (show ln 49 = 60 from rfl) (by omega)) dX4_part_382 ?_
  refine v_aload_n 383 2 C dX4_part_383 rfl ?_
  refine g_Mo_left 384 C (vm.o hm).1 (vm.o hm).2 lk_506 dX4_part_384 ?_
  refine v_iload 387 0 C dX4_part_387 rfl ?_
  refine v_iload 389 10 C dX4_part_389 rfl ?_
  refine v_zast 391 C (vm.a hm 50 (by decide) rfl).1 (vm.a hm 50 (by decide) rfl).2 (bn b) (izn (by omega)) (lnx (show ln 50 = 30 from rfl) (by omega)) dX4_part_391 ?_
  rw [vn01 hf]
  refine v_aload_n 392 2 C dX4_part_392 rfl ?_
  refine g_Mo_isThere 393 C (vm.o hm).1 (vm.o hm).2 lk_507 dX4_part_393 ?_
  refine v_iload 396 0 C dX4_part_396 rfl ?_
  refine v_iconst 398 C (iZ 1) dX4_part_398 rfl ?_
  refine v_zast 399 C (vm.a hm 51 (by decide) rfl).1 (vm.a hm 51 (by decide) rfl).2 (bn b) (izn (by omega)) (lnx (show ln 51 = 30 from rfl) (by omega)) dX4_part_399 ?_
  rw [vn1]
  refine v_iload 400 0 C dX4_part_400 rfl ?_
  exact v_iret 402 C (⟨by rw [hn30.1], ptS S b kd u a q b_ c_ d_ f, rfl, ptS_RM hI hM, ptS_C⟩) dX4_part_402

set_option maxHeartbeats 4000000 in
set_option maxRecDepth 100000 in
theorem d_part_o1 {l : Launch} {D : va_G} {kc : Nat → ClassId} {N : Nat} {ad : Nat → Nat} {S : St} {b : Bs} (hm : vm N) (hI : Inv b) (hM : RM S b) {t : Ts} (hE : LE b t) {u q : Nat} (hu : thL b u) (hq : thL b q) (he : ¬ u = q) {kd a b_ c_ d_ f : Int} (rk : r32 kd) (ra : r32 a) (rb : r32 b_) (rc : r32 c_) (rd : r32 d_) (hf : b01 f) (hk : 0 ≤ kd ∧ kd ≤ 2) (h4 : gdP kd a b_ c_ d_) (h6 : rmP b kd u a q b_ c_ d_) (h2 : kd = 1) : MetK l yX4_part cX4_part 15 (some FieldType.int) 6 0 0 166 D kc (wl kc N ad S) [.ref (ad 45), .int (iZ kd), .int (iZ (u : Int)), .int (iZ a), .int (iZ (q : Int)), .int (iZ b_), .int (iZ c_), .int (iZ d_), .int (iZ f)] (QI D kc (wl kc N ad S) (mQ kc N ad S ((bn b : Int)) (ptB b kd u a q b_ b_ a f))) := by
  refine MetK.of (by decide +kernel) (Nat.le_of_ble_eq_true rfl) ?_
  intro p e s m below meth c C
  have hA : ∀ q, s.heap.size ≤ q → va_A (wl kc N ad S) s.heap.size q := fun _ h => Or.inr h
  show V p l e { frames := 6, cells := 0, slots := 0, locals := 166 } s m ([.ref (ad 45), .int (iZ kd), .int (iZ (u : Int)), .int (iZ a), .int (iZ (q : Int)), .int (iZ b_), .int (iZ c_), .int (iZ d_), .int (iZ f)] : List Value).toArray below meth c (MQ below (QI D kc (wl kc N ad S) (mQ kc N ad S ((bn b : Int)) (ptB b kd u a q b_ b_ a f)) s.heap.size) ([.ref (ad 45), .int (iZ kd), .int (iZ (u : Int)), .int (iZ a), .int (iZ (q : Int)), .int (iZ b_), .int (iZ c_), .int (iZ d_), .int (iZ f)] : List Value).toArray s 0 0 (va_A (wl kc N ad S) s.heap.size)) D (va_A (wl kc N ad S) s.heap.size) 15 0 0 (wl kc N ad S) 0 [(0, .ref (ad 45)), (1, .int (iZ kd)), (2, .int (iZ (u : Int))), (3, .int (iZ a)), (4, .int (iZ (q : Int))), (5, .int (iZ b_)), (6, .int (iZ c_)), (7, .int (iZ d_)), (8, .int (iZ f))] []
  have hb0 := hI.1
  have h62u := thL_62 hI hu
  have h62q := thL_62 hI hq
  have hszu := szL_b hI hu
  have hszq := szL_b hI hq
  have hn30 := hI.1
  unfold rmP at h6
  rw [Int.toNat_natCast, Int.toNat_natCast] at h6
  have hj : 16 < 17 := by decide
  have p01 : ∀ u, thL b u → b01 (PS t 16 u) := fun u h => by
    unfold PS
    split
    · exact Or.inl rfl
    · have T := thL_lt h (by omega)
      exact (hE _ T.1 T.1 T.2 16 (by decide)).1
  have p1 := p01 u hu
  have p2 := p01 q hq
  refine v_aload_n 0 0 C dX4_part_0 rfl ?_
  refine v_iload_n 1 2 C dX4_part_1 rfl ?_
  refine v_calli 2 hA (rV_Mo 2 C L_RX4_145 lk_601 lk_23 (m4_isPlane hm hI hM (by first | assumption | exact ⟨by omega, by omega⟩)) (vm.o hm) rfl ⟨rfl, rfl⟩ (rm_ok rfl) dX4_part_2) (fun r1 w2 h3 => ?_)
  obtain ⟨e_r1, rfl⟩ := h3
  refine v_eqi (iZ (bz (isLb b (u : Int)))) (e_r1) ?_
  refine z_if_eq 5 23 C (bzr _) dX4_part_5 (by decide) (fun c5_0 => absurd c5_0 (by rw [isLb_y hI hu]; decide)) (fun c5_0 => ?_)
  refine v_aload_n 8 0 C dX4_part_8 rfl ?_
  refine v_iload 9 4 C dX4_part_9 rfl ?_
  refine v_calli 11 hA (rV_Mo 11 C L_RX4_145 lk_601 lk_23 (m4_isPlane hm hI hM (by first | assumption | exact ⟨by omega, by omega⟩)) (vm.o hm) rfl ⟨rfl, rfl⟩ (rm_ok rfl) dX4_part_11) (fun r4 w5 h6 => ?_)
  obtain ⟨e_r4, rfl⟩ := h6
  refine v_eqi (iZ (bz (isLb b (q : Int)))) (e_r4) ?_
  refine z_if_eq 14 23 C (bzr _) dX4_part_14 (by decide) (fun c14_1 => absurd c14_1 (by rw [isLb_y hI hq]; decide)) (fun c14_1 => ?_)
  refine v_iload_n 17 2 C dX4_part_17 rfl ?_
  refine v_iload 18 4 C dX4_part_18 rfl ?_
  refine z_icmp_ne 20 29 C (by first | assumption | exact ⟨by omega, by omega⟩) (by first | assumption | exact ⟨by omega, by omega⟩) dX4_part_20 (by decide) (fun c20_2 => ?_) (fun c20_2 => absurd c20_2 (by omega))
  refine v_iload_n 29 1 C dX4_part_29 rfl ?_
  refine z_i2l 30 C (by first | assumption | exact ⟨by omega, by omega⟩) dX4_part_30 ?_
  refine v_lconst 31 C (lZ 0) dX4_part_31 (by decide) ?_
  refine v_ldc2 32 C (2) lk_606 dX4_part_32 ?_
  refine v_eql (lZ 2) (by decide) ?_
  refine v_calli 35 hA (rS 35 C L_RX4_83 lk_604 (m4_in (by first | assumption | exact ⟨by omega, by omega⟩) (by decide) (by decide)) rfl rfl (rm_ok rfl) dX4_part_35) (fun r7 w8 h9 => ?_)
  obtain ⟨e_r7, rfl⟩ := h9
  refine v_eqi (iZ (bz (decide (0 ≤ kd ∧ kd ≤ 2)))) (e_r7) ?_
  refine z_if_ne 38 48 C (bzr _) dX4_part_38 (by decide) (fun c38_3 => ?_) (fun c38_3 => absurd c38_3 (by rw [decide_eq_true (show 0 ≤ kd ∧ kd ≤ 2 by omega)]; decide))
  refine v_aload_n 48 0 C dX4_part_48 rfl ?_
  refine v_iload_n 49 1 C dX4_part_49 rfl ?_
  refine v_iload_n 50 3 C dX4_part_50 rfl ?_
  refine v_iload 51 5 C dX4_part_51 rfl ?_
  refine v_iload 53 6 C dX4_part_53 rfl ?_
  refine v_iload 55 7 C dX4_part_55 rfl ?_
  refine v_calli 57 hA (rV_Mo 57 C L_RX4_148 lk_609 lk_24 (m4_isGood rk ra rb rc rd (by omega)) (vm.o hm) rfl ⟨rfl, rfl⟩ (rm_ok rfl) dX4_part_57) (fun r10 w11 h12 => ?_)
  obtain ⟨e_r10, rfl⟩ := h12
  refine v_eqi (iZ (bz (decide (gdP kd a b_ c_ d_)))) (e_r10) ?_
  refine z_if_ne 60 70 C (bzr _) dX4_part_60 (by decide) (fun c60_4 => ?_) (fun c60_4 => absurd c60_4 (by rw [decide_eq_true h4]; decide))
  refine v_iload_n 70 3 C dX4_part_70 rfl ?_
  refine v_aload_n 71 0 C dX4_part_71 rfl ?_
  refine v_iload_n 72 2 C dX4_part_72 rfl ?_
  refine v_calli 73 hA (rV_Mo 73 C L_RX4_152 lk_613 lk_25 (m4_sizeOf hm hI hM hu) (vm.o hm) rfl ⟨rfl, rfl⟩ (rm_ok rfl) dX4_part_73) (fun r13 w14 h15 => ?_)
  obtain ⟨e_r13, rfl⟩ := h15
  refine v_eqi (iZ (szL b u)) (e_r13) ?_
  refine z_icmp_gt 76 124 C (by first | assumption | exact ⟨by omega, by omega⟩) (by first | assumption | exact ⟨by omega, by omega⟩) dX4_part_76 (by decide) (fun c76_5 => absurd c76_5 (by omega)) (fun c76_5 => ?_)
  refine v_iload 79 5 C dX4_part_79 rfl ?_
  refine v_aload_n 81 0 C dX4_part_81 rfl ?_
  refine v_iload 82 4 C dX4_part_82 rfl ?_
  refine v_calli 84 hA (rV_Mo 84 C L_RX4_152 lk_613 lk_25 (m4_sizeOf hm hI hM hq) (vm.o hm) rfl ⟨rfl, rfl⟩ (rm_ok rfl) dX4_part_84) (fun r16 w17 h18 => ?_)
  obtain ⟨e_r16, rfl⟩ := h18
  refine v_eqi (iZ (szL b q)) (e_r16) ?_
  refine z_icmp_gt 87 124 C (by first | assumption | exact ⟨by omega, by omega⟩) (by first | assumption | exact ⟨by omega, by omega⟩) dX4_part_87 (by decide) (fun c87_6 => absurd c87_6 (by omega)) (fun c87_6 => ?_)
  refine v_iload_n 90 1 C dX4_part_90 rfl ?_
  refine v_iconst 91 C (iZ 1) dX4_part_91 rfl ?_
  refine z_icmp_eq 92 103 C (by first | assumption | exact ⟨by omega, by omega⟩) (by first | assumption | exact ⟨by omega, by omega⟩) dX4_part_92 (by decide) (fun c92_7 => ?_) (fun c92_7 => absurd (by omega) c92_7)
  refine v_iload_n 103 1 C dX4_part_103 rfl ?_
  refine z_if_ne 104 115 C (by first | assumption | exact ⟨by omega, by omega⟩) dX4_part_104 (by decide) (fun c104_8 => ?_) (fun c104_8 => absurd c104_8 (by omega))
  refine v_aload_n 115 0 C dX4_part_115 rfl ?_
  refine g_Mo_parts 116 C (vm.o hm).1 (vm.o hm).2 lk_501 dX4_part_116 ?_
  refine v_eqi (iZ (b 0 0)) (hM.1.2.2) ?_
  refine v_bipush 119 C (iZ 30) dX4_part_119 (by decide) ?_
  refine z_icmp_ne 121 131 C (by first | assumption | exact ⟨by omega, by omega⟩) (by first | assumption | exact ⟨by omega, by omega⟩) dX4_part_121 (by decide) (fun c121_9 => ?_) (fun c121_9 => absurd c121_9 (h6.2.2.2.2))
  refine v_iload_n 131 1 C dX4_part_131 rfl ?_
  refine v_iconst 132 C (iZ 1) dX4_part_132 rfl ?_
  refine z_icmp_ne 133 141 C (by first | assumption | exact ⟨by omega, by omega⟩) (by first | assumption | exact ⟨by omega, by omega⟩) dX4_part_133 (by decide) (fun c133_10 => absurd c133_10 (fun z => z h2)) (fun c133_10 => ?_)
  refine v_iload_n 136 3 C dX4_part_136 rfl ?_
  refine z_i2l 137 C (by first | assumption | exact ⟨by omega, by omega⟩) dX4_part_137 ?_
  refine v_goto 138 144 C dX4_part_138 (by decide) ?_
  refine v_lstore 144 [(9, .long (lZ a)), (0, .ref (ad 45)), (1, .int (iZ kd)), (2, .int (iZ (u : Int))), (3, .int (iZ a)), (4, .int (iZ (q : Int))), (5, .int (iZ b_)), (6, .int (iZ c_)), (7, .int (iZ d_)), (8, .int (iZ f))] C dX4_part_144 (by decide) rfl ?_
  refine v_iload_n 146 2 C dX4_part_146 rfl ?_
  refine v_iconst 147 C (iZ 2) dX4_part_147 rfl ?_
  refine z_icmp_ne 148 278 C (by first | assumption | exact ⟨by omega, by omega⟩) (by first | assumption | exact ⟨by omega, by omega⟩) dX4_part_148 (by decide) (fun c148_11 => ?_) (fun c148_11 => absurd c148_11 (by omega))
  refine v_aload_n 278 1 C dX4_part_278 rfl ?_
  refine g_Mo_parts 279 C (vm.o hm).1 (vm.o hm).2 lk_501 dX4_part_279 ?_
  refine v_eqi (iZ (b 0 0)) (hM.1.2.2) ?_
  refine v_istore 282 [(11, .int (iZ (b 0 0))), (9, .long (lZ a)), (0, .ref (ad 45)), (1, .int (iZ kd)), (2, .int (iZ (u : Int))), (3, .int (iZ a)), (4, .int (iZ (q : Int))), (5, .int (iZ b_)), (6, .int (iZ c_)), (7, .int (iZ d_)), (8, .int (iZ f))] C dX4_part_282 (by decide) rfl ?_
  refine v_aload_n 284 2 C dX4_part_284 rfl ?_
  refine v_dup 285 C dX4_part_285 rfl ?_
  refine g_Mo_parts 286 C (vm.o hm).1 (vm.o hm).2 lk_501 dX4_part_286 ?_
  refine v_eqi (iZ (b 0 0)) (hM.1.2.2) ?_
  refine v_iconst 289 C (iZ 1) dX4_part_289 rfl ?_
  refine z_iadd 290 C dX4_part_290 ?_
  refine s_Mo_parts 291 C (vm.o hm).1 (vm.o hm).2 lk_501 dX4_part_291 ?_
  refine v_aload_n 294 2 C dX4_part_294 rfl ?_
  refine g_Mo_kind 295 C (vm.o hm).1 (vm.o hm).2 lk_502 dX4_part_295 ?_
  refine v_iload 298 0 C dX4_part_298 rfl ?_
  refine v_iload_n 300 3 C dX4_part_300 rfl ?_
  refine v_iast 301 C (vm.a hm 46 (by decide) rfl).1 (vm.a hm 46 (by decide) rfl).2 (bn b) (izn (by omega)) (lnx (show ln 46 = 30 from rfl) (by omega)) dX4_part_301 ?_
  refine v_aload_n 302 2 C dX4_part_302 rfl ?_
  refine g_Mo_on 303 C (vm.o hm).1 (vm.o hm).2 lk_503 dX4_part_303 ?_
  refine v_iconst 306 C (iZ 2) dX4_part_306 rfl ?_
  refine v_iload 307 0 C dX4_part_307 rfl ?_
  refine z_imul 309 C dX4_part_309 ?_
  refine v_iload_n 310 4 C dX4_part_310 rfl ?_
  refine v_iast 311 C (vm.a hm 47 (by decide) rfl).1 (vm.a hm 47 (by decide) rfl).2 (2 * bn b) (izn (by omega)) (lnx (show ln 47 = 60 from rfl) (by omega)) dX4_part_311 ?_
  refine v_aload_n 312 2 C dX4_part_312 rfl ?_
  refine g_Mo_on 313 C (vm.o hm).1 (vm.o hm).2 lk_503 dX4_part_313 ?_
  refine v_iconst 316 C (iZ 2) dX4_part_316 rfl ?_
  refine v_iload 317 0 C dX4_part_317 rfl ?_
  refine z_imul 319 C dX4_part_319 ?_
  refine v_iconst 320 C (iZ 1) dX4_part_320 rfl ?_
  refine z_iadd 321 C dX4_part_321 ?_
  refine v_iload 322 6 C dX4_part_322 rfl ?_
  refine v_iast 324 C (vm.a hm 47 (by decide) rfl).1 (vm.a hm 47 (by decide) rfl).2 (2 * bn b + 1) (izn (by omega)) (lnx (show ln 47 = 60 from rfl) (by omega)) dX4_part_324 ?_
  refine v_aload_n 325 2 C dX4_part_325 rfl ?_
  refine g_Mo_far 326 C (vm.o hm).1 (vm.o hm).2 lk_504 dX4_part_326 ?_
  refine v_iconst 329 C (iZ 2) dX4_part_329 rfl ?_
  refine v_iload 330 0 C dX4_part_330 rfl ?_
  refine z_imul 332 C dX4_part_332 ?_
  refine v_iload_n 333 5 C dX4_part_333 rfl ?_
  refine v_iast 334 C (vm.a hm 48 (by decide) rfl).1 (vm.a hm 48 (by decide) rfl).2 (2 * bn b) (izn (by omega)) (lnx (show ln 48 = 60 from rfl) (by omega)) dX4_part_334 ?_
  refine v_aload_n 335 2 C dX4_part_335 rfl ?_
  refine g_Mo_far 336 C (vm.o hm).1 (vm.o hm).2 lk_504 dX4_part_336 ?_
  refine v_iconst 339 C (iZ 2) dX4_part_339 rfl ?_
  refine v_iload 340 0 C dX4_part_340 rfl ?_
  refine z_imul 342 C dX4_part_342 ?_
  refine v_iconst 343 C (iZ 1) dX4_part_343 rfl ?_
  refine z_iadd 344 C dX4_part_344 ?_
  refine v_iload 345 7 C dX4_part_345 rfl ?_
  refine v_iast 347 C (vm.a hm 48 (by decide) rfl).1 (vm.a hm 48 (by decide) rfl).2 (2 * bn b + 1) (izn (by omega)) (lnx (show ln 48 = 60 from rfl) (by omega)) dX4_part_347 ?_
  refine v_aload_n 348 2 C dX4_part_348 rfl ?_
  refine g_Mo_flat 349 C (vm.o hm).1 (vm.o hm).2 lk_505 dX4_part_349 ?_
  refine v_iconst 352 C (iZ 2) dX4_part_352 rfl ?_
  refine v_iload 353 0 C dX4_part_353 rfl ?_
  refine z_imul 355 C dX4_part_355 ?_
  refine v_iload_n 356 3 C dX4_part_356 rfl ?_
  refine v_iconst 357 C (iZ 1) dX4_part_357 rfl ?_
  refine z_icmp_ne 358 366 C (by first | assumption | exact ⟨by omega, by omega⟩) (by first | assumption | exact ⟨by omega, by omega⟩) dX4_part_358 (by decide) (fun c358_12 => absurd c358_12 (fun z => z h2)) (fun c358_12 => ?_)
  refine v_iload 361 7 C dX4_part_361 rfl ?_
  refine v_goto 363 368 C dX4_part_363 (by decide) ?_
  refine v_iast 368 C (vm.a hm 49 (by decide) rfl).1 (vm.a hm 49 (by decide) rfl).2 (2 * bn b) (izn (by omega)) (lnx (show ln 49 = 60 from rfl) (by omega)) dX4_part_368 ?_
  refine v_aload_n 369 2 C dX4_part_369 rfl ?_
  refine g_Mo_flat 370 C (vm.o hm).1 (vm.o hm).2 lk_505 dX4_part_370 ?_
  refine v_iconst 373 C (iZ 2) dX4_part_373 rfl ?_
  refine v_iload 374 0 C dX4_part_374 rfl ?_
  refine z_imul 376 C dX4_part_376 ?_
  refine v_iconst 377 C (iZ 1) dX4_part_377 rfl ?_
  refine z_iadd 378 C dX4_part_378 ?_
  refine v_lload 379 1 C dX4_part_379 rfl ?_
  refine z_l2i 381 C dX4_part_381 ?_
  refine v_iast 382 C (vm.a hm 49 (by decide) rfl).1 (vm.a hm 49 (by decide) rfl).2 (2 * bn b + 1) (izn (by omega)) (lnx (show ln 49 = 60 from rfl) (by omega)) dX4_part_382 ?_
  refine v_aload_n 383 2 C dX4_part_383 rfl ?_
  refine g_Mo_left 384 C (vm.o hm).1 (vm.o hm).2 lk_506 dX4_part_384 ?_
  refine v_iload 387 0 C dX4_part_387 rfl ?_
  refine v_iload 389 10 C dX4_part_389 rfl ?_
  refine v_zast 391 C (vm.a hm 50 (by decide) rfl).1 (vm.a hm 50 (by decide) rfl).2 (bn b) (izn (by omega)) (lnx (show ln 50 = 30 from rfl) (by omega)) dX4_part_391 ?_
  rw [vn01 hf]
  refine v_aload_n 392 2 C dX4_part_392 rfl ?_
  refine g_Mo_isThere 393 C (vm.o hm).1 (vm.o hm).2 lk_507 dX4_part_393 ?_
  refine v_iload 396 0 C dX4_part_396 rfl ?_
  refine v_iconst 398 C (iZ 1) dX4_part_398 rfl ?_
  refine v_zast 399 C (vm.a hm 51 (by decide) rfl).1 (vm.a hm 51 (by decide) rfl).2 (bn b) (izn (by omega)) (lnx (show ln 51 = 30 from rfl) (by omega)) dX4_part_399 ?_
  rw [vn1]
  refine v_iload 400 0 C dX4_part_400 rfl ?_
  exact v_iret 402 C (⟨by rw [hn30.1], ptS S b kd u a q b_ b_ a f, rfl, ptS_RM hI hM, ptS_C⟩) dX4_part_402
