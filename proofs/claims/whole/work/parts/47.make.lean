/-! MAKING: a track, a plane, a part -/
theorem ap_as {w0 l1 l2 l : va_W} (h : l = l1 ++ l2) : w0 ++ l = (w0 ++ l1) ++ l2 := by rw [h, List.append_assoc]
theorem ap_sa {w0 l1 l2 l : va_W} (h : l1 ++ l2 = l) : (w0 ++ l1) ++ l2 = w0 ++ l := by rw [← h, List.append_assoc]
theorem ndX0 : ∀ j, j < 12 → defaultValue (tyX0 j) = vp_V [.null, .null, .null, .null, .null, .int 0, .int 0, .int 0, .int 0, .int 0, .int 0, .int 0] j := by
  intro j hj
  have h : j = 0 ∨ j = 1 ∨ j = 2 ∨ j = 3 ∨ j = 4 ∨ j = 5 ∨ j = 6 ∨ j = 7 ∨ j = 8 ∨ j = 9 ∨ j = 10 ∨ j = 11 := by omega
  rcases h with rfl | rfl | rfl | rfl | rfl | rfl | rfl | rfl | rfl | rfl | rfl | rfl <;> rfl
theorem ndX1 : ∀ j, j < 5 → defaultValue (tyX1 j) = vp_V [.null, .null, .null, .int 0, .int 0] j := by
  intro j hj
  have h : j = 0 ∨ j = 1 ∨ j = 2 ∨ j = 3 ∨ j = 4 := by omega
  rcases h with rfl | rfl | rfl | rfl | rfl <;> rfl
theorem ndX2 : ∀ j, j < 3 → defaultValue (tyX2 j) = vp_V [.null, .null, .null] j := by
  intro j hj
  have h : j = 0 ∨ j = 1 ∨ j = 2 := by omega
  rcases h with rfl | rfl | rfl <;> rfl
theorem ndX3 : ∀ j, j < 8 → defaultValue (tyX3 j) = vp_V [.null, .null, .null, .null, .null, .int 0, .int 0, .int 0] j := by
  intro j hj
  have h : j = 0 ∨ j = 1 ∨ j = 2 ∨ j = 3 ∨ j = 4 ∨ j = 5 ∨ j = 6 ∨ j = 7 := by omega
  rcases h with rfl | rfl | rfl | rfl | rfl | rfl | rfl | rfl <;> rfl
theorem ndX4 : ∀ j, j < 26 → defaultValue (tyX4 j) = vp_V [.int 0, .int 0, .int 0, .null, .null, .null, .null, .null, .null, .null, .null, .int 0, .null, .null, .null, .long 0, .long 0, .null, .null, .null, .null, .null, .null, .null, .null, .null] j := by
  intro j hj
  have h : j = 0 ∨ j = 1 ∨ j = 2 ∨ j = 3 ∨ j = 4 ∨ j = 5 ∨ j = 6 ∨ j = 7 ∨ j = 8 ∨ j = 9 ∨ j = 10 ∨ j = 11 ∨ j = 12 ∨ j = 13 ∨ j = 14 ∨ j = 15 ∨ j = 16 ∨ j = 17 ∨ j = 18 ∨ j = 19 ∨ j = 20 ∨ j = 21 ∨ j = 22 ∨ j = 23 ∨ j = 24 ∨ j = 25 := by omega
  rcases h with rfl | rfl | rfl | rfl | rfl | rfl | rfl | rfl | rfl | rfl | rfl | rfl | rfl | rfl | rfl | rfl | rfl | rfl | rfl | rfl | rfl | rfl | rfl | rfl | rfl | rfl <;> rfl
set_option maxHeartbeats 4000000 in
set_option maxRecDepth 100000 in
theorem i_Track {l : Launch} {D : va_G} {kc : Nat → ClassId} (ws0 : va_W) (a : Nat) : MetK l yX2_init cX2_init 1 (none) 1 3 51 24 D kc (ws0 ++ [(a, .inr (2, [.null, .null, .null]))]) [.ref a] (QV D kc (ws0 ++ [(a, .inr (2, [.null, .null, .null]))]) (fun ws' => ∃ q1 q2 q3 : Nat, ws' = ws0 ++ trW kc a q1 q2 q3)) := by
  refine MetK.ofI (by decide +kernel) (Nat.le_of_ble_eq_true rfl) ?_
  intro p e s m below meth c C hI
  replace hI : meth.name = "<init>" := hI
  have hA : ∀ q, s.heap.size ≤ q → va_A (ws0 ++ [(a, .inr (2, [.null, .null, .null]))]) s.heap.size q := fun _ h => Or.inr h
  show V p l e { frames := 1, cells := 3, slots := 51, locals := 24 } s m ([.ref a] : List Value).toArray below meth c (MQ below (QV D kc (ws0 ++ [(a, .inr (2, [.null, .null, .null]))]) (fun ws' => ∃ q1 q2 q3 : Nat, ws' = ws0 ++ trW kc a q1 q2 q3) s.heap.size) ([.ref a] : List Value).toArray s 3 51 (va_A (ws0 ++ [(a, .inr (2, [.null, .null, .null]))]) s.heap.size)) D (va_A (ws0 ++ [(a, .inr (2, [.null, .null, .null]))]) s.heap.size) 1 0 0 (ws0 ++ [(a, .inr (2, [.null, .null, .null]))]) 0 [(0, .ref a)] []
  refine v_aload_n 0 0 C dX2_init_0 rfl ?_
  refine n_obj 1 C lk_75 ⟨Nat.le_of_ble_eq_true rfl, Nat.le_of_ble_eq_true rfl⟩ dX2_init_1 ?_
  refine v_aload_n 4 0 C dX2_init_4 rfl ?_
  refine v_bipush 5 C (iZ 17) dX2_init_5 (by decide) ?_
  refine n_newai 7 C hA 17 (izn rfl) (by decide) ⟨Nat.le_of_ble_eq_true rfl, Nat.le_of_ble_eq_true rfl⟩ dX2_init_7 (fun q1 => ?_)
  refine v_eqw (ws' := (ws0 ++ [(a, .inr (2, [.null, .null, .null])), zAr kc q1 17])) (ap_sa rfl) ?_
  refine n_putF 9 C hI 0 (by rfl) rfl inGX2 tyX2 tyX2_ok nmX2 0 (by decide) rfl rfl lk_76 rfl rfl (Nat.le_of_ble_eq_true rfl) dX2_init_9 ?_
  refine v_eqw (ws' := (ws0 ++ [(a, .inr (2, [.ref q1, .null, .null])), zAr kc q1 17])) rfl ?_
  refine v_aload_n 12 0 C dX2_init_12 rfl ?_
  refine v_bipush 13 C (iZ 17) dX2_init_13 (by decide) ?_
  refine n_newai 15 C hA 17 (izn rfl) (by decide) ⟨Nat.le_of_ble_eq_true rfl, Nat.le_of_ble_eq_true rfl⟩ dX2_init_15 (fun q2 => ?_)
  refine v_eqw (ws' := (ws0 ++ [(a, .inr (2, [.ref q1, .null, .null])), zAr kc q1 17, zAr kc q2 17])) (ap_sa rfl) ?_
  refine n_putF 17 C hI 0 (by rfl) rfl inGX2 tyX2 tyX2_ok nmX2 1 (by decide) rfl rfl lk_80 rfl rfl (Nat.le_of_ble_eq_true rfl) dX2_init_17 ?_
  refine v_eqw (ws' := (ws0 ++ [(a, .inr (2, [.ref q1, .ref q2, .null])), zAr kc q1 17, zAr kc q2 17])) rfl ?_
  refine v_aload_n 20 0 C dX2_init_20 rfl ?_
  refine v_bipush 21 C (iZ 17) dX2_init_21 (by decide) ?_
  refine n_newaz 23 C hA 17 (izn rfl) (by decide) ⟨Nat.le_of_ble_eq_true rfl, Nat.le_of_ble_eq_true rfl⟩ dX2_init_23 (fun q3 => ?_)
  refine v_eqw (ws' := (ws0 ++ [(a, .inr (2, [.ref q1, .ref q2, .null])), zAr kc q1 17, zAr kc q2 17, zBr kc q3 17])) (ap_sa rfl) ?_
  refine n_putF 25 C hI 0 (by rfl) rfl inGX2 tyX2 tyX2_ok nmX2 2 (by decide) rfl rfl lk_84 rfl rfl (Nat.le_of_ble_eq_true rfl) dX2_init_25 ?_
  refine v_eqw (ws' := (ws0 ++ [(a, .inr (2, [.ref q1, .ref q2, .ref q3])), zAr kc q1 17, zAr kc q2 17, zBr kc q3 17])) rfl ?_
  exact v_vret 28 C (⟨q1, q2, q3, rfl⟩) dX2_init_28

set_option maxHeartbeats 4000000 in
set_option maxRecDepth 100000 in
theorem i_Plane {l : Launch} {D : va_G} {kc : Nat → ClassId} (ws0 ws1 : va_W) (a t1 t2 t3 : Nat) {lf : Int32} (hz : narrow .boolean (.int lf) = .int lf) (hz2 : fits .boolean (.int lf) = true) : MetK l yX1_init cX1_init 5 (none) 1 0 0 24 D kc (ws0 ++ ((a, .inr (1, [.null, .null, .null, .int 0, .int 0])) :: ws1)) [.ref a, .ref t1, .ref t2, .ref t3, .int lf] (QV D kc (ws0 ++ ((a, .inr (1, [.null, .null, .null, .int 0, .int 0])) :: ws1)) (fun ws' => ws' = ws0 ++ (oPl a t1 t2 t3 lf :: ws1))) := by
  refine MetK.ofI (by decide +kernel) (Nat.le_of_ble_eq_true rfl) ?_
  intro p e s m below meth c C hI
  replace hI : meth.name = "<init>" := hI
  have hA : ∀ q, s.heap.size ≤ q → va_A (ws0 ++ ((a, .inr (1, [.null, .null, .null, .int 0, .int 0])) :: ws1)) s.heap.size q := fun _ h => Or.inr h
  show V p l e { frames := 1, cells := 0, slots := 0, locals := 24 } s m ([.ref a, .ref t1, .ref t2, .ref t3, .int lf] : List Value).toArray below meth c (MQ below (QV D kc (ws0 ++ ((a, .inr (1, [.null, .null, .null, .int 0, .int 0])) :: ws1)) (fun ws' => ws' = ws0 ++ (oPl a t1 t2 t3 lf :: ws1)) s.heap.size) ([.ref a, .ref t1, .ref t2, .ref t3, .int lf] : List Value).toArray s 0 0 (va_A (ws0 ++ ((a, .inr (1, [.null, .null, .null, .int 0, .int 0])) :: ws1)) s.heap.size)) D (va_A (ws0 ++ ((a, .inr (1, [.null, .null, .null, .int 0, .int 0])) :: ws1)) s.heap.size) 5 0 0 (ws0 ++ ((a, .inr (1, [.null, .null, .null, .int 0, .int 0])) :: ws1)) 0 [(0, .ref a), (1, .ref t1), (2, .ref t2), (3, .ref t3), (4, .int lf)] []
  refine v_aload_n 0 0 C dX1_init_0 rfl ?_
  refine n_obj 1 C lk_102 ⟨Nat.le_of_ble_eq_true rfl, Nat.le_of_ble_eq_true rfl⟩ dX1_init_1 ?_
  refine v_aload_n 4 0 C dX1_init_4 rfl ?_
  refine v_aload_n 5 1 C dX1_init_5 rfl ?_
  refine n_putF 6 C hI 0 (by rfl) rfl inGX1 tyX1 tyX1_ok nmX1 0 (by decide) rfl rfl lk_103 rfl rfl (Nat.le_of_ble_eq_true rfl) dX1_init_6 ?_
  refine v_eqw (ws' := (ws0 ++ ((a, .inr (1, [.ref t1, .null, .null, .int 0, .int 0])) :: ws1))) rfl ?_
  refine v_aload_n 9 0 C dX1_init_9 rfl ?_
  refine v_aload_n 10 2 C dX1_init_10 rfl ?_
  refine n_putF 11 C hI 0 (by rfl) rfl inGX1 tyX1 tyX1_ok nmX1 1 (by decide) rfl rfl lk_104 rfl rfl (Nat.le_of_ble_eq_true rfl) dX1_init_11 ?_
  refine v_eqw (ws' := (ws0 ++ ((a, .inr (1, [.ref t1, .ref t2, .null, .int 0, .int 0])) :: ws1))) rfl ?_
  refine v_aload_n 14 0 C dX1_init_14 rfl ?_
  refine v_aload_n 15 3 C dX1_init_15 rfl ?_
  refine n_putF 16 C hI 0 (by rfl) rfl inGX1 tyX1 tyX1_ok nmX1 2 (by decide) rfl rfl lk_106 rfl rfl (Nat.le_of_ble_eq_true rfl) dX1_init_16 ?_
  refine v_eqw (ws' := (ws0 ++ ((a, .inr (1, [.ref t1, .ref t2, .ref t3, .int 0, .int 0])) :: ws1))) rfl ?_
  refine v_aload_n 19 0 C dX1_init_19 rfl ?_
  refine v_iload 20 4 C dX1_init_20 rfl ?_
  refine n_putF 22 C hI 0 (by rfl) rfl inGX1 tyX1 tyX1_ok nmX1 3 (by decide) rfl rfl lk_107 (hz) (hz2) (Nat.le_of_ble_eq_true rfl) dX1_init_22 ?_
  refine v_eqw (ws' := (ws0 ++ ((a, .inr (1, [.ref t1, .ref t2, .ref t3, .int lf, .int 0])) :: ws1))) rfl ?_
  exact v_vret 25 C (rfl) dX1_init_25

set_option maxHeartbeats 4000000 in
set_option maxRecDepth 100000 in
theorem i_Part {l : Launch} {D : va_G} {kc : Nat → ClassId} (ws0 : va_W) (a : Nat) : MetK l yX0_init cX0_init 1 (none) 2 14 172 48 D kc (ws0 ++ [(a, .inr (0, [.null, .null, .null, .null, .null, .int 0, .int 0, .int 0, .int 0, .int 0, .int 0, .int 0]))]) [.ref a] (QV D kc (ws0 ++ [(a, .inr (0, [.null, .null, .null, .null, .null, .int 0, .int 0, .int 0, .int 0, .int 0, .int 0, .int 0]))]) (fun ws' => ∃ q : Nat → Nat, ws' = ws0 ++ ptW kc a q)) := by
  refine MetK.ofI (by decide +kernel) (Nat.le_of_ble_eq_true rfl) ?_
  intro p e s m below meth c C hI
  replace hI : meth.name = "<init>" := hI
  have hA : ∀ q, s.heap.size ≤ q → va_A (ws0 ++ [(a, .inr (0, [.null, .null, .null, .null, .null, .int 0, .int 0, .int 0, .int 0, .int 0, .int 0, .int 0]))]) s.heap.size q := fun _ h => Or.inr h
  show V p l e { frames := 2, cells := 14, slots := 172, locals := 48 } s m ([.ref a] : List Value).toArray below meth c (MQ below (QV D kc (ws0 ++ [(a, .inr (0, [.null, .null, .null, .null, .null, .int 0, .int 0, .int 0, .int 0, .int 0, .int 0, .int 0]))]) (fun ws' => ∃ q : Nat → Nat, ws' = ws0 ++ ptW kc a q) s.heap.size) ([.ref a] : List Value).toArray s 14 172 (va_A (ws0 ++ [(a, .inr (0, [.null, .null, .null, .null, .null, .int 0, .int 0, .int 0, .int 0, .int 0, .int 0, .int 0]))]) s.heap.size)) D (va_A (ws0 ++ [(a, .inr (0, [.null, .null, .null, .null, .null, .int 0, .int 0, .int 0, .int 0, .int 0, .int 0, .int 0]))]) s.heap.size) 1 0 0 (ws0 ++ [(a, .inr (0, [.null, .null, .null, .null, .null, .int 0, .int 0, .int 0, .int 0, .int 0, .int 0, .int 0]))]) 0 [(0, .ref a)] []
  refine v_aload_n 0 0 C dX0_init_0 rfl ?_
  refine n_obj 1 C lk_69 ⟨Nat.le_of_ble_eq_true rfl, Nat.le_of_ble_eq_true rfl⟩ dX0_init_1 ?_
  refine v_aload_n 4 0 C dX0_init_4 rfl ?_
  refine n_new 5 C hA (ci := 2) (fs := [.null, .null, .null]) rfl inGX2 tyX2 tyX2_ok lk_70 lk_71 lk_49 (ndX2) ⟨Nat.le_of_ble_eq_true rfl, Nat.le_of_ble_eq_true rfl⟩ dX0_init_5 (fun q1 => ?_)
  refine v_eqw (ws' := (ws0 ++ [(a, .inr (0, [.null, .null, .null, .null, .null, .int 0, .int 0, .int 0, .int 0, .int 0, .int 0, .int 0])), (q1, .inr (2, [.null, .null, .null]))])) (ap_sa rfl) ?_
  refine v_dup 8 C dX0_init_8 rfl ?_
  refine v_eqw (ws' := ((ws0 ++ [(a, .inr (0, [.null, .null, .null, .null, .null, .int 0, .int 0, .int 0, .int 0, .int 0, .int 0, .int 0]))]) ++ [nTr q1])) (ap_as rfl) ?_
  refine v_callv 9 hA (rIN 9 C LN_yX2_init C.2.2.2.2.2.1.2.2.2.1 rfl lk_73 (i_Track (ws0 ++ [(a, .inr (0, [.null, .null, .null, .null, .null, .int 0, .int 0, .int 0, .int 0, .int 0, .int 0, .int 0]))]) q1) rfl rfl (rm_ok rfl) dX0_init_9) (fun w_9 h_9 => ?_)
  obtain ⟨q2, q3, q4, rfl⟩ := h_9
  refine v_eqw (ws' := (ws0 ++ [(a, .inr (0, [.null, .null, .null, .null, .null, .int 0, .int 0, .int 0, .int 0, .int 0, .int 0, .int 0])), oTr q1 q2 q3 q4, zAr kc q2 17, zAr kc q3 17, zBr kc q4 17])) (ap_sa rfl) ?_
  refine n_putF 12 C hI 0 (by rfl) rfl inGX0 tyX0 tyX0_ok nmX0 0 (by decide) rfl rfl lk_122 rfl rfl (Nat.le_of_ble_eq_true rfl) dX0_init_12 ?_
  refine v_eqw (ws' := (ws0 ++ [(a, .inr (0, [.ref q1, .null, .null, .null, .null, .int 0, .int 0, .int 0, .int 0, .int 0, .int 0, .int 0])), oTr q1 q2 q3 q4, zAr kc q2 17, zAr kc q3 17, zBr kc q4 17])) rfl ?_
  refine v_aload_n 15 0 C dX0_init_15 rfl ?_
  refine n_new 16 C hA (ci := 2) (fs := [.null, .null, .null]) rfl inGX2 tyX2 tyX2_ok lk_70 lk_71 lk_49 (ndX2) ⟨Nat.le_of_ble_eq_true rfl, Nat.le_of_ble_eq_true rfl⟩ dX0_init_16 (fun q5 => ?_)
  refine v_eqw (ws' := (ws0 ++ [(a, .inr (0, [.ref q1, .null, .null, .null, .null, .int 0, .int 0, .int 0, .int 0, .int 0, .int 0, .int 0])), oTr q1 q2 q3 q4, zAr kc q2 17, zAr kc q3 17, zBr kc q4 17, (q5, .inr (2, [.null, .null, .null]))])) (ap_sa rfl) ?_
  refine v_dup 19 C dX0_init_19 rfl ?_
  refine v_eqw (ws' := ((ws0 ++ [(a, .inr (0, [.ref q1, .null, .null, .null, .null, .int 0, .int 0, .int 0, .int 0, .int 0, .int 0, .int 0])), oTr q1 q2 q3 q4, zAr kc q2 17, zAr kc q3 17, zBr kc q4 17]) ++ [nTr q5])) (ap_as rfl) ?_
  refine v_callv 20 hA (rIN 20 C LN_yX2_init C.2.2.2.2.2.1.2.2.2.1 rfl lk_73 (i_Track (ws0 ++ [(a, .inr (0, [.ref q1, .null, .null, .null, .null, .int 0, .int 0, .int 0, .int 0, .int 0, .int 0, .int 0])), oTr q1 q2 q3 q4, zAr kc q2 17, zAr kc q3 17, zBr kc q4 17]) q5) rfl rfl (rm_ok rfl) dX0_init_20) (fun w_20 h_20 => ?_)
  obtain ⟨q6, q7, q8, rfl⟩ := h_20
  refine v_eqw (ws' := (ws0 ++ [(a, .inr (0, [.ref q1, .null, .null, .null, .null, .int 0, .int 0, .int 0, .int 0, .int 0, .int 0, .int 0])), oTr q1 q2 q3 q4, zAr kc q2 17, zAr kc q3 17, zBr kc q4 17, oTr q5 q6 q7 q8, zAr kc q6 17, zAr kc q7 17, zBr kc q8 17])) (ap_sa rfl) ?_
  refine n_putF 23 C hI 0 (by rfl) rfl inGX0 tyX0 tyX0_ok nmX0 1 (by decide) rfl rfl lk_124 rfl rfl (Nat.le_of_ble_eq_true rfl) dX0_init_23 ?_
  refine v_eqw (ws' := (ws0 ++ [(a, .inr (0, [.ref q1, .ref q5, .null, .null, .null, .int 0, .int 0, .int 0, .int 0, .int 0, .int 0, .int 0])), oTr q1 q2 q3 q4, zAr kc q2 17, zAr kc q3 17, zBr kc q4 17, oTr q5 q6 q7 q8, zAr kc q6 17, zAr kc q7 17, zBr kc q8 17])) rfl ?_
  refine v_aload_n 26 0 C dX0_init_26 rfl ?_
  refine n_new 27 C hA (ci := 2) (fs := [.null, .null, .null]) rfl inGX2 tyX2 tyX2_ok lk_70 lk_71 lk_49 (ndX2) ⟨Nat.le_of_ble_eq_true rfl, Nat.le_of_ble_eq_true rfl⟩ dX0_init_27 (fun q9 => ?_)
  refine v_eqw (ws' := (ws0 ++ [(a, .inr (0, [.ref q1, .ref q5, .null, .null, .null, .int 0, .int 0, .int 0, .int 0, .int 0, .int 0, .int 0])), oTr q1 q2 q3 q4, zAr kc q2 17, zAr kc q3 17, zBr kc q4 17, oTr q5 q6 q7 q8, zAr kc q6 17, zAr kc q7 17, zBr kc q8 17, (q9, .inr (2, [.null, .null, .null]))])) (ap_sa rfl) ?_
  refine v_dup 30 C dX0_init_30 rfl ?_
  refine v_eqw (ws' := ((ws0 ++ [(a, .inr (0, [.ref q1, .ref q5, .null, .null, .null, .int 0, .int 0, .int 0, .int 0, .int 0, .int 0, .int 0])), oTr q1 q2 q3 q4, zAr kc q2 17, zAr kc q3 17, zBr kc q4 17, oTr q5 q6 q7 q8, zAr kc q6 17, zAr kc q7 17, zBr kc q8 17]) ++ [nTr q9])) (ap_as rfl) ?_
  refine v_callv 31 hA (rIN 31 C LN_yX2_init C.2.2.2.2.2.1.2.2.2.1 rfl lk_73 (i_Track (ws0 ++ [(a, .inr (0, [.ref q1, .ref q5, .null, .null, .null, .int 0, .int 0, .int 0, .int 0, .int 0, .int 0, .int 0])), oTr q1 q2 q3 q4, zAr kc q2 17, zAr kc q3 17, zBr kc q4 17, oTr q5 q6 q7 q8, zAr kc q6 17, zAr kc q7 17, zBr kc q8 17]) q9) rfl rfl (rm_ok rfl) dX0_init_31) (fun w_31 h_31 => ?_)
  obtain ⟨q10, q11, q12, rfl⟩ := h_31
  refine v_eqw (ws' := (ws0 ++ [(a, .inr (0, [.ref q1, .ref q5, .null, .null, .null, .int 0, .int 0, .int 0, .int 0, .int 0, .int 0, .int 0])), oTr q1 q2 q3 q4, zAr kc q2 17, zAr kc q3 17, zBr kc q4 17, oTr q5 q6 q7 q8, zAr kc q6 17, zAr kc q7 17, zBr kc q8 17, oTr q9 q10 q11 q12, zAr kc q10 17, zAr kc q11 17, zBr kc q12 17])) (ap_sa rfl) ?_
  refine n_putF 34 C hI 0 (by rfl) rfl inGX0 tyX0 tyX0_ok nmX0 2 (by decide) rfl rfl lk_126 rfl rfl (Nat.le_of_ble_eq_true rfl) dX0_init_34 ?_
  refine v_eqw (ws' := (ws0 ++ [(a, .inr (0, [.ref q1, .ref q5, .ref q9, .null, .null, .int 0, .int 0, .int 0, .int 0, .int 0, .int 0, .int 0])), oTr q1 q2 q3 q4, zAr kc q2 17, zAr kc q3 17, zBr kc q4 17, oTr q5 q6 q7 q8, zAr kc q6 17, zAr kc q7 17, zBr kc q8 17, oTr q9 q10 q11 q12, zAr kc q10 17, zAr kc q11 17, zBr kc q12 17])) rfl ?_
  refine v_aload_n 37 0 C dX0_init_37 rfl ?_
  refine n_new 38 C hA (ci := 1) (fs := [.null, .null, .null, .int 0, .int 0]) rfl inGX1 tyX1 tyX1_ok lk_97 lk_98 lk_50 (ndX1) ⟨Nat.le_of_ble_eq_true rfl, Nat.le_of_ble_eq_true rfl⟩ dX0_init_38 (fun q13 => ?_)
  refine v_eqw (ws' := (ws0 ++ [(a, .inr (0, [.ref q1, .ref q5, .ref q9, .null, .null, .int 0, .int 0, .int 0, .int 0, .int 0, .int 0, .int 0])), oTr q1 q2 q3 q4, zAr kc q2 17, zAr kc q3 17, zBr kc q4 17, oTr q5 q6 q7 q8, zAr kc q6 17, zAr kc q7 17, zBr kc q8 17, oTr q9 q10 q11 q12, zAr kc q10 17, zAr kc q11 17, zBr kc q12 17, (q13, .inr (1, [.null, .null, .null, .int 0, .int 0]))])) (ap_sa rfl) ?_
  refine v_dup 41 C dX0_init_41 rfl ?_
  refine v_aload_n 42 0 C dX0_init_42 rfl ?_
  refine n_get 43 C 0 (v := .ref q1) (by rfl) rfl inGX0 0 (by decide) lk_122 (by rfl) dX0_init_43 ?_
  refine v_aload_n 46 0 C dX0_init_46 rfl ?_
  refine n_get 47 C 0 (v := .ref q9) (by rfl) rfl inGX0 2 (by decide) lk_126 (by rfl) dX0_init_47 ?_
  refine v_aload_n 50 0 C dX0_init_50 rfl ?_
  refine n_get 51 C 0 (v := .ref q9) (by rfl) rfl inGX0 2 (by decide) lk_126 (by rfl) dX0_init_51 ?_
  refine v_iconst 54 C (iZ 0) dX0_init_54 rfl ?_
  refine v_eqw (ws' := ((ws0 ++ [(a, .inr (0, [.ref q1, .ref q5, .ref q9, .null, .null, .int 0, .int 0, .int 0, .int 0, .int 0, .int 0, .int 0])), oTr q1 q2 q3 q4, zAr kc q2 17, zAr kc q3 17, zBr kc q4 17, oTr q5 q6 q7 q8, zAr kc q6 17, zAr kc q7 17, zBr kc q8 17, oTr q9 q10 q11 q12, zAr kc q10 17, zAr kc q11 17, zBr kc q12 17]) ++ (nPl q13 :: []))) (ap_as rfl) ?_
  refine v_callv 55 hA (rI 55 C L_RX0_26 rfl lk_100 (i_Plane (ws0 ++ [(a, .inr (0, [.ref q1, .ref q5, .ref q9, .null, .null, .int 0, .int 0, .int 0, .int 0, .int 0, .int 0, .int 0])), oTr q1 q2 q3 q4, zAr kc q2 17, zAr kc q3 17, zBr kc q4 17, oTr q5 q6 q7 q8, zAr kc q6 17, zAr kc q7 17, zBr kc q8 17, oTr q9 q10 q11 q12, zAr kc q10 17, zAr kc q11 17, zBr kc q12 17]) [] q13 q1 q9 q9 rfl rfl) rfl rfl (rm_ok rfl) dX0_init_55) (fun w_55 h_55 => ?_)
  obtain rfl := h_55
  refine v_eqw (ws' := (ws0 ++ [(a, .inr (0, [.ref q1, .ref q5, .ref q9, .null, .null, .int 0, .int 0, .int 0, .int 0, .int 0, .int 0, .int 0])), oTr q1 q2 q3 q4, zAr kc q2 17, zAr kc q3 17, zBr kc q4 17, oTr q5 q6 q7 q8, zAr kc q6 17, zAr kc q7 17, zBr kc q8 17, oTr q9 q10 q11 q12, zAr kc q10 17, zAr kc q11 17, zBr kc q12 17, oPl q13 q1 q9 q9 (iZ 0)])) (ap_sa rfl) ?_
  refine n_putF 58 C hI 0 (by rfl) rfl inGX0 tyX0 tyX0_ok nmX0 3 (by decide) rfl rfl lk_128 rfl rfl (Nat.le_of_ble_eq_true rfl) dX0_init_58 ?_
  refine v_eqw (ws' := (ws0 ++ [(a, .inr (0, [.ref q1, .ref q5, .ref q9, .ref q13, .null, .int 0, .int 0, .int 0, .int 0, .int 0, .int 0, .int 0])), oTr q1 q2 q3 q4, zAr kc q2 17, zAr kc q3 17, zBr kc q4 17, oTr q5 q6 q7 q8, zAr kc q6 17, zAr kc q7 17, zBr kc q8 17, oTr q9 q10 q11 q12, zAr kc q10 17, zAr kc q11 17, zBr kc q12 17, oPl q13 q1 q9 q9 (iZ 0)])) rfl ?_
  refine v_aload_n 61 0 C dX0_init_61 rfl ?_
  refine n_new 62 C hA (ci := 1) (fs := [.null, .null, .null, .int 0, .int 0]) rfl inGX1 tyX1 tyX1_ok lk_97 lk_98 lk_50 (ndX1) ⟨Nat.le_of_ble_eq_true rfl, Nat.le_of_ble_eq_true rfl⟩ dX0_init_62 (fun q14 => ?_)
  refine v_eqw (ws' := (ws0 ++ [(a, .inr (0, [.ref q1, .ref q5, .ref q9, .ref q13, .null, .int 0, .int 0, .int 0, .int 0, .int 0, .int 0, .int 0])), oTr q1 q2 q3 q4, zAr kc q2 17, zAr kc q3 17, zBr kc q4 17, oTr q5 q6 q7 q8, zAr kc q6 17, zAr kc q7 17, zBr kc q8 17, oTr q9 q10 q11 q12, zAr kc q10 17, zAr kc q11 17, zBr kc q12 17, oPl q13 q1 q9 q9 (iZ 0), (q14, .inr (1, [.null, .null, .null, .int 0, .int 0]))])) (ap_sa rfl) ?_
  refine v_dup 65 C dX0_init_65 rfl ?_
  refine v_aload_n 66 0 C dX0_init_66 rfl ?_
  refine n_get 67 C 0 (v := .ref q5) (by rfl) rfl inGX0 1 (by decide) lk_124 (by rfl) dX0_init_67 ?_
  refine v_aload_n 70 0 C dX0_init_70 rfl ?_
  refine n_get 71 C 0 (v := .ref q9) (by rfl) rfl inGX0 2 (by decide) lk_126 (by rfl) dX0_init_71 ?_
  refine v_aload_n 74 0 C dX0_init_74 rfl ?_
  refine n_get 75 C 0 (v := .ref q9) (by rfl) rfl inGX0 2 (by decide) lk_126 (by rfl) dX0_init_75 ?_
  refine v_iconst 78 C (iZ 0) dX0_init_78 rfl ?_
  refine v_eqw (ws' := ((ws0 ++ [(a, .inr (0, [.ref q1, .ref q5, .ref q9, .ref q13, .null, .int 0, .int 0, .int 0, .int 0, .int 0, .int 0, .int 0])), oTr q1 q2 q3 q4, zAr kc q2 17, zAr kc q3 17, zBr kc q4 17, oTr q5 q6 q7 q8, zAr kc q6 17, zAr kc q7 17, zBr kc q8 17, oTr q9 q10 q11 q12, zAr kc q10 17, zAr kc q11 17, zBr kc q12 17, oPl q13 q1 q9 q9 (iZ 0)]) ++ (nPl q14 :: []))) (ap_as rfl) ?_
  refine v_callv 79 hA (rI 79 C L_RX0_26 rfl lk_100 (i_Plane (ws0 ++ [(a, .inr (0, [.ref q1, .ref q5, .ref q9, .ref q13, .null, .int 0, .int 0, .int 0, .int 0, .int 0, .int 0, .int 0])), oTr q1 q2 q3 q4, zAr kc q2 17, zAr kc q3 17, zBr kc q4 17, oTr q5 q6 q7 q8, zAr kc q6 17, zAr kc q7 17, zBr kc q8 17, oTr q9 q10 q11 q12, zAr kc q10 17, zAr kc q11 17, zBr kc q12 17, oPl q13 q1 q9 q9 (iZ 0)]) [] q14 q5 q9 q9 rfl rfl) rfl rfl (rm_ok rfl) dX0_init_79) (fun w_79 h_79 => ?_)
  obtain rfl := h_79
  refine v_eqw (ws' := (ws0 ++ [(a, .inr (0, [.ref q1, .ref q5, .ref q9, .ref q13, .null, .int 0, .int 0, .int 0, .int 0, .int 0, .int 0, .int 0])), oTr q1 q2 q3 q4, zAr kc q2 17, zAr kc q3 17, zBr kc q4 17, oTr q5 q6 q7 q8, zAr kc q6 17, zAr kc q7 17, zBr kc q8 17, oTr q9 q10 q11 q12, zAr kc q10 17, zAr kc q11 17, zBr kc q12 17, oPl q13 q1 q9 q9 (iZ 0), oPl q14 q5 q9 q9 (iZ 0)])) (ap_sa rfl) ?_
  refine n_putF 82 C hI 0 (by rfl) rfl inGX0 tyX0 tyX0_ok nmX0 4 (by decide) rfl rfl lk_130 rfl rfl (Nat.le_of_ble_eq_true rfl) dX0_init_82 ?_
  refine v_eqw (ws' := (ws0 ++ [(a, .inr (0, [.ref q1, .ref q5, .ref q9, .ref q13, .ref q14, .int 0, .int 0, .int 0, .int 0, .int 0, .int 0, .int 0])), oTr q1 q2 q3 q4, zAr kc q2 17, zAr kc q3 17, zBr kc q4 17, oTr q5 q6 q7 q8, zAr kc q6 17, zAr kc q7 17, zBr kc q8 17, oTr q9 q10 q11 q12, zAr kc q10 17, zAr kc q11 17, zBr kc q12 17, oPl q13 q1 q9 q9 (iZ 0), oPl q14 q5 q9 q9 (iZ 0)])) rfl ?_
  exact v_vret 85 C (⟨fun i => [a, q1, q2, q3, q4, q5, q6, q7, q8, q9, q10, q11, q12, q13, q14].getD i 0, rfl⟩) dX0_init_85

