set_option maxHeartbeats 4000000 in
set_option maxRecDepth 100000 in
theorem i_Page {l : Launch} {D : va_G} {kc : Nat → ClassId} (a tX tY sz : Nat) : Met l yX3_init (Cond.code yX3_init cX3_init 5 none :: wsG) { frames := 5, cells := 44, slots := 617, locals := 126 } (va_Pc [.ref a] (fun U => Kpre D kc [(a, .inr (3, [.null, .null, .null, .null, .null, .int 0, .int 0, .int 0]))] sz U ∧ WX tX tY (va_A [(a, .inr (3, [.null, .null, .null, .null, .null, .int 0, .int 0, .int 0]))] sz) U U.heap)) (QV D kc [(a, .inr (3, [.null, .null, .null, .null, .null, .int 0, .int 0, .int 0]))] (fun ws' => ∃ (ad : Nat → Nat) (S : St), ws' = wl kc 45 ad S ∧ ad 0 = a ∧ RC S bZ tZ ∧ RZ S) sz) 44 617 (va_A [(a, .inr (3, [.null, .null, .null, .null, .null, .int 0, .int 0, .int 0]))] sz) := by
  refine MetX.of (X := fun sz U => WX tX tY (va_A [(a, .inr (3, [.null, .null, .null, .null, .null, .int 0, .int 0, .int 0]))] sz) U U.heap) (Qc := fun sz => QV D kc [(a, .inr (3, [.null, .null, .null, .null, .null, .int 0, .int 0, .int 0]))] (fun ws' => ∃ (ad : Nat → Nat) (S : St), ws' = wl kc 45 ad S ∧ ad 0 = a ∧ RC S bZ tZ ∧ RZ S) sz) (by decide +kernel) (Nat.le_of_ble_eq_true rfl) ?_ sz
  intro p e s m below meth c C hI hX
  replace hI : meth.name = "<init>" := hI
  have hOP := hX.1.1
  have hOL := hX.1.2
  have hA : ∀ q, s.heap.size ≤ q → va_A [(a, .inr (3, [.null, .null, .null, .null, .null, .int 0, .int 0, .int 0]))] s.heap.size q := fun _ h => Or.inr h
  show V p l e { frames := 5, cells := 44, slots := 617, locals := 126 } s m ([.ref a] : List Value).toArray below meth c (MQ below (QV D kc [(a, .inr (3, [.null, .null, .null, .null, .null, .int 0, .int 0, .int 0]))] (fun ws' => ∃ (ad : Nat → Nat) (S : St), ws' = wl kc 45 ad S ∧ ad 0 = a ∧ RC S bZ tZ ∧ RZ S) s.heap.size) ([.ref a] : List Value).toArray s 44 617 (va_A [(a, .inr (3, [.null, .null, .null, .null, .null, .int 0, .int 0, .int 0]))] s.heap.size)) D (va_A [(a, .inr (3, [.null, .null, .null, .null, .null, .int 0, .int 0, .int 0]))] s.heap.size) 5 0 0 [(a, .inr (3, [.null, .null, .null, .null, .null, .int 0, .int 0, .int 0]))] 0 [(0, .ref a)] []
  refine v_eqw (ws' := (([] : va_W) ++ [(a, .inr (3, [.null, .null, .null, .null, .null, .int 0, .int 0, .int 0]))])) rfl ?_
  refine v_aload_n 0 0 C dX3_init_0 rfl ?_
  refine n_obj 1 C lk_58 ⟨Nat.le_of_ble_eq_true rfl, Nat.le_of_ble_eq_true rfl⟩ dX3_init_1 ?_
  refine v_aload_n 4 0 C dX3_init_4 rfl ?_
  refine v_bipush 5 C (iZ 30) dX3_init_5 (by decide) ?_
  refine n_newqP 7 C hA hOP 30 (izn rfl) (by decide) lk_61 ⟨Nat.le_of_ble_eq_true rfl, Nat.le_of_ble_eq_true rfl⟩ dX3_init_7 (fun q1 => ?_)
  refine v_eqw (ws' := (([] : va_W) ++ [(a, .inr (3, [.null, .null, .null, .null, .null, .int 0, .int 0, .int 0])), (q1, .inl (kc 3, 30, .inr (.inr (.inr (.inr (fun _ => none))))))])) (ap_sa rfl) ?_
  refine n_putF 10 C hI 0 (by rfl) rfl inGX3 tyX3 tyX3_ok nmX3 0 (by decide) rfl rfl lk_209 rfl rfl (Nat.le_of_ble_eq_true rfl) dX3_init_10 ?_
  refine v_eqw (ws' := (([] : va_W) ++ [(a, .inr (3, [.ref q1, .null, .null, .null, .null, .int 0, .int 0, .int 0])), (q1, .inl (kc 3, 30, .inr (.inr (.inr (.inr (fun _ => none))))))])) rfl ?_
  refine v_aload_n 13 0 C dX3_init_13 rfl ?_
  refine v_bipush 14 C (iZ 62) dX3_init_14 (by decide) ?_
  refine n_newqL 16 C hA hOL 62 (izn rfl) (by decide) lk_63 ⟨Nat.le_of_ble_eq_true rfl, Nat.le_of_ble_eq_true rfl⟩ dX3_init_16 (fun q2 => ?_)
  refine v_eqw (ws' := (([] : va_W) ++ [(a, .inr (3, [.ref q1, .null, .null, .null, .null, .int 0, .int 0, .int 0])), (q1, .inl (kc 3, 30, .inr (.inr (.inr (.inr (fun _ => none)))))), (q2, .inl (kc 4, 62, .inr (.inr (.inr (.inr (fun _ => none))))))])) (ap_sa rfl) ?_
  refine n_putF 19 C hI 0 (by rfl) rfl inGX3 tyX3 tyX3_ok nmX3 1 (by decide) rfl rfl lk_210 rfl rfl (Nat.le_of_ble_eq_true rfl) dX3_init_19 ?_
  refine v_eqw (ws' := (([] : va_W) ++ [(a, .inr (3, [.ref q1, .ref q2, .null, .null, .null, .int 0, .int 0, .int 0])), (q1, .inl (kc 3, 30, .inr (.inr (.inr (.inr (fun _ => none)))))), (q2, .inl (kc 4, 62, .inr (.inr (.inr (.inr (fun _ => none))))))])) rfl ?_
  refine v_aload_n 22 0 C dX3_init_22 rfl ?_
  refine v_bipush 23 C (iZ 7) dX3_init_23 (by decide) ?_
  refine n_newai 25 C hA 7 (izn rfl) (by decide) ⟨Nat.le_of_ble_eq_true rfl, Nat.le_of_ble_eq_true rfl⟩ dX3_init_25 (fun q3 => ?_)
  refine v_eqw (ws' := (([] : va_W) ++ [(a, .inr (3, [.ref q1, .ref q2, .null, .null, .null, .int 0, .int 0, .int 0])), (q1, .inl (kc 3, 30, .inr (.inr (.inr (.inr (fun _ => none)))))), (q2, .inl (kc 4, 62, .inr (.inr (.inr (.inr (fun _ => none)))))), zAr kc q3 7])) (ap_sa rfl) ?_
  refine n_putF 27 C hI 0 (by rfl) rfl inGX3 tyX3 tyX3_ok nmX3 2 (by decide) rfl rfl lk_211 rfl rfl (Nat.le_of_ble_eq_true rfl) dX3_init_27 ?_
  refine v_eqw (ws' := (([] : va_W) ++ [(a, .inr (3, [.ref q1, .ref q2, .ref q3, .null, .null, .int 0, .int 0, .int 0])), (q1, .inl (kc 3, 30, .inr (.inr (.inr (.inr (fun _ => none)))))), (q2, .inl (kc 4, 62, .inr (.inr (.inr (.inr (fun _ => none)))))), zAr kc q3 7])) rfl ?_
  refine v_aload_n 30 0 C dX3_init_30 rfl ?_
  refine n_new 31 C hA (ci := 0) (fs := [.null, .null, .null, .null, .null, .int 0, .int 0, .int 0, .int 0, .int 0, .int 0, .int 0]) rfl inGX0 tyX0 tyX0_ok lk_61 lk_65 lk_48 (ndX0) ⟨Nat.le_of_ble_eq_true rfl, Nat.le_of_ble_eq_true rfl⟩ dX3_init_31 (fun q4 => ?_)
  refine v_eqw (ws' := (([] : va_W) ++ [(a, .inr (3, [.ref q1, .ref q2, .ref q3, .null, .null, .int 0, .int 0, .int 0])), (q1, .inl (kc 3, 30, .inr (.inr (.inr (.inr (fun _ => none)))))), (q2, .inl (kc 4, 62, .inr (.inr (.inr (.inr (fun _ => none)))))), zAr kc q3 7, (q4, .inr (0, [.null, .null, .null, .null, .null, .int 0, .int 0, .int 0, .int 0, .int 0, .int 0, .int 0]))])) (ap_sa rfl) ?_
  refine v_dup 34 C dX3_init_34 rfl ?_
  refine v_eqw (ws' := ((([] : va_W) ++ [(a, .inr (3, [.ref q1, .ref q2, .ref q3, .null, .null, .int 0, .int 0, .int 0])), (q1, .inl (kc 3, 30, .inr (.inr (.inr (.inr (fun _ => none)))))), (q2, .inl (kc 4, 62, .inr (.inr (.inr (.inr (fun _ => none)))))), zAr kc q3 7]) ++ [nPt q4])) (ap_as rfl) ?_
  refine v_callv 35 hA (rIN 35 C LN_yX0_init C.2.2.2.2.2.1.2.1 rfl lk_67 (i_Part (([] : va_W) ++ [(a, .inr (3, [.ref q1, .ref q2, .ref q3, .null, .null, .int 0, .int 0, .int 0])), (q1, .inl (kc 3, 30, .inr (.inr (.inr (.inr (fun _ => none)))))), (q2, .inl (kc 4, 62, .inr (.inr (.inr (.inr (fun _ => none)))))), zAr kc q3 7]) q4) rfl rfl (rm_ok rfl) dX3_init_35) (fun w_35 h_35 => ?_)
  obtain ⟨g4, rfl⟩ := h_35
  refine v_eqw (ws' := (([] : va_W) ++ [(a, .inr (3, [.ref q1, .ref q2, .ref q3, .null, .null, .int 0, .int 0, .int 0])), (q1, .inl (kc 3, 30, .inr (.inr (.inr (.inr (fun _ => none)))))), (q2, .inl (kc 4, 62, .inr (.inr (.inr (.inr (fun _ => none)))))), zAr kc q3 7, oPt q4 (g4 1) (g4 5) (g4 9) (g4 13) (g4 14), oTr (g4 1) (g4 2) (g4 3) (g4 4), zAr kc (g4 2) 17, zAr kc (g4 3) 17, zBr kc (g4 4) 17, oTr (g4 5) (g4 6) (g4 7) (g4 8), zAr kc (g4 6) 17, zAr kc (g4 7) 17, zBr kc (g4 8) 17, oTr (g4 9) (g4 10) (g4 11) (g4 12), zAr kc (g4 10) 17, zAr kc (g4 11) 17, zBr kc (g4 12) 17, oPl (g4 13) (g4 1) (g4 9) (g4 9) 0, oPl (g4 14) (g4 5) (g4 9) (g4 9) 0])) (ap_sa rfl) ?_
  refine n_putF 38 C hI 0 (by rfl) rfl inGX3 tyX3 tyX3_ok nmX3 3 (by decide) rfl rfl lk_212 rfl rfl (Nat.le_of_ble_eq_true rfl) dX3_init_38 ?_
  refine v_eqw (ws' := (([] : va_W) ++ [(a, .inr (3, [.ref q1, .ref q2, .ref q3, .ref q4, .null, .int 0, .int 0, .int 0])), (q1, .inl (kc 3, 30, .inr (.inr (.inr (.inr (fun _ => none)))))), (q2, .inl (kc 4, 62, .inr (.inr (.inr (.inr (fun _ => none)))))), zAr kc q3 7, oPt q4 (g4 1) (g4 5) (g4 9) (g4 13) (g4 14), oTr (g4 1) (g4 2) (g4 3) (g4 4), zAr kc (g4 2) 17, zAr kc (g4 3) 17, zBr kc (g4 4) 17, oTr (g4 5) (g4 6) (g4 7) (g4 8), zAr kc (g4 6) 17, zAr kc (g4 7) 17, zBr kc (g4 8) 17, oTr (g4 9) (g4 10) (g4 11) (g4 12), zAr kc (g4 10) 17, zAr kc (g4 11) 17, zBr kc (g4 12) 17, oPl (g4 13) (g4 1) (g4 9) (g4 9) 0, oPl (g4 14) (g4 5) (g4 9) (g4 9) 0])) rfl ?_
  refine v_aload_n 41 0 C dX3_init_41 rfl ?_
  refine n_new 42 C hA (ci := 2) (fs := [.null, .null, .null]) rfl inGX2 tyX2 tyX2_ok lk_170 lk_71 lk_49 (ndX2) ⟨Nat.le_of_ble_eq_true rfl, Nat.le_of_ble_eq_true rfl⟩ dX3_init_42 (fun q19 => ?_)
  refine v_eqw (ws' := (([] : va_W) ++ [(a, .inr (3, [.ref q1, .ref q2, .ref q3, .ref q4, .null, .int 0, .int 0, .int 0])), (q1, .inl (kc 3, 30, .inr (.inr (.inr (.inr (fun _ => none)))))), (q2, .inl (kc 4, 62, .inr (.inr (.inr (.inr (fun _ => none)))))), zAr kc q3 7, oPt q4 (g4 1) (g4 5) (g4 9) (g4 13) (g4 14), oTr (g4 1) (g4 2) (g4 3) (g4 4), zAr kc (g4 2) 17, zAr kc (g4 3) 17, zBr kc (g4 4) 17, oTr (g4 5) (g4 6) (g4 7) (g4 8), zAr kc (g4 6) 17, zAr kc (g4 7) 17, zBr kc (g4 8) 17, oTr (g4 9) (g4 10) (g4 11) (g4 12), zAr kc (g4 10) 17, zAr kc (g4 11) 17, zBr kc (g4 12) 17, oPl (g4 13) (g4 1) (g4 9) (g4 9) 0, oPl (g4 14) (g4 5) (g4 9) (g4 9) 0, (q19, .inr (2, [.null, .null, .null]))])) (ap_sa rfl) ?_
  refine v_dup 45 C dX3_init_45 rfl ?_
  refine v_eqw (ws' := ((([] : va_W) ++ [(a, .inr (3, [.ref q1, .ref q2, .ref q3, .ref q4, .null, .int 0, .int 0, .int 0])), (q1, .inl (kc 3, 30, .inr (.inr (.inr (.inr (fun _ => none)))))), (q2, .inl (kc 4, 62, .inr (.inr (.inr (.inr (fun _ => none)))))), zAr kc q3 7, oPt q4 (g4 1) (g4 5) (g4 9) (g4 13) (g4 14), oTr (g4 1) (g4 2) (g4 3) (g4 4), zAr kc (g4 2) 17, zAr kc (g4 3) 17, zBr kc (g4 4) 17, oTr (g4 5) (g4 6) (g4 7) (g4 8), zAr kc (g4 6) 17, zAr kc (g4 7) 17, zBr kc (g4 8) 17, oTr (g4 9) (g4 10) (g4 11) (g4 12), zAr kc (g4 10) 17, zAr kc (g4 11) 17, zBr kc (g4 12) 17, oPl (g4 13) (g4 1) (g4 9) (g4 9) 0, oPl (g4 14) (g4 5) (g4 9) (g4 9) 0]) ++ [nTr q19])) (ap_as rfl) ?_
  refine v_callv 46 hA (rIN 46 C LN_yX2_init C.2.2.2.2.2.1.2.2.1 rfl lk_73 (i_Track (([] : va_W) ++ [(a, .inr (3, [.ref q1, .ref q2, .ref q3, .ref q4, .null, .int 0, .int 0, .int 0])), (q1, .inl (kc 3, 30, .inr (.inr (.inr (.inr (fun _ => none)))))), (q2, .inl (kc 4, 62, .inr (.inr (.inr (.inr (fun _ => none)))))), zAr kc q3 7, oPt q4 (g4 1) (g4 5) (g4 9) (g4 13) (g4 14), oTr (g4 1) (g4 2) (g4 3) (g4 4), zAr kc (g4 2) 17, zAr kc (g4 3) 17, zBr kc (g4 4) 17, oTr (g4 5) (g4 6) (g4 7) (g4 8), zAr kc (g4 6) 17, zAr kc (g4 7) 17, zBr kc (g4 8) 17, oTr (g4 9) (g4 10) (g4 11) (g4 12), zAr kc (g4 10) 17, zAr kc (g4 11) 17, zBr kc (g4 12) 17, oPl (g4 13) (g4 1) (g4 9) (g4 9) 0, oPl (g4 14) (g4 5) (g4 9) (g4 9) 0]) q19) rfl rfl (rm_ok rfl) dX3_init_46) (fun w_46 h_46 => ?_)
  obtain ⟨q20, q21, q22, rfl⟩ := h_46
  refine v_eqw (ws' := (([] : va_W) ++ [(a, .inr (3, [.ref q1, .ref q2, .ref q3, .ref q4, .null, .int 0, .int 0, .int 0])), (q1, .inl (kc 3, 30, .inr (.inr (.inr (.inr (fun _ => none)))))), (q2, .inl (kc 4, 62, .inr (.inr (.inr (.inr (fun _ => none)))))), zAr kc q3 7, oPt q4 (g4 1) (g4 5) (g4 9) (g4 13) (g4 14), oTr (g4 1) (g4 2) (g4 3) (g4 4), zAr kc (g4 2) 17, zAr kc (g4 3) 17, zBr kc (g4 4) 17, oTr (g4 5) (g4 6) (g4 7) (g4 8), zAr kc (g4 6) 17, zAr kc (g4 7) 17, zBr kc (g4 8) 17, oTr (g4 9) (g4 10) (g4 11) (g4 12), zAr kc (g4 10) 17, zAr kc (g4 11) 17, zBr kc (g4 12) 17, oPl (g4 13) (g4 1) (g4 9) (g4 9) 0, oPl (g4 14) (g4 5) (g4 9) (g4 9) 0, oTr q19 q20 q21 q22, zAr kc q20 17, zAr kc q21 17, zBr kc q22 17])) (ap_sa rfl) ?_
  refine n_putF 49 C hI 0 (by rfl) rfl inGX3 tyX3 tyX3_ok nmX3 4 (by decide) rfl rfl lk_213 rfl rfl (Nat.le_of_ble_eq_true rfl) dX3_init_49 ?_
  refine v_eqw (ws' := (([] : va_W) ++ [(a, .inr (3, [.ref q1, .ref q2, .ref q3, .ref q4, .ref q19, .int 0, .int 0, .int 0])), (q1, .inl (kc 3, 30, .inr (.inr (.inr (.inr (fun _ => none)))))), (q2, .inl (kc 4, 62, .inr (.inr (.inr (.inr (fun _ => none)))))), zAr kc q3 7, oPt q4 (g4 1) (g4 5) (g4 9) (g4 13) (g4 14), oTr (g4 1) (g4 2) (g4 3) (g4 4), zAr kc (g4 2) 17, zAr kc (g4 3) 17, zBr kc (g4 4) 17, oTr (g4 5) (g4 6) (g4 7) (g4 8), zAr kc (g4 6) 17, zAr kc (g4 7) 17, zBr kc (g4 8) 17, oTr (g4 9) (g4 10) (g4 11) (g4 12), zAr kc (g4 10) 17, zAr kc (g4 11) 17, zBr kc (g4 12) 17, oPl (g4 13) (g4 1) (g4 9) (g4 9) 0, oPl (g4 14) (g4 5) (g4 9) (g4 9) 0, oTr q19 q20 q21 q22, zAr kc q20 17, zAr kc q21 17, zBr kc q22 17])) rfl ?_
  refine n_new 52 C hA (ci := 2) (fs := [.null, .null, .null]) rfl inGX2 tyX2 tyX2_ok lk_170 lk_71 lk_49 (ndX2) ⟨Nat.le_of_ble_eq_true rfl, Nat.le_of_ble_eq_true rfl⟩ dX3_init_52 (fun q23 => ?_)
  refine v_eqw (ws' := (([] : va_W) ++ [(a, .inr (3, [.ref q1, .ref q2, .ref q3, .ref q4, .ref q19, .int 0, .int 0, .int 0])), (q1, .inl (kc 3, 30, .inr (.inr (.inr (.inr (fun _ => none)))))), (q2, .inl (kc 4, 62, .inr (.inr (.inr (.inr (fun _ => none)))))), zAr kc q3 7, oPt q4 (g4 1) (g4 5) (g4 9) (g4 13) (g4 14), oTr (g4 1) (g4 2) (g4 3) (g4 4), zAr kc (g4 2) 17, zAr kc (g4 3) 17, zBr kc (g4 4) 17, oTr (g4 5) (g4 6) (g4 7) (g4 8), zAr kc (g4 6) 17, zAr kc (g4 7) 17, zBr kc (g4 8) 17, oTr (g4 9) (g4 10) (g4 11) (g4 12), zAr kc (g4 10) 17, zAr kc (g4 11) 17, zBr kc (g4 12) 17, oPl (g4 13) (g4 1) (g4 9) (g4 9) 0, oPl (g4 14) (g4 5) (g4 9) (g4 9) 0, oTr q19 q20 q21 q22, zAr kc q20 17, zAr kc q21 17, zBr kc q22 17, (q23, .inr (2, [.null, .null, .null]))])) (ap_sa rfl) ?_
  refine v_dup 55 C dX3_init_55 rfl ?_
  refine v_eqw (ws' := ((([] : va_W) ++ [(a, .inr (3, [.ref q1, .ref q2, .ref q3, .ref q4, .ref q19, .int 0, .int 0, .int 0])), (q1, .inl (kc 3, 30, .inr (.inr (.inr (.inr (fun _ => none)))))), (q2, .inl (kc 4, 62, .inr (.inr (.inr (.inr (fun _ => none)))))), zAr kc q3 7, oPt q4 (g4 1) (g4 5) (g4 9) (g4 13) (g4 14), oTr (g4 1) (g4 2) (g4 3) (g4 4), zAr kc (g4 2) 17, zAr kc (g4 3) 17, zBr kc (g4 4) 17, oTr (g4 5) (g4 6) (g4 7) (g4 8), zAr kc (g4 6) 17, zAr kc (g4 7) 17, zBr kc (g4 8) 17, oTr (g4 9) (g4 10) (g4 11) (g4 12), zAr kc (g4 10) 17, zAr kc (g4 11) 17, zBr kc (g4 12) 17, oPl (g4 13) (g4 1) (g4 9) (g4 9) 0, oPl (g4 14) (g4 5) (g4 9) (g4 9) 0, oTr q19 q20 q21 q22, zAr kc q20 17, zAr kc q21 17, zBr kc q22 17]) ++ [nTr q23])) (ap_as rfl) ?_
  refine v_callv 56 hA (rIN 56 C LN_yX2_init C.2.2.2.2.2.1.2.2.1 rfl lk_73 (i_Track (([] : va_W) ++ [(a, .inr (3, [.ref q1, .ref q2, .ref q3, .ref q4, .ref q19, .int 0, .int 0, .int 0])), (q1, .inl (kc 3, 30, .inr (.inr (.inr (.inr (fun _ => none)))))), (q2, .inl (kc 4, 62, .inr (.inr (.inr (.inr (fun _ => none)))))), zAr kc q3 7, oPt q4 (g4 1) (g4 5) (g4 9) (g4 13) (g4 14), oTr (g4 1) (g4 2) (g4 3) (g4 4), zAr kc (g4 2) 17, zAr kc (g4 3) 17, zBr kc (g4 4) 17, oTr (g4 5) (g4 6) (g4 7) (g4 8), zAr kc (g4 6) 17, zAr kc (g4 7) 17, zBr kc (g4 8) 17, oTr (g4 9) (g4 10) (g4 11) (g4 12), zAr kc (g4 10) 17, zAr kc (g4 11) 17, zBr kc (g4 12) 17, oPl (g4 13) (g4 1) (g4 9) (g4 9) 0, oPl (g4 14) (g4 5) (g4 9) (g4 9) 0, oTr q19 q20 q21 q22, zAr kc q20 17, zAr kc q21 17, zBr kc q22 17]) q23) rfl rfl (rm_ok rfl) dX3_init_56) (fun w_56 h_56 => ?_)
  obtain ⟨q24, q25, q26, rfl⟩ := h_56
  refine v_eqw (ws' := (([] : va_W) ++ [(a, .inr (3, [.ref q1, .ref q2, .ref q3, .ref q4, .ref q19, .int 0, .int 0, .int 0])), (q1, .inl (kc 3, 30, .inr (.inr (.inr (.inr (fun _ => none)))))), (q2, .inl (kc 4, 62, .inr (.inr (.inr (.inr (fun _ => none)))))), zAr kc q3 7, oPt q4 (g4 1) (g4 5) (g4 9) (g4 13) (g4 14), oTr (g4 1) (g4 2) (g4 3) (g4 4), zAr kc (g4 2) 17, zAr kc (g4 3) 17, zBr kc (g4 4) 17, oTr (g4 5) (g4 6) (g4 7) (g4 8), zAr kc (g4 6) 17, zAr kc (g4 7) 17, zBr kc (g4 8) 17, oTr (g4 9) (g4 10) (g4 11) (g4 12), zAr kc (g4 10) 17, zAr kc (g4 11) 17, zBr kc (g4 12) 17, oPl (g4 13) (g4 1) (g4 9) (g4 9) 0, oPl (g4 14) (g4 5) (g4 9) (g4 9) 0, oTr q19 q20 q21 q22, zAr kc q20 17, zAr kc q21 17, zBr kc q22 17, oTr q23 q24 q25 q26, zAr kc q24 17, zAr kc q25 17, zBr kc q26 17])) (ap_sa rfl) ?_
  refine v_astore_n 59 [(1, .ref q23), (0, .ref a)] C dX3_init_59 (by decide) rfl ?_
  refine n_new 60 C hA (ci := 2) (fs := [.null, .null, .null]) rfl inGX2 tyX2 tyX2_ok lk_170 lk_71 lk_49 (ndX2) ⟨Nat.le_of_ble_eq_true rfl, Nat.le_of_ble_eq_true rfl⟩ dX3_init_60 (fun q27 => ?_)
  refine v_eqw (ws' := (([] : va_W) ++ [(a, .inr (3, [.ref q1, .ref q2, .ref q3, .ref q4, .ref q19, .int 0, .int 0, .int 0])), (q1, .inl (kc 3, 30, .inr (.inr (.inr (.inr (fun _ => none)))))), (q2, .inl (kc 4, 62, .inr (.inr (.inr (.inr (fun _ => none)))))), zAr kc q3 7, oPt q4 (g4 1) (g4 5) (g4 9) (g4 13) (g4 14), oTr (g4 1) (g4 2) (g4 3) (g4 4), zAr kc (g4 2) 17, zAr kc (g4 3) 17, zBr kc (g4 4) 17, oTr (g4 5) (g4 6) (g4 7) (g4 8), zAr kc (g4 6) 17, zAr kc (g4 7) 17, zBr kc (g4 8) 17, oTr (g4 9) (g4 10) (g4 11) (g4 12), zAr kc (g4 10) 17, zAr kc (g4 11) 17, zBr kc (g4 12) 17, oPl (g4 13) (g4 1) (g4 9) (g4 9) 0, oPl (g4 14) (g4 5) (g4 9) (g4 9) 0, oTr q19 q20 q21 q22, zAr kc q20 17, zAr kc q21 17, zBr kc q22 17, oTr q23 q24 q25 q26, zAr kc q24 17, zAr kc q25 17, zBr kc q26 17, (q27, .inr (2, [.null, .null, .null]))])) (ap_sa rfl) ?_
  refine v_dup 63 C dX3_init_63 rfl ?_
  refine v_eqw (ws' := ((([] : va_W) ++ [(a, .inr (3, [.ref q1, .ref q2, .ref q3, .ref q4, .ref q19, .int 0, .int 0, .int 0])), (q1, .inl (kc 3, 30, .inr (.inr (.inr (.inr (fun _ => none)))))), (q2, .inl (kc 4, 62, .inr (.inr (.inr (.inr (fun _ => none)))))), zAr kc q3 7, oPt q4 (g4 1) (g4 5) (g4 9) (g4 13) (g4 14), oTr (g4 1) (g4 2) (g4 3) (g4 4), zAr kc (g4 2) 17, zAr kc (g4 3) 17, zBr kc (g4 4) 17, oTr (g4 5) (g4 6) (g4 7) (g4 8), zAr kc (g4 6) 17, zAr kc (g4 7) 17, zBr kc (g4 8) 17, oTr (g4 9) (g4 10) (g4 11) (g4 12), zAr kc (g4 10) 17, zAr kc (g4 11) 17, zBr kc (g4 12) 17, oPl (g4 13) (g4 1) (g4 9) (g4 9) 0, oPl (g4 14) (g4 5) (g4 9) (g4 9) 0, oTr q19 q20 q21 q22, zAr kc q20 17, zAr kc q21 17, zBr kc q22 17, oTr q23 q24 q25 q26, zAr kc q24 17, zAr kc q25 17, zBr kc q26 17]) ++ [nTr q27])) (ap_as rfl) ?_
  refine v_callv 64 hA (rIN 64 C LN_yX2_init C.2.2.2.2.2.1.2.2.1 rfl lk_73 (i_Track (([] : va_W) ++ [(a, .inr (3, [.ref q1, .ref q2, .ref q3, .ref q4, .ref q19, .int 0, .int 0, .int 0])), (q1, .inl (kc 3, 30, .inr (.inr (.inr (.inr (fun _ => none)))))), (q2, .inl (kc 4, 62, .inr (.inr (.inr (.inr (fun _ => none)))))), zAr kc q3 7, oPt q4 (g4 1) (g4 5) (g4 9) (g4 13) (g4 14), oTr (g4 1) (g4 2) (g4 3) (g4 4), zAr kc (g4 2) 17, zAr kc (g4 3) 17, zBr kc (g4 4) 17, oTr (g4 5) (g4 6) (g4 7) (g4 8), zAr kc (g4 6) 17, zAr kc (g4 7) 17, zBr kc (g4 8) 17, oTr (g4 9) (g4 10) (g4 11) (g4 12), zAr kc (g4 10) 17, zAr kc (g4 11) 17, zBr kc (g4 12) 17, oPl (g4 13) (g4 1) (g4 9) (g4 9) 0, oPl (g4 14) (g4 5) (g4 9) (g4 9) 0, oTr q19 q20 q21 q22, zAr kc q20 17, zAr kc q21 17, zBr kc q22 17, oTr q23 q24 q25 q26, zAr kc q24 17, zAr kc q25 17, zBr kc q26 17]) q27) rfl rfl (rm_ok rfl) dX3_init_64) (fun w_64 h_64 => ?_)
  obtain ⟨q28, q29, q30, rfl⟩ := h_64
  refine v_eqw (ws' := (([] : va_W) ++ [(a, .inr (3, [.ref q1, .ref q2, .ref q3, .ref q4, .ref q19, .int 0, .int 0, .int 0])), (q1, .inl (kc 3, 30, .inr (.inr (.inr (.inr (fun _ => none)))))), (q2, .inl (kc 4, 62, .inr (.inr (.inr (.inr (fun _ => none)))))), zAr kc q3 7, oPt q4 (g4 1) (g4 5) (g4 9) (g4 13) (g4 14), oTr (g4 1) (g4 2) (g4 3) (g4 4), zAr kc (g4 2) 17, zAr kc (g4 3) 17, zBr kc (g4 4) 17, oTr (g4 5) (g4 6) (g4 7) (g4 8), zAr kc (g4 6) 17, zAr kc (g4 7) 17, zBr kc (g4 8) 17, oTr (g4 9) (g4 10) (g4 11) (g4 12), zAr kc (g4 10) 17, zAr kc (g4 11) 17, zBr kc (g4 12) 17, oPl (g4 13) (g4 1) (g4 9) (g4 9) 0, oPl (g4 14) (g4 5) (g4 9) (g4 9) 0, oTr q19 q20 q21 q22, zAr kc q20 17, zAr kc q21 17, zBr kc q22 17, oTr q23 q24 q25 q26, zAr kc q24 17, zAr kc q25 17, zBr kc q26 17, oTr q27 q28 q29 q30, zAr kc q28 17, zAr kc q29 17, zBr kc q30 17])) (ap_sa rfl) ?_
  refine v_astore_n 67 [(2, .ref q27), (1, .ref q23), (0, .ref a)] C dX3_init_67 (by decide) rfl ?_
  refine n_new 68 C hA (ci := 2) (fs := [.null, .null, .null]) rfl inGX2 tyX2 tyX2_ok lk_170 lk_71 lk_49 (ndX2) ⟨Nat.le_of_ble_eq_true rfl, Nat.le_of_ble_eq_true rfl⟩ dX3_init_68 (fun q31 => ?_)
  refine v_eqw (ws' := (([] : va_W) ++ [(a, .inr (3, [.ref q1, .ref q2, .ref q3, .ref q4, .ref q19, .int 0, .int 0, .int 0])), (q1, .inl (kc 3, 30, .inr (.inr (.inr (.inr (fun _ => none)))))), (q2, .inl (kc 4, 62, .inr (.inr (.inr (.inr (fun _ => none)))))), zAr kc q3 7, oPt q4 (g4 1) (g4 5) (g4 9) (g4 13) (g4 14), oTr (g4 1) (g4 2) (g4 3) (g4 4), zAr kc (g4 2) 17, zAr kc (g4 3) 17, zBr kc (g4 4) 17, oTr (g4 5) (g4 6) (g4 7) (g4 8), zAr kc (g4 6) 17, zAr kc (g4 7) 17, zBr kc (g4 8) 17, oTr (g4 9) (g4 10) (g4 11) (g4 12), zAr kc (g4 10) 17, zAr kc (g4 11) 17, zBr kc (g4 12) 17, oPl (g4 13) (g4 1) (g4 9) (g4 9) 0, oPl (g4 14) (g4 5) (g4 9) (g4 9) 0, oTr q19 q20 q21 q22, zAr kc q20 17, zAr kc q21 17, zBr kc q22 17, oTr q23 q24 q25 q26, zAr kc q24 17, zAr kc q25 17, zBr kc q26 17, oTr q27 q28 q29 q30, zAr kc q28 17, zAr kc q29 17, zBr kc q30 17, (q31, .inr (2, [.null, .null, .null]))])) (ap_sa rfl) ?_
  refine v_dup 71 C dX3_init_71 rfl ?_
  refine v_eqw (ws' := ((([] : va_W) ++ [(a, .inr (3, [.ref q1, .ref q2, .ref q3, .ref q4, .ref q19, .int 0, .int 0, .int 0])), (q1, .inl (kc 3, 30, .inr (.inr (.inr (.inr (fun _ => none)))))), (q2, .inl (kc 4, 62, .inr (.inr (.inr (.inr (fun _ => none)))))), zAr kc q3 7, oPt q4 (g4 1) (g4 5) (g4 9) (g4 13) (g4 14), oTr (g4 1) (g4 2) (g4 3) (g4 4), zAr kc (g4 2) 17, zAr kc (g4 3) 17, zBr kc (g4 4) 17, oTr (g4 5) (g4 6) (g4 7) (g4 8), zAr kc (g4 6) 17, zAr kc (g4 7) 17, zBr kc (g4 8) 17, oTr (g4 9) (g4 10) (g4 11) (g4 12), zAr kc (g4 10) 17, zAr kc (g4 11) 17, zBr kc (g4 12) 17, oPl (g4 13) (g4 1) (g4 9) (g4 9) 0, oPl (g4 14) (g4 5) (g4 9) (g4 9) 0, oTr q19 q20 q21 q22, zAr kc q20 17, zAr kc q21 17, zBr kc q22 17, oTr q23 q24 q25 q26, zAr kc q24 17, zAr kc q25 17, zBr kc q26 17, oTr q27 q28 q29 q30, zAr kc q28 17, zAr kc q29 17, zBr kc q30 17]) ++ [nTr q31])) (ap_as rfl) ?_
  refine v_callv 72 hA (rIN 72 C LN_yX2_init C.2.2.2.2.2.1.2.2.1 rfl lk_73 (i_Track (([] : va_W) ++ [(a, .inr (3, [.ref q1, .ref q2, .ref q3, .ref q4, .ref q19, .int 0, .int 0, .int 0])), (q1, .inl (kc 3, 30, .inr (.inr (.inr (.inr (fun _ => none)))))), (q2, .inl (kc 4, 62, .inr (.inr (.inr (.inr (fun _ => none)))))), zAr kc q3 7, oPt q4 (g4 1) (g4 5) (g4 9) (g4 13) (g4 14), oTr (g4 1) (g4 2) (g4 3) (g4 4), zAr kc (g4 2) 17, zAr kc (g4 3) 17, zBr kc (g4 4) 17, oTr (g4 5) (g4 6) (g4 7) (g4 8), zAr kc (g4 6) 17, zAr kc (g4 7) 17, zBr kc (g4 8) 17, oTr (g4 9) (g4 10) (g4 11) (g4 12), zAr kc (g4 10) 17, zAr kc (g4 11) 17, zBr kc (g4 12) 17, oPl (g4 13) (g4 1) (g4 9) (g4 9) 0, oPl (g4 14) (g4 5) (g4 9) (g4 9) 0, oTr q19 q20 q21 q22, zAr kc q20 17, zAr kc q21 17, zBr kc q22 17, oTr q23 q24 q25 q26, zAr kc q24 17, zAr kc q25 17, zBr kc q26 17, oTr q27 q28 q29 q30, zAr kc q28 17, zAr kc q29 17, zBr kc q30 17]) q31) rfl rfl (rm_ok rfl) dX3_init_72) (fun w_72 h_72 => ?_)
  obtain ⟨q32, q33, q34, rfl⟩ := h_72
  refine v_eqw (ws' := (([] : va_W) ++ [(a, .inr (3, [.ref q1, .ref q2, .ref q3, .ref q4, .ref q19, .int 0, .int 0, .int 0])), (q1, .inl (kc 3, 30, .inr (.inr (.inr (.inr (fun _ => none)))))), (q2, .inl (kc 4, 62, .inr (.inr (.inr (.inr (fun _ => none)))))), zAr kc q3 7, oPt q4 (g4 1) (g4 5) (g4 9) (g4 13) (g4 14), oTr (g4 1) (g4 2) (g4 3) (g4 4), zAr kc (g4 2) 17, zAr kc (g4 3) 17, zBr kc (g4 4) 17, oTr (g4 5) (g4 6) (g4 7) (g4 8), zAr kc (g4 6) 17, zAr kc (g4 7) 17, zBr kc (g4 8) 17, oTr (g4 9) (g4 10) (g4 11) (g4 12), zAr kc (g4 10) 17, zAr kc (g4 11) 17, zBr kc (g4 12) 17, oPl (g4 13) (g4 1) (g4 9) (g4 9) 0, oPl (g4 14) (g4 5) (g4 9) (g4 9) 0, oTr q19 q20 q21 q22, zAr kc q20 17, zAr kc q21 17, zBr kc q22 17, oTr q23 q24 q25 q26, zAr kc q24 17, zAr kc q25 17, zBr kc q26 17, oTr q27 q28 q29 q30, zAr kc q28 17, zAr kc q29 17, zBr kc q30 17, oTr q31 q32 q33 q34, zAr kc q32 17, zAr kc q33 17, zBr kc q34 17])) (ap_sa rfl) ?_
  refine v_astore_n 75 [(3, .ref q31), (2, .ref q27), (1, .ref q23), (0, .ref a)] C dX3_init_75 (by decide) rfl ?_
  skip
  obtain ⟨ad1, had1⟩ : ∃ f : Nat → Nat, f = fun i => ([a, q1, q2, q3, q4, (g4 1), (g4 2), (g4 3), (g4 4), (g4 5), (g4 6), (g4 7), (g4 8), (g4 9), (g4 10), (g4 11), (g4 12), (g4 13), (g4 14), q19, q20, q21, q22, q23, q24, q25, q26, q27, q28, q29, q30, q31, q32, q33, q34] : List Nat).getD i 0 := ⟨_, rfl⟩
  refine v_eqw (ws' := wl kc 35 ad1 Z0) (by rw [had1]; rfl) ?_
  refine v_eqlv [(3, .ref (ad1 31)), (2, .ref (ad1 27)), (1, .ref (ad1 23)), (0, .ref (ad1 0))] (by rw [had1]; rfl) ?_
  refine v_wid (k := 34) (n := 499) (Nat.le_of_ble_eq_true rfl) (Nat.le_of_ble_eq_true rfl) ?_
  have had0 : ad1 0 = a := by rw [had1]; rfl
  have h27 : vt 35 27 := vt_fix 27 (by decide) rfl
  have h31 : vt 35 31 := vt_fix 31 (by decide) rfl
  have loop : ∀ (d i : Nat) (S1 : St), i + d = 17 → WI S1 i → V p l e { frames := 5, cells := 44, slots := 617, locals := 126 } s m ([.ref a] : List Value).toArray below meth c (MQ below (QV D kc [(a, .inr (3, [.null, .null, .null, .null, .null, .int 0, .int 0, .int 0]))] (fun ws' => ∃ (ad : Nat → Nat) (S : St), ws' = wl kc 45 ad S ∧ ad 0 = a ∧ RC S bZ tZ ∧ RZ S) s.heap.size) ([.ref a] : List Value).toArray s 44 617 (va_A [(a, .inr (3, [.null, .null, .null, .null, .null, .int 0, .int 0, .int 0]))] s.heap.size)) D (va_A [(a, .inr (3, [.null, .null, .null, .null, .null, .int 0, .int 0, .int 0]))] s.heap.size) 5 34 499 (wl kc 35 ad1 S1) 79 [(4, .int (iZ (i : Int))), (3, .ref (ad1 31)), (2, .ref (ad1 27)), (1, .ref (ad1 23)), (0, .ref (ad1 0))] [] := by
    intro d
    induction d with
    | zero =>
      intro i S1 hi hWI
      have h17 : WI S1 17 := by
        have e : i = 17 := by omega
        rw [e] at hWI
        exact hWI
      refine v_iload 79 0 C dX3_init_79 rfl ?_
      refine v_bipush 81 C (iZ 17) dX3_init_81 (by decide) ?_
      refine z_icmp_ge 83 120 C (by first | assumption | exact ⟨by omega, by omega⟩) (by first | assumption | exact ⟨by omega, by omega⟩) dX3_init_83 (by decide) (fun c83_0 => ?_) (fun c83_0 => absurd (by omega) c83_0)
      skip
      refine v_aload_n 120 4 C dX3_init_120 rfl ?_
      refine g_Pg_planes 121 C (show 0 < 35 by decide) rfl lk_210 dX3_init_121 ?_
      refine v_iconst 124 C (iZ 0) dX3_init_124 rfl ?_
      refine v_eqw (ws' := (wl kc 35 ad1 S1 ++ [])) (List.append_nil _).symm ?_
      refine n_new 125 C hA (ci := 1) (fs := [.null, .null, .null, .int 0, .int 0]) rfl inGX1 tyX1 tyX1_ok lk_63 lk_98 lk_50 (ndX1) ⟨Nat.le_of_ble_eq_true rfl, Nat.le_of_ble_eq_true rfl⟩ dX3_init_125 (fun r0 => ?_)
      refine v_eqw (ws' := (wl kc 35 ad1 S1 ++ [(r0, .inr (1, [.null, .null, .null, .int 0, .int 0]))])) (ap_sa rfl) ?_
      refine v_dup 128 C dX3_init_128 rfl ?_
      refine v_aload_n 129 3 C dX3_init_129 rfl ?_
      refine n_new 130 C hA (ci := 2) (fs := [.null, .null, .null]) rfl inGX2 tyX2 tyX2_ok lk_170 lk_71 lk_49 (ndX2) ⟨Nat.le_of_ble_eq_true rfl, Nat.le_of_ble_eq_true rfl⟩ dX3_init_130 (fun r1 => ?_)
      refine v_eqw (ws' := (wl kc 35 ad1 S1 ++ [(r0, .inr (1, [.null, .null, .null, .int 0, .int 0])), (r1, .inr (2, [.null, .null, .null]))])) (ap_sa rfl) ?_
      refine v_dup 133 C dX3_init_133 rfl ?_
      refine v_eqw (ws' := ((wl kc 35 ad1 S1 ++ [(r0, .inr (1, [.null, .null, .null, .int 0, .int 0]))]) ++ [nTr r1])) (ap_as rfl) ?_
      refine v_callv 134 hA (rIN 134 C LN_yX2_init C.2.2.2.2.2.1.2.2.1 rfl lk_73 (i_Track (wl kc 35 ad1 S1 ++ [(r0, .inr (1, [.null, .null, .null, .int 0, .int 0]))]) r1) rfl rfl (rm_ok rfl) dX3_init_134) (fun w_134 h_134 => ?_)
      obtain ⟨r2, r3, r4, rfl⟩ := h_134
      refine v_eqw (ws' := (wl kc 35 ad1 S1 ++ [(r0, .inr (1, [.null, .null, .null, .int 0, .int 0])), oTr r1 r2 r3 r4, zAr kc r2 17, zAr kc r3 17, zBr kc r4 17])) (ap_sa rfl) ?_
      refine v_aload_n 137 2 C dX3_init_137 rfl ?_
      refine v_iconst 138 C (iZ 1) dX3_init_138 rfl ?_
      refine v_eqw (ws' := ((wl kc 35 ad1 S1 ++ []) ++ (nPl r0 :: [oTr r1 r2 r3 r4, zAr kc r2 17, zAr kc r3 17, zBr kc r4 17]))) (ap_as rfl) ?_
      refine v_callv 139 hA (rI 139 C L_RX3_47 rfl lk_100 (i_Plane (wl kc 35 ad1 S1 ++ []) [oTr r1 r2 r3 r4, zAr kc r2 17, zAr kc r3 17, zBr kc r4 17] r0 (ad1 23) r1 (ad1 27) rfl rfl) rfl rfl (rm_ok rfl) dX3_init_139) (fun w_139 h_139 => ?_)
      obtain rfl := h_139
      refine v_eqw (ws' := (wl kc 35 ad1 S1 ++ [oPl r0 (ad1 23) r1 (ad1 27) (iZ 1), oTr r1 r2 r3 r4, zAr kc r2 17, zAr kc r3 17, zBr kc r4 17])) (ap_sa rfl) ?_
      skip
      obtain ⟨ad2, h_ad2⟩ : ∃ f : Nat → Nat, f = adE 35 ad1 [r0, r1, r2, r3, r4] := ⟨_, rfl⟩
      refine v_eqw (ws' := wl kc 40 ad2 (stH 35 S1)) (by rw [h_ad2]; exact wl_40 h17 _ _ _ _ _) ?_
      have lo_ad2 : ∀ i, i < 35 → ad2 i = ad1 i := fun i h => by rw [h_ad2]; exact adE_lo h
      have at_ad2 : ad2 35 = r0 := by rw [h_ad2]; rfl
      refine v_eqst [.ref (ad2 35), .int (iZ 0), .ref (ad2 2)] (by rw [at_ad2, lo_ad2 2 (by decide)]) ?_
      refine v_eqlv [(4, .int (iZ (i : Int))), (3, .ref (ad2 31)), (2, .ref (ad2 27)), (1, .ref (ad2 23)), (0, .ref (ad2 0))] (by rw [lo_ad2 31 (by decide), lo_ad2 27 (by decide), lo_ad2 23 (by decide), lo_ad2 0 (by decide)]) ?_
      refine v_aastL 142 C (show 2 < 40 by decide) rfl 0 (izn rfl) (by decide) ⟨by decide, rfl⟩ dX3_init_142 ?_
      refine v_aload_n 143 4 C dX3_init_143 rfl ?_
      refine g_Pg_planes 144 C (show 0 < 40 by decide) rfl lk_210 dX3_init_144 ?_
      refine v_iconst 147 C (iZ 1) dX3_init_147 rfl ?_
      refine v_eqw (ws' := (wl kc 40 ad2 (pR (stH 35 S1) 2 0 (some 35)) ++ [])) (List.append_nil _).symm ?_
      refine n_new 148 C hA (ci := 1) (fs := [.null, .null, .null, .int 0, .int 0]) rfl inGX1 tyX1 tyX1_ok lk_63 lk_98 lk_50 (ndX1) ⟨Nat.le_of_ble_eq_true rfl, Nat.le_of_ble_eq_true rfl⟩ dX3_init_148 (fun v0 => ?_)
      refine v_eqw (ws' := (wl kc 40 ad2 (pR (stH 35 S1) 2 0 (some 35)) ++ [(v0, .inr (1, [.null, .null, .null, .int 0, .int 0]))])) (ap_sa rfl) ?_
      refine v_dup 151 C dX3_init_151 rfl ?_
      refine v_aload_n 152 3 C dX3_init_152 rfl ?_
      refine n_new 153 C hA (ci := 2) (fs := [.null, .null, .null]) rfl inGX2 tyX2 tyX2_ok lk_170 lk_71 lk_49 (ndX2) ⟨Nat.le_of_ble_eq_true rfl, Nat.le_of_ble_eq_true rfl⟩ dX3_init_153 (fun v1 => ?_)
      refine v_eqw (ws' := (wl kc 40 ad2 (pR (stH 35 S1) 2 0 (some 35)) ++ [(v0, .inr (1, [.null, .null, .null, .int 0, .int 0])), (v1, .inr (2, [.null, .null, .null]))])) (ap_sa rfl) ?_
      refine v_dup 156 C dX3_init_156 rfl ?_
      refine v_eqw (ws' := ((wl kc 40 ad2 (pR (stH 35 S1) 2 0 (some 35)) ++ [(v0, .inr (1, [.null, .null, .null, .int 0, .int 0]))]) ++ [nTr v1])) (ap_as rfl) ?_
      refine v_callv 157 hA (rIN 157 C LN_yX2_init C.2.2.2.2.2.1.2.2.1 rfl lk_73 (i_Track (wl kc 40 ad2 (pR (stH 35 S1) 2 0 (some 35)) ++ [(v0, .inr (1, [.null, .null, .null, .int 0, .int 0]))]) v1) rfl rfl (rm_ok rfl) dX3_init_157) (fun w_157 h_157 => ?_)
      obtain ⟨v2, v3, v4, rfl⟩ := h_157
      refine v_eqw (ws' := (wl kc 40 ad2 (pR (stH 35 S1) 2 0 (some 35)) ++ [(v0, .inr (1, [.null, .null, .null, .int 0, .int 0])), oTr v1 v2 v3 v4, zAr kc v2 17, zAr kc v3 17, zBr kc v4 17])) (ap_sa rfl) ?_
      refine v_aload_n 160 1 C dX3_init_160 rfl ?_
      refine v_iconst 161 C (iZ 1) dX3_init_161 rfl ?_
      refine v_eqw (ws' := ((wl kc 40 ad2 (pR (stH 35 S1) 2 0 (some 35)) ++ []) ++ (nPl v0 :: [oTr v1 v2 v3 v4, zAr kc v2 17, zAr kc v3 17, zBr kc v4 17]))) (ap_as rfl) ?_
      refine v_callv 162 hA (rI 162 C L_RX3_47 rfl lk_100 (i_Plane (wl kc 40 ad2 (pR (stH 35 S1) 2 0 (some 35)) ++ []) [oTr v1 v2 v3 v4, zAr kc v2 17, zAr kc v3 17, zBr kc v4 17] v0 (ad2 23) v1 (ad2 31) rfl rfl) rfl rfl (rm_ok rfl) dX3_init_162) (fun w_162 h_162 => ?_)
      obtain rfl := h_162
      refine v_eqw (ws' := (wl kc 40 ad2 (pR (stH 35 S1) 2 0 (some 35)) ++ [oPl v0 (ad2 23) v1 (ad2 31) (iZ 1), oTr v1 v2 v3 v4, zAr kc v2 17, zAr kc v3 17, zBr kc v4 17])) (ap_sa rfl) ?_
      skip
      obtain ⟨ad3, h_ad3⟩ : ∃ f : Nat → Nat, f = adE 40 ad2 [v0, v1, v2, v3, v4] := ⟨_, rfl⟩
      refine v_eqw (ws' := wl kc 45 ad3 (stH 40 (pR (stH 35 S1) 2 0 (some 35)))) (by rw [h_ad3]; exact wl_45 h17 _ _ _ _ _) ?_
      have lo_ad3 : ∀ i, i < 40 → ad3 i = ad2 i := fun i h => by rw [h_ad3]; exact adE_lo h
      have at_ad3 : ad3 40 = v0 := by rw [h_ad3]; rfl
      refine v_eqst [.ref (ad3 40), .int (iZ 1), .ref (ad3 2)] (by rw [at_ad3, lo_ad3 2 (by decide)]) ?_
      refine v_eqlv [(4, .int (iZ (i : Int))), (3, .ref (ad3 31)), (2, .ref (ad3 27)), (1, .ref (ad3 23)), (0, .ref (ad3 0))] (by rw [lo_ad3 31 (by decide), lo_ad3 27 (by decide), lo_ad3 23 (by decide), lo_ad3 0 (by decide)]) ?_
      refine v_aastL 165 C (show 2 < 45 by decide) rfl 1 (izn rfl) (by decide) ⟨by decide, rfl⟩ dX3_init_165 ?_
      have hg45 : vg 45 := Nat.le_refl 45
      refine v_aload_n 166 4 C dX3_init_166 rfl ?_
      refine v_iconst 167 C (iZ 2) dX3_init_167 rfl ?_
      refine s_Pg_pageTolerance 168 C (vg.o hg45).1 (vg.o hg45).2 lk_215 dX3_init_168 ?_
      refine v_aload_n 171 4 C dX3_init_171 rfl ?_
      refine v_sipush 172 C (iZ 200) dX3_init_172 (by decide) ?_
      refine v_callv 175 hA (rV_Pg 175 C L_RX3_54 lk_183 lk_0 (m_cutLeaves (S := pgS S1) (v := 200) hg45 (by decide) (pgS_RW h17) ((RZ_of h17 0).2.trans rfl) ((RZ_of h17 1).2.trans rfl)) (vg.o hg45) rfl ⟨rfl, rfl⟩ (rm_ok rfl) dX3_init_175) (fun w2 h3 => ?_)
      obtain ⟨S9, rfl, hCL⟩ := h3
      exact v_vret 178 C (⟨ad3, S9, rfl, by rw [lo_ad3 0 (by decide), lo_ad2 0 (by decide), had0], (pgS_RC h17 hCL).1, (pgS_RC h17 hCL).2⟩) dX3_init_178
    | succ d ih =>
      intro i S1 hi hWI
      refine v_iload 79 0 C dX3_init_79 rfl ?_
      refine v_bipush 81 C (iZ 17) dX3_init_81 (by decide) ?_
      refine z_icmp_ge 83 120 C (by first | assumption | exact ⟨by omega, by omega⟩) (by first | assumption | exact ⟨by omega, by omega⟩) dX3_init_83 (by decide) (fun c83_0 => absurd c83_0 (by omega)) (fun c83_0 => ?_)
      refine v_aload_n 86 2 C dX3_init_86 rfl ?_
      refine v_iload 87 0 C dX3_init_87 rfl ?_
      refine v_sipush 89 C (iZ 10000) dX3_init_89 (by decide) ?_
      refine v_iconst 92 C (iZ 0) dX3_init_92 rfl ?_
      refine v_callv 93 hA (rV_Tr 93 C L_RX3_37 lk_173 lk_174 (m_put (t := 27) (j := i) h27 (by omega)) (vt.o h27) rfl ⟨rfl, rfl⟩ (rm_ok rfl) dX3_init_93) (fun w5 h6 => ?_)
      obtain rfl := h6
      refine v_aload_n 96 1 C dX3_init_96 rfl ?_
      refine v_iload 97 0 C dX3_init_97 rfl ?_
      refine n_gets 99 C hX.2.1.1 lk_176 dX3_init_99 ?_
      refine v_iload 102 0 C dX3_init_102 rfl ?_
      refine n_ti 104 C hX.2.1.2 i (izn rfl) (by omega) (by decide) dX3_init_104 ?_
      refine n_gets 105 C hX.2.2.1 lk_178 dX3_init_105 ?_
      refine v_iload 108 0 C dX3_init_108 rfl ?_
      refine n_ti 110 C hX.2.2.2 i (izn rfl) (by omega) (by decide) dX3_init_110 ?_
      refine v_callv 111 hA (rV_Tr 111 C L_RX3_37 lk_173 lk_174 (m_put (t := 31) (j := i) h31 (by omega)) (vt.o h31) rfl ⟨rfl, rfl⟩ (rm_ok rfl) dX3_init_111) (fun w8 h9 => ?_)
      obtain rfl := h9
      refine v_iinc 114 0 (iZ ((i + 1 : Nat) : Int)) [(4, .int (iZ ((i + 1 : Nat) : Int))), (3, .ref (ad1 31)), (2, .ref (ad1 27)), (1, .ref (ad1 23)), (0, .ref (ad1 0))] C dX3_init_114 rfl (iZ_add _ _) (by decide) rfl ?_
      refine v_goto 117 79 C dX3_init_117 (by decide) ?_
      refine v_sub [0, 1, 2, 3, 4] rfl ?_
      exact ih (i + 1) _ (by omega) (WI_step hWI)
  refine v_iconst 76 C (iZ 0) dX3_init_76 rfl ?_
  refine v_istore 77 [(4, .int (iZ 0)), (3, .ref (ad1 31)), (2, .ref (ad1 27)), (1, .ref (ad1 23)), (0, .ref (ad1 0))] C dX3_init_77 (by decide) rfl ?_
  refine v_sub [0, 1, 2, 3, 4] rfl ?_
  exact loop 17 0 Z0 (by decide) ⟨fun _ _ => ⟨rfl, rfl⟩, fun _ _ _ => rfl, fun f hf => absurd hf (by omega)⟩
