/-! THE MODEL, MADE -/
def moW (kc : Nat → ClassId) (a : Nat) (g : Nat → Nat) : va_W := [(a, .inr (4, [.int (iZ 200), .int (iZ 2), .int 0, .ref (g 1), .ref (g 2), .ref (g 3), .ref (g 4), .ref (g 5), .ref (g 6), .ref (g 7), .ref (g 8), .int 0, .ref (g 9), .ref (g 10), .ref (g 11), .long 0, .long 0, .ref (g 12), .ref (g 13), .ref (g 14), .ref (g 15), .ref (g 16), .ref (g 17), .ref (g 18), .ref (g 19), .ref (g 20)])), zAr kc (g 1) 30, zAr kc (g 2) 60, zAr kc (g 3) 60, zAr kc (g 4) 60, zBr kc (g 5) 30, zBr kc (g 6) 30, zAr kc (g 7) 7, ((g 8), .inl (kc 0, 9, .inl (upd (upd (upd (upd (upd (upd (upd (upd (upd (fun _ => 0) 0 (iZ 10000)) 1 (iZ 9808)) 2 (iZ 9239)) 3 (iZ 8315)) 4 (iZ 7071)) 5 (iZ 5556)) 6 (iZ 3827)) 7 (iZ 1951)) 8 (iZ 0)))), zLr kc (g 9) 30, zLr kc (g 10) 30, zBr kc (g 11) 30, zAr kc (g 12) 32, zLr kc (g 13) 62, zLr kc (g 14) 62, zLr kc (g 15) 62, zLr kc (g 16) 62, zBr kc (g 17) 62, zLr kc (g 18) 30, zLr kc (g 19) 30, zBr kc (g 20) 30]
def wyF : Nat → Int32 := (upd (upd (upd (upd (upd (upd (upd (upd (upd (fun _ => 0) 0 (iZ 10000)) 1 (iZ 9808)) 2 (iZ 9239)) 3 (iZ 8315)) 4 (iZ 7071)) 5 (iZ 5556)) 6 (iZ 3827)) 7 (iZ 1951)) 8 (iZ 0))
set_option maxHeartbeats 4000000 in
set_option maxRecDepth 100000 in
theorem i_Model {l : Launch} {D : va_G} {kc : Nat → ClassId} (ws0 : va_W) (a : Nat) : MetK l yX4_init cX4_init 1 (none) 1 20 808 24 D kc (ws0 ++ [(a, .inr (4, [.int 0, .int 0, .int 0, .null, .null, .null, .null, .null, .null, .null, .null, .int 0, .null, .null, .null, .long 0, .long 0, .null, .null, .null, .null, .null, .null, .null, .null, .null]))]) [.ref a] (QV D kc (ws0 ++ [(a, .inr (4, [.int 0, .int 0, .int 0, .null, .null, .null, .null, .null, .null, .null, .null, .int 0, .null, .null, .null, .long 0, .long 0, .null, .null, .null, .null, .null, .null, .null, .null, .null]))]) (fun ws' => ∃ q : Nat → Nat, ws' = ws0 ++ moW kc a q)) := by
  refine MetK.ofI (by decide +kernel) (Nat.le_of_ble_eq_true rfl) ?_
  intro p e s m below meth c C hI
  replace hI : meth.name = "<init>" := hI
  have hA : ∀ q, s.heap.size ≤ q → va_A (ws0 ++ [(a, .inr (4, [.int 0, .int 0, .int 0, .null, .null, .null, .null, .null, .null, .null, .null, .int 0, .null, .null, .null, .long 0, .long 0, .null, .null, .null, .null, .null, .null, .null, .null, .null]))]) s.heap.size q := fun _ h => Or.inr h
  show V p l e { frames := 1, cells := 20, slots := 808, locals := 24 } s m ([.ref a] : List Value).toArray below meth c (MQ below (QV D kc (ws0 ++ [(a, .inr (4, [.int 0, .int 0, .int 0, .null, .null, .null, .null, .null, .null, .null, .null, .int 0, .null, .null, .null, .long 0, .long 0, .null, .null, .null, .null, .null, .null, .null, .null, .null]))]) (fun ws' => ∃ q : Nat → Nat, ws' = ws0 ++ moW kc a q) s.heap.size) ([.ref a] : List Value).toArray s 20 808 (va_A (ws0 ++ [(a, .inr (4, [.int 0, .int 0, .int 0, .null, .null, .null, .null, .null, .null, .null, .null, .int 0, .null, .null, .null, .long 0, .long 0, .null, .null, .null, .null, .null, .null, .null, .null, .null]))]) s.heap.size)) D (va_A (ws0 ++ [(a, .inr (4, [.int 0, .int 0, .int 0, .null, .null, .null, .null, .null, .null, .null, .null, .int 0, .null, .null, .null, .long 0, .long 0, .null, .null, .null, .null, .null, .null, .null, .null, .null]))]) s.heap.size) 1 0 0 (ws0 ++ [(a, .inr (4, [.int 0, .int 0, .int 0, .null, .null, .null, .null, .null, .null, .null, .null, .int 0, .null, .null, .null, .long 0, .long 0, .null, .null, .null, .null, .null, .null, .null, .null, .null]))]) 0 [(0, .ref a)] []
  refine v_aload_n 0 0 C dX4_init_0 rfl ?_
  refine n_obj 1 C lk_498 ⟨Nat.le_of_ble_eq_true rfl, Nat.le_of_ble_eq_true rfl⟩ dX4_init_1 ?_
  refine v_aload_n 4 0 C dX4_init_4 rfl ?_
  refine v_sipush 5 C (iZ 200) dX4_init_5 (by decide) ?_
  refine n_put 8 C 0 (by rfl) rfl inGX4 tyX4 tyX4_ok nmX4 0 (by decide) rfl lk_499 rfl rfl (Nat.le_of_ble_eq_true rfl) dX4_init_8 ?_
  refine v_eqw (ws' := (ws0 ++ [(a, .inr (4, [.int (iZ 200), .int 0, .int 0, .null, .null, .null, .null, .null, .null, .null, .null, .int 0, .null, .null, .null, .long 0, .long 0, .null, .null, .null, .null, .null, .null, .null, .null, .null]))])) rfl ?_
  refine v_aload_n 11 0 C dX4_init_11 rfl ?_
  refine v_iconst 12 C (iZ 2) dX4_init_12 rfl ?_
  refine n_put 13 C 0 (by rfl) rfl inGX4 tyX4 tyX4_ok nmX4 1 (by decide) rfl lk_500 rfl rfl (Nat.le_of_ble_eq_true rfl) dX4_init_13 ?_
  refine v_eqw (ws' := (ws0 ++ [(a, .inr (4, [.int (iZ 200), .int (iZ 2), .int 0, .null, .null, .null, .null, .null, .null, .null, .null, .int 0, .null, .null, .null, .long 0, .long 0, .null, .null, .null, .null, .null, .null, .null, .null, .null]))])) rfl ?_
  refine v_aload_n 16 0 C dX4_init_16 rfl ?_
  refine v_bipush 17 C (iZ 30) dX4_init_17 (by decide) ?_
  refine n_newai 19 C hA 30 (izn rfl) (by decide) ⟨Nat.le_of_ble_eq_true rfl, Nat.le_of_ble_eq_true rfl⟩ dX4_init_19 (fun q1 => ?_)
  refine v_eqw (ws' := (ws0 ++ [(a, .inr (4, [.int (iZ 200), .int (iZ 2), .int 0, .null, .null, .null, .null, .null, .null, .null, .null, .int 0, .null, .null, .null, .long 0, .long 0, .null, .null, .null, .null, .null, .null, .null, .null, .null])), zAr kc q1 30])) (ap_sa rfl) ?_
  refine n_putF 21 C hI 0 (by rfl) rfl inGX4 tyX4 tyX4_ok nmX4 3 (by decide) rfl rfl lk_502 rfl rfl (Nat.le_of_ble_eq_true rfl) dX4_init_21 ?_
  refine v_eqw (ws' := (ws0 ++ [(a, .inr (4, [.int (iZ 200), .int (iZ 2), .int 0, .ref q1, .null, .null, .null, .null, .null, .null, .null, .int 0, .null, .null, .null, .long 0, .long 0, .null, .null, .null, .null, .null, .null, .null, .null, .null])), zAr kc q1 30])) rfl ?_
  refine v_aload_n 24 0 C dX4_init_24 rfl ?_
  refine v_bipush 25 C (iZ 60) dX4_init_25 (by decide) ?_
  refine n_newai 27 C hA 60 (izn rfl) (by decide) ⟨Nat.le_of_ble_eq_true rfl, Nat.le_of_ble_eq_true rfl⟩ dX4_init_27 (fun q2 => ?_)
  refine v_eqw (ws' := (ws0 ++ [(a, .inr (4, [.int (iZ 200), .int (iZ 2), .int 0, .ref q1, .null, .null, .null, .null, .null, .null, .null, .int 0, .null, .null, .null, .long 0, .long 0, .null, .null, .null, .null, .null, .null, .null, .null, .null])), zAr kc q1 30, zAr kc q2 60])) (ap_sa rfl) ?_
  refine n_putF 29 C hI 0 (by rfl) rfl inGX4 tyX4 tyX4_ok nmX4 4 (by decide) rfl rfl lk_503 rfl rfl (Nat.le_of_ble_eq_true rfl) dX4_init_29 ?_
  refine v_eqw (ws' := (ws0 ++ [(a, .inr (4, [.int (iZ 200), .int (iZ 2), .int 0, .ref q1, .ref q2, .null, .null, .null, .null, .null, .null, .int 0, .null, .null, .null, .long 0, .long 0, .null, .null, .null, .null, .null, .null, .null, .null, .null])), zAr kc q1 30, zAr kc q2 60])) rfl ?_
  refine v_aload_n 32 0 C dX4_init_32 rfl ?_
  refine v_bipush 33 C (iZ 60) dX4_init_33 (by decide) ?_
  refine n_newai 35 C hA 60 (izn rfl) (by decide) ⟨Nat.le_of_ble_eq_true rfl, Nat.le_of_ble_eq_true rfl⟩ dX4_init_35 (fun q3 => ?_)
  refine v_eqw (ws' := (ws0 ++ [(a, .inr (4, [.int (iZ 200), .int (iZ 2), .int 0, .ref q1, .ref q2, .null, .null, .null, .null, .null, .null, .int 0, .null, .null, .null, .long 0, .long 0, .null, .null, .null, .null, .null, .null, .null, .null, .null])), zAr kc q1 30, zAr kc q2 60, zAr kc q3 60])) (ap_sa rfl) ?_
  refine n_putF 37 C hI 0 (by rfl) rfl inGX4 tyX4 tyX4_ok nmX4 5 (by decide) rfl rfl lk_504 rfl rfl (Nat.le_of_ble_eq_true rfl) dX4_init_37 ?_
  refine v_eqw (ws' := (ws0 ++ [(a, .inr (4, [.int (iZ 200), .int (iZ 2), .int 0, .ref q1, .ref q2, .ref q3, .null, .null, .null, .null, .null, .int 0, .null, .null, .null, .long 0, .long 0, .null, .null, .null, .null, .null, .null, .null, .null, .null])), zAr kc q1 30, zAr kc q2 60, zAr kc q3 60])) rfl ?_
  refine v_aload_n 40 0 C dX4_init_40 rfl ?_
  refine v_bipush 41 C (iZ 60) dX4_init_41 (by decide) ?_
  refine n_newai 43 C hA 60 (izn rfl) (by decide) ⟨Nat.le_of_ble_eq_true rfl, Nat.le_of_ble_eq_true rfl⟩ dX4_init_43 (fun q4 => ?_)
  refine v_eqw (ws' := (ws0 ++ [(a, .inr (4, [.int (iZ 200), .int (iZ 2), .int 0, .ref q1, .ref q2, .ref q3, .null, .null, .null, .null, .null, .int 0, .null, .null, .null, .long 0, .long 0, .null, .null, .null, .null, .null, .null, .null, .null, .null])), zAr kc q1 30, zAr kc q2 60, zAr kc q3 60, zAr kc q4 60])) (ap_sa rfl) ?_
  refine n_putF 45 C hI 0 (by rfl) rfl inGX4 tyX4 tyX4_ok nmX4 6 (by decide) rfl rfl lk_505 rfl rfl (Nat.le_of_ble_eq_true rfl) dX4_init_45 ?_
  refine v_eqw (ws' := (ws0 ++ [(a, .inr (4, [.int (iZ 200), .int (iZ 2), .int 0, .ref q1, .ref q2, .ref q3, .ref q4, .null, .null, .null, .null, .int 0, .null, .null, .null, .long 0, .long 0, .null, .null, .null, .null, .null, .null, .null, .null, .null])), zAr kc q1 30, zAr kc q2 60, zAr kc q3 60, zAr kc q4 60])) rfl ?_
  refine v_aload_n 48 0 C dX4_init_48 rfl ?_
  refine v_bipush 49 C (iZ 30) dX4_init_49 (by decide) ?_
  refine n_newaz 51 C hA 30 (izn rfl) (by decide) ⟨Nat.le_of_ble_eq_true rfl, Nat.le_of_ble_eq_true rfl⟩ dX4_init_51 (fun q5 => ?_)
  refine v_eqw (ws' := (ws0 ++ [(a, .inr (4, [.int (iZ 200), .int (iZ 2), .int 0, .ref q1, .ref q2, .ref q3, .ref q4, .null, .null, .null, .null, .int 0, .null, .null, .null, .long 0, .long 0, .null, .null, .null, .null, .null, .null, .null, .null, .null])), zAr kc q1 30, zAr kc q2 60, zAr kc q3 60, zAr kc q4 60, zBr kc q5 30])) (ap_sa rfl) ?_
  refine n_putF 53 C hI 0 (by rfl) rfl inGX4 tyX4 tyX4_ok nmX4 7 (by decide) rfl rfl lk_506 rfl rfl (Nat.le_of_ble_eq_true rfl) dX4_init_53 ?_
  refine v_eqw (ws' := (ws0 ++ [(a, .inr (4, [.int (iZ 200), .int (iZ 2), .int 0, .ref q1, .ref q2, .ref q3, .ref q4, .ref q5, .null, .null, .null, .int 0, .null, .null, .null, .long 0, .long 0, .null, .null, .null, .null, .null, .null, .null, .null, .null])), zAr kc q1 30, zAr kc q2 60, zAr kc q3 60, zAr kc q4 60, zBr kc q5 30])) rfl ?_
  refine v_aload_n 56 0 C dX4_init_56 rfl ?_
  refine v_bipush 57 C (iZ 30) dX4_init_57 (by decide) ?_
  refine n_newaz 59 C hA 30 (izn rfl) (by decide) ⟨Nat.le_of_ble_eq_true rfl, Nat.le_of_ble_eq_true rfl⟩ dX4_init_59 (fun q6 => ?_)
  refine v_eqw (ws' := (ws0 ++ [(a, .inr (4, [.int (iZ 200), .int (iZ 2), .int 0, .ref q1, .ref q2, .ref q3, .ref q4, .ref q5, .null, .null, .null, .int 0, .null, .null, .null, .long 0, .long 0, .null, .null, .null, .null, .null, .null, .null, .null, .null])), zAr kc q1 30, zAr kc q2 60, zAr kc q3 60, zAr kc q4 60, zBr kc q5 30, zBr kc q6 30])) (ap_sa rfl) ?_
  refine n_putF 61 C hI 0 (by rfl) rfl inGX4 tyX4 tyX4_ok nmX4 8 (by decide) rfl rfl lk_507 rfl rfl (Nat.le_of_ble_eq_true rfl) dX4_init_61 ?_
  refine v_eqw (ws' := (ws0 ++ [(a, .inr (4, [.int (iZ 200), .int (iZ 2), .int 0, .ref q1, .ref q2, .ref q3, .ref q4, .ref q5, .ref q6, .null, .null, .int 0, .null, .null, .null, .long 0, .long 0, .null, .null, .null, .null, .null, .null, .null, .null, .null])), zAr kc q1 30, zAr kc q2 60, zAr kc q3 60, zAr kc q4 60, zBr kc q5 30, zBr kc q6 30])) rfl ?_
  refine v_aload_n 64 0 C dX4_init_64 rfl ?_
  refine v_bipush 65 C (iZ 7) dX4_init_65 (by decide) ?_
  refine n_newai 67 C hA 7 (izn rfl) (by decide) ⟨Nat.le_of_ble_eq_true rfl, Nat.le_of_ble_eq_true rfl⟩ dX4_init_67 (fun q7 => ?_)
  refine v_eqw (ws' := (ws0 ++ [(a, .inr (4, [.int (iZ 200), .int (iZ 2), .int 0, .ref q1, .ref q2, .ref q3, .ref q4, .ref q5, .ref q6, .null, .null, .int 0, .null, .null, .null, .long 0, .long 0, .null, .null, .null, .null, .null, .null, .null, .null, .null])), zAr kc q1 30, zAr kc q2 60, zAr kc q3 60, zAr kc q4 60, zBr kc q5 30, zBr kc q6 30, zAr kc q7 7])) (ap_sa rfl) ?_
  refine n_putF 69 C hI 0 (by rfl) rfl inGX4 tyX4 tyX4_ok nmX4 9 (by decide) rfl rfl lk_508 rfl rfl (Nat.le_of_ble_eq_true rfl) dX4_init_69 ?_
  refine v_eqw (ws' := (ws0 ++ [(a, .inr (4, [.int (iZ 200), .int (iZ 2), .int 0, .ref q1, .ref q2, .ref q3, .ref q4, .ref q5, .ref q6, .ref q7, .null, .int 0, .null, .null, .null, .long 0, .long 0, .null, .null, .null, .null, .null, .null, .null, .null, .null])), zAr kc q1 30, zAr kc q2 60, zAr kc q3 60, zAr kc q4 60, zBr kc q5 30, zBr kc q6 30, zAr kc q7 7])) rfl ?_
  refine v_aload_n 72 0 C dX4_init_72 rfl ?_
  refine v_bipush 73 C (iZ 9) dX4_init_73 (by decide) ?_
  refine n_newai 75 C hA 9 (izn rfl) (by decide) ⟨Nat.le_of_ble_eq_true rfl, Nat.le_of_ble_eq_true rfl⟩ dX4_init_75 (fun q8 => ?_)
  refine v_eqw (ws' := (ws0 ++ [(a, .inr (4, [.int (iZ 200), .int (iZ 2), .int 0, .ref q1, .ref q2, .ref q3, .ref q4, .ref q5, .ref q6, .ref q7, .null, .int 0, .null, .null, .null, .long 0, .long 0, .null, .null, .null, .null, .null, .null, .null, .null, .null])), zAr kc q1 30, zAr kc q2 60, zAr kc q3 60, zAr kc q4 60, zBr kc q5 30, zBr kc q6 30, zAr kc q7 7, zAr kc q8 9])) (ap_sa rfl) ?_
  refine v_dup 77 C dX4_init_77 rfl ?_
  refine v_iconst 78 C (iZ 0) dX4_init_78 rfl ?_
  refine v_sipush 79 C (iZ 10000) dX4_init_79 (by decide) ?_
  refine n_iast 82 C 8 (n := 9) (by rfl) 0 (izn rfl) (by decide) (by decide) dX4_init_82 ?_
  refine v_eqw (ws' := (ws0 ++ [(a, .inr (4, [.int (iZ 200), .int (iZ 2), .int 0, .ref q1, .ref q2, .ref q3, .ref q4, .ref q5, .ref q6, .ref q7, .null, .int 0, .null, .null, .null, .long 0, .long 0, .null, .null, .null, .null, .null, .null, .null, .null, .null])), zAr kc q1 30, zAr kc q2 60, zAr kc q3 60, zAr kc q4 60, zBr kc q5 30, zBr kc q6 30, zAr kc q7 7, (q8, .inl (kc 0, 9, .inl (upd (fun _ => 0) 0 (iZ 10000))))])) rfl ?_
  refine v_dup 83 C dX4_init_83 rfl ?_
  refine v_iconst 84 C (iZ 1) dX4_init_84 rfl ?_
  refine v_sipush 85 C (iZ 9808) dX4_init_85 (by decide) ?_
  refine n_iast 88 C 8 (n := 9) (by rfl) 1 (izn rfl) (by decide) (by decide) dX4_init_88 ?_
  refine v_eqw (ws' := (ws0 ++ [(a, .inr (4, [.int (iZ 200), .int (iZ 2), .int 0, .ref q1, .ref q2, .ref q3, .ref q4, .ref q5, .ref q6, .ref q7, .null, .int 0, .null, .null, .null, .long 0, .long 0, .null, .null, .null, .null, .null, .null, .null, .null, .null])), zAr kc q1 30, zAr kc q2 60, zAr kc q3 60, zAr kc q4 60, zBr kc q5 30, zBr kc q6 30, zAr kc q7 7, (q8, .inl (kc 0, 9, .inl (upd (upd (fun _ => 0) 0 (iZ 10000)) 1 (iZ 9808))))])) rfl ?_
  refine v_dup 89 C dX4_init_89 rfl ?_
  refine v_iconst 90 C (iZ 2) dX4_init_90 rfl ?_
  refine v_sipush 91 C (iZ 9239) dX4_init_91 (by decide) ?_
  refine n_iast 94 C 8 (n := 9) (by rfl) 2 (izn rfl) (by decide) (by decide) dX4_init_94 ?_
  refine v_eqw (ws' := (ws0 ++ [(a, .inr (4, [.int (iZ 200), .int (iZ 2), .int 0, .ref q1, .ref q2, .ref q3, .ref q4, .ref q5, .ref q6, .ref q7, .null, .int 0, .null, .null, .null, .long 0, .long 0, .null, .null, .null, .null, .null, .null, .null, .null, .null])), zAr kc q1 30, zAr kc q2 60, zAr kc q3 60, zAr kc q4 60, zBr kc q5 30, zBr kc q6 30, zAr kc q7 7, (q8, .inl (kc 0, 9, .inl (upd (upd (upd (fun _ => 0) 0 (iZ 10000)) 1 (iZ 9808)) 2 (iZ 9239))))])) rfl ?_
  refine v_dup 95 C dX4_init_95 rfl ?_
  refine v_iconst 96 C (iZ 3) dX4_init_96 rfl ?_
  refine v_sipush 97 C (iZ 8315) dX4_init_97 (by decide) ?_
  refine n_iast 100 C 8 (n := 9) (by rfl) 3 (izn rfl) (by decide) (by decide) dX4_init_100 ?_
  refine v_eqw (ws' := (ws0 ++ [(a, .inr (4, [.int (iZ 200), .int (iZ 2), .int 0, .ref q1, .ref q2, .ref q3, .ref q4, .ref q5, .ref q6, .ref q7, .null, .int 0, .null, .null, .null, .long 0, .long 0, .null, .null, .null, .null, .null, .null, .null, .null, .null])), zAr kc q1 30, zAr kc q2 60, zAr kc q3 60, zAr kc q4 60, zBr kc q5 30, zBr kc q6 30, zAr kc q7 7, (q8, .inl (kc 0, 9, .inl (upd (upd (upd (upd (fun _ => 0) 0 (iZ 10000)) 1 (iZ 9808)) 2 (iZ 9239)) 3 (iZ 8315))))])) rfl ?_
  refine v_dup 101 C dX4_init_101 rfl ?_
  refine v_iconst 102 C (iZ 4) dX4_init_102 rfl ?_
  refine v_sipush 103 C (iZ 7071) dX4_init_103 (by decide) ?_
  refine n_iast 106 C 8 (n := 9) (by rfl) 4 (izn rfl) (by decide) (by decide) dX4_init_106 ?_
  refine v_eqw (ws' := (ws0 ++ [(a, .inr (4, [.int (iZ 200), .int (iZ 2), .int 0, .ref q1, .ref q2, .ref q3, .ref q4, .ref q5, .ref q6, .ref q7, .null, .int 0, .null, .null, .null, .long 0, .long 0, .null, .null, .null, .null, .null, .null, .null, .null, .null])), zAr kc q1 30, zAr kc q2 60, zAr kc q3 60, zAr kc q4 60, zBr kc q5 30, zBr kc q6 30, zAr kc q7 7, (q8, .inl (kc 0, 9, .inl (upd (upd (upd (upd (upd (fun _ => 0) 0 (iZ 10000)) 1 (iZ 9808)) 2 (iZ 9239)) 3 (iZ 8315)) 4 (iZ 7071))))])) rfl ?_
  refine v_dup 107 C dX4_init_107 rfl ?_
  refine v_iconst 108 C (iZ 5) dX4_init_108 rfl ?_
  refine v_sipush 109 C (iZ 5556) dX4_init_109 (by decide) ?_
  refine n_iast 112 C 8 (n := 9) (by rfl) 5 (izn rfl) (by decide) (by decide) dX4_init_112 ?_
  refine v_eqw (ws' := (ws0 ++ [(a, .inr (4, [.int (iZ 200), .int (iZ 2), .int 0, .ref q1, .ref q2, .ref q3, .ref q4, .ref q5, .ref q6, .ref q7, .null, .int 0, .null, .null, .null, .long 0, .long 0, .null, .null, .null, .null, .null, .null, .null, .null, .null])), zAr kc q1 30, zAr kc q2 60, zAr kc q3 60, zAr kc q4 60, zBr kc q5 30, zBr kc q6 30, zAr kc q7 7, (q8, .inl (kc 0, 9, .inl (upd (upd (upd (upd (upd (upd (fun _ => 0) 0 (iZ 10000)) 1 (iZ 9808)) 2 (iZ 9239)) 3 (iZ 8315)) 4 (iZ 7071)) 5 (iZ 5556))))])) rfl ?_
  refine v_dup 113 C dX4_init_113 rfl ?_
  refine v_bipush 114 C (iZ 6) dX4_init_114 (by decide) ?_
  refine v_sipush 116 C (iZ 3827) dX4_init_116 (by decide) ?_
  refine n_iast 119 C 8 (n := 9) (by rfl) 6 (izn rfl) (by decide) (by decide) dX4_init_119 ?_
  refine v_eqw (ws' := (ws0 ++ [(a, .inr (4, [.int (iZ 200), .int (iZ 2), .int 0, .ref q1, .ref q2, .ref q3, .ref q4, .ref q5, .ref q6, .ref q7, .null, .int 0, .null, .null, .null, .long 0, .long 0, .null, .null, .null, .null, .null, .null, .null, .null, .null])), zAr kc q1 30, zAr kc q2 60, zAr kc q3 60, zAr kc q4 60, zBr kc q5 30, zBr kc q6 30, zAr kc q7 7, (q8, .inl (kc 0, 9, .inl (upd (upd (upd (upd (upd (upd (upd (fun _ => 0) 0 (iZ 10000)) 1 (iZ 9808)) 2 (iZ 9239)) 3 (iZ 8315)) 4 (iZ 7071)) 5 (iZ 5556)) 6 (iZ 3827))))])) rfl ?_
  refine v_dup 120 C dX4_init_120 rfl ?_
  refine v_bipush 121 C (iZ 7) dX4_init_121 (by decide) ?_
  refine v_sipush 123 C (iZ 1951) dX4_init_123 (by decide) ?_
  refine n_iast 126 C 8 (n := 9) (by rfl) 7 (izn rfl) (by decide) (by decide) dX4_init_126 ?_
  refine v_eqw (ws' := (ws0 ++ [(a, .inr (4, [.int (iZ 200), .int (iZ 2), .int 0, .ref q1, .ref q2, .ref q3, .ref q4, .ref q5, .ref q6, .ref q7, .null, .int 0, .null, .null, .null, .long 0, .long 0, .null, .null, .null, .null, .null, .null, .null, .null, .null])), zAr kc q1 30, zAr kc q2 60, zAr kc q3 60, zAr kc q4 60, zBr kc q5 30, zBr kc q6 30, zAr kc q7 7, (q8, .inl (kc 0, 9, .inl (upd (upd (upd (upd (upd (upd (upd (upd (fun _ => 0) 0 (iZ 10000)) 1 (iZ 9808)) 2 (iZ 9239)) 3 (iZ 8315)) 4 (iZ 7071)) 5 (iZ 5556)) 6 (iZ 3827)) 7 (iZ 1951))))])) rfl ?_
  refine v_dup 127 C dX4_init_127 rfl ?_
  refine v_bipush 128 C (iZ 8) dX4_init_128 (by decide) ?_
  refine v_iconst 130 C (iZ 0) dX4_init_130 rfl ?_
  refine n_iast 131 C 8 (n := 9) (by rfl) 8 (izn rfl) (by decide) (by decide) dX4_init_131 ?_
  refine v_eqw (ws' := (ws0 ++ [(a, .inr (4, [.int (iZ 200), .int (iZ 2), .int 0, .ref q1, .ref q2, .ref q3, .ref q4, .ref q5, .ref q6, .ref q7, .null, .int 0, .null, .null, .null, .long 0, .long 0, .null, .null, .null, .null, .null, .null, .null, .null, .null])), zAr kc q1 30, zAr kc q2 60, zAr kc q3 60, zAr kc q4 60, zBr kc q5 30, zBr kc q6 30, zAr kc q7 7, (q8, .inl (kc 0, 9, .inl (upd (upd (upd (upd (upd (upd (upd (upd (upd (fun _ => 0) 0 (iZ 10000)) 1 (iZ 9808)) 2 (iZ 9239)) 3 (iZ 8315)) 4 (iZ 7071)) 5 (iZ 5556)) 6 (iZ 3827)) 7 (iZ 1951)) 8 (iZ 0))))])) rfl ?_
  refine n_putF 132 C hI 0 (by rfl) rfl inGX4 tyX4 tyX4_ok nmX4 10 (by decide) rfl rfl lk_509 rfl rfl (Nat.le_of_ble_eq_true rfl) dX4_init_132 ?_
  refine v_eqw (ws' := (ws0 ++ [(a, .inr (4, [.int (iZ 200), .int (iZ 2), .int 0, .ref q1, .ref q2, .ref q3, .ref q4, .ref q5, .ref q6, .ref q7, .ref q8, .int 0, .null, .null, .null, .long 0, .long 0, .null, .null, .null, .null, .null, .null, .null, .null, .null])), zAr kc q1 30, zAr kc q2 60, zAr kc q3 60, zAr kc q4 60, zBr kc q5 30, zBr kc q6 30, zAr kc q7 7, (q8, .inl (kc 0, 9, .inl (upd (upd (upd (upd (upd (upd (upd (upd (upd (fun _ => 0) 0 (iZ 10000)) 1 (iZ 9808)) 2 (iZ 9239)) 3 (iZ 8315)) 4 (iZ 7071)) 5 (iZ 5556)) 6 (iZ 3827)) 7 (iZ 1951)) 8 (iZ 0))))])) rfl ?_
  refine v_aload_n 135 0 C dX4_init_135 rfl ?_
  refine v_bipush 136 C (iZ 30) dX4_init_136 (by decide) ?_
  refine n_newal 138 C hA 30 (izn rfl) (by decide) ⟨Nat.le_of_ble_eq_true rfl, Nat.le_of_ble_eq_true rfl⟩ dX4_init_138 (fun q9 => ?_)
  refine v_eqw (ws' := (ws0 ++ [(a, .inr (4, [.int (iZ 200), .int (iZ 2), .int 0, .ref q1, .ref q2, .ref q3, .ref q4, .ref q5, .ref q6, .ref q7, .ref q8, .int 0, .null, .null, .null, .long 0, .long 0, .null, .null, .null, .null, .null, .null, .null, .null, .null])), zAr kc q1 30, zAr kc q2 60, zAr kc q3 60, zAr kc q4 60, zBr kc q5 30, zBr kc q6 30, zAr kc q7 7, (q8, .inl (kc 0, 9, .inl (upd (upd (upd (upd (upd (upd (upd (upd (upd (fun _ => 0) 0 (iZ 10000)) 1 (iZ 9808)) 2 (iZ 9239)) 3 (iZ 8315)) 4 (iZ 7071)) 5 (iZ 5556)) 6 (iZ 3827)) 7 (iZ 1951)) 8 (iZ 0)))), zLr kc q9 30])) (ap_sa rfl) ?_
  refine n_putF 140 C hI 0 (by rfl) rfl inGX4 tyX4 tyX4_ok nmX4 12 (by decide) rfl rfl lk_511 rfl rfl (Nat.le_of_ble_eq_true rfl) dX4_init_140 ?_
  refine v_eqw (ws' := (ws0 ++ [(a, .inr (4, [.int (iZ 200), .int (iZ 2), .int 0, .ref q1, .ref q2, .ref q3, .ref q4, .ref q5, .ref q6, .ref q7, .ref q8, .int 0, .ref q9, .null, .null, .long 0, .long 0, .null, .null, .null, .null, .null, .null, .null, .null, .null])), zAr kc q1 30, zAr kc q2 60, zAr kc q3 60, zAr kc q4 60, zBr kc q5 30, zBr kc q6 30, zAr kc q7 7, (q8, .inl (kc 0, 9, .inl (upd (upd (upd (upd (upd (upd (upd (upd (upd (fun _ => 0) 0 (iZ 10000)) 1 (iZ 9808)) 2 (iZ 9239)) 3 (iZ 8315)) 4 (iZ 7071)) 5 (iZ 5556)) 6 (iZ 3827)) 7 (iZ 1951)) 8 (iZ 0)))), zLr kc q9 30])) rfl ?_
  refine v_aload_n 143 0 C dX4_init_143 rfl ?_
  refine v_bipush 144 C (iZ 30) dX4_init_144 (by decide) ?_
  refine n_newal 146 C hA 30 (izn rfl) (by decide) ⟨Nat.le_of_ble_eq_true rfl, Nat.le_of_ble_eq_true rfl⟩ dX4_init_146 (fun q10 => ?_)
  refine v_eqw (ws' := (ws0 ++ [(a, .inr (4, [.int (iZ 200), .int (iZ 2), .int 0, .ref q1, .ref q2, .ref q3, .ref q4, .ref q5, .ref q6, .ref q7, .ref q8, .int 0, .ref q9, .null, .null, .long 0, .long 0, .null, .null, .null, .null, .null, .null, .null, .null, .null])), zAr kc q1 30, zAr kc q2 60, zAr kc q3 60, zAr kc q4 60, zBr kc q5 30, zBr kc q6 30, zAr kc q7 7, (q8, .inl (kc 0, 9, .inl (upd (upd (upd (upd (upd (upd (upd (upd (upd (fun _ => 0) 0 (iZ 10000)) 1 (iZ 9808)) 2 (iZ 9239)) 3 (iZ 8315)) 4 (iZ 7071)) 5 (iZ 5556)) 6 (iZ 3827)) 7 (iZ 1951)) 8 (iZ 0)))), zLr kc q9 30, zLr kc q10 30])) (ap_sa rfl) ?_
  refine n_putF 148 C hI 0 (by rfl) rfl inGX4 tyX4 tyX4_ok nmX4 13 (by decide) rfl rfl lk_512 rfl rfl (Nat.le_of_ble_eq_true rfl) dX4_init_148 ?_
  refine v_eqw (ws' := (ws0 ++ [(a, .inr (4, [.int (iZ 200), .int (iZ 2), .int 0, .ref q1, .ref q2, .ref q3, .ref q4, .ref q5, .ref q6, .ref q7, .ref q8, .int 0, .ref q9, .ref q10, .null, .long 0, .long 0, .null, .null, .null, .null, .null, .null, .null, .null, .null])), zAr kc q1 30, zAr kc q2 60, zAr kc q3 60, zAr kc q4 60, zBr kc q5 30, zBr kc q6 30, zAr kc q7 7, (q8, .inl (kc 0, 9, .inl (upd (upd (upd (upd (upd (upd (upd (upd (upd (fun _ => 0) 0 (iZ 10000)) 1 (iZ 9808)) 2 (iZ 9239)) 3 (iZ 8315)) 4 (iZ 7071)) 5 (iZ 5556)) 6 (iZ 3827)) 7 (iZ 1951)) 8 (iZ 0)))), zLr kc q9 30, zLr kc q10 30])) rfl ?_
  refine v_aload_n 151 0 C dX4_init_151 rfl ?_
  refine v_bipush 152 C (iZ 30) dX4_init_152 (by decide) ?_
  refine n_newaz 154 C hA 30 (izn rfl) (by decide) ⟨Nat.le_of_ble_eq_true rfl, Nat.le_of_ble_eq_true rfl⟩ dX4_init_154 (fun q11 => ?_)
  refine v_eqw (ws' := (ws0 ++ [(a, .inr (4, [.int (iZ 200), .int (iZ 2), .int 0, .ref q1, .ref q2, .ref q3, .ref q4, .ref q5, .ref q6, .ref q7, .ref q8, .int 0, .ref q9, .ref q10, .null, .long 0, .long 0, .null, .null, .null, .null, .null, .null, .null, .null, .null])), zAr kc q1 30, zAr kc q2 60, zAr kc q3 60, zAr kc q4 60, zBr kc q5 30, zBr kc q6 30, zAr kc q7 7, (q8, .inl (kc 0, 9, .inl (upd (upd (upd (upd (upd (upd (upd (upd (upd (fun _ => 0) 0 (iZ 10000)) 1 (iZ 9808)) 2 (iZ 9239)) 3 (iZ 8315)) 4 (iZ 7071)) 5 (iZ 5556)) 6 (iZ 3827)) 7 (iZ 1951)) 8 (iZ 0)))), zLr kc q9 30, zLr kc q10 30, zBr kc q11 30])) (ap_sa rfl) ?_
  refine n_putF 156 C hI 0 (by rfl) rfl inGX4 tyX4 tyX4_ok nmX4 14 (by decide) rfl rfl lk_513 rfl rfl (Nat.le_of_ble_eq_true rfl) dX4_init_156 ?_
  refine v_eqw (ws' := (ws0 ++ [(a, .inr (4, [.int (iZ 200), .int (iZ 2), .int 0, .ref q1, .ref q2, .ref q3, .ref q4, .ref q5, .ref q6, .ref q7, .ref q8, .int 0, .ref q9, .ref q10, .ref q11, .long 0, .long 0, .null, .null, .null, .null, .null, .null, .null, .null, .null])), zAr kc q1 30, zAr kc q2 60, zAr kc q3 60, zAr kc q4 60, zBr kc q5 30, zBr kc q6 30, zAr kc q7 7, (q8, .inl (kc 0, 9, .inl (upd (upd (upd (upd (upd (upd (upd (upd (upd (fun _ => 0) 0 (iZ 10000)) 1 (iZ 9808)) 2 (iZ 9239)) 3 (iZ 8315)) 4 (iZ 7071)) 5 (iZ 5556)) 6 (iZ 3827)) 7 (iZ 1951)) 8 (iZ 0)))), zLr kc q9 30, zLr kc q10 30, zBr kc q11 30])) rfl ?_
  refine v_aload_n 159 0 C dX4_init_159 rfl ?_
  refine v_bipush 160 C (iZ 32) dX4_init_160 (by decide) ?_
  refine n_newai 162 C hA 32 (izn rfl) (by decide) ⟨Nat.le_of_ble_eq_true rfl, Nat.le_of_ble_eq_true rfl⟩ dX4_init_162 (fun q12 => ?_)
  refine v_eqw (ws' := (ws0 ++ [(a, .inr (4, [.int (iZ 200), .int (iZ 2), .int 0, .ref q1, .ref q2, .ref q3, .ref q4, .ref q5, .ref q6, .ref q7, .ref q8, .int 0, .ref q9, .ref q10, .ref q11, .long 0, .long 0, .null, .null, .null, .null, .null, .null, .null, .null, .null])), zAr kc q1 30, zAr kc q2 60, zAr kc q3 60, zAr kc q4 60, zBr kc q5 30, zBr kc q6 30, zAr kc q7 7, (q8, .inl (kc 0, 9, .inl (upd (upd (upd (upd (upd (upd (upd (upd (upd (fun _ => 0) 0 (iZ 10000)) 1 (iZ 9808)) 2 (iZ 9239)) 3 (iZ 8315)) 4 (iZ 7071)) 5 (iZ 5556)) 6 (iZ 3827)) 7 (iZ 1951)) 8 (iZ 0)))), zLr kc q9 30, zLr kc q10 30, zBr kc q11 30, zAr kc q12 32])) (ap_sa rfl) ?_
  refine n_putF 164 C hI 0 (by rfl) rfl inGX4 tyX4 tyX4_ok nmX4 17 (by decide) rfl rfl lk_516 rfl rfl (Nat.le_of_ble_eq_true rfl) dX4_init_164 ?_
  refine v_eqw (ws' := (ws0 ++ [(a, .inr (4, [.int (iZ 200), .int (iZ 2), .int 0, .ref q1, .ref q2, .ref q3, .ref q4, .ref q5, .ref q6, .ref q7, .ref q8, .int 0, .ref q9, .ref q10, .ref q11, .long 0, .long 0, .ref q12, .null, .null, .null, .null, .null, .null, .null, .null])), zAr kc q1 30, zAr kc q2 60, zAr kc q3 60, zAr kc q4 60, zBr kc q5 30, zBr kc q6 30, zAr kc q7 7, (q8, .inl (kc 0, 9, .inl (upd (upd (upd (upd (upd (upd (upd (upd (upd (fun _ => 0) 0 (iZ 10000)) 1 (iZ 9808)) 2 (iZ 9239)) 3 (iZ 8315)) 4 (iZ 7071)) 5 (iZ 5556)) 6 (iZ 3827)) 7 (iZ 1951)) 8 (iZ 0)))), zLr kc q9 30, zLr kc q10 30, zBr kc q11 30, zAr kc q12 32])) rfl ?_
  refine v_aload_n 167 0 C dX4_init_167 rfl ?_
  refine v_bipush 168 C (iZ 62) dX4_init_168 (by decide) ?_
  refine n_newal 170 C hA 62 (izn rfl) (by decide) ⟨Nat.le_of_ble_eq_true rfl, Nat.le_of_ble_eq_true rfl⟩ dX4_init_170 (fun q13 => ?_)
  refine v_eqw (ws' := (ws0 ++ [(a, .inr (4, [.int (iZ 200), .int (iZ 2), .int 0, .ref q1, .ref q2, .ref q3, .ref q4, .ref q5, .ref q6, .ref q7, .ref q8, .int 0, .ref q9, .ref q10, .ref q11, .long 0, .long 0, .ref q12, .null, .null, .null, .null, .null, .null, .null, .null])), zAr kc q1 30, zAr kc q2 60, zAr kc q3 60, zAr kc q4 60, zBr kc q5 30, zBr kc q6 30, zAr kc q7 7, (q8, .inl (kc 0, 9, .inl (upd (upd (upd (upd (upd (upd (upd (upd (upd (fun _ => 0) 0 (iZ 10000)) 1 (iZ 9808)) 2 (iZ 9239)) 3 (iZ 8315)) 4 (iZ 7071)) 5 (iZ 5556)) 6 (iZ 3827)) 7 (iZ 1951)) 8 (iZ 0)))), zLr kc q9 30, zLr kc q10 30, zBr kc q11 30, zAr kc q12 32, zLr kc q13 62])) (ap_sa rfl) ?_
  refine n_putF 172 C hI 0 (by rfl) rfl inGX4 tyX4 tyX4_ok nmX4 18 (by decide) rfl rfl lk_517 rfl rfl (Nat.le_of_ble_eq_true rfl) dX4_init_172 ?_
  refine v_eqw (ws' := (ws0 ++ [(a, .inr (4, [.int (iZ 200), .int (iZ 2), .int 0, .ref q1, .ref q2, .ref q3, .ref q4, .ref q5, .ref q6, .ref q7, .ref q8, .int 0, .ref q9, .ref q10, .ref q11, .long 0, .long 0, .ref q12, .ref q13, .null, .null, .null, .null, .null, .null, .null])), zAr kc q1 30, zAr kc q2 60, zAr kc q3 60, zAr kc q4 60, zBr kc q5 30, zBr kc q6 30, zAr kc q7 7, (q8, .inl (kc 0, 9, .inl (upd (upd (upd (upd (upd (upd (upd (upd (upd (fun _ => 0) 0 (iZ 10000)) 1 (iZ 9808)) 2 (iZ 9239)) 3 (iZ 8315)) 4 (iZ 7071)) 5 (iZ 5556)) 6 (iZ 3827)) 7 (iZ 1951)) 8 (iZ 0)))), zLr kc q9 30, zLr kc q10 30, zBr kc q11 30, zAr kc q12 32, zLr kc q13 62])) rfl ?_
  refine v_aload_n 175 0 C dX4_init_175 rfl ?_
  refine v_bipush 176 C (iZ 62) dX4_init_176 (by decide) ?_
  refine n_newal 178 C hA 62 (izn rfl) (by decide) ⟨Nat.le_of_ble_eq_true rfl, Nat.le_of_ble_eq_true rfl⟩ dX4_init_178 (fun q14 => ?_)
  refine v_eqw (ws' := (ws0 ++ [(a, .inr (4, [.int (iZ 200), .int (iZ 2), .int 0, .ref q1, .ref q2, .ref q3, .ref q4, .ref q5, .ref q6, .ref q7, .ref q8, .int 0, .ref q9, .ref q10, .ref q11, .long 0, .long 0, .ref q12, .ref q13, .null, .null, .null, .null, .null, .null, .null])), zAr kc q1 30, zAr kc q2 60, zAr kc q3 60, zAr kc q4 60, zBr kc q5 30, zBr kc q6 30, zAr kc q7 7, (q8, .inl (kc 0, 9, .inl (upd (upd (upd (upd (upd (upd (upd (upd (upd (fun _ => 0) 0 (iZ 10000)) 1 (iZ 9808)) 2 (iZ 9239)) 3 (iZ 8315)) 4 (iZ 7071)) 5 (iZ 5556)) 6 (iZ 3827)) 7 (iZ 1951)) 8 (iZ 0)))), zLr kc q9 30, zLr kc q10 30, zBr kc q11 30, zAr kc q12 32, zLr kc q13 62, zLr kc q14 62])) (ap_sa rfl) ?_
  refine n_putF 180 C hI 0 (by rfl) rfl inGX4 tyX4 tyX4_ok nmX4 19 (by decide) rfl rfl lk_518 rfl rfl (Nat.le_of_ble_eq_true rfl) dX4_init_180 ?_
  refine v_eqw (ws' := (ws0 ++ [(a, .inr (4, [.int (iZ 200), .int (iZ 2), .int 0, .ref q1, .ref q2, .ref q3, .ref q4, .ref q5, .ref q6, .ref q7, .ref q8, .int 0, .ref q9, .ref q10, .ref q11, .long 0, .long 0, .ref q12, .ref q13, .ref q14, .null, .null, .null, .null, .null, .null])), zAr kc q1 30, zAr kc q2 60, zAr kc q3 60, zAr kc q4 60, zBr kc q5 30, zBr kc q6 30, zAr kc q7 7, (q8, .inl (kc 0, 9, .inl (upd (upd (upd (upd (upd (upd (upd (upd (upd (fun _ => 0) 0 (iZ 10000)) 1 (iZ 9808)) 2 (iZ 9239)) 3 (iZ 8315)) 4 (iZ 7071)) 5 (iZ 5556)) 6 (iZ 3827)) 7 (iZ 1951)) 8 (iZ 0)))), zLr kc q9 30, zLr kc q10 30, zBr kc q11 30, zAr kc q12 32, zLr kc q13 62, zLr kc q14 62])) rfl ?_
  refine v_aload_n 183 0 C dX4_init_183 rfl ?_
  refine v_bipush 184 C (iZ 62) dX4_init_184 (by decide) ?_
  refine n_newal 186 C hA 62 (izn rfl) (by decide) ⟨Nat.le_of_ble_eq_true rfl, Nat.le_of_ble_eq_true rfl⟩ dX4_init_186 (fun q15 => ?_)
  refine v_eqw (ws' := (ws0 ++ [(a, .inr (4, [.int (iZ 200), .int (iZ 2), .int 0, .ref q1, .ref q2, .ref q3, .ref q4, .ref q5, .ref q6, .ref q7, .ref q8, .int 0, .ref q9, .ref q10, .ref q11, .long 0, .long 0, .ref q12, .ref q13, .ref q14, .null, .null, .null, .null, .null, .null])), zAr kc q1 30, zAr kc q2 60, zAr kc q3 60, zAr kc q4 60, zBr kc q5 30, zBr kc q6 30, zAr kc q7 7, (q8, .inl (kc 0, 9, .inl (upd (upd (upd (upd (upd (upd (upd (upd (upd (fun _ => 0) 0 (iZ 10000)) 1 (iZ 9808)) 2 (iZ 9239)) 3 (iZ 8315)) 4 (iZ 7071)) 5 (iZ 5556)) 6 (iZ 3827)) 7 (iZ 1951)) 8 (iZ 0)))), zLr kc q9 30, zLr kc q10 30, zBr kc q11 30, zAr kc q12 32, zLr kc q13 62, zLr kc q14 62, zLr kc q15 62])) (ap_sa rfl) ?_
  refine n_putF 188 C hI 0 (by rfl) rfl inGX4 tyX4 tyX4_ok nmX4 20 (by decide) rfl rfl lk_519 rfl rfl (Nat.le_of_ble_eq_true rfl) dX4_init_188 ?_
  refine v_eqw (ws' := (ws0 ++ [(a, .inr (4, [.int (iZ 200), .int (iZ 2), .int 0, .ref q1, .ref q2, .ref q3, .ref q4, .ref q5, .ref q6, .ref q7, .ref q8, .int 0, .ref q9, .ref q10, .ref q11, .long 0, .long 0, .ref q12, .ref q13, .ref q14, .ref q15, .null, .null, .null, .null, .null])), zAr kc q1 30, zAr kc q2 60, zAr kc q3 60, zAr kc q4 60, zBr kc q5 30, zBr kc q6 30, zAr kc q7 7, (q8, .inl (kc 0, 9, .inl (upd (upd (upd (upd (upd (upd (upd (upd (upd (fun _ => 0) 0 (iZ 10000)) 1 (iZ 9808)) 2 (iZ 9239)) 3 (iZ 8315)) 4 (iZ 7071)) 5 (iZ 5556)) 6 (iZ 3827)) 7 (iZ 1951)) 8 (iZ 0)))), zLr kc q9 30, zLr kc q10 30, zBr kc q11 30, zAr kc q12 32, zLr kc q13 62, zLr kc q14 62, zLr kc q15 62])) rfl ?_
  refine v_aload_n 191 0 C dX4_init_191 rfl ?_
  refine v_bipush 192 C (iZ 62) dX4_init_192 (by decide) ?_
  refine n_newal 194 C hA 62 (izn rfl) (by decide) ⟨Nat.le_of_ble_eq_true rfl, Nat.le_of_ble_eq_true rfl⟩ dX4_init_194 (fun q16 => ?_)
  refine v_eqw (ws' := (ws0 ++ [(a, .inr (4, [.int (iZ 200), .int (iZ 2), .int 0, .ref q1, .ref q2, .ref q3, .ref q4, .ref q5, .ref q6, .ref q7, .ref q8, .int 0, .ref q9, .ref q10, .ref q11, .long 0, .long 0, .ref q12, .ref q13, .ref q14, .ref q15, .null, .null, .null, .null, .null])), zAr kc q1 30, zAr kc q2 60, zAr kc q3 60, zAr kc q4 60, zBr kc q5 30, zBr kc q6 30, zAr kc q7 7, (q8, .inl (kc 0, 9, .inl (upd (upd (upd (upd (upd (upd (upd (upd (upd (fun _ => 0) 0 (iZ 10000)) 1 (iZ 9808)) 2 (iZ 9239)) 3 (iZ 8315)) 4 (iZ 7071)) 5 (iZ 5556)) 6 (iZ 3827)) 7 (iZ 1951)) 8 (iZ 0)))), zLr kc q9 30, zLr kc q10 30, zBr kc q11 30, zAr kc q12 32, zLr kc q13 62, zLr kc q14 62, zLr kc q15 62, zLr kc q16 62])) (ap_sa rfl) ?_
  refine n_putF 196 C hI 0 (by rfl) rfl inGX4 tyX4 tyX4_ok nmX4 21 (by decide) rfl rfl lk_520 rfl rfl (Nat.le_of_ble_eq_true rfl) dX4_init_196 ?_
  refine v_eqw (ws' := (ws0 ++ [(a, .inr (4, [.int (iZ 200), .int (iZ 2), .int 0, .ref q1, .ref q2, .ref q3, .ref q4, .ref q5, .ref q6, .ref q7, .ref q8, .int 0, .ref q9, .ref q10, .ref q11, .long 0, .long 0, .ref q12, .ref q13, .ref q14, .ref q15, .ref q16, .null, .null, .null, .null])), zAr kc q1 30, zAr kc q2 60, zAr kc q3 60, zAr kc q4 60, zBr kc q5 30, zBr kc q6 30, zAr kc q7 7, (q8, .inl (kc 0, 9, .inl (upd (upd (upd (upd (upd (upd (upd (upd (upd (fun _ => 0) 0 (iZ 10000)) 1 (iZ 9808)) 2 (iZ 9239)) 3 (iZ 8315)) 4 (iZ 7071)) 5 (iZ 5556)) 6 (iZ 3827)) 7 (iZ 1951)) 8 (iZ 0)))), zLr kc q9 30, zLr kc q10 30, zBr kc q11 30, zAr kc q12 32, zLr kc q13 62, zLr kc q14 62, zLr kc q15 62, zLr kc q16 62])) rfl ?_
  refine v_aload_n 199 0 C dX4_init_199 rfl ?_
  refine v_bipush 200 C (iZ 62) dX4_init_200 (by decide) ?_
  refine n_newaz 202 C hA 62 (izn rfl) (by decide) ⟨Nat.le_of_ble_eq_true rfl, Nat.le_of_ble_eq_true rfl⟩ dX4_init_202 (fun q17 => ?_)
  refine v_eqw (ws' := (ws0 ++ [(a, .inr (4, [.int (iZ 200), .int (iZ 2), .int 0, .ref q1, .ref q2, .ref q3, .ref q4, .ref q5, .ref q6, .ref q7, .ref q8, .int 0, .ref q9, .ref q10, .ref q11, .long 0, .long 0, .ref q12, .ref q13, .ref q14, .ref q15, .ref q16, .null, .null, .null, .null])), zAr kc q1 30, zAr kc q2 60, zAr kc q3 60, zAr kc q4 60, zBr kc q5 30, zBr kc q6 30, zAr kc q7 7, (q8, .inl (kc 0, 9, .inl (upd (upd (upd (upd (upd (upd (upd (upd (upd (fun _ => 0) 0 (iZ 10000)) 1 (iZ 9808)) 2 (iZ 9239)) 3 (iZ 8315)) 4 (iZ 7071)) 5 (iZ 5556)) 6 (iZ 3827)) 7 (iZ 1951)) 8 (iZ 0)))), zLr kc q9 30, zLr kc q10 30, zBr kc q11 30, zAr kc q12 32, zLr kc q13 62, zLr kc q14 62, zLr kc q15 62, zLr kc q16 62, zBr kc q17 62])) (ap_sa rfl) ?_
  refine n_putF 204 C hI 0 (by rfl) rfl inGX4 tyX4 tyX4_ok nmX4 22 (by decide) rfl rfl lk_521 rfl rfl (Nat.le_of_ble_eq_true rfl) dX4_init_204 ?_
  refine v_eqw (ws' := (ws0 ++ [(a, .inr (4, [.int (iZ 200), .int (iZ 2), .int 0, .ref q1, .ref q2, .ref q3, .ref q4, .ref q5, .ref q6, .ref q7, .ref q8, .int 0, .ref q9, .ref q10, .ref q11, .long 0, .long 0, .ref q12, .ref q13, .ref q14, .ref q15, .ref q16, .ref q17, .null, .null, .null])), zAr kc q1 30, zAr kc q2 60, zAr kc q3 60, zAr kc q4 60, zBr kc q5 30, zBr kc q6 30, zAr kc q7 7, (q8, .inl (kc 0, 9, .inl (upd (upd (upd (upd (upd (upd (upd (upd (upd (fun _ => 0) 0 (iZ 10000)) 1 (iZ 9808)) 2 (iZ 9239)) 3 (iZ 8315)) 4 (iZ 7071)) 5 (iZ 5556)) 6 (iZ 3827)) 7 (iZ 1951)) 8 (iZ 0)))), zLr kc q9 30, zLr kc q10 30, zBr kc q11 30, zAr kc q12 32, zLr kc q13 62, zLr kc q14 62, zLr kc q15 62, zLr kc q16 62, zBr kc q17 62])) rfl ?_
  refine v_aload_n 207 0 C dX4_init_207 rfl ?_
  refine v_bipush 208 C (iZ 30) dX4_init_208 (by decide) ?_
  refine n_newal 210 C hA 30 (izn rfl) (by decide) ⟨Nat.le_of_ble_eq_true rfl, Nat.le_of_ble_eq_true rfl⟩ dX4_init_210 (fun q18 => ?_)
  refine v_eqw (ws' := (ws0 ++ [(a, .inr (4, [.int (iZ 200), .int (iZ 2), .int 0, .ref q1, .ref q2, .ref q3, .ref q4, .ref q5, .ref q6, .ref q7, .ref q8, .int 0, .ref q9, .ref q10, .ref q11, .long 0, .long 0, .ref q12, .ref q13, .ref q14, .ref q15, .ref q16, .ref q17, .null, .null, .null])), zAr kc q1 30, zAr kc q2 60, zAr kc q3 60, zAr kc q4 60, zBr kc q5 30, zBr kc q6 30, zAr kc q7 7, (q8, .inl (kc 0, 9, .inl (upd (upd (upd (upd (upd (upd (upd (upd (upd (fun _ => 0) 0 (iZ 10000)) 1 (iZ 9808)) 2 (iZ 9239)) 3 (iZ 8315)) 4 (iZ 7071)) 5 (iZ 5556)) 6 (iZ 3827)) 7 (iZ 1951)) 8 (iZ 0)))), zLr kc q9 30, zLr kc q10 30, zBr kc q11 30, zAr kc q12 32, zLr kc q13 62, zLr kc q14 62, zLr kc q15 62, zLr kc q16 62, zBr kc q17 62, zLr kc q18 30])) (ap_sa rfl) ?_
  refine n_putF 212 C hI 0 (by rfl) rfl inGX4 tyX4 tyX4_ok nmX4 23 (by decide) rfl rfl lk_522 rfl rfl (Nat.le_of_ble_eq_true rfl) dX4_init_212 ?_
  refine v_eqw (ws' := (ws0 ++ [(a, .inr (4, [.int (iZ 200), .int (iZ 2), .int 0, .ref q1, .ref q2, .ref q3, .ref q4, .ref q5, .ref q6, .ref q7, .ref q8, .int 0, .ref q9, .ref q10, .ref q11, .long 0, .long 0, .ref q12, .ref q13, .ref q14, .ref q15, .ref q16, .ref q17, .ref q18, .null, .null])), zAr kc q1 30, zAr kc q2 60, zAr kc q3 60, zAr kc q4 60, zBr kc q5 30, zBr kc q6 30, zAr kc q7 7, (q8, .inl (kc 0, 9, .inl (upd (upd (upd (upd (upd (upd (upd (upd (upd (fun _ => 0) 0 (iZ 10000)) 1 (iZ 9808)) 2 (iZ 9239)) 3 (iZ 8315)) 4 (iZ 7071)) 5 (iZ 5556)) 6 (iZ 3827)) 7 (iZ 1951)) 8 (iZ 0)))), zLr kc q9 30, zLr kc q10 30, zBr kc q11 30, zAr kc q12 32, zLr kc q13 62, zLr kc q14 62, zLr kc q15 62, zLr kc q16 62, zBr kc q17 62, zLr kc q18 30])) rfl ?_
  refine v_aload_n 215 0 C dX4_init_215 rfl ?_
  refine v_bipush 216 C (iZ 30) dX4_init_216 (by decide) ?_
  refine n_newal 218 C hA 30 (izn rfl) (by decide) ⟨Nat.le_of_ble_eq_true rfl, Nat.le_of_ble_eq_true rfl⟩ dX4_init_218 (fun q19 => ?_)
  refine v_eqw (ws' := (ws0 ++ [(a, .inr (4, [.int (iZ 200), .int (iZ 2), .int 0, .ref q1, .ref q2, .ref q3, .ref q4, .ref q5, .ref q6, .ref q7, .ref q8, .int 0, .ref q9, .ref q10, .ref q11, .long 0, .long 0, .ref q12, .ref q13, .ref q14, .ref q15, .ref q16, .ref q17, .ref q18, .null, .null])), zAr kc q1 30, zAr kc q2 60, zAr kc q3 60, zAr kc q4 60, zBr kc q5 30, zBr kc q6 30, zAr kc q7 7, (q8, .inl (kc 0, 9, .inl (upd (upd (upd (upd (upd (upd (upd (upd (upd (fun _ => 0) 0 (iZ 10000)) 1 (iZ 9808)) 2 (iZ 9239)) 3 (iZ 8315)) 4 (iZ 7071)) 5 (iZ 5556)) 6 (iZ 3827)) 7 (iZ 1951)) 8 (iZ 0)))), zLr kc q9 30, zLr kc q10 30, zBr kc q11 30, zAr kc q12 32, zLr kc q13 62, zLr kc q14 62, zLr kc q15 62, zLr kc q16 62, zBr kc q17 62, zLr kc q18 30, zLr kc q19 30])) (ap_sa rfl) ?_
  refine n_putF 220 C hI 0 (by rfl) rfl inGX4 tyX4 tyX4_ok nmX4 24 (by decide) rfl rfl lk_523 rfl rfl (Nat.le_of_ble_eq_true rfl) dX4_init_220 ?_
  refine v_eqw (ws' := (ws0 ++ [(a, .inr (4, [.int (iZ 200), .int (iZ 2), .int 0, .ref q1, .ref q2, .ref q3, .ref q4, .ref q5, .ref q6, .ref q7, .ref q8, .int 0, .ref q9, .ref q10, .ref q11, .long 0, .long 0, .ref q12, .ref q13, .ref q14, .ref q15, .ref q16, .ref q17, .ref q18, .ref q19, .null])), zAr kc q1 30, zAr kc q2 60, zAr kc q3 60, zAr kc q4 60, zBr kc q5 30, zBr kc q6 30, zAr kc q7 7, (q8, .inl (kc 0, 9, .inl (upd (upd (upd (upd (upd (upd (upd (upd (upd (fun _ => 0) 0 (iZ 10000)) 1 (iZ 9808)) 2 (iZ 9239)) 3 (iZ 8315)) 4 (iZ 7071)) 5 (iZ 5556)) 6 (iZ 3827)) 7 (iZ 1951)) 8 (iZ 0)))), zLr kc q9 30, zLr kc q10 30, zBr kc q11 30, zAr kc q12 32, zLr kc q13 62, zLr kc q14 62, zLr kc q15 62, zLr kc q16 62, zBr kc q17 62, zLr kc q18 30, zLr kc q19 30])) rfl ?_
  refine v_aload_n 223 0 C dX4_init_223 rfl ?_
  refine v_bipush 224 C (iZ 30) dX4_init_224 (by decide) ?_
  refine n_newaz 226 C hA 30 (izn rfl) (by decide) ⟨Nat.le_of_ble_eq_true rfl, Nat.le_of_ble_eq_true rfl⟩ dX4_init_226 (fun q20 => ?_)
  refine v_eqw (ws' := (ws0 ++ [(a, .inr (4, [.int (iZ 200), .int (iZ 2), .int 0, .ref q1, .ref q2, .ref q3, .ref q4, .ref q5, .ref q6, .ref q7, .ref q8, .int 0, .ref q9, .ref q10, .ref q11, .long 0, .long 0, .ref q12, .ref q13, .ref q14, .ref q15, .ref q16, .ref q17, .ref q18, .ref q19, .null])), zAr kc q1 30, zAr kc q2 60, zAr kc q3 60, zAr kc q4 60, zBr kc q5 30, zBr kc q6 30, zAr kc q7 7, (q8, .inl (kc 0, 9, .inl (upd (upd (upd (upd (upd (upd (upd (upd (upd (fun _ => 0) 0 (iZ 10000)) 1 (iZ 9808)) 2 (iZ 9239)) 3 (iZ 8315)) 4 (iZ 7071)) 5 (iZ 5556)) 6 (iZ 3827)) 7 (iZ 1951)) 8 (iZ 0)))), zLr kc q9 30, zLr kc q10 30, zBr kc q11 30, zAr kc q12 32, zLr kc q13 62, zLr kc q14 62, zLr kc q15 62, zLr kc q16 62, zBr kc q17 62, zLr kc q18 30, zLr kc q19 30, zBr kc q20 30])) (ap_sa rfl) ?_
  refine n_putF 228 C hI 0 (by rfl) rfl inGX4 tyX4 tyX4_ok nmX4 25 (by decide) rfl rfl lk_524 rfl rfl (Nat.le_of_ble_eq_true rfl) dX4_init_228 ?_
  refine v_eqw (ws' := (ws0 ++ [(a, .inr (4, [.int (iZ 200), .int (iZ 2), .int 0, .ref q1, .ref q2, .ref q3, .ref q4, .ref q5, .ref q6, .ref q7, .ref q8, .int 0, .ref q9, .ref q10, .ref q11, .long 0, .long 0, .ref q12, .ref q13, .ref q14, .ref q15, .ref q16, .ref q17, .ref q18, .ref q19, .ref q20])), zAr kc q1 30, zAr kc q2 60, zAr kc q3 60, zAr kc q4 60, zBr kc q5 30, zBr kc q6 30, zAr kc q7 7, (q8, .inl (kc 0, 9, .inl (upd (upd (upd (upd (upd (upd (upd (upd (upd (fun _ => 0) 0 (iZ 10000)) 1 (iZ 9808)) 2 (iZ 9239)) 3 (iZ 8315)) 4 (iZ 7071)) 5 (iZ 5556)) 6 (iZ 3827)) 7 (iZ 1951)) 8 (iZ 0)))), zLr kc q9 30, zLr kc q10 30, zBr kc q11 30, zAr kc q12 32, zLr kc q13 62, zLr kc q14 62, zLr kc q15 62, zLr kc q16 62, zBr kc q17 62, zLr kc q18 30, zLr kc q19 30, zBr kc q20 30])) rfl ?_
  exact v_vret 231 C (⟨fun i => [a, q1, q2, q3, q4, q5, q6, q7, q8, q9, q10, q11, q12, q13, q14, q15, q16, q17, q18, q19, q20].getD i 0, rfl⟩) dX4_init_231

def adM (ad : Nat → Nat) (a : Nat) (g : Nat → Nat) : Nat → Nat := fun i => if i < 45 then ad i else if i = 45 then a else g (i - 45)
def moS (S : St) : St := (fun i k => if i < 45 ∨ 66 ≤ i then gI S i k else if i = 45 ∧ k = 0 then iZ 200 else if i = 45 ∧ k = 1 then iZ 2 else 0, fun i k => if i < 45 ∨ 66 ≤ i then gA S i k else if i = 53 then wyF k else 0, fun i k => if i < 45 ∨ 66 ≤ i then gL S i k else 0, fun i k => if i < 45 ∨ 66 ≤ i then gJ S i k else 0, fun i k => gR S i k)
theorem adM_lo {ad : Nat → Nat} {a : Nat} {g : Nat → Nat} {i : Nat} (h : i < 45) : adM ad a g i = ad i := by unfold adM; rw [if_pos h]
theorem adM_45 {ad : Nat → Nat} {a : Nat} {g : Nat → Nat} : adM ad a g 45 = a := rfl
theorem moS_C {S : St} : sameOn atC S (moS S) := fun i hi k => by
  unfold atC at hi
  refine ⟨?_, ?_, ?_, ?_, rfl⟩
  · show (if i < 45 ∨ 66 ≤ i then gI S i k else _) = _; rw [if_pos hi]
  · show (if i < 45 ∨ 66 ≤ i then gA S i k else _) = _; rw [if_pos hi]
  · show (if i < 45 ∨ 66 ≤ i then gL S i k else _) = _; rw [if_pos hi]
  · show (if i < 45 ∨ 66 ≤ i then gJ S i k else _) = _; rw [if_pos hi]
theorem moS_RM {S : St} : RM (moS S) bZ := by
  refine ⟨⟨rfl, rfl, rfl⟩, fun k hk => ?_, fun i hi => ?_, fun r hr => rfl, fun i hi => ?_⟩
  · rw [bZ_bn] at hk; omega
  · rw [bZ_bn] at hi; omega
  · show wyF i = _
    have h : i = 0 ∨ i = 1 ∨ i = 2 ∨ i = 3 ∨ i = 4 ∨ i = 5 ∨ i = 6 ∨ i = 7 ∨ i = 8 := by omega
    rcases h with rfl | rfl | rfl | rfl | rfl | rfl | rfl | rfl | rfl <;> rfl
theorem wl_66 {kc : Nat → ClassId} {ad : Nat → Nat} {S : St} (h : RZ S) (a : Nat) (g : Nat → Nat) : wl kc 45 ad S ++ moW kc a g = wl kc 66 (adM ad a g) (moS S) := by
  refine wl_app (n := 45) (k := 21) (ad := ad) (ad' := adM ad a g) (S := S) (S' := moS S) (fun i hi => adM_lo hi) (fun i hi => cell_gr (N := 45) (fun j hj => adM_lo hj) (rfs_45 i hi) (fun k => (moS_C i (Or.inl hi) k).1) (fun k => (moS_C i (Or.inl hi) k).2.1) (fun k => (moS_C i (Or.inl hi) k).2.2.1) (fun k => (moS_C i (Or.inl hi) k).2.2.2.1) (fun z k => ?_)) rfl
  show (gR S i k).map _ = (gR S i k).map _
  rcases z with z | z
  · rw [kd_1 z, (h k).1]; rfl
  · rw [kd_2 z, (h k).2]
    split
    · show some _ = some _
      rw [adM_lo (by decide)]
    · split
      · show some _ = some _
        rw [adM_lo (by decide)]
      · rfl
