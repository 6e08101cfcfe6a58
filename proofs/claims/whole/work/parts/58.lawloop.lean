set_option maxHeartbeats 4000000 in
set_option maxRecDepth 100000 in
theorem law_loop {p : Program} {l : Launch} {e : Env} {s : State} {m : MethodId} {below : List Frame} {meth : Method} {c : Code} {b0 L : Nat} {xs : Nat → Int32} {D : va_G} {kc : Nat → ClassId} (C : Cx p s m #[Value.ref b0] meth c cL_law RL 4 ret D kc) (hX : va_X b0 L xs s s.heap) (hbl : b0 < s.heap.size) (hL : L ≤ 4608) : ∀ d n : Nat, n + d = L / 9 → LWK p l e s m below meth c b0 D kc n := by
  intro d
  induction d with
  | zero =>
    intro n hn N ad S b t hN hI hC hE hM
    have hg : vg N := by show 45 ≤ N; omega
    have hm : vm N := by show 66 ≤ N; omega
    refine v_iload_n 18 0 C dL_law_18 rfl ?_
    refine v_aload_n 19 3 C dL_law_19 rfl ?_
    refine l_slen 20 C hX hbl dL_law_20 ?_
    refine v_bipush 21 C (iZ 9) dL_law_21 (by decide) ?_
    refine z_isub 23 C dL_law_23 ?_
    refine z_icmp_gt 24 853 C (by first | assumption | exact ⟨by omega, by omega⟩) (by first | assumption | exact ⟨by omega, by omega⟩) dL_law_24 (by decide) (fun c24_0 => ?_) (fun c24_0 => absurd (by omega) c24_0)
    refine v_iconst 853 C 1 dL_law_853 rfl ?_
    exact fun H locs ls hl hP hD hS => va_forget (fun q hq => hS.2.2 q hq) (W.widen (show 66 + 15 * n ≤ 600000 by omega) (show 2000 + 184 * n ≤ 7302250 by omega) (lw_ret C.1 C.2.1 C.2.2.2.2.2.2.1 C.2.2.2.2.2.2.2 dL_law_854))
  | succ d ih =>
    intro n hn N ad S b t hN hI hC hE hM
    have hg : vg N := by show 45 ≤ N; omega
    have hm : vm N := by show 66 ≤ N; omega
    have hn9 : 9 * n + 9 ≤ L := by omega
    have K := ih (n + 1) (by omega)
    refine v_iload_n 18 0 C dL_law_18 rfl ?_
    refine v_aload_n 19 3 C dL_law_19 rfl ?_
    refine l_slen 20 C hX hbl dL_law_20 ?_
    refine v_bipush 21 C (iZ 9) dL_law_21 (by decide) ?_
    refine z_isub 23 C dL_law_23 ?_
    refine z_icmp_gt 24 853 C (by first | assumption | exact ⟨by omega, by omega⟩) (by first | assumption | exact ⟨by omega, by omega⟩) dL_law_24 (by decide) (fun c24_0 => absurd c24_0 (by omega)) (fun c24_0 => ?_)
    refine v_aload_n 27 3 C dL_law_27 rfl ?_
    refine v_iload_n 28 0 C dL_law_28 rfl ?_
    refine l_sld 29 C hX hbl (9 * n) (izn (by omega)) (by omega) hL dL_law_29 ?_
    refine v_bipush 30 C (iZ 31) dL_law_30 (by decide) ?_
    refine v_iand 32 C dL_law_32 ?_
    refine v_topi (fun y _ => ?_)
    refine v_eqi (iZ y.toInt) (iZ_of y).symm ?_
    have hy := r32_of y
    generalize y.toInt = z at hy ⊢
    by_cases hr : 0 ≤ z ∧ z ≤ 18
    · have hcs : z = 0 ∨ z = 1 ∨ z = 2 ∨ z = 3 ∨ z = 4 ∨ z = 5 ∨ z = 6 ∨ z = 7 ∨ z = 8 ∨ z = 9 ∨ z = 10 ∨ z = 11 ∨ z = 12 ∨ z = 13 ∨ z = 14 ∨ z = 15 ∨ z = 16 ∨ z = 17 ∨ z = 18 := by omega
      rcases hcs with rfl | rfl | rfl | rfl | rfl | rfl | rfl | rfl | rfl | rfl | rfl | rfl | rfl | rfl | rfl | rfl | rfl | rfl | rfl
      · exact v_tabIn 33 124 C (off := 91) dL_law_33 (by decide) (by decide) (by decide) (by decide) (lw_width C hX hbl hL hn9 hN hI hC hE hM K)
      · exact v_tabIn 33 147 C (off := 114) dL_law_33 (by decide) (by decide) (by decide) (by decide) (lw_tolerance C hX hbl hL hn9 hN hI hC hE hM K)
      · exact v_tabIn 33 170 C (off := 137) dL_law_33 (by decide) (by decide) (by decide) (by decide) (lw_part C hX hbl hL hn9 hN hI hC hE hM K)
      · exact v_tabIn 33 285 C (off := 252) dL_law_33 (by decide) (by decide) (by decide) (by decide) (lw_free C hX hbl hL hn9 hN hI hC hE hM K)
      · exact v_tabIn 33 308 C (off := 275) dL_law_33 (by decide) (by decide) (by decide) (by decide) (lw_hinge C hX hbl hL hn9 hN hI hC hE hM K)
      · exact v_tabIn 33 367 C (off := 334) dL_law_33 (by decide) (by decide) (by decide) (by decide) (lw_crease C hX hbl hL hn9 hN hI hC hE hM K)
      · exact v_tabIn 33 410 C (off := 377) dL_law_33 (by decide) (by decide) (by decide) (by decide) (lw_place C hX hbl hL hn9 hN hI hC hE hM K)
      · exact v_tabIn 33 463 C (off := 430) dL_law_33 (by decide) (by decide) (by decide) (by decide) (lw_miss C hX hbl hL hn9 hN hI hC hE hM K)
      · exact v_tabIn 33 496 C (off := 463) dL_law_33 (by decide) (by decide) (by decide) (by decide) (lw_stuck C hX hbl hL hn9 hN hI hC hE hM K)
      · exact v_tabIn 33 519 C (off := 486) dL_law_33 (by decide) (by decide) (by decide) (by decide) (lw_out C hX hbl hL hn9 hN hI hC hE hM K)
      · exact v_tabIn 33 542 C (off := 509) dL_law_33 (by decide) (by decide) (by decide) (by decide) (lw_meet C hX hbl hL hn9 hN hI hC hE hM K)
      · exact v_tabIn 33 585 C (off := 552) dL_law_33 (by decide) (by decide) (by decide) (by decide) (lw_meets C hX hbl hL hn9 hN hI hC hE hM K)
      · exact v_tabIn 33 608 C (off := 575) dL_law_33 (by decide) (by decide) (by decide) (by decide) (lw_tall C hX hbl hL hn9 hN hI hC hE hM K)
      · exact v_tabIn 33 631 C (off := 598) dL_law_33 (by decide) (by decide) (by decide) (by decide) (lw_move C hX hbl hL hn9 hN hI hC hE hM K)
      · exact v_tabIn 33 664 C (off := 631) dL_law_33 (by decide) (by decide) (by decide) (by decide) (lw_greatest C hX hbl hL hn9 hN hI hC hE hM K)
      · exact v_tabIn 33 677 C (off := 644) dL_law_33 (by decide) (by decide) (by decide) (by decide) (lw_find C hX hbl hL hn9 hN hI hC hE hM K)
      · exact v_tabIn 33 768 C (off := 735) dL_law_33 (by decide) (by decide) (by decide) (by decide) (lw_even C hX hbl hL hn9 hN hI hC hE hM K)
      · exact v_tabIn 33 791 C (off := 758) dL_law_33 (by decide) (by decide) (by decide) (by decide) (lw_partOf C hX hbl hL hn9 hN hI hC hE hM K)
      · exact v_tabIn 33 824 C (off := 791) dL_law_33 (by decide) (by decide) (by decide) (by decide) (lw_count C hX hbl hL hn9 hN hI hC hE hM K)
    · refine v_tabOut 33 847 C dL_law_33 (by rw [iZ_toInt hy]; omega) (by decide) ?_
      refine v_iinc 847 0 (iZ (9 * ((n + 1 : Nat) : Int))) [(3, .int (iZ (9 * ((n + 1 : Nat) : Int)))), (2, .ref (ad 45)), (1, .ref (ad 0)), (0, .ref b0)] C dL_law_847 rfl ((iZ_add _ 9).trans (congrArg iZ (by omega))) (by decide) rfl ?_
      refine v_goto 850 18 C dL_law_850 (by decide) ?_
      refine v_sub [0, 1, 2, 3] rfl ?_
      refine v_wid (k := 66 + 15 * (n + 1)) (n := 2000 + 184 * (n + 1)) (by omega) (by omega) ?_
      exact K N ad S b t hN hI hC hE hM
section RP
variable {p : Program} {l : Launch} {e : Env} {R : Room} {s : State} {m : MethodId} {args : Array Value} {below : List Frame} {meth : Method} {c : Code} {D : va_G} {kc : Nat → ClassId} {A : Nat → Prop} {nL cells slots : Nat} {ws : va_W} {lv : List (Nat × Value)} {st st0 : List Value} {cc : ByteArray} {own : String} {ret : Option FieldType}
theorem rPg {y : MethodName} {by_ : ByteArray} {mL : Nat} {fr mc ms lo idx n b tX tY : Nat} {As : List Value} {Qc : Nat → Array Value → State → Outcome → State → Prop} (pc : Nat) (C : Cx p s m args meth c cc own nL ret D kc) (hA : ∀ q, s.heap.size ≤ q → A q) (hW0 : WX tX tY A s s.heap) (L : LB own idx y by_ mL none n) (hin : y.name = "<init>") (ik : Cond.instanceMethod y ∈ wsG) (hM : ∀ sz, Met l y (Cond.code y by_ mL none :: wsG) { frames := fr, cells := mc, slots := ms, locals := lo } (va_Pc (.ref b :: As) (fun U => Kpre D kc ws sz U ∧ WX tX tY (va_A ws sz) U U.heap)) (Qc sz) mc ms (va_A ws sz)) (hn : As.length = n) (hst : st0 = As.reverse ++ .ref b :: st) (hR : rmF R cells slots mL fr mc ms lo st) (hd : decode cc pc = .ok (.invokespecial idx, 3)) : RunV p l e R s m args below meth c D A nL cells slots mc ms ws pc lv st0 st (fun sz => Qc sz (Value.ref b :: As).toArray) := by
  intro H locs ls hl hP hD hS
  subst hst
  have hw1 : WX tX tY (va_A ws H.size) s H := (hW0.kept (fun a h1 h2 => hS.2.1 a h1 h2)).narrow (va_A_sub (sz := H.size) hD hS hA)
  refine va_runI (As := As) (rest := st) ⟨C.1, C.2.1, C.2.2.1, C.2.2.2.1, C.2.2.2.2.1⟩ (hM H.size) ⟨callB_of n C.2.2.2.2.1 (wsG_c L.2.2.1) rfl rfl rfl (C.2.2.2.2.1 _ L.2.1) (C.2.2.2.2.1 _ L.1) L.2.2.2 hR.1, hin, C.2.2.2.2.1 _ ik⟩ ⟨fun a U g mk q => ?_, fun U hU hW => ?_⟩ rfl hn hl.1 rfl (lv_room hR.2.1) hd hR.2.2
  · obtain ⟨q0, ⟨q1, qP, qK, qD⟩, qW⟩ := q
    exact ⟨q0, ⟨q1, qP, KW.call qK, qD⟩, WX.moved (u := U) (U := U.calling g mk a) (Vm.Alike.refl U.vm) qW⟩
  · refine ⟨rfl, ⟨by rw [hU], by rw [hU]; exact hP, KW.warm hW C.2.2.2.2.2.1, hD.weaken (fun _ _ _ _ => trivial)⟩, ?_⟩
    rw [hU]
    exact WX.moved hW.alike hw1
end RP
set_option maxHeartbeats 4000000 in
set_option maxRecDepth 100000 in
theorem law_start {p : Program} {l : Launch} {e : Env} {s : State} {m : MethodId} {below : List Frame} {meth : Method} {c : Code} {b0 L : Nat} {xs : Nat → Int32} {D : va_G} {kc : Nat → ClassId} (C : Cx p s m #[Value.ref b0] meth c cL_law RL 4 ret D kc) (hX : va_X b0 L xs s s.heap) (hbl : b0 < s.heap.size) (hL : L ≤ 4608) {tX tY : Nat} (hW0 : WX tX tY (fun q => s.heap.size ≤ q) s s.heap) : VL p l e s m below meth c b0 D 0 0 [] 0 [(0, .ref b0)] [] := by
  have hA : ∀ q, s.heap.size ≤ q → (fun q => s.heap.size ≤ q) q := fun _ h => h
  refine n_new 0 C hA (ci := 3) (fs := [.null, .null, .null, .null, .null, .int 0, .int 0, .int 0]) rfl inGX3 tyX3 tyX3_ok lk_53 lk_54 lk_47 ndX3 ⟨Nat.le_of_ble_eq_true rfl, Nat.le_of_ble_eq_true rfl⟩ dL_law_0 (fun a => ?_)
  refine v_eqw (ws' := [(a, .inr (3, [.null, .null, .null, .null, .null, .int 0, .int 0, .int 0]))]) rfl ?_
  refine v_dup 3 C dL_law_3 rfl ?_
  refine v_callv 4 hA (rPg 4 C hA hW0 L_RL_9 rfl lk_56 (i_Page a tX tY) rfl rfl (rm_law rfl (Nat.le_of_ble_eq_true rfl) (Nat.le_of_ble_eq_true rfl)) dL_law_4) (fun w_4 h_4 => ?_)
  obtain ⟨ad, S, rfl, had0, hC, hZ⟩ := h_4
  refine v_eqv (.ref (ad 0)) (by rw [had0]) ?_
  refine v_astore_n 7 [(1, .ref (ad 0)), (0, .ref b0)] C dL_law_7 (by decide) rfl ?_
  refine n_new 8 C hA (ci := 4) (fs := [.int 0, .int 0, .int 0, .null, .null, .null, .null, .null, .null, .null, .null, .int 0, .null, .null, .null, .long 0, .long 0, .null, .null, .null, .null, .null, .null, .null, .null, .null]) rfl inGX4 tyX4 tyX4_ok lk_493 lk_494 lk_52 ndX4 ⟨Nat.le_of_ble_eq_true rfl, Nat.le_of_ble_eq_true rfl⟩ dL_law_8 (fun q => ?_)
  refine v_dup 11 C dL_law_11 rfl ?_
  refine v_callv 12 hA (rI 12 C L_RL_12 rfl lk_496 (i_Model (wl kc 45 ad S) q) rfl rfl (rm_law rfl (Nat.le_of_ble_eq_true rfl) (Nat.le_of_ble_eq_true rfl)) dL_law_12) (fun w_12 h_12 => ?_)
  obtain ⟨g, rfl⟩ := h_12
  obtain ⟨ad2, had2⟩ : ∃ f : Nat → Nat, f = adM ad q g := ⟨_, rfl⟩
  refine v_eqw (ws' := wl kc 66 ad2 (moS S)) (by rw [had2]; exact wl_66 hZ q g) ?_
  refine v_eqv (.ref (ad2 45)) (by rw [had2, adM_45]) ?_
  refine v_eqlv [(1, .ref (ad2 0)), (0, .ref b0)] (by rw [had2, adM_lo (by decide)]) ?_
  refine v_astore_n 15 [(2, .ref (ad2 45)), (1, .ref (ad2 0)), (0, .ref b0)] C dL_law_15 (by decide) rfl ?_
  refine v_iconst 16 C (iZ 0) dL_law_16 rfl ?_
  refine v_istore_n 17 [(3, .int (iZ 0)), (2, .ref (ad2 45)), (1, .ref (ad2 0)), (0, .ref b0)] C dL_law_17 (by decide) rfl ?_
  refine v_wid (k := 66 + 15 * 0) (n := 2000 + 184 * 0) (Nat.le_of_ble_eq_true rfl) (Nat.le_of_ble_eq_true rfl) ?_
  exact law_loop C hX hbl hL (L / 9) 0 (Nat.zero_add _) 66 ad2 (moS S) bZ tZ rfl bZ_Inv (hC.keep moS_C) bZ_LE moS_RM
