/-! MODEL: its helpers -/
def isPb (b : Bs) (z : Int) : Bool := decide (0 ≤ z ∧ z ≤ b 0 0 - 1) && decide (b 8 z.toNat = 1)
theorem isPb_n {b : Bs} {z : Int} (h : ¬ isP b z) : isPb b z = false := by
  unfold isPb
  by_cases q : 0 ≤ z ∧ z ≤ b 0 0 - 1
  · rw [decide_eq_false (fun z2 => h ⟨q.1, by omega, z2⟩)]; simp
  · rw [decide_eq_false q]; rfl
theorem isPb_y {b : Bs} (hI : Inv b) {k : Nat} (hk : k < bn b) (ht : b 8 k = 1) : isPb b (k : Int) = true := by
  unfold isPb
  rw [decide_eq_true (show 0 ≤ (k : Int) ∧ (k : Int) ≤ b 0 0 - 1 by have := hI.1.1; omega), decide_eq_true (show b 8 (k : Int).toNat = 1 from ht)]; rfl
def isLb (b : Bs) (z : Int) : Bool := decide (0 ≤ z ∧ z ≤ 1) || (decide (2 ≤ z ∧ z ≤ 2 * b 0 0 + 1) && decide (b 8 (z.toNat / 2 - 1) = 1))
theorem isLb_n {b : Bs} (hI : Inv b) {z : Int} (h : ¬ isL b z) : isLb b z = false := by
  have h0 := hI.1.1
  unfold isLb
  rw [decide_eq_false (fun q => h ⟨q.1, Or.inl (by omega)⟩)]
  by_cases q : 2 ≤ z ∧ z ≤ 2 * b 0 0 + 1
  · rw [decide_eq_false (fun z2 => h ⟨by omega, Or.inr ⟨by omega, by omega, z2⟩⟩)]; simp
  · rw [decide_eq_false q]; rfl
theorem isLb_y {b : Bs} (hI : Inv b) {p : Nat} (h : thL b p) : isLb b (p : Int) = true := by
  have h0 := hI.1.1
  unfold isLb
  rcases h with h | ⟨h1, h2, h3⟩
  · rw [decide_eq_true (show 0 ≤ (p : Int) ∧ (p : Int) ≤ 1 by omega)]; rfl
  · rw [decide_eq_true (show 2 ≤ (p : Int) ∧ (p : Int) ≤ 2 * b 0 0 + 1 by omega), decide_eq_true (show b 8 ((p : Int).toNat / 2 - 1) = 1 from h3)]; simp
def refM4 (S : St) (b : Bs) (w : Nat) : St := pA S 52 w (iZ (b 9 w + 1))
theorem refRM {S : St} {b : Bs} {w : Nat} (h : RM S b) : RM (refM4 S b w) (refB b w) := by
  obtain ⟨a, c, d, e, f⟩ := h
  have A : ∀ i k, i ≠ 52 → gA (refM4 S b w) i k = gA S i k := fun i k q => by unfold refM4; rw [gA_pA, if_neg (fun (z : i = 52 ∧ k = w) => q z.1)]
  refine ⟨a, fun k hk => ?_, fun i hi => ?_, fun r hr => ?_, fun i hi => ?_⟩
  · rw [A 46 k (by decide), A 50 k (by decide), A 51 k (by decide)]; exact c k hk
  · rw [A 47 i (by decide), A 48 i (by decide), A 49 i (by decide)]; exact d i hi
  · unfold refM4 refB
    rw [gA_pA]
    by_cases q : r = w
    · subst q; rw [if_pos ⟨rfl, rfl⟩, upB_s]
    · rw [if_neg (fun z => q z.2), upB_i q]; exact e r hr
  · rw [A 53 i (by decide)]; exact f i hi
theorem refC {S : St} {b : Bs} {w : Nat} : sameOn atC S (refM4 S b w) := fun i hi k => ⟨rfl, by unfold refM4; rw [gA_pA, if_neg (fun z => by unfold atC at hi; omega)], rfl, rfl, rfl⟩
def mQ (kc : Nat → ClassId) (N : Nat) (ad : Nat → Nat) (S : St) (R : Int) (b' : Bs) : Int32 → va_W → Prop := fun r ws' => r = iZ R ∧ ∃ S' : St, ws' = wl kc N ad S' ∧ RM S' b' ∧ sameOn atC S S'
set_option maxHeartbeats 4000000 in
set_option maxRecDepth 100000 in
theorem m4_in {l : Launch} {D : va_G} {kc : Nat → ClassId} {N : Nat} {ad : Nat → Nat} {S : St} {v lo_ hi_ : Int} (r1 : r64 v) (r2 : r64 lo_) (r3 : r64 hi_) : MetK l yX4_in cX4_in 6 (some FieldType.boolean) 1 0 0 24 D kc (wl kc N ad S) [.long (lZ v), .long (lZ lo_), .long (lZ hi_)] (QI D kc (wl kc N ad S) (fun r ws' => r = iZ (bz (decide (lo_ ≤ v ∧ v ≤ hi_))) ∧ ws' = wl kc N ad S)) := by
  refine MetK.of (by decide +kernel) (Nat.le_of_ble_eq_true rfl) ?_
  intro p e s m below meth c C
  have hA : ∀ q, s.heap.size ≤ q → va_A (wl kc N ad S) s.heap.size q := fun _ h => Or.inr h
  show V p l e { frames := 1, cells := 0, slots := 0, locals := 24 } s m ([.long (lZ v), .long (lZ lo_), .long (lZ hi_)] : List Value).toArray below meth c (MQ below (QI D kc (wl kc N ad S) (fun r ws' => r = iZ (bz (decide (lo_ ≤ v ∧ v ≤ hi_))) ∧ ws' = wl kc N ad S) s.heap.size) ([.long (lZ v), .long (lZ lo_), .long (lZ hi_)] : List Value).toArray s 0 0 (va_A (wl kc N ad S) s.heap.size)) D (va_A (wl kc N ad S) s.heap.size) 6 0 0 (wl kc N ad S) 0 [(0, .long (lZ v)), (2, .long (lZ lo_)), (4, .long (lZ hi_))] []
  refine v_lload_n 0 0 C dX4_in_0 rfl ?_
  refine v_lload_n 1 1 C dX4_in_1 rfl ?_
  refine z_lcmp_lt 2 17 C (by first | assumption | exact ⟨by omega, by omega⟩) (by first | assumption | exact ⟨by omega, by omega⟩) dX4_in_2 dX4_in_3 (by decide) (fun c2_0 => ?_) (fun c2_0 => ?_)
  · skip
    refine v_iconst 17 C (iZ 0) dX4_in_17 rfl ?_
    exact v_zret 18 C (rfl) (⟨bzF (decide_eq_false (by omega)), rfl⟩) dX4_in_18
  · skip
    refine v_lload_n 6 0 C dX4_in_6 rfl ?_
    refine v_lload 7 2 C dX4_in_7 rfl ?_
    refine z_lcmp_gt 9 17 C (by first | assumption | exact ⟨by omega, by omega⟩) (by first | assumption | exact ⟨by omega, by omega⟩) dX4_in_9 dX4_in_10 (by decide) (fun c9_1 => ?_) (fun c9_1 => ?_)
    · skip
      refine v_iconst 17 C (iZ 0) dX4_in_17 rfl ?_
      exact v_zret 18 C (rfl) (⟨bzF (decide_eq_false (by omega)), rfl⟩) dX4_in_18
    · skip
      refine v_iconst 13 C (iZ 1) dX4_in_13 rfl ?_
      refine v_goto 14 18 C dX4_in_14 (by decide) ?_
      exact v_zret 18 C (rfl) (⟨bzT (decide_eq_true (by omega)), rfl⟩) dX4_in_18

set_option maxHeartbeats 4000000 in
set_option maxRecDepth 100000 in
theorem m4_refuse {l : Launch} {D : va_G} {kc : Nat → ClassId} {N : Nat} {ad : Nat → Nat} {S : St} {b : Bs} (hm : vm N) (hI : Inv b) (hM : RM S b) (w : Nat) (hw : 0 < w ∧ w < 7) {z : Int} (hz : z = -(w : Int)) : MetK l yX4_refuse cX4_refuse 2 (some FieldType.int) 1 0 0 24 D kc (wl kc N ad S) [.ref (ad 45), .int (iZ z)] (QI D kc (wl kc N ad S) (fun r ws' => r = iZ (z) ∧ ws' = wl kc N ad (refM4 S b w))) := by
  refine MetK.of (by decide +kernel) (Nat.le_of_ble_eq_true rfl) ?_
  intro p e s m below meth c C
  have hA : ∀ q, s.heap.size ≤ q → va_A (wl kc N ad S) s.heap.size q := fun _ h => Or.inr h
  show V p l e { frames := 1, cells := 0, slots := 0, locals := 24 } s m ([.ref (ad 45), .int (iZ z)] : List Value).toArray below meth c (MQ below (QI D kc (wl kc N ad S) (fun r ws' => r = iZ (z) ∧ ws' = wl kc N ad (refM4 S b w)) s.heap.size) ([.ref (ad 45), .int (iZ z)] : List Value).toArray s 0 0 (va_A (wl kc N ad S) s.heap.size)) D (va_A (wl kc N ad S) s.heap.size) 2 0 0 (wl kc N ad S) 0 [(0, .ref (ad 45)), (1, .int (iZ z))] []
  refine v_aload_n 0 0 C dX4_refuse_0 rfl ?_
  refine g_Mo_refused 1 C (vm.o hm).1 (vm.o hm).2 lk_508 dX4_refuse_1 ?_
  refine v_iload_n 4 1 C dX4_refuse_4 rfl ?_
  refine z_ineg 5 C dX4_refuse_5 ?_
  refine v_dup2_11 6 C dX4_refuse_6 rfl rfl ?_
  refine v_iald 7 C (vm.a hm 52 (by decide) rfl).1 (vm.a hm 52 (by decide) rfl).2 w (izn (by omega)) (lnx (show ln 52 = 7 from rfl) (by omega)) dX4_refuse_7 ?_
  refine v_eqi (iZ (b 9 w)) (hM.2.2.2.1 w hw.2) ?_
  refine v_iconst 8 C (iZ 1) dX4_refuse_8 rfl ?_
  refine z_iadd 9 C dX4_refuse_9 ?_
  refine v_iast 10 C (vm.a hm 52 (by decide) rfl).1 (vm.a hm 52 (by decide) rfl).2 w (izn (by omega)) (lnx (show ln 52 = 7 from rfl) (by omega)) dX4_refuse_10 ?_
  refine v_iload_n 11 1 C dX4_refuse_11 rfl ?_
  exact v_iret 12 C (⟨rfl, rfl⟩) dX4_refuse_12

set_option maxHeartbeats 4000000 in
set_option maxRecDepth 100000 in
theorem m4_refuseB {l : Launch} {D : va_G} {kc : Nat → ClassId} {N : Nat} {ad : Nat → Nat} {S : St} {b : Bs} (hm : vm N) (hI : Inv b) (hM : RM S b) (w : Nat) (hw : 0 < w ∧ w < 7) {z : Int} (hz : z = -(w : Int)) : MetK l yX4_refuseBig cX4_refuseBig 2 (some FieldType.int) 1 0 0 24 D kc (wl kc N ad S) [.ref (ad 45), .int (iZ z)] (QI D kc (wl kc N ad S) (fun r ws' => r = iZ (1000000000 - z) ∧ ws' = wl kc N ad (refM4 S b w))) := by
  refine MetK.of (by decide +kernel) (Nat.le_of_ble_eq_true rfl) ?_
  intro p e s m below meth c C
  have hA : ∀ q, s.heap.size ≤ q → va_A (wl kc N ad S) s.heap.size q := fun _ h => Or.inr h
  show V p l e { frames := 1, cells := 0, slots := 0, locals := 24 } s m ([.ref (ad 45), .int (iZ z)] : List Value).toArray below meth c (MQ below (QI D kc (wl kc N ad S) (fun r ws' => r = iZ (1000000000 - z) ∧ ws' = wl kc N ad (refM4 S b w)) s.heap.size) ([.ref (ad 45), .int (iZ z)] : List Value).toArray s 0 0 (va_A (wl kc N ad S) s.heap.size)) D (va_A (wl kc N ad S) s.heap.size) 2 0 0 (wl kc N ad S) 0 [(0, .ref (ad 45)), (1, .int (iZ z))] []
  refine v_aload_n 0 0 C dX4_refuseBig_0 rfl ?_
  refine g_Mo_refused 1 C (vm.o hm).1 (vm.o hm).2 lk_508 dX4_refuseBig_1 ?_
  refine v_iload_n 4 1 C dX4_refuseBig_4 rfl ?_
  refine z_ineg 5 C dX4_refuseBig_5 ?_
  refine v_dup2_11 6 C dX4_refuseBig_6 rfl rfl ?_
  refine v_iald 7 C (vm.a hm 52 (by decide) rfl).1 (vm.a hm 52 (by decide) rfl).2 w (izn (by omega)) (lnx (show ln 52 = 7 from rfl) (by omega)) dX4_refuseBig_7 ?_
  refine v_eqi (iZ (b 9 w)) (hM.2.2.2.1 w hw.2) ?_
  refine v_iconst 8 C (iZ 1) dX4_refuseBig_8 rfl ?_
  refine z_iadd 9 C dX4_refuseBig_9 ?_
  refine v_iast 10 C (vm.a hm 52 (by decide) rfl).1 (vm.a hm 52 (by decide) rfl).2 w (izn (by omega)) (lnx (show ln 52 = 7 from rfl) (by omega)) dX4_refuseBig_10 ?_
  refine v_ldc 11 C (1000000000) lk_684 dX4_refuseBig_11 ?_
  refine v_eqi (iZ 1000000000) (by decide) ?_
  refine v_iload_n 13 1 C dX4_refuseBig_13 rfl ?_
  refine z_isub 14 C dX4_refuseBig_14 ?_
  exact v_iret 15 C (⟨rfl, rfl⟩) dX4_refuseBig_15

set_option maxHeartbeats 4000000 in
set_option maxRecDepth 100000 in
theorem m4_isPart {l : Launch} {D : va_G} {kc : Nat → ClassId} {N : Nat} {ad : Nat → Nat} {S : St} {b : Bs} (hm : vm N) (hI : Inv b) (hM : RM S b) {z : Int} (rz : r32 z) : MetK l yX4_isPart cX4_isPart 2 (some FieldType.boolean) 2 0 0 49 D kc (wl kc N ad S) [.ref (ad 45), .int (iZ z)] (QI D kc (wl kc N ad S) (fun r ws' => r = iZ (bz (isPb b z)) ∧ ws' = wl kc N ad S)) := by
  refine MetK.of (by decide +kernel) (Nat.le_of_ble_eq_true rfl) ?_
  intro p e s m below meth c C
  have hA : ∀ q, s.heap.size ≤ q → va_A (wl kc N ad S) s.heap.size q := fun _ h => Or.inr h
  show V p l e { frames := 2, cells := 0, slots := 0, locals := 49 } s m ([.ref (ad 45), .int (iZ z)] : List Value).toArray below meth c (MQ below (QI D kc (wl kc N ad S) (fun r ws' => r = iZ (bz (isPb b z)) ∧ ws' = wl kc N ad S) s.heap.size) ([.ref (ad 45), .int (iZ z)] : List Value).toArray s 0 0 (va_A (wl kc N ad S) s.heap.size)) D (va_A (wl kc N ad S) s.heap.size) 2 0 0 (wl kc N ad S) 0 [(0, .ref (ad 45)), (1, .int (iZ z))] []
  have hb0 := hI.1
  refine v_iload_n 0 1 C dX4_isPart_0 rfl ?_
  refine z_i2l 1 C (by first | assumption | exact ⟨by omega, by omega⟩) dX4_isPart_1 ?_
  refine v_lconst 2 C (lZ 0) dX4_isPart_2 (by decide) ?_
  refine v_aload_n 3 0 C dX4_isPart_3 rfl ?_
  refine g_Mo_parts 4 C (vm.o hm).1 (vm.o hm).2 lk_501 dX4_isPart_4 ?_
  refine v_eqi (iZ (b 0 0)) (hM.1.2.2) ?_
  refine v_iconst 7 C (iZ 1) dX4_isPart_7 rfl ?_
  refine z_isub 8 C dX4_isPart_8 ?_
  refine z_i2l 9 C (by first | assumption | exact ⟨by omega, by omega⟩) dX4_isPart_9 ?_
  refine v_calli 10 hA (rS 10 C L_RX4_83 lk_604 (m4_in (by first | assumption | exact ⟨by omega, by omega⟩) (by first | assumption | exact ⟨by omega, by omega⟩) (by first | assumption | exact ⟨by omega, by omega⟩)) rfl rfl (rm_ok rfl) dX4_isPart_10) (fun r1 w2 h3 => ?_)
  obtain ⟨e_r1, rfl⟩ := h3
  refine v_eqi (iZ (bz (decide (0 ≤ z ∧ z ≤ b 0 0 - 1)))) (e_r1) ?_
  refine z_if_eq 13 29 C (bzr _) dX4_isPart_13 (by decide) (fun c13_0 => ?_) (fun c13_0 => ?_)
  · skip
    refine v_iconst 29 C (iZ 0) dX4_isPart_29 rfl ?_
    exact v_zret 30 C (rfl) (⟨bzF (by unfold isPb; rw [bz_eq c13_0]; rfl), rfl⟩) dX4_isPart_30
  · skip
    have hz := of_decide_eq_true (bz_ne c13_0)
    have h8 := (hI.2.2.2.1 z.toNat (by omega)).2.2.1
    refine v_aload_n 16 0 C dX4_isPart_16 rfl ?_
    refine g_Mo_isThere 17 C (vm.o hm).1 (vm.o hm).2 lk_507 dX4_isPart_17 ?_
    refine v_iload_n 20 1 C dX4_isPart_20 rfl ?_
    refine v_zald 21 C (vm.a hm 51 (by decide) rfl).1 (vm.a hm 51 (by decide) rfl).2 z.toNat (izn (by omega)) (lnx (show ln 51 = 30 from rfl) (by omega)) dX4_isPart_21 ?_
    refine v_eqi (iZ (b 8 z.toNat)) ((hM.2.1 z.toNat (by have := of_decide_eq_true (bz_ne c13_0); omega)).2.2) ?_
    refine z_if_eq 22 29 C (by first | assumption | exact ⟨by omega, by omega⟩) dX4_isPart_22 (by decide) (fun c22_1 => ?_) (fun c22_1 => ?_)
    · skip
      refine v_iconst 29 C (iZ 0) dX4_isPart_29 rfl ?_
      exact v_zret 30 C (rfl) (⟨bzF (by unfold isPb; rw [decide_eq_false (show ¬ b 8 z.toNat = 1 by omega)]; simp), rfl⟩) dX4_isPart_30
    · skip
      refine v_iconst 25 C (iZ 1) dX4_isPart_25 rfl ?_
      refine v_goto 26 30 C dX4_isPart_26 (by decide) ?_
      exact v_zret 30 C (rfl) (⟨bzT (by unfold isPb; rw [bz_ne c13_0, decide_eq_true (show b 8 z.toNat = 1 by omega)]; rfl), rfl⟩) dX4_isPart_30

set_option maxHeartbeats 4000000 in
set_option maxRecDepth 100000 in
theorem m4_isPlane {l : Launch} {D : va_G} {kc : Nat → ClassId} {N : Nat} {ad : Nat → Nat} {S : St} {b : Bs} (hm : vm N) (hI : Inv b) (hM : RM S b) {z : Int} (rz : r32 z) : MetK l yX4_isPlane cX4_isPlane 2 (some FieldType.boolean) 2 0 0 49 D kc (wl kc N ad S) [.ref (ad 45), .int (iZ z)] (QI D kc (wl kc N ad S) (fun r ws' => r = iZ (bz (isLb b z)) ∧ ws' = wl kc N ad S)) := by
  refine MetK.of (by decide +kernel) (Nat.le_of_ble_eq_true rfl) ?_
  intro p e s m below meth c C
  have hA : ∀ q, s.heap.size ≤ q → va_A (wl kc N ad S) s.heap.size q := fun _ h => Or.inr h
  show V p l e { frames := 2, cells := 0, slots := 0, locals := 49 } s m ([.ref (ad 45), .int (iZ z)] : List Value).toArray below meth c (MQ below (QI D kc (wl kc N ad S) (fun r ws' => r = iZ (bz (isLb b z)) ∧ ws' = wl kc N ad S) s.heap.size) ([.ref (ad 45), .int (iZ z)] : List Value).toArray s 0 0 (va_A (wl kc N ad S) s.heap.size)) D (va_A (wl kc N ad S) s.heap.size) 2 0 0 (wl kc N ad S) 0 [(0, .ref (ad 45)), (1, .int (iZ z))] []
  have hb0 := hI.1
  refine v_iload_n 0 1 C dX4_isPlane_0 rfl ?_
  refine z_i2l 1 C (by first | assumption | exact ⟨by omega, by omega⟩) dX4_isPlane_1 ?_
  refine v_lconst 2 C (lZ 0) dX4_isPlane_2 (by decide) ?_
  refine v_lconst 3 C (lZ 1) dX4_isPlane_3 (by decide) ?_
  refine v_calli 4 hA (rS 4 C L_RX4_83 lk_604 (m4_in (by first | assumption | exact ⟨by omega, by omega⟩) (by first | assumption | exact ⟨by omega, by omega⟩) (by first | assumption | exact ⟨by omega, by omega⟩)) rfl rfl (rm_ok rfl) dX4_isPlane_4) (fun r1 w2 h3 => ?_)
  obtain ⟨e_r1, rfl⟩ := h3
  refine v_eqi (iZ (bz (decide (0 ≤ z ∧ z ≤ 1)))) (e_r1) ?_
  refine z_if_ne 7 43 C (bzr _) dX4_isPlane_7 (by decide) (fun c7_0 => ?_) (fun c7_0 => ?_)
  · skip
    refine v_iconst 43 C (iZ 1) dX4_isPlane_43 rfl ?_
    refine v_goto 44 48 C dX4_isPlane_44 (by decide) ?_
    exact v_zret 48 C (rfl) (⟨bzT (by unfold isLb; rw [bz_ne c7_0]; rfl), rfl⟩) dX4_isPlane_48
  · skip
    refine v_iload_n 10 1 C dX4_isPlane_10 rfl ?_
    refine z_i2l 11 C (by first | assumption | exact ⟨by omega, by omega⟩) dX4_isPlane_11 ?_
    refine v_ldc2 12 C (2) lk_606 dX4_isPlane_12 ?_
    refine v_eql (lZ 2) (by decide) ?_
    refine v_iconst 15 C (iZ 2) dX4_isPlane_15 rfl ?_
    refine v_aload_n 16 0 C dX4_isPlane_16 rfl ?_
    refine g_Mo_parts 17 C (vm.o hm).1 (vm.o hm).2 lk_501 dX4_isPlane_17 ?_
    refine v_eqi (iZ (b 0 0)) (hM.1.2.2) ?_
    refine z_imul 20 C dX4_isPlane_20 ?_
    refine v_iconst 21 C (iZ 1) dX4_isPlane_21 rfl ?_
    refine z_iadd 22 C dX4_isPlane_22 ?_
    refine z_i2l 23 C (by first | assumption | exact ⟨by omega, by omega⟩) dX4_isPlane_23 ?_
    refine v_calli 24 hA (rS 24 C L_RX4_83 lk_604 (m4_in (by first | assumption | exact ⟨by omega, by omega⟩) (by first | assumption | exact ⟨by omega, by omega⟩) (by first | assumption | exact ⟨by omega, by omega⟩)) rfl rfl (rm_ok rfl) dX4_isPlane_24) (fun r4 w5 h6 => ?_)
    obtain ⟨e_r4, rfl⟩ := h6
    refine v_eqi (iZ (bz (decide (2 ≤ z ∧ z ≤ 2 * b 0 0 + 1)))) (e_r4) ?_
    refine z_if_eq 27 47 C (bzr _) dX4_isPlane_27 (by decide) (fun c27_1 => ?_) (fun c27_1 => ?_)
    · skip
      refine v_iconst 47 C (iZ 0) dX4_isPlane_47 rfl ?_
      exact v_zret 48 C (rfl) (⟨bzF (by unfold isLb; rw [bz_eq c7_0, bz_eq c27_1]; rfl), rfl⟩) dX4_isPlane_48
    · skip
      have hz := of_decide_eq_true (bz_ne c27_1)
      have h8 := (hI.2.2.2.1 (z.toNat / 2 - 1) (by omega)).2.2.1
      refine v_aload_n 30 0 C dX4_isPlane_30 rfl ?_
      refine g_Mo_isThere 31 C (vm.o hm).1 (vm.o hm).2 lk_507 dX4_isPlane_31 ?_
      refine v_iload_n 34 1 C dX4_isPlane_34 rfl ?_
      refine v_iconst 35 C (iZ 2) dX4_isPlane_35 rfl ?_
      refine z_idiv2 36 C (by first | assumption | exact ⟨by omega, by omega⟩) dX4_isPlane_36 ?_
      refine v_eqi (iZ (z / 2)) (congrArg iZ (Int.tdiv_eq_ediv_of_nonneg (by omega))) ?_
      refine v_iconst 37 C (iZ 1) dX4_isPlane_37 rfl ?_
      refine z_isub 38 C dX4_isPlane_38 ?_
      refine v_zald 39 C (vm.a hm 51 (by decide) rfl).1 (vm.a hm 51 (by decide) rfl).2 (z.toNat / 2 - 1) (izn (by omega)) (lnx (show ln 51 = 30 from rfl) (by omega)) dX4_isPlane_39 ?_
      refine v_eqi (iZ (b 8 (z.toNat / 2 - 1))) ((hM.2.1 (z.toNat / 2 - 1) (by omega)).2.2) ?_
      refine z_if_eq 40 47 C (by first | assumption | exact ⟨by omega, by omega⟩) dX4_isPlane_40 (by decide) (fun c40_2 => ?_) (fun c40_2 => ?_)
      · skip
        refine v_iconst 47 C (iZ 0) dX4_isPlane_47 rfl ?_
        exact v_zret 48 C (rfl) (⟨bzF (by unfold isLb; rw [bz_eq c7_0, decide_eq_false (show ¬ b 8 (z.toNat / 2 - 1) = 1 by omega)]; simp), rfl⟩) dX4_isPlane_48
      · skip
        refine v_iconst 43 C (iZ 1) dX4_isPlane_43 rfl ?_
        refine v_goto 44 48 C dX4_isPlane_44 (by decide) ?_
        exact v_zret 48 C (rfl) (⟨bzT (by unfold isLb; rw [bz_ne c27_1, decide_eq_true (show b 8 (z.toNat / 2 - 1) = 1 by omega)]; simp), rfl⟩) dX4_isPlane_48

set_option maxHeartbeats 4000000 in
set_option maxRecDepth 100000 in
theorem m4_isStep {l : Launch} {D : va_G} {kc : Nat → ClassId} {N : Nat} {ad : Nat → Nat} {S : St} {z : Int} (rz : r32 z) : MetK l yX4_isStep cX4_isStep 1 (some FieldType.boolean) 2 0 0 49 D kc (wl kc N ad S) [.int (iZ z)] (QI D kc (wl kc N ad S) (fun r ws' => r = iZ (bz (decide (0 ≤ z ∧ z ≤ 16))) ∧ ws' = wl kc N ad S)) := by
  refine MetK.of (by decide +kernel) (Nat.le_of_ble_eq_true rfl) ?_
  intro p e s m below meth c C
  have hA : ∀ q, s.heap.size ≤ q → va_A (wl kc N ad S) s.heap.size q := fun _ h => Or.inr h
  show V p l e { frames := 2, cells := 0, slots := 0, locals := 49 } s m ([.int (iZ z)] : List Value).toArray below meth c (MQ below (QI D kc (wl kc N ad S) (fun r ws' => r = iZ (bz (decide (0 ≤ z ∧ z ≤ 16))) ∧ ws' = wl kc N ad S) s.heap.size) ([.int (iZ z)] : List Value).toArray s 0 0 (va_A (wl kc N ad S) s.heap.size)) D (va_A (wl kc N ad S) s.heap.size) 1 0 0 (wl kc N ad S) 0 [(0, .int (iZ z))] []
  refine v_iload_n 0 0 C dX4_isStep_0 rfl ?_
  refine z_i2l 1 C (by first | assumption | exact ⟨by omega, by omega⟩) dX4_isStep_1 ?_
  refine v_lconst 2 C (lZ 0) dX4_isStep_2 (by decide) ?_
  refine v_ldc2 3 C (16) lk_679 dX4_isStep_3 ?_
  refine v_eql (lZ 16) (by decide) ?_
  refine v_calli 6 hA (rS 6 C L_RX4_83 lk_604 (m4_in (by first | assumption | exact ⟨by omega, by omega⟩) (by first | assumption | exact ⟨by omega, by omega⟩) (by first | assumption | exact ⟨by omega, by omega⟩)) rfl rfl (rm_ok rfl) dX4_isStep_6) (fun r1 w2 h3 => ?_)
  obtain ⟨e_r1, rfl⟩ := h3
  refine v_eqi (iZ (bz (decide (0 ≤ z ∧ z ≤ 16)))) (e_r1) ?_
  exact v_zret 9 C (zn01 (bz01 _)) (⟨rfl, rfl⟩) dX4_isStep_9

set_option maxHeartbeats 4000000 in
set_option maxRecDepth 100000 in
theorem m4_sizeOf {l : Launch} {D : va_G} {kc : Nat → ClassId} {N : Nat} {ad : Nat → Nat} {S : St} {b : Bs} (hm : vm N) (hI : Inv b) (hM : RM S b) {u : Nat} (hu : thL b u) : MetK l yX4_sizeOf cX4_sizeOf 2 (some FieldType.int) 1 0 0 24 D kc (wl kc N ad S) [.ref (ad 45), .int (iZ (u : Int))] (QI D kc (wl kc N ad S) (fun r ws' => r = iZ (szL b u) ∧ ws' = wl kc N ad S)) := by
  refine MetK.of (by decide +kernel) (Nat.le_of_ble_eq_true rfl) ?_
  intro p e s m below meth c C
  have hA : ∀ q, s.heap.size ≤ q → va_A (wl kc N ad S) s.heap.size q := fun _ h => Or.inr h
  show V p l e { frames := 1, cells := 0, slots := 0, locals := 24 } s m ([.ref (ad 45), .int (iZ (u : Int))] : List Value).toArray below meth c (MQ below (QI D kc (wl kc N ad S) (fun r ws' => r = iZ (szL b u) ∧ ws' = wl kc N ad S) s.heap.size) ([.ref (ad 45), .int (iZ (u : Int))] : List Value).toArray s 0 0 (va_A (wl kc N ad S) s.heap.size)) D (va_A (wl kc N ad S) s.heap.size) 2 0 0 (wl kc N ad S) 0 [(0, .ref (ad 45)), (1, .int (iZ (u : Int)))] []
  have hb0 := hI.1
  have h62 := thL_62 hI hu
  refine v_iload_n 0 1 C dX4_sizeOf_0 rfl ?_
  refine v_iconst 1 C (iZ 2) dX4_sizeOf_1 rfl ?_
  refine z_icmp_ge 2 12 C (by first | assumption | exact ⟨by omega, by omega⟩) (by first | assumption | exact ⟨by omega, by omega⟩) dX4_sizeOf_2 (by decide) (fun c2_0 => ?_) (fun c2_0 => ?_)
  · skip
    have hu2 := thL_lt hu (by omega)
    refine v_aload_n 12 0 C dX4_sizeOf_12 rfl ?_
    refine g_Mo_flat 13 C (vm.o hm).1 (vm.o hm).2 lk_505 dX4_sizeOf_13 ?_
    refine v_iload_n 16 1 C dX4_sizeOf_16 rfl ?_
    refine v_iconst 17 C (iZ 2) dX4_sizeOf_17 rfl ?_
    refine z_isub 18 C dX4_sizeOf_18 ?_
    refine v_iald 19 C (vm.a hm 49 (by decide) rfl).1 (vm.a hm 49 (by decide) rfl).2 (u - 2) (izn (by omega)) (lnx (show ln 49 = 60 from rfl) (by omega)) dX4_sizeOf_19 ?_
    refine v_eqi (iZ (b 6 (u - 2))) ((hM.2.2.1 (u - 2) (by omega)).2.2) ?_
    exact v_iret 20 C (⟨by unfold szL; rw [if_neg (by omega)], rfl⟩) dX4_sizeOf_20
  · skip
    refine v_aload_n 5 0 C dX4_sizeOf_5 rfl ?_
    refine g_Mo_width 6 C (vm.o hm).1 (vm.o hm).2 lk_499 dX4_sizeOf_6 ?_
    refine v_eqi (iZ (b 1 0)) (hM.1.1) ?_
    refine v_goto 9 20 C dX4_sizeOf_9 (by decide) ?_
    exact v_iret 20 C (⟨by unfold szL; rw [if_pos (by omega)], rfl⟩) dX4_sizeOf_20

set_option maxHeartbeats 4000000 in
set_option maxRecDepth 100000 in
theorem m4_manyThere {l : Launch} {D : va_G} {kc : Nat → ClassId} {N : Nat} {ad : Nat → Nat} {S : St} {b : Bs} (hm : vm N) (hI : Inv b) (hM : RM S b) : MetK l yX4_manyThere cX4_manyThere 3 (some FieldType.int) 1 0 0 24 D kc (wl kc N ad S) [.ref (ad 45)] (QI D kc (wl kc N ad S) (fun r ws' => r = iZ (thC b) ∧ ws' = wl kc N ad S)) := by
  refine MetK.of (by decide +kernel) (Nat.le_of_ble_eq_true rfl) ?_
  intro p e s m below meth c C
  have hA : ∀ q, s.heap.size ≤ q → va_A (wl kc N ad S) s.heap.size q := fun _ h => Or.inr h
  show V p l e { frames := 1, cells := 0, slots := 0, locals := 24 } s m ([.ref (ad 45)] : List Value).toArray below meth c (MQ below (QI D kc (wl kc N ad S) (fun r ws' => r = iZ (thC b) ∧ ws' = wl kc N ad S) s.heap.size) ([.ref (ad 45)] : List Value).toArray s 0 0 (va_A (wl kc N ad S) s.heap.size)) D (va_A (wl kc N ad S) s.heap.size) 3 0 0 (wl kc N ad S) 0 [(0, .ref (ad 45))] []
  have hb0 := hI.1
  have loop : ∀ (d : Nat) (i : Nat), i + d = bn b → V p l e { frames := 1, cells := 0, slots := 0, locals := 24 } s m ([.ref (ad 45)] : List Value).toArray below meth c (MQ below (QI D kc (wl kc N ad S) (fun r ws' => r = iZ (thC b) ∧ ws' = wl kc N ad S) s.heap.size) ([.ref (ad 45)] : List Value).toArray s 0 0 (va_A (wl kc N ad S) s.heap.size)) D (va_A (wl kc N ad S) s.heap.size) 3 0 0 (wl kc N ad S) 4 [(2, .int (iZ (i : Int))), (1, .int (iZ (cnt (thP b) i))), (0, .ref (ad 45))] [] := by
    intro d
    induction d with
    | zero =>
      intro i hi
      have hcb := cnt_b (thP b) i
      refine v_iload_n 4 0 C dX4_manyThere_4 rfl ?_
      refine v_aload_n 5 2 C dX4_manyThere_5 rfl ?_
      refine g_Mo_parts 6 C (vm.o hm).1 (vm.o hm).2 lk_501 dX4_manyThere_6 ?_
      refine v_eqi (iZ (b 0 0)) (hM.1.2.2) ?_
      refine z_icmp_ge 9 35 C (by first | assumption | exact ⟨by omega, by omega⟩) (by first | assumption | exact ⟨by omega, by omega⟩) dX4_manyThere_9 (by decide) (fun c9_0 => ?_) (fun c9_0 => absurd (by omega) c9_0)
      refine v_iload_n 35 1 C dX4_manyThere_35 rfl ?_
      exact v_iret 36 C (⟨by rw [show i = bn b by omega]; rfl, rfl⟩) dX4_manyThere_36
    | succ d ih =>
      intro i hi
      skip
      have hcb := cnt_b (thP b) i
      have h8 := (hI.2.2.2.1 i (by omega)).2.2.1
      refine v_iload_n 4 0 C dX4_manyThere_4 rfl ?_
      refine v_aload_n 5 2 C dX4_manyThere_5 rfl ?_
      refine g_Mo_parts 6 C (vm.o hm).1 (vm.o hm).2 lk_501 dX4_manyThere_6 ?_
      refine v_eqi (iZ (b 0 0)) (hM.1.2.2) ?_
      refine z_icmp_ge 9 35 C (by first | assumption | exact ⟨by omega, by omega⟩) (by first | assumption | exact ⟨by omega, by omega⟩) dX4_manyThere_9 (by decide) (fun c9_0 => absurd c9_0 (by omega)) (fun c9_0 => ?_)
      refine v_iload_n 12 1 C dX4_manyThere_12 rfl ?_
      refine v_aload_n 13 2 C dX4_manyThere_13 rfl ?_
      refine g_Mo_isThere 14 C (vm.o hm).1 (vm.o hm).2 lk_507 dX4_manyThere_14 ?_
      refine v_iload_n 17 0 C dX4_manyThere_17 rfl ?_
      refine v_zald 18 C (vm.a hm 51 (by decide) rfl).1 (vm.a hm 51 (by decide) rfl).2 i (izn (by omega)) (lnx (show ln 51 = 30 from rfl) (by omega)) dX4_manyThere_18 ?_
      refine v_eqi (iZ (b 8 i)) ((hM.2.1 i (by omega)).2.2) ?_
      refine z_if_eq 19 26 C (by first | assumption | exact ⟨by omega, by omega⟩) dX4_manyThere_19 (by decide) (fun c19_1 => ?_) (fun c19_1 => ?_)
      · skip
        refine v_iconst 26 C (iZ 0) dX4_manyThere_26 rfl ?_
        refine z_iadd 27 C dX4_manyThere_27 ?_
        refine v_istore_n 28 [(1, .int (iZ ((cnt (thP b) i) + 0))), (2, .int (iZ (i : Int))), (0, .ref (ad 45))] C dX4_manyThere_28 (by decide) rfl ?_
        refine v_iinc 29 1 (iZ ((i + 1 : Nat) : Int)) [(2, .int (iZ ((i + 1 : Nat) : Int))), (1, .int (iZ ((cnt (thP b) i) + 0))), (0, .ref (ad 45))] C dX4_manyThere_29 rfl (iZ_add _ _) (by decide) rfl ?_
        refine v_goto 32 4 C dX4_manyThere_32 (by decide) ?_
        refine v_sub [0, 1, 2] rfl ?_
        have q := ih (i + 1) (by omega)
        rw [cnt_F (P := thP b) (decide_eq_false (by omega)), ← Int.add_zero (cnt (thP b) i)] at q
        exact q
      · skip
        refine v_iconst 22 C (iZ 1) dX4_manyThere_22 rfl ?_
        refine v_goto 23 27 C dX4_manyThere_23 (by decide) ?_
        refine z_iadd 27 C dX4_manyThere_27 ?_
        refine v_istore_n 28 [(1, .int (iZ ((cnt (thP b) i) + 1))), (2, .int (iZ (i : Int))), (0, .ref (ad 45))] C dX4_manyThere_28 (by decide) rfl ?_
        refine v_iinc 29 1 (iZ ((i + 1 : Nat) : Int)) [(2, .int (iZ ((i + 1 : Nat) : Int))), (1, .int (iZ ((cnt (thP b) i) + 1))), (0, .ref (ad 45))] C dX4_manyThere_29 rfl (iZ_add _ _) (by decide) rfl ?_
        refine v_goto 32 4 C dX4_manyThere_32 (by decide) ?_
        refine v_sub [0, 1, 2] rfl ?_
        have q := ih (i + 1) (by omega)
        rw [cnt_T (P := thP b) (decide_eq_true (by omega))] at q
        exact q
  refine v_iconst 0 C (iZ 0) dX4_manyThere_0 rfl ?_
  refine v_istore_n 1 [(1, .int (iZ 0)), (0, .ref (ad 45))] C dX4_manyThere_1 (by decide) rfl ?_
  refine v_iconst 2 C (iZ 0) dX4_manyThere_2 rfl ?_
  refine v_istore_n 3 [(2, .int (iZ 0)), (1, .int (iZ 0)), (0, .ref (ad 45))] C dX4_manyThere_3 (by decide) rfl ?_
  refine v_sub [0, 1, 2] rfl ?_
  exact loop (bn b) 0 (by omega)

set_option maxHeartbeats 4000000 in
set_option maxRecDepth 100000 in
theorem m4_floor {l : Launch} {D : va_G} {kc : Nat → ClassId} {N : Nat} {ad : Nat → Nat} {S : St} {a b : Int} (ha : r64 a) (hb : r64 b) (h0 : 0 < b) : MetK l yX4_floor cX4_floor 6 (some FieldType.long) 1 0 0 24 D kc (wl kc N ad S) [.long (lZ a), .long (lZ b)] (QL D kc (wl kc N ad S) (fun r ws' => r = lZ (a / b) ∧ ws' = wl kc N ad S)) := by
  refine MetK.of (by decide +kernel) (Nat.le_of_ble_eq_true rfl) ?_
  intro p e s m below meth c C
  have hA : ∀ q, s.heap.size ≤ q → va_A (wl kc N ad S) s.heap.size q := fun _ h => Or.inr h
  show V p l e { frames := 1, cells := 0, slots := 0, locals := 24 } s m ([.long (lZ a), .long (lZ b)] : List Value).toArray below meth c (MQ below (QL D kc (wl kc N ad S) (fun r ws' => r = lZ (a / b) ∧ ws' = wl kc N ad S) s.heap.size) ([.long (lZ a), .long (lZ b)] : List Value).toArray s 0 0 (va_A (wl kc N ad S) s.heap.size)) D (va_A (wl kc N ad S) s.heap.size) 6 0 0 (wl kc N ad S) 0 [(0, .long (lZ a)), (2, .long (lZ b))] []
  have rem64 : r64 (a - a.tdiv b * b) := by
    have e1 := Int.mul_tdiv_add_tmod a b
    have h1 := Int.tmod_lt_of_pos a h0
    have h2 := Int.lt_tmod_of_pos a h0
    have h3 : a - a.tdiv b * b = a.tmod b := by rw [Int.mul_comm (a.tdiv b) b]; omega
    rw [h3]; exact ⟨by omega, by omega⟩
  refine v_lload_n 0 0 C dX4_floor_0 rfl ?_
  refine v_lload_n 1 1 C dX4_floor_1 rfl ?_
  refine v_ldiv 2 C dX4_floor_2 (fun h => by rw [show (0 : Int64) = lZ 0 from rfl, lZ_eq hb (by decide)] at h; omega) ?_
  refine v_eql (lZ (a.tdiv b)) (lZ_div ha hb h0) ?_
  refine v_lstore 3 [(4, .long (lZ (a.tdiv b))), (0, .long (lZ a)), (2, .long (lZ b))] C dX4_floor_3 (by decide) rfl ?_
  refine v_lload_n 5 1 C dX4_floor_5 rfl ?_
  refine v_lload_n 6 2 C dX4_floor_6 rfl ?_
  refine v_lrem 7 C dX4_floor_7 (fun h => by rw [show (0 : Int64) = lZ 0 from rfl, lZ_eq hb (by decide)] at h; omega) ?_
  refine v_eql (lZ (a - a.tdiv b * b)) (by rw [lZ_div ha hb h0, lZ_mul, lZ_sub]) ?_
  refine v_lconst 8 C (lZ 0) dX4_floor_8 (by decide) ?_
  refine z_lcmp_ge 9 20 C rem64 (by decide) dX4_floor_9 dX4_floor_10 (by decide) (fun c9_0 => ?_) (fun c9_0 => ?_)
  · skip
    refine v_lload 20 0 C dX4_floor_20 rfl ?_
    exact v_lret 22 C (⟨by rw [fdiv_of_tdiv a b h0, if_neg (by omega)], rfl⟩) dX4_floor_22
  · skip
    refine v_lload 13 0 C dX4_floor_13 rfl ?_
    refine v_lconst 15 C (lZ 1) dX4_floor_15 (by decide) ?_
    refine z_lsub 16 C dX4_floor_16 ?_
    refine v_goto 17 22 C dX4_floor_17 (by decide) ?_
    exact v_lret 22 C (⟨by rw [fdiv_of_tdiv a b h0, if_pos (by omega)], rfl⟩) dX4_floor_22

set_option maxHeartbeats 4000000 in
set_option maxRecDepth 100000 in
theorem m4_rounded {l : Launch} {D : va_G} {kc : Nat → ClassId} {N : Nat} {ad : Nat → Nat} {S : St} {a b : Int} (ha : -2305843009213693952 ≤ a ∧ a ≤ 2305843009213693952) (hb : 0 < b ∧ b ≤ 2305843009213693952) : MetK l yX4_rounded cX4_rounded 4 (some FieldType.long) 2 0 0 49 D kc (wl kc N ad S) [.long (lZ a), .long (lZ b)] (QL D kc (wl kc N ad S) (fun r ws' => r = lZ (rnd a b) ∧ ws' = wl kc N ad S)) := by
  refine MetK.of (by decide +kernel) (Nat.le_of_ble_eq_true rfl) ?_
  intro p e s m below meth c C
  have hA : ∀ q, s.heap.size ≤ q → va_A (wl kc N ad S) s.heap.size q := fun _ h => Or.inr h
  show V p l e { frames := 2, cells := 0, slots := 0, locals := 49 } s m ([.long (lZ a), .long (lZ b)] : List Value).toArray below meth c (MQ below (QL D kc (wl kc N ad S) (fun r ws' => r = lZ (rnd a b) ∧ ws' = wl kc N ad S) s.heap.size) ([.long (lZ a), .long (lZ b)] : List Value).toArray s 0 0 (va_A (wl kc N ad S) s.heap.size)) D (va_A (wl kc N ad S) s.heap.size) 4 0 0 (wl kc N ad S) 0 [(0, .long (lZ a)), (2, .long (lZ b))] []
  refine v_ldc2 0 C (2) lk_606 dX4_rounded_0 ?_
  refine v_eql (lZ 2) (by decide) ?_
  refine v_lload_n 3 0 C dX4_rounded_3 rfl ?_
  refine z_lmul 4 C dX4_rounded_4 ?_
  refine v_lload_n 5 1 C dX4_rounded_5 rfl ?_
  refine z_ladd 6 C dX4_rounded_6 ?_
  refine v_ldc2 7 C (2) lk_606 dX4_rounded_7 ?_
  refine v_eql (lZ 2) (by decide) ?_
  refine v_lload_n 10 1 C dX4_rounded_10 rfl ?_
  refine z_lmul 11 C dX4_rounded_11 ?_
  refine v_calll 12 hA (rS 12 C L_RX4_99 lk_640 (m4_floor ⟨by omega, by omega⟩ ⟨by omega, by omega⟩ (by omega)) rfl rfl (rm_ok rfl) dX4_rounded_12) (fun r1 w2 h3 => ?_)
  obtain ⟨e_r1, rfl⟩ := h3
  refine v_eql (lZ ((2 * a + b) / (2 * b))) (e_r1) ?_
  exact v_lret 15 C (⟨rfl, rfl⟩) dX4_rounded_15

theorem wT_b0 (i : Nat) : 0 ≤ wT i ∧ wT i ≤ 10000 := by
  by_cases h : i < 9
  · have : ∀ i, i < 9 → 0 ≤ wT i ∧ wT i ≤ 10000 := by decide
    exact this i h
  · unfold wT; rw [List.getD_eq_getElem?_getD, List.getElem?_eq_none (by simp; omega)]; decide
theorem wT_b (i : Nat) : r32 (wT i) := by have := wT_b0 i; exact ⟨by omega, by omega⟩
set_option maxHeartbeats 4000000 in
set_option maxRecDepth 100000 in
theorem m4_wayX {l : Launch} {D : va_G} {kc : Nat → ClassId} {N : Nat} {ad : Nat → Nat} {S : St} {b : Bs} (hm : vm N) (hI : Inv b) (hM : RM S b) {j : Nat} (hj : j < 17) (hs : gI S 45 11 = iZ (j : Int)) : MetK l yX4_wayX cX4_wayX 1 (some FieldType.long) 1 0 0 24 D kc (wl kc N ad S) [.ref (ad 45)] (QL D kc (wl kc N ad S) (fun r ws' => r = lZ (wx j) ∧ ws' = wl kc N ad S)) := by
  refine MetK.of (by decide +kernel) (Nat.le_of_ble_eq_true rfl) ?_
  intro p e s m below meth c C
  have hA : ∀ q, s.heap.size ≤ q → va_A (wl kc N ad S) s.heap.size q := fun _ h => Or.inr h
  show V p l e { frames := 1, cells := 0, slots := 0, locals := 24 } s m ([.ref (ad 45)] : List Value).toArray below meth c (MQ below (QL D kc (wl kc N ad S) (fun r ws' => r = lZ (wx j) ∧ ws' = wl kc N ad S) s.heap.size) ([.ref (ad 45)] : List Value).toArray s 0 0 (va_A (wl kc N ad S) s.heap.size)) D (va_A (wl kc N ad S) s.heap.size) 1 0 0 (wl kc N ad S) 0 [(0, .ref (ad 45))] []
  refine v_aload_n 0 0 C dX4_wayX_0 rfl ?_
  refine g_Mo_step 1 C (vm.o hm).1 (vm.o hm).2 lk_510 dX4_wayX_1 ?_
  refine v_eqi (iZ (j : Int)) (hs) ?_
  refine v_bipush 4 C (iZ 8) dX4_wayX_4 (by decide) ?_
  refine z_icmp_gt 6 22 C (by first | assumption | exact ⟨by omega, by omega⟩) (by first | assumption | exact ⟨by omega, by omega⟩) dX4_wayX_6 (by decide) (fun c6_0 => ?_) (fun c6_0 => ?_)
  · skip
    refine v_aload_n 22 0 C dX4_wayX_22 rfl ?_
    refine g_Mo_ways 23 C (vm.o hm).1 (vm.o hm).2 lk_509 dX4_wayX_23 ?_
    refine v_bipush 26 C (iZ 16) dX4_wayX_26 (by decide) ?_
    refine v_aload_n 28 0 C dX4_wayX_28 rfl ?_
    refine g_Mo_step 29 C (vm.o hm).1 (vm.o hm).2 lk_510 dX4_wayX_29 ?_
    refine v_eqi (iZ (j : Int)) (hs) ?_
    refine z_isub 32 C dX4_wayX_32 ?_
    refine v_iald 33 C (vm.a hm 53 (by decide) rfl).1 (vm.a hm 53 (by decide) rfl).2 (16 - j) (izn (by omega)) (lnx (show ln 53 = 9 from rfl) (by omega)) dX4_wayX_33 ?_
    refine v_eqi (iZ (wT (16 - j))) (hM.2.2.2.2 (16 - j) (by omega)) ?_
    refine z_ineg 34 C dX4_wayX_34 ?_
    refine z_i2l 35 C ⟨by have := wT_b0 (16 - j); omega, by have := wT_b0 (16 - j); omega⟩ dX4_wayX_35 ?_
    exact v_lret 36 C (⟨by unfold wx; rw [if_neg (by omega)], rfl⟩) dX4_wayX_36
  · skip
    refine v_aload_n 9 0 C dX4_wayX_9 rfl ?_
    refine g_Mo_ways 10 C (vm.o hm).1 (vm.o hm).2 lk_509 dX4_wayX_10 ?_
    refine v_aload_n 13 0 C dX4_wayX_13 rfl ?_
    refine g_Mo_step 14 C (vm.o hm).1 (vm.o hm).2 lk_510 dX4_wayX_14 ?_
    refine v_eqi (iZ (j : Int)) (hs) ?_
    refine v_iald 17 C (vm.a hm 53 (by decide) rfl).1 (vm.a hm 53 (by decide) rfl).2 j (izn (by omega)) (lnx (show ln 53 = 9 from rfl) (by omega)) dX4_wayX_17 ?_
    refine v_eqi (iZ (wT j)) (hM.2.2.2.2 j (by omega)) ?_
    refine z_i2l 18 C (wT_b _) dX4_wayX_18 ?_
    refine v_goto 19 36 C dX4_wayX_19 (by decide) ?_
    exact v_lret 36 C (⟨by unfold wx; rw [if_pos (by omega)], rfl⟩) dX4_wayX_36

set_option maxHeartbeats 4000000 in
set_option maxRecDepth 100000 in
theorem m4_wayY {l : Launch} {D : va_G} {kc : Nat → ClassId} {N : Nat} {ad : Nat → Nat} {S : St} {b : Bs} (hm : vm N) (hI : Inv b) (hM : RM S b) {j : Nat} (hj : j < 17) (hs : gI S 45 11 = iZ (j : Int)) : MetK l yX4_wayY cX4_wayY 1 (some FieldType.long) 1 0 0 24 D kc (wl kc N ad S) [.ref (ad 45)] (QL D kc (wl kc N ad S) (fun r ws' => r = lZ (wy j) ∧ ws' = wl kc N ad S)) := by
  refine MetK.of (by decide +kernel) (Nat.le_of_ble_eq_true rfl) ?_
  intro p e s m below meth c C
  have hA : ∀ q, s.heap.size ≤ q → va_A (wl kc N ad S) s.heap.size q := fun _ h => Or.inr h
  show V p l e { frames := 1, cells := 0, slots := 0, locals := 24 } s m ([.ref (ad 45)] : List Value).toArray below meth c (MQ below (QL D kc (wl kc N ad S) (fun r ws' => r = lZ (wy j) ∧ ws' = wl kc N ad S) s.heap.size) ([.ref (ad 45)] : List Value).toArray s 0 0 (va_A (wl kc N ad S) s.heap.size)) D (va_A (wl kc N ad S) s.heap.size) 1 0 0 (wl kc N ad S) 0 [(0, .ref (ad 45))] []
  refine v_aload_n 0 0 C dX4_wayY_0 rfl ?_
  refine g_Mo_step 1 C (vm.o hm).1 (vm.o hm).2 lk_510 dX4_wayY_1 ?_
  refine v_eqi (iZ (j : Int)) (hs) ?_
  refine v_bipush 4 C (iZ 8) dX4_wayY_4 (by decide) ?_
  refine z_icmp_gt 6 25 C (by first | assumption | exact ⟨by omega, by omega⟩) (by first | assumption | exact ⟨by omega, by omega⟩) dX4_wayY_6 (by decide) (fun c6_0 => ?_) (fun c6_0 => ?_)
  · skip
    refine v_aload_n 25 0 C dX4_wayY_25 rfl ?_
    refine g_Mo_ways 26 C (vm.o hm).1 (vm.o hm).2 lk_509 dX4_wayY_26 ?_
    refine v_aload_n 29 0 C dX4_wayY_29 rfl ?_
    refine g_Mo_step 30 C (vm.o hm).1 (vm.o hm).2 lk_510 dX4_wayY_30 ?_
    refine v_eqi (iZ (j : Int)) (hs) ?_
    refine v_bipush 33 C (iZ 8) dX4_wayY_33 (by decide) ?_
    refine z_isub 35 C dX4_wayY_35 ?_
    refine v_iald 36 C (vm.a hm 53 (by decide) rfl).1 (vm.a hm 53 (by decide) rfl).2 (j - 8) (izn (by omega)) (lnx (show ln 53 = 9 from rfl) (by omega)) dX4_wayY_36 ?_
    refine v_eqi (iZ (wT (j - 8))) (hM.2.2.2.2 (j - 8) (by omega)) ?_
    refine z_i2l 37 C (wT_b _) dX4_wayY_37 ?_
    exact v_lret 38 C (⟨by unfold wy; rw [if_neg (by omega)], rfl⟩) dX4_wayY_38
  · skip
    refine v_aload_n 9 0 C dX4_wayY_9 rfl ?_
    refine g_Mo_ways 10 C (vm.o hm).1 (vm.o hm).2 lk_509 dX4_wayY_10 ?_
    refine v_bipush 13 C (iZ 8) dX4_wayY_13 (by decide) ?_
    refine v_aload_n 15 0 C dX4_wayY_15 rfl ?_
    refine g_Mo_step 16 C (vm.o hm).1 (vm.o hm).2 lk_510 dX4_wayY_16 ?_
    refine v_eqi (iZ (j : Int)) (hs) ?_
    refine z_isub 19 C dX4_wayY_19 ?_
    refine v_iald 20 C (vm.a hm 53 (by decide) rfl).1 (vm.a hm 53 (by decide) rfl).2 (8 - j) (izn (by omega)) (lnx (show ln 53 = 9 from rfl) (by omega)) dX4_wayY_20 ?_
    refine v_eqi (iZ (wT (8 - j))) (hM.2.2.2.2 (8 - j) (by omega)) ?_
    refine z_i2l 21 C (wT_b _) dX4_wayY_21 ?_
    refine v_goto 22 38 C dX4_wayY_22 (by decide) ?_
    exact v_lret 38 C (⟨by unfold wy; rw [if_pos (by omega)], rfl⟩) dX4_wayY_38

set_option maxHeartbeats 4000000 in
set_option maxRecDepth 100000 in
theorem m4_planeStuck {l : Launch} {D : va_G} {kc : Nat → ClassId} {N : Nat} {ad : Nat → Nat} {S : St} {u : Nat} {v : Int} (hm : vm N) (hu : u < 62) (hs : 2 ≤ u → gA S 56 (u / 2 - 1) = iZ v ∧ b01 v) : MetK l yX4_isPlaneStuck cX4_isPlaneStuck 2 (some FieldType.boolean) 1 0 0 24 D kc (wl kc N ad S) [.ref (ad 45), .int (iZ (u : Int))] (QI D kc (wl kc N ad S) (fun r ws' => r = iZ (if u < 2 then 0 else v) ∧ ws' = wl kc N ad S)) := by
  refine MetK.of (by decide +kernel) (Nat.le_of_ble_eq_true rfl) ?_
  intro p e s m below meth c C
  have hA : ∀ q, s.heap.size ≤ q → va_A (wl kc N ad S) s.heap.size q := fun _ h => Or.inr h
  show V p l e { frames := 1, cells := 0, slots := 0, locals := 24 } s m ([.ref (ad 45), .int (iZ (u : Int))] : List Value).toArray below meth c (MQ below (QI D kc (wl kc N ad S) (fun r ws' => r = iZ (if u < 2 then 0 else v) ∧ ws' = wl kc N ad S) s.heap.size) ([.ref (ad 45), .int (iZ (u : Int))] : List Value).toArray s 0 0 (va_A (wl kc N ad S) s.heap.size)) D (va_A (wl kc N ad S) s.heap.size) 2 0 0 (wl kc N ad S) 0 [(0, .ref (ad 45)), (1, .int (iZ (u : Int)))] []
  refine v_iload_n 0 1 C dX4_isPlaneStuck_0 rfl ?_
  refine v_iconst 1 C (iZ 1) dX4_isPlaneStuck_1 rfl ?_
  refine z_icmp_le 2 22 C (by first | assumption | exact ⟨by omega, by omega⟩) (by first | assumption | exact ⟨by omega, by omega⟩) dX4_isPlaneStuck_2 (by decide) (fun c2_0 => ?_) (fun c2_0 => ?_)
  · skip
    refine v_iconst 22 C (iZ 0) dX4_isPlaneStuck_22 rfl ?_
    exact v_zret 23 C (rfl) (⟨by rw [if_pos (by omega)], rfl⟩) dX4_isPlaneStuck_23
  · skip
    have hv := (hs (by omega)).2
    refine v_aload_n 5 0 C dX4_isPlaneStuck_5 rfl ?_
    refine g_Mo_isStuck 6 C (vm.o hm).1 (vm.o hm).2 lk_513 dX4_isPlaneStuck_6 ?_
    refine v_iload_n 9 1 C dX4_isPlaneStuck_9 rfl ?_
    refine v_iconst 10 C (iZ 2) dX4_isPlaneStuck_10 rfl ?_
    refine z_idiv2 11 C (by first | assumption | exact ⟨by omega, by omega⟩) dX4_isPlaneStuck_11 ?_
    refine v_eqi (iZ ((u : Int) / 2)) (congrArg iZ (Int.tdiv_eq_ediv_of_nonneg (by omega))) ?_
    refine v_iconst 12 C (iZ 1) dX4_isPlaneStuck_12 rfl ?_
    refine z_isub 13 C dX4_isPlaneStuck_13 ?_
    refine v_zald 14 C (vm.a hm 56 (by decide) rfl).1 (vm.a hm 56 (by decide) rfl).2 (u / 2 - 1) (izn (by omega)) (lnx (show ln 56 = 30 from rfl) (by omega)) dX4_isPlaneStuck_14 ?_
    refine v_eqi (iZ v) ((hs (by omega)).1) ?_
    refine z_if_eq 15 22 C (by first | assumption | exact ⟨by omega, by omega⟩) dX4_isPlaneStuck_15 (by decide) (fun c15_1 => ?_) (fun c15_1 => ?_)
    · skip
      refine v_iconst 22 C (iZ 0) dX4_isPlaneStuck_22 rfl ?_
      exact v_zret 23 C (rfl) (⟨by rw [if_neg (by omega), c15_1], rfl⟩) dX4_isPlaneStuck_23
    · skip
      refine v_iconst 18 C (iZ 1) dX4_isPlaneStuck_18 rfl ?_
      refine v_goto 19 23 C dX4_isPlaneStuck_19 (by decide) ?_
      exact v_zret 23 C (rfl) (⟨by rw [if_neg (by omega), hv.resolve_left c15_1], rfl⟩) dX4_isPlaneStuck_23

def bt : Nat → Int
  | 0 => 0
  | n + 1 => 2 ^ n
theorem bt_shr : ∀ n, n < 32 → (lZ (bt (n + 1))) >>> ((iZ 1).toInt64 &&& 63) = lZ (bt n) := by decide +kernel
set_option maxHeartbeats 4000000 in
set_option maxRecDepth 100000 in
theorem m4_root {l : Launch} {D : va_G} {kc : Nat → ClassId} {N : Nat} {ad : Nat → Nat} {S : St} {v : Int} (h0 : 0 ≤ v) (hv : v < 4611686018427387904) : MetK l yX4_root cX4_root 6 (some FieldType.long) 1 0 0 24 D kc (wl kc N ad S) [.long (lZ v)] (QL D kc (wl kc N ad S) (fun r ws' => r = lZ (isq v) ∧ ws' = wl kc N ad S)) := by
  refine MetK.of (by decide +kernel) (Nat.le_of_ble_eq_true rfl) ?_
  intro p e s m below meth c C
  have hA : ∀ q, s.heap.size ≤ q → va_A (wl kc N ad S) s.heap.size q := fun _ h => Or.inr h
  show V p l e { frames := 1, cells := 0, slots := 0, locals := 24 } s m ([.long (lZ v)] : List Value).toArray below meth c (MQ below (QL D kc (wl kc N ad S) (fun r ws' => r = lZ (isq v) ∧ ws' = wl kc N ad S) s.heap.size) ([.long (lZ v)] : List Value).toArray s 0 0 (va_A (wl kc N ad S) s.heap.size)) D (va_A (wl kc N ad S) s.heap.size) 6 0 0 (wl kc N ad S) 0 [(0, .long (lZ v))] []
  have hv64 : r64 v := ⟨by omega, by omega⟩
  have loop : ∀ (n : Nat) (r : Int), n ≤ 31 → 0 ≤ r → r + 2 ^ n ≤ 2147483648 → rtL n r v = isq v → V p l e { frames := 1, cells := 0, slots := 0, locals := 24 } s m ([.long (lZ v)] : List Value).toArray below meth c (MQ below (QL D kc (wl kc N ad S) (fun r ws' => r = lZ (isq v) ∧ ws' = wl kc N ad S) s.heap.size) ([.long (lZ v)] : List Value).toArray s 0 0 (va_A (wl kc N ad S) s.heap.size)) D (va_A (wl kc N ad S) s.heap.size) 6 0 0 (wl kc N ad S) 7 [(4, .long (lZ (bt n))), (2, .long (lZ r)), (0, .long (lZ v))] [] := by
    intro n
    induction n with
    | zero =>
      intro r hn h1 h2 h3
      show V p l e { frames := 1, cells := 0, slots := 0, locals := 24 } s m ([.long (lZ v)] : List Value).toArray below meth c (MQ below (QL D kc (wl kc N ad S) (fun r ws' => r = lZ (isq v) ∧ ws' = wl kc N ad S) s.heap.size) ([.long (lZ v)] : List Value).toArray s 0 0 (va_A (wl kc N ad S) s.heap.size)) D (va_A (wl kc N ad S) s.heap.size) 6 0 0 (wl kc N ad S) 7 [(4, .long (lZ 0)), (2, .long (lZ r)), (0, .long (lZ v))] []
      refine v_lload 7 0 C dX4_root_7 rfl ?_
      refine v_lconst 9 C (lZ 0) dX4_root_9 (by decide) ?_
      refine z_lcmp_le 10 46 C (by first | assumption | exact ⟨by omega, by omega⟩) (by first | assumption | exact ⟨by omega, by omega⟩) dX4_root_10 dX4_root_11 (by decide) (fun c10_0 => ?_) (fun c10_0 => absurd (by decide) c10_0)
      refine v_lload_n 46 1 C dX4_root_46 rfl ?_
      exact v_lret 47 C (⟨by rw [← h3]; rfl, rfl⟩) dX4_root_47
    | succ n ih =>
      intro r hn h1 h2 h3
      have hp : (0 : Int) < 2 ^ n := Int.pow_pos (by decide)
      have hq : (2 : Int) ^ (n + 1) = 2 * 2 ^ n := by rw [Int.pow_succ]; omega
      rw [hq] at h2
      have hb : bt (n + 1) = 2 ^ n := rfl
      have hsq : r64 ((r + bt (n + 1)) * (r + bt (n + 1))) := sq64 (by omega) (by omega)
      refine v_lload 7 0 C dX4_root_7 rfl ?_
      refine v_lconst 9 C (lZ 0) dX4_root_9 (by decide) ?_
      refine z_lcmp_le 10 46 C (by first | assumption | exact ⟨by omega, by omega⟩) (by first | assumption | exact ⟨by omega, by omega⟩) dX4_root_10 dX4_root_11 (by decide) (fun c10_0 => absurd c10_0 (by omega)) (fun c10_0 => ?_)
      refine v_lload_n 14 1 C dX4_root_14 rfl ?_
      refine v_lload_n 15 1 C dX4_root_15 rfl ?_
      refine v_lload 16 0 C dX4_root_16 rfl ?_
      refine z_ladd 18 C dX4_root_18 ?_
      refine v_lload_n 19 1 C dX4_root_19 rfl ?_
      refine v_lload 20 0 C dX4_root_20 rfl ?_
      refine z_ladd 22 C dX4_root_22 ?_
      refine z_lmul 23 C dX4_root_23 ?_
      refine v_lload_n 24 2 C dX4_root_24 rfl ?_
      refine z_lcmp_gt 25 34 C (by first | assumption | exact ⟨by omega, by omega⟩) (by first | assumption | exact ⟨by omega, by omega⟩) dX4_root_25 dX4_root_26 (by decide) (fun c25_1 => ?_) (fun c25_1 => ?_)
      · skip
        refine v_lconst 34 C (lZ 0) dX4_root_34 (by decide) ?_
        refine z_ladd 35 C dX4_root_35 ?_
        refine v_lstore_n 36 [(2, .long (lZ (r + 0))), (4, .long (lZ (bt (n + 1)))), (0, .long (lZ v))] C dX4_root_36 (by decide) rfl ?_
        refine v_lload 37 1 C dX4_root_37 rfl ?_
        refine v_iconst 39 C (iZ 1) dX4_root_39 rfl ?_
        refine v_lshr 40 C (v := lZ (bt n)) dX4_root_40 (bt_shr n (by omega)) ?_
        refine v_lstore 41 [(4, .long (lZ (bt n))), (2, .long (lZ (r + 0))), (0, .long (lZ v))] C dX4_root_41 (by decide) rfl ?_
        refine v_goto 43 7 C dX4_root_43 (by decide) ?_
        refine v_sub [0, 1, 2] rfl ?_
        rw [Int.add_zero]
        exact ih r (by omega) h1 (by omega) (by rw [← h3, rtL, if_neg (by rw [← hb]; omega)])
      · skip
        refine v_lload 29 0 C dX4_root_29 rfl ?_
        refine v_goto 31 35 C dX4_root_31 (by decide) ?_
        refine z_ladd 35 C dX4_root_35 ?_
        refine v_lstore_n 36 [(2, .long (lZ (r + (bt (n + 1))))), (4, .long (lZ (bt (n + 1)))), (0, .long (lZ v))] C dX4_root_36 (by decide) rfl ?_
        refine v_lload 37 1 C dX4_root_37 rfl ?_
        refine v_iconst 39 C (iZ 1) dX4_root_39 rfl ?_
        refine v_lshr 40 C (v := lZ (bt n)) dX4_root_40 (bt_shr n (by omega)) ?_
        refine v_lstore 41 [(4, .long (lZ (bt n))), (2, .long (lZ (r + (bt (n + 1))))), (0, .long (lZ v))] C dX4_root_41 (by decide) rfl ?_
        refine v_goto 43 7 C dX4_root_43 (by decide) ?_
        refine v_sub [0, 1, 2] rfl ?_
        exact ih (r + bt (n + 1)) (by omega) (by omega) (by omega) (by rw [← h3, rtL, if_pos (by rw [← hb]; omega)]; rfl)
  refine v_lconst 0 C (lZ 0) dX4_root_0 (by decide) ?_
  refine v_lstore_n 1 [(2, .long (lZ 0)), (0, .long (lZ v))] C dX4_root_1 (by decide) rfl ?_
  refine v_ldc2 2 C (2147483648) lk_650 dX4_root_2 ?_
  refine v_eql (lZ 2147483648) (by decide) ?_
  refine v_eql (lZ (bt 32)) (by decide) ?_
  refine v_lstore 5 [(4, .long (lZ (bt 32))), (2, .long (lZ 0)), (0, .long (lZ v))] C dX4_root_5 (by decide) rfl ?_
  refine v_lload 7 0 C dX4_root_7 rfl ?_
  refine v_lconst 9 C (lZ 0) dX4_root_9 (by decide) ?_
  refine z_lcmp_le 10 46 C (by decide) (by decide) dX4_root_10 dX4_root_11 (by decide) (fun c10_0 => absurd c10_0 (by decide)) (fun c10_0 => ?_)
  refine v_lload_n 14 1 C dX4_root_14 rfl ?_
  refine v_lload_n 15 1 C dX4_root_15 rfl ?_
  refine v_lload 16 0 C dX4_root_16 rfl ?_
  refine z_ladd 18 C dX4_root_18 ?_
  refine v_lload_n 19 1 C dX4_root_19 rfl ?_
  refine v_lload 20 0 C dX4_root_20 rfl ?_
  refine z_ladd 22 C dX4_root_22 ?_
  refine z_lmul 23 C dX4_root_23 ?_
  refine v_lload_n 24 2 C dX4_root_24 rfl ?_
  refine z_lcmp_gt 25 34 C (by decide) hv64 dX4_root_25 dX4_root_26 (by decide) (fun c25_1 => ?_) (fun c25_1 => absurd (by rw [show (0 + bt 32) * (0 + bt 32) = 4611686018427387904 from by decide]; exact hv) c25_1)
  refine v_lconst 34 C (lZ 0) dX4_root_34 (by decide) ?_
  refine z_ladd 35 C dX4_root_35 ?_
  refine v_eql (lZ 0) (by decide) ?_
  refine v_lstore_n 36 [(2, .long (lZ 0)), (4, .long (lZ (bt 32))), (0, .long (lZ v))] C dX4_root_36 (by decide) rfl ?_
  refine v_lload 37 1 C dX4_root_37 rfl ?_
  refine v_iconst 39 C (iZ 1) dX4_root_39 rfl ?_
  refine v_lshr 40 C (v := lZ (bt 31)) dX4_root_40 (bt_shr 31 (by decide)) ?_
  refine v_lstore 41 [(4, .long (lZ (bt 31))), (2, .long (lZ 0)), (0, .long (lZ v))] C dX4_root_41 (by decide) rfl ?_
  refine v_goto 43 7 C dX4_root_43 (by decide) ?_
  refine v_sub [0, 1, 2] rfl ?_
  exact loop 31 0 (by decide) (by decide) (by decide) rfl
