/-! PARTS' methods -/
theorem kne {a b : Nat} (h : kd a ≠ kd b) : a ≠ b := fun e => h (by rw [e])
def hangT (S : St) (i : Nat) (k p a q b : Int) : St := pI (pI (pI (pI (pI S i 5 (iZ k)) i 6 (iZ p)) i 7 (iZ a)) i 8 (iZ q)) i 9 (iZ b)
theorem gI_hang {S : St} {i : Nat} {k p a q b : Int} {m f : Nat} (h : m ≠ i) : gI (hangT S i k p a q b) m f = gI S m f := by
  unfold hangT
  rw [gI_pI, if_neg (fun q => h q.1), gI_pI, if_neg (fun q => h q.1), gI_pI, if_neg (fun q => h q.1), gI_pI, if_neg (fun q => h q.1), gI_pI, if_neg (fun q => h q.1)]
def cutT (S : St) (i : Nat) (c d : Int) : St := pI (pI S (i + 13) 4 (iZ c)) (i + 14) 4 (iZ d)
def likeT (S : St) (i : Nat) (k p a q b c d lf : Int) : St := pI (cutT (hangT S i k p a q b) i c d) i 10 (iZ lf)
def rehT (S : St) (i : Nat) (fst v c d : Int) : St := cutT (if fst = 0 then pI S i 9 (iZ v) else pI S i 7 (iZ v)) i c d
def foldT (S : St) (t j : Nat) (o : Option (Int × Int)) : St := match o with
  | none => loseT S t j
  | some q => putT S t j q.1 q.2
set_option maxHeartbeats 4000000 in
set_option maxRecDepth 100000 in
theorem m_hang {l : Launch} {D : va_G} {kc : Nat → ClassId} {N : Nat} {ad : Nat → Nat} {S : St} {i : Nat} {k p_ a q b : Int} (h : vp N i) : MetK l yX0_hang cX0_hang 6 (none) 1 0 0 24 D kc (wl kc N ad S) [.ref (ad i), .int (iZ k), .int (iZ p_), .int (iZ a), .int (iZ q), .int (iZ b)] (QV D kc (wl kc N ad S) (fun ws' => ws' = wl kc N ad (hangT S i k p_ a q b))) := by
  refine MetK.of (by decide +kernel) (Nat.le_of_ble_eq_true rfl) ?_
  intro p e s m below meth c C
  have hA : ∀ q, s.heap.size ≤ q → va_A (wl kc N ad S) s.heap.size q := fun _ h => Or.inr h
  show V p l e { frames := 1, cells := 0, slots := 0, locals := 24 } s m ([.ref (ad i), .int (iZ k), .int (iZ p_), .int (iZ a), .int (iZ q), .int (iZ b)] : List Value).toArray below meth c (MQ below (QV D kc (wl kc N ad S) (fun ws' => ws' = wl kc N ad (hangT S i k p_ a q b)) s.heap.size) ([.ref (ad i), .int (iZ k), .int (iZ p_), .int (iZ a), .int (iZ q), .int (iZ b)] : List Value).toArray s 0 0 (va_A (wl kc N ad S) s.heap.size)) D (va_A (wl kc N ad S) s.heap.size) 6 0 0 (wl kc N ad S) 0 [(0, .ref (ad i)), (1, .int (iZ k)), (2, .int (iZ p_)), (3, .int (iZ a)), (4, .int (iZ q)), (5, .int (iZ b))] []
  refine v_aload_n 0 0 C dX0_hang_0 rfl ?_
  refine v_iload_n 1 1 C dX0_hang_1 rfl ?_
  refine s_Pt_kind 2 C (vp.o h).1 (vp.o h).2 lk_132 dX0_hang_2 ?_
  refine v_aload_n 5 0 C dX0_hang_5 rfl ?_
  refine v_iload_n 6 2 C dX0_hang_6 rfl ?_
  refine s_Pt_p 7 C (vp.o h).1 (vp.o h).2 lk_134 dX0_hang_7 ?_
  refine v_aload_n 10 0 C dX0_hang_10 rfl ?_
  refine v_iload_n 11 3 C dX0_hang_11 rfl ?_
  refine s_Pt_a 12 C (vp.o h).1 (vp.o h).2 lk_136 dX0_hang_12 ?_
  refine v_aload_n 15 0 C dX0_hang_15 rfl ?_
  refine v_iload 16 4 C dX0_hang_16 rfl ?_
  refine s_Pt_q 18 C (vp.o h).1 (vp.o h).2 lk_138 dX0_hang_18 ?_
  refine v_aload_n 21 0 C dX0_hang_21 rfl ?_
  refine v_iload 22 5 C dX0_hang_22 rfl ?_
  refine s_Pt_b 24 C (vp.o h).1 (vp.o h).2 lk_140 dX0_hang_24 ?_
  exact v_vret 27 C (rfl) dX0_hang_27

set_option maxHeartbeats 4000000 in
set_option maxRecDepth 100000 in
theorem m_cut {l : Launch} {D : va_G} {kc : Nat → ClassId} {N : Nat} {ad : Nat → Nat} {S : St} {i : Nat} {k a b c_ d : Int} (h : vp N i) (hk : gI S i 5 = iZ k) (ha : gI S i 7 = iZ a) (hb : gI S i 9 = iZ b) (rk : r32 k) : MetK l yX0_cut cX0_cut 3 (none) 1 0 0 24 D kc (wl kc N ad S) [.ref (ad i), .int (iZ c_), .int (iZ d)] (QV D kc (wl kc N ad S) (fun ws' => ws' = wl kc N ad (cutT S i (if k = 1 then b else c_) (if k = 1 then a else d)))) := by
  refine MetK.of (by decide +kernel) (Nat.le_of_ble_eq_true rfl) ?_
  intro p e s m below meth c C
  have hA : ∀ q, s.heap.size ≤ q → va_A (wl kc N ad S) s.heap.size q := fun _ h => Or.inr h
  show V p l e { frames := 1, cells := 0, slots := 0, locals := 24 } s m ([.ref (ad i), .int (iZ c_), .int (iZ d)] : List Value).toArray below meth c (MQ below (QV D kc (wl kc N ad S) (fun ws' => ws' = wl kc N ad (cutT S i (if k = 1 then b else c_) (if k = 1 then a else d))) s.heap.size) ([.ref (ad i), .int (iZ c_), .int (iZ d)] : List Value).toArray s 0 0 (va_A (wl kc N ad S) s.heap.size)) D (va_A (wl kc N ad S) s.heap.size) 3 0 0 (wl kc N ad S) 0 [(0, .ref (ad i)), (1, .int (iZ c_)), (2, .int (iZ d))] []
  refine v_aload_n 0 0 C dX0_cut_0 rfl ?_
  refine g_Pt_flatA 1 C (vp.o h).1 (vp.o h).2 lk_128 dX0_cut_1 ?_
  refine v_aload_n 4 0 C dX0_cut_4 rfl ?_
  refine g_Pt_kind 5 C (vp.o h).1 (vp.o h).2 lk_132 dX0_cut_5 ?_
  refine v_eqi (iZ k) (hk) ?_
  refine v_iconst 8 C (iZ 1) dX0_cut_8 rfl ?_
  refine z_icmp_ne 9 19 C (by first | assumption | exact ⟨by omega, by omega⟩) (by first | assumption | exact ⟨by omega, by omega⟩) dX0_cut_9 (by decide) (fun c9_0 => ?_) (fun c9_0 => ?_)
  · skip
    refine v_iload_n 19 1 C dX0_cut_19 rfl ?_
    refine s_Pl_size 20 C (vl.o (vp.fA h)).1 (vl.o (vp.fA h)).2 lk_108 dX0_cut_20 ?_
    refine v_aload_n 23 0 C dX0_cut_23 rfl ?_
    refine g_Pt_flatB 24 C (vp.o h).1 (vp.o h).2 lk_130 dX0_cut_24 ?_
    refine v_aload_n 27 0 C dX0_cut_27 rfl ?_
    refine g_Pt_kind 28 C (vp.o h).1 (vp.o h).2 lk_132 dX0_cut_28 ?_
    refine v_eqi (iZ k) (by rw [gI_pI, if_neg (by omega)]; exact hk) ?_
    refine v_iconst 31 C (iZ 1) dX0_cut_31 rfl ?_
    refine z_icmp_ne 32 42 C (by first | assumption | exact ⟨by omega, by omega⟩) (by first | assumption | exact ⟨by omega, by omega⟩) dX0_cut_32 (by decide) (fun c32_1 => ?_) (fun c32_1 => absurd c32_1 (c9_0))
    refine v_iload_n 42 2 C dX0_cut_42 rfl ?_
    refine s_Pl_size 43 C (vl.o (vp.fB h)).1 (vl.o (vp.fB h)).2 lk_108 dX0_cut_43 ?_
    exact v_vret 46 C (by rw [if_neg c9_0, if_neg c9_0]; rfl) dX0_cut_46
  · skip
    refine v_aload_n 12 0 C dX0_cut_12 rfl ?_
    refine g_Pt_b 13 C (vp.o h).1 (vp.o h).2 lk_140 dX0_cut_13 ?_
    refine v_eqi (iZ b) (hb) ?_
    refine v_goto 16 20 C dX0_cut_16 (by decide) ?_
    refine s_Pl_size 20 C (vl.o (vp.fA h)).1 (vl.o (vp.fA h)).2 lk_108 dX0_cut_20 ?_
    refine v_aload_n 23 0 C dX0_cut_23 rfl ?_
    refine g_Pt_flatB 24 C (vp.o h).1 (vp.o h).2 lk_130 dX0_cut_24 ?_
    refine v_aload_n 27 0 C dX0_cut_27 rfl ?_
    refine g_Pt_kind 28 C (vp.o h).1 (vp.o h).2 lk_132 dX0_cut_28 ?_
    refine v_eqi (iZ k) (by rw [gI_pI, if_neg (by omega)]; exact hk) ?_
    refine v_iconst 31 C (iZ 1) dX0_cut_31 rfl ?_
    refine z_icmp_ne 32 42 C (by first | assumption | exact ⟨by omega, by omega⟩) (by first | assumption | exact ⟨by omega, by omega⟩) dX0_cut_32 (by decide) (fun c32_1 => absurd c32_1 (fun q => q c9_0)) (fun c32_1 => ?_)
    refine v_aload_n 35 0 C dX0_cut_35 rfl ?_
    refine g_Pt_a 36 C (vp.o h).1 (vp.o h).2 lk_136 dX0_cut_36 ?_
    refine v_eqi (iZ a) (by rw [gI_pI, if_neg (by omega)]; exact ha) ?_
    refine v_goto 39 43 C dX0_cut_39 (by decide) ?_
    refine s_Pl_size 43 C (vl.o (vp.fB h)).1 (vl.o (vp.fB h)).2 lk_108 dX0_cut_43 ?_
    exact v_vret 46 C (by rw [if_pos c9_0, if_pos c9_0]; rfl) dX0_cut_46

set_option maxHeartbeats 4000000 in
set_option maxRecDepth 100000 in
theorem m_likenTo {l : Launch} {D : va_G} {kc : Nat → ClassId} {N : Nat} {ad : Nat → Nat} {S : St} {i k0 : Nat} {k p_ a q b c_ d lf : Int} (h : vp N i) (h0 : vp N k0) (nk : k0 ≠ i) (e5 : gI S k0 5 = iZ k) (e6 : gI S k0 6 = iZ p_) (e7 : gI S k0 7 = iZ a) (e8 : gI S k0 8 = iZ q) (e9 : gI S k0 9 = iZ b) (e10 : gI S k0 10 = iZ lf) (e13 : gI S (k0 + 13) 4 = iZ c_) (e14 : gI S (k0 + 14) 4 = iZ d) (hlf : b01 lf) : MetK l yX0_likenTo cX0_likenTo 2 (none) 2 0 0 49 D kc (wl kc N ad S) [.ref (ad i), .ref (ad k0)] (QV D kc (wl kc N ad S) (fun ws' => ws' = wl kc N ad (likeT S i k p_ a q b c_ d lf))) := by
  refine MetK.of (by decide +kernel) (Nat.le_of_ble_eq_true rfl) ?_
  intro p e s m below meth c C
  have hA : ∀ q, s.heap.size ≤ q → va_A (wl kc N ad S) s.heap.size q := fun _ h => Or.inr h
  show V p l e { frames := 2, cells := 0, slots := 0, locals := 49 } s m ([.ref (ad i), .ref (ad k0)] : List Value).toArray below meth c (MQ below (QV D kc (wl kc N ad S) (fun ws' => ws' = wl kc N ad (likeT S i k p_ a q b c_ d lf)) s.heap.size) ([.ref (ad i), .ref (ad k0)] : List Value).toArray s 0 0 (va_A (wl kc N ad S) s.heap.size)) D (va_A (wl kc N ad S) s.heap.size) 2 0 0 (wl kc N ad S) 0 [(0, .ref (ad i)), (1, .ref (ad k0))] []
  have n13 : k0 + 13 ≠ i := kne (by rw [(vl.o (vp.fA h0)).2, (vp.o h).2]; decide)
  have n14 : k0 + 14 ≠ i := kne (by rw [(vl.o (vp.fB h0)).2, (vp.o h).2]; decide)
  have n1413 : k0 + 14 ≠ i + 13 := fun q => by
    have a1 := h0.2.2.2.2.1
    have a2 := h.2.2.2.1.1
    rw [q, a2] at a1
    have : k0 = i - 1 := by omega
    have x1 := (vp.o h0).2
    have x2 := (vp.o h).2
    have x3 := (vt.o (vp.A h0)).2
    rw [show k0 + 1 = i by omega, x2] at x3
    exact absurd x3 (by decide)
  refine v_aload_n 0 0 C dX0_likenTo_0 rfl ?_
  refine v_aload_n 1 1 C dX0_likenTo_1 rfl ?_
  refine g_Pt_kind 2 C (vp.o h0).1 (vp.o h0).2 lk_132 dX0_likenTo_2 ?_
  refine v_eqi (iZ k) (e5) ?_
  refine v_aload_n 5 1 C dX0_likenTo_5 rfl ?_
  refine g_Pt_p 6 C (vp.o h0).1 (vp.o h0).2 lk_134 dX0_likenTo_6 ?_
  refine v_eqi (iZ p_) (e6) ?_
  refine v_aload_n 9 1 C dX0_likenTo_9 rfl ?_
  refine g_Pt_a 10 C (vp.o h0).1 (vp.o h0).2 lk_136 dX0_likenTo_10 ?_
  refine v_eqi (iZ a) (e7) ?_
  refine v_aload_n 13 1 C dX0_likenTo_13 rfl ?_
  refine g_Pt_q 14 C (vp.o h0).1 (vp.o h0).2 lk_138 dX0_likenTo_14 ?_
  refine v_eqi (iZ q) (e8) ?_
  refine v_aload_n 17 1 C dX0_likenTo_17 rfl ?_
  refine g_Pt_b 18 C (vp.o h0).1 (vp.o h0).2 lk_140 dX0_likenTo_18 ?_
  refine v_eqi (iZ b) (e9) ?_
  refine v_callv 21 hA (rV_Pt 21 C L_RX0_55 lk_263 lk_264 (m_hang h) (vp.o h) rfl ⟨rfl, rfl⟩ (rm_ok rfl) dX0_likenTo_21) (fun w2 h3 => ?_)
  obtain rfl := h3
  refine v_aload_n 24 0 C dX0_likenTo_24 rfl ?_
  refine g_Pt_flatA 25 C (vp.o h).1 (vp.o h).2 lk_128 dX0_likenTo_25 ?_
  refine v_aload_n 28 1 C dX0_likenTo_28 rfl ?_
  refine g_Pt_flatA 29 C (vp.o h0).1 (vp.o h0).2 lk_128 dX0_likenTo_29 ?_
  refine g_Pl_size 32 C (vl.o (vp.fA h0)).1 (vl.o (vp.fA h0)).2 lk_108 dX0_likenTo_32 ?_
  refine v_eqi (iZ c_) (by rw [gI_hang n13]; exact e13) ?_
  refine s_Pl_size 35 C (vl.o (vp.fA h)).1 (vl.o (vp.fA h)).2 lk_108 dX0_likenTo_35 ?_
  refine v_aload_n 38 0 C dX0_likenTo_38 rfl ?_
  refine g_Pt_flatB 39 C (vp.o h).1 (vp.o h).2 lk_130 dX0_likenTo_39 ?_
  refine v_aload_n 42 1 C dX0_likenTo_42 rfl ?_
  refine g_Pt_flatB 43 C (vp.o h0).1 (vp.o h0).2 lk_130 dX0_likenTo_43 ?_
  refine g_Pl_size 46 C (vl.o (vp.fB h0)).1 (vl.o (vp.fB h0)).2 lk_108 dX0_likenTo_46 ?_
  refine v_eqi (iZ d) (by rw [gI_pI, if_neg (fun q => n1413 q.1), gI_hang n14]; exact e14) ?_
  refine s_Pl_size 49 C (vl.o (vp.fB h)).1 (vl.o (vp.fB h)).2 lk_108 dX0_likenTo_49 ?_
  refine v_aload_n 52 0 C dX0_likenTo_52 rfl ?_
  refine v_aload_n 53 1 C dX0_likenTo_53 rfl ?_
  refine g_Pt_leftward 54 C (vp.o h0).1 (vp.o h0).2 lk_143 dX0_likenTo_54 ?_
  refine v_eqi (iZ lf) (by rw [gI_pI, if_neg (fun q => absurd q.2 (by decide)), gI_pI, if_neg (fun q => absurd q.2 (by decide)), gI_hang nk]; exact e10) ?_
  refine s_Pt_leftward 57 C (vp.o h).1 (vp.o h).2 (zn01 hlf) (zf01 hlf) lk_143 dX0_likenTo_57 ?_
  exact v_vret 60 C (rfl) dX0_likenTo_60

set_option maxHeartbeats 4000000 in
set_option maxRecDepth 100000 in
theorem m_planeOf {l : Launch} {D : va_G} {kc : Nat → ClassId} {N : Nat} {ad : Nat → Nat} {S : St} {i : Nat} {f p_ q : Int} (h : vp N i) (rf : r32 f) (e6 : gI S i 6 = iZ p_) (e8 : gI S i 8 = iZ q) : MetK l yX0_planeOf cX0_planeOf 2 (some FieldType.int) 1 0 0 24 D kc (wl kc N ad S) [.ref (ad i), .int (iZ f)] (QI D kc (wl kc N ad S) (fun r ws' => r = iZ (if f = 0 then q else p_) ∧ ws' = wl kc N ad S)) := by
  refine MetK.of (by decide +kernel) (Nat.le_of_ble_eq_true rfl) ?_
  intro p e s m below meth c C
  have hA : ∀ q, s.heap.size ≤ q → va_A (wl kc N ad S) s.heap.size q := fun _ h => Or.inr h
  show V p l e { frames := 1, cells := 0, slots := 0, locals := 24 } s m ([.ref (ad i), .int (iZ f)] : List Value).toArray below meth c (MQ below (QI D kc (wl kc N ad S) (fun r ws' => r = iZ (if f = 0 then q else p_) ∧ ws' = wl kc N ad S) s.heap.size) ([.ref (ad i), .int (iZ f)] : List Value).toArray s 0 0 (va_A (wl kc N ad S) s.heap.size)) D (va_A (wl kc N ad S) s.heap.size) 2 0 0 (wl kc N ad S) 0 [(0, .ref (ad i)), (1, .int (iZ f))] []
  refine v_iload_n 0 1 C dX0_planeOf_0 rfl ?_
  refine z_if_eq 1 11 C (by first | assumption | exact ⟨by omega, by omega⟩) dX0_planeOf_1 (by decide) (fun c1_0 => ?_) (fun c1_0 => ?_)
  · skip
    refine v_aload_n 11 0 C dX0_planeOf_11 rfl ?_
    refine g_Pt_q 12 C (vp.o h).1 (vp.o h).2 lk_138 dX0_planeOf_12 ?_
    refine v_eqi (iZ q) (e8) ?_
    exact v_iret 15 C (⟨by rw [if_pos c1_0], rfl⟩) dX0_planeOf_15
  · skip
    refine v_aload_n 4 0 C dX0_planeOf_4 rfl ?_
    refine g_Pt_p 5 C (vp.o h).1 (vp.o h).2 lk_134 dX0_planeOf_5 ?_
    refine v_eqi (iZ p_) (e6) ?_
    refine v_goto 8 15 C dX0_planeOf_8 (by decide) ?_
    exact v_iret 15 C (⟨by rw [if_neg c1_0], rfl⟩) dX0_planeOf_15

set_option maxHeartbeats 4000000 in
set_option maxRecDepth 100000 in
theorem m_distanceOf {l : Launch} {D : va_G} {kc : Nat → ClassId} {N : Nat} {ad : Nat → Nat} {S : St} {i : Nat} {f a b : Int} (h : vp N i) (rf : r32 f) (e7 : gI S i 7 = iZ a) (e9 : gI S i 9 = iZ b) : MetK l yX0_distanceOf cX0_distanceOf 2 (some FieldType.int) 1 0 0 24 D kc (wl kc N ad S) [.ref (ad i), .int (iZ f)] (QI D kc (wl kc N ad S) (fun r ws' => r = iZ (if f = 0 then b else a) ∧ ws' = wl kc N ad S)) := by
  refine MetK.of (by decide +kernel) (Nat.le_of_ble_eq_true rfl) ?_
  intro p e s m below meth c C
  have hA : ∀ q, s.heap.size ≤ q → va_A (wl kc N ad S) s.heap.size q := fun _ h => Or.inr h
  show V p l e { frames := 1, cells := 0, slots := 0, locals := 24 } s m ([.ref (ad i), .int (iZ f)] : List Value).toArray below meth c (MQ below (QI D kc (wl kc N ad S) (fun r ws' => r = iZ (if f = 0 then b else a) ∧ ws' = wl kc N ad S) s.heap.size) ([.ref (ad i), .int (iZ f)] : List Value).toArray s 0 0 (va_A (wl kc N ad S) s.heap.size)) D (va_A (wl kc N ad S) s.heap.size) 2 0 0 (wl kc N ad S) 0 [(0, .ref (ad i)), (1, .int (iZ f))] []
  refine v_iload_n 0 1 C dX0_distanceOf_0 rfl ?_
  refine z_if_eq 1 11 C (by first | assumption | exact ⟨by omega, by omega⟩) dX0_distanceOf_1 (by decide) (fun c1_0 => ?_) (fun c1_0 => ?_)
  · skip
    refine v_aload_n 11 0 C dX0_distanceOf_11 rfl ?_
    refine g_Pt_b 12 C (vp.o h).1 (vp.o h).2 lk_140 dX0_distanceOf_12 ?_
    refine v_eqi (iZ b) (e9) ?_
    exact v_iret 15 C (⟨by rw [if_pos c1_0], rfl⟩) dX0_distanceOf_15
  · skip
    refine v_aload_n 4 0 C dX0_distanceOf_4 rfl ?_
    refine g_Pt_a 5 C (vp.o h).1 (vp.o h).2 lk_136 dX0_distanceOf_5 ?_
    refine v_eqi (iZ a) (e7) ?_
    refine v_goto 8 15 C dX0_distanceOf_8 (by decide) ?_
    exact v_iret 15 C (⟨by rw [if_neg c1_0], rfl⟩) dX0_distanceOf_15

set_option maxHeartbeats 4000000 in
set_option maxRecDepth 100000 in
theorem m_least {l : Launch} {D : va_G} {kc : Nat → ClassId} {N : Nat} {ad : Nat → Nat} {S : St} {i : Nat} {k : Int} (h : vp N i) (rk : r32 k) (e5 : gI S i 5 = iZ k) : MetK l yX0_leastDistance cX0_leastDistance 1 (some FieldType.int) 1 0 0 24 D kc (wl kc N ad S) [.ref (ad i)] (QI D kc (wl kc N ad S) (fun r ws' => r = iZ (if k = 1 then 1 else 0) ∧ ws' = wl kc N ad S)) := by
  refine MetK.of (by decide +kernel) (Nat.le_of_ble_eq_true rfl) ?_
  intro p e s m below meth c C
  have hA : ∀ q, s.heap.size ≤ q → va_A (wl kc N ad S) s.heap.size q := fun _ h => Or.inr h
  show V p l e { frames := 1, cells := 0, slots := 0, locals := 24 } s m ([.ref (ad i)] : List Value).toArray below meth c (MQ below (QI D kc (wl kc N ad S) (fun r ws' => r = iZ (if k = 1 then 1 else 0) ∧ ws' = wl kc N ad S) s.heap.size) ([.ref (ad i)] : List Value).toArray s 0 0 (va_A (wl kc N ad S) s.heap.size)) D (va_A (wl kc N ad S) s.heap.size) 1 0 0 (wl kc N ad S) 0 [(0, .ref (ad i))] []
  refine v_aload_n 0 0 C dX0_leastDistance_0 rfl ?_
  refine g_Pt_kind 1 C (vp.o h).1 (vp.o h).2 lk_132 dX0_leastDistance_1 ?_
  refine v_eqi (iZ k) (e5) ?_
  refine v_iconst 4 C (iZ 1) dX0_leastDistance_4 rfl ?_
  refine z_icmp_ne 5 12 C (by first | assumption | exact ⟨by omega, by omega⟩) (by first | assumption | exact ⟨by omega, by omega⟩) dX0_leastDistance_5 (by decide) (fun c5_0 => ?_) (fun c5_0 => ?_)
  · skip
    refine v_iconst 12 C (iZ 0) dX0_leastDistance_12 rfl ?_
    exact v_iret 13 C (⟨by rw [if_neg c5_0], rfl⟩) dX0_leastDistance_13
  · skip
    refine v_iconst 8 C (iZ 1) dX0_leastDistance_8 rfl ?_
    refine v_goto 9 13 C dX0_leastDistance_9 (by decide) ?_
    exact v_iret 13 C (⟨by rw [if_pos c5_0], rfl⟩) dX0_leastDistance_13

set_option maxHeartbeats 4000000 in
set_option maxRecDepth 100000 in
theorem m_rehang {l : Launch} {D : va_G} {kc : Nat → ClassId} {N : Nat} {ad : Nat → Nat} {S : St} {i : Nat} {f v k a b c_ d : Int} (h : vp N i) (rf : r32 f) (rk : r32 k) (e5 : gI S i 5 = iZ k) (e7 : gI S i 7 = iZ a) (e9 : gI S i 9 = iZ b) (e13 : gI S (i + 13) 4 = iZ c_) (e14 : gI S (i + 14) 4 = iZ d) : MetK l yX0_rehang cX0_rehang 3 (none) 2 0 0 46 D kc (wl kc N ad S) [.ref (ad i), .int (iZ f), .int (iZ v)] (QV D kc (wl kc N ad S) (fun ws' => ws' = wl kc N ad (rehT S i f v (if k = 1 then (if f = 0 then v else b) else c_) (if k = 1 then (if f = 0 then a else v) else d)))) := by
  refine MetK.of (by decide +kernel) (Nat.le_of_ble_eq_true rfl) ?_
  intro p e s m below meth c C
  have hA : ∀ q, s.heap.size ≤ q → va_A (wl kc N ad S) s.heap.size q := fun _ h => Or.inr h
  show V p l e { frames := 2, cells := 0, slots := 0, locals := 46 } s m ([.ref (ad i), .int (iZ f), .int (iZ v)] : List Value).toArray below meth c (MQ below (QV D kc (wl kc N ad S) (fun ws' => ws' = wl kc N ad (rehT S i f v (if k = 1 then (if f = 0 then v else b) else c_) (if k = 1 then (if f = 0 then a else v) else d))) s.heap.size) ([.ref (ad i), .int (iZ f), .int (iZ v)] : List Value).toArray s 0 0 (va_A (wl kc N ad S) s.heap.size)) D (va_A (wl kc N ad S) s.heap.size) 3 0 0 (wl kc N ad S) 0 [(0, .ref (ad i)), (1, .int (iZ f)), (2, .int (iZ v))] []
  refine v_iload_n 0 1 C dX0_rehang_0 rfl ?_
  refine z_if_eq 1 12 C (by first | assumption | exact ⟨by omega, by omega⟩) dX0_rehang_1 (by decide) (fun c1_0 => ?_) (fun c1_0 => ?_)
  · skip
    refine v_aload_n 12 0 C dX0_rehang_12 rfl ?_
    refine v_iload_n 13 2 C dX0_rehang_13 rfl ?_
    refine s_Pt_b 14 C (vp.o h).1 (vp.o h).2 lk_140 dX0_rehang_14 ?_
    refine v_aload_n 17 0 C dX0_rehang_17 rfl ?_
    refine v_aload_n 18 0 C dX0_rehang_18 rfl ?_
    refine g_Pt_flatA 19 C (vp.o h).1 (vp.o h).2 lk_128 dX0_rehang_19 ?_
    refine g_Pl_size 22 C (vl.o (vp.fA h)).1 (vl.o (vp.fA h)).2 lk_108 dX0_rehang_22 ?_
    refine v_eqi (iZ c_) (by rw [gI_pI, if_neg (fun q => absurd q.2 (by decide))]; exact e13) ?_
    refine v_aload_n 25 0 C dX0_rehang_25 rfl ?_
    refine g_Pt_flatB 26 C (vp.o h).1 (vp.o h).2 lk_130 dX0_rehang_26 ?_
    refine g_Pl_size 29 C (vl.o (vp.fB h)).1 (vl.o (vp.fB h)).2 lk_108 dX0_rehang_29 ?_
    refine v_eqi (iZ d) (by rw [gI_pI, if_neg (fun q => absurd q.2 (by decide))]; exact e14) ?_
    refine v_callv 32 hA (rV_Pt 32 C L_RX0_63 lk_267 lk_268 (m_cut h (by rw [gI_pI, if_neg (fun q => absurd q.2 (by decide))]; exact e5) (by rw [gI_pI, if_neg (fun q => absurd q.2 (by decide))]; exact e7) (by rw [gI_pI, if_pos ⟨rfl, rfl⟩]) rk) (vp.o h) rfl ⟨rfl, rfl⟩ (rm_ok rfl) dX0_rehang_32) (fun w2 h3 => ?_)
    obtain rfl := h3
    exact v_vret 35 C (by unfold rehT; rw [if_pos c1_0, if_pos c1_0, if_pos c1_0]) dX0_rehang_35
  · skip
    refine v_aload_n 4 0 C dX0_rehang_4 rfl ?_
    refine v_iload_n 5 2 C dX0_rehang_5 rfl ?_
    refine s_Pt_a 6 C (vp.o h).1 (vp.o h).2 lk_136 dX0_rehang_6 ?_
    refine v_goto 9 17 C dX0_rehang_9 (by decide) ?_
    refine v_aload_n 17 0 C dX0_rehang_17 rfl ?_
    refine v_aload_n 18 0 C dX0_rehang_18 rfl ?_
    refine g_Pt_flatA 19 C (vp.o h).1 (vp.o h).2 lk_128 dX0_rehang_19 ?_
    refine g_Pl_size 22 C (vl.o (vp.fA h)).1 (vl.o (vp.fA h)).2 lk_108 dX0_rehang_22 ?_
    refine v_eqi (iZ c_) (by rw [gI_pI, if_neg (fun q => absurd q.2 (by decide))]; exact e13) ?_
    refine v_aload_n 25 0 C dX0_rehang_25 rfl ?_
    refine g_Pt_flatB 26 C (vp.o h).1 (vp.o h).2 lk_130 dX0_rehang_26 ?_
    refine g_Pl_size 29 C (vl.o (vp.fB h)).1 (vl.o (vp.fB h)).2 lk_108 dX0_rehang_29 ?_
    refine v_eqi (iZ d) (by rw [gI_pI, if_neg (fun q => absurd q.2 (by decide))]; exact e14) ?_
    refine v_callv 32 hA (rV_Pt 32 C L_RX0_63 lk_267 lk_268 (m_cut h (by rw [gI_pI, if_neg (fun q => absurd q.2 (by decide))]; exact e5) (by rw [gI_pI, if_pos ⟨rfl, rfl⟩]) (by rw [gI_pI, if_neg (fun q => absurd q.2 (by decide))]; exact e9) rk) (vp.o h) rfl ⟨rfl, rfl⟩ (rm_ok rfl) dX0_rehang_32) (fun w5 h6 => ?_)
    obtain rfl := h6
    exact v_vret 35 C (by unfold rehT; rw [if_neg c1_0, if_neg c1_0, if_neg c1_0]) dX0_rehang_35

set_option maxHeartbeats 4000000 in
set_option maxRecDepth 100000 in
theorem m_fold_no {l : Launch} {D : va_G} {kc : Nat → ClassId} {N : Nat} {ad : Nat → Nat} {S : St} {i j : Nat} {va vb : Int} (h : vp N i) (hj : j < 17) (s1 : gA S (i + 1 + 3) j = iZ va) (s2 : gA S (i + 5 + 3) j = iZ vb) (hva : b01 va) (hvb : b01 vb) (hs : ¬ (va = 0 ∧ vb = 0)) : MetK l yX0_fold cX0_fold 18 (none) 3 0 0 72 D kc (wl kc N ad S) [.ref (ad i), .int (iZ (j : Int))] (QV D kc (wl kc N ad S) (fun ws' => ws' = wl kc N ad (loseT S (i + 9) j))) := by
  refine MetK.of (by decide +kernel) (Nat.le_of_ble_eq_true rfl) ?_
  intro p e s m below meth c C
  have hA : ∀ q, s.heap.size ≤ q → va_A (wl kc N ad S) s.heap.size q := fun _ h => Or.inr h
  show V p l e { frames := 3, cells := 0, slots := 0, locals := 72 } s m ([.ref (ad i), .int (iZ (j : Int))] : List Value).toArray below meth c (MQ below (QV D kc (wl kc N ad S) (fun ws' => ws' = wl kc N ad (loseT S (i + 9) j)) s.heap.size) ([.ref (ad i), .int (iZ (j : Int))] : List Value).toArray s 0 0 (va_A (wl kc N ad S) s.heap.size)) D (va_A (wl kc N ad S) s.heap.size) 18 0 0 (wl kc N ad S) 0 [(0, .ref (ad i)), (1, .int (iZ (j : Int)))] []
  refine v_aload_n 0 0 C dX0_fold_0 rfl ?_
  refine g_Pt_hingeA 1 C (vp.o h).1 (vp.o h).2 lk_122 dX0_fold_1 ?_
  refine g_Tr_stuck 4 C (vt.o (vp.A h)).1 (vt.o (vp.A h)).2 lk_86 dX0_fold_4 ?_
  refine v_iload_n 7 1 C dX0_fold_7 rfl ?_
  refine v_zald 8 C (vt.s (vp.A h)).1 (vt.s (vp.A h)).2 j (izn (by omega)) (lnx (vt.ls (vp.A h)) (by omega)) dX0_fold_8 ?_
  refine v_eqi (iZ va) (s1) ?_
  refine z_if_ne 9 24 C (by first | assumption | exact ⟨by omega, by omega⟩) dX0_fold_9 (by decide) (fun c9_0 => ?_) (fun c9_0 => ?_)
  · skip
    refine v_aload_n 24 0 C dX0_fold_24 rfl ?_
    refine g_Pt_crease 25 C (vp.o h).1 (vp.o h).2 lk_126 dX0_fold_25 ?_
    refine v_iload_n 28 1 C dX0_fold_28 rfl ?_
    refine v_callv 29 hA (rV_Tr 29 C L_RX0_71 lk_198 lk_199 (m_lose (vp.C h) hj) (vt.o (vp.C h)) rfl ⟨rfl, rfl⟩ (rm_ok rfl) dX0_fold_29) (fun w2 h3 => ?_)
    obtain rfl := h3
    exact v_vret 32 C (rfl) dX0_fold_32
  · skip
    refine v_aload_n 12 0 C dX0_fold_12 rfl ?_
    refine g_Pt_hingeB 13 C (vp.o h).1 (vp.o h).2 lk_124 dX0_fold_13 ?_
    refine g_Tr_stuck 16 C (vt.o (vp.B h)).1 (vt.o (vp.B h)).2 lk_86 dX0_fold_16 ?_
    refine v_iload_n 19 1 C dX0_fold_19 rfl ?_
    refine v_zald 20 C (vt.s (vp.B h)).1 (vt.s (vp.B h)).2 j (izn (by omega)) (lnx (vt.ls (vp.B h)) (by omega)) dX0_fold_20 ?_
    refine v_eqi (iZ vb) (s2) ?_
    refine z_if_eq 21 33 C (by first | assumption | exact ⟨by omega, by omega⟩) dX0_fold_21 (by decide) (fun c21_1 => absurd c21_1 (fun q => hs ⟨c9_0, q⟩)) (fun c21_1 => ?_)
    refine v_aload_n 24 0 C dX0_fold_24 rfl ?_
    refine g_Pt_crease 25 C (vp.o h).1 (vp.o h).2 lk_126 dX0_fold_25 ?_
    refine v_iload_n 28 1 C dX0_fold_28 rfl ?_
    refine v_callv 29 hA (rV_Tr 29 C L_RX0_71 lk_198 lk_199 (m_lose (vp.C h) hj) (vt.o (vp.C h)) rfl ⟨rfl, rfl⟩ (rm_ok rfl) dX0_fold_29) (fun w5 h6 => ?_)
    obtain rfl := h6
    exact v_vret 32 C (rfl) dX0_fold_32

set_option maxHeartbeats 4000000 in
set_option maxRecDepth 100000 in
theorem m_foldOne {l : Launch} {D : va_G} {kc : Nat → ClassId} {N : Nat} {ad : Nat → Nat} {S : St} {i j : Nat} {ax ay c_ d : Int} (h : vp N i) (hj : j < 17) (e1 : gA S (i + 1 + 1) j = iZ ax) (e2 : gA S (i + 1 + 2) j = iZ ay) (e13 : gI S (i + 13) 4 = iZ c_) (e14 : gI S (i + 14) 4 = iZ d) (rc : 0 ≤ c_ ∧ c_ ≤ 1000) (rd : 0 ≤ d ∧ d ≤ 1000) (b1 : bd ax) (b2 : bd ay) : MetK l yX0_foldOnOnePlace cX0_foldOnOnePlace 2 (none) 2 0 0 47 D kc (wl kc N ad S) [.ref (ad i), .int (iZ (j : Int))] (QV D kc (wl kc N ad S) (fun ws' => ws' = wl kc N ad (foldT S (i + 9) j (if c_ = d then some (ax + c_, ay) else none)))) := by
  refine MetK.of (by decide +kernel) (Nat.le_of_ble_eq_true rfl) ?_
  intro p e s m below meth c C
  have hA : ∀ q, s.heap.size ≤ q → va_A (wl kc N ad S) s.heap.size q := fun _ h => Or.inr h
  show V p l e { frames := 2, cells := 0, slots := 0, locals := 47 } s m ([.ref (ad i), .int (iZ (j : Int))] : List Value).toArray below meth c (MQ below (QV D kc (wl kc N ad S) (fun ws' => ws' = wl kc N ad (foldT S (i + 9) j (if c_ = d then some (ax + c_, ay) else none))) s.heap.size) ([.ref (ad i), .int (iZ (j : Int))] : List Value).toArray s 0 0 (va_A (wl kc N ad S) s.heap.size)) D (va_A (wl kc N ad S) s.heap.size) 2 0 0 (wl kc N ad S) 0 [(0, .ref (ad i)), (1, .int (iZ (j : Int)))] []
  refine v_aload_n 0 0 C dX0_foldOnOnePlace_0 rfl ?_
  refine g_Pt_flatA 1 C (vp.o h).1 (vp.o h).2 lk_128 dX0_foldOnOnePlace_1 ?_
  refine g_Pl_size 4 C (vl.o (vp.fA h)).1 (vl.o (vp.fA h)).2 lk_108 dX0_foldOnOnePlace_4 ?_
  refine v_eqi (iZ c_) (e13) ?_
  refine v_aload_n 7 0 C dX0_foldOnOnePlace_7 rfl ?_
  refine g_Pt_flatB 8 C (vp.o h).1 (vp.o h).2 lk_130 dX0_foldOnOnePlace_8 ?_
  refine g_Pl_size 11 C (vl.o (vp.fB h)).1 (vl.o (vp.fB h)).2 lk_108 dX0_foldOnOnePlace_11 ?_
  refine v_eqi (iZ d) (e14) ?_
  refine z_icmp_ne 14 54 C (by first | assumption | exact ⟨by omega, by omega⟩) (by first | assumption | exact ⟨by omega, by omega⟩) dX0_foldOnOnePlace_14 (by decide) (fun c14_0 => ?_) (fun c14_0 => ?_)
  · skip
    refine v_aload_n 54 0 C dX0_foldOnOnePlace_54 rfl ?_
    refine g_Pt_crease 55 C (vp.o h).1 (vp.o h).2 lk_126 dX0_foldOnOnePlace_55 ?_
    refine v_iload_n 58 1 C dX0_foldOnOnePlace_58 rfl ?_
    refine v_callv 59 hA (rV_Tr 59 C L_RX0_71 lk_198 lk_199 (m_lose (vp.C h) hj) (vt.o (vp.C h)) rfl ⟨rfl, rfl⟩ (rm_ok rfl) dX0_foldOnOnePlace_59) (fun w2 h3 => ?_)
    obtain rfl := h3
    exact v_vret 62 C (by rw [if_neg c14_0]; rfl) dX0_foldOnOnePlace_62
  · skip
    refine v_aload_n 17 0 C dX0_foldOnOnePlace_17 rfl ?_
    refine g_Pt_crease 18 C (vp.o h).1 (vp.o h).2 lk_126 dX0_foldOnOnePlace_18 ?_
    refine v_iload_n 21 1 C dX0_foldOnOnePlace_21 rfl ?_
    refine v_aload_n 22 0 C dX0_foldOnOnePlace_22 rfl ?_
    refine g_Pt_hingeA 23 C (vp.o h).1 (vp.o h).2 lk_122 dX0_foldOnOnePlace_23 ?_
    refine g_Tr_x 26 C (vt.o (vp.A h)).1 (vt.o (vp.A h)).2 lk_78 dX0_foldOnOnePlace_26 ?_
    refine v_iload_n 29 1 C dX0_foldOnOnePlace_29 rfl ?_
    refine v_iald 30 C (vt.x (vp.A h)).1 (vt.x (vp.A h)).2 j (izn (by omega)) (lnx (vt.lx (vp.A h)) (by omega)) dX0_foldOnOnePlace_30 ?_
    refine v_eqi (iZ ax) (e1) ?_
    refine v_aload_n 31 0 C dX0_foldOnOnePlace_31 rfl ?_
    refine g_Pt_flatA 32 C (vp.o h).1 (vp.o h).2 lk_128 dX0_foldOnOnePlace_32 ?_
    refine g_Pl_size 35 C (vl.o (vp.fA h)).1 (vl.o (vp.fA h)).2 lk_108 dX0_foldOnOnePlace_35 ?_
    refine v_eqi (iZ c_) (e13) ?_
    refine z_iadd 38 C dX0_foldOnOnePlace_38 ?_
    refine v_aload_n 39 0 C dX0_foldOnOnePlace_39 rfl ?_
    refine g_Pt_hingeA 40 C (vp.o h).1 (vp.o h).2 lk_122 dX0_foldOnOnePlace_40 ?_
    refine g_Tr_y 43 C (vt.o (vp.A h)).1 (vt.o (vp.A h)).2 lk_82 dX0_foldOnOnePlace_43 ?_
    refine v_iload_n 46 1 C dX0_foldOnOnePlace_46 rfl ?_
    refine v_iald 47 C (vt.y (vp.A h)).1 (vt.y (vp.A h)).2 j (izn (by omega)) (lnx (vt.ly (vp.A h)) (by omega)) dX0_foldOnOnePlace_47 ?_
    refine v_eqi (iZ ay) (e2) ?_
    refine v_callv 48 hA (rV_Tr 48 C L_RX0_101 lk_173 lk_174 (m_put (vp.C h) hj) (vt.o (vp.C h)) rfl ⟨rfl, rfl⟩ (rm_ok rfl) dX0_foldOnOnePlace_48) (fun w5 h6 => ?_)
    obtain rfl := h6
    refine v_goto 51 62 C dX0_foldOnOnePlace_51 (by decide) ?_
    exact v_vret 62 C (by rw [if_pos c14_0]; rfl) dX0_foldOnOnePlace_62

theorem foldZ_0 {ax ay bx by_ c d lf sq : Int} (e : sq = (bx - ax) * (bx - ax) + (by_ - ay) * (by_ - ay)) (h0 : sq = 0) : foldZ ax ay bx by_ c d lf = if c = d then some (ax + c, ay) else none := by
  subst e; unfold foldZ; simp only; rw [if_pos h0]
theorem foldZ_1 {ax ay bx by_ c d lf sq : Int} (e : sq = (bx - ax) * (bx - ax) + (by_ - ay) * (by_ - ay)) (h0 : ¬ sq = 0) (h1 : ¬ sq ≤ (c + d) * (c + d)) : foldZ ax ay bx by_ c d lf = none := by
  subst e; unfold foldZ; simp only; rw [if_neg h0, if_pos (by omega)]
theorem foldZ_2 {ax ay bx by_ c d lf sq ee rr : Int} (e : sq = (bx - ax) * (bx - ax) + (by_ - ay) * (by_ - ay)) (e2 : ee = c * c - d * d + sq) (e3 : rr = 4 * c * c * sq - ee * ee) (h0 : ¬ sq = 0) (h1 : sq ≤ (c + d) * (c + d)) (h2 : ¬ 0 ≤ rr) : foldZ ax ay bx by_ c d lf = none := by
  subst e3; subst e2; subst e; unfold foldZ; simp only; rw [if_neg h0, if_neg (by omega), if_pos (by omega)]
theorem foldZ_3 {ax ay bx by_ c d lf sq ee rr ss dx dy : Int} (e : sq = (bx - ax) * (bx - ax) + (by_ - ay) * (by_ - ay)) (e2 : ee = c * c - d * d + sq) (e3 : rr = 4 * c * c * sq - ee * ee) (h0 : ¬ sq = 0) (h1 : sq ≤ (c + d) * (c + d)) (h2 : 0 ≤ rr) (es : ss = if lf = 0 then -isq rr else isq rr) (ex : dx = bx - ax) (ey : dy = by_ - ay) : foldZ ax ay bx by_ c d lf = some (ax + rnd (dx * ee - dy * ss) (2 * sq), ay + rnd (dy * ee + dx * ss) (2 * sq)) := by
  subst ex; subst ey; subst es; subst e3; subst e2; subst e; unfold foldZ; simp only; rw [if_neg h0, if_neg (by omega), if_neg (by omega)]
theorem fold_b {dx dy sq c d ee rr : Int} (e : sq = dx * dx + dy * dy) (rc : 0 ≤ c ∧ c ≤ 1000) (rd : 0 ≤ d ∧ d ≤ 1000) (h1 : sq ≤ (c + d) * (c + d)) (e2 : ee = c * c - d * d + sq) (e3 : rr = 4 * c * c * sq - ee * ee) :
    (-2000 ≤ dx ∧ dx ≤ 2000) ∧ (-2000 ≤ dy ∧ dy ≤ 2000) ∧ (0 ≤ sq ∧ sq ≤ 4000000) ∧ (-5000000 ≤ ee ∧ ee ≤ 5000000) ∧ (-100000000000000 ≤ rr ∧ rr ≤ 4000000000000) := by
  have m1 := mulB (A := 2000) (B := 2000) (x := c + d) (y := c + d) (by omega) (by omega)
  have n1 := sqN dx
  have n2 := sqN dy
  have m2 := mulB (A := 1000) (B := 1000) (x := c) (y := c) (by omega) (by omega)
  have m3 := mulB (A := 1000) (B := 1000) (x := d) (y := d) (by omega) (by omega)
  have n3 := sqN c
  have n4 := sqN d
  have hee : -5000000 ≤ ee ∧ ee ≤ 5000000 := by omega
  have m4 := mulB (A := 5000000) (B := 5000000) hee hee
  have n5 := sqN ee
  have m5 : 0 ≤ (c * c) * sq := Int.mul_nonneg n3 (by omega)
  have m6 := mulB (A := 1000000) (B := 4000000) (x := c * c) (y := sq) (by omega) (by omega)
  have hq : 4 * c * c * sq = 4 * ((c * c) * sq) := by grind
  have n6 := sqN (c * c + d * d - sq)
  have m7 := mulB (A := 1000000) (B := 1000000) (x := c * c) (y := d * d) (by omega) (by omega)
  have hr : rr = 4 * ((c * c) * (d * d)) - (c * c + d * d - sq) * (c * c + d * d - sq) := by rw [e3, e2]; grind
  exact ⟨sq_le (by decide) (by omega), sq_le (by decide) (by omega), by omega, hee, by omega⟩
set_option maxHeartbeats 4000000 in
set_option maxRecDepth 100000 in
theorem m_fold {l : Launch} {D : va_G} {kc : Nat → ClassId} {N : Nat} {ad : Nat → Nat} {S : St} {i j : Nat} {ax ay bx by_ c_ d lf va vb : Int} (s1 : gA S (i + 1 + 3) j = iZ va) (s2 : gA S (i + 5 + 3) j = iZ vb) (hva : va = 0) (hvb : vb = 0) (h : vp N i) (hj : j < 17) (e1 : gA S (i + 1 + 1) j = iZ ax) (e2 : gA S (i + 1 + 2) j = iZ ay) (e13 : gI S (i + 13) 4 = iZ c_) (e14 : gI S (i + 14) 4 = iZ d) (rc : 0 ≤ c_ ∧ c_ ≤ 1000) (rd : 0 ≤ d ∧ d ≤ 1000) (b1 : bd ax) (b2 : bd ay) (e3 : gA S (i + 5 + 1) j = iZ bx) (e4 : gA S (i + 5 + 2) j = iZ by_) (e10 : gI S i 10 = iZ lf) (hlf : b01 lf) (b3 : bd bx) (b4 : bd by_) : MetK l yX0_fold cX0_fold 18 (none) 3 0 0 72 D kc (wl kc N ad S) [.ref (ad i), .int (iZ (j : Int))] (QV D kc (wl kc N ad S) (fun ws' => ws' = wl kc N ad (foldT S (i + 9) j (foldZ ax ay bx by_ c_ d lf)))) := by
  refine MetK.of (by decide +kernel) (Nat.le_of_ble_eq_true rfl) ?_
  intro p e s m below meth c C
  have hA : ∀ q, s.heap.size ≤ q → va_A (wl kc N ad S) s.heap.size q := fun _ h => Or.inr h
  show V p l e { frames := 3, cells := 0, slots := 0, locals := 72 } s m ([.ref (ad i), .int (iZ (j : Int))] : List Value).toArray below meth c (MQ below (QV D kc (wl kc N ad S) (fun ws' => ws' = wl kc N ad (foldT S (i + 9) j (foldZ ax ay bx by_ c_ d lf))) s.heap.size) ([.ref (ad i), .int (iZ (j : Int))] : List Value).toArray s 0 0 (va_A (wl kc N ad S) s.heap.size)) D (va_A (wl kc N ad S) s.heap.size) 18 0 0 (wl kc N ad S) 0 [(0, .ref (ad i)), (1, .int (iZ (j : Int)))] []
  have hb0 := mulB (A := 200000) (B := 200000) (x := bx - ax) (y := bx - ax) (by omega) (by omega)
  have hb1 := mulB (A := 200000) (B := 200000) (x := by_ - ay) (y := by_ - ay) (by omega) (by omega)
  have hb2 := mulB (A := 2000) (B := 2000) (x := c_ + d) (y := c_ + d) (by omega) (by omega)
  refine v_aload_n 0 0 C dX0_fold_0 rfl ?_
  refine g_Pt_hingeA 1 C (vp.o h).1 (vp.o h).2 lk_122 dX0_fold_1 ?_
  refine g_Tr_stuck 4 C (vt.o (vp.A h)).1 (vt.o (vp.A h)).2 lk_86 dX0_fold_4 ?_
  refine v_iload_n 7 1 C dX0_fold_7 rfl ?_
  refine v_zald 8 C (vt.s (vp.A h)).1 (vt.s (vp.A h)).2 j (izn (by omega)) (lnx (vt.ls (vp.A h)) (by omega)) dX0_fold_8 ?_
  refine v_eqi (iZ va) (s1) ?_
  refine z_if_ne 9 24 C (by first | assumption | exact ⟨by omega, by omega⟩) dX0_fold_9 (by decide) (fun c9_0 => absurd c9_0 (fun q => q hva)) (fun c9_0 => ?_)
  refine v_aload_n 12 0 C dX0_fold_12 rfl ?_
  refine g_Pt_hingeB 13 C (vp.o h).1 (vp.o h).2 lk_124 dX0_fold_13 ?_
  refine g_Tr_stuck 16 C (vt.o (vp.B h)).1 (vt.o (vp.B h)).2 lk_86 dX0_fold_16 ?_
  refine v_iload_n 19 1 C dX0_fold_19 rfl ?_
  refine v_zald 20 C (vt.s (vp.B h)).1 (vt.s (vp.B h)).2 j (izn (by omega)) (lnx (vt.ls (vp.B h)) (by omega)) dX0_fold_20 ?_
  refine v_eqi (iZ vb) (s2) ?_
  refine z_if_eq 21 33 C (by first | assumption | exact ⟨by omega, by omega⟩) dX0_fold_21 (by decide) (fun c21_1 => ?_) (fun c21_1 => absurd (hvb) c21_1)
  refine v_aload_n 33 0 C dX0_fold_33 rfl ?_
  refine g_Pt_flatA 34 C (vp.o h).1 (vp.o h).2 lk_128 dX0_fold_34 ?_
  refine g_Pl_size 37 C (vl.o (vp.fA h)).1 (vl.o (vp.fA h)).2 lk_108 dX0_fold_37 ?_
  refine v_eqi (iZ c_) (e13) ?_
  refine z_i2l 40 C (by first | assumption | exact ⟨by omega, by omega⟩) dX0_fold_40 ?_
  refine v_lstore_n 41 [(2, .long (lZ c_)), (0, .ref (ad i)), (1, .int (iZ (j : Int)))] C dX0_fold_41 (by decide) rfl ?_
  refine v_aload_n 42 1 C dX0_fold_42 rfl ?_
  refine g_Pt_flatB 43 C (vp.o h).1 (vp.o h).2 lk_130 dX0_fold_43 ?_
  refine g_Pl_size 46 C (vl.o (vp.fB h)).1 (vl.o (vp.fB h)).2 lk_108 dX0_fold_46 ?_
  refine v_eqi (iZ d) (e14) ?_
  refine z_i2l 49 C (by first | assumption | exact ⟨by omega, by omega⟩) dX0_fold_49 ?_
  refine v_lstore 50 [(4, .long (lZ d)), (2, .long (lZ c_)), (0, .ref (ad i)), (1, .int (iZ (j : Int)))] C dX0_fold_50 (by decide) rfl ?_
  refine v_aload_n 52 2 C dX0_fold_52 rfl ?_
  refine g_Pt_hingeA 53 C (vp.o h).1 (vp.o h).2 lk_122 dX0_fold_53 ?_
  refine v_aload_n 56 2 C dX0_fold_56 rfl ?_
  refine g_Pt_hingeB 57 C (vp.o h).1 (vp.o h).2 lk_124 dX0_fold_57 ?_
  refine v_iload_n 60 3 C dX0_fold_60 rfl ?_
  refine v_calll 61 hA (rV_Tr 61 C L_RX0_75 lk_288 lk_289 (m_squareTo (vp.A h) (vp.B h) hj e1 e2 e3 e4 b1 b2 b3 b4) (vt.o (vp.A h)) rfl ⟨rfl, rfl⟩ (rm_ok rfl) dX0_fold_61) (fun r1 w2 h3 => ?_)
  obtain ⟨e_r1, rfl⟩ := h3
  refine v_eql (lZ ((bx - ax) * (bx - ax) + (by_ - ay) * (by_ - ay))) (e_r1) ?_
  refine z_topl (fun sq e_sq => ?_)
  have hsq : 0 ≤ sq ∧ sq ≤ 80000000000 := by have := sqN (bx - ax); have := sqN (by_ - ay); omega
  refine v_lstore 64 [(6, .long (lZ sq)), (4, .long (lZ d)), (2, .long (lZ c_)), (0, .ref (ad i)), (1, .int (iZ (j : Int)))] C dX0_fold_64 (by decide) rfl ?_
  refine v_lload 66 0 C dX0_fold_66 rfl ?_
  refine v_lconst 68 C (lZ 0) dX0_fold_68 (by decide) ?_
  refine z_lcmp_ne 69 79 C (by first | assumption | exact ⟨by omega, by omega⟩) (by first | assumption | exact ⟨by omega, by omega⟩) dX0_fold_69 dX0_fold_70 (by decide) (fun c69_2 => ?_) (fun c69_2 => ?_)
  · skip
    refine v_lload 79 0 C dX0_fold_79 rfl ?_
    refine v_lload_n 81 2 C dX0_fold_81 rfl ?_
    refine v_lload 82 1 C dX0_fold_82 rfl ?_
    refine z_ladd 84 C dX0_fold_84 ?_
    refine v_lload_n 85 2 C dX0_fold_85 rfl ?_
    refine v_lload 86 1 C dX0_fold_86 rfl ?_
    refine z_ladd 88 C dX0_fold_88 ?_
    refine z_lmul 89 C dX0_fold_89 ?_
    refine z_lcmp_le 90 103 C (by first | assumption | exact ⟨by omega, by omega⟩) (by first | assumption | exact ⟨by omega, by omega⟩) dX0_fold_90 dX0_fold_91 (by decide) (fun c90_3 => ?_) (fun c90_3 => ?_)
    · skip
      refine v_lload_n 103 2 C dX0_fold_103 rfl ?_
      refine v_lload_n 104 2 C dX0_fold_104 rfl ?_
      refine z_lmul 105 C dX0_fold_105 ?_
      refine v_lload 106 1 C dX0_fold_106 rfl ?_
      refine v_lload 108 1 C dX0_fold_108 rfl ?_
      refine z_lmul 110 C dX0_fold_110 ?_
      refine z_lsub 111 C dX0_fold_111 ?_
      refine v_lload 112 0 C dX0_fold_112 rfl ?_
      refine z_ladd 114 C dX0_fold_114 ?_
      refine z_topl (fun ee e_ee => ?_)
      refine v_lstore 115 [(8, .long (lZ ee)), (6, .long (lZ sq)), (4, .long (lZ d)), (2, .long (lZ c_)), (0, .ref (ad i)), (1, .int (iZ (j : Int)))] C dX0_fold_115 (by decide) rfl ?_
      refine v_ldc2 117 C (4) lk_330 dX0_fold_117 ?_
      refine v_eql (lZ 4) (by decide) ?_
      refine v_lload_n 120 3 C dX0_fold_120 rfl ?_
      refine z_lmul 121 C dX0_fold_121 ?_
      refine v_lload_n 122 3 C dX0_fold_122 rfl ?_
      refine z_lmul 123 C dX0_fold_123 ?_
      refine v_lload 124 1 C dX0_fold_124 rfl ?_
      refine z_lmul 126 C dX0_fold_126 ?_
      refine v_lload 127 0 C dX0_fold_127 rfl ?_
      refine v_lload 129 0 C dX0_fold_129 rfl ?_
      refine z_lmul 131 C dX0_fold_131 ?_
      refine z_lsub 132 C dX0_fold_132 ?_
      refine z_topl (fun rr e_rr => ?_)
      obtain ⟨q1, q2, q3, q4, q5⟩ := fold_b e_sq rc rd c90_3 e_ee e_rr
      refine v_lstore 133 [(10, .long (lZ rr)), (8, .long (lZ ee)), (6, .long (lZ sq)), (4, .long (lZ d)), (2, .long (lZ c_)), (0, .ref (ad i)), (1, .int (iZ (j : Int)))] C dX0_fold_133 (by decide) rfl ?_
      refine v_lload 135 0 C dX0_fold_135 rfl ?_
      refine v_lconst 137 C (lZ 0) dX0_fold_137 (by decide) ?_
      refine z_lcmp_ge 138 151 C (by first | assumption | exact ⟨by omega, by omega⟩) (by first | assumption | exact ⟨by omega, by omega⟩) dX0_fold_138 dX0_fold_139 (by decide) (fun c138_4 => ?_) (fun c138_4 => ?_)
      · skip
        refine v_aload_n 151 5 C dX0_fold_151 rfl ?_
        refine g_Pt_leftward 152 C (vp.o h).1 (vp.o h).2 lk_143 dX0_fold_152 ?_
        refine v_eqi (iZ lf) (e10) ?_
        refine z_if_eq 155 166 C (by first | assumption | exact ⟨by omega, by omega⟩) dX0_fold_155 (by decide) (fun c155_5 => ?_) (fun c155_5 => ?_)
        · skip
          refine v_lload 166 0 C dX0_fold_166 rfl ?_
          refine v_calll 168 hA (rSN 168 C LN_yX3_rootBelow C.2.2.2.2.2.1.2.2.2.2.1 lk_292 (m_rootBelow c138_4 (by omega)) rfl rfl (rm_ok rfl) dX0_fold_168) (fun r4 w5 h6 => ?_)
          obtain ⟨e_r4, rfl⟩ := h6
          refine v_eql (lZ (isq rr)) (e_r4) ?_
          refine z_lneg 171 C dX0_fold_171 ?_
          refine z_topl (fun ss e_ss => ?_)
          have es : ss = if lf = 0 then -isq rr else isq rr := by rw [e_ss, if_pos c155_5]
          have hi := isq_spec c138_4
          have q6 : -4000000 ≤ isq rr ∧ isq rr ≤ 4000000 := sq_le (by decide) (by omega)
          have q7 : -4000000 ≤ ss ∧ ss ≤ 4000000 := by rw [e_ss]; omega
          refine v_lstore 172 [(12, .long (lZ ss)), (10, .long (lZ rr)), (8, .long (lZ ee)), (6, .long (lZ sq)), (4, .long (lZ d)), (2, .long (lZ c_)), (0, .ref (ad i)), (1, .int (iZ (j : Int)))] C dX0_fold_172 (by decide) rfl ?_
          refine v_aload_n 174 6 C dX0_fold_174 rfl ?_
          refine g_Pt_hingeB 175 C (vp.o h).1 (vp.o h).2 lk_124 dX0_fold_175 ?_
          refine g_Tr_x 178 C (vt.o (vp.B h)).1 (vt.o (vp.B h)).2 lk_78 dX0_fold_178 ?_
          refine v_iload_n 181 7 C dX0_fold_181 rfl ?_
          refine v_iald 182 C (vt.x (vp.B h)).1 (vt.x (vp.B h)).2 j (izn (by omega)) (lnx (vt.lx (vp.B h)) (by omega)) dX0_fold_182 ?_
          refine v_eqi (iZ bx) (e3) ?_
          refine v_aload_n 183 6 C dX0_fold_183 rfl ?_
          refine g_Pt_hingeA 184 C (vp.o h).1 (vp.o h).2 lk_122 dX0_fold_184 ?_
          refine g_Tr_x 187 C (vt.o (vp.A h)).1 (vt.o (vp.A h)).2 lk_78 dX0_fold_187 ?_
          refine v_iload_n 190 7 C dX0_fold_190 rfl ?_
          refine v_iald 191 C (vt.x (vp.A h)).1 (vt.x (vp.A h)).2 j (izn (by omega)) (lnx (vt.lx (vp.A h)) (by omega)) dX0_fold_191 ?_
          refine v_eqi (iZ ax) (e1) ?_
          refine z_isub 192 C dX0_fold_192 ?_
          refine z_i2l 193 C (by first | assumption | exact ⟨by omega, by omega⟩) dX0_fold_193 ?_
          refine z_topl (fun dx e_dx => ?_)
          refine v_lstore 194 [(14, .long (lZ dx)), (12, .long (lZ ss)), (10, .long (lZ rr)), (8, .long (lZ ee)), (6, .long (lZ sq)), (4, .long (lZ d)), (2, .long (lZ c_)), (0, .ref (ad i)), (1, .int (iZ (j : Int)))] C dX0_fold_194 (by decide) rfl ?_
          refine v_aload_n 196 7 C dX0_fold_196 rfl ?_
          refine g_Pt_hingeB 197 C (vp.o h).1 (vp.o h).2 lk_124 dX0_fold_197 ?_
          refine g_Tr_y 200 C (vt.o (vp.B h)).1 (vt.o (vp.B h)).2 lk_82 dX0_fold_200 ?_
          refine v_iload_n 203 8 C dX0_fold_203 rfl ?_
          refine v_iald 204 C (vt.y (vp.B h)).1 (vt.y (vp.B h)).2 j (izn (by omega)) (lnx (vt.ly (vp.B h)) (by omega)) dX0_fold_204 ?_
          refine v_eqi (iZ by_) (e4) ?_
          refine v_aload_n 205 7 C dX0_fold_205 rfl ?_
          refine g_Pt_hingeA 206 C (vp.o h).1 (vp.o h).2 lk_122 dX0_fold_206 ?_
          refine g_Tr_y 209 C (vt.o (vp.A h)).1 (vt.o (vp.A h)).2 lk_82 dX0_fold_209 ?_
          refine v_iload_n 212 8 C dX0_fold_212 rfl ?_
          refine v_iald 213 C (vt.y (vp.A h)).1 (vt.y (vp.A h)).2 j (izn (by omega)) (lnx (vt.ly (vp.A h)) (by omega)) dX0_fold_213 ?_
          refine v_eqi (iZ ay) (e2) ?_
          refine z_isub 214 C dX0_fold_214 ?_
          refine z_i2l 215 C (by first | assumption | exact ⟨by omega, by omega⟩) dX0_fold_215 ?_
          refine z_topl (fun dy e_dy => ?_)
          rw [← e_dx] at q1
          rw [← e_dy] at q2
          have p1 := mulB q1 q4
          have p2 := mulB q2 q7
          have p3 := mulB q2 q4
          have p4 := mulB q1 q7
          refine v_lstore 216 [(16, .long (lZ dy)), (14, .long (lZ dx)), (12, .long (lZ ss)), (10, .long (lZ rr)), (8, .long (lZ ee)), (6, .long (lZ sq)), (4, .long (lZ d)), (2, .long (lZ c_)), (0, .ref (ad i)), (1, .int (iZ (j : Int)))] C dX0_fold_216 (by decide) rfl ?_
          refine v_aload_n 218 8 C dX0_fold_218 rfl ?_
          refine g_Pt_crease 219 C (vp.o h).1 (vp.o h).2 lk_126 dX0_fold_219 ?_
          refine v_iload_n 222 9 C dX0_fold_222 rfl ?_
          refine v_aload_n 223 8 C dX0_fold_223 rfl ?_
          refine g_Pt_hingeA 224 C (vp.o h).1 (vp.o h).2 lk_122 dX0_fold_224 ?_
          refine g_Tr_x 227 C (vt.o (vp.A h)).1 (vt.o (vp.A h)).2 lk_78 dX0_fold_227 ?_
          refine v_iload_n 230 9 C dX0_fold_230 rfl ?_
          refine v_iald 231 C (vt.x (vp.A h)).1 (vt.x (vp.A h)).2 j (izn (by omega)) (lnx (vt.lx (vp.A h)) (by omega)) dX0_fold_231 ?_
          refine v_eqi (iZ ax) (e1) ?_
          refine v_lload 232 1 C dX0_fold_232 rfl ?_
          refine v_lload 234 4 C dX0_fold_234 rfl ?_
          refine z_lmul 236 C dX0_fold_236 ?_
          refine v_lload 237 0 C dX0_fold_237 rfl ?_
          refine v_lload 239 2 C dX0_fold_239 rfl ?_
          refine z_lmul 241 C dX0_fold_241 ?_
          refine z_lsub 242 C dX0_fold_242 ?_
          refine v_ldc2 243 C (2) lk_332 dX0_fold_243 ?_
          refine v_eql (lZ 2) (by decide) ?_
          refine v_lload 246 5 C dX0_fold_246 rfl ?_
          refine z_lmul 248 C dX0_fold_248 ?_
          refine v_calli 249 hA (rSN 249 C LN_yX3_nearest C.2.2.2.2.2.1.2.2.2.2.2.1 lk_202 (m_nearest ⟨by omega, by omega⟩ ⟨by omega, by omega⟩) rfl rfl (rm_ok rfl) dX0_fold_249) (fun r7 w8 h9 => ?_)
          obtain ⟨e_r7, rfl⟩ := h9
          refine v_eqi (iZ (rnd (dx * ee - dy * ss) (2 * sq))) (e_r7) ?_
          refine z_iadd 252 C dX0_fold_252 ?_
          refine v_aload_n 253 8 C dX0_fold_253 rfl ?_
          refine g_Pt_hingeA 254 C (vp.o h).1 (vp.o h).2 lk_122 dX0_fold_254 ?_
          refine g_Tr_y 257 C (vt.o (vp.A h)).1 (vt.o (vp.A h)).2 lk_82 dX0_fold_257 ?_
          refine v_iload_n 260 9 C dX0_fold_260 rfl ?_
          refine v_iald 261 C (vt.y (vp.A h)).1 (vt.y (vp.A h)).2 j (izn (by omega)) (lnx (vt.ly (vp.A h)) (by omega)) dX0_fold_261 ?_
          refine v_eqi (iZ ay) (e2) ?_
          refine v_lload 262 0 C dX0_fold_262 rfl ?_
          refine v_lload 264 4 C dX0_fold_264 rfl ?_
          refine z_lmul 266 C dX0_fold_266 ?_
          refine v_lload 267 1 C dX0_fold_267 rfl ?_
          refine v_lload 269 2 C dX0_fold_269 rfl ?_
          refine z_lmul 271 C dX0_fold_271 ?_
          refine z_ladd 272 C dX0_fold_272 ?_
          refine v_ldc2 273 C (2) lk_332 dX0_fold_273 ?_
          refine v_eql (lZ 2) (by decide) ?_
          refine v_lload 276 5 C dX0_fold_276 rfl ?_
          refine z_lmul 278 C dX0_fold_278 ?_
          refine v_calli 279 hA (rSN 279 C LN_yX3_nearest C.2.2.2.2.2.1.2.2.2.2.2.1 lk_202 (m_nearest ⟨by omega, by omega⟩ ⟨by omega, by omega⟩) rfl rfl (rm_ok rfl) dX0_fold_279) (fun r10 w11 h12 => ?_)
          obtain ⟨e_r10, rfl⟩ := h12
          refine v_eqi (iZ (rnd (dy * ee + dx * ss) (2 * sq))) (e_r10) ?_
          refine z_iadd 282 C dX0_fold_282 ?_
          refine v_callv 283 hA (rV_Tr 283 C L_RX0_101 lk_173 lk_174 (m_put (vp.C h) hj) (vt.o (vp.C h)) rfl ⟨rfl, rfl⟩ (rm_ok rfl) dX0_fold_283) (fun w14 h15 => ?_)
          obtain rfl := h15
          exact v_vret 286 C (by rw [foldZ_3 e_sq e_ee e_rr c69_2 c90_3 c138_4 es e_dx e_dy]; rfl) dX0_fold_286
        · skip
          refine v_lload 158 0 C dX0_fold_158 rfl ?_
          refine v_calll 160 hA (rSN 160 C LN_yX3_rootBelow C.2.2.2.2.2.1.2.2.2.2.1 lk_292 (m_rootBelow c138_4 (by omega)) rfl rfl (rm_ok rfl) dX0_fold_160) (fun r16 w17 h18 => ?_)
          obtain ⟨e_r16, rfl⟩ := h18
          refine v_eql (lZ (isq rr)) (e_r16) ?_
          refine v_goto 163 172 C dX0_fold_163 (by decide) ?_
          refine z_topl (fun ss e_ss => ?_)
          have es : ss = if lf = 0 then -isq rr else isq rr := by rw [e_ss, if_neg c155_5]
          have hi := isq_spec c138_4
          have q6 : -4000000 ≤ isq rr ∧ isq rr ≤ 4000000 := sq_le (by decide) (by omega)
          have q7 : -4000000 ≤ ss ∧ ss ≤ 4000000 := by rw [e_ss]; omega
          refine v_lstore 172 [(12, .long (lZ ss)), (10, .long (lZ rr)), (8, .long (lZ ee)), (6, .long (lZ sq)), (4, .long (lZ d)), (2, .long (lZ c_)), (0, .ref (ad i)), (1, .int (iZ (j : Int)))] C dX0_fold_172 (by decide) rfl ?_
          refine v_aload_n 174 6 C dX0_fold_174 rfl ?_
          refine g_Pt_hingeB 175 C (vp.o h).1 (vp.o h).2 lk_124 dX0_fold_175 ?_
          refine g_Tr_x 178 C (vt.o (vp.B h)).1 (vt.o (vp.B h)).2 lk_78 dX0_fold_178 ?_
          refine v_iload_n 181 7 C dX0_fold_181 rfl ?_
          refine v_iald 182 C (vt.x (vp.B h)).1 (vt.x (vp.B h)).2 j (izn (by omega)) (lnx (vt.lx (vp.B h)) (by omega)) dX0_fold_182 ?_
          refine v_eqi (iZ bx) (e3) ?_
          refine v_aload_n 183 6 C dX0_fold_183 rfl ?_
          refine g_Pt_hingeA 184 C (vp.o h).1 (vp.o h).2 lk_122 dX0_fold_184 ?_
          refine g_Tr_x 187 C (vt.o (vp.A h)).1 (vt.o (vp.A h)).2 lk_78 dX0_fold_187 ?_
          refine v_iload_n 190 7 C dX0_fold_190 rfl ?_
          refine v_iald 191 C (vt.x (vp.A h)).1 (vt.x (vp.A h)).2 j (izn (by omega)) (lnx (vt.lx (vp.A h)) (by omega)) dX0_fold_191 ?_
          refine v_eqi (iZ ax) (e1) ?_
          refine z_isub 192 C dX0_fold_192 ?_
          refine z_i2l 193 C (by first | assumption | exact ⟨by omega, by omega⟩) dX0_fold_193 ?_
          refine z_topl (fun dx e_dx => ?_)
          refine v_lstore 194 [(14, .long (lZ dx)), (12, .long (lZ ss)), (10, .long (lZ rr)), (8, .long (lZ ee)), (6, .long (lZ sq)), (4, .long (lZ d)), (2, .long (lZ c_)), (0, .ref (ad i)), (1, .int (iZ (j : Int)))] C dX0_fold_194 (by decide) rfl ?_
          refine v_aload_n 196 7 C dX0_fold_196 rfl ?_
          refine g_Pt_hingeB 197 C (vp.o h).1 (vp.o h).2 lk_124 dX0_fold_197 ?_
          refine g_Tr_y 200 C (vt.o (vp.B h)).1 (vt.o (vp.B h)).2 lk_82 dX0_fold_200 ?_
          refine v_iload_n 203 8 C dX0_fold_203 rfl ?_
          refine v_iald 204 C (vt.y (vp.B h)).1 (vt.y (vp.B h)).2 j (izn (by omega)) (lnx (vt.ly (vp.B h)) (by omega)) dX0_fold_204 ?_
          refine v_eqi (iZ by_) (e4) ?_
          refine v_aload_n 205 7 C dX0_fold_205 rfl ?_
          refine g_Pt_hingeA 206 C (vp.o h).1 (vp.o h).2 lk_122 dX0_fold_206 ?_
          refine g_Tr_y 209 C (vt.o (vp.A h)).1 (vt.o (vp.A h)).2 lk_82 dX0_fold_209 ?_
          refine v_iload_n 212 8 C dX0_fold_212 rfl ?_
          refine v_iald 213 C (vt.y (vp.A h)).1 (vt.y (vp.A h)).2 j (izn (by omega)) (lnx (vt.ly (vp.A h)) (by omega)) dX0_fold_213 ?_
          refine v_eqi (iZ ay) (e2) ?_
          refine z_isub 214 C dX0_fold_214 ?_
          refine z_i2l 215 C (by first | assumption | exact ⟨by omega, by omega⟩) dX0_fold_215 ?_
          refine z_topl (fun dy e_dy => ?_)
          rw [← e_dx] at q1
          rw [← e_dy] at q2
          have p1 := mulB q1 q4
          have p2 := mulB q2 q7
          have p3 := mulB q2 q4
          have p4 := mulB q1 q7
          refine v_lstore 216 [(16, .long (lZ dy)), (14, .long (lZ dx)), (12, .long (lZ ss)), (10, .long (lZ rr)), (8, .long (lZ ee)), (6, .long (lZ sq)), (4, .long (lZ d)), (2, .long (lZ c_)), (0, .ref (ad i)), (1, .int (iZ (j : Int)))] C dX0_fold_216 (by decide) rfl ?_
          refine v_aload_n 218 8 C dX0_fold_218 rfl ?_
          refine g_Pt_crease 219 C (vp.o h).1 (vp.o h).2 lk_126 dX0_fold_219 ?_
          refine v_iload_n 222 9 C dX0_fold_222 rfl ?_
          refine v_aload_n 223 8 C dX0_fold_223 rfl ?_
          refine g_Pt_hingeA 224 C (vp.o h).1 (vp.o h).2 lk_122 dX0_fold_224 ?_
          refine g_Tr_x 227 C (vt.o (vp.A h)).1 (vt.o (vp.A h)).2 lk_78 dX0_fold_227 ?_
          refine v_iload_n 230 9 C dX0_fold_230 rfl ?_
          refine v_iald 231 C (vt.x (vp.A h)).1 (vt.x (vp.A h)).2 j (izn (by omega)) (lnx (vt.lx (vp.A h)) (by omega)) dX0_fold_231 ?_
          refine v_eqi (iZ ax) (e1) ?_
          refine v_lload 232 1 C dX0_fold_232 rfl ?_
          refine v_lload 234 4 C dX0_fold_234 rfl ?_
          refine z_lmul 236 C dX0_fold_236 ?_
          refine v_lload 237 0 C dX0_fold_237 rfl ?_
          refine v_lload 239 2 C dX0_fold_239 rfl ?_
          refine z_lmul 241 C dX0_fold_241 ?_
          refine z_lsub 242 C dX0_fold_242 ?_
          refine v_ldc2 243 C (2) lk_332 dX0_fold_243 ?_
          refine v_eql (lZ 2) (by decide) ?_
          refine v_lload 246 5 C dX0_fold_246 rfl ?_
          refine z_lmul 248 C dX0_fold_248 ?_
          refine v_calli 249 hA (rSN 249 C LN_yX3_nearest C.2.2.2.2.2.1.2.2.2.2.2.1 lk_202 (m_nearest ⟨by omega, by omega⟩ ⟨by omega, by omega⟩) rfl rfl (rm_ok rfl) dX0_fold_249) (fun r19 w20 h21 => ?_)
          obtain ⟨e_r19, rfl⟩ := h21
          refine v_eqi (iZ (rnd (dx * ee - dy * ss) (2 * sq))) (e_r19) ?_
          refine z_iadd 252 C dX0_fold_252 ?_
          refine v_aload_n 253 8 C dX0_fold_253 rfl ?_
          refine g_Pt_hingeA 254 C (vp.o h).1 (vp.o h).2 lk_122 dX0_fold_254 ?_
          refine g_Tr_y 257 C (vt.o (vp.A h)).1 (vt.o (vp.A h)).2 lk_82 dX0_fold_257 ?_
          refine v_iload_n 260 9 C dX0_fold_260 rfl ?_
          refine v_iald 261 C (vt.y (vp.A h)).1 (vt.y (vp.A h)).2 j (izn (by omega)) (lnx (vt.ly (vp.A h)) (by omega)) dX0_fold_261 ?_
          refine v_eqi (iZ ay) (e2) ?_
          refine v_lload 262 0 C dX0_fold_262 rfl ?_
          refine v_lload 264 4 C dX0_fold_264 rfl ?_
          refine z_lmul 266 C dX0_fold_266 ?_
          refine v_lload 267 1 C dX0_fold_267 rfl ?_
          refine v_lload 269 2 C dX0_fold_269 rfl ?_
          refine z_lmul 271 C dX0_fold_271 ?_
          refine z_ladd 272 C dX0_fold_272 ?_
          refine v_ldc2 273 C (2) lk_332 dX0_fold_273 ?_
          refine v_eql (lZ 2) (by decide) ?_
          refine v_lload 276 5 C dX0_fold_276 rfl ?_
          refine z_lmul 278 C dX0_fold_278 ?_
          refine v_calli 279 hA (rSN 279 C LN_yX3_nearest C.2.2.2.2.2.1.2.2.2.2.2.1 lk_202 (m_nearest ⟨by omega, by omega⟩ ⟨by omega, by omega⟩) rfl rfl (rm_ok rfl) dX0_fold_279) (fun r22 w23 h24 => ?_)
          obtain ⟨e_r22, rfl⟩ := h24
          refine v_eqi (iZ (rnd (dy * ee + dx * ss) (2 * sq))) (e_r22) ?_
          refine z_iadd 282 C dX0_fold_282 ?_
          refine v_callv 283 hA (rV_Tr 283 C L_RX0_101 lk_173 lk_174 (m_put (vp.C h) hj) (vt.o (vp.C h)) rfl ⟨rfl, rfl⟩ (rm_ok rfl) dX0_fold_283) (fun w26 h27 => ?_)
          obtain rfl := h27
          exact v_vret 286 C (by rw [foldZ_3 e_sq e_ee e_rr c69_2 c90_3 c138_4 es e_dx e_dy]; rfl) dX0_fold_286
      · skip
        refine v_aload_n 142 5 C dX0_fold_142 rfl ?_
        refine g_Pt_crease 143 C (vp.o h).1 (vp.o h).2 lk_126 dX0_fold_143 ?_
        refine v_iload_n 146 6 C dX0_fold_146 rfl ?_
        refine v_callv 147 hA (rV_Tr 147 C L_RX0_71 lk_198 lk_199 (m_lose (vp.C h) hj) (vt.o (vp.C h)) rfl ⟨rfl, rfl⟩ (rm_ok rfl) dX0_fold_147) (fun w29 h30 => ?_)
        obtain rfl := h30
        exact v_vret 150 C (by rw [foldZ_2 e_sq e_ee e_rr c69_2 c90_3 c138_4]; rfl) dX0_fold_150
    · skip
      refine v_aload_n 94 3 C dX0_fold_94 rfl ?_
      refine g_Pt_crease 95 C (vp.o h).1 (vp.o h).2 lk_126 dX0_fold_95 ?_
      refine v_iload_n 98 4 C dX0_fold_98 rfl ?_
      refine v_callv 99 hA (rV_Tr 99 C L_RX0_71 lk_198 lk_199 (m_lose (vp.C h) hj) (vt.o (vp.C h)) rfl ⟨rfl, rfl⟩ (rm_ok rfl) dX0_fold_99) (fun w32 h33 => ?_)
      obtain rfl := h33
      exact v_vret 102 C (by rw [foldZ_1 e_sq c69_2 c90_3]; rfl) dX0_fold_102
  · skip
    refine v_aload_n 73 3 C dX0_fold_73 rfl ?_
    refine v_iload_n 74 4 C dX0_fold_74 rfl ?_
    refine v_callv 75 hA (rV_Pt 75 C L_RX0_79 lk_326 lk_327 (m_foldOne h hj e1 e2 e13 e14 rc rd b1 b2) (vp.o h) rfl ⟨rfl, rfl⟩ (rm_ok rfl) dX0_fold_75) (fun w35 h36 => ?_)
    obtain rfl := h36
    exact v_vret 78 C (by rw [foldZ_0 e_sq c69_2]) dX0_fold_78

def missZ (ax ay bx by_ x y c d : Int) : Int := max ((((x - ax) * (x - ax) + (y - ay) * (y - ay) - c * c).natAbs : Nat) : Int) ((((x - bx) * (x - bx) + (y - by_) * (y - by_) - d * d).natAbs : Nat) : Int)
set_option maxHeartbeats 4000000 in
set_option maxRecDepth 100000 in
theorem m_missAt {l : Launch} {D : va_G} {kc : Nat → ClassId} {N : Nat} {ad : Nat → Nat} {S : St} {i j : Nat} {ax ay bx by_ x y c_ d v : Int} (h : vp N i) (hj : j < 17) (s1 : gA S (i + 9 + 3) j = iZ v) (hv : b01 v) (E : v = 0 → gA S (i + 1 + 1) j = iZ ax ∧ gA S (i + 1 + 2) j = iZ ay ∧ gA S (i + 5 + 1) j = iZ bx ∧ gA S (i + 5 + 2) j = iZ by_ ∧ gA S (i + 9 + 1) j = iZ x ∧ gA S (i + 9 + 2) j = iZ y ∧ bd ax ∧ bd ay ∧ bd bx ∧ bd by_ ∧ bd x ∧ bd y) (e13 : gI S (i + 13) 4 = iZ c_) (e14 : gI S (i + 14) 4 = iZ d) (rc : 0 ≤ c_ ∧ c_ ≤ 1000) (rd : 0 ≤ d ∧ d ≤ 1000) : MetK l yX0_missAt cX0_missAt 10 (some FieldType.int) 2 0 0 50 D kc (wl kc N ad S) [.ref (ad i), .int (iZ (j : Int))] (QI D kc (wl kc N ad S) (fun r ws' => r = iZ (if v = 0 then missZ ax ay bx by_ x y c_ d else 0) ∧ ws' = wl kc N ad S)) := by
  refine MetK.of (by decide +kernel) (Nat.le_of_ble_eq_true rfl) ?_
  intro p e s m below meth c C
  have hA : ∀ q, s.heap.size ≤ q → va_A (wl kc N ad S) s.heap.size q := fun _ h => Or.inr h
  show V p l e { frames := 2, cells := 0, slots := 0, locals := 50 } s m ([.ref (ad i), .int (iZ (j : Int))] : List Value).toArray below meth c (MQ below (QI D kc (wl kc N ad S) (fun r ws' => r = iZ (if v = 0 then missZ ax ay bx by_ x y c_ d else 0) ∧ ws' = wl kc N ad S) s.heap.size) ([.ref (ad i), .int (iZ (j : Int))] : List Value).toArray s 0 0 (va_A (wl kc N ad S) s.heap.size)) D (va_A (wl kc N ad S) s.heap.size) 10 0 0 (wl kc N ad S) 0 [(0, .ref (ad i)), (1, .int (iZ (j : Int)))] []
  refine v_aload_n 0 0 C dX0_missAt_0 rfl ?_
  refine g_Pt_crease 1 C (vp.o h).1 (vp.o h).2 lk_126 dX0_missAt_1 ?_
  refine g_Tr_stuck 4 C (vt.o (vp.C h)).1 (vt.o (vp.C h)).2 lk_86 dX0_missAt_4 ?_
  refine v_iload_n 7 1 C dX0_missAt_7 rfl ?_
  refine v_zald 8 C (vt.s (vp.C h)).1 (vt.s (vp.C h)).2 j (izn (by omega)) (lnx (vt.ls (vp.C h)) (by omega)) dX0_missAt_8 ?_
  refine v_eqi (iZ v) (s1) ?_
  refine z_if_eq 9 14 C (by first | assumption | exact ⟨by omega, by omega⟩) dX0_missAt_9 (by decide) (fun c9_0 => ?_) (fun c9_0 => ?_)
  · skip
    obtain ⟨e1, e2, e3, e4, e5, e6, b1, b2, b3, b4, b5, b6⟩ := E c9_0
    have h1 := mulB (A := 200000) (B := 200000) (x := x - ax) (y := x - ax) (by omega) (by omega)
    have h2 := mulB (A := 200000) (B := 200000) (x := y - ay) (y := y - ay) (by omega) (by omega)
    have h3 := mulB (A := 200000) (B := 200000) (x := x - bx) (y := x - bx) (by omega) (by omega)
    have h4 := mulB (A := 200000) (B := 200000) (x := y - by_) (y := y - by_) (by omega) (by omega)
    have h5 := mulB (A := 1000) (B := 1000) (x := c_) (y := c_) (by omega) (by omega)
    have h6 := mulB (A := 1000) (B := 1000) (x := d) (y := d) (by omega) (by omega)
    refine v_aload_n 14 0 C dX0_missAt_14 rfl ?_
    refine g_Pt_flatA 15 C (vp.o h).1 (vp.o h).2 lk_128 dX0_missAt_15 ?_
    refine g_Pl_size 18 C (vl.o (vp.fA h)).1 (vl.o (vp.fA h)).2 lk_108 dX0_missAt_18 ?_
    refine v_eqi (iZ c_) (e13) ?_
    refine z_i2l 21 C (by first | assumption | exact ⟨by omega, by omega⟩) dX0_missAt_21 ?_
    refine v_lstore_n 22 [(2, .long (lZ c_)), (0, .ref (ad i)), (1, .int (iZ (j : Int)))] C dX0_missAt_22 (by decide) rfl ?_
    refine v_aload_n 23 1 C dX0_missAt_23 rfl ?_
    refine g_Pt_flatB 24 C (vp.o h).1 (vp.o h).2 lk_130 dX0_missAt_24 ?_
    refine g_Pl_size 27 C (vl.o (vp.fB h)).1 (vl.o (vp.fB h)).2 lk_108 dX0_missAt_27 ?_
    refine v_eqi (iZ d) (e14) ?_
    refine z_i2l 30 C (by first | assumption | exact ⟨by omega, by omega⟩) dX0_missAt_30 ?_
    refine v_lstore 31 [(4, .long (lZ d)), (2, .long (lZ c_)), (0, .ref (ad i)), (1, .int (iZ (j : Int)))] C dX0_missAt_31 (by decide) rfl ?_
    refine v_aload_n 33 2 C dX0_missAt_33 rfl ?_
    refine g_Pt_hingeA 34 C (vp.o h).1 (vp.o h).2 lk_122 dX0_missAt_34 ?_
    refine v_aload_n 37 2 C dX0_missAt_37 rfl ?_
    refine g_Pt_crease 38 C (vp.o h).1 (vp.o h).2 lk_126 dX0_missAt_38 ?_
    refine v_iload_n 41 3 C dX0_missAt_41 rfl ?_
    refine v_calll 42 hA (rV_Tr 42 C L_RX0_75 lk_288 lk_289 (m_squareTo (vp.A h) (vp.C h) hj e1 e2 e5 e6 b1 b2 b5 b6) (vt.o (vp.A h)) rfl ⟨rfl, rfl⟩ (rm_ok rfl) dX0_missAt_42) (fun r1 w2 h3 => ?_)
    obtain ⟨e_r1, rfl⟩ := h3
    refine v_eql (lZ ((x - ax) * (x - ax) + (y - ay) * (y - ay))) (e_r1) ?_
    refine v_lload_n 45 1 C dX0_missAt_45 rfl ?_
    refine v_lload_n 46 1 C dX0_missAt_46 rfl ?_
    refine z_lmul 47 C dX0_missAt_47 ?_
    refine z_lsub 48 C dX0_missAt_48 ?_
    refine v_mabsl 49 C lk_393 ⟨Nat.le_of_ble_eq_true rfl, Nat.le_of_ble_eq_true rfl, Nat.le_of_ble_eq_true rfl, Nat.le_of_ble_eq_true rfl⟩ dX0_missAt_49 ?_
    refine v_eql (lZ ((((x - ax) * (x - ax) + (y - ay) * (y - ay)) - (c_ * c_)).natAbs : Int)) (mabsl_z (by first | assumption | exact ⟨by omega, by omega⟩)) ?_
    refine z_topl (fun ma e_ma => ?_)
    refine v_lstore 52 [(6, .long (lZ ma)), (4, .long (lZ d)), (2, .long (lZ c_)), (0, .ref (ad i)), (1, .int (iZ (j : Int)))] C dX0_missAt_52 (by decide) rfl ?_
    refine v_aload_n 54 3 C dX0_missAt_54 rfl ?_
    refine g_Pt_hingeB 55 C (vp.o h).1 (vp.o h).2 lk_124 dX0_missAt_55 ?_
    refine v_aload_n 58 3 C dX0_missAt_58 rfl ?_
    refine g_Pt_crease 59 C (vp.o h).1 (vp.o h).2 lk_126 dX0_missAt_59 ?_
    refine v_iload_n 62 4 C dX0_missAt_62 rfl ?_
    refine v_calll 63 hA (rV_Tr 63 C L_RX0_75 lk_288 lk_289 (m_squareTo (vp.B h) (vp.C h) hj e3 e4 e5 e6 b3 b4 b5 b6) (vt.o (vp.B h)) rfl ⟨rfl, rfl⟩ (rm_ok rfl) dX0_missAt_63) (fun r4 w5 h6 => ?_)
    obtain ⟨e_r4, rfl⟩ := h6
    refine v_eql (lZ ((x - bx) * (x - bx) + (y - by_) * (y - by_))) (e_r4) ?_
    refine v_lload 66 1 C dX0_missAt_66 rfl ?_
    refine v_lload 68 1 C dX0_missAt_68 rfl ?_
    refine z_lmul 70 C dX0_missAt_70 ?_
    refine z_lsub 71 C dX0_missAt_71 ?_
    refine v_mabsl 72 C lk_393 ⟨Nat.le_of_ble_eq_true rfl, Nat.le_of_ble_eq_true rfl, Nat.le_of_ble_eq_true rfl, Nat.le_of_ble_eq_true rfl⟩ dX0_missAt_72 ?_
    refine v_eql (lZ ((((x - bx) * (x - bx) + (y - by_) * (y - by_)) - (d * d)).natAbs : Int)) (mabsl_z (by first | assumption | exact ⟨by omega, by omega⟩)) ?_
    refine z_topl (fun mb e_mb => ?_)
    refine v_lstore 75 [(8, .long (lZ mb)), (6, .long (lZ ma)), (4, .long (lZ d)), (2, .long (lZ c_)), (0, .ref (ad i)), (1, .int (iZ (j : Int)))] C dX0_missAt_75 (by decide) rfl ?_
    refine v_lload 77 1 C dX0_missAt_77 rfl ?_
    refine v_lload 79 0 C dX0_missAt_79 rfl ?_
    refine v_mmaxl 81 C lk_396 ⟨Nat.le_of_ble_eq_true rfl, Nat.le_of_ble_eq_true rfl, Nat.le_of_ble_eq_true rfl, Nat.le_of_ble_eq_true rfl⟩ dX0_missAt_81 ?_
    refine v_eql (lZ (max ma mb)) (mmaxl_z (by first | assumption | exact ⟨by omega, by omega⟩) (by first | assumption | exact ⟨by omega, by omega⟩)) ?_
    refine z_l2i 84 C dX0_missAt_84 ?_
    exact v_iret 85 C (⟨by rw [if_pos c9_0, e_ma, e_mb]; rfl, rfl⟩) dX0_missAt_85
  · skip
    refine v_iconst 12 C (iZ 0) dX0_missAt_12 rfl ?_
    exact v_iret 13 C (⟨by rw [if_neg c9_0], rfl⟩) dX0_missAt_13

set_option maxHeartbeats 4000000 in
set_option maxRecDepth 100000 in
theorem m_near {l : Launch} {D : va_G} {kc : Nat → ClassId} {N : Nat} {ad : Nat → Nat} {S : St} {i j : Nat} {y v hh tl : Int} (h : vp N i) (hj : j < 17) (s1 : gA S (i + 9 + 3) j = iZ v) (hv : b01 v) (ey : v = 0 → gA S (i + 9 + 2) j = iZ y) (by_ : bd y) (rh : r32 hh) (rt : r32 tl) : MetK l yX0_isNearHeight cX0_isNearHeight 4 (some FieldType.boolean) 1 0 0 24 D kc (wl kc N ad S) [.ref (ad i), .int (iZ (j : Int)), .int (iZ hh), .int (iZ tl)] (QI D kc (wl kc N ad S) (fun r ws' => r = iZ (bz (decide (v = 0) && decide (((y - hh).natAbs : Int) ≤ tl))) ∧ ws' = wl kc N ad S)) := by
  refine MetK.of (by decide +kernel) (Nat.le_of_ble_eq_true rfl) ?_
  intro p e s m below meth c C
  have hA : ∀ q, s.heap.size ≤ q → va_A (wl kc N ad S) s.heap.size q := fun _ h => Or.inr h
  show V p l e { frames := 1, cells := 0, slots := 0, locals := 24 } s m ([.ref (ad i), .int (iZ (j : Int)), .int (iZ hh), .int (iZ tl)] : List Value).toArray below meth c (MQ below (QI D kc (wl kc N ad S) (fun r ws' => r = iZ (bz (decide (v = 0) && decide (((y - hh).natAbs : Int) ≤ tl))) ∧ ws' = wl kc N ad S) s.heap.size) ([.ref (ad i), .int (iZ (j : Int)), .int (iZ hh), .int (iZ tl)] : List Value).toArray s 0 0 (va_A (wl kc N ad S) s.heap.size)) D (va_A (wl kc N ad S) s.heap.size) 4 0 0 (wl kc N ad S) 0 [(0, .ref (ad i)), (1, .int (iZ (j : Int))), (2, .int (iZ hh)), (3, .int (iZ tl))] []
  refine v_aload_n 0 0 C dX0_isNearHeight_0 rfl ?_
  refine g_Pt_crease 1 C (vp.o h).1 (vp.o h).2 lk_126 dX0_isNearHeight_1 ?_
  refine g_Tr_stuck 4 C (vt.o (vp.C h)).1 (vt.o (vp.C h)).2 lk_86 dX0_isNearHeight_4 ?_
  refine v_iload_n 7 1 C dX0_isNearHeight_7 rfl ?_
  refine v_zald 8 C (vt.s (vp.C h)).1 (vt.s (vp.C h)).2 j (izn (by omega)) (lnx (vt.ls (vp.C h)) (by omega)) dX0_isNearHeight_8 ?_
  refine v_eqi (iZ v) (s1) ?_
  refine z_if_ne 9 38 C (by first | assumption | exact ⟨by omega, by omega⟩) dX0_isNearHeight_9 (by decide) (fun c9_0 => ?_) (fun c9_0 => ?_)
  · skip
    refine v_iconst 38 C (iZ 0) dX0_isNearHeight_38 rfl ?_
    exact v_zret 39 C (rfl) (⟨bzF (by rw [decide_eq_false c9_0]; rfl), rfl⟩) dX0_isNearHeight_39
  · skip
    refine v_aload_n 12 0 C dX0_isNearHeight_12 rfl ?_
    refine g_Pt_crease 13 C (vp.o h).1 (vp.o h).2 lk_126 dX0_isNearHeight_13 ?_
    refine g_Tr_y 16 C (vt.o (vp.C h)).1 (vt.o (vp.C h)).2 lk_82 dX0_isNearHeight_16 ?_
    refine v_iload_n 19 1 C dX0_isNearHeight_19 rfl ?_
    refine v_iald 20 C (vt.y (vp.C h)).1 (vt.y (vp.C h)).2 j (izn (by omega)) (lnx (vt.ly (vp.C h)) (by omega)) dX0_isNearHeight_20 ?_
    refine v_eqi (iZ y) (ey c9_0) ?_
    refine z_i2l 21 C (by first | assumption | exact ⟨by omega, by omega⟩) dX0_isNearHeight_21 ?_
    refine v_iload_n 22 2 C dX0_isNearHeight_22 rfl ?_
    refine z_i2l 23 C (by first | assumption | exact ⟨by omega, by omega⟩) dX0_isNearHeight_23 ?_
    refine z_lsub 24 C dX0_isNearHeight_24 ?_
    refine v_mabsl 25 C lk_393 ⟨Nat.le_of_ble_eq_true rfl, Nat.le_of_ble_eq_true rfl, Nat.le_of_ble_eq_true rfl, Nat.le_of_ble_eq_true rfl⟩ dX0_isNearHeight_25 ?_
    refine v_eql (lZ ((y - hh).natAbs : Int)) (mabsl_z (by first | assumption | exact ⟨by omega, by omega⟩)) ?_
    refine v_iload_n 28 3 C dX0_isNearHeight_28 rfl ?_
    refine z_i2l 29 C (by first | assumption | exact ⟨by omega, by omega⟩) dX0_isNearHeight_29 ?_
    refine z_lcmp_gt 30 38 C (by first | assumption | exact ⟨by omega, by omega⟩) (by first | assumption | exact ⟨by omega, by omega⟩) dX0_isNearHeight_30 dX0_isNearHeight_31 (by decide) (fun c30_1 => ?_) (fun c30_1 => ?_)
    · skip
      refine v_iconst 38 C (iZ 0) dX0_isNearHeight_38 rfl ?_
      exact v_zret 39 C (rfl) (⟨bzF (by rw [decide_eq_false (show ¬ ((y - hh).natAbs : Int) ≤ tl by omega)]; simp), rfl⟩) dX0_isNearHeight_39
    · skip
      refine v_iconst 34 C (iZ 1) dX0_isNearHeight_34 rfl ?_
      refine v_goto 35 39 C dX0_isNearHeight_35 (by decide) ?_
      exact v_zret 39 C (rfl) (⟨bzT (by rw [decide_eq_true c9_0, decide_eq_true (show ((y - hh).natAbs : Int) ≤ tl by omega)]; rfl), rfl⟩) dX0_isNearHeight_39
