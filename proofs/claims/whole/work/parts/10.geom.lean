/-! GEOMETRY's methods: tracks, planes, folds -/
def putT (S : St) (t j : Nat) (x y : Int) : St := pA (pA (pA S (t + 1) j (iZ x)) (t + 2) j (iZ y)) (t + 3) j (iZ 0)
def loseT (S : St) (t j : Nat) : St := pA S (t + 3) j (iZ 1)
abbrev b01 (v : Int) : Prop := v = 0 ∨ v = 1
theorem zn01 {v : Int} (h : b01 v) : narrow .boolean (.int (iZ v)) = .int (iZ v) := by rcases h with rfl | rfl <;> rfl
theorem zf01 {v : Int} (h : b01 v) : fits .boolean (.int (iZ v)) = true := by rcases h with rfl | rfl <;> rfl
theorem vn01 {v : Int} (h : b01 v) : vp_nar .boolean (iZ v) = iZ v := by rcases h with rfl | rfl <;> rfl
theorem vn0 : vp_nar .boolean (iZ 0) = iZ 0 := rfl
theorem vn1 : vp_nar .boolean (iZ 1) = iZ 1 := rfl
set_option maxHeartbeats 4000000 in
set_option maxRecDepth 100000 in
theorem m_put {l : Launch} {D : va_G} {kc : Nat → ClassId} {N : Nat} {ad : Nat → Nat} {S : St} {t j : Nat} {x y : Int} (h : vt N t) (hj : j < 17) : MetK l yX2_put cX2_put 4 (none) 1 0 0 24 D kc (wl kc N ad S) [.ref (ad t), .int (iZ (j : Int)), .int (iZ x), .int (iZ y)] (QV D kc (wl kc N ad S) (fun ws' => ws' = wl kc N ad (putT S t j x y))) := by
  refine MetK.of (by decide +kernel) (Nat.le_of_ble_eq_true rfl) ?_
  intro p e s m below meth c C
  have hA : ∀ q, s.heap.size ≤ q → va_A (wl kc N ad S) s.heap.size q := fun _ h => Or.inr h
  show V p l e { frames := 1, cells := 0, slots := 0, locals := 24 } s m ([.ref (ad t), .int (iZ (j : Int)), .int (iZ x), .int (iZ y)] : List Value).toArray below meth c (MQ below (QV D kc (wl kc N ad S) (fun ws' => ws' = wl kc N ad (putT S t j x y)) s.heap.size) ([.ref (ad t), .int (iZ (j : Int)), .int (iZ x), .int (iZ y)] : List Value).toArray s 0 0 (va_A (wl kc N ad S) s.heap.size)) D (va_A (wl kc N ad S) s.heap.size) 4 0 0 (wl kc N ad S) 0 [(0, .ref (ad t)), (1, .int (iZ (j : Int))), (2, .int (iZ x)), (3, .int (iZ y))] []
  refine v_aload_n 0 0 C dX2_put_0 rfl ?_
  refine g_Tr_x 1 C (vt.o h).1 (vt.o h).2 lk_76 dX2_put_1 ?_
  refine v_iload_n 4 1 C dX2_put_4 rfl ?_
  refine v_iload_n 5 2 C dX2_put_5 rfl ?_
  refine v_iast 6 C (vt.x h).1 (vt.x h).2 j (izn (by omega)) (lnx (vt.lx h) (by omega)) dX2_put_6 ?_
  refine v_aload_n 7 0 C dX2_put_7 rfl ?_
  refine g_Tr_y 8 C (vt.o h).1 (vt.o h).2 lk_80 dX2_put_8 ?_
  refine v_iload_n 11 1 C dX2_put_11 rfl ?_
  refine v_iload_n 12 3 C dX2_put_12 rfl ?_
  refine v_iast 13 C (vt.y h).1 (vt.y h).2 j (izn (by omega)) (lnx (vt.ly h) (by omega)) dX2_put_13 ?_
  refine v_aload_n 14 0 C dX2_put_14 rfl ?_
  refine g_Tr_stuck 15 C (vt.o h).1 (vt.o h).2 lk_84 dX2_put_15 ?_
  refine v_iload_n 18 1 C dX2_put_18 rfl ?_
  refine v_iconst 19 C (iZ 0) dX2_put_19 rfl ?_
  refine v_zast 20 C (vt.s h).1 (vt.s h).2 j (izn (by omega)) (lnx (vt.ls h) (by omega)) dX2_put_20 ?_
  exact v_vret 21 C (rfl) dX2_put_21

set_option maxHeartbeats 4000000 in
set_option maxRecDepth 100000 in
theorem m_lose {l : Launch} {D : va_G} {kc : Nat → ClassId} {N : Nat} {ad : Nat → Nat} {S : St} {t j : Nat} (h : vt N t) (hj : j < 17) : MetK l yX2_lose cX2_lose 2 (none) 1 0 0 24 D kc (wl kc N ad S) [.ref (ad t), .int (iZ (j : Int))] (QV D kc (wl kc N ad S) (fun ws' => ws' = wl kc N ad (loseT S t j))) := by
  refine MetK.of (by decide +kernel) (Nat.le_of_ble_eq_true rfl) ?_
  intro p e s m below meth c C
  have hA : ∀ q, s.heap.size ≤ q → va_A (wl kc N ad S) s.heap.size q := fun _ h => Or.inr h
  show V p l e { frames := 1, cells := 0, slots := 0, locals := 24 } s m ([.ref (ad t), .int (iZ (j : Int))] : List Value).toArray below meth c (MQ below (QV D kc (wl kc N ad S) (fun ws' => ws' = wl kc N ad (loseT S t j)) s.heap.size) ([.ref (ad t), .int (iZ (j : Int))] : List Value).toArray s 0 0 (va_A (wl kc N ad S) s.heap.size)) D (va_A (wl kc N ad S) s.heap.size) 2 0 0 (wl kc N ad S) 0 [(0, .ref (ad t)), (1, .int (iZ (j : Int)))] []
  refine v_aload_n 0 0 C dX2_lose_0 rfl ?_
  refine g_Tr_stuck 1 C (vt.o h).1 (vt.o h).2 lk_84 dX2_lose_1 ?_
  refine v_iload_n 4 1 C dX2_lose_4 rfl ?_
  refine v_iconst 5 C (iZ 1) dX2_lose_5 rfl ?_
  refine v_zast 6 C (vt.s h).1 (vt.s h).2 j (izn (by omega)) (lnx (vt.ls h) (by omega)) dX2_lose_6 ?_
  exact v_vret 7 C (rfl) dX2_lose_7

set_option maxHeartbeats 4000000 in
set_option maxRecDepth 100000 in
theorem m_squareTo {l : Launch} {D : va_G} {kc : Nat → ClassId} {N : Nat} {ad : Nat → Nat} {S : St} {t o j : Nat} {x1 y1 x2 y2 : Int} (ht : vt N t) (ho : vt N o) (hj : j < 17) (e1 : gA S (t + 1) j = iZ x1) (e2 : gA S (t + 2) j = iZ y1) (e3 : gA S (o + 1) j = iZ x2) (e4 : gA S (o + 2) j = iZ y2) (b1 : bd x1) (b2 : bd y1) (b3 : bd x2) (b4 : bd y2) : MetK l yX2_squareTo cX2_squareTo 7 (some FieldType.long) 1 0 0 24 D kc (wl kc N ad S) [.ref (ad t), .ref (ad o), .int (iZ (j : Int))] (QL D kc (wl kc N ad S) (fun r ws' => r = lZ ((x2 - x1) * (x2 - x1) + (y2 - y1) * (y2 - y1)) ∧ ws' = wl kc N ad S)) := by
  refine MetK.of (by decide +kernel) (Nat.le_of_ble_eq_true rfl) ?_
  intro p e s m below meth c C
  have hA : ∀ q, s.heap.size ≤ q → va_A (wl kc N ad S) s.heap.size q := fun _ h => Or.inr h
  show V p l e { frames := 1, cells := 0, slots := 0, locals := 24 } s m ([.ref (ad t), .ref (ad o), .int (iZ (j : Int))] : List Value).toArray below meth c (MQ below (QL D kc (wl kc N ad S) (fun r ws' => r = lZ ((x2 - x1) * (x2 - x1) + (y2 - y1) * (y2 - y1)) ∧ ws' = wl kc N ad S) s.heap.size) ([.ref (ad t), .ref (ad o), .int (iZ (j : Int))] : List Value).toArray s 0 0 (va_A (wl kc N ad S) s.heap.size)) D (va_A (wl kc N ad S) s.heap.size) 7 0 0 (wl kc N ad S) 0 [(0, .ref (ad t)), (1, .ref (ad o)), (2, .int (iZ (j : Int)))] []
  refine v_aload_n 0 1 C dX2_squareTo_0 rfl ?_
  refine g_Tr_x 1 C (vt.o ho).1 (vt.o ho).2 lk_76 dX2_squareTo_1 ?_
  refine v_iload_n 4 2 C dX2_squareTo_4 rfl ?_
  refine v_iald 5 C (vt.x ho).1 (vt.x ho).2 j (izn (by omega)) (lnx (vt.lx ho) (by omega)) dX2_squareTo_5 ?_
  refine v_eqi (iZ x2) (e3) ?_
  refine v_aload_n 6 0 C dX2_squareTo_6 rfl ?_
  refine g_Tr_x 7 C (vt.o ht).1 (vt.o ht).2 lk_76 dX2_squareTo_7 ?_
  refine v_iload_n 10 2 C dX2_squareTo_10 rfl ?_
  refine v_iald 11 C (vt.x ht).1 (vt.x ht).2 j (izn (by omega)) (lnx (vt.lx ht) (by omega)) dX2_squareTo_11 ?_
  refine v_eqi (iZ x1) (e1) ?_
  refine z_isub 12 C dX2_squareTo_12 ?_
  refine z_i2l 13 C (by first | assumption | exact ⟨by omega, by omega⟩) dX2_squareTo_13 ?_
  refine v_lstore_n 14 [(3, .long (lZ (x2 - x1))), (0, .ref (ad t)), (1, .ref (ad o)), (2, .int (iZ (j : Int)))] C dX2_squareTo_14 (by decide) rfl ?_
  refine v_aload_n 15 2 C dX2_squareTo_15 rfl ?_
  refine g_Tr_y 16 C (vt.o ho).1 (vt.o ho).2 lk_80 dX2_squareTo_16 ?_
  refine v_iload_n 19 3 C dX2_squareTo_19 rfl ?_
  refine v_iald 20 C (vt.y ho).1 (vt.y ho).2 j (izn (by omega)) (lnx (vt.ly ho) (by omega)) dX2_squareTo_20 ?_
  refine v_eqi (iZ y2) (e4) ?_
  refine v_aload_n 21 1 C dX2_squareTo_21 rfl ?_
  refine g_Tr_y 22 C (vt.o ht).1 (vt.o ht).2 lk_80 dX2_squareTo_22 ?_
  refine v_iload_n 25 3 C dX2_squareTo_25 rfl ?_
  refine v_iald 26 C (vt.y ht).1 (vt.y ht).2 j (izn (by omega)) (lnx (vt.ly ht) (by omega)) dX2_squareTo_26 ?_
  refine v_eqi (iZ y1) (e2) ?_
  refine z_isub 27 C dX2_squareTo_27 ?_
  refine z_i2l 28 C (by first | assumption | exact ⟨by omega, by omega⟩) dX2_squareTo_28 ?_
  refine v_lstore 29 [(5, .long (lZ (y2 - y1))), (3, .long (lZ (x2 - x1))), (0, .ref (ad t)), (1, .ref (ad o)), (2, .int (iZ (j : Int)))] C dX2_squareTo_29 (by decide) rfl ?_
  refine v_lload_n 31 1 C dX2_squareTo_31 rfl ?_
  refine v_lload_n 32 1 C dX2_squareTo_32 rfl ?_
  refine z_lmul 33 C dX2_squareTo_33 ?_
  refine v_lload 34 0 C dX2_squareTo_34 rfl ?_
  refine v_lload 36 0 C dX2_squareTo_36 rfl ?_
  refine z_lmul 38 C dX2_squareTo_38 ?_
  refine z_ladd 39 C dX2_squareTo_39 ?_
  exact v_lret 40 C (⟨rfl, rfl⟩) dX2_squareTo_40

set_option maxHeartbeats 4000000 in
set_option maxRecDepth 100000 in
theorem m_isStuck {l : Launch} {D : va_G} {kc : Nat → ClassId} {N : Nat} {ad : Nat → Nat} {S : St} {i j : Nat} {v : Int} (h : vl N i) (hj : j < 17) (e1 : gA S (pe i + 3) j = iZ v) (hv : b01 v) : MetK l yX1_isStuck cX1_isStuck 2 (some FieldType.boolean) 1 0 0 24 D kc (wl kc N ad S) [.ref (ad i), .int (iZ (j : Int))] (QI D kc (wl kc N ad S) (fun r ws' => r = iZ v ∧ ws' = wl kc N ad S)) := by
  refine MetK.of (by decide +kernel) (Nat.le_of_ble_eq_true rfl) ?_
  intro p e s m below meth c C
  have hA : ∀ q, s.heap.size ≤ q → va_A (wl kc N ad S) s.heap.size q := fun _ h => Or.inr h
  show V p l e { frames := 1, cells := 0, slots := 0, locals := 24 } s m ([.ref (ad i), .int (iZ (j : Int))] : List Value).toArray below meth c (MQ below (QI D kc (wl kc N ad S) (fun r ws' => r = iZ v ∧ ws' = wl kc N ad S) s.heap.size) ([.ref (ad i), .int (iZ (j : Int))] : List Value).toArray s 0 0 (va_A (wl kc N ad S) s.heap.size)) D (va_A (wl kc N ad S) s.heap.size) 2 0 0 (wl kc N ad S) 0 [(0, .ref (ad i)), (1, .int (iZ (j : Int)))] []
  refine v_aload_n 0 0 C dX1_isStuck_0 rfl ?_
  refine g_Pl_end 1 C (vl.o h).1 (vl.o h).2 lk_104 dX1_isStuck_1 ?_
  refine g_Tr_stuck 4 C (vt.o (vl.e h)).1 (vt.o (vl.e h)).2 lk_85 dX1_isStuck_4 ?_
  refine v_iload_n 7 1 C dX1_isStuck_7 rfl ?_
  refine v_zald 8 C (vt.s (vl.e h)).1 (vt.s (vl.e h)).2 j (izn (by omega)) (lnx (vt.ls (vl.e h)) (by omega)) dX1_isStuck_8 ?_
  refine v_eqi (iZ v) (e1) ?_
  exact v_zret 9 C (zn01 hv) (⟨rfl, rfl⟩) dX1_isStuck_9

set_option maxHeartbeats 4000000 in
set_option maxRecDepth 100000 in
theorem m_mark_no {l : Launch} {D : va_G} {kc : Nat → ClassId} {N : Nat} {ad : Nat → Nat} {S : St} {i j t : Nat} {n : Int} (h : vl N i) (ht : vt N t) (hj : j < 17) (e1 : gA S (pe i + 3) j = iZ 1) : MetK l yX1_mark cX1_mark 11 (none) 3 0 0 72 D kc (wl kc N ad S) [.ref (ad i), .int (iZ n), .int (iZ (j : Int)), .ref (ad t)] (QV D kc (wl kc N ad S) (fun ws' => ws' = wl kc N ad (loseT S t j))) := by
  refine MetK.of (by decide +kernel) (Nat.le_of_ble_eq_true rfl) ?_
  intro p e s m below meth c C
  have hA : ∀ q, s.heap.size ≤ q → va_A (wl kc N ad S) s.heap.size q := fun _ h => Or.inr h
  show V p l e { frames := 3, cells := 0, slots := 0, locals := 72 } s m ([.ref (ad i), .int (iZ n), .int (iZ (j : Int)), .ref (ad t)] : List Value).toArray below meth c (MQ below (QV D kc (wl kc N ad S) (fun ws' => ws' = wl kc N ad (loseT S t j)) s.heap.size) ([.ref (ad i), .int (iZ n), .int (iZ (j : Int)), .ref (ad t)] : List Value).toArray s 0 0 (va_A (wl kc N ad S) s.heap.size)) D (va_A (wl kc N ad S) s.heap.size) 11 0 0 (wl kc N ad S) 0 [(0, .ref (ad i)), (1, .int (iZ n)), (2, .int (iZ (j : Int))), (3, .ref (ad t))] []
  refine v_aload_n 0 0 C dX1_mark_0 rfl ?_
  refine v_iload_n 1 2 C dX1_mark_1 rfl ?_
  refine v_calli 2 hA (rV_Pl 2 C L_RX1_31 lk_194 lk_195 (m_isStuck h hj e1 (Or.inr rfl)) (vl.o h) rfl ⟨rfl, rfl⟩ (rm_ok rfl) dX1_mark_2) (fun r1 w2 h3 => ?_)
  obtain ⟨e_r1, rfl⟩ := h3
  refine v_eqi (iZ 1) (e_r1) ?_
  refine z_if_eq 5 14 C (by first | assumption | exact ⟨by omega, by omega⟩) dX1_mark_5 (by decide) (fun c5_0 => absurd c5_0 (by decide)) (fun c5_0 => ?_)
  refine v_aload_n 8 3 C dX1_mark_8 rfl ?_
  refine v_iload_n 9 2 C dX1_mark_9 rfl ?_
  refine v_callv 10 hA (rV_Tr 10 C L_RX1_35 lk_198 lk_199 (m_lose ht hj) (vt.o ht) rfl ⟨rfl, rfl⟩ (rm_ok rfl) dX1_mark_10) (fun w5 h6 => ?_)
  obtain rfl := h6
  exact v_vret 13 C (rfl) dX1_mark_13

set_option maxHeartbeats 4000000 in
set_option maxRecDepth 100000 in
theorem m_mark {l : Launch} {D : va_G} {kc : Nat → ClassId} {N : Nat} {ad : Nat → Nat} {S : St} {i j t : Nat} {n bx by_ ax ay wh lf : Int} (h : vl N i) (ht : vt N t) (hj : j < 17) (e1 : gA S (pe i + 3) j = iZ 0) (e2 : gA S (pb i + 1) j = iZ bx) (e3 : gA S (pb i + 2) j = iZ by_) (e4 : gA S (pm i + 1) j = iZ ax) (e5 : gA S (pm i + 2) j = iZ ay) (hlf : pf i = iZ lf) (hl01 : b01 lf) (hw1 : ¬ lf = 0 → wh = 10000) (hw2 : lf = 0 → gI S i 4 = iZ wh) (hwb : 0 < wh ∧ wh ≤ 10000) (hn : 0 ≤ n ∧ n ≤ 1000) (b2 : bd bx) (b3 : bd by_) (b4 : bd ax) (b5 : bd ay) : MetK l yX1_mark cX1_mark 11 (none) 3 0 0 72 D kc (wl kc N ad S) [.ref (ad i), .int (iZ n), .int (iZ (j : Int)), .ref (ad t)] (QV D kc (wl kc N ad S) (fun ws' => ws' = wl kc N ad (putT S t j (bx + rnd ((ax - bx) * n) wh) (by_ + rnd ((ay - by_) * n) wh)))) := by
  refine MetK.of (by decide +kernel) (Nat.le_of_ble_eq_true rfl) ?_
  intro p e s m below meth c C
  have hA : ∀ q, s.heap.size ≤ q → va_A (wl kc N ad S) s.heap.size q := fun _ h => Or.inr h
  show V p l e { frames := 3, cells := 0, slots := 0, locals := 72 } s m ([.ref (ad i), .int (iZ n), .int (iZ (j : Int)), .ref (ad t)] : List Value).toArray below meth c (MQ below (QV D kc (wl kc N ad S) (fun ws' => ws' = wl kc N ad (putT S t j (bx + rnd ((ax - bx) * n) wh) (by_ + rnd ((ay - by_) * n) wh))) s.heap.size) ([.ref (ad i), .int (iZ n), .int (iZ (j : Int)), .ref (ad t)] : List Value).toArray s 0 0 (va_A (wl kc N ad S) s.heap.size)) D (va_A (wl kc N ad S) s.heap.size) 11 0 0 (wl kc N ad S) 0 [(0, .ref (ad i)), (1, .int (iZ n)), (2, .int (iZ (j : Int))), (3, .ref (ad t))] []
  refine v_aload_n 0 0 C dX1_mark_0 rfl ?_
  refine v_iload_n 1 2 C dX1_mark_1 rfl ?_
  refine v_calli 2 hA (rV_Pl 2 C L_RX1_31 lk_194 lk_195 (m_isStuck h hj e1 (Or.inl rfl)) (vl.o h) rfl ⟨rfl, rfl⟩ (rm_ok rfl) dX1_mark_2) (fun r1 w2 h3 => ?_)
  obtain ⟨e_r1, rfl⟩ := h3
  refine v_eqi (iZ 0) (e_r1) ?_
  refine z_if_eq 5 14 C (by first | assumption | exact ⟨by omega, by omega⟩) dX1_mark_5 (by decide) (fun c5_0 => ?_) (fun c5_0 => absurd (rfl) c5_0)
  refine v_aload_n 14 0 C dX1_mark_14 rfl ?_
  refine g_Pl_leaf 15 C (vl.o h).1 (vl.o h).2 lk_107 dX1_mark_15 ?_
  refine v_eqi (iZ lf) (hlf) ?_
  refine z_if_eq 18 27 C (by first | assumption | exact ⟨by omega, by omega⟩) dX1_mark_18 (by decide) (fun c18_1 => ?_) (fun c18_1 => ?_)
  · skip
    refine v_aload_n 27 0 C dX1_mark_27 rfl ?_
    refine g_Pl_size 28 C (vl.o h).1 (vl.o h).2 lk_109 dX1_mark_28 ?_
    refine v_eqi (iZ wh) (hw2 c18_1) ?_
    refine v_istore 31 [(4, .int (iZ wh)), (0, .ref (ad i)), (1, .int (iZ n)), (2, .int (iZ (j : Int))), (3, .ref (ad t))] C dX1_mark_31 (by decide) rfl ?_
    refine v_aload_n 33 1 C dX1_mark_33 rfl ?_
    refine g_Pl_begin 34 C (vl.o h).1 (vl.o h).2 lk_103 dX1_mark_34 ?_
    refine g_Tr_x 37 C (vt.o (vl.b h)).1 (vt.o (vl.b h)).2 lk_77 dX1_mark_37 ?_
    refine v_iload_n 40 3 C dX1_mark_40 rfl ?_
    refine v_iald 41 C (vt.x (vl.b h)).1 (vt.x (vl.b h)).2 j (izn (by omega)) (lnx (vt.lx (vl.b h)) (by omega)) dX1_mark_41 ?_
    refine v_eqi (iZ bx) (e2) ?_
    refine v_istore 42 [(5, .int (iZ bx)), (4, .int (iZ wh)), (0, .ref (ad i)), (1, .int (iZ n)), (2, .int (iZ (j : Int))), (3, .ref (ad t))] C dX1_mark_42 (by decide) rfl ?_
    refine v_aload_n 44 2 C dX1_mark_44 rfl ?_
    refine g_Pl_begin 45 C (vl.o h).1 (vl.o h).2 lk_103 dX1_mark_45 ?_
    refine g_Tr_y 48 C (vt.o (vl.b h)).1 (vt.o (vl.b h)).2 lk_81 dX1_mark_48 ?_
    refine v_iload_n 51 4 C dX1_mark_51 rfl ?_
    refine v_iald 52 C (vt.y (vl.b h)).1 (vt.y (vl.b h)).2 j (izn (by omega)) (lnx (vt.ly (vl.b h)) (by omega)) dX1_mark_52 ?_
    refine v_eqi (iZ by_) (e3) ?_
    refine v_istore 53 [(6, .int (iZ by_)), (5, .int (iZ bx)), (4, .int (iZ wh)), (0, .ref (ad i)), (1, .int (iZ n)), (2, .int (iZ (j : Int))), (3, .ref (ad t))] C dX1_mark_53 (by decide) rfl ?_
    refine v_aload_n 55 3 C dX1_mark_55 rfl ?_
    refine g_Pl_aim 56 C (vl.o h).1 (vl.o h).2 lk_106 dX1_mark_56 ?_
    refine g_Tr_x 59 C (vt.o (vl.m h)).1 (vt.o (vl.m h)).2 lk_77 dX1_mark_59 ?_
    refine v_iload_n 62 5 C dX1_mark_62 rfl ?_
    refine v_iald 63 C (vt.x (vl.m h)).1 (vt.x (vl.m h)).2 j (izn (by omega)) (lnx (vt.lx (vl.m h)) (by omega)) dX1_mark_63 ?_
    refine v_eqi (iZ ax) (e4) ?_
    refine v_iload 64 1 C dX1_mark_64 rfl ?_
    refine z_isub 66 C dX1_mark_66 ?_
    refine z_i2l 67 C (by first | assumption | exact ⟨by omega, by omega⟩) dX1_mark_67 ?_
    refine v_lstore 68 [(7, .long (lZ (ax - bx))), (6, .int (iZ by_)), (5, .int (iZ bx)), (4, .int (iZ wh)), (0, .ref (ad i)), (1, .int (iZ n)), (2, .int (iZ (j : Int))), (3, .ref (ad t))] C dX1_mark_68 (by decide) rfl ?_
    refine v_aload_n 70 4 C dX1_mark_70 rfl ?_
    refine g_Pl_aim 71 C (vl.o h).1 (vl.o h).2 lk_106 dX1_mark_71 ?_
    refine g_Tr_y 74 C (vt.o (vl.m h)).1 (vt.o (vl.m h)).2 lk_81 dX1_mark_74 ?_
    refine v_iload_n 77 6 C dX1_mark_77 rfl ?_
    refine v_iald 78 C (vt.y (vl.m h)).1 (vt.y (vl.m h)).2 j (izn (by omega)) (lnx (vt.ly (vl.m h)) (by omega)) dX1_mark_78 ?_
    refine v_eqi (iZ ay) (e5) ?_
    refine v_iload 79 1 C dX1_mark_79 rfl ?_
    refine z_isub 81 C dX1_mark_81 ?_
    refine z_i2l 82 C (by first | assumption | exact ⟨by omega, by omega⟩) dX1_mark_82 ?_
    refine v_lstore 83 [(9, .long (lZ (ay - by_))), (7, .long (lZ (ax - bx))), (6, .int (iZ by_)), (5, .int (iZ bx)), (4, .int (iZ wh)), (0, .ref (ad i)), (1, .int (iZ n)), (2, .int (iZ (j : Int))), (3, .ref (ad t))] C dX1_mark_83 (by decide) rfl ?_
    refine v_aload_n 85 8 C dX1_mark_85 rfl ?_
    refine v_iload_n 86 7 C dX1_mark_86 rfl ?_
    refine v_iload 87 3 C dX1_mark_87 rfl ?_
    refine v_lload 89 1 C dX1_mark_89 rfl ?_
    refine v_iload_n 91 6 C dX1_mark_91 rfl ?_
    refine z_i2l 92 C (by first | assumption | exact ⟨by omega, by omega⟩) dX1_mark_92 ?_
    refine z_lmul 93 C dX1_mark_93 ?_
    refine v_iload 94 4 C dX1_mark_94 rfl ?_
    refine z_i2l 96 C (by first | assumption | exact ⟨by omega, by omega⟩) dX1_mark_96 ?_
    refine v_calli 97 hA (rSN 97 C LN_yX3_nearest C.2.2.2.2.2.1.2.2.2.2.2.2 lk_202 (m_nearest ⟨by have := mulB (A := 200000) (B := 1000) (x := ax - bx) (y := n) (by omega) (by omega); omega, by have := mulB (A := 200000) (B := 1000) (x := ax - bx) (y := n) (by omega) (by omega); omega⟩ ⟨by omega, by omega⟩) rfl rfl (rm_ok rfl) dX1_mark_97) (fun r4 w5 h6 => ?_)
    obtain ⟨e_r4, rfl⟩ := h6
    refine v_eqi (iZ (rnd ((ax - bx) * n) wh)) (e_r4) ?_
    refine z_iadd 100 C dX1_mark_100 ?_
    refine v_iload 101 2 C dX1_mark_101 rfl ?_
    refine v_lload 103 0 C dX1_mark_103 rfl ?_
    refine v_iload_n 105 6 C dX1_mark_105 rfl ?_
    refine z_i2l 106 C (by first | assumption | exact ⟨by omega, by omega⟩) dX1_mark_106 ?_
    refine z_lmul 107 C dX1_mark_107 ?_
    refine v_iload 108 4 C dX1_mark_108 rfl ?_
    refine z_i2l 110 C (by first | assumption | exact ⟨by omega, by omega⟩) dX1_mark_110 ?_
    refine v_calli 111 hA (rSN 111 C LN_yX3_nearest C.2.2.2.2.2.1.2.2.2.2.2.2 lk_202 (m_nearest ⟨by have := mulB (A := 200000) (B := 1000) (x := ay - by_) (y := n) (by omega) (by omega); omega, by have := mulB (A := 200000) (B := 1000) (x := ay - by_) (y := n) (by omega) (by omega); omega⟩ ⟨by omega, by omega⟩) rfl rfl (rm_ok rfl) dX1_mark_111) (fun r7 w8 h9 => ?_)
    obtain ⟨e_r7, rfl⟩ := h9
    refine v_eqi (iZ (rnd ((ay - by_) * n) wh)) (e_r7) ?_
    refine z_iadd 114 C dX1_mark_114 ?_
    refine v_callv 115 hA (rV_Tr 115 C L_RX1_54 lk_173 lk_174 (m_put ht hj) (vt.o ht) rfl ⟨rfl, rfl⟩ (rm_ok rfl) dX1_mark_115) (fun w11 h12 => ?_)
    obtain rfl := h12
    exact v_vret 118 C (rfl) dX1_mark_118
  · skip
    refine v_sipush 21 C (iZ 10000) dX1_mark_21 (by decide) ?_
    refine v_goto 24 31 C dX1_mark_24 (by decide) ?_
    refine v_eqi (iZ wh) (by rw [hw1 c18_1]) ?_
    refine v_istore 31 [(4, .int (iZ wh)), (0, .ref (ad i)), (1, .int (iZ n)), (2, .int (iZ (j : Int))), (3, .ref (ad t))] C dX1_mark_31 (by decide) rfl ?_
    refine v_aload_n 33 1 C dX1_mark_33 rfl ?_
    refine g_Pl_begin 34 C (vl.o h).1 (vl.o h).2 lk_103 dX1_mark_34 ?_
    refine g_Tr_x 37 C (vt.o (vl.b h)).1 (vt.o (vl.b h)).2 lk_77 dX1_mark_37 ?_
    refine v_iload_n 40 3 C dX1_mark_40 rfl ?_
    refine v_iald 41 C (vt.x (vl.b h)).1 (vt.x (vl.b h)).2 j (izn (by omega)) (lnx (vt.lx (vl.b h)) (by omega)) dX1_mark_41 ?_
    refine v_eqi (iZ bx) (e2) ?_
    refine v_istore 42 [(5, .int (iZ bx)), (4, .int (iZ wh)), (0, .ref (ad i)), (1, .int (iZ n)), (2, .int (iZ (j : Int))), (3, .ref (ad t))] C dX1_mark_42 (by decide) rfl ?_
    refine v_aload_n 44 2 C dX1_mark_44 rfl ?_
    refine g_Pl_begin 45 C (vl.o h).1 (vl.o h).2 lk_103 dX1_mark_45 ?_
    refine g_Tr_y 48 C (vt.o (vl.b h)).1 (vt.o (vl.b h)).2 lk_81 dX1_mark_48 ?_
    refine v_iload_n 51 4 C dX1_mark_51 rfl ?_
    refine v_iald 52 C (vt.y (vl.b h)).1 (vt.y (vl.b h)).2 j (izn (by omega)) (lnx (vt.ly (vl.b h)) (by omega)) dX1_mark_52 ?_
    refine v_eqi (iZ by_) (e3) ?_
    refine v_istore 53 [(6, .int (iZ by_)), (5, .int (iZ bx)), (4, .int (iZ wh)), (0, .ref (ad i)), (1, .int (iZ n)), (2, .int (iZ (j : Int))), (3, .ref (ad t))] C dX1_mark_53 (by decide) rfl ?_
    refine v_aload_n 55 3 C dX1_mark_55 rfl ?_
    refine g_Pl_aim 56 C (vl.o h).1 (vl.o h).2 lk_106 dX1_mark_56 ?_
    refine g_Tr_x 59 C (vt.o (vl.m h)).1 (vt.o (vl.m h)).2 lk_77 dX1_mark_59 ?_
    refine v_iload_n 62 5 C dX1_mark_62 rfl ?_
    refine v_iald 63 C (vt.x (vl.m h)).1 (vt.x (vl.m h)).2 j (izn (by omega)) (lnx (vt.lx (vl.m h)) (by omega)) dX1_mark_63 ?_
    refine v_eqi (iZ ax) (e4) ?_
    refine v_iload 64 1 C dX1_mark_64 rfl ?_
    refine z_isub 66 C dX1_mark_66 ?_
    refine z_i2l 67 C (by first | assumption | exact ⟨by omega, by omega⟩) dX1_mark_67 ?_
    refine v_lstore 68 [(7, .long (lZ (ax - bx))), (6, .int (iZ by_)), (5, .int (iZ bx)), (4, .int (iZ wh)), (0, .ref (ad i)), (1, .int (iZ n)), (2, .int (iZ (j : Int))), (3, .ref (ad t))] C dX1_mark_68 (by decide) rfl ?_
    refine v_aload_n 70 4 C dX1_mark_70 rfl ?_
    refine g_Pl_aim 71 C (vl.o h).1 (vl.o h).2 lk_106 dX1_mark_71 ?_
    refine g_Tr_y 74 C (vt.o (vl.m h)).1 (vt.o (vl.m h)).2 lk_81 dX1_mark_74 ?_
    refine v_iload_n 77 6 C dX1_mark_77 rfl ?_
    refine v_iald 78 C (vt.y (vl.m h)).1 (vt.y (vl.m h)).2 j (izn (by omega)) (lnx (vt.ly (vl.m h)) (by omega)) dX1_mark_78 ?_
    refine v_eqi (iZ ay) (e5) ?_
    refine v_iload 79 1 C dX1_mark_79 rfl ?_
    refine z_isub 81 C dX1_mark_81 ?_
    refine z_i2l 82 C (by first | assumption | exact ⟨by omega, by omega⟩) dX1_mark_82 ?_
    refine v_lstore 83 [(9, .long (lZ (ay - by_))), (7, .long (lZ (ax - bx))), (6, .int (iZ by_)), (5, .int (iZ bx)), (4, .int (iZ wh)), (0, .ref (ad i)), (1, .int (iZ n)), (2, .int (iZ (j : Int))), (3, .ref (ad t))] C dX1_mark_83 (by decide) rfl ?_
    refine v_aload_n 85 8 C dX1_mark_85 rfl ?_
    refine v_iload_n 86 7 C dX1_mark_86 rfl ?_
    refine v_iload 87 3 C dX1_mark_87 rfl ?_
    refine v_lload 89 1 C dX1_mark_89 rfl ?_
    refine v_iload_n 91 6 C dX1_mark_91 rfl ?_
    refine z_i2l 92 C (by first | assumption | exact ⟨by omega, by omega⟩) dX1_mark_92 ?_
    refine z_lmul 93 C dX1_mark_93 ?_
    refine v_iload 94 4 C dX1_mark_94 rfl ?_
    refine z_i2l 96 C (by first | assumption | exact ⟨by omega, by omega⟩) dX1_mark_96 ?_
    refine v_calli 97 hA (rSN 97 C LN_yX3_nearest C.2.2.2.2.2.1.2.2.2.2.2.2 lk_202 (m_nearest ⟨by have := mulB (A := 200000) (B := 1000) (x := ax - bx) (y := n) (by omega) (by omega); omega, by have := mulB (A := 200000) (B := 1000) (x := ax - bx) (y := n) (by omega) (by omega); omega⟩ ⟨by omega, by omega⟩) rfl rfl (rm_ok rfl) dX1_mark_97) (fun r13 w14 h15 => ?_)
    obtain ⟨e_r13, rfl⟩ := h15
    refine v_eqi (iZ (rnd ((ax - bx) * n) wh)) (e_r13) ?_
    refine z_iadd 100 C dX1_mark_100 ?_
    refine v_iload 101 2 C dX1_mark_101 rfl ?_
    refine v_lload 103 0 C dX1_mark_103 rfl ?_
    refine v_iload_n 105 6 C dX1_mark_105 rfl ?_
    refine z_i2l 106 C (by first | assumption | exact ⟨by omega, by omega⟩) dX1_mark_106 ?_
    refine z_lmul 107 C dX1_mark_107 ?_
    refine v_iload 108 4 C dX1_mark_108 rfl ?_
    refine z_i2l 110 C (by first | assumption | exact ⟨by omega, by omega⟩) dX1_mark_110 ?_
    refine v_calli 111 hA (rSN 111 C LN_yX3_nearest C.2.2.2.2.2.1.2.2.2.2.2.2 lk_202 (m_nearest ⟨by have := mulB (A := 200000) (B := 1000) (x := ay - by_) (y := n) (by omega) (by omega); omega, by have := mulB (A := 200000) (B := 1000) (x := ay - by_) (y := n) (by omega) (by omega); omega⟩ ⟨by omega, by omega⟩) rfl rfl (rm_ok rfl) dX1_mark_111) (fun r16 w17 h18 => ?_)
    obtain ⟨e_r16, rfl⟩ := h18
    refine v_eqi (iZ (rnd ((ay - by_) * n) wh)) (e_r16) ?_
    refine z_iadd 114 C dX1_mark_114 ?_
    refine v_callv 115 hA (rV_Tr 115 C L_RX1_54 lk_173 lk_174 (m_put ht hj) (vt.o ht) rfl ⟨rfl, rfl⟩ (rm_ok rfl) dX1_mark_115) (fun w20 h21 => ?_)
    obtain rfl := h21
    exact v_vret 118 C (rfl) dX1_mark_118

def sideZ (bx by_ ex ey ox oy : Int) : Int := (ex - bx) * (oy - by_) - (ey - by_) * (ox - bx)
theorem sideZ_b {bx by_ ex ey ox oy : Int} (b1 : bd bx) (b2 : bd by_) (b3 : bd ex) (b4 : bd ey) (b5 : bd ox) (b6 : bd oy) : r64 (sideZ bx by_ ex ey ox oy) := by
  have h1 := mulB (A := 200000) (B := 200000) (x := ex - bx) (y := oy - by_) (by omega) (by omega)
  have h2 := mulB (A := 200000) (B := 200000) (x := ey - by_) (y := ox - bx) (by omega) (by omega)
  unfold sideZ
  exact ⟨by omega, by omega⟩
set_option maxHeartbeats 4000000 in
set_option maxRecDepth 100000 in
theorem m_sideOf {l : Launch} {D : va_G} {kc : Nat → ClassId} {N : Nat} {ad : Nat → Nat} {S : St} {i o j : Nat} {bx by_ ex ey ox oy : Int} (h : vl N i) (ho : vt N o) (hj : j < 17) (e1 : gA S (pb i + 1) j = iZ bx) (e2 : gA S (pb i + 2) j = iZ by_) (e3 : gA S (pe i + 1) j = iZ ex) (e4 : gA S (pe i + 2) j = iZ ey) (e5 : gA S (o + 1) j = iZ ox) (e6 : gA S (o + 2) j = iZ oy) (b1 : bd bx) (b2 : bd by_) (b3 : bd ex) (b4 : bd ey) (b5 : bd ox) (b6 : bd oy) : MetK l yX1_sideOf cX1_sideOf 11 (some FieldType.long) 1 0 0 24 D kc (wl kc N ad S) [.ref (ad i), .ref (ad o), .int (iZ (j : Int))] (QL D kc (wl kc N ad S) (fun r ws' => r = lZ (sideZ bx by_ ex ey ox oy) ∧ ws' = wl kc N ad S)) := by
  refine MetK.of (by decide +kernel) (Nat.le_of_ble_eq_true rfl) ?_
  intro p e s m below meth c C
  have hA : ∀ q, s.heap.size ≤ q → va_A (wl kc N ad S) s.heap.size q := fun _ h => Or.inr h
  show V p l e { frames := 1, cells := 0, slots := 0, locals := 24 } s m ([.ref (ad i), .ref (ad o), .int (iZ (j : Int))] : List Value).toArray below meth c (MQ below (QL D kc (wl kc N ad S) (fun r ws' => r = lZ (sideZ bx by_ ex ey ox oy) ∧ ws' = wl kc N ad S) s.heap.size) ([.ref (ad i), .ref (ad o), .int (iZ (j : Int))] : List Value).toArray s 0 0 (va_A (wl kc N ad S) s.heap.size)) D (va_A (wl kc N ad S) s.heap.size) 11 0 0 (wl kc N ad S) 0 [(0, .ref (ad i)), (1, .ref (ad o)), (2, .int (iZ (j : Int)))] []
  refine v_aload_n 0 0 C dX1_sideOf_0 rfl ?_
  refine g_Pl_end 1 C (vl.o h).1 (vl.o h).2 lk_104 dX1_sideOf_1 ?_
  refine g_Tr_x 4 C (vt.o (vl.e h)).1 (vt.o (vl.e h)).2 lk_77 dX1_sideOf_4 ?_
  refine v_iload_n 7 2 C dX1_sideOf_7 rfl ?_
  refine v_iald 8 C (vt.x (vl.e h)).1 (vt.x (vl.e h)).2 j (izn (by omega)) (lnx (vt.lx (vl.e h)) (by omega)) dX1_sideOf_8 ?_
  refine v_eqi (iZ ex) (e3) ?_
  refine v_aload_n 9 0 C dX1_sideOf_9 rfl ?_
  refine g_Pl_begin 10 C (vl.o h).1 (vl.o h).2 lk_103 dX1_sideOf_10 ?_
  refine g_Tr_x 13 C (vt.o (vl.b h)).1 (vt.o (vl.b h)).2 lk_77 dX1_sideOf_13 ?_
  refine v_iload_n 16 2 C dX1_sideOf_16 rfl ?_
  refine v_iald 17 C (vt.x (vl.b h)).1 (vt.x (vl.b h)).2 j (izn (by omega)) (lnx (vt.lx (vl.b h)) (by omega)) dX1_sideOf_17 ?_
  refine v_eqi (iZ bx) (e1) ?_
  refine z_isub 18 C dX1_sideOf_18 ?_
  refine z_i2l 19 C (by first | assumption | exact ⟨by omega, by omega⟩) dX1_sideOf_19 ?_
  refine v_lstore_n 20 [(3, .long (lZ (ex - bx))), (0, .ref (ad i)), (1, .ref (ad o)), (2, .int (iZ (j : Int)))] C dX1_sideOf_20 (by decide) rfl ?_
  refine v_aload_n 21 1 C dX1_sideOf_21 rfl ?_
  refine g_Pl_end 22 C (vl.o h).1 (vl.o h).2 lk_104 dX1_sideOf_22 ?_
  refine g_Tr_y 25 C (vt.o (vl.e h)).1 (vt.o (vl.e h)).2 lk_81 dX1_sideOf_25 ?_
  refine v_iload_n 28 3 C dX1_sideOf_28 rfl ?_
  refine v_iald 29 C (vt.y (vl.e h)).1 (vt.y (vl.e h)).2 j (izn (by omega)) (lnx (vt.ly (vl.e h)) (by omega)) dX1_sideOf_29 ?_
  refine v_eqi (iZ ey) (e4) ?_
  refine v_aload_n 30 1 C dX1_sideOf_30 rfl ?_
  refine g_Pl_begin 31 C (vl.o h).1 (vl.o h).2 lk_103 dX1_sideOf_31 ?_
  refine g_Tr_y 34 C (vt.o (vl.b h)).1 (vt.o (vl.b h)).2 lk_81 dX1_sideOf_34 ?_
  refine v_iload_n 37 3 C dX1_sideOf_37 rfl ?_
  refine v_iald 38 C (vt.y (vl.b h)).1 (vt.y (vl.b h)).2 j (izn (by omega)) (lnx (vt.ly (vl.b h)) (by omega)) dX1_sideOf_38 ?_
  refine v_eqi (iZ by_) (e2) ?_
  refine z_isub 39 C dX1_sideOf_39 ?_
  refine z_i2l 40 C (by first | assumption | exact ⟨by omega, by omega⟩) dX1_sideOf_40 ?_
  refine v_lstore 41 [(5, .long (lZ (ey - by_))), (3, .long (lZ (ex - bx))), (0, .ref (ad i)), (1, .ref (ad o)), (2, .int (iZ (j : Int)))] C dX1_sideOf_41 (by decide) rfl ?_
  refine v_aload_n 43 3 C dX1_sideOf_43 rfl ?_
  refine g_Tr_x 44 C (vt.o ho).1 (vt.o ho).2 lk_77 dX1_sideOf_44 ?_
  refine v_iload_n 47 4 C dX1_sideOf_47 rfl ?_
  refine v_iald 48 C (vt.x ho).1 (vt.x ho).2 j (izn (by omega)) (lnx (vt.lx ho) (by omega)) dX1_sideOf_48 ?_
  refine v_eqi (iZ ox) (e5) ?_
  refine v_aload_n 49 2 C dX1_sideOf_49 rfl ?_
  refine g_Pl_begin 50 C (vl.o h).1 (vl.o h).2 lk_103 dX1_sideOf_50 ?_
  refine g_Tr_x 53 C (vt.o (vl.b h)).1 (vt.o (vl.b h)).2 lk_77 dX1_sideOf_53 ?_
  refine v_iload_n 56 4 C dX1_sideOf_56 rfl ?_
  refine v_iald 57 C (vt.x (vl.b h)).1 (vt.x (vl.b h)).2 j (izn (by omega)) (lnx (vt.lx (vl.b h)) (by omega)) dX1_sideOf_57 ?_
  refine v_eqi (iZ bx) (e1) ?_
  refine z_isub 58 C dX1_sideOf_58 ?_
  refine z_i2l 59 C (by first | assumption | exact ⟨by omega, by omega⟩) dX1_sideOf_59 ?_
  refine v_lstore 60 [(7, .long (lZ (ox - bx))), (5, .long (lZ (ey - by_))), (3, .long (lZ (ex - bx))), (0, .ref (ad i)), (1, .ref (ad o)), (2, .int (iZ (j : Int)))] C dX1_sideOf_60 (by decide) rfl ?_
  refine v_aload_n 62 4 C dX1_sideOf_62 rfl ?_
  refine g_Tr_y 63 C (vt.o ho).1 (vt.o ho).2 lk_81 dX1_sideOf_63 ?_
  refine v_iload_n 66 5 C dX1_sideOf_66 rfl ?_
  refine v_iald 67 C (vt.y ho).1 (vt.y ho).2 j (izn (by omega)) (lnx (vt.ly ho) (by omega)) dX1_sideOf_67 ?_
  refine v_eqi (iZ oy) (e6) ?_
  refine v_aload_n 68 3 C dX1_sideOf_68 rfl ?_
  refine g_Pl_begin 69 C (vl.o h).1 (vl.o h).2 lk_103 dX1_sideOf_69 ?_
  refine g_Tr_y 72 C (vt.o (vl.b h)).1 (vt.o (vl.b h)).2 lk_81 dX1_sideOf_72 ?_
  refine v_iload_n 75 5 C dX1_sideOf_75 rfl ?_
  refine v_iald 76 C (vt.y (vl.b h)).1 (vt.y (vl.b h)).2 j (izn (by omega)) (lnx (vt.ly (vl.b h)) (by omega)) dX1_sideOf_76 ?_
  refine v_eqi (iZ by_) (e2) ?_
  refine z_isub 77 C dX1_sideOf_77 ?_
  refine z_i2l 78 C (by first | assumption | exact ⟨by omega, by omega⟩) dX1_sideOf_78 ?_
  refine v_lstore 79 [(9, .long (lZ (oy - by_))), (7, .long (lZ (ox - bx))), (5, .long (lZ (ey - by_))), (3, .long (lZ (ex - bx))), (0, .ref (ad i)), (1, .ref (ad o)), (2, .int (iZ (j : Int)))] C dX1_sideOf_79 (by decide) rfl ?_
  refine v_lload_n 81 3 C dX1_sideOf_81 rfl ?_
  refine v_lload 82 0 C dX1_sideOf_82 rfl ?_
  refine z_lmul 84 C dX1_sideOf_84 ?_
  refine v_lload 85 2 C dX1_sideOf_85 rfl ?_
  refine v_lload 87 1 C dX1_sideOf_87 rfl ?_
  refine z_lmul 89 C dX1_sideOf_89 ?_
  refine z_lsub 90 C dX1_sideOf_90 ?_
  exact v_lret 91 C (⟨rfl, rfl⟩) dX1_sideOf_91

def partZ (bx by_ ex ey bx' by' ex' ey' : Int) : Bool := (decide (sideZ bx by_ ex ey bx' by' < 0) && decide (0 < sideZ bx by_ ex ey ex' ey')) || (decide (0 < sideZ bx by_ ex ey bx' by') && decide (sideZ bx by_ ex ey ex' ey' < 0))
def bz (b : Bool) : Int := if b = true then 1 else 0
theorem bz01 (b : Bool) : b01 (bz b) := by cases b <;> simp [bz, b01]
theorem bzT {b : Bool} (h : b = true) : iZ 1 = iZ (bz b) := by rw [h]; rfl
theorem bzF {b : Bool} (h : b = false) : iZ 0 = iZ (bz b) := by rw [h]; rfl
set_option maxHeartbeats 4000000 in
set_option maxRecDepth 100000 in
theorem m_between {l : Launch} {D : va_G} {kc : Nat → ClassId} {N : Nat} {ad : Nat → Nat} {S : St} {i k j : Nat} {bx by_ ex ey bx' by' ex' ey' : Int} (h : vl N i) (hk : vl N k) (hj : j < 17) (e1 : gA S (pb i + 1) j = iZ bx) (e2 : gA S (pb i + 2) j = iZ by_) (e3 : gA S (pe i + 1) j = iZ ex) (e4 : gA S (pe i + 2) j = iZ ey) (f1 : gA S (pb k + 1) j = iZ bx') (f2 : gA S (pb k + 2) j = iZ by') (f3 : gA S (pe k + 1) j = iZ ex') (f4 : gA S (pe k + 2) j = iZ ey') (b1 : bd bx) (b2 : bd by_) (b3 : bd ex) (b4 : bd ey) (d1 : bd bx') (d2 : bd by') (d3 : bd ex') (d4 : bd ey') : MetK l yX1_isBetweenEndsOf cX1_isBetweenEndsOf 7 (some FieldType.boolean) 2 0 0 54 D kc (wl kc N ad S) [.ref (ad i), .ref (ad k), .int (iZ (j : Int))] (QI D kc (wl kc N ad S) (fun r ws' => r = iZ (bz (partZ bx by_ ex ey bx' by' ex' ey')) ∧ ws' = wl kc N ad S)) := by
  refine MetK.of (by decide +kernel) (Nat.le_of_ble_eq_true rfl) ?_
  intro p e s m below meth c C
  have hA : ∀ q, s.heap.size ≤ q → va_A (wl kc N ad S) s.heap.size q := fun _ h => Or.inr h
  show V p l e { frames := 2, cells := 0, slots := 0, locals := 54 } s m ([.ref (ad i), .ref (ad k), .int (iZ (j : Int))] : List Value).toArray below meth c (MQ below (QI D kc (wl kc N ad S) (fun r ws' => r = iZ (bz (partZ bx by_ ex ey bx' by' ex' ey')) ∧ ws' = wl kc N ad S) s.heap.size) ([.ref (ad i), .ref (ad k), .int (iZ (j : Int))] : List Value).toArray s 0 0 (va_A (wl kc N ad S) s.heap.size)) D (va_A (wl kc N ad S) s.heap.size) 7 0 0 (wl kc N ad S) 0 [(0, .ref (ad i)), (1, .ref (ad k)), (2, .int (iZ (j : Int)))] []
  refine v_aload_n 0 0 C dX1_isBetweenEndsOf_0 rfl ?_
  refine v_aload_n 1 1 C dX1_isBetweenEndsOf_1 rfl ?_
  refine g_Pl_begin 2 C (vl.o hk).1 (vl.o hk).2 lk_103 dX1_isBetweenEndsOf_2 ?_
  refine v_iload_n 5 2 C dX1_isBetweenEndsOf_5 rfl ?_
  refine v_calll 6 hA (rV_Pl 6 C L_RX1_58 lk_429 lk_430 (m_sideOf h (vl.b hk) hj e1 e2 e3 e4 f1 f2 b1 b2 b3 b4 d1 d2) (vl.o h) rfl ⟨rfl, rfl⟩ (rm_ok rfl) dX1_isBetweenEndsOf_6) (fun r1 w2 h3 => ?_)
  obtain ⟨e_r1, rfl⟩ := h3
  refine v_eql (lZ (sideZ bx by_ ex ey bx' by')) (e_r1) ?_
  refine z_topl (fun sa e_sa => ?_)
  refine v_lstore_n 9 [(3, .long (lZ sa)), (0, .ref (ad i)), (1, .ref (ad k)), (2, .int (iZ (j : Int)))] C dX1_isBetweenEndsOf_9 (by decide) rfl ?_
  refine v_aload_n 10 1 C dX1_isBetweenEndsOf_10 rfl ?_
  refine v_aload_n 11 2 C dX1_isBetweenEndsOf_11 rfl ?_
  refine g_Pl_end 12 C (vl.o hk).1 (vl.o hk).2 lk_104 dX1_isBetweenEndsOf_12 ?_
  refine v_iload_n 15 3 C dX1_isBetweenEndsOf_15 rfl ?_
  refine v_calll 16 hA (rV_Pl 16 C L_RX1_58 lk_429 lk_430 (m_sideOf h (vl.e hk) hj e1 e2 e3 e4 f3 f4 b1 b2 b3 b4 d3 d4) (vl.o h) rfl ⟨rfl, rfl⟩ (rm_ok rfl) dX1_isBetweenEndsOf_16) (fun r4 w5 h6 => ?_)
  obtain ⟨e_r4, rfl⟩ := h6
  refine v_eql (lZ (sideZ bx by_ ex ey ex' ey')) (e_r4) ?_
  refine z_topl (fun sb e_sb => ?_)
  refine v_lstore 19 [(5, .long (lZ sb)), (3, .long (lZ sa)), (0, .ref (ad i)), (1, .ref (ad k)), (2, .int (iZ (j : Int)))] C dX1_isBetweenEndsOf_19 (by decide) rfl ?_
  have q1 : r64 sa := by rw [e_sa]; exact sideZ_b b1 b2 b3 b4 d1 d2
  have q2 : r64 sb := by rw [e_sb]; exact sideZ_b b1 b2 b3 b4 d3 d4
  refine v_lload_n 21 1 C dX1_isBetweenEndsOf_21 rfl ?_
  refine v_lconst 22 C (lZ 0) dX1_isBetweenEndsOf_22 (by decide) ?_
  refine z_lcmp_ge 23 34 C (by first | assumption | exact ⟨by omega, by omega⟩) (by first | assumption | exact ⟨by omega, by omega⟩) dX1_isBetweenEndsOf_23 dX1_isBetweenEndsOf_24 (by decide) (fun c23_0 => ?_) (fun c23_0 => ?_)
  · skip
    refine v_lload_n 34 1 C dX1_isBetweenEndsOf_34 rfl ?_
    refine v_lconst 35 C (lZ 0) dX1_isBetweenEndsOf_35 (by decide) ?_
    refine z_lcmp_le 36 51 C (by first | assumption | exact ⟨by omega, by omega⟩) (by first | assumption | exact ⟨by omega, by omega⟩) dX1_isBetweenEndsOf_36 dX1_isBetweenEndsOf_37 (by decide) (fun c36_1 => ?_) (fun c36_1 => ?_)
    · skip
      refine v_iconst 51 C (iZ 0) dX1_isBetweenEndsOf_51 rfl ?_
      exact v_zret 52 C (rfl) (⟨bzF (by unfold partZ; rw [← e_sa, ← e_sb]; simp; omega), rfl⟩) dX1_isBetweenEndsOf_52
    · skip
      refine v_lload 40 0 C dX1_isBetweenEndsOf_40 rfl ?_
      refine v_lconst 42 C (lZ 0) dX1_isBetweenEndsOf_42 (by decide) ?_
      refine z_lcmp_ge 43 51 C (by first | assumption | exact ⟨by omega, by omega⟩) (by first | assumption | exact ⟨by omega, by omega⟩) dX1_isBetweenEndsOf_43 dX1_isBetweenEndsOf_44 (by decide) (fun c43_2 => ?_) (fun c43_2 => ?_)
      · skip
        refine v_iconst 51 C (iZ 0) dX1_isBetweenEndsOf_51 rfl ?_
        exact v_zret 52 C (rfl) (⟨bzF (by unfold partZ; rw [← e_sa, ← e_sb]; simp; omega), rfl⟩) dX1_isBetweenEndsOf_52
      · skip
        refine v_iconst 47 C (iZ 1) dX1_isBetweenEndsOf_47 rfl ?_
        refine v_goto 48 52 C dX1_isBetweenEndsOf_48 (by decide) ?_
        exact v_zret 52 C (rfl) (⟨bzT (by unfold partZ; rw [← e_sa, ← e_sb]; simp; omega), rfl⟩) dX1_isBetweenEndsOf_52
  · skip
    refine v_lload 27 0 C dX1_isBetweenEndsOf_27 rfl ?_
    refine v_lconst 29 C (lZ 0) dX1_isBetweenEndsOf_29 (by decide) ?_
    refine z_lcmp_gt 30 47 C (by first | assumption | exact ⟨by omega, by omega⟩) (by first | assumption | exact ⟨by omega, by omega⟩) dX1_isBetweenEndsOf_30 dX1_isBetweenEndsOf_31 (by decide) (fun c30_1 => ?_) (fun c30_1 => ?_)
    · skip
      refine v_iconst 47 C (iZ 1) dX1_isBetweenEndsOf_47 rfl ?_
      refine v_goto 48 52 C dX1_isBetweenEndsOf_48 (by decide) ?_
      exact v_zret 52 C (rfl) (⟨bzT (by unfold partZ; rw [← e_sa, ← e_sb]; simp; omega), rfl⟩) dX1_isBetweenEndsOf_52
    · skip
      refine v_lload_n 34 1 C dX1_isBetweenEndsOf_34 rfl ?_
      refine v_lconst 35 C (lZ 0) dX1_isBetweenEndsOf_35 (by decide) ?_
      refine z_lcmp_le 36 51 C (by first | assumption | exact ⟨by omega, by omega⟩) (by first | assumption | exact ⟨by omega, by omega⟩) dX1_isBetweenEndsOf_36 dX1_isBetweenEndsOf_37 (by decide) (fun c36_2 => ?_) (fun c36_2 => ?_)
      · skip
        refine v_iconst 51 C (iZ 0) dX1_isBetweenEndsOf_51 rfl ?_
        exact v_zret 52 C (rfl) (⟨bzF (by unfold partZ; rw [← e_sa, ← e_sb]; simp; omega), rfl⟩) dX1_isBetweenEndsOf_52
      · skip
        refine v_lload 40 0 C dX1_isBetweenEndsOf_40 rfl ?_
        refine v_lconst 42 C (lZ 0) dX1_isBetweenEndsOf_42 (by decide) ?_
        refine z_lcmp_ge 43 51 C (by first | assumption | exact ⟨by omega, by omega⟩) (by first | assumption | exact ⟨by omega, by omega⟩) dX1_isBetweenEndsOf_43 dX1_isBetweenEndsOf_44 (by decide) (fun c43_3 => ?_) (fun c43_3 => ?_)
        · skip
          refine v_iconst 51 C (iZ 0) dX1_isBetweenEndsOf_51 rfl ?_
          exact v_zret 52 C (rfl) (⟨bzF (by unfold partZ; rw [← e_sa, ← e_sb]; simp; omega), rfl⟩) dX1_isBetweenEndsOf_52
        · skip
          refine v_iconst 47 C (iZ 1) dX1_isBetweenEndsOf_47 rfl ?_
          refine v_goto 48 52 C dX1_isBetweenEndsOf_48 (by decide) ?_
          exact v_zret 52 C (rfl) (⟨bzT (by unfold partZ; rw [← e_sa, ← e_sb]; simp; omega), rfl⟩) dX1_isBetweenEndsOf_52

theorem bzr (b : Bool) : r32 (bz b) := by cases b <;> decide
theorem bz_ne {b : Bool} (h : ¬ bz b = 0) : b = true := by cases b <;> simp_all [bz]
theorem bz_eq {b : Bool} (h : bz b = 0) : b = false := by cases b <;> simp_all [bz]
set_option maxHeartbeats 4000000 in
set_option maxRecDepth 100000 in
theorem m_runs {l : Launch} {D : va_G} {kc : Nat → ClassId} {N : Nat} {ad : Nat → Nat} {S : St} {i k j : Nat} {v v' : Int} {bx by_ ex ey bx' by' ex' ey' : Int} (h : vl N i) (hk : vl N k) (hj : j < 17) (s1 : gA S (pe i + 3) j = iZ v) (s2 : gA S (pe k + 3) j = iZ v') (hv : b01 v) (hv' : b01 v') (E1 : v = 0 → gA S (pb i + 1) j = iZ bx ∧ gA S (pb i + 2) j = iZ by_ ∧ gA S (pe i + 1) j = iZ ex ∧ gA S (pe i + 2) j = iZ ey ∧ bd bx ∧ bd by_ ∧ bd ex ∧ bd ey) (E2 : v' = 0 → gA S (pb k + 1) j = iZ bx' ∧ gA S (pb k + 2) j = iZ by' ∧ gA S (pe k + 1) j = iZ ex' ∧ gA S (pe k + 2) j = iZ ey' ∧ bd bx' ∧ bd by' ∧ bd ex' ∧ bd ey') : MetK l yX1_runsInto cX1_runsInto 3 (some FieldType.boolean) 3 0 0 80 D kc (wl kc N ad S) [.ref (ad i), .ref (ad k), .int (iZ (j : Int))] (QI D kc (wl kc N ad S) (fun r ws' => r = iZ (bz (decide (v = 0) && decide (v' = 0) && partZ bx by_ ex ey bx' by' ex' ey' && partZ bx' by' ex' ey' bx by_ ex ey)) ∧ ws' = wl kc N ad S)) := by
  refine MetK.of (by decide +kernel) (Nat.le_of_ble_eq_true rfl) ?_
  intro p e s m below meth c C
  have hA : ∀ q, s.heap.size ≤ q → va_A (wl kc N ad S) s.heap.size q := fun _ h => Or.inr h
  show V p l e { frames := 3, cells := 0, slots := 0, locals := 80 } s m ([.ref (ad i), .ref (ad k), .int (iZ (j : Int))] : List Value).toArray below meth c (MQ below (QI D kc (wl kc N ad S) (fun r ws' => r = iZ (bz (decide (v = 0) && decide (v' = 0) && partZ bx by_ ex ey bx' by' ex' ey' && partZ bx' by' ex' ey' bx by_ ex ey)) ∧ ws' = wl kc N ad S) s.heap.size) ([.ref (ad i), .ref (ad k), .int (iZ (j : Int))] : List Value).toArray s 0 0 (va_A (wl kc N ad S) s.heap.size)) D (va_A (wl kc N ad S) s.heap.size) 3 0 0 (wl kc N ad S) 0 [(0, .ref (ad i)), (1, .ref (ad k)), (2, .int (iZ (j : Int)))] []
  refine v_aload_n 0 0 C dX1_runsInto_0 rfl ?_
  refine v_iload_n 1 2 C dX1_runsInto_1 rfl ?_
  refine v_calli 2 hA (rV_Pl 2 C L_RX1_31 lk_194 lk_195 (m_isStuck h hj s1 hv) (vl.o h) rfl ⟨rfl, rfl⟩ (rm_ok rfl) dX1_runsInto_2) (fun r1 w2 h3 => ?_)
  obtain ⟨e_r1, rfl⟩ := h3
  refine v_eqi (iZ v) (e_r1) ?_
  refine z_if_ne 5 38 C (by first | assumption | exact ⟨by omega, by omega⟩) dX1_runsInto_5 (by decide) (fun c5_0 => ?_) (fun c5_0 => ?_)
  · skip
    refine v_iconst 38 C (iZ 0) dX1_runsInto_38 rfl ?_
    exact v_zret 39 C (rfl) (⟨bzF (by rw [decide_eq_false c5_0]; simp), rfl⟩) dX1_runsInto_39
  · skip
    refine v_aload_n 8 1 C dX1_runsInto_8 rfl ?_
    refine v_iload_n 9 2 C dX1_runsInto_9 rfl ?_
    refine v_calli 10 hA (rV_Pl 10 C L_RX1_31 lk_194 lk_195 (m_isStuck hk hj s2 hv') (vl.o hk) rfl ⟨rfl, rfl⟩ (rm_ok rfl) dX1_runsInto_10) (fun r4 w5 h6 => ?_)
    obtain ⟨e_r4, rfl⟩ := h6
    refine v_eqi (iZ v') (e_r4) ?_
    refine z_if_ne 13 38 C (by first | assumption | exact ⟨by omega, by omega⟩) dX1_runsInto_13 (by decide) (fun c13_1 => ?_) (fun c13_1 => ?_)
    · skip
      refine v_iconst 38 C (iZ 0) dX1_runsInto_38 rfl ?_
      exact v_zret 39 C (rfl) (⟨bzF (by rw [decide_eq_false c13_1]; simp), rfl⟩) dX1_runsInto_39
    · skip
      obtain ⟨e1, e2, e3, e4, b1, b2, b3, b4⟩ := E1 c5_0
      obtain ⟨f1, f2, f3, f4, d1, d2, d3, d4⟩ := E2 c13_1
      refine v_aload_n 16 0 C dX1_runsInto_16 rfl ?_
      refine v_aload_n 17 1 C dX1_runsInto_17 rfl ?_
      refine v_iload_n 18 2 C dX1_runsInto_18 rfl ?_
      refine v_calli 19 hA (rV_Pl 19 C L_RX1_62 lk_425 lk_426 (m_between h hk hj e1 e2 e3 e4 f1 f2 f3 f4 b1 b2 b3 b4 d1 d2 d3 d4) (vl.o h) rfl ⟨rfl, rfl⟩ (rm_ok rfl) dX1_runsInto_19) (fun r7 w8 h9 => ?_)
      obtain ⟨e_r7, rfl⟩ := h9
      refine v_eqi (iZ (bz (partZ bx by_ ex ey bx' by' ex' ey'))) (e_r7) ?_
      refine z_if_eq 22 38 C (bzr _) dX1_runsInto_22 (by decide) (fun c22_2 => ?_) (fun c22_2 => ?_)
      · skip
        refine v_iconst 38 C (iZ 0) dX1_runsInto_38 rfl ?_
        exact v_zret 39 C (rfl) (⟨bzF (by rw [bz_eq c22_2]; simp), rfl⟩) dX1_runsInto_39
      · skip
        refine v_aload_n 25 1 C dX1_runsInto_25 rfl ?_
        refine v_aload_n 26 0 C dX1_runsInto_26 rfl ?_
        refine v_iload_n 27 2 C dX1_runsInto_27 rfl ?_
        refine v_calli 28 hA (rV_Pl 28 C L_RX1_62 lk_425 lk_426 (m_between hk h hj f1 f2 f3 f4 e1 e2 e3 e4 d1 d2 d3 d4 b1 b2 b3 b4) (vl.o hk) rfl ⟨rfl, rfl⟩ (rm_ok rfl) dX1_runsInto_28) (fun r10 w11 h12 => ?_)
        obtain ⟨e_r10, rfl⟩ := h12
        refine v_eqi (iZ (bz (partZ bx' by' ex' ey' bx by_ ex ey))) (e_r10) ?_
        refine z_if_eq 31 38 C (bzr _) dX1_runsInto_31 (by decide) (fun c31_3 => ?_) (fun c31_3 => ?_)
        · skip
          refine v_iconst 38 C (iZ 0) dX1_runsInto_38 rfl ?_
          exact v_zret 39 C (rfl) (⟨bzF (by rw [bz_eq c31_3]; simp), rfl⟩) dX1_runsInto_39
        · skip
          refine v_iconst 34 C (iZ 1) dX1_runsInto_34 rfl ?_
          refine v_goto 35 39 C dX1_runsInto_35 (by decide) ?_
          exact v_zret 39 C (rfl) (⟨bzT (by rw [decide_eq_true c5_0, decide_eq_true c13_1, bz_ne c22_2, bz_ne c31_3]; rfl), rfl⟩) dX1_runsInto_39
