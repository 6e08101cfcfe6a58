/-! PART: the class answers -/
def gQ (kc : Nat → ClassId) (ad : Nat → Nat) (S : St) (R : Int) (b' : Bs) : Int32 → va_W → Prop := fun r ws' => r = iZ R ∧ ∃ (N' : Nat) (ad' : Nat → Nat) (S' : St) (t' : Ts), ws' = wl kc N' ad' S' ∧ N' = 66 + 15 * bn b' ∧ (∀ i, i < 66 → ad' i = ad i) ∧ RC S' b' t' ∧ LE b' t' ∧ Inv b' ∧ sameOn atM S S'
theorem TJ_mk {S : St} {kd p_ a q_ b_ c d f : Int} : TJ (pI (cutT (hangT S 4 kd p_ a q_ b_) 4 c d) 4 10 (iZ f)) kd p_ a q_ b_ c d f := by
  refine ⟨?_, ?_, ?_, ?_, ?_, ?_, ?_, ?_⟩ <;> (unfold cutT hangT; simp [gI_pI])
theorem gd_c {kd a b_ c_ d_ : Int} : gdP kd a b_ (if kd = 1 then b_ else c_) (if kd = 1 then a else d_) ↔ gdP kd a b_ c_ d_ := by
  unfold gdP
  by_cases h : kd = 1
  · rw [if_pos h, if_pos h]; omega
  · rw [if_neg h, if_neg h]
theorem rm_c {b : Bs} {kd u a q b_ c_ d_ : Int} : rmP b kd u a q b_ (if kd = 1 then b_ else c_) (if kd = 1 then a else d_) ↔ rmP b kd u a q b_ c_ d_ := by
  unfold rmP
  by_cases h : kd = 1
  · rw [if_pos h, if_pos h]; omega
  · rw [if_neg h, if_neg h]
set_option maxHeartbeats 4000000 in
set_option maxRecDepth 100000 in
theorem c_part_nn {l : Launch} {D : va_G} {kc : Nat → ClassId} {N : Nat} {ad : Nat → Nat} {S : St} {b : Bs} {t : Ts} (hg : vg N) (hN : N = 66 + 15 * bn b) (hI : Inv b) (hC : RC S b t) (hE : LE b t) {z y : Int} (rz : r32 z) (ry : r32 y) (hz : ¬ isL b z) (hy : ¬ isL b y) {kd a b_ c_ d_ f : Int} (rk : r32 kd) (ra : r32 a) (rb : r32 b_) (rc : r32 c_) (rd : r32 d_) (hf : b01 f) : MetK l yX3_part cX3_part 10 (some FieldType.int) 8 15 184 195 D kc (wl kc N ad S) [.ref (ad 0), .int (iZ kd), .int (iZ z), .int (iZ a), .int (iZ y), .int (iZ b_), .int (iZ c_), .int (iZ d_), .int (iZ f)] (QI D kc (wl kc N ad S) (gQ kc ad S (-1) (refB b 1))) := by
  refine MetK.of (by decide +kernel) (Nat.le_of_ble_eq_true rfl) ?_
  intro p e s m below meth c C
  have hA : ∀ q, s.heap.size ≤ q → va_A (wl kc N ad S) s.heap.size q := fun _ h => Or.inr h
  show V p l e { frames := 8, cells := 15, slots := 184, locals := 195 } s m ([.ref (ad 0), .int (iZ kd), .int (iZ z), .int (iZ a), .int (iZ y), .int (iZ b_), .int (iZ c_), .int (iZ d_), .int (iZ f)] : List Value).toArray below meth c (MQ below (QI D kc (wl kc N ad S) (gQ kc ad S (-1) (refB b 1)) s.heap.size) ([.ref (ad 0), .int (iZ kd), .int (iZ z), .int (iZ a), .int (iZ y), .int (iZ b_), .int (iZ c_), .int (iZ d_), .int (iZ f)] : List Value).toArray s 15 184 (va_A (wl kc N ad S) s.heap.size)) D (va_A (wl kc N ad S) s.heap.size) 10 0 0 (wl kc N ad S) 0 [(0, .ref (ad 0)), (1, .int (iZ kd)), (2, .int (iZ z)), (3, .int (iZ a)), (4, .int (iZ y)), (5, .int (iZ b_)), (6, .int (iZ c_)), (7, .int (iZ d_)), (8, .int (iZ f))] []
  have hP := hC.1
  have hW := hC.2.1
  have hEn := hC.2.2.1
  have hR := hC.2.2.2
  have hb0 := hI.1
  refine v_wid (k := 15) (n := 184) (by decide) (by decide) ?_
  refine v_aload_n 0 0 C dX3_part_0 rfl ?_
  refine g_Pg_trial 1 C (vg.o hg).1 (vg.o hg).2 lk_212 dX3_part_1 ?_
  refine v_iload_n 4 1 C dX3_part_4 rfl ?_
  refine v_iload_n 5 2 C dX3_part_5 rfl ?_
  refine v_iload_n 6 3 C dX3_part_6 rfl ?_
  refine v_iload 7 4 C dX3_part_7 rfl ?_
  refine v_iload 9 5 C dX3_part_9 rfl ?_
  refine v_callv 11 hA (rV_Pt 11 C L_RX3_69 lk_263 lk_264 (m_hang (vg.t hg)) (vp.o (vg.t hg)) rfl ⟨rfl, rfl⟩ (rm_ok rfl) dX3_part_11) (fun w2 h3 => ?_)
  obtain rfl := h3
  refine v_aload_n 14 0 C dX3_part_14 rfl ?_
  refine g_Pg_trial 15 C (vg.o hg).1 (vg.o hg).2 lk_212 dX3_part_15 ?_
  refine v_iload 18 6 C dX3_part_18 rfl ?_
  refine v_iload 20 7 C dX3_part_20 rfl ?_
  refine v_callv 22 hA (rV_Pt 22 C L_RX3_73 lk_267 lk_268 (m_cut (k := kd) (a := a) (b := b_) (vg.t hg) (by unfold hangT; simp [gI_pI]) (by unfold hangT; simp [gI_pI]) (by unfold hangT; simp [gI_pI]) rk) (vp.o (vg.t hg)) rfl ⟨rfl, rfl⟩ (rm_ok rfl) dX3_part_22) (fun w5 h6 => ?_)
  obtain rfl := h6
  refine v_aload_n 25 0 C dX3_part_25 rfl ?_
  refine g_Pg_trial 26 C (vg.o hg).1 (vg.o hg).2 lk_212 dX3_part_26 ?_
  refine v_iload 29 8 C dX3_part_29 rfl ?_
  refine s_Pt_leftward 31 C (vp.o (vg.t hg)).1 (vp.o (vg.t hg)).2 (zn01 hf) (zf01 hf) lk_142 dX3_part_31 ?_
  obtain ⟨S3, hS3⟩ : ∃ S3, S3 = pI (cutT (hangT S 4 kd z a y b_) 4 (if kd = 1 then b_ else c_) (if kd = 1 then a else d_)) 4 10 (iZ f) := ⟨_, rfl⟩
  rw [← hS3]
  have T3 : TJ S3 kd z a y b_ (if kd = 1 then b_ else c_) (if kd = 1 then a else d_) f := by rw [hS3]; exact TJ_mk
  have u3 : sameOn usedC S S3 := by rw [hS3]; exact ((same_hang (by unfold usedC; omega)).tr (same_cut (by unfold usedC; omega) (by unfold usedC; omega))).tr (same_pI (by unfold usedC; omega))
  have m3 : sameOn atM S S3 := by rw [hS3]; exact ((same_hang (by unfold atM; omega)).tr (same_cut (by unfold atM; omega) (by unfold atM; omega))).tr (same_pI (by unfold atM; omega))
  have C3 := hC.keep2 u3
  have rcF : r32 (if kd = 1 then b_ else c_) := by split <;> assumption
  have rdF : r32 (if kd = 1 then a else d_) := by split <;> assumption
  refine v_aload_n 34 0 C dX3_part_34 rfl ?_
  refine v_calli 35 hA (rV_Pg 35 C L_RX3_81 lk_272 lk_6 (m_judge_nn hg hN hI C3.1 rz ry hz hy rk ra rb rcF rdF T3) (vg.o hg) rfl ⟨rfl, rfl⟩ (rm_ok rfl) dX3_part_35) (fun r7 w8 h9 => ?_)
  obtain ⟨e_r7, rfl⟩ := h9
  refine v_eqi (iZ (-1)) (e_r7) ?_
  refine v_istore 38 [(9, .int (iZ (-1))), (0, .ref (ad 0)), (1, .int (iZ kd)), (2, .int (iZ z)), (3, .int (iZ a)), (4, .int (iZ y)), (5, .int (iZ b_)), (6, .int (iZ c_)), (7, .int (iZ d_)), (8, .int (iZ f))] C dX3_part_38 (by decide) rfl ?_
  refine v_iload 40 0 C dX3_part_40 rfl ?_
  refine z_if_ne 42 56 C (by first | assumption | exact ⟨by omega, by omega⟩) dX3_part_42 (by decide) (fun c42_0 => ?_) (fun c42_0 => absurd c42_0 (by decide))
  refine v_iload 56 0 C dX3_part_56 rfl ?_
  refine z_if_eq 58 68 C (by first | assumption | exact ⟨by omega, by omega⟩) dX3_part_58 (by decide) (fun c58_1 => absurd c58_1 (by decide)) (fun c58_1 => ?_)
  refine v_aload_n 61 1 C dX3_part_61 rfl ?_
  refine v_iload 62 0 C dX3_part_62 rfl ?_
  refine v_calli 64 hA (rV_Pg 64 C L_RX3_62 lk_252 lk_5 (m_refuse hg hN hI C3.1 1 (by decide) (by decide)) (vg.o hg) rfl ⟨rfl, rfl⟩ (rm_ok rfl) dX3_part_64) (fun r10 w11 h12 => ?_)
  obtain ⟨e_r10, rfl⟩ := h12
  refine v_eqi (iZ (-1)) (e_r10) ?_
  exact v_iret 67 C (⟨rfl, N, ad, refS S3 b 1, t, rfl, hN, fun _ _ => rfl, refRC C3, refLE hE, refInv hI, m3.tr refM⟩) dX3_part_67

set_option maxHeartbeats 4000000 in
set_option maxRecDepth 100000 in
theorem c_part_ny {l : Launch} {D : va_G} {kc : Nat → ClassId} {N : Nat} {ad : Nat → Nat} {S : St} {b : Bs} {t : Ts} (hg : vg N) (hN : N = 66 + 15 * bn b) (hI : Inv b) (hC : RC S b t) (hE : LE b t) {z : Int} {q : Nat} (rz : r32 z) (hz : ¬ isL b z) (hq : thL b q) {kd a b_ c_ d_ f : Int} (rk : r32 kd) (ra : r32 a) (rb : r32 b_) (rc : r32 c_) (rd : r32 d_) (hf : b01 f) : MetK l yX3_part cX3_part 10 (some FieldType.int) 8 15 184 195 D kc (wl kc N ad S) [.ref (ad 0), .int (iZ kd), .int (iZ z), .int (iZ a), .int (iZ (q : Int)), .int (iZ b_), .int (iZ c_), .int (iZ d_), .int (iZ f)] (QI D kc (wl kc N ad S) (gQ kc ad S (-1) (refB b 1))) := by
  refine MetK.of (by decide +kernel) (Nat.le_of_ble_eq_true rfl) ?_
  intro p e s m below meth c C
  have hA : ∀ q, s.heap.size ≤ q → va_A (wl kc N ad S) s.heap.size q := fun _ h => Or.inr h
  show V p l e { frames := 8, cells := 15, slots := 184, locals := 195 } s m ([.ref (ad 0), .int (iZ kd), .int (iZ z), .int (iZ a), .int (iZ (q : Int)), .int (iZ b_), .int (iZ c_), .int (iZ d_), .int (iZ f)] : List Value).toArray below meth c (MQ below (QI D kc (wl kc N ad S) (gQ kc ad S (-1) (refB b 1)) s.heap.size) ([.ref (ad 0), .int (iZ kd), .int (iZ z), .int (iZ a), .int (iZ (q : Int)), .int (iZ b_), .int (iZ c_), .int (iZ d_), .int (iZ f)] : List Value).toArray s 15 184 (va_A (wl kc N ad S) s.heap.size)) D (va_A (wl kc N ad S) s.heap.size) 10 0 0 (wl kc N ad S) 0 [(0, .ref (ad 0)), (1, .int (iZ kd)), (2, .int (iZ z)), (3, .int (iZ a)), (4, .int (iZ (q : Int))), (5, .int (iZ b_)), (6, .int (iZ c_)), (7, .int (iZ d_)), (8, .int (iZ f))] []
  have hP := hC.1
  have hW := hC.2.1
  have hEn := hC.2.2.1
  have hR := hC.2.2.2
  have hb0 := hI.1
  refine v_wid (k := 15) (n := 184) (by decide) (by decide) ?_
  refine v_aload_n 0 0 C dX3_part_0 rfl ?_
  refine g_Pg_trial 1 C (vg.o hg).1 (vg.o hg).2 lk_212 dX3_part_1 ?_
  refine v_iload_n 4 1 C dX3_part_4 rfl ?_
  refine v_iload_n 5 2 C dX3_part_5 rfl ?_
  refine v_iload_n 6 3 C dX3_part_6 rfl ?_
  refine v_iload 7 4 C dX3_part_7 rfl ?_
  refine v_iload 9 5 C dX3_part_9 rfl ?_
  refine v_callv 11 hA (rV_Pt 11 C L_RX3_69 lk_263 lk_264 (m_hang (vg.t hg)) (vp.o (vg.t hg)) rfl ⟨rfl, rfl⟩ (rm_ok rfl) dX3_part_11) (fun w2 h3 => ?_)
  obtain rfl := h3
  refine v_aload_n 14 0 C dX3_part_14 rfl ?_
  refine g_Pg_trial 15 C (vg.o hg).1 (vg.o hg).2 lk_212 dX3_part_15 ?_
  refine v_iload 18 6 C dX3_part_18 rfl ?_
  refine v_iload 20 7 C dX3_part_20 rfl ?_
  refine v_callv 22 hA (rV_Pt 22 C L_RX3_73 lk_267 lk_268 (m_cut (k := kd) (a := a) (b := b_) (vg.t hg) (by unfold hangT; simp [gI_pI]) (by unfold hangT; simp [gI_pI]) (by unfold hangT; simp [gI_pI]) rk) (vp.o (vg.t hg)) rfl ⟨rfl, rfl⟩ (rm_ok rfl) dX3_part_22) (fun w5 h6 => ?_)
  obtain rfl := h6
  refine v_aload_n 25 0 C dX3_part_25 rfl ?_
  refine g_Pg_trial 26 C (vg.o hg).1 (vg.o hg).2 lk_212 dX3_part_26 ?_
  refine v_iload 29 8 C dX3_part_29 rfl ?_
  refine s_Pt_leftward 31 C (vp.o (vg.t hg)).1 (vp.o (vg.t hg)).2 (zn01 hf) (zf01 hf) lk_142 dX3_part_31 ?_
  obtain ⟨S3, hS3⟩ : ∃ S3, S3 = pI (cutT (hangT S 4 kd z a (q : Int) b_) 4 (if kd = 1 then b_ else c_) (if kd = 1 then a else d_)) 4 10 (iZ f) := ⟨_, rfl⟩
  rw [← hS3]
  have T3 : TJ S3 kd z a (q : Int) b_ (if kd = 1 then b_ else c_) (if kd = 1 then a else d_) f := by rw [hS3]; exact TJ_mk
  have u3 : sameOn usedC S S3 := by rw [hS3]; exact ((same_hang (by unfold usedC; omega)).tr (same_cut (by unfold usedC; omega) (by unfold usedC; omega))).tr (same_pI (by unfold usedC; omega))
  have m3 : sameOn atM S S3 := by rw [hS3]; exact ((same_hang (by unfold atM; omega)).tr (same_cut (by unfold atM; omega) (by unfold atM; omega))).tr (same_pI (by unfold atM; omega))
  have C3 := hC.keep2 u3
  have rcF : r32 (if kd = 1 then b_ else c_) := by split <;> assumption
  have rdF : r32 (if kd = 1 then a else d_) := by split <;> assumption
  refine v_aload_n 34 0 C dX3_part_34 rfl ?_
  refine v_calli 35 hA (rV_Pg 35 C L_RX3_81 lk_272 lk_6 (m_judge_ny hg hN hI C3.1 rz hz hq rk ra rb rcF rdF T3) (vg.o hg) rfl ⟨rfl, rfl⟩ (rm_ok rfl) dX3_part_35) (fun r7 w8 h9 => ?_)
  obtain ⟨e_r7, rfl⟩ := h9
  refine v_eqi (iZ (-1)) (e_r7) ?_
  refine v_istore 38 [(9, .int (iZ (-1))), (0, .ref (ad 0)), (1, .int (iZ kd)), (2, .int (iZ z)), (3, .int (iZ a)), (4, .int (iZ (q : Int))), (5, .int (iZ b_)), (6, .int (iZ c_)), (7, .int (iZ d_)), (8, .int (iZ f))] C dX3_part_38 (by decide) rfl ?_
  refine v_iload 40 0 C dX3_part_40 rfl ?_
  refine z_if_ne 42 56 C (by first | assumption | exact ⟨by omega, by omega⟩) dX3_part_42 (by decide) (fun c42_0 => ?_) (fun c42_0 => absurd c42_0 (by decide))
  refine v_iload 56 0 C dX3_part_56 rfl ?_
  refine z_if_eq 58 68 C (by first | assumption | exact ⟨by omega, by omega⟩) dX3_part_58 (by decide) (fun c58_1 => absurd c58_1 (by decide)) (fun c58_1 => ?_)
  refine v_aload_n 61 1 C dX3_part_61 rfl ?_
  refine v_iload 62 0 C dX3_part_62 rfl ?_
  refine v_calli 64 hA (rV_Pg 64 C L_RX3_62 lk_252 lk_5 (m_refuse hg hN hI C3.1 1 (by decide) (by decide)) (vg.o hg) rfl ⟨rfl, rfl⟩ (rm_ok rfl) dX3_part_64) (fun r10 w11 h12 => ?_)
  obtain ⟨e_r10, rfl⟩ := h12
  refine v_eqi (iZ (-1)) (e_r10) ?_
  exact v_iret 67 C (⟨rfl, N, ad, refS S3 b 1, t, rfl, hN, fun _ _ => rfl, refRC C3, refLE hE, refInv hI, m3.tr refM⟩) dX3_part_67

set_option maxHeartbeats 4000000 in
set_option maxRecDepth 100000 in
theorem c_part_yn {l : Launch} {D : va_G} {kc : Nat → ClassId} {N : Nat} {ad : Nat → Nat} {S : St} {b : Bs} {t : Ts} (hg : vg N) (hN : N = 66 + 15 * bn b) (hI : Inv b) (hC : RC S b t) (hE : LE b t) {y : Int} {u : Nat} (ry : r32 y) (hu : thL b u) (hy : ¬ isL b y) {kd a b_ c_ d_ f : Int} (rk : r32 kd) (ra : r32 a) (rb : r32 b_) (rc : r32 c_) (rd : r32 d_) (hf : b01 f) : MetK l yX3_part cX3_part 10 (some FieldType.int) 8 15 184 195 D kc (wl kc N ad S) [.ref (ad 0), .int (iZ kd), .int (iZ (u : Int)), .int (iZ a), .int (iZ y), .int (iZ b_), .int (iZ c_), .int (iZ d_), .int (iZ f)] (QI D kc (wl kc N ad S) (gQ kc ad S (-1) (refB b 1))) := by
  refine MetK.of (by decide +kernel) (Nat.le_of_ble_eq_true rfl) ?_
  intro p e s m below meth c C
  have hA : ∀ q, s.heap.size ≤ q → va_A (wl kc N ad S) s.heap.size q := fun _ h => Or.inr h
  show V p l e { frames := 8, cells := 15, slots := 184, locals := 195 } s m ([.ref (ad 0), .int (iZ kd), .int (iZ (u : Int)), .int (iZ a), .int (iZ y), .int (iZ b_), .int (iZ c_), .int (iZ d_), .int (iZ f)] : List Value).toArray below meth c (MQ below (QI D kc (wl kc N ad S) (gQ kc ad S (-1) (refB b 1)) s.heap.size) ([.ref (ad 0), .int (iZ kd), .int (iZ (u : Int)), .int (iZ a), .int (iZ y), .int (iZ b_), .int (iZ c_), .int (iZ d_), .int (iZ f)] : List Value).toArray s 15 184 (va_A (wl kc N ad S) s.heap.size)) D (va_A (wl kc N ad S) s.heap.size) 10 0 0 (wl kc N ad S) 0 [(0, .ref (ad 0)), (1, .int (iZ kd)), (2, .int (iZ (u : Int))), (3, .int (iZ a)), (4, .int (iZ y)), (5, .int (iZ b_)), (6, .int (iZ c_)), (7, .int (iZ d_)), (8, .int (iZ f))] []
  have hP := hC.1
  have hW := hC.2.1
  have hEn := hC.2.2.1
  have hR := hC.2.2.2
  have hb0 := hI.1
  refine v_wid (k := 15) (n := 184) (by decide) (by decide) ?_
  refine v_aload_n 0 0 C dX3_part_0 rfl ?_
  refine g_Pg_trial 1 C (vg.o hg).1 (vg.o hg).2 lk_212 dX3_part_1 ?_
  refine v_iload_n 4 1 C dX3_part_4 rfl ?_
  refine v_iload_n 5 2 C dX3_part_5 rfl ?_
  refine v_iload_n 6 3 C dX3_part_6 rfl ?_
  refine v_iload 7 4 C dX3_part_7 rfl ?_
  refine v_iload 9 5 C dX3_part_9 rfl ?_
  refine v_callv 11 hA (rV_Pt 11 C L_RX3_69 lk_263 lk_264 (m_hang (vg.t hg)) (vp.o (vg.t hg)) rfl ⟨rfl, rfl⟩ (rm_ok rfl) dX3_part_11) (fun w2 h3 => ?_)
  obtain rfl := h3
  refine v_aload_n 14 0 C dX3_part_14 rfl ?_
  refine g_Pg_trial 15 C (vg.o hg).1 (vg.o hg).2 lk_212 dX3_part_15 ?_
  refine v_iload 18 6 C dX3_part_18 rfl ?_
  refine v_iload 20 7 C dX3_part_20 rfl ?_
  refine v_callv 22 hA (rV_Pt 22 C L_RX3_73 lk_267 lk_268 (m_cut (k := kd) (a := a) (b := b_) (vg.t hg) (by unfold hangT; simp [gI_pI]) (by unfold hangT; simp [gI_pI]) (by unfold hangT; simp [gI_pI]) rk) (vp.o (vg.t hg)) rfl ⟨rfl, rfl⟩ (rm_ok rfl) dX3_part_22) (fun w5 h6 => ?_)
  obtain rfl := h6
  refine v_aload_n 25 0 C dX3_part_25 rfl ?_
  refine g_Pg_trial 26 C (vg.o hg).1 (vg.o hg).2 lk_212 dX3_part_26 ?_
  refine v_iload 29 8 C dX3_part_29 rfl ?_
  refine s_Pt_leftward 31 C (vp.o (vg.t hg)).1 (vp.o (vg.t hg)).2 (zn01 hf) (zf01 hf) lk_142 dX3_part_31 ?_
  obtain ⟨S3, hS3⟩ : ∃ S3, S3 = pI (cutT (hangT S 4 kd (u : Int) a y b_) 4 (if kd = 1 then b_ else c_) (if kd = 1 then a else d_)) 4 10 (iZ f) := ⟨_, rfl⟩
  rw [← hS3]
  have T3 : TJ S3 kd (u : Int) a y b_ (if kd = 1 then b_ else c_) (if kd = 1 then a else d_) f := by rw [hS3]; exact TJ_mk
  have u3 : sameOn usedC S S3 := by rw [hS3]; exact ((same_hang (by unfold usedC; omega)).tr (same_cut (by unfold usedC; omega) (by unfold usedC; omega))).tr (same_pI (by unfold usedC; omega))
  have m3 : sameOn atM S S3 := by rw [hS3]; exact ((same_hang (by unfold atM; omega)).tr (same_cut (by unfold atM; omega) (by unfold atM; omega))).tr (same_pI (by unfold atM; omega))
  have C3 := hC.keep2 u3
  have rcF : r32 (if kd = 1 then b_ else c_) := by split <;> assumption
  have rdF : r32 (if kd = 1 then a else d_) := by split <;> assumption
  refine v_aload_n 34 0 C dX3_part_34 rfl ?_
  refine v_calli 35 hA (rV_Pg 35 C L_RX3_81 lk_272 lk_6 (m_judge_yn hg hN hI C3.1 ry hu hy rk ra rb rcF rdF T3) (vg.o hg) rfl ⟨rfl, rfl⟩ (rm_ok rfl) dX3_part_35) (fun r7 w8 h9 => ?_)
  obtain ⟨e_r7, rfl⟩ := h9
  refine v_eqi (iZ (-1)) (e_r7) ?_
  refine v_istore 38 [(9, .int (iZ (-1))), (0, .ref (ad 0)), (1, .int (iZ kd)), (2, .int (iZ (u : Int))), (3, .int (iZ a)), (4, .int (iZ y)), (5, .int (iZ b_)), (6, .int (iZ c_)), (7, .int (iZ d_)), (8, .int (iZ f))] C dX3_part_38 (by decide) rfl ?_
  refine v_iload 40 0 C dX3_part_40 rfl ?_
  refine z_if_ne 42 56 C (by first | assumption | exact ⟨by omega, by omega⟩) dX3_part_42 (by decide) (fun c42_0 => ?_) (fun c42_0 => absurd c42_0 (by decide))
  refine v_iload 56 0 C dX3_part_56 rfl ?_
  refine z_if_eq 58 68 C (by first | assumption | exact ⟨by omega, by omega⟩) dX3_part_58 (by decide) (fun c58_1 => absurd c58_1 (by decide)) (fun c58_1 => ?_)
  refine v_aload_n 61 1 C dX3_part_61 rfl ?_
  refine v_iload 62 0 C dX3_part_62 rfl ?_
  refine v_calli 64 hA (rV_Pg 64 C L_RX3_62 lk_252 lk_5 (m_refuse hg hN hI C3.1 1 (by decide) (by decide)) (vg.o hg) rfl ⟨rfl, rfl⟩ (rm_ok rfl) dX3_part_64) (fun r10 w11 h12 => ?_)
  obtain ⟨e_r10, rfl⟩ := h12
  refine v_eqi (iZ (-1)) (e_r10) ?_
  exact v_iret 67 C (⟨rfl, N, ad, refS S3 b 1, t, rfl, hN, fun _ _ => rfl, refRC C3, refLE hE, refInv hI, m3.tr refM⟩) dX3_part_67

set_option maxHeartbeats 4000000 in
set_option maxRecDepth 100000 in
theorem c_part_e {l : Launch} {D : va_G} {kc : Nat → ClassId} {N : Nat} {ad : Nat → Nat} {S : St} {b : Bs} {t : Ts} (hg : vg N) (hN : N = 66 + 15 * bn b) (hI : Inv b) (hC : RC S b t) (hE : LE b t) {u q : Nat} (hu : thL b u) (hq : thL b q) (he : u = q) {kd a b_ c_ d_ f : Int} (rk : r32 kd) (ra : r32 a) (rb : r32 b_) (rc : r32 c_) (rd : r32 d_) (hf : b01 f) : MetK l yX3_part cX3_part 10 (some FieldType.int) 8 15 184 195 D kc (wl kc N ad S) [.ref (ad 0), .int (iZ kd), .int (iZ (u : Int)), .int (iZ a), .int (iZ (q : Int)), .int (iZ b_), .int (iZ c_), .int (iZ d_), .int (iZ f)] (QI D kc (wl kc N ad S) (gQ kc ad S (-1) (refB b 1))) := by
  refine MetK.of (by decide +kernel) (Nat.le_of_ble_eq_true rfl) ?_
  intro p e s m below meth c C
  have hA : ∀ q, s.heap.size ≤ q → va_A (wl kc N ad S) s.heap.size q := fun _ h => Or.inr h
  show V p l e { frames := 8, cells := 15, slots := 184, locals := 195 } s m ([.ref (ad 0), .int (iZ kd), .int (iZ (u : Int)), .int (iZ a), .int (iZ (q : Int)), .int (iZ b_), .int (iZ c_), .int (iZ d_), .int (iZ f)] : List Value).toArray below meth c (MQ below (QI D kc (wl kc N ad S) (gQ kc ad S (-1) (refB b 1)) s.heap.size) ([.ref (ad 0), .int (iZ kd), .int (iZ (u : Int)), .int (iZ a), .int (iZ (q : Int)), .int (iZ b_), .int (iZ c_), .int (iZ d_), .int (iZ f)] : List Value).toArray s 15 184 (va_A (wl kc N ad S) s.heap.size)) D (va_A (wl kc N ad S) s.heap.size) 10 0 0 (wl kc N ad S) 0 [(0, .ref (ad 0)), (1, .int (iZ kd)), (2, .int (iZ (u : Int))), (3, .int (iZ a)), (4, .int (iZ (q : Int))), (5, .int (iZ b_)), (6, .int (iZ c_)), (7, .int (iZ d_)), (8, .int (iZ f))] []
  have hP := hC.1
  have hW := hC.2.1
  have hEn := hC.2.2.1
  have hR := hC.2.2.2
  have hb0 := hI.1
  refine v_wid (k := 15) (n := 184) (by decide) (by decide) ?_
  refine v_aload_n 0 0 C dX3_part_0 rfl ?_
  refine g_Pg_trial 1 C (vg.o hg).1 (vg.o hg).2 lk_212 dX3_part_1 ?_
  refine v_iload_n 4 1 C dX3_part_4 rfl ?_
  refine v_iload_n 5 2 C dX3_part_5 rfl ?_
  refine v_iload_n 6 3 C dX3_part_6 rfl ?_
  refine v_iload 7 4 C dX3_part_7 rfl ?_
  refine v_iload 9 5 C dX3_part_9 rfl ?_
  refine v_callv 11 hA (rV_Pt 11 C L_RX3_69 lk_263 lk_264 (m_hang (vg.t hg)) (vp.o (vg.t hg)) rfl ⟨rfl, rfl⟩ (rm_ok rfl) dX3_part_11) (fun w2 h3 => ?_)
  obtain rfl := h3
  refine v_aload_n 14 0 C dX3_part_14 rfl ?_
  refine g_Pg_trial 15 C (vg.o hg).1 (vg.o hg).2 lk_212 dX3_part_15 ?_
  refine v_iload 18 6 C dX3_part_18 rfl ?_
  refine v_iload 20 7 C dX3_part_20 rfl ?_
  refine v_callv 22 hA (rV_Pt 22 C L_RX3_73 lk_267 lk_268 (m_cut (k := kd) (a := a) (b := b_) (vg.t hg) (by unfold hangT; simp [gI_pI]) (by unfold hangT; simp [gI_pI]) (by unfold hangT; simp [gI_pI]) rk) (vp.o (vg.t hg)) rfl ⟨rfl, rfl⟩ (rm_ok rfl) dX3_part_22) (fun w5 h6 => ?_)
  obtain rfl := h6
  refine v_aload_n 25 0 C dX3_part_25 rfl ?_
  refine g_Pg_trial 26 C (vg.o hg).1 (vg.o hg).2 lk_212 dX3_part_26 ?_
  refine v_iload 29 8 C dX3_part_29 rfl ?_
  refine s_Pt_leftward 31 C (vp.o (vg.t hg)).1 (vp.o (vg.t hg)).2 (zn01 hf) (zf01 hf) lk_142 dX3_part_31 ?_
  obtain ⟨S3, hS3⟩ : ∃ S3, S3 = pI (cutT (hangT S 4 kd (u : Int) a (q : Int) b_) 4 (if kd = 1 then b_ else c_) (if kd = 1 then a else d_)) 4 10 (iZ f) := ⟨_, rfl⟩
  rw [← hS3]
  have T3 : TJ S3 kd (u : Int) a (q : Int) b_ (if kd = 1 then b_ else c_) (if kd = 1 then a else d_) f := by rw [hS3]; exact TJ_mk
  have u3 : sameOn usedC S S3 := by rw [hS3]; exact ((same_hang (by unfold usedC; omega)).tr (same_cut (by unfold usedC; omega) (by unfold usedC; omega))).tr (same_pI (by unfold usedC; omega))
  have m3 : sameOn atM S S3 := by rw [hS3]; exact ((same_hang (by unfold atM; omega)).tr (same_cut (by unfold atM; omega) (by unfold atM; omega))).tr (same_pI (by unfold atM; omega))
  have C3 := hC.keep2 u3
  have rcF : r32 (if kd = 1 then b_ else c_) := by split <;> assumption
  have rdF : r32 (if kd = 1 then a else d_) := by split <;> assumption
  refine v_aload_n 34 0 C dX3_part_34 rfl ?_
  refine v_calli 35 hA (rV_Pg 35 C L_RX3_81 lk_272 lk_6 (m_judge_e hg hN hI C3.1 hu hq he rk ra rb rcF rdF T3) (vg.o hg) rfl ⟨rfl, rfl⟩ (rm_ok rfl) dX3_part_35) (fun r7 w8 h9 => ?_)
  obtain ⟨e_r7, rfl⟩ := h9
  refine v_eqi (iZ (-1)) (e_r7) ?_
  refine v_istore 38 [(9, .int (iZ (-1))), (0, .ref (ad 0)), (1, .int (iZ kd)), (2, .int (iZ (u : Int))), (3, .int (iZ a)), (4, .int (iZ (q : Int))), (5, .int (iZ b_)), (6, .int (iZ c_)), (7, .int (iZ d_)), (8, .int (iZ f))] C dX3_part_38 (by decide) rfl ?_
  refine v_iload 40 0 C dX3_part_40 rfl ?_
  refine z_if_ne 42 56 C (by first | assumption | exact ⟨by omega, by omega⟩) dX3_part_42 (by decide) (fun c42_0 => ?_) (fun c42_0 => absurd c42_0 (by decide))
  refine v_iload 56 0 C dX3_part_56 rfl ?_
  refine z_if_eq 58 68 C (by first | assumption | exact ⟨by omega, by omega⟩) dX3_part_58 (by decide) (fun c58_1 => absurd c58_1 (by decide)) (fun c58_1 => ?_)
  refine v_aload_n 61 1 C dX3_part_61 rfl ?_
  refine v_iload 62 0 C dX3_part_62 rfl ?_
  refine v_calli 64 hA (rV_Pg 64 C L_RX3_62 lk_252 lk_5 (m_refuse hg hN hI C3.1 1 (by decide) (by decide)) (vg.o hg) rfl ⟨rfl, rfl⟩ (rm_ok rfl) dX3_part_64) (fun r10 w11 h12 => ?_)
  obtain ⟨e_r10, rfl⟩ := h12
  refine v_eqi (iZ (-1)) (e_r10) ?_
  exact v_iret 67 C (⟨rfl, N, ad, refS S3 b 1, t, rfl, hN, fun _ _ => rfl, refRC C3, refLE hE, refInv hI, m3.tr refM⟩) dX3_part_67

set_option maxHeartbeats 4000000 in
set_option maxRecDepth 100000 in
theorem c_part_2 {l : Launch} {D : va_G} {kc : Nat → ClassId} {N : Nat} {ad : Nat → Nat} {S : St} {b : Bs} {t : Ts} (hg : vg N) (hN : N = 66 + 15 * bn b) (hI : Inv b) (hC : RC S b t) (hE : LE b t) {u q : Nat} (hu : thL b u) (hq : thL b q) (he : ¬ u = q) {kd a b_ c_ d_ f : Int} (rk : r32 kd) (ra : r32 a) (rb : r32 b_) (rc : r32 c_) (rd : r32 d_) (hf : b01 f) (hk : kd < 0 ∨ 2 < kd) : MetK l yX3_part cX3_part 10 (some FieldType.int) 8 15 184 195 D kc (wl kc N ad S) [.ref (ad 0), .int (iZ kd), .int (iZ (u : Int)), .int (iZ a), .int (iZ (q : Int)), .int (iZ b_), .int (iZ c_), .int (iZ d_), .int (iZ f)] (QI D kc (wl kc N ad S) (gQ kc ad S (-2) (refB b 2))) := by
  refine MetK.of (by decide +kernel) (Nat.le_of_ble_eq_true rfl) ?_
  intro p e s m below meth c C
  have hA : ∀ q, s.heap.size ≤ q → va_A (wl kc N ad S) s.heap.size q := fun _ h => Or.inr h
  show V p l e { frames := 8, cells := 15, slots := 184, locals := 195 } s m ([.ref (ad 0), .int (iZ kd), .int (iZ (u : Int)), .int (iZ a), .int (iZ (q : Int)), .int (iZ b_), .int (iZ c_), .int (iZ d_), .int (iZ f)] : List Value).toArray below meth c (MQ below (QI D kc (wl kc N ad S) (gQ kc ad S (-2) (refB b 2)) s.heap.size) ([.ref (ad 0), .int (iZ kd), .int (iZ (u : Int)), .int (iZ a), .int (iZ (q : Int)), .int (iZ b_), .int (iZ c_), .int (iZ d_), .int (iZ f)] : List Value).toArray s 15 184 (va_A (wl kc N ad S) s.heap.size)) D (va_A (wl kc N ad S) s.heap.size) 10 0 0 (wl kc N ad S) 0 [(0, .ref (ad 0)), (1, .int (iZ kd)), (2, .int (iZ (u : Int))), (3, .int (iZ a)), (4, .int (iZ (q : Int))), (5, .int (iZ b_)), (6, .int (iZ c_)), (7, .int (iZ d_)), (8, .int (iZ f))] []
  have hP := hC.1
  have hW := hC.2.1
  have hEn := hC.2.2.1
  have hR := hC.2.2.2
  have hb0 := hI.1
  refine v_wid (k := 15) (n := 184) (by decide) (by decide) ?_
  refine v_aload_n 0 0 C dX3_part_0 rfl ?_
  refine g_Pg_trial 1 C (vg.o hg).1 (vg.o hg).2 lk_212 dX3_part_1 ?_
  refine v_iload_n 4 1 C dX3_part_4 rfl ?_
  refine v_iload_n 5 2 C dX3_part_5 rfl ?_
  refine v_iload_n 6 3 C dX3_part_6 rfl ?_
  refine v_iload 7 4 C dX3_part_7 rfl ?_
  refine v_iload 9 5 C dX3_part_9 rfl ?_
  refine v_callv 11 hA (rV_Pt 11 C L_RX3_69 lk_263 lk_264 (m_hang (vg.t hg)) (vp.o (vg.t hg)) rfl ⟨rfl, rfl⟩ (rm_ok rfl) dX3_part_11) (fun w2 h3 => ?_)
  obtain rfl := h3
  refine v_aload_n 14 0 C dX3_part_14 rfl ?_
  refine g_Pg_trial 15 C (vg.o hg).1 (vg.o hg).2 lk_212 dX3_part_15 ?_
  refine v_iload 18 6 C dX3_part_18 rfl ?_
  refine v_iload 20 7 C dX3_part_20 rfl ?_
  refine v_callv 22 hA (rV_Pt 22 C L_RX3_73 lk_267 lk_268 (m_cut (k := kd) (a := a) (b := b_) (vg.t hg) (by unfold hangT; simp [gI_pI]) (by unfold hangT; simp [gI_pI]) (by unfold hangT; simp [gI_pI]) rk) (vp.o (vg.t hg)) rfl ⟨rfl, rfl⟩ (rm_ok rfl) dX3_part_22) (fun w5 h6 => ?_)
  obtain rfl := h6
  refine v_aload_n 25 0 C dX3_part_25 rfl ?_
  refine g_Pg_trial 26 C (vg.o hg).1 (vg.o hg).2 lk_212 dX3_part_26 ?_
  refine v_iload 29 8 C dX3_part_29 rfl ?_
  refine s_Pt_leftward 31 C (vp.o (vg.t hg)).1 (vp.o (vg.t hg)).2 (zn01 hf) (zf01 hf) lk_142 dX3_part_31 ?_
  obtain ⟨S3, hS3⟩ : ∃ S3, S3 = pI (cutT (hangT S 4 kd (u : Int) a (q : Int) b_) 4 (if kd = 1 then b_ else c_) (if kd = 1 then a else d_)) 4 10 (iZ f) := ⟨_, rfl⟩
  rw [← hS3]
  have T3 : TJ S3 kd (u : Int) a (q : Int) b_ (if kd = 1 then b_ else c_) (if kd = 1 then a else d_) f := by rw [hS3]; exact TJ_mk
  have u3 : sameOn usedC S S3 := by rw [hS3]; exact ((same_hang (by unfold usedC; omega)).tr (same_cut (by unfold usedC; omega) (by unfold usedC; omega))).tr (same_pI (by unfold usedC; omega))
  have m3 : sameOn atM S S3 := by rw [hS3]; exact ((same_hang (by unfold atM; omega)).tr (same_cut (by unfold atM; omega) (by unfold atM; omega))).tr (same_pI (by unfold atM; omega))
  have C3 := hC.keep2 u3
  have rcF : r32 (if kd = 1 then b_ else c_) := by split <;> assumption
  have rdF : r32 (if kd = 1 then a else d_) := by split <;> assumption
  refine v_aload_n 34 0 C dX3_part_34 rfl ?_
  refine v_calli 35 hA (rV_Pg 35 C L_RX3_81 lk_272 lk_6 (m_judge_2 hg hN hI C3.1 hu hq he rk ra rb rcF rdF hk T3) (vg.o hg) rfl ⟨rfl, rfl⟩ (rm_ok rfl) dX3_part_35) (fun r7 w8 h9 => ?_)
  obtain ⟨e_r7, rfl⟩ := h9
  refine v_eqi (iZ (-2)) (e_r7) ?_
  refine v_istore 38 [(9, .int (iZ (-2))), (0, .ref (ad 0)), (1, .int (iZ kd)), (2, .int (iZ (u : Int))), (3, .int (iZ a)), (4, .int (iZ (q : Int))), (5, .int (iZ b_)), (6, .int (iZ c_)), (7, .int (iZ d_)), (8, .int (iZ f))] C dX3_part_38 (by decide) rfl ?_
  refine v_iload 40 0 C dX3_part_40 rfl ?_
  refine z_if_ne 42 56 C (by first | assumption | exact ⟨by omega, by omega⟩) dX3_part_42 (by decide) (fun c42_0 => ?_) (fun c42_0 => absurd c42_0 (by decide))
  refine v_iload 56 0 C dX3_part_56 rfl ?_
  refine z_if_eq 58 68 C (by first | assumption | exact ⟨by omega, by omega⟩) dX3_part_58 (by decide) (fun c58_1 => absurd c58_1 (by decide)) (fun c58_1 => ?_)
  refine v_aload_n 61 1 C dX3_part_61 rfl ?_
  refine v_iload 62 0 C dX3_part_62 rfl ?_
  refine v_calli 64 hA (rV_Pg 64 C L_RX3_62 lk_252 lk_5 (m_refuse hg hN hI C3.1 2 (by decide) (by decide)) (vg.o hg) rfl ⟨rfl, rfl⟩ (rm_ok rfl) dX3_part_64) (fun r10 w11 h12 => ?_)
  obtain ⟨e_r10, rfl⟩ := h12
  refine v_eqi (iZ (-2)) (e_r10) ?_
  exact v_iret 67 C (⟨rfl, N, ad, refS S3 b 2, t, rfl, hN, fun _ _ => rfl, refRC C3, refLE hE, refInv hI, m3.tr refM⟩) dX3_part_67

set_option maxHeartbeats 4000000 in
set_option maxRecDepth 100000 in
theorem c_part_4 {l : Launch} {D : va_G} {kc : Nat → ClassId} {N : Nat} {ad : Nat → Nat} {S : St} {b : Bs} {t : Ts} (hg : vg N) (hN : N = 66 + 15 * bn b) (hI : Inv b) (hC : RC S b t) (hE : LE b t) {u q : Nat} (hu : thL b u) (hq : thL b q) (he : ¬ u = q) {kd a b_ c_ d_ f : Int} (rk : r32 kd) (ra : r32 a) (rb : r32 b_) (rc : r32 c_) (rd : r32 d_) (hf : b01 f) (hk : 0 ≤ kd ∧ kd ≤ 2) (h4 : ¬ gdP kd a b_ c_ d_) : MetK l yX3_part cX3_part 10 (some FieldType.int) 8 15 184 195 D kc (wl kc N ad S) [.ref (ad 0), .int (iZ kd), .int (iZ (u : Int)), .int (iZ a), .int (iZ (q : Int)), .int (iZ b_), .int (iZ c_), .int (iZ d_), .int (iZ f)] (QI D kc (wl kc N ad S) (gQ kc ad S (-4) (refB b 4))) := by
  refine MetK.of (by decide +kernel) (Nat.le_of_ble_eq_true rfl) ?_
  intro p e s m below meth c C
  have hA : ∀ q, s.heap.size ≤ q → va_A (wl kc N ad S) s.heap.size q := fun _ h => Or.inr h
  show V p l e { frames := 8, cells := 15, slots := 184, locals := 195 } s m ([.ref (ad 0), .int (iZ kd), .int (iZ (u : Int)), .int (iZ a), .int (iZ (q : Int)), .int (iZ b_), .int (iZ c_), .int (iZ d_), .int (iZ f)] : List Value).toArray below meth c (MQ below (QI D kc (wl kc N ad S) (gQ kc ad S (-4) (refB b 4)) s.heap.size) ([.ref (ad 0), .int (iZ kd), .int (iZ (u : Int)), .int (iZ a), .int (iZ (q : Int)), .int (iZ b_), .int (iZ c_), .int (iZ d_), .int (iZ f)] : List Value).toArray s 15 184 (va_A (wl kc N ad S) s.heap.size)) D (va_A (wl kc N ad S) s.heap.size) 10 0 0 (wl kc N ad S) 0 [(0, .ref (ad 0)), (1, .int (iZ kd)), (2, .int (iZ (u : Int))), (3, .int (iZ a)), (4, .int (iZ (q : Int))), (5, .int (iZ b_)), (6, .int (iZ c_)), (7, .int (iZ d_)), (8, .int (iZ f))] []
  have hP := hC.1
  have hW := hC.2.1
  have hEn := hC.2.2.1
  have hR := hC.2.2.2
  have hb0 := hI.1
  refine v_wid (k := 15) (n := 184) (by decide) (by decide) ?_
  refine v_aload_n 0 0 C dX3_part_0 rfl ?_
  refine g_Pg_trial 1 C (vg.o hg).1 (vg.o hg).2 lk_212 dX3_part_1 ?_
  refine v_iload_n 4 1 C dX3_part_4 rfl ?_
  refine v_iload_n 5 2 C dX3_part_5 rfl ?_
  refine v_iload_n 6 3 C dX3_part_6 rfl ?_
  refine v_iload 7 4 C dX3_part_7 rfl ?_
  refine v_iload 9 5 C dX3_part_9 rfl ?_
  refine v_callv 11 hA (rV_Pt 11 C L_RX3_69 lk_263 lk_264 (m_hang (vg.t hg)) (vp.o (vg.t hg)) rfl ⟨rfl, rfl⟩ (rm_ok rfl) dX3_part_11) (fun w2 h3 => ?_)
  obtain rfl := h3
  refine v_aload_n 14 0 C dX3_part_14 rfl ?_
  refine g_Pg_trial 15 C (vg.o hg).1 (vg.o hg).2 lk_212 dX3_part_15 ?_
  refine v_iload 18 6 C dX3_part_18 rfl ?_
  refine v_iload 20 7 C dX3_part_20 rfl ?_
  refine v_callv 22 hA (rV_Pt 22 C L_RX3_73 lk_267 lk_268 (m_cut (k := kd) (a := a) (b := b_) (vg.t hg) (by unfold hangT; simp [gI_pI]) (by unfold hangT; simp [gI_pI]) (by unfold hangT; simp [gI_pI]) rk) (vp.o (vg.t hg)) rfl ⟨rfl, rfl⟩ (rm_ok rfl) dX3_part_22) (fun w5 h6 => ?_)
  obtain rfl := h6
  refine v_aload_n 25 0 C dX3_part_25 rfl ?_
  refine g_Pg_trial 26 C (vg.o hg).1 (vg.o hg).2 lk_212 dX3_part_26 ?_
  refine v_iload 29 8 C dX3_part_29 rfl ?_
  refine s_Pt_leftward 31 C (vp.o (vg.t hg)).1 (vp.o (vg.t hg)).2 (zn01 hf) (zf01 hf) lk_142 dX3_part_31 ?_
  obtain ⟨S3, hS3⟩ : ∃ S3, S3 = pI (cutT (hangT S 4 kd (u : Int) a (q : Int) b_) 4 (if kd = 1 then b_ else c_) (if kd = 1 then a else d_)) 4 10 (iZ f) := ⟨_, rfl⟩
  rw [← hS3]
  have T3 : TJ S3 kd (u : Int) a (q : Int) b_ (if kd = 1 then b_ else c_) (if kd = 1 then a else d_) f := by rw [hS3]; exact TJ_mk
  have u3 : sameOn usedC S S3 := by rw [hS3]; exact ((same_hang (by unfold usedC; omega)).tr (same_cut (by unfold usedC; omega) (by unfold usedC; omega))).tr (same_pI (by unfold usedC; omega))
  have m3 : sameOn atM S S3 := by rw [hS3]; exact ((same_hang (by unfold atM; omega)).tr (same_cut (by unfold atM; omega) (by unfold atM; omega))).tr (same_pI (by unfold atM; omega))
  have C3 := hC.keep2 u3
  have rcF : r32 (if kd = 1 then b_ else c_) := by split <;> assumption
  have rdF : r32 (if kd = 1 then a else d_) := by split <;> assumption
  refine v_aload_n 34 0 C dX3_part_34 rfl ?_
  refine v_calli 35 hA (rV_Pg 35 C L_RX3_81 lk_272 lk_6 (m_judge_4 hg hN hI C3.1 hu hq he rk ra rb rcF rdF hk (fun z => h4 (gd_c.mp z)) T3) (vg.o hg) rfl ⟨rfl, rfl⟩ (rm_ok rfl) dX3_part_35) (fun r7 w8 h9 => ?_)
  obtain ⟨e_r7, rfl⟩ := h9
  refine v_eqi (iZ (-4)) (e_r7) ?_
  refine v_istore 38 [(9, .int (iZ (-4))), (0, .ref (ad 0)), (1, .int (iZ kd)), (2, .int (iZ (u : Int))), (3, .int (iZ a)), (4, .int (iZ (q : Int))), (5, .int (iZ b_)), (6, .int (iZ c_)), (7, .int (iZ d_)), (8, .int (iZ f))] C dX3_part_38 (by decide) rfl ?_
  refine v_iload 40 0 C dX3_part_40 rfl ?_
  refine z_if_ne 42 56 C (by first | assumption | exact ⟨by omega, by omega⟩) dX3_part_42 (by decide) (fun c42_0 => ?_) (fun c42_0 => absurd c42_0 (by decide))
  refine v_iload 56 0 C dX3_part_56 rfl ?_
  refine z_if_eq 58 68 C (by first | assumption | exact ⟨by omega, by omega⟩) dX3_part_58 (by decide) (fun c58_1 => absurd c58_1 (by decide)) (fun c58_1 => ?_)
  refine v_aload_n 61 1 C dX3_part_61 rfl ?_
  refine v_iload 62 0 C dX3_part_62 rfl ?_
  refine v_calli 64 hA (rV_Pg 64 C L_RX3_62 lk_252 lk_5 (m_refuse hg hN hI C3.1 4 (by decide) (by decide)) (vg.o hg) rfl ⟨rfl, rfl⟩ (rm_ok rfl) dX3_part_64) (fun r10 w11 h12 => ?_)
  obtain ⟨e_r10, rfl⟩ := h12
  refine v_eqi (iZ (-4)) (e_r10) ?_
  exact v_iret 67 C (⟨rfl, N, ad, refS S3 b 4, t, rfl, hN, fun _ _ => rfl, refRC C3, refLE hE, refInv hI, m3.tr refM⟩) dX3_part_67

set_option maxHeartbeats 4000000 in
set_option maxRecDepth 100000 in
theorem c_part_6 {l : Launch} {D : va_G} {kc : Nat → ClassId} {N : Nat} {ad : Nat → Nat} {S : St} {b : Bs} {t : Ts} (hg : vg N) (hN : N = 66 + 15 * bn b) (hI : Inv b) (hC : RC S b t) (hE : LE b t) {u q : Nat} (hu : thL b u) (hq : thL b q) (he : ¬ u = q) {kd a b_ c_ d_ f : Int} (rk : r32 kd) (ra : r32 a) (rb : r32 b_) (rc : r32 c_) (rd : r32 d_) (hf : b01 f) (hk : 0 ≤ kd ∧ kd ≤ 2) (h4 : gdP kd a b_ c_ d_) (h6 : ¬ rmP b kd u a q b_ c_ d_) : MetK l yX3_part cX3_part 10 (some FieldType.int) 8 15 184 195 D kc (wl kc N ad S) [.ref (ad 0), .int (iZ kd), .int (iZ (u : Int)), .int (iZ a), .int (iZ (q : Int)), .int (iZ b_), .int (iZ c_), .int (iZ d_), .int (iZ f)] (QI D kc (wl kc N ad S) (gQ kc ad S (-6) (refB b 6))) := by
  refine MetK.of (by decide +kernel) (Nat.le_of_ble_eq_true rfl) ?_
  intro p e s m below meth c C
  have hA : ∀ q, s.heap.size ≤ q → va_A (wl kc N ad S) s.heap.size q := fun _ h => Or.inr h
  show V p l e { frames := 8, cells := 15, slots := 184, locals := 195 } s m ([.ref (ad 0), .int (iZ kd), .int (iZ (u : Int)), .int (iZ a), .int (iZ (q : Int)), .int (iZ b_), .int (iZ c_), .int (iZ d_), .int (iZ f)] : List Value).toArray below meth c (MQ below (QI D kc (wl kc N ad S) (gQ kc ad S (-6) (refB b 6)) s.heap.size) ([.ref (ad 0), .int (iZ kd), .int (iZ (u : Int)), .int (iZ a), .int (iZ (q : Int)), .int (iZ b_), .int (iZ c_), .int (iZ d_), .int (iZ f)] : List Value).toArray s 15 184 (va_A (wl kc N ad S) s.heap.size)) D (va_A (wl kc N ad S) s.heap.size) 10 0 0 (wl kc N ad S) 0 [(0, .ref (ad 0)), (1, .int (iZ kd)), (2, .int (iZ (u : Int))), (3, .int (iZ a)), (4, .int (iZ (q : Int))), (5, .int (iZ b_)), (6, .int (iZ c_)), (7, .int (iZ d_)), (8, .int (iZ f))] []
  have hP := hC.1
  have hW := hC.2.1
  have hEn := hC.2.2.1
  have hR := hC.2.2.2
  have hb0 := hI.1
  refine v_wid (k := 15) (n := 184) (by decide) (by decide) ?_
  refine v_aload_n 0 0 C dX3_part_0 rfl ?_
  refine g_Pg_trial 1 C (vg.o hg).1 (vg.o hg).2 lk_212 dX3_part_1 ?_
  refine v_iload_n 4 1 C dX3_part_4 rfl ?_
  refine v_iload_n 5 2 C dX3_part_5 rfl ?_
  refine v_iload_n 6 3 C dX3_part_6 rfl ?_
  refine v_iload 7 4 C dX3_part_7 rfl ?_
  refine v_iload 9 5 C dX3_part_9 rfl ?_
  refine v_callv 11 hA (rV_Pt 11 C L_RX3_69 lk_263 lk_264 (m_hang (vg.t hg)) (vp.o (vg.t hg)) rfl ⟨rfl, rfl⟩ (rm_ok rfl) dX3_part_11) (fun w2 h3 => ?_)
  obtain rfl := h3
  refine v_aload_n 14 0 C dX3_part_14 rfl ?_
  refine g_Pg_trial 15 C (vg.o hg).1 (vg.o hg).2 lk_212 dX3_part_15 ?_
  refine v_iload 18 6 C dX3_part_18 rfl ?_
  refine v_iload 20 7 C dX3_part_20 rfl ?_
  refine v_callv 22 hA (rV_Pt 22 C L_RX3_73 lk_267 lk_268 (m_cut (k := kd) (a := a) (b := b_) (vg.t hg) (by unfold hangT; simp [gI_pI]) (by unfold hangT; simp [gI_pI]) (by unfold hangT; simp [gI_pI]) rk) (vp.o (vg.t hg)) rfl ⟨rfl, rfl⟩ (rm_ok rfl) dX3_part_22) (fun w5 h6 => ?_)
  obtain rfl := h6
  refine v_aload_n 25 0 C dX3_part_25 rfl ?_
  refine g_Pg_trial 26 C (vg.o hg).1 (vg.o hg).2 lk_212 dX3_part_26 ?_
  refine v_iload 29 8 C dX3_part_29 rfl ?_
  refine s_Pt_leftward 31 C (vp.o (vg.t hg)).1 (vp.o (vg.t hg)).2 (zn01 hf) (zf01 hf) lk_142 dX3_part_31 ?_
  obtain ⟨S3, hS3⟩ : ∃ S3, S3 = pI (cutT (hangT S 4 kd (u : Int) a (q : Int) b_) 4 (if kd = 1 then b_ else c_) (if kd = 1 then a else d_)) 4 10 (iZ f) := ⟨_, rfl⟩
  rw [← hS3]
  have T3 : TJ S3 kd (u : Int) a (q : Int) b_ (if kd = 1 then b_ else c_) (if kd = 1 then a else d_) f := by rw [hS3]; exact TJ_mk
  have u3 : sameOn usedC S S3 := by rw [hS3]; exact ((same_hang (by unfold usedC; omega)).tr (same_cut (by unfold usedC; omega) (by unfold usedC; omega))).tr (same_pI (by unfold usedC; omega))
  have m3 : sameOn atM S S3 := by rw [hS3]; exact ((same_hang (by unfold atM; omega)).tr (same_cut (by unfold atM; omega) (by unfold atM; omega))).tr (same_pI (by unfold atM; omega))
  have C3 := hC.keep2 u3
  have rcF : r32 (if kd = 1 then b_ else c_) := by split <;> assumption
  have rdF : r32 (if kd = 1 then a else d_) := by split <;> assumption
  refine v_aload_n 34 0 C dX3_part_34 rfl ?_
  refine v_calli 35 hA (rV_Pg 35 C L_RX3_81 lk_272 lk_6 (m_judge_6 hg hN hI C3.1 hu hq he rk ra rb rcF rdF hk (gd_c.mpr h4) (fun z => h6 (rm_c.mp z)) T3) (vg.o hg) rfl ⟨rfl, rfl⟩ (rm_ok rfl) dX3_part_35) (fun r7 w8 h9 => ?_)
  obtain ⟨e_r7, rfl⟩ := h9
  refine v_eqi (iZ (-6)) (e_r7) ?_
  refine v_istore 38 [(9, .int (iZ (-6))), (0, .ref (ad 0)), (1, .int (iZ kd)), (2, .int (iZ (u : Int))), (3, .int (iZ a)), (4, .int (iZ (q : Int))), (5, .int (iZ b_)), (6, .int (iZ c_)), (7, .int (iZ d_)), (8, .int (iZ f))] C dX3_part_38 (by decide) rfl ?_
  refine v_iload 40 0 C dX3_part_40 rfl ?_
  refine z_if_ne 42 56 C (by first | assumption | exact ⟨by omega, by omega⟩) dX3_part_42 (by decide) (fun c42_0 => ?_) (fun c42_0 => absurd c42_0 (by decide))
  refine v_iload 56 0 C dX3_part_56 rfl ?_
  refine z_if_eq 58 68 C (by first | assumption | exact ⟨by omega, by omega⟩) dX3_part_58 (by decide) (fun c58_1 => absurd c58_1 (by decide)) (fun c58_1 => ?_)
  refine v_aload_n 61 1 C dX3_part_61 rfl ?_
  refine v_iload 62 0 C dX3_part_62 rfl ?_
  refine v_calli 64 hA (rV_Pg 64 C L_RX3_62 lk_252 lk_5 (m_refuse hg hN hI C3.1 6 (by decide) (by decide)) (vg.o hg) rfl ⟨rfl, rfl⟩ (rm_ok rfl) dX3_part_64) (fun r10 w11 h12 => ?_)
  obtain ⟨e_r10, rfl⟩ := h12
  refine v_eqi (iZ (-6)) (e_r10) ?_
  exact v_iret 67 C (⟨rfl, N, ad, refS S3 b 6, t, rfl, hN, fun _ _ => rfl, refRC C3, refLE hE, refInv hI, m3.tr refM⟩) dX3_part_67

set_option maxHeartbeats 4000000 in
set_option maxRecDepth 100000 in
theorem c_part_3 {l : Launch} {D : va_G} {kc : Nat → ClassId} {N : Nat} {ad : Nat → Nat} {S : St} {b : Bs} {t : Ts} (hg : vg N) (hN : N = 66 + 15 * bn b) (hI : Inv b) (hC : RC S b t) (hE : LE b t) {u q : Nat} (hu : thL b u) (hq : thL b q) (he : ¬ u = q) {kd a b_ c_ d_ f : Int} (rk : r32 kd) (ra : r32 a) (rb : r32 b_) (rc : r32 c_) (rd : r32 d_) (hf : b01 f) (hk : 0 ≤ kd ∧ kd ≤ 2) (h4 : gdP kd a b_ c_ d_) (h6 : rmP b kd u a q b_ c_ d_) (h2 : kd = 2) (h3 : ¬ (PS t 16 u = 0 ∧ PS t 16 q = 0)) : MetK l yX3_part cX3_part 10 (some FieldType.int) 8 15 184 195 D kc (wl kc N ad S) [.ref (ad 0), .int (iZ kd), .int (iZ (u : Int)), .int (iZ a), .int (iZ (q : Int)), .int (iZ b_), .int (iZ c_), .int (iZ d_), .int (iZ f)] (QI D kc (wl kc N ad S) (gQ kc ad S (-3) (refB b 3))) := by
  refine MetK.of (by decide +kernel) (Nat.le_of_ble_eq_true rfl) ?_
  intro p e s m below meth c C
  have hA : ∀ q, s.heap.size ≤ q → va_A (wl kc N ad S) s.heap.size q := fun _ h => Or.inr h
  show V p l e { frames := 8, cells := 15, slots := 184, locals := 195 } s m ([.ref (ad 0), .int (iZ kd), .int (iZ (u : Int)), .int (iZ a), .int (iZ (q : Int)), .int (iZ b_), .int (iZ c_), .int (iZ d_), .int (iZ f)] : List Value).toArray below meth c (MQ below (QI D kc (wl kc N ad S) (gQ kc ad S (-3) (refB b 3)) s.heap.size) ([.ref (ad 0), .int (iZ kd), .int (iZ (u : Int)), .int (iZ a), .int (iZ (q : Int)), .int (iZ b_), .int (iZ c_), .int (iZ d_), .int (iZ f)] : List Value).toArray s 15 184 (va_A (wl kc N ad S) s.heap.size)) D (va_A (wl kc N ad S) s.heap.size) 10 0 0 (wl kc N ad S) 0 [(0, .ref (ad 0)), (1, .int (iZ kd)), (2, .int (iZ (u : Int))), (3, .int (iZ a)), (4, .int (iZ (q : Int))), (5, .int (iZ b_)), (6, .int (iZ c_)), (7, .int (iZ d_)), (8, .int (iZ f))] []
  have hP := hC.1
  have hW := hC.2.1
  have hEn := hC.2.2.1
  have hR := hC.2.2.2
  have hb0 := hI.1
  have hszu := szL_b hI hu
  have hszq := szL_b hI hq
  have h6' := h6
  unfold rmP at h6'
  rw [Int.toNat_natCast, Int.toNat_natCast] at h6'
  have hn30 := hI.1
  refine v_wid (k := 15) (n := 184) (by decide) (by decide) ?_
  refine v_aload_n 0 0 C dX3_part_0 rfl ?_
  refine g_Pg_trial 1 C (vg.o hg).1 (vg.o hg).2 lk_212 dX3_part_1 ?_
  refine v_iload_n 4 1 C dX3_part_4 rfl ?_
  refine v_iload_n 5 2 C dX3_part_5 rfl ?_
  refine v_iload_n 6 3 C dX3_part_6 rfl ?_
  refine v_iload 7 4 C dX3_part_7 rfl ?_
  refine v_iload 9 5 C dX3_part_9 rfl ?_
  refine v_callv 11 hA (rV_Pt 11 C L_RX3_69 lk_263 lk_264 (m_hang (vg.t hg)) (vp.o (vg.t hg)) rfl ⟨rfl, rfl⟩ (rm_ok rfl) dX3_part_11) (fun w2 h3 => ?_)
  obtain rfl := h3
  refine v_aload_n 14 0 C dX3_part_14 rfl ?_
  refine g_Pg_trial 15 C (vg.o hg).1 (vg.o hg).2 lk_212 dX3_part_15 ?_
  refine v_iload 18 6 C dX3_part_18 rfl ?_
  refine v_iload 20 7 C dX3_part_20 rfl ?_
  refine v_callv 22 hA (rV_Pt 22 C L_RX3_73 lk_267 lk_268 (m_cut (k := kd) (a := a) (b := b_) (vg.t hg) (by unfold hangT; simp [gI_pI]) (by unfold hangT; simp [gI_pI]) (by unfold hangT; simp [gI_pI]) rk) (vp.o (vg.t hg)) rfl ⟨rfl, rfl⟩ (rm_ok rfl) dX3_part_22) (fun w5 h6 => ?_)
  obtain rfl := h6
  refine v_aload_n 25 0 C dX3_part_25 rfl ?_
  refine g_Pg_trial 26 C (vg.o hg).1 (vg.o hg).2 lk_212 dX3_part_26 ?_
  refine v_iload 29 8 C dX3_part_29 rfl ?_
  refine s_Pt_leftward 31 C (vp.o (vg.t hg)).1 (vp.o (vg.t hg)).2 (zn01 hf) (zf01 hf) lk_142 dX3_part_31 ?_
  obtain ⟨S3, hS3⟩ : ∃ S3, S3 = pI (cutT (hangT S 4 kd (u : Int) a (q : Int) b_) 4 (if kd = 1 then b_ else c_) (if kd = 1 then a else d_)) 4 10 (iZ f) := ⟨_, rfl⟩
  rw [← hS3]
  have T3 : TJ S3 kd (u : Int) a (q : Int) b_ (if kd = 1 then b_ else c_) (if kd = 1 then a else d_) f := by rw [hS3]; exact TJ_mk
  have u3 : sameOn usedC S S3 := by rw [hS3]; exact ((same_hang (by unfold usedC; omega)).tr (same_cut (by unfold usedC; omega) (by unfold usedC; omega))).tr (same_pI (by unfold usedC; omega))
  have m3 : sameOn atM S S3 := by rw [hS3]; exact ((same_hang (by unfold atM; omega)).tr (same_cut (by unfold atM; omega) (by unfold atM; omega))).tr (same_pI (by unfold atM; omega))
  have C3 := hC.keep2 u3
  have rcF : r32 (if kd = 1 then b_ else c_) := by split <;> assumption
  have rdF : r32 (if kd = 1 then a else d_) := by split <;> assumption
  refine v_aload_n 34 0 C dX3_part_34 rfl ?_
  refine v_calli 35 hA (rV_Pg 35 C L_RX3_81 lk_272 lk_6 (m_judge_0 hg hN hI C3.1 hu hq he rk ra rb rcF rdF hk (gd_c.mpr h4) (rm_c.mpr h6) T3) (vg.o hg) rfl ⟨rfl, rfl⟩ (rm_ok rfl) dX3_part_35) (fun r7 w8 h9 => ?_)
  obtain ⟨e_r7, rfl⟩ := h9
  refine v_eqi (iZ 0) (e_r7) ?_
  refine v_istore 38 [(9, .int (iZ 0)), (0, .ref (ad 0)), (1, .int (iZ kd)), (2, .int (iZ (u : Int))), (3, .int (iZ a)), (4, .int (iZ (q : Int))), (5, .int (iZ b_)), (6, .int (iZ c_)), (7, .int (iZ d_)), (8, .int (iZ f))] C dX3_part_38 (by decide) rfl ?_
  refine v_iload 40 0 C dX3_part_40 rfl ?_
  refine z_if_ne 42 56 C (by first | assumption | exact ⟨by omega, by omega⟩) dX3_part_42 (by decide) (fun c42_0 => absurd c42_0 (fun z => z rfl)) (fun c42_0 => ?_)
  refine v_iload_n 45 2 C dX3_part_45 rfl ?_
  refine v_iconst 46 C (iZ 2) dX3_part_46 rfl ?_
  refine z_icmp_ne 47 56 C (by first | assumption | exact ⟨by omega, by omega⟩) (by first | assumption | exact ⟨by omega, by omega⟩) dX3_part_47 (by decide) (fun c47_1 => absurd c47_1 (fun z => z h2)) (fun c47_1 => ?_)
  have ecF : (if kd = 1 then b_ else c_) = c_ := if_neg (by omega)
  have edF : (if kd = 1 then a else d_) = d_ := if_neg (by omega)
  rw [ecF, edF] at T3
  refine v_aload_n 50 1 C dX3_part_50 rfl ?_
  refine v_calli 51 hA (rV_Pg 51 C L_RX3_84 lk_280 lk_7 (m_stretch_3 hg hN hI C3 hE hu hq ⟨by omega, by omega⟩ ⟨by omega, by omega⟩ ⟨by omega, by omega⟩ T3 h3) (vg.o hg) rfl ⟨rfl, rfl⟩ (rm_ok rfl) dX3_part_51) (fun ST w10 h11 => ?_)
  obtain ⟨e_ST, S4, rfl, u4, m4, T4⟩ := h11
  have C4 := C3.keep2 u4
  refine v_eqi (iZ (-3)) (e_ST) ?_
  refine v_istore 54 [(9, .int (iZ (-3))), (0, .ref (ad 0)), (1, .int (iZ kd)), (2, .int (iZ (u : Int))), (3, .int (iZ a)), (4, .int (iZ (q : Int))), (5, .int (iZ b_)), (6, .int (iZ c_)), (7, .int (iZ d_)), (8, .int (iZ f))] C dX3_part_54 (by decide) rfl ?_
  refine v_iload 56 0 C dX3_part_56 rfl ?_
  refine z_if_eq 58 68 C (by first | assumption | exact ⟨by omega, by omega⟩) dX3_part_58 (by decide) (fun c58_2 => absurd c58_2 (by decide)) (fun c58_2 => ?_)
  refine v_aload_n 61 1 C dX3_part_61 rfl ?_
  refine v_iload 62 0 C dX3_part_62 rfl ?_
  refine v_calli 64 hA (rV_Pg 64 C L_RX3_62 lk_252 lk_5 (m_refuse hg hN hI C4.1 3 (by decide) (by decide)) (vg.o hg) rfl ⟨rfl, rfl⟩ (rm_ok rfl) dX3_part_64) (fun r12 w13 h14 => ?_)
  obtain ⟨e_r12, rfl⟩ := h14
  refine v_eqi (iZ (-3)) (e_r12) ?_
  exact v_iret 67 C (⟨rfl, N, ad, refS S4 b 3, t, rfl, hN, fun _ _ => rfl, refRC C4, refLE hE, refInv hI, (m3.tr m4).tr refM⟩) dX3_part_67

set_option maxHeartbeats 4000000 in
set_option maxRecDepth 100000 in
theorem c_part_7 {l : Launch} {D : va_G} {kc : Nat → ClassId} {N : Nat} {ad : Nat → Nat} {S : St} {b : Bs} {t : Ts} (hg : vg N) (hN : N = 66 + 15 * bn b) (hI : Inv b) (hC : RC S b t) (hE : LE b t) {u q : Nat} (hu : thL b u) (hq : thL b q) (he : ¬ u = q) {kd a b_ c_ d_ f : Int} (rk : r32 kd) (ra : r32 a) (rb : r32 b_) (rc : r32 c_) (rd : r32 d_) (hf : b01 f) (hk : 0 ≤ kd ∧ kd ≤ 2) (h4 : gdP kd a b_ c_ d_) (h6 : rmP b kd u a q b_ c_ d_) (h2 : kd = 2) (h3 : PS t 16 u = 0 ∧ PS t 16 q = 0) (h7 : 1000 < stL b t u a q b_ c_) : MetK l yX3_part cX3_part 10 (some FieldType.int) 8 15 184 195 D kc (wl kc N ad S) [.ref (ad 0), .int (iZ kd), .int (iZ (u : Int)), .int (iZ a), .int (iZ (q : Int)), .int (iZ b_), .int (iZ c_), .int (iZ d_), .int (iZ f)] (QI D kc (wl kc N ad S) (gQ kc ad S (-6) (refB b 6))) := by
  refine MetK.of (by decide +kernel) (Nat.le_of_ble_eq_true rfl) ?_
  intro p e s m below meth c C
  have hA : ∀ q, s.heap.size ≤ q → va_A (wl kc N ad S) s.heap.size q := fun _ h => Or.inr h
  show V p l e { frames := 8, cells := 15, slots := 184, locals := 195 } s m ([.ref (ad 0), .int (iZ kd), .int (iZ (u : Int)), .int (iZ a), .int (iZ (q : Int)), .int (iZ b_), .int (iZ c_), .int (iZ d_), .int (iZ f)] : List Value).toArray below meth c (MQ below (QI D kc (wl kc N ad S) (gQ kc ad S (-6) (refB b 6)) s.heap.size) ([.ref (ad 0), .int (iZ kd), .int (iZ (u : Int)), .int (iZ a), .int (iZ (q : Int)), .int (iZ b_), .int (iZ c_), .int (iZ d_), .int (iZ f)] : List Value).toArray s 15 184 (va_A (wl kc N ad S) s.heap.size)) D (va_A (wl kc N ad S) s.heap.size) 10 0 0 (wl kc N ad S) 0 [(0, .ref (ad 0)), (1, .int (iZ kd)), (2, .int (iZ (u : Int))), (3, .int (iZ a)), (4, .int (iZ (q : Int))), (5, .int (iZ b_)), (6, .int (iZ c_)), (7, .int (iZ d_)), (8, .int (iZ f))] []
  have hP := hC.1
  have hW := hC.2.1
  have hEn := hC.2.2.1
  have hR := hC.2.2.2
  have hb0 := hI.1
  have hszu := szL_b hI hu
  have hszq := szL_b hI hq
  have h6' := h6
  unfold rmP at h6'
  rw [Int.toNat_natCast, Int.toNat_natCast] at h6'
  have hn30 := hI.1
  refine v_wid (k := 15) (n := 184) (by decide) (by decide) ?_
  refine v_aload_n 0 0 C dX3_part_0 rfl ?_
  refine g_Pg_trial 1 C (vg.o hg).1 (vg.o hg).2 lk_212 dX3_part_1 ?_
  refine v_iload_n 4 1 C dX3_part_4 rfl ?_
  refine v_iload_n 5 2 C dX3_part_5 rfl ?_
  refine v_iload_n 6 3 C dX3_part_6 rfl ?_
  refine v_iload 7 4 C dX3_part_7 rfl ?_
  refine v_iload 9 5 C dX3_part_9 rfl ?_
  refine v_callv 11 hA (rV_Pt 11 C L_RX3_69 lk_263 lk_264 (m_hang (vg.t hg)) (vp.o (vg.t hg)) rfl ⟨rfl, rfl⟩ (rm_ok rfl) dX3_part_11) (fun w2 h3 => ?_)
  obtain rfl := h3
  refine v_aload_n 14 0 C dX3_part_14 rfl ?_
  refine g_Pg_trial 15 C (vg.o hg).1 (vg.o hg).2 lk_212 dX3_part_15 ?_
  refine v_iload 18 6 C dX3_part_18 rfl ?_
  refine v_iload 20 7 C dX3_part_20 rfl ?_
  refine v_callv 22 hA (rV_Pt 22 C L_RX3_73 lk_267 lk_268 (m_cut (k := kd) (a := a) (b := b_) (vg.t hg) (by unfold hangT; simp [gI_pI]) (by unfold hangT; simp [gI_pI]) (by unfold hangT; simp [gI_pI]) rk) (vp.o (vg.t hg)) rfl ⟨rfl, rfl⟩ (rm_ok rfl) dX3_part_22) (fun w5 h6 => ?_)
  obtain rfl := h6
  refine v_aload_n 25 0 C dX3_part_25 rfl ?_
  refine g_Pg_trial 26 C (vg.o hg).1 (vg.o hg).2 lk_212 dX3_part_26 ?_
  refine v_iload 29 8 C dX3_part_29 rfl ?_
  refine s_Pt_leftward 31 C (vp.o (vg.t hg)).1 (vp.o (vg.t hg)).2 (zn01 hf) (zf01 hf) lk_142 dX3_part_31 ?_
  obtain ⟨S3, hS3⟩ : ∃ S3, S3 = pI (cutT (hangT S 4 kd (u : Int) a (q : Int) b_) 4 (if kd = 1 then b_ else c_) (if kd = 1 then a else d_)) 4 10 (iZ f) := ⟨_, rfl⟩
  rw [← hS3]
  have T3 : TJ S3 kd (u : Int) a (q : Int) b_ (if kd = 1 then b_ else c_) (if kd = 1 then a else d_) f := by rw [hS3]; exact TJ_mk
  have u3 : sameOn usedC S S3 := by rw [hS3]; exact ((same_hang (by unfold usedC; omega)).tr (same_cut (by unfold usedC; omega) (by unfold usedC; omega))).tr (same_pI (by unfold usedC; omega))
  have m3 : sameOn atM S S3 := by rw [hS3]; exact ((same_hang (by unfold atM; omega)).tr (same_cut (by unfold atM; omega) (by unfold atM; omega))).tr (same_pI (by unfold atM; omega))
  have C3 := hC.keep2 u3
  have rcF : r32 (if kd = 1 then b_ else c_) := by split <;> assumption
  have rdF : r32 (if kd = 1 then a else d_) := by split <;> assumption
  refine v_aload_n 34 0 C dX3_part_34 rfl ?_
  refine v_calli 35 hA (rV_Pg 35 C L_RX3_81 lk_272 lk_6 (m_judge_0 hg hN hI C3.1 hu hq he rk ra rb rcF rdF hk (gd_c.mpr h4) (rm_c.mpr h6) T3) (vg.o hg) rfl ⟨rfl, rfl⟩ (rm_ok rfl) dX3_part_35) (fun r7 w8 h9 => ?_)
  obtain ⟨e_r7, rfl⟩ := h9
  refine v_eqi (iZ 0) (e_r7) ?_
  refine v_istore 38 [(9, .int (iZ 0)), (0, .ref (ad 0)), (1, .int (iZ kd)), (2, .int (iZ (u : Int))), (3, .int (iZ a)), (4, .int (iZ (q : Int))), (5, .int (iZ b_)), (6, .int (iZ c_)), (7, .int (iZ d_)), (8, .int (iZ f))] C dX3_part_38 (by decide) rfl ?_
  refine v_iload 40 0 C dX3_part_40 rfl ?_
  refine z_if_ne 42 56 C (by first | assumption | exact ⟨by omega, by omega⟩) dX3_part_42 (by decide) (fun c42_0 => absurd c42_0 (fun z => z rfl)) (fun c42_0 => ?_)
  refine v_iload_n 45 2 C dX3_part_45 rfl ?_
  refine v_iconst 46 C (iZ 2) dX3_part_46 rfl ?_
  refine z_icmp_ne 47 56 C (by first | assumption | exact ⟨by omega, by omega⟩) (by first | assumption | exact ⟨by omega, by omega⟩) dX3_part_47 (by decide) (fun c47_1 => absurd c47_1 (fun z => z h2)) (fun c47_1 => ?_)
  have ecF : (if kd = 1 then b_ else c_) = c_ := if_neg (by omega)
  have edF : (if kd = 1 then a else d_) = d_ := if_neg (by omega)
  rw [ecF, edF] at T3
  refine v_aload_n 50 1 C dX3_part_50 rfl ?_
  refine v_calli 51 hA (rV_Pg 51 C L_RX3_84 lk_280 lk_7 (m_stretch_7 hg hN hI C3 hE hu hq ⟨by omega, by omega⟩ ⟨by omega, by omega⟩ ⟨by omega, by omega⟩ T3 h3 h7) (vg.o hg) rfl ⟨rfl, rfl⟩ (rm_ok rfl) dX3_part_51) (fun ST w10 h11 => ?_)
  obtain ⟨e_ST, S4, rfl, u4, m4, T4⟩ := h11
  have C4 := C3.keep2 u4
  refine v_eqi (iZ (-6)) (e_ST) ?_
  refine v_istore 54 [(9, .int (iZ (-6))), (0, .ref (ad 0)), (1, .int (iZ kd)), (2, .int (iZ (u : Int))), (3, .int (iZ a)), (4, .int (iZ (q : Int))), (5, .int (iZ b_)), (6, .int (iZ c_)), (7, .int (iZ d_)), (8, .int (iZ f))] C dX3_part_54 (by decide) rfl ?_
  refine v_iload 56 0 C dX3_part_56 rfl ?_
  refine z_if_eq 58 68 C (by first | assumption | exact ⟨by omega, by omega⟩) dX3_part_58 (by decide) (fun c58_2 => absurd c58_2 (by decide)) (fun c58_2 => ?_)
  refine v_aload_n 61 1 C dX3_part_61 rfl ?_
  refine v_iload 62 0 C dX3_part_62 rfl ?_
  refine v_calli 64 hA (rV_Pg 64 C L_RX3_62 lk_252 lk_5 (m_refuse hg hN hI C4.1 6 (by decide) (by decide)) (vg.o hg) rfl ⟨rfl, rfl⟩ (rm_ok rfl) dX3_part_64) (fun r12 w13 h14 => ?_)
  obtain ⟨e_r12, rfl⟩ := h14
  refine v_eqi (iZ (-6)) (e_r12) ?_
  exact v_iret 67 C (⟨rfl, N, ad, refS S4 b 6, t, rfl, hN, fun _ _ => rfl, refRC C4, refLE hE, refInv hI, (m3.tr m4).tr refM⟩) dX3_part_67

set_option maxHeartbeats 4000000 in
set_option maxRecDepth 100000 in
theorem c_part_o0 {l : Launch} {D : va_G} {kc : Nat → ClassId} {N : Nat} {ad : Nat → Nat} {S : St} {b : Bs} {t : Ts} (hg : vg N) (hN : N = 66 + 15 * bn b) (hI : Inv b) (hC : RC S b t) (hE : LE b t) {u q : Nat} (hu : thL b u) (hq : thL b q) (he : ¬ u = q) {kd a b_ c_ d_ f : Int} (rk : r32 kd) (ra : r32 a) (rb : r32 b_) (rc : r32 c_) (rd : r32 d_) (hf : b01 f) (hk : 0 ≤ kd ∧ kd ≤ 2) (h4 : gdP kd a b_ c_ d_) (h6 : rmP b kd u a q b_ c_ d_) (h2 : kd = 0) : MetK l yX3_part cX3_part 10 (some FieldType.int) 8 15 184 195 D kc (wl kc N ad S) [.ref (ad 0), .int (iZ kd), .int (iZ (u : Int)), .int (iZ a), .int (iZ (q : Int)), .int (iZ b_), .int (iZ c_), .int (iZ d_), .int (iZ f)] (QI D kc (wl kc N ad S) (gQ kc ad S ((bn b : Int)) (ptB b kd u a q b_ c_ d_ f))) := by
  refine MetK.of (by decide +kernel) (Nat.le_of_ble_eq_true rfl) ?_
  intro p e s m below meth c C
  have hA : ∀ q, s.heap.size ≤ q → va_A (wl kc N ad S) s.heap.size q := fun _ h => Or.inr h
  show V p l e { frames := 8, cells := 15, slots := 184, locals := 195 } s m ([.ref (ad 0), .int (iZ kd), .int (iZ (u : Int)), .int (iZ a), .int (iZ (q : Int)), .int (iZ b_), .int (iZ c_), .int (iZ d_), .int (iZ f)] : List Value).toArray below meth c (MQ below (QI D kc (wl kc N ad S) (gQ kc ad S ((bn b : Int)) (ptB b kd u a q b_ c_ d_ f)) s.heap.size) ([.ref (ad 0), .int (iZ kd), .int (iZ (u : Int)), .int (iZ a), .int (iZ (q : Int)), .int (iZ b_), .int (iZ c_), .int (iZ d_), .int (iZ f)] : List Value).toArray s 15 184 (va_A (wl kc N ad S) s.heap.size)) D (va_A (wl kc N ad S) s.heap.size) 10 0 0 (wl kc N ad S) 0 [(0, .ref (ad 0)), (1, .int (iZ kd)), (2, .int (iZ (u : Int))), (3, .int (iZ a)), (4, .int (iZ (q : Int))), (5, .int (iZ b_)), (6, .int (iZ c_)), (7, .int (iZ d_)), (8, .int (iZ f))] []
  have hP := hC.1
  have hW := hC.2.1
  have hEn := hC.2.2.1
  have hR := hC.2.2.2
  have hb0 := hI.1
  have hszu := szL_b hI hu
  have hszq := szL_b hI hq
  have h6' := h6
  unfold rmP at h6'
  rw [Int.toNat_natCast, Int.toNat_natCast] at h6'
  have hn30 := hI.1
  refine v_aload_n 0 0 C dX3_part_0 rfl ?_
  refine g_Pg_trial 1 C (vg.o hg).1 (vg.o hg).2 lk_212 dX3_part_1 ?_
  refine v_iload_n 4 1 C dX3_part_4 rfl ?_
  refine v_iload_n 5 2 C dX3_part_5 rfl ?_
  refine v_iload_n 6 3 C dX3_part_6 rfl ?_
  refine v_iload 7 4 C dX3_part_7 rfl ?_
  refine v_iload 9 5 C dX3_part_9 rfl ?_
  refine v_callv 11 hA (rV_Pt 11 C L_RX3_69 lk_263 lk_264 (m_hang (vg.t hg)) (vp.o (vg.t hg)) rfl ⟨rfl, rfl⟩ (rm_ok rfl) dX3_part_11) (fun w2 h3 => ?_)
  obtain rfl := h3
  refine v_aload_n 14 0 C dX3_part_14 rfl ?_
  refine g_Pg_trial 15 C (vg.o hg).1 (vg.o hg).2 lk_212 dX3_part_15 ?_
  refine v_iload 18 6 C dX3_part_18 rfl ?_
  refine v_iload 20 7 C dX3_part_20 rfl ?_
  refine v_callv 22 hA (rV_Pt 22 C L_RX3_73 lk_267 lk_268 (m_cut (k := kd) (a := a) (b := b_) (vg.t hg) (by unfold hangT; simp [gI_pI]) (by unfold hangT; simp [gI_pI]) (by unfold hangT; simp [gI_pI]) rk) (vp.o (vg.t hg)) rfl ⟨rfl, rfl⟩ (rm_ok rfl) dX3_part_22) (fun w5 h6 => ?_)
  obtain rfl := h6
  refine v_aload_n 25 0 C dX3_part_25 rfl ?_
  refine g_Pg_trial 26 C (vg.o hg).1 (vg.o hg).2 lk_212 dX3_part_26 ?_
  refine v_iload 29 8 C dX3_part_29 rfl ?_
  refine s_Pt_leftward 31 C (vp.o (vg.t hg)).1 (vp.o (vg.t hg)).2 (zn01 hf) (zf01 hf) lk_142 dX3_part_31 ?_
  obtain ⟨S3, hS3⟩ : ∃ S3, S3 = pI (cutT (hangT S 4 kd (u : Int) a (q : Int) b_) 4 (if kd = 1 then b_ else c_) (if kd = 1 then a else d_)) 4 10 (iZ f) := ⟨_, rfl⟩
  rw [← hS3]
  have T3 : TJ S3 kd (u : Int) a (q : Int) b_ (if kd = 1 then b_ else c_) (if kd = 1 then a else d_) f := by rw [hS3]; exact TJ_mk
  have u3 : sameOn usedC S S3 := by rw [hS3]; exact ((same_hang (by unfold usedC; omega)).tr (same_cut (by unfold usedC; omega) (by unfold usedC; omega))).tr (same_pI (by unfold usedC; omega))
  have m3 : sameOn atM S S3 := by rw [hS3]; exact ((same_hang (by unfold atM; omega)).tr (same_cut (by unfold atM; omega) (by unfold atM; omega))).tr (same_pI (by unfold atM; omega))
  have C3 := hC.keep2 u3
  have rcF : r32 (if kd = 1 then b_ else c_) := by split <;> assumption
  have rdF : r32 (if kd = 1 then a else d_) := by split <;> assumption
  refine v_aload_n 34 0 C dX3_part_34 rfl ?_
  refine v_calli 35 hA (rV_Pg 35 C L_RX3_81 lk_272 lk_6 (m_judge_0 hg hN hI C3.1 hu hq he rk ra rb rcF rdF hk (gd_c.mpr h4) (rm_c.mpr h6) T3) (vg.o hg) rfl ⟨rfl, rfl⟩ (rm_ok rfl) dX3_part_35) (fun r7 w8 h9 => ?_)
  obtain ⟨e_r7, rfl⟩ := h9
  refine v_eqi (iZ 0) (e_r7) ?_
  refine v_istore 38 [(9, .int (iZ 0)), (0, .ref (ad 0)), (1, .int (iZ kd)), (2, .int (iZ (u : Int))), (3, .int (iZ a)), (4, .int (iZ (q : Int))), (5, .int (iZ b_)), (6, .int (iZ c_)), (7, .int (iZ d_)), (8, .int (iZ f))] C dX3_part_38 (by decide) rfl ?_
  refine v_iload 40 0 C dX3_part_40 rfl ?_
  refine z_if_ne 42 56 C (by first | assumption | exact ⟨by omega, by omega⟩) dX3_part_42 (by decide) (fun c42_0 => absurd c42_0 (fun z => z rfl)) (fun c42_0 => ?_)
  refine v_iload_n 45 2 C dX3_part_45 rfl ?_
  refine v_iconst 46 C (iZ 2) dX3_part_46 rfl ?_
  refine z_icmp_ne 47 56 C (by first | assumption | exact ⟨by omega, by omega⟩) (by first | assumption | exact ⟨by omega, by omega⟩) dX3_part_47 (by decide) (fun c47_1 => ?_) (fun c47_1 => absurd c47_1 (by omega))
  have ecF : (if kd = 1 then b_ else c_) = c_ := if_neg (by omega)
  have edF : (if kd = 1 then a else d_) = d_ := if_neg (by omega)
  rw [ecF, edF] at T3
  refine v_iload 56 0 C dX3_part_56 rfl ?_
  refine z_if_eq 58 68 C (by first | assumption | exact ⟨by omega, by omega⟩) dX3_part_58 (by decide) (fun c58_2 => ?_) (fun c58_2 => absurd (rfl) c58_2)
  refine v_aload_n 68 1 C dX3_part_68 rfl ?_
  refine v_calli 69 hA (rV_Pg 69 C L_RX3_87 lk_300 lk_9 (m_addTrial hg hN hI C3 hE hu hq (by omega) hk ⟨by omega, by omega⟩ ⟨by omega, by omega⟩ ⟨by omega, by omega⟩ ⟨by omega, by omega⟩ hf (fun z => by omega) T3) (vg.o hg) rfl ⟨rfl, rfl⟩ (rm_ok rfl) dX3_part_69) (fun AD w10 h11 => ?_)
  obtain ⟨e_AD, ad2, S9, t9, rfl, hlo, g1, g2, g3, g4⟩ := h11
  refine v_eqi (iZ (bn b : Int)) (e_AD) ?_
  exact v_iret 72 C (⟨rfl, N + 15, ad2, S9, t9, rfl, by rw [ptB_bn hI]; omega, fun i h => hlo i (by omega), g1, g2, g3, m3.tr g4⟩) dX3_part_72

set_option maxHeartbeats 4000000 in
set_option maxRecDepth 100000 in
theorem c_part_o1 {l : Launch} {D : va_G} {kc : Nat → ClassId} {N : Nat} {ad : Nat → Nat} {S : St} {b : Bs} {t : Ts} (hg : vg N) (hN : N = 66 + 15 * bn b) (hI : Inv b) (hC : RC S b t) (hE : LE b t) {u q : Nat} (hu : thL b u) (hq : thL b q) (he : ¬ u = q) {kd a b_ c_ d_ f : Int} (rk : r32 kd) (ra : r32 a) (rb : r32 b_) (rc : r32 c_) (rd : r32 d_) (hf : b01 f) (hk : 0 ≤ kd ∧ kd ≤ 2) (h4 : gdP kd a b_ c_ d_) (h6 : rmP b kd u a q b_ c_ d_) (h2 : kd = 1) : MetK l yX3_part cX3_part 10 (some FieldType.int) 8 15 184 195 D kc (wl kc N ad S) [.ref (ad 0), .int (iZ kd), .int (iZ (u : Int)), .int (iZ a), .int (iZ (q : Int)), .int (iZ b_), .int (iZ c_), .int (iZ d_), .int (iZ f)] (QI D kc (wl kc N ad S) (gQ kc ad S ((bn b : Int)) (ptB b kd u a q b_ b_ a f))) := by
  refine MetK.of (by decide +kernel) (Nat.le_of_ble_eq_true rfl) ?_
  intro p e s m below meth c C
  have hA : ∀ q, s.heap.size ≤ q → va_A (wl kc N ad S) s.heap.size q := fun _ h => Or.inr h
  show V p l e { frames := 8, cells := 15, slots := 184, locals := 195 } s m ([.ref (ad 0), .int (iZ kd), .int (iZ (u : Int)), .int (iZ a), .int (iZ (q : Int)), .int (iZ b_), .int (iZ c_), .int (iZ d_), .int (iZ f)] : List Value).toArray below meth c (MQ below (QI D kc (wl kc N ad S) (gQ kc ad S ((bn b : Int)) (ptB b kd u a q b_ b_ a f)) s.heap.size) ([.ref (ad 0), .int (iZ kd), .int (iZ (u : Int)), .int (iZ a), .int (iZ (q : Int)), .int (iZ b_), .int (iZ c_), .int (iZ d_), .int (iZ f)] : List Value).toArray s 15 184 (va_A (wl kc N ad S) s.heap.size)) D (va_A (wl kc N ad S) s.heap.size) 10 0 0 (wl kc N ad S) 0 [(0, .ref (ad 0)), (1, .int (iZ kd)), (2, .int (iZ (u : Int))), (3, .int (iZ a)), (4, .int (iZ (q : Int))), (5, .int (iZ b_)), (6, .int (iZ c_)), (7, .int (iZ d_)), (8, .int (iZ f))] []
  have hP := hC.1
  have hW := hC.2.1
  have hEn := hC.2.2.1
  have hR := hC.2.2.2
  have hb0 := hI.1
  have hszu := szL_b hI hu
  have hszq := szL_b hI hq
  have h6' := h6
  unfold rmP at h6'
  rw [Int.toNat_natCast, Int.toNat_natCast] at h6'
  have hn30 := hI.1
  refine v_aload_n 0 0 C dX3_part_0 rfl ?_
  refine g_Pg_trial 1 C (vg.o hg).1 (vg.o hg).2 lk_212 dX3_part_1 ?_
  refine v_iload_n 4 1 C dX3_part_4 rfl ?_
  refine v_iload_n 5 2 C dX3_part_5 rfl ?_
  refine v_iload_n 6 3 C dX3_part_6 rfl ?_
  refine v_iload 7 4 C dX3_part_7 rfl ?_
  refine v_iload 9 5 C dX3_part_9 rfl ?_
  refine v_callv 11 hA (rV_Pt 11 C L_RX3_69 lk_263 lk_264 (m_hang (vg.t hg)) (vp.o (vg.t hg)) rfl ⟨rfl, rfl⟩ (rm_ok rfl) dX3_part_11) (fun w2 h3 => ?_)
  obtain rfl := h3
  refine v_aload_n 14 0 C dX3_part_14 rfl ?_
  refine g_Pg_trial 15 C (vg.o hg).1 (vg.o hg).2 lk_212 dX3_part_15 ?_
  refine v_iload 18 6 C dX3_part_18 rfl ?_
  refine v_iload 20 7 C dX3_part_20 rfl ?_
  refine v_callv 22 hA (rV_Pt 22 C L_RX3_73 lk_267 lk_268 (m_cut (k := kd) (a := a) (b := b_) (vg.t hg) (by unfold hangT; simp [gI_pI]) (by unfold hangT; simp [gI_pI]) (by unfold hangT; simp [gI_pI]) rk) (vp.o (vg.t hg)) rfl ⟨rfl, rfl⟩ (rm_ok rfl) dX3_part_22) (fun w5 h6 => ?_)
  obtain rfl := h6
  refine v_aload_n 25 0 C dX3_part_25 rfl ?_
  refine g_Pg_trial 26 C (vg.o hg).1 (vg.o hg).2 lk_212 dX3_part_26 ?_
  refine v_iload 29 8 C dX3_part_29 rfl ?_
  refine s_Pt_leftward 31 C (vp.o (vg.t hg)).1 (vp.o (vg.t hg)).2 (zn01 hf) (zf01 hf) lk_142 dX3_part_31 ?_
  obtain ⟨S3, hS3⟩ : ∃ S3, S3 = pI (cutT (hangT S 4 kd (u : Int) a (q : Int) b_) 4 (if kd = 1 then b_ else c_) (if kd = 1 then a else d_)) 4 10 (iZ f) := ⟨_, rfl⟩
  rw [← hS3]
  have T3 : TJ S3 kd (u : Int) a (q : Int) b_ (if kd = 1 then b_ else c_) (if kd = 1 then a else d_) f := by rw [hS3]; exact TJ_mk
  have u3 : sameOn usedC S S3 := by rw [hS3]; exact ((same_hang (by unfold usedC; omega)).tr (same_cut (by unfold usedC; omega) (by unfold usedC; omega))).tr (same_pI (by unfold usedC; omega))
  have m3 : sameOn atM S S3 := by rw [hS3]; exact ((same_hang (by unfold atM; omega)).tr (same_cut (by unfold atM; omega) (by unfold atM; omega))).tr (same_pI (by unfold atM; omega))
  have C3 := hC.keep2 u3
  have rcF : r32 (if kd = 1 then b_ else c_) := by split <;> assumption
  have rdF : r32 (if kd = 1 then a else d_) := by split <;> assumption
  refine v_aload_n 34 0 C dX3_part_34 rfl ?_
  refine v_calli 35 hA (rV_Pg 35 C L_RX3_81 lk_272 lk_6 (m_judge_0 hg hN hI C3.1 hu hq he rk ra rb rcF rdF hk (gd_c.mpr h4) (rm_c.mpr h6) T3) (vg.o hg) rfl ⟨rfl, rfl⟩ (rm_ok rfl) dX3_part_35) (fun r7 w8 h9 => ?_)
  obtain ⟨e_r7, rfl⟩ := h9
  refine v_eqi (iZ 0) (e_r7) ?_
  refine v_istore 38 [(9, .int (iZ 0)), (0, .ref (ad 0)), (1, .int (iZ kd)), (2, .int (iZ (u : Int))), (3, .int (iZ a)), (4, .int (iZ (q : Int))), (5, .int (iZ b_)), (6, .int (iZ c_)), (7, .int (iZ d_)), (8, .int (iZ f))] C dX3_part_38 (by decide) rfl ?_
  refine v_iload 40 0 C dX3_part_40 rfl ?_
  refine z_if_ne 42 56 C (by first | assumption | exact ⟨by omega, by omega⟩) dX3_part_42 (by decide) (fun c42_0 => absurd c42_0 (fun z => z rfl)) (fun c42_0 => ?_)
  refine v_iload_n 45 2 C dX3_part_45 rfl ?_
  refine v_iconst 46 C (iZ 2) dX3_part_46 rfl ?_
  refine z_icmp_ne 47 56 C (by first | assumption | exact ⟨by omega, by omega⟩) (by first | assumption | exact ⟨by omega, by omega⟩) dX3_part_47 (by decide) (fun c47_1 => ?_) (fun c47_1 => absurd c47_1 (by omega))
  have ecF : (if kd = 1 then b_ else c_) = b_ := if_pos h2
  have edF : (if kd = 1 then a else d_) = a := if_pos h2
  rw [ecF, edF] at T3
  refine v_iload 56 0 C dX3_part_56 rfl ?_
  refine z_if_eq 58 68 C (by first | assumption | exact ⟨by omega, by omega⟩) dX3_part_58 (by decide) (fun c58_2 => ?_) (fun c58_2 => absurd (rfl) c58_2)
  refine v_aload_n 68 1 C dX3_part_68 rfl ?_
  refine v_calli 69 hA (rV_Pg 69 C L_RX3_87 lk_300 lk_9 (m_addTrial hg hN hI C3 hE hu hq (by omega) hk ⟨by omega, by omega⟩ ⟨by omega, by omega⟩ ⟨by omega, by omega⟩ ⟨by omega, by omega⟩ hf (fun z => by omega) T3) (vg.o hg) rfl ⟨rfl, rfl⟩ (rm_ok rfl) dX3_part_69) (fun AD w10 h11 => ?_)
  obtain ⟨e_AD, ad2, S9, t9, rfl, hlo, g1, g2, g3, g4⟩ := h11
  refine v_eqi (iZ (bn b : Int)) (e_AD) ?_
  exact v_iret 72 C (⟨rfl, N + 15, ad2, S9, t9, rfl, by rw [ptB_bn hI]; omega, fun i h => hlo i (by omega), g1, g2, g3, m3.tr g4⟩) dX3_part_72

set_option maxHeartbeats 4000000 in
set_option maxRecDepth 100000 in
theorem c_part_o2 {l : Launch} {D : va_G} {kc : Nat → ClassId} {N : Nat} {ad : Nat → Nat} {S : St} {b : Bs} {t : Ts} (hg : vg N) (hN : N = 66 + 15 * bn b) (hI : Inv b) (hC : RC S b t) (hE : LE b t) {u q : Nat} (hu : thL b u) (hq : thL b q) (he : ¬ u = q) {kd a b_ c_ d_ f : Int} (rk : r32 kd) (ra : r32 a) (rb : r32 b_) (rc : r32 c_) (rd : r32 d_) (hf : b01 f) (hk : 0 ≤ kd ∧ kd ≤ 2) (h4 : gdP kd a b_ c_ d_) (h6 : rmP b kd u a q b_ c_ d_) (h2 : kd = 2) (h3 : PS t 16 u = 0 ∧ PS t 16 q = 0) (h7 : stL b t u a q b_ c_ ≤ 1000) : MetK l yX3_part cX3_part 10 (some FieldType.int) 8 15 184 195 D kc (wl kc N ad S) [.ref (ad 0), .int (iZ kd), .int (iZ (u : Int)), .int (iZ a), .int (iZ (q : Int)), .int (iZ b_), .int (iZ c_), .int (iZ d_), .int (iZ f)] (QI D kc (wl kc N ad S) (gQ kc ad S ((bn b : Int)) (ptB b kd u a q b_ c_ (stL b t u a q b_ c_) f))) := by
  refine MetK.of (by decide +kernel) (Nat.le_of_ble_eq_true rfl) ?_
  intro p e s m below meth c C
  have hA : ∀ q, s.heap.size ≤ q → va_A (wl kc N ad S) s.heap.size q := fun _ h => Or.inr h
  show V p l e { frames := 8, cells := 15, slots := 184, locals := 195 } s m ([.ref (ad 0), .int (iZ kd), .int (iZ (u : Int)), .int (iZ a), .int (iZ (q : Int)), .int (iZ b_), .int (iZ c_), .int (iZ d_), .int (iZ f)] : List Value).toArray below meth c (MQ below (QI D kc (wl kc N ad S) (gQ kc ad S ((bn b : Int)) (ptB b kd u a q b_ c_ (stL b t u a q b_ c_) f)) s.heap.size) ([.ref (ad 0), .int (iZ kd), .int (iZ (u : Int)), .int (iZ a), .int (iZ (q : Int)), .int (iZ b_), .int (iZ c_), .int (iZ d_), .int (iZ f)] : List Value).toArray s 15 184 (va_A (wl kc N ad S) s.heap.size)) D (va_A (wl kc N ad S) s.heap.size) 10 0 0 (wl kc N ad S) 0 [(0, .ref (ad 0)), (1, .int (iZ kd)), (2, .int (iZ (u : Int))), (3, .int (iZ a)), (4, .int (iZ (q : Int))), (5, .int (iZ b_)), (6, .int (iZ c_)), (7, .int (iZ d_)), (8, .int (iZ f))] []
  have hP := hC.1
  have hW := hC.2.1
  have hEn := hC.2.2.1
  have hR := hC.2.2.2
  have hb0 := hI.1
  have hszu := szL_b hI hu
  have hszq := szL_b hI hq
  have h6' := h6
  unfold rmP at h6'
  rw [Int.toNat_natCast, Int.toNat_natCast] at h6'
  have hn30 := hI.1
  have hst1 : 1 ≤ stL b t u a q b_ c_ := by unfold stL; omega
  refine v_aload_n 0 0 C dX3_part_0 rfl ?_
  refine g_Pg_trial 1 C (vg.o hg).1 (vg.o hg).2 lk_212 dX3_part_1 ?_
  refine v_iload_n 4 1 C dX3_part_4 rfl ?_
  refine v_iload_n 5 2 C dX3_part_5 rfl ?_
  refine v_iload_n 6 3 C dX3_part_6 rfl ?_
  refine v_iload 7 4 C dX3_part_7 rfl ?_
  refine v_iload 9 5 C dX3_part_9 rfl ?_
  refine v_callv 11 hA (rV_Pt 11 C L_RX3_69 lk_263 lk_264 (m_hang (vg.t hg)) (vp.o (vg.t hg)) rfl ⟨rfl, rfl⟩ (rm_ok rfl) dX3_part_11) (fun w2 h3 => ?_)
  obtain rfl := h3
  refine v_aload_n 14 0 C dX3_part_14 rfl ?_
  refine g_Pg_trial 15 C (vg.o hg).1 (vg.o hg).2 lk_212 dX3_part_15 ?_
  refine v_iload 18 6 C dX3_part_18 rfl ?_
  refine v_iload 20 7 C dX3_part_20 rfl ?_
  refine v_callv 22 hA (rV_Pt 22 C L_RX3_73 lk_267 lk_268 (m_cut (k := kd) (a := a) (b := b_) (vg.t hg) (by unfold hangT; simp [gI_pI]) (by unfold hangT; simp [gI_pI]) (by unfold hangT; simp [gI_pI]) rk) (vp.o (vg.t hg)) rfl ⟨rfl, rfl⟩ (rm_ok rfl) dX3_part_22) (fun w5 h6 => ?_)
  obtain rfl := h6
  refine v_aload_n 25 0 C dX3_part_25 rfl ?_
  refine g_Pg_trial 26 C (vg.o hg).1 (vg.o hg).2 lk_212 dX3_part_26 ?_
  refine v_iload 29 8 C dX3_part_29 rfl ?_
  refine s_Pt_leftward 31 C (vp.o (vg.t hg)).1 (vp.o (vg.t hg)).2 (zn01 hf) (zf01 hf) lk_142 dX3_part_31 ?_
  obtain ⟨S3, hS3⟩ : ∃ S3, S3 = pI (cutT (hangT S 4 kd (u : Int) a (q : Int) b_) 4 (if kd = 1 then b_ else c_) (if kd = 1 then a else d_)) 4 10 (iZ f) := ⟨_, rfl⟩
  rw [← hS3]
  have T3 : TJ S3 kd (u : Int) a (q : Int) b_ (if kd = 1 then b_ else c_) (if kd = 1 then a else d_) f := by rw [hS3]; exact TJ_mk
  have u3 : sameOn usedC S S3 := by rw [hS3]; exact ((same_hang (by unfold usedC; omega)).tr (same_cut (by unfold usedC; omega) (by unfold usedC; omega))).tr (same_pI (by unfold usedC; omega))
  have m3 : sameOn atM S S3 := by rw [hS3]; exact ((same_hang (by unfold atM; omega)).tr (same_cut (by unfold atM; omega) (by unfold atM; omega))).tr (same_pI (by unfold atM; omega))
  have C3 := hC.keep2 u3
  have rcF : r32 (if kd = 1 then b_ else c_) := by split <;> assumption
  have rdF : r32 (if kd = 1 then a else d_) := by split <;> assumption
  refine v_aload_n 34 0 C dX3_part_34 rfl ?_
  refine v_calli 35 hA (rV_Pg 35 C L_RX3_81 lk_272 lk_6 (m_judge_0 hg hN hI C3.1 hu hq he rk ra rb rcF rdF hk (gd_c.mpr h4) (rm_c.mpr h6) T3) (vg.o hg) rfl ⟨rfl, rfl⟩ (rm_ok rfl) dX3_part_35) (fun r7 w8 h9 => ?_)
  obtain ⟨e_r7, rfl⟩ := h9
  refine v_eqi (iZ 0) (e_r7) ?_
  refine v_istore 38 [(9, .int (iZ 0)), (0, .ref (ad 0)), (1, .int (iZ kd)), (2, .int (iZ (u : Int))), (3, .int (iZ a)), (4, .int (iZ (q : Int))), (5, .int (iZ b_)), (6, .int (iZ c_)), (7, .int (iZ d_)), (8, .int (iZ f))] C dX3_part_38 (by decide) rfl ?_
  refine v_iload 40 0 C dX3_part_40 rfl ?_
  refine z_if_ne 42 56 C (by first | assumption | exact ⟨by omega, by omega⟩) dX3_part_42 (by decide) (fun c42_0 => absurd c42_0 (fun z => z rfl)) (fun c42_0 => ?_)
  refine v_iload_n 45 2 C dX3_part_45 rfl ?_
  refine v_iconst 46 C (iZ 2) dX3_part_46 rfl ?_
  refine z_icmp_ne 47 56 C (by first | assumption | exact ⟨by omega, by omega⟩) (by first | assumption | exact ⟨by omega, by omega⟩) dX3_part_47 (by decide) (fun c47_1 => absurd c47_1 (fun z => z h2)) (fun c47_1 => ?_)
  have ecF : (if kd = 1 then b_ else c_) = c_ := if_neg (by omega)
  have edF : (if kd = 1 then a else d_) = d_ := if_neg (by omega)
  rw [ecF, edF] at T3
  refine v_aload_n 50 1 C dX3_part_50 rfl ?_
  refine v_calli 51 hA (rV_Pg 51 C L_RX3_84 lk_280 lk_7 (m_stretch_0 hg hN hI C3 hE hu hq ⟨by omega, by omega⟩ ⟨by omega, by omega⟩ ⟨by omega, by omega⟩ T3 h3 h7) (vg.o hg) rfl ⟨rfl, rfl⟩ (rm_ok rfl) dX3_part_51) (fun ST w10 h11 => ?_)
  obtain ⟨e_ST, S4, rfl, u4, m4, T4⟩ := h11
  have C4 := C3.keep2 u4
  refine v_eqi (iZ 0) (e_ST) ?_
  refine v_istore 54 [(9, .int (iZ 0)), (0, .ref (ad 0)), (1, .int (iZ kd)), (2, .int (iZ (u : Int))), (3, .int (iZ a)), (4, .int (iZ (q : Int))), (5, .int (iZ b_)), (6, .int (iZ c_)), (7, .int (iZ d_)), (8, .int (iZ f))] C dX3_part_54 (by decide) rfl ?_
  refine v_iload 56 0 C dX3_part_56 rfl ?_
  refine z_if_eq 58 68 C (by first | assumption | exact ⟨by omega, by omega⟩) dX3_part_58 (by decide) (fun c58_2 => ?_) (fun c58_2 => absurd (rfl) c58_2)
  refine v_aload_n 68 1 C dX3_part_68 rfl ?_
  refine v_calli 69 hA (rV_Pg 69 C L_RX3_87 lk_300 lk_9 (m_addTrial hg hN hI C4 hE hu hq (by omega) hk ⟨by omega, by omega⟩ ⟨by omega, by omega⟩ ⟨by omega, by omega⟩ ⟨by omega, by omega⟩ hf (fun z => by omega) T4) (vg.o hg) rfl ⟨rfl, rfl⟩ (rm_ok rfl) dX3_part_69) (fun AD w12 h13 => ?_)
  obtain ⟨e_AD, ad2, S9, t9, rfl, hlo, g1, g2, g3, g4⟩ := h13
  refine v_eqi (iZ (bn b : Int)) (e_AD) ?_
  exact v_iret 72 C (⟨rfl, N + 15, ad2, S9, t9, rfl, by rw [ptB_bn hI]; omega, fun i h => hlo i (by omega), g1, g2, g3, (m3.tr m4).tr g4⟩) dX3_part_72

