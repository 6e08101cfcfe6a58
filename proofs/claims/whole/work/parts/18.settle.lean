/-! SETTLE: rows of references are written; a part's places at a step -/
section RS
variable {p : Program} {l : Launch} {e : Env} {R : Room} {s : State} {m : MethodId} {args : Array Value} {below : List Frame} {meth : Method} {c : Code} {Q : State → Prop} {D : va_G} {kc : Nat → ClassId} {A : Nat → Prop} {nL cells slots : Nat} {lv : List (Nat × Value)} {st : List Value} {cc : ByteArray} {own : String} {ret : Option FieldType} {N : Nat} {ad : Nat → Nat} {S : St}
theorem v_aastP (pc : Nat) (C : Cx p s m args meth c cc own nL ret D kc) {i : Nat} (hi : i < N) (hk : kd i = 1) {x : Int32} (j : Nat) (hx : x = nI j) (hj : j < 30) {v : Nat} (hv : ok N v 4) (hd : decode cc pc = .ok (.aastore, 1)) (k : V p l e R s m args below meth c Q D A nL cells slots (wl kc N ad (pR S i j (some v))) (pc + 1) lv st) : V p l e R s m args below meth c Q D A nL cells slots (wl kc N ad S) pc lv (.ref (ad v) :: .int x :: .ref (ad i) :: st) := by
  intro H locs ls hl hP hD hS
  refine va_astq C.1 C.2.1 C.2.2.2.2.2.1.1 hP hD hS i 3 v 0 ((wl_at hi).trans (by rw [cell_kd hk]; rfl)) rfl ((wl_at hv.1).trans (by rw [cell_kd hv.2]; rfl)) rfl (by rw [hx]; exact vp_in_nI hj (by decide)) hd (fun H1 locs1 hP1 hD1 hS1 => ?_)
  have e : x.toNatClampNeg = j := by rw [hx, nI_clamp (Nat.lt_trans hj (by decide))]
  rw [e] at hP1 hD1
  have hs := wl_set (kc := kc) (N := N) (ad := ad) (S := S) (S' := pR S i j (some v)) (i := i) (cell_kd hk) pR_ne
  have hf : (fun h => (gR (pR S i j (some v)) i h).map ad) = va_up (fun k => (gR S i k).map ad) j (some (ad v)) := by
    funext h
    rw [gR_pR]
    by_cases q : h = j
    · subst q; simp [va_up]
    · simp [va_up, q]
  have hc : cellK kc ad (pR S i j (some v)) i 1 = .inl (kc 3, 30, .inr (.inr (.inr (.inr (va_up (fun k => (gR S i k).map ad) j (some (ad v))))))) := by
    show (Sum.inl (kc 3, 30, .inr (.inr (.inr (.inr (fun h => (gR (pR S i j (some v)) i h).map ad))))) : va_E) = _
    rw [hf]
  rw [hc] at hs
  rw [hs] at hP1 hD1
  exact k H1 locs1 ls hl hP1 hD1 hS1
theorem v_aastL (pc : Nat) (C : Cx p s m args meth c cc own nL ret D kc) {i : Nat} (hi : i < N) (hk : kd i = 2) {x : Int32} (j : Nat) (hx : x = nI j) (hj : j < 62) {v : Nat} (hv : ok N v 8) (hd : decode cc pc = .ok (.aastore, 1)) (k : V p l e R s m args below meth c Q D A nL cells slots (wl kc N ad (pR S i j (some v))) (pc + 1) lv st) : V p l e R s m args below meth c Q D A nL cells slots (wl kc N ad S) pc lv (.ref (ad v) :: .int x :: .ref (ad i) :: st) := by
  intro H locs ls hl hP hD hS
  refine va_astq C.1 C.2.1 C.2.2.2.2.2.1.1 hP hD hS i 4 v 1 ((wl_at hi).trans (by rw [cell_kd hk]; rfl)) rfl ((wl_at hv.1).trans (by rw [cell_kd hv.2]; rfl)) rfl (by rw [hx]; exact vp_in_nI hj (by decide)) hd (fun H1 locs1 hP1 hD1 hS1 => ?_)
  have e : x.toNatClampNeg = j := by rw [hx, nI_clamp (Nat.lt_trans hj (by decide))]
  rw [e] at hP1 hD1
  have hs := wl_set (kc := kc) (N := N) (ad := ad) (S := S) (S' := pR S i j (some v)) (i := i) (cell_kd hk) pR_ne
  have hf : (fun h => (gR (pR S i j (some v)) i h).map ad) = va_up (fun k => (gR S i k).map ad) j (some (ad v)) := by
    funext h
    rw [gR_pR]
    by_cases q : h = j
    · subst q; simp [va_up]
    · simp [va_up, q]
  have hc : cellK kc ad (pR S i j (some v)) i 2 = .inl (kc 4, 62, .inr (.inr (.inr (.inr (va_up (fun k => (gR S i k).map ad) j (some (ad v))))))) := by
    show (Sum.inl (kc 4, 62, .inr (.inr (.inr (.inr (fun h => (gR (pR S i j (some v)) i h).map ad))))) : va_E) = _
    rw [hf]
  rw [hc] at hs
  rw [hs] at hP1 hD1
  exact k H1 locs1 ls hl hP1 hD1 hS1
theorem v_aastLN (pc : Nat) (C : Cx p s m args meth c cc own nL ret D kc) {i : Nat} (hi : i < N) (hk : kd i = 2) {x : Int32} (j : Nat) (hx : x = nI j) (hj : j < 62) (hd : decode cc pc = .ok (.aastore, 1)) (k : V p l e R s m args below meth c Q D A nL cells slots (wl kc N ad (pR S i j none)) (pc + 1) lv st) : V p l e R s m args below meth c Q D A nL cells slots (wl kc N ad S) pc lv (.null :: .int x :: .ref (ad i) :: st) := by
  intro H locs ls hl hP hD hS
  refine va_astqN C.1 C.2.1 C.2.2.2.2.2.1.1 hP hD hS i 4 ((wl_at hi).trans (by rw [cell_kd hk]; rfl)) rfl (by rw [hx]; exact vp_in_nI hj (by decide)) hd (fun H1 locs1 hP1 hD1 hS1 => ?_)
  have e : x.toNatClampNeg = j := by rw [hx, nI_clamp (Nat.lt_trans hj (by decide))]
  rw [e] at hP1 hD1
  have hs := wl_set (kc := kc) (N := N) (ad := ad) (S := S) (S' := pR S i j none) (i := i) (cell_kd hk) pR_ne
  have hf : (fun h => (gR (pR S i j none) i h).map ad) = va_up (fun k => (gR S i k).map ad) j none := by
    funext h
    rw [gR_pR]
    by_cases q : h = j
    · subst q; simp [va_up]
    · simp [va_up, q]
  have hc : cellK kc ad (pR S i j none) i 2 = .inl (kc 4, 62, .inr (.inr (.inr (.inr (va_up (fun k => (gR S i k).map ad) j none))))) := by
    show (Sum.inl (kc 4, 62, .inr (.inr (.inr (.inr (fun h => (gR (pR S i j none) i h).map ad))))) : va_E) = _
    rw [hf]
  rw [hc] at hs
  rw [hs] at hP1 hD1
  exact k H1 locs1 ls hl hP1 hD1 hS1
end RS
theorem rnd_self (n : Int) : rnd (10000 * n) 10000 = n := by unfold rnd; omega
theorem rnd_0 {w : Int} (h : 0 < w) (n : Int) : rnd ((0 - 0) * n) w = 0 := by
  unfold rnd
  rw [show 2 * ((0 - 0) * n) + w = w by omega]
  exact Int.ediv_eq_zero_of_lt (by omega) (by omega)
/-- what a plane's mark needs -/
theorem mk_facts {S : St} {b : Bs} {t : Ts} {p j N : Nat} (hN : N = 66 + 15 * bn b) (hI : Inv b) (hW : RW S) (hsz : gI S (plN p) 4 = iZ (szL b p)) (h : thL b p) (hj : j < 17) (hR : 2 ≤ p → RT1 S t (p / 2 - 1) j ∧ BD1 b t (p / 2 - 1) j) (h0 : PS t j p = 0) :
    ∃ bx by_ ax ay wh lf : Int, (gA S (pe (plN p) + 3) j = iZ 0 ∧ gA S (pb (plN p) + 1) j = iZ bx ∧ gA S (pb (plN p) + 2) j = iZ by_ ∧ gA S (pm (plN p) + 1) j = iZ ax ∧ gA S (pm (plN p) + 2) j = iZ ay) ∧ (pf (plN p) = iZ lf ∧ b01 lf ∧ (¬ lf = 0 → wh = 10000) ∧ (lf = 0 → gI S (plN p) 4 = iZ wh) ∧ (0 < wh ∧ wh ≤ 10000)) ∧ (bd bx ∧ bd by_ ∧ bd ax ∧ bd ay) ∧ ∀ n : Int, bx + rnd ((ax - bx) * n) wh = PLx b t j p n ∧ by_ + rnd ((ay - by_) * n) wh = PLy b t j p n := by
  have hb := hI.2.1
  have w0 := w_b j hj
  rcases thL_or h with rfl | rfl | ⟨k, w, hw, rfl, hk, ht⟩
  · refine ⟨0, 0, 10000, 0, 10000, 1, ⟨(hW j hj).2.2.2.1, (hW j hj).1.1, (hW j hj).1.2, (hW j hj).2.1.1, (hW j hj).2.1.2⟩, ⟨rfl, Or.inr rfl, fun _ => rfl, fun q => by omega, by decide⟩, by decide, fun n => ⟨?_, ?_⟩⟩
    · show 0 + rnd ((10000 - 0) * n) 10000 = n
      rw [show (10000 - 0 : Int) = 10000 from rfl, rnd_self]; omega
    · show 0 + rnd ((0 - 0) * n) 10000 = 0
      rw [rnd_0 (by decide)]; omega
  · refine ⟨0, 0, wx j, wy j, 10000, 1, ⟨(hW j hj).2.2.2.2, (hW j hj).1.1, (hW j hj).1.2, (hW j hj).2.2.1.1, (hW j hj).2.2.1.2⟩, ⟨rfl, Or.inr rfl, fun _ => rfl, fun q => by omega, by decide⟩, ⟨by decide, by decide, by omega, by omega⟩, fun n => ⟨?_, ?_⟩⟩
    · show 0 + rnd ((wx j - 0) * n) 10000 = rnd (wx j * n) 10000
      rw [show wx j - 0 = wx j by omega]; omega
    · show 0 + rnd ((wy j - 0) * n) 10000 = rnd (wy j * n) 10000
      rw [show wy j - 0 = wy j by omega]; omega
  · have hv := vp_k hN hk
    have e0 : (2 * k + 2 + w) / 2 - 1 = k := by omega
    have e1 : 2 * k + 2 + w - 2 = 2 * k + w := by omega
    obtain ⟨hr, hbd⟩ := hR (by omega)
    rw [e0] at hr hbd
    have h4 : t 4 k j = 0 := by unfold PS at h0; rw [if_neg (by omega), e0] at h0; exact h0
    have hr2 := hr.2 h4
    have h30 := hI.1.2
    have J := hI.2.2.2.2 k hk (2 * k + w) (by omega)
    have B := hbd h4 (2 * k + w) (by omega)
    have hszv : szL b (2 * k + 2 + w) = b 6 (2 * k + w) := by unfold szL; rw [if_neg (by omega), e1]
    rw [hszv] at hsz
    refine ⟨t 0 (2 * k + w) j, t 1 (2 * k + w) j, t 2 k j, t 3 k j, b 6 (2 * k + w), 0, ?_, ?_, by omega, fun n => ⟨?_, ?_⟩⟩
    · rw [plN_p k w hw]
      rcases (show w = 0 ∨ w = 1 by omega) with rfl | rfl
      · rw [show pe (66 + 15 * k + 13 + 0) = 66 + 15 * k + 9 from hv.2.2.2.1.2.1, show pb (66 + 15 * k + 13 + 0) = 66 + 15 * k + 1 from hv.2.2.2.1.1, show pm (66 + 15 * k + 13 + 0) = 66 + 15 * k + 9 from hv.2.2.2.1.2.2.1]
        exact ⟨by rw [hr.1, h4], hr2.1.1, hr2.1.2, hr2.2.2.1, hr2.2.2.2⟩
      · rw [show pe (66 + 15 * k + 13 + 1) = 66 + 15 * k + 9 from hv.2.2.2.2.2.1, show pb (66 + 15 * k + 13 + 1) = 66 + 15 * k + 5 from hv.2.2.2.2.1, show pm (66 + 15 * k + 13 + 1) = 66 + 15 * k + 9 from hv.2.2.2.2.2.2.1]
        exact ⟨by rw [hr.1, h4], hr2.2.1.1, hr2.2.1.2, hr2.2.2.1, hr2.2.2.2⟩
    · refine ⟨?_, Or.inl rfl, fun q => absurd rfl q, fun _ => hsz, by omega⟩
      rw [plN_p k w hw]
      rcases (show w = 0 ∨ w = 1 by omega) with rfl | rfl
      · exact hv.2.2.2.1.2.2.2
      · exact hv.2.2.2.2.2.2.2
    · unfold PLx; rw [if_neg (by omega), if_neg (by omega), e0, e1]
    · unfold PLy; rw [if_neg (by omega), if_neg (by omega), e0, e1]
theorem mk_s {S : St} {b : Bs} {t : Ts} {p j N : Nat} (hN : N = 66 + 15 * bn b) (hW : RW S) (h : thL b p) (hj : j < 17) (hR : 2 ≤ p → RT1 S t (p / 2 - 1) j) : gA S (pe (plN p) + 3) j = iZ (PS t j p) := by
  rcases thL_or h with rfl | rfl | ⟨k, w, hw, rfl, hk, ht⟩
  · exact (hW j hj).2.2.2.1
  · exact (hW j hj).2.2.2.2
  · have hv := vp_k hN hk
    have e0 : (2 * k + 2 + w) / 2 - 1 = k := by omega
    have hr := hR (by omega)
    rw [e0] at hr
    unfold PS
    rw [if_neg (by omega), e0, plN_p k w hw]
    rcases (show w = 0 ∨ w = 1 by omega) with rfl | rfl
    · rw [show pe (66 + 15 * k + 13 + 0) = 66 + 15 * k + 9 from hv.2.2.2.1.2.1]; exact hr.1
    · rw [show pe (66 + 15 * k + 13 + 1) = 66 + 15 * k + 9 from hv.2.2.2.2.2.1]; exact hr.1
def mkT (S : St) (T j : Nat) (v x y : Int) : St := if v = 0 then putT S T j x y else loseT S T j
set_option maxHeartbeats 4000000 in
set_option maxRecDepth 100000 in
theorem m_markOn {l : Launch} {D : va_G} {kc : Nat → ClassId} {N : Nat} {ad : Nat → Nat} {S : St} {b : Bs} (hg : vg N) (hN : N = 66 + 15 * bn b) (hI : Inv b) (hP : RP S b) {t : Ts} {u j T_ : Nat} {n : Int} (hW : RW S) (hu : thL b u) (hj : j < 17) (hT : vt N T_) (hn : 0 ≤ n ∧ n ≤ 1000) (hR : 2 ≤ u → RT1 S t (u / 2 - 1) j ∧ BD1 b t (u / 2 - 1) j ∧ b01 (t 4 (u / 2 - 1) j)) : MetK l yX3_markOn cX3_markOn 6 (none) 4 0 0 102 D kc (wl kc N ad S) [.ref (ad 0), .int (iZ (u : Int)), .int (iZ n), .int (iZ (j : Int)), .ref (ad T_)] (QV D kc (wl kc N ad S) (fun ws' => ws' = wl kc N ad (mkT S T_ j (PS t j u) (PLx b t j u n) (PLy b t j u n)))) := by
  refine MetK.of (by decide +kernel) (Nat.le_of_ble_eq_true rfl) ?_
  intro p e s m below meth c C
  have hA : ∀ q, s.heap.size ≤ q → va_A (wl kc N ad S) s.heap.size q := fun _ h => Or.inr h
  show V p l e { frames := 4, cells := 0, slots := 0, locals := 102 } s m ([.ref (ad 0), .int (iZ (u : Int)), .int (iZ n), .int (iZ (j : Int)), .ref (ad T_)] : List Value).toArray below meth c (MQ below (QV D kc (wl kc N ad S) (fun ws' => ws' = wl kc N ad (mkT S T_ j (PS t j u) (PLx b t j u n) (PLy b t j u n))) s.heap.size) ([.ref (ad 0), .int (iZ (u : Int)), .int (iZ n), .int (iZ (j : Int)), .ref (ad T_)] : List Value).toArray s 0 0 (va_A (wl kc N ad S) s.heap.size)) D (va_A (wl kc N ad S) s.heap.size) 6 0 0 (wl kc N ad S) 0 [(0, .ref (ad 0)), (1, .int (iZ (u : Int))), (2, .int (iZ n)), (3, .int (iZ (j : Int))), (4, .ref (ad T_))] []
  have h62 := thL_62 hI hu
  have h01 : b01 (PS t j u) := by
    unfold PS
    split
    · exact Or.inl rfl
    · exact (hR (by omega)).2.2
  by_cases h0 : PS t j u = 0
  · obtain ⟨bx, by_, ax, ay, wh, lf, ⟨e1, e2, e3, e4, e5⟩, ⟨f1, f2, f3, f4, f5⟩, ⟨g1, g2, g3, g4⟩, hv⟩ := mk_facts hN hI hW (szL_S hP hu) hu hj (fun q => ⟨(hR q).1, (hR q).2.1⟩) h0
    refine v_aload_n 0 0 C dX3_markOn_0 rfl ?_
    refine v_iload_n 1 1 C dX3_markOn_1 rfl ?_
    refine v_callq 2 hA (rV_Pg 2 C L_RX3_138 lk_187 lk_1 (m_planeThere hg hN hI hP hu) (vg.o hg) rfl ⟨rfl, rfl⟩ (rm_ok rfl) dX3_markOn_2) (fun r1 w2 h3 => ?_)
    obtain ⟨e_r1, rfl⟩ := h3
    refine v_eqv (.ref (ad (plN u))) (by rw [e_r1]; rfl) ?_
    refine v_astore 5 [(5, .ref (ad (plN u))), (0, .ref (ad 0)), (1, .int (iZ (u : Int))), (2, .int (iZ n)), (3, .int (iZ (j : Int))), (4, .ref (ad T_))] C dX3_markOn_5 (by decide) rfl ?_
    refine v_aload 7 0 C dX3_markOn_7 rfl ?_
    refine v_ifnonnull 9 21 C dX3_markOn_9 (by decide) ?_
    refine v_aload 21 0 C dX3_markOn_21 rfl ?_
    refine v_iload_n 23 3 C dX3_markOn_23 rfl ?_
    refine v_iload_n 24 4 C dX3_markOn_24 rfl ?_
    refine v_aload 25 5 C dX3_markOn_25 rfl ?_
    refine v_callv 27 hA (rV_Pl 27 C L_RX3_145 lk_190 lk_191 (m_mark (vl_p hg hN hu) hT hj e1 e2 e3 e4 e5 f1 f2 f3 f4 f5 hn g1 g2 g3 g4) (vl.o (vl_p hg hN hu)) rfl ⟨rfl, rfl⟩ (rm_ok rfl) dX3_markOn_27) (fun w5 h6 => ?_)
    obtain rfl := h6
    exact v_vret 30 C (by unfold mkT; rw [if_pos h0, (hv n).1, (hv n).2]) dX3_markOn_30
  · skip
    refine v_aload_n 0 0 C dX3_markOn_0 rfl ?_
    refine v_iload_n 1 1 C dX3_markOn_1 rfl ?_
    refine v_callq 2 hA (rV_Pg 2 C L_RX3_138 lk_187 lk_1 (m_planeThere hg hN hI hP hu) (vg.o hg) rfl ⟨rfl, rfl⟩ (rm_ok rfl) dX3_markOn_2) (fun r7 w8 h9 => ?_)
    obtain ⟨e_r7, rfl⟩ := h9
    refine v_eqv (.ref (ad (plN u))) (by rw [e_r7]; rfl) ?_
    refine v_astore 5 [(5, .ref (ad (plN u))), (0, .ref (ad 0)), (1, .int (iZ (u : Int))), (2, .int (iZ n)), (3, .int (iZ (j : Int))), (4, .ref (ad T_))] C dX3_markOn_5 (by decide) rfl ?_
    refine v_aload 7 0 C dX3_markOn_7 rfl ?_
    refine v_ifnonnull 9 21 C dX3_markOn_9 (by decide) ?_
    refine v_aload 21 0 C dX3_markOn_21 rfl ?_
    refine v_iload_n 23 3 C dX3_markOn_23 rfl ?_
    refine v_iload_n 24 4 C dX3_markOn_24 rfl ?_
    refine v_aload 25 5 C dX3_markOn_25 rfl ?_
    refine v_callv 27 hA (rV_Pl 27 C L_RX3_145 lk_190 lk_191 (m_mark_no (vl_p hg hN hu) hT hj (by rw [mk_s hN hW hu hj (fun q => (hR q).1), h01.resolve_left h0])) (vl.o (vl_p hg hN hu)) rfl ⟨rfl, rfl⟩ (rm_ok rfl) dX3_markOn_27) (fun w11 h12 => ?_)
    obtain rfl := h12
    exact v_vret 30 C (by unfold mkT; rw [if_neg h0]) dX3_markOn_30

/-- only the tracks of the part i, at the step j, have changed -/
def Wr (S S' : St) (i j : Nat) : Prop := (∀ m f, gI S' m f = gI S m f ∧ gL S' m f = gL S m f ∧ gJ S' m f = gJ S m f ∧ gR S' m f = gR S m f) ∧ ∀ m f, ¬ (i < m ∧ m ≤ i + 12 ∧ f = j) → gA S' m f = gA S m f
theorem Wr.rf {S : St} {i j : Nat} : Wr S S i j := ⟨fun _ _ => ⟨rfl, rfl, rfl, rfl⟩, fun _ _ _ => rfl⟩
theorem Wr.tr {S T U : St} {i j : Nat} (h1 : Wr S T i j) (h2 : Wr T U i j) : Wr S U i j := ⟨fun m f => ⟨(h2.1 m f).1.trans (h1.1 m f).1, (h2.1 m f).2.1.trans (h1.1 m f).2.1, (h2.1 m f).2.2.1.trans (h1.1 m f).2.2.1, (h2.1 m f).2.2.2.trans (h1.1 m f).2.2.2⟩, fun m f q => (h2.2 m f q).trans (h1.2 m f q)⟩
theorem Wr.pA {S : St} {i j m : Nat} {v : Int32} (h : i < m ∧ m ≤ i + 12) : Wr S (pA S m j v) i j := ⟨fun _ _ => ⟨rfl, rfl, rfl, rfl⟩, fun a f q => by rw [gA_pA, if_neg (fun (z : a = m ∧ f = j) => q (by omega))]⟩
theorem Wr.put {S : St} {i j T : Nat} {x y : Int} (h : i < T + 1 ∧ T + 3 ≤ i + 12) : Wr S (putT S T j x y) i j := ((Wr.pA (by omega)).tr (Wr.pA (by omega))).tr (Wr.pA (by omega))
theorem Wr.lose {S : St} {i j T : Nat} (h : i < T + 1 ∧ T + 3 ≤ i + 12) : Wr S (loseT S T j) i j := Wr.pA (by omega)
theorem Wr.mk {S : St} {i j T : Nat} {v x y : Int} (h : i < T + 1 ∧ T + 3 ≤ i + 12) : Wr S (mkT S T j v x y) i j := by
  unfold mkT
  split
  · exact Wr.put h
  · exact Wr.lose h
theorem Wr.fold {S : St} {i j T : Nat} {q : Option (Int × Int)} (h : i < T + 1 ∧ T + 3 ≤ i + 12) : Wr S (foldT S T j q) i j := by
  unfold foldT
  split
  · exact Wr.lose h
  · exact Wr.put h
theorem Wr.RP {S S' : St} {i j : Nat} {b : Bs} (h : Wr S S' i j) (hi : 3 < i) (hP : RP S b) : RP S' b := by
  obtain ⟨⟨a1, a2, a3⟩, a4, a5, a6, ⟨a7, a8⟩, a9⟩ := hP
  have I : ∀ m f, gI S' m f = gI S m f := fun m f => (h.1 m f).1
  have R : ∀ m f, gR S' m f = gR S m f := fun m f => (h.1 m f).2.2.2
  refine ⟨⟨by rw [I]; exact a1, by rw [I]; exact a2, by rw [I]; exact a3⟩, fun r hr => by rw [h.2 3 r (by omega)]; exact a4 r hr, fun k hk => by rw [R]; exact a5 k hk, fun p hp => by rw [R]; exact a6 p hp, ⟨by rw [I]; exact a7, by rw [I]; exact a8⟩, fun k hk => ?_⟩
  rw [I, I, I, I, I, I, I, I, I]
  exact a9 k hk
theorem Wr.RW {S S' : St} {i j : Nat} (h : Wr S S' i j) (hi : i = 4 ∨ 66 ≤ i) (hW : RW S) : RW S' := by
  intro s hs
  rw [h.2 24 s (by omega), h.2 25 s (by omega), h.2 28 s (by omega), h.2 29 s (by omega), h.2 32 s (by omega), h.2 33 s (by omega), h.2 39 s (by omega), h.2 44 s (by omega)]
  exact hW s hs
theorem Wr.RE {S S' : St} {i j : Nat} {w : Int} (h : Wr S S' i j) (hi : i = 4 ∨ 66 ≤ i) (hE : RE S w) : RE S' w := by
  intro s hs
  rw [h.2 37 s (by omega), h.2 38 s (by omega), h.2 42 s (by omega), h.2 43 s (by omega)]
  exact hE s hs
theorem Wr.RT1 {S S' : St} {i j k s : Nat} {t : Ts} (h : Wr S S' i j) (hi : i = 4 ∨ (∃ K, i = 66 + 15 * K ∧ (K ≠ k ∨ s ≠ j))) (hR : RT1 S t k s) : RT1 S' t k s := by
  have A : ∀ c, c < 13 → 0 < c → gA S' (66 + 15 * k + c) s = gA S (66 + 15 * k + c) s := fun c hc h0 => h.2 _ s (by
    rcases hi with rfl | ⟨K, rfl, hq⟩
    · omega
    · omega)
  exact ⟨(A 12 (by decide) (by decide)).trans hR.1, fun q => ⟨⟨(A 2 (by decide) (by decide)).trans (hR.2 q).1.1, (A 3 (by decide) (by decide)).trans (hR.2 q).1.2⟩, ⟨(A 6 (by decide) (by decide)).trans (hR.2 q).2.1.1, (A 7 (by decide) (by decide)).trans (hR.2 q).2.1.2⟩, ⟨(A 10 (by decide) (by decide)).trans (hR.2 q).2.2.1, (A 11 (by decide) (by decide)).trans (hR.2 q).2.2.2⟩⟩⟩
theorem Wr.M {S S' : St} {i j : Nat} (h : Wr S S' i j) (hi : i = 4 ∨ 66 ≤ i) : sameOn atM S S' := fun m hm f => ⟨(h.1 m f).1, h.2 m f (by have := hm.1; have := hm.2; omega), (h.1 m f).2.1, (h.1 m f).2.2.1, (h.1 m f).2.2.2⟩
theorem mkT_s {S : St} {T j : Nat} {v x y : Int} (h : b01 v) : gA (mkT S T j v x y) (T + 3) j = iZ v := by
  unfold mkT
  rcases h with rfl | rfl
  · rw [if_pos rfl]; unfold putT; rw [gA_pA, if_pos ⟨rfl, rfl⟩]
  · rw [if_neg (by decide)]; unfold loseT; rw [gA_pA, if_pos ⟨rfl, rfl⟩]
theorem putT_x {S : St} {T j : Nat} {x y : Int} : gA (putT S T j x y) (T + 1) j = iZ x := by
  unfold putT; rw [gA_pA, if_neg (by omega), gA_pA, if_neg (by omega), gA_pA, if_pos ⟨rfl, rfl⟩]
theorem putT_y {S : St} {T j : Nat} {x y : Int} : gA (putT S T j x y) (T + 2) j = iZ y := by
  unfold putT; rw [gA_pA, if_neg (by omega), gA_pA, if_pos ⟨rfl, rfl⟩]
theorem putT_s {S : St} {T j : Nat} {x y : Int} : gA (putT S T j x y) (T + 3) j = iZ 0 := by
  unfold putT; rw [gA_pA, if_pos ⟨rfl, rfl⟩]
theorem mkT_x {S : St} {T j : Nat} {v x y : Int} (h : v = 0) : gA (mkT S T j v x y) (T + 1) j = iZ x := by unfold mkT; rw [if_pos h]; exact putT_x
theorem mkT_y {S : St} {T j : Nat} {v x y : Int} (h : v = 0) : gA (mkT S T j v x y) (T + 2) j = iZ y := by unfold mkT; rw [if_pos h]; exact putT_y
theorem tw_o {S : St} {T j m f : Nat} {v x y : Int} (h : m < T + 1 ∨ T + 3 < m) : gA (mkT S T j v x y) m f = gA S m f := by
  unfold mkT putT loseT
  split
  · rw [gA_pA, if_neg (by omega), gA_pA, if_neg (by omega), gA_pA, if_neg (by omega)]
  · rw [gA_pA, if_neg (by omega)]
theorem fold_o {S : St} {T j m f : Nat} {q : Option (Int × Int)} (h : m < T + 1 ∨ T + 3 < m) : gA (foldT S T j q) m f = gA S m f := by
  unfold foldT putT loseT
  split
  · rw [gA_pA, if_neg (by omega)]
  · rw [gA_pA, if_neg (by omega), gA_pA, if_neg (by omega), gA_pA, if_neg (by omega)]
/-- a part's places at a step, as they were worked out -/
def SetQ (S S' : St) (b : Bs) (t : Ts) (i j pu qu : Nat) (a b_ c d lf : Int) (v : Int) : Prop := Wr S S' i j ∧ gA S' (i + 9 + 3) j = iZ v ∧ b01 v ∧ (¬ (PS t j pu = 0 ∧ PS t j qu = 0) → v = 1) ∧
  (PS t j pu = 0 → PS t j qu = 0 → ((gA S' (i + 1 + 1) j = iZ (PLx b t j pu a) ∧ gA S' (i + 1 + 2) j = iZ (PLy b t j pu a)) ∧ (gA S' (i + 5 + 1) j = iZ (PLx b t j qu b_) ∧ gA S' (i + 5 + 2) j = iZ (PLy b t j qu b_))) ∧
    ((foldZ (PLx b t j pu a) (PLy b t j pu a) (PLx b t j qu b_) (PLy b t j qu b_) c d lf = none ∧ v = 1) ∨ ∃ x y, foldZ (PLx b t j pu a) (PLy b t j pu a) (PLx b t j qu b_) (PLy b t j qu b_) c d lf = some (x, y) ∧ v = 0 ∧ gA S' (i + 9 + 1) j = iZ x ∧ gA S' (i + 9 + 2) j = iZ y))
theorem set_fold {kc : Nat → ClassId} {N : Nat} {ad : Nat → Nat} {S S2 : St} {b : Bs} {t : Ts} {i j pu qu : Nat} {a b_ c d lf : Int} (w2 : Wr S S2 i j) (h0 : PS t j pu = 0 ∧ PS t j qu = 0) (x1 : gA S2 (i + 1 + 1) j = iZ (PLx b t j pu a)) (x2 : gA S2 (i + 1 + 2) j = iZ (PLy b t j pu a)) (x3 : gA S2 (i + 5 + 1) j = iZ (PLx b t j qu b_)) (x4 : gA S2 (i + 5 + 2) j = iZ (PLy b t j qu b_)) :
    ∃ S' v, wl kc N ad (foldT S2 (i + 9) j (foldZ (PLx b t j pu a) (PLy b t j pu a) (PLx b t j qu b_) (PLy b t j qu b_) c d lf)) = wl kc N ad S' ∧ SetQ S S' b t i j pu qu a b_ c d lf v := by
  have X : ∀ q, gA (foldT S2 (i + 9) j q) (i + 1 + 1) j = iZ (PLx b t j pu a) ∧ gA (foldT S2 (i + 9) j q) (i + 1 + 2) j = iZ (PLy b t j pu a) ∧ gA (foldT S2 (i + 9) j q) (i + 5 + 1) j = iZ (PLx b t j qu b_) ∧ gA (foldT S2 (i + 9) j q) (i + 5 + 2) j = iZ (PLy b t j qu b_) := fun q => ⟨(fold_o (by omega)).trans x1, (fold_o (by omega)).trans x2, (fold_o (by omega)).trans x3, (fold_o (by omega)).trans x4⟩
  generalize hf : foldZ (PLx b t j pu a) (PLy b t j pu a) (PLx b t j qu b_) (PLy b t j qu b_) c d lf = q
  have Xq := X q
  cases q with
  | none => exact ⟨_, 1, rfl, w2.tr (Wr.fold (by omega)), by show gA (loseT S2 (i + 9) j) _ _ = _; unfold loseT; rw [gA_pA, if_pos ⟨rfl, rfl⟩], Or.inr rfl, fun h => absurd h0 h, fun _ _ => ⟨⟨⟨Xq.1, Xq.2.1⟩, Xq.2.2.1, Xq.2.2.2⟩, Or.inl ⟨hf, rfl⟩⟩⟩
  | some z => exact ⟨_, 0, rfl, w2.tr (Wr.fold (by omega)), putT_s, Or.inl rfl, fun h => absurd h0 h, fun _ _ => ⟨⟨⟨Xq.1, Xq.2.1⟩, Xq.2.2.1, Xq.2.2.2⟩, Or.inr ⟨z.1, z.2, hf, rfl, putT_x, putT_y⟩⟩⟩
set_option maxHeartbeats 4000000 in
set_option maxRecDepth 100000 in
theorem m_settle {l : Launch} {D : va_G} {kc : Nat → ClassId} {N : Nat} {ad : Nat → Nat} {S : St} {b : Bs} (hg : vg N) (hN : N = 66 + 15 * bn b) (hI : Inv b) (hP : RP S b) {t : Ts} {i j pu qu : Nat} {a b_ c_ d lf : Int} (hi : vp N i) (hW : RW S) (hj : j < 17) (hid : i = 4 ∨ ∃ K, i = 66 + 15 * K ∧ pu < 2 * K + 2 ∧ qu < 2 * K + 2) (hpu : thL b pu) (hqu : thL b qu) (ha : 0 ≤ a ∧ a ≤ 1000) (hb : 0 ≤ b_ ∧ b_ ≤ 1000) (hc : 1 ≤ c_ ∧ c_ ≤ 1000) (hd : 1 ≤ d ∧ d ≤ 1000) (hlf : b01 lf) (e6 : gI S i 6 = iZ (pu : Int)) (e7 : gI S i 7 = iZ a) (e8 : gI S i 8 = iZ (qu : Int)) (e9 : gI S i 9 = iZ b_) (e10 : gI S i 10 = iZ lf) (e13 : gI S (i + 13) 4 = iZ c_) (e14 : gI S (i + 14) 4 = iZ d) (hRp : 2 ≤ pu → RT1 S t (pu / 2 - 1) j ∧ BD1 b t (pu / 2 - 1) j ∧ b01 (t 4 (pu / 2 - 1) j)) (hRq : 2 ≤ qu → RT1 S t (qu / 2 - 1) j ∧ BD1 b t (qu / 2 - 1) j ∧ b01 (t 4 (qu / 2 - 1) j)) : MetK l yX3_settle cX3_settle 3 (none) 5 0 0 127 D kc (wl kc N ad S) [.ref (ad 0), .ref (ad i), .int (iZ (j : Int))] (QV D kc (wl kc N ad S) (fun ws' => ∃ S' v, ws' = wl kc N ad S' ∧ SetQ S S' b t i j pu qu a b_ c_ d lf v)) := by
  refine MetK.of (by decide +kernel) (Nat.le_of_ble_eq_true rfl) ?_
  intro p e s m below meth c C
  have hA : ∀ q, s.heap.size ≤ q → va_A (wl kc N ad S) s.heap.size q := fun _ h => Or.inr h
  show V p l e { frames := 5, cells := 0, slots := 0, locals := 127 } s m ([.ref (ad 0), .ref (ad i), .int (iZ (j : Int))] : List Value).toArray below meth c (MQ below (QV D kc (wl kc N ad S) (fun ws' => ∃ S' v, ws' = wl kc N ad S' ∧ SetQ S S' b t i j pu qu a b_ c_ d lf v) s.heap.size) ([.ref (ad 0), .ref (ad i), .int (iZ (j : Int))] : List Value).toArray s 0 0 (va_A (wl kc N ad S) s.heap.size)) D (va_A (wl kc N ad S) s.heap.size) 3 0 0 (wl kc N ad S) 0 [(0, .ref (ad 0)), (1, .ref (ad i)), (2, .int (iZ (j : Int)))] []
  have w1 : Wr S (mkT S (i + 1) j (PS t j pu) (PLx b t j pu a) (PLy b t j pu a)) i j := Wr.mk (by omega)
  have hi4 : i = 4 ∨ 66 ≤ i := by rcases hid with h | ⟨K, h, _⟩ <;> omega
  have v1 : b01 (PS t j pu) := by
    unfold PS
    split
    · exact Or.inl rfl
    · exact (hRp (by omega)).2.2
  have v2 : b01 (PS t j qu) := by
    unfold PS
    split
    · exact Or.inl rfl
    · exact (hRq (by omega)).2.2
  refine v_aload_n 0 0 C dX3_settle_0 rfl ?_
  refine v_aload_n 1 1 C dX3_settle_1 rfl ?_
  refine g_Pt_p 2 C (vp.o hi).1 (vp.o hi).2 lk_135 dX3_settle_2 ?_
  refine v_eqi (iZ (pu : Int)) (e6) ?_
  refine v_aload_n 5 1 C dX3_settle_5 rfl ?_
  refine g_Pt_a 6 C (vp.o hi).1 (vp.o hi).2 lk_137 dX3_settle_6 ?_
  refine v_eqi (iZ a) (e7) ?_
  refine v_iload_n 9 2 C dX3_settle_9 rfl ?_
  refine v_aload_n 10 1 C dX3_settle_10 rfl ?_
  refine g_Pt_hingeA 11 C (vp.o hi).1 (vp.o hi).2 lk_123 dX3_settle_11 ?_
  refine v_callv 14 hA (rV_Pg 14 C L_RX3_253 lk_284 lk_8 (m_markOn hg hN hI hP hW hpu hj (vp.A hi) ha hRp) (vg.o hg) rfl ⟨rfl, rfl⟩ (rm_ok rfl) dX3_settle_14) (fun w2 h3 => ?_)
  obtain rfl := h3
  refine v_aload_n 17 0 C dX3_settle_17 rfl ?_
  refine v_aload_n 18 1 C dX3_settle_18 rfl ?_
  refine g_Pt_q 19 C (vp.o hi).1 (vp.o hi).2 lk_139 dX3_settle_19 ?_
  refine v_eqi (iZ (qu : Int)) ((w1.1 _ _).1.trans e8) ?_
  refine v_aload_n 22 1 C dX3_settle_22 rfl ?_
  refine g_Pt_b 23 C (vp.o hi).1 (vp.o hi).2 lk_141 dX3_settle_23 ?_
  refine v_eqi (iZ b_) ((w1.1 _ _).1.trans e9) ?_
  refine v_iload_n 26 2 C dX3_settle_26 rfl ?_
  refine v_aload_n 27 1 C dX3_settle_27 rfl ?_
  refine g_Pt_hingeB 28 C (vp.o hi).1 (vp.o hi).2 lk_125 dX3_settle_28 ?_
  refine v_callv 31 hA (rV_Pg 31 C L_RX3_253 lk_284 lk_8 (m_markOn hg hN hI (w1.RP (by omega) hP) (w1.RW hi4 hW) hqu hj (vp.B hi) hb (fun q => ⟨w1.RT1 (by rcases hid with h | ⟨K, h, h1, h2⟩; exact Or.inl h; exact Or.inr ⟨K, h, Or.inl (by omega)⟩) (hRq q).1, (hRq q).2⟩)) (vg.o hg) rfl ⟨rfl, rfl⟩ (rm_ok rfl) dX3_settle_31) (fun w5 h6 => ?_)
  obtain rfl := h6
  refine v_aload_n 34 1 C dX3_settle_34 rfl ?_
  refine v_iload_n 35 2 C dX3_settle_35 rfl ?_
  obtain ⟨S2, hS2⟩ : ∃ S2, S2 = mkT (mkT S (i + 1) j (PS t j pu) (PLx b t j pu a) (PLy b t j pu a)) (i + 5) j (PS t j qu) (PLx b t j qu b_) (PLy b t j qu b_) := ⟨_, rfl⟩
  rw [← hS2]
  have w2 : Wr S S2 i j := by rw [hS2]; exact w1.tr (Wr.mk (by omega))
  have s1 : gA S2 (i + 1 + 3) j = iZ (PS t j pu) := by rw [hS2, tw_o (by omega)]; exact mkT_s v1
  have s2 : gA S2 (i + 5 + 3) j = iZ (PS t j qu) := by rw [hS2]; exact mkT_s v2
  by_cases h0 : PS t j pu = 0 ∧ PS t j qu = 0
  · skip
    have x1 : gA S2 (i + 1 + 1) j = iZ (PLx b t j pu a) := by rw [hS2, tw_o (by omega)]; exact mkT_x h0.1
    have x2 : gA S2 (i + 1 + 2) j = iZ (PLy b t j pu a) := by rw [hS2, tw_o (by omega)]; exact mkT_y h0.1
    have x3 : gA S2 (i + 5 + 1) j = iZ (PLx b t j qu b_) := by rw [hS2]; exact mkT_x h0.2
    have x4 : gA S2 (i + 5 + 2) j = iZ (PLy b t j qu b_) := by rw [hS2]; exact mkT_y h0.2
    have bK : ∀ (u : Nat) (n : Int), thL b u → 0 ≤ n ∧ n ≤ 1000 → (2 ≤ u → RT1 S t (u / 2 - 1) j ∧ BD1 b t (u / 2 - 1) j ∧ b01 (t 4 (u / 2 - 1) j)) → PS t j u = 0 → bd (PLx b t j u n) ∧ bd (PLy b t j u n) := by
      intro u n hu hn hr h
      have h30 := hI.1.2
      have q := PL_b (b := b) (t := t) (s := j) (p := u) (n := n) (K := 32000) hj hn (by decide) (fun h2 => by
        have T := thL_lt hu h2
        have J := hI.2.2.2.2 _ T.1 (u - 2) (by omega)
        refine ⟨by omega, (hr h2).2.1, ?_, by omega⟩
        unfold PS at h; rw [if_neg (by omega)] at h; exact h)
      omega
    have b1 := bK pu a hpu ha hRp h0.1
    have b2 := bK qu b_ hqu hb hRq h0.2
    refine v_callv 36 hA (rV_Pt 36 C L_RX3_272 lk_320 lk_321 (m_fold s1 s2 h0.1 h0.2 hi hj x1 x2 ((w2.1 _ _).1.trans e13) ((w2.1 _ _).1.trans e14) ⟨by omega, by omega⟩ ⟨by omega, by omega⟩ b1.1 b1.2 x3 x4 ((w2.1 _ _).1.trans e10) hlf b2.1 b2.2) (vp.o hi) rfl ⟨rfl, rfl⟩ (rm_ok rfl) dX3_settle_36) (fun w8 h9 => ?_)
    obtain rfl := h9
    exact v_vret 39 C (set_fold w2 h0 x1 x2 x3 x4) dX3_settle_39
  · skip
    refine v_callv 36 hA (rV_Pt 36 C L_RX3_272 lk_320 lk_321 (m_fold_no hi hj s1 s2 v1 v2 h0) (vp.o hi) rfl ⟨rfl, rfl⟩ (rm_ok rfl) dX3_settle_36) (fun w11 h12 => ?_)
    obtain rfl := h12
    exact v_vret 39 C (⟨loseT S2 (i + 9) j, 1, rfl, w2.tr (Wr.lose (by omega)), by unfold loseT; rw [gA_pA, if_pos ⟨rfl, rfl⟩], Or.inr rfl, fun _ => rfl, fun q1 q2 => absurd ⟨q1, q2⟩ h0⟩) dX3_settle_39
