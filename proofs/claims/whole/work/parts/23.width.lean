/-! WIDTH -/
theorem idx62 {q : Nat} (h : q < 62) : q < 62 := h
set_option maxHeartbeats 4000000 in
set_option maxRecDepth 100000 in
theorem m_planeRaw {l : Launch} {D : va_G} {kc : Nat → ClassId} {N : Nat} {ad : Nat → Nat} {S : St} {q : Nat} {x : Option Nat} (hg : vg N) (hq : q < 62) (h : gR S 2 q = x) : MetK l yX3_planeThere cX3_planeThere 2 (some (FieldType.object "RisingPage$Plane")) 1 0 0 24 D kc (wl kc N ad S) [.ref (ad 0), .int (iZ (q : Int))] (QR D kc (wl kc N ad S) (fun r ws' => r = x.map ad ∧ ws' = wl kc N ad S)) := by
  refine MetK.of (by decide +kernel) (Nat.le_of_ble_eq_true rfl) ?_
  intro p e s m below meth c C
  have hA : ∀ q, s.heap.size ≤ q → va_A (wl kc N ad S) s.heap.size q := fun _ h => Or.inr h
  show V p l e { frames := 1, cells := 0, slots := 0, locals := 24 } s m ([.ref (ad 0), .int (iZ (q : Int))] : List Value).toArray below meth c (MQ below (QR D kc (wl kc N ad S) (fun r ws' => r = x.map ad ∧ ws' = wl kc N ad S) s.heap.size) ([.ref (ad 0), .int (iZ (q : Int))] : List Value).toArray s 0 0 (va_A (wl kc N ad S) s.heap.size)) D (va_A (wl kc N ad S) s.heap.size) 2 0 0 (wl kc N ad S) 0 [(0, .ref (ad 0)), (1, .int (iZ (q : Int)))] []
  refine v_iload_n 0 1 C dX3_planeThere_0 rfl ?_
  refine z_if_lt 1 19 C (by first | assumption | exact ⟨by omega, by omega⟩) dX3_planeThere_1 (by decide) (fun c1_0 => absurd c1_0 (by omega)) (fun c1_0 => ?_)
  refine v_iload_n 4 1 C dX3_planeThere_4 rfl ?_
  refine v_bipush 5 C (iZ 62) dX3_planeThere_5 (by decide) ?_
  refine z_icmp_ge 7 19 C (by first | assumption | exact ⟨by omega, by omega⟩) (by first | assumption | exact ⟨by omega, by omega⟩) dX3_planeThere_7 (by decide) (fun c7_1 => absurd c7_1 (by omega)) (fun c7_1 => ?_)
  refine v_aload_n 10 0 C dX3_planeThere_10 rfl ?_
  refine g_Pg_planes 11 C (vg.o hg).1 (vg.o hg).2 lk_210 dX3_planeThere_11 ?_
  refine v_iload_n 14 1 C dX3_planeThere_14 rfl ?_
  refine v_aaldL 15 C (vg.q hg).1 (vg.q hg).2 q (izn (by omega)) (by omega) dX3_planeThere_15 ?_
  rw [h]
  refine v_goto 16 20 C dX3_planeThere_16 (by decide) ?_
  exact v_aret 20 C (x.map ad) (rfl) (⟨rfl, rfl⟩) dX3_planeThere_20

/-- an end track E is marked up to the step s -/
def LI (S S' : St) (E s : Nat) (xs ys : Nat → Int) : Prop := (∀ m f, gI S' m f = gI S m f ∧ gL S' m f = gL S m f ∧ gJ S' m f = gJ S m f ∧ gR S' m f = gR S m f) ∧ (∀ m f, ¬ (E < m ∧ m ≤ E + 3) → gA S' m f = gA S m f) ∧ (∀ f, f < 17 → gA S' (E + 3) f = iZ 0) ∧ ∀ f, f < s → gA S' (E + 1) f = iZ (xs f) ∧ gA S' (E + 2) f = iZ (ys f)
theorem LI_step {S S' : St} {E s : Nat} {xs ys : Nat → Int} (h : LI S S' E s xs ys) : LI S (putT S' E s (xs s) (ys s)) E (s + 1) xs ys := by
  obtain ⟨h1, h2, h3, h4⟩ := h
  refine ⟨h1, fun m f q => ?_, fun f hf => ?_, fun f hf => ?_⟩
  · unfold putT; rw [gA_pA, if_neg (by omega), gA_pA, if_neg (by omega), gA_pA, if_neg (by omega)]; exact h2 m f q
  · by_cases e : f = s
    · rw [e]; exact putT_s
    · unfold putT; rw [gA_pA, if_neg (by omega), gA_pA, if_neg (by omega), gA_pA, if_neg (by omega)]; exact h3 f hf
  · by_cases e : f = s
    · rw [e]; exact ⟨putT_x, putT_y⟩
    · unfold putT; rw [gA_pA, if_neg (by omega), gA_pA, if_neg (by omega), gA_pA, if_neg (by omega), gA_pA, if_neg (by omega), gA_pA, if_neg (by omega), gA_pA, if_neg (by omega)]; exact h4 f (by omega)
def CL (S S' : St) (v : Int) : Prop := (gI S' 0 5 = iZ v ∧ gI S' 35 4 = iZ v ∧ gI S' 40 4 = iZ v) ∧ RW S' ∧ RE S' v ∧ (∀ m f, ¬ ((m = 0 ∧ f = 5) ∨ (m = 35 ∧ f = 4) ∨ (m = 40 ∧ f = 4)) → gI S' m f = gI S m f) ∧ (∀ m f, ¬ (36 < m ∧ m < 45) → gA S' m f = gA S m f) ∧ ∀ m f, gL S' m f = gL S m f ∧ gJ S' m f = gJ S m f ∧ gR S' m f = gR S m f
theorem CL_end {S S2 S4 : St} {v : Int} (hW : RW S) (h2 : LI (pI (pI S 0 5 (iZ v)) 35 4 (iZ v)) S2 36 17 (fun _ => v) (fun _ => 0)) (h4 : LI (pI S2 40 4 (iZ v)) S4 41 17 (fun s => rnd (wx s * v) 10000) (fun s => rnd (wy s * v) 10000)) : CL S S4 v := by
  obtain ⟨a1, a2, a3, a4⟩ := h2
  obtain ⟨c1, c2, c3, c4⟩ := h4
  have I : ∀ m f, gI S4 m f = gI (pI S2 40 4 (iZ v)) m f := fun m f => (c1 m f).1
  have A : ∀ m f, ¬ (36 < m ∧ m < 45) → gA S4 m f = gA S m f := fun m f q => by
    rw [c2 m f (by omega)]
    show gA S2 m f = _
    rw [a2 m f (by omega)]; rfl
  have A2 : ∀ m f, (m = 37 ∨ m = 38 ∨ m = 39) → gA S4 m f = gA S2 m f := fun m f q => by rw [c2 m f (by omega)]; rfl
  refine ⟨⟨?_, ?_, ?_⟩, fun s hs => ?_, fun s hs => ?_, fun m f q => ?_, A, fun m f => ⟨?_, ?_, ?_⟩⟩
  · rw [I, gI_pI, if_neg (by decide), (a1 0 5).1, gI_pI, if_neg (by decide), gI_pI, if_pos ⟨rfl, rfl⟩]
  · rw [I, gI_pI, if_neg (by decide), (a1 35 4).1, gI_pI, if_pos ⟨rfl, rfl⟩]
  · rw [I, gI_pI, if_pos ⟨rfl, rfl⟩]
  · rw [A 24 s (by omega), A 25 s (by omega), A 28 s (by omega), A 29 s (by omega), A 32 s (by omega), A 33 s (by omega), A2 39 s (by omega), c3 s hs]
    have := hW s hs
    exact ⟨this.1, this.2.1, this.2.2.1, a3 s hs, rfl⟩
  · rw [A2 37 s (by omega), A2 38 s (by omega)]
    exact ⟨a4 s hs, c4 s hs⟩
  · rw [I, gI_pI, if_neg (by omega), (a1 m f).1, gI_pI, if_neg (by omega), gI_pI, if_neg (by omega)]
  · exact (c1 m f).2.1.trans (a1 m f).2.1
  · exact (c1 m f).2.2.1.trans (a1 m f).2.2.1
  · exact (c1 m f).2.2.2.trans (a1 m f).2.2.2
theorem rnd_v (v : Int) : 0 + rnd ((10000 - 0) * v) 10000 = v := by rw [show (10000 - 0 : Int) = 10000 from rfl, rnd_self]; omega
theorem rnd_z (v : Int) : 0 + rnd ((0 - 0) * v) 10000 = 0 := by rw [rnd_0 (by decide)]; rfl
theorem rnd_w (w v : Int) : 0 + rnd ((w - 0) * v) 10000 = rnd (w * v) 10000 := by rw [show w - 0 = w by omega]; omega
set_option maxHeartbeats 4000000 in
set_option maxRecDepth 100000 in
theorem m_cutLeaves {l : Launch} {D : va_G} {kc : Nat → ClassId} {N : Nat} {ad : Nat → Nat} {S : St} {v : Int} (hg : vg N) (hv : 1 ≤ v ∧ v ≤ 1000) (hW : RW S) (p0 : gR S 2 0 = some 35) (p1 : gR S 2 1 = some 40) : MetK l yX3_cutLeaves cX3_cutLeaves 5 (none) 4 0 0 102 D kc (wl kc N ad S) [.ref (ad 0), .int (iZ v)] (QV D kc (wl kc N ad S) (fun ws' => ∃ S', ws' = wl kc N ad S' ∧ CL S S' v)) := by
  refine MetK.of (by decide +kernel) (Nat.le_of_ble_eq_true rfl) ?_
  intro p e s m below meth c C
  have hA : ∀ q, s.heap.size ≤ q → va_A (wl kc N ad S) s.heap.size q := fun _ h => Or.inr h
  show V p l e { frames := 4, cells := 0, slots := 0, locals := 102 } s m ([.ref (ad 0), .int (iZ v)] : List Value).toArray below meth c (MQ below (QV D kc (wl kc N ad S) (fun ws' => ∃ S', ws' = wl kc N ad S' ∧ CL S S' v) s.heap.size) ([.ref (ad 0), .int (iZ v)] : List Value).toArray s 0 0 (va_A (wl kc N ad S) s.heap.size)) D (va_A (wl kc N ad S) s.heap.size) 5 0 0 (wl kc N ad S) 0 [(0, .ref (ad 0)), (1, .int (iZ v))] []
  have in1 : ∀ (S2 : St) (h2 : LI (pI (pI S 0 5 (iZ v)) 35 4 (iZ v)) S2 36 17 (fun _ => v) (fun _ => 0)) (f s_ : Nat) (S4 : St), s_ + f = 17 → LI (pI S2 40 4 (iZ v)) S4 41 s_ (fun s => rnd (wx s * v) 10000) (fun s => rnd (wy s * v) 10000) → V p l e { frames := 4, cells := 0, slots := 0, locals := 102 } s m ([.ref (ad 0), .int (iZ v)] : List Value).toArray below meth c (MQ below (QV D kc (wl kc N ad S) (fun ws' => ∃ S', ws' = wl kc N ad S' ∧ CL S S' v) s.heap.size) ([.ref (ad 0), .int (iZ v)] : List Value).toArray s 0 0 (va_A (wl kc N ad S) s.heap.size)) D (va_A (wl kc N ad S) s.heap.size) 5 0 0 (wl kc N ad S4) 30 [(4, .int (iZ (s_ : Int))), (3, .ref (ad 40)), (2, .int (iZ 1)), (1, .int (iZ v)), (0, .ref (ad 0))] [] := by
    intro S2 h2 f
    induction f with
    | zero =>
      intro s_ S4 hs h4
      obtain rfl : s_ = 17 := by omega
      refine v_iload 30 0 C dX3_cutLeaves_30 rfl ?_
      refine v_bipush 32 C (iZ 17) dX3_cutLeaves_32 (by decide) ?_
      refine z_icmp_ge 34 54 C (by first | assumption | exact ⟨by omega, by omega⟩) (by first | assumption | exact ⟨by omega, by omega⟩) dX3_cutLeaves_34 (by decide) (fun c34_0 => ?_) (fun c34_0 => absurd (by decide) c34_0)
      refine v_iinc 54 2 (iZ 2) [(2, .int (iZ 2)), (4, .int (iZ ((17 : Nat) : Int))), (3, .ref (ad 40)), (1, .int (iZ v)), (0, .ref (ad 0))] C dX3_cutLeaves_54 rfl (by decide) (by decide) rfl ?_
      refine v_goto 57 7 C dX3_cutLeaves_57 (by decide) ?_
      refine v_iload_n 7 0 C dX3_cutLeaves_7 rfl ?_
      refine v_iconst 8 C (iZ 2) dX3_cutLeaves_8 rfl ?_
      refine z_icmp_ge 9 60 C (by first | assumption | exact ⟨by omega, by omega⟩) (by first | assumption | exact ⟨by omega, by omega⟩) dX3_cutLeaves_9 (by decide) (fun c9_1 => ?_) (fun c9_1 => absurd (by decide) c9_1)
      exact v_vret 60 C (⟨S4, rfl, CL_end hW h2 h4⟩) dX3_cutLeaves_60
    | succ f ih =>
      intro s_ S4 hs h4
      have hs17 : s_ < 17 := by omega
      have w0 := w_b s_ hs17
      have K := hW s_ hs17
      have A1 : ∀ m f, ¬ (36 < m ∧ m < 45) → gA S4 m f = gA S m f := fun m f q => by
        rw [h4.2.1 m f (by omega)]
        show gA S2 m f = _
        rw [h2.2.1 m f (by omega)]; rfl
      have g1 : gA S4 (pe 40 + 3) s_ = iZ 0 := h4.2.2.1 s_ hs17
      have g2 : gA S4 (pb 40 + 1) s_ = iZ 0 := (A1 24 s_ (by omega)).trans K.1.1
      have g3 : gA S4 (pb 40 + 2) s_ = iZ 0 := (A1 25 s_ (by omega)).trans K.1.2
      have g4 : gA S4 (pm 40 + 1) s_ = iZ (wx s_) := (A1 32 s_ (by omega)).trans K.2.2.1.1
      have g5 : gA S4 (pm 40 + 2) s_ = iZ (wy s_) := (A1 33 s_ (by omega)).trans K.2.2.1.2
      refine v_iload 30 0 C dX3_cutLeaves_30 rfl ?_
      refine v_bipush 32 C (iZ 17) dX3_cutLeaves_32 (by decide) ?_
      refine z_icmp_ge 34 54 C (by first | assumption | exact ⟨by omega, by omega⟩) (by first | assumption | exact ⟨by omega, by omega⟩) dX3_cutLeaves_34 (by decide) (fun c34_0 => absurd c34_0 (by omega)) (fun c34_0 => ?_)
      refine v_aload_n 37 1 C dX3_cutLeaves_37 rfl ?_
      refine v_iload_n 38 3 C dX3_cutLeaves_38 rfl ?_
      refine v_iload 39 0 C dX3_cutLeaves_39 rfl ?_
      refine v_aload_n 41 1 C dX3_cutLeaves_41 rfl ?_
      refine g_Pl_end 42 C (vl.o (vl_1 hg)).1 (vl.o (vl_1 hg)).2 lk_105 dX3_cutLeaves_42 ?_
      refine v_callv 45 hA (rV_Pl 45 C L_RX3_145 lk_190 lk_191 (m_mark (t := 41) (vl_1 hg) (vt_fix 41 (by have := hg; unfold vg at this; omega) rfl) hs17 g1 g2 g3 g4 g5 (show pf 40 = iZ 1 from rfl) (Or.inr rfl) (fun _ => rfl) (fun q => absurd q (by decide)) (by decide) (by omega) (by decide) (by decide) ⟨by omega, by omega⟩ ⟨by omega, by omega⟩) (vl.o (vl_1 hg)) rfl ⟨rfl, rfl⟩ (rm_ok rfl) dX3_cutLeaves_45) (fun w2 h3 => ?_)
      obtain rfl := h3
      rw [rnd_w, rnd_w]
      refine v_iinc 48 0 (iZ ((s_ + 1 : Nat) : Int)) [(4, .int (iZ ((s_ + 1 : Nat) : Int))), (3, .ref (ad 40)), (2, .int (iZ 1)), (1, .int (iZ v)), (0, .ref (ad 0))] C dX3_cutLeaves_48 rfl (iZ_add _ _) (by decide) rfl ?_
      refine v_goto 51 30 C dX3_cutLeaves_51 (by decide) ?_
      refine v_sub [0, 1, 2, 3, 4] rfl ?_
      exact ih (s_ + 1) _ (by omega) (LI_step (xs := (fun s => rnd (wx s * v) 10000)) (ys := (fun s => rnd (wy s * v) 10000)) h4)
  have in0 : ∀ (f s_ : Nat) (S4 : St), s_ + f = 17 → LI (pI (pI S 0 5 (iZ v)) 35 4 (iZ v)) S4 36 s_ (fun _ => v) (fun _ => 0) → V p l e { frames := 4, cells := 0, slots := 0, locals := 102 } s m ([.ref (ad 0), .int (iZ v)] : List Value).toArray below meth c (MQ below (QV D kc (wl kc N ad S) (fun ws' => ∃ S', ws' = wl kc N ad S' ∧ CL S S' v) s.heap.size) ([.ref (ad 0), .int (iZ v)] : List Value).toArray s 0 0 (va_A (wl kc N ad S) s.heap.size)) D (va_A (wl kc N ad S) s.heap.size) 5 0 0 (wl kc N ad S4) 30 [(4, .int (iZ (s_ : Int))), (3, .ref (ad 35)), (2, .int (iZ 0)), (1, .int (iZ v)), (0, .ref (ad 0))] [] := by
    intro f
    induction f with
    | zero =>
      intro s_ S4 hs h4
      obtain rfl : s_ = 17 := by omega
      refine v_iload 30 0 C dX3_cutLeaves_30 rfl ?_
      refine v_bipush 32 C (iZ 17) dX3_cutLeaves_32 (by decide) ?_
      refine z_icmp_ge 34 54 C (by first | assumption | exact ⟨by omega, by omega⟩) (by first | assumption | exact ⟨by omega, by omega⟩) dX3_cutLeaves_34 (by decide) (fun c34_0 => ?_) (fun c34_0 => absurd (by decide) c34_0)
      refine v_iinc 54 2 (iZ ((1 : Nat) : Int)) [(2, .int (iZ ((1 : Nat) : Int))), (4, .int (iZ ((17 : Nat) : Int))), (3, .ref (ad 35)), (1, .int (iZ v)), (0, .ref (ad 0))] C dX3_cutLeaves_54 rfl (by decide) (by decide) rfl ?_
      refine v_goto 57 7 C dX3_cutLeaves_57 (by decide) ?_
      refine v_iload_n 7 0 C dX3_cutLeaves_7 rfl ?_
      refine v_iconst 8 C (iZ 2) dX3_cutLeaves_8 rfl ?_
      refine z_icmp_ge 9 60 C (by first | assumption | exact ⟨by omega, by omega⟩) (by first | assumption | exact ⟨by omega, by omega⟩) dX3_cutLeaves_9 (by decide) (fun c9_1 => absurd c9_1 (by decide)) (fun c9_1 => ?_)
      refine v_aload_n 12 4 C dX3_cutLeaves_12 rfl ?_
      refine v_iload_n 13 0 C dX3_cutLeaves_13 rfl ?_
      refine v_callq 14 hA (rV_Pg 14 C L_RX3_138 lk_187 lk_1 (m_planeRaw hg (show 1 < 62 by decide) ((h4.1 2 1).2.2.2.trans p1)) (vg.o hg) rfl ⟨rfl, rfl⟩ (rm_ok rfl) dX3_cutLeaves_14) (fun r4 w5 h6 => ?_)
      obtain ⟨e_r4, rfl⟩ := h6
      refine v_eqv (.ref (ad 40)) (by rw [e_r4]; rfl) ?_
      refine v_astore_n 17 [(3, .ref (ad 40)), (2, .int (iZ ((1 : Nat) : Int))), (4, .int (iZ ((17 : Nat) : Int))), (1, .int (iZ v)), (0, .ref (ad 0))] C dX3_cutLeaves_17 (by decide) rfl ?_
      refine v_aload_n 18 0 C dX3_cutLeaves_18 rfl ?_
      refine v_ifnull 19 C dX3_cutLeaves_19 ?_
      refine v_aload_n 22 0 C dX3_cutLeaves_22 rfl ?_
      refine v_iload_n 23 3 C dX3_cutLeaves_23 rfl ?_
      refine s_Pl_size 24 C (vl.o (vl_1 hg)).1 (vl.o (vl_1 hg)).2 lk_110 dX3_cutLeaves_24 ?_
      refine v_iconst 27 C (iZ 0) dX3_cutLeaves_27 rfl ?_
      refine v_istore 28 [(4, .int (iZ 0)), (3, .ref (ad 40)), (2, .int (iZ ((1 : Nat) : Int))), (1, .int (iZ v)), (0, .ref (ad 0))] C dX3_cutLeaves_28 (by decide) rfl ?_
      refine v_sub [0, 1, 2, 3, 4] rfl ?_
      exact in1 S4 h4 17 0 _ (by omega) ⟨fun _ _ => ⟨rfl, rfl, rfl, rfl⟩, fun _ _ _ => rfl, fun f hf => (h4.2.1 44 f (by omega)).trans (hW f hf).2.2.2.2, fun f hf => absurd hf (by omega)⟩
    | succ f ih =>
      intro s_ S4 hs h4
      have hs17 : s_ < 17 := by omega
      have w0 := w_b s_ hs17
      have K := hW s_ hs17
      have A1 : ∀ m f, ¬ (36 < m ∧ m ≤ 39) → gA S4 m f = gA S m f := fun m f q => by rw [h4.2.1 m f (by omega)]; rfl
      have g1 : gA S4 (pe 35 + 3) s_ = iZ 0 := h4.2.2.1 s_ hs17
      have g2 : gA S4 (pb 35 + 1) s_ = iZ 0 := (A1 24 s_ (by omega)).trans K.1.1
      have g3 : gA S4 (pb 35 + 2) s_ = iZ 0 := (A1 25 s_ (by omega)).trans K.1.2
      have g4 : gA S4 (pm 35 + 1) s_ = iZ 10000 := (A1 28 s_ (by omega)).trans K.2.1.1
      have g5 : gA S4 (pm 35 + 2) s_ = iZ 0 := (A1 29 s_ (by omega)).trans K.2.1.2
      refine v_iload 30 0 C dX3_cutLeaves_30 rfl ?_
      refine v_bipush 32 C (iZ 17) dX3_cutLeaves_32 (by decide) ?_
      refine z_icmp_ge 34 54 C (by first | assumption | exact ⟨by omega, by omega⟩) (by first | assumption | exact ⟨by omega, by omega⟩) dX3_cutLeaves_34 (by decide) (fun c34_0 => absurd c34_0 (by omega)) (fun c34_0 => ?_)
      refine v_aload_n 37 1 C dX3_cutLeaves_37 rfl ?_
      refine v_iload_n 38 3 C dX3_cutLeaves_38 rfl ?_
      refine v_iload 39 0 C dX3_cutLeaves_39 rfl ?_
      refine v_aload_n 41 1 C dX3_cutLeaves_41 rfl ?_
      refine g_Pl_end 42 C (vl.o (vl_0 hg)).1 (vl.o (vl_0 hg)).2 lk_105 dX3_cutLeaves_42 ?_
      refine v_callv 45 hA (rV_Pl 45 C L_RX3_145 lk_190 lk_191 (m_mark (t := 36) (vl_0 hg) (vt_fix 36 (by have := hg; unfold vg at this; omega) rfl) hs17 g1 g2 g3 g4 g5 (show pf 35 = iZ 1 from rfl) (Or.inr rfl) (fun _ => rfl) (fun q => absurd q (by decide)) (by decide) (by omega) (by decide) (by decide) (by decide) (by decide)) (vl.o (vl_0 hg)) rfl ⟨rfl, rfl⟩ (rm_ok rfl) dX3_cutLeaves_45) (fun w8 h9 => ?_)
      obtain rfl := h9
      rw [rnd_v, rnd_z]
      refine v_iinc 48 0 (iZ ((s_ + 1 : Nat) : Int)) [(4, .int (iZ ((s_ + 1 : Nat) : Int))), (3, .ref (ad 35)), (2, .int (iZ 0)), (1, .int (iZ v)), (0, .ref (ad 0))] C dX3_cutLeaves_48 rfl (iZ_add _ _) (by decide) rfl ?_
      refine v_goto 51 30 C dX3_cutLeaves_51 (by decide) ?_
      refine v_sub [0, 1, 2, 3, 4] rfl ?_
      exact ih (s_ + 1) _ (by omega) (LI_step (xs := (fun _ => v)) (ys := (fun _ => 0)) h4)
  refine v_aload_n 0 0 C dX3_cutLeaves_0 rfl ?_
  refine v_iload_n 1 1 C dX3_cutLeaves_1 rfl ?_
  refine s_Pg_pageWidth 2 C (vg.o hg).1 (vg.o hg).2 lk_214 dX3_cutLeaves_2 ?_
  refine v_iconst 5 C (iZ 0) dX3_cutLeaves_5 rfl ?_
  refine v_eqi (iZ ((0 : Nat) : Int)) (rfl) ?_
  refine v_istore_n 6 [(2, .int (iZ ((0 : Nat) : Int))), (0, .ref (ad 0)), (1, .int (iZ v))] C dX3_cutLeaves_6 (by decide) rfl ?_
  refine v_iload_n 7 0 C dX3_cutLeaves_7 rfl ?_
  refine v_iconst 8 C (iZ 2) dX3_cutLeaves_8 rfl ?_
  refine z_icmp_ge 9 60 C (by first | assumption | exact ⟨by omega, by omega⟩) (by first | assumption | exact ⟨by omega, by omega⟩) dX3_cutLeaves_9 (by decide) (fun c9_0 => absurd c9_0 (by decide)) (fun c9_0 => ?_)
  refine v_aload_n 12 1 C dX3_cutLeaves_12 rfl ?_
  refine v_iload_n 13 0 C dX3_cutLeaves_13 rfl ?_
  refine v_callq 14 hA (rV_Pg 14 C L_RX3_138 lk_187 lk_1 (m_planeRaw hg (show 0 < 62 by decide) (p0)) (vg.o hg) rfl ⟨rfl, rfl⟩ (rm_ok rfl) dX3_cutLeaves_14) (fun r10 w11 h12 => ?_)
  obtain ⟨e_r10, rfl⟩ := h12
  refine v_eqv (.ref (ad 35)) (by rw [e_r10]; rfl) ?_
  refine v_astore_n 17 [(3, .ref (ad 35)), (2, .int (iZ ((0 : Nat) : Int))), (0, .ref (ad 0)), (1, .int (iZ v))] C dX3_cutLeaves_17 (by decide) rfl ?_
  refine v_aload_n 18 0 C dX3_cutLeaves_18 rfl ?_
  refine v_ifnull 19 C dX3_cutLeaves_19 ?_
  refine v_aload_n 22 0 C dX3_cutLeaves_22 rfl ?_
  refine v_iload_n 23 3 C dX3_cutLeaves_23 rfl ?_
  refine s_Pl_size 24 C (vl.o (vl_0 hg)).1 (vl.o (vl_0 hg)).2 lk_110 dX3_cutLeaves_24 ?_
  refine v_iconst 27 C (iZ 0) dX3_cutLeaves_27 rfl ?_
  refine v_istore 28 [(4, .int (iZ 0)), (3, .ref (ad 35)), (2, .int (iZ ((0 : Nat) : Int))), (0, .ref (ad 0)), (1, .int (iZ v))] C dX3_cutLeaves_28 (by decide) rfl ?_
  refine v_sub [0, 1, 2, 4, 3] rfl ?_
  exact in0 17 0 _ (by omega) ⟨fun _ _ => ⟨rfl, rfl, rfl, rfl⟩, fun _ _ _ => rfl, fun f hf => (hW f hf).2.2.2.1, fun f hf => absurd hf (by omega)⟩

set_option maxHeartbeats 4000000 in
set_option maxRecDepth 100000 in
theorem c_width_3 {l : Launch} {D : va_G} {kc : Nat → ClassId} {N : Nat} {ad : Nat → Nat} {S : St} {b : Bs} {t : Ts} (hg : vg N) (hN : N = 66 + 15 * bn b) (hI : Inv b) (hC : RC S b t) (hE : LE b t) {v : Int} (rv : r32 v) (h : 0 < thC b) : MetK l yX3_width cX3_width 3 (some FieldType.int) 5 0 0 126 D kc (wl kc N ad S) [.ref (ad 0), .int (iZ v)] (QI D kc (wl kc N ad S) (cQ kc N ad S (-3) (refB b 3))) := by
  refine MetK.of (by decide +kernel) (Nat.le_of_ble_eq_true rfl) ?_
  intro p e s m below meth c C
  have hA : ∀ q, s.heap.size ≤ q → va_A (wl kc N ad S) s.heap.size q := fun _ h => Or.inr h
  show V p l e { frames := 5, cells := 0, slots := 0, locals := 126 } s m ([.ref (ad 0), .int (iZ v)] : List Value).toArray below meth c (MQ below (QI D kc (wl kc N ad S) (cQ kc N ad S (-3) (refB b 3)) s.heap.size) ([.ref (ad 0), .int (iZ v)] : List Value).toArray s 0 0 (va_A (wl kc N ad S) s.heap.size)) D (va_A (wl kc N ad S) s.heap.size) 3 0 0 (wl kc N ad S) 0 [(0, .ref (ad 0)), (1, .int (iZ v))] []
  have hP := hC.1
  have hW := hC.2.1
  have hEn := hC.2.2.1
  have hR := hC.2.2.2
  have hb0 := hI.1
  have hcb := cnt_b (thP b) (bn b)
  have hth : thC b = cnt (thP b) (bn b) := rfl
  refine v_aload_n 0 0 C dX3_width_0 rfl ?_
  refine v_calli 1 hA (rV_Pg 1 C L_RX3_58 lk_240 lk_2 (m_partsThere hg hN hI hP) (vg.o hg) rfl ⟨rfl, rfl⟩ (rm_ok rfl) dX3_width_1) (fun r1 w2 h3 => ?_)
  obtain ⟨e_r1, rfl⟩ := h3
  refine v_eqi (iZ (thC b)) (e_r1) ?_
  refine z_if_le 4 14 C (by first | assumption | exact ⟨by omega, by omega⟩) dX3_width_4 (by decide) (fun c4_0 => absurd c4_0 (by omega)) (fun c4_0 => ?_)
  refine v_aload_n 7 0 C dX3_width_7 rfl ?_
  refine v_bipush 8 C (iZ (-3)) dX3_width_8 (by decide) ?_
  refine v_calli 10 hA (rV_Pg 10 C L_RX3_62 lk_252 lk_5 (m_refuse hg hN hI hP 3 (by decide) (by decide)) (vg.o hg) rfl ⟨rfl, rfl⟩ (rm_ok rfl) dX3_width_10) (fun r4 w5 h6 => ?_)
  obtain ⟨e_r4, rfl⟩ := h6
  refine v_eqi (iZ (-3)) (e_r4) ?_
  exact v_iret 13 C (⟨rfl, refS S b 3, t, rfl, refRC hC, refLE hE, refInv hI, refM⟩) dX3_width_13

set_option maxHeartbeats 4000000 in
set_option maxRecDepth 100000 in
theorem c_width_4 {l : Launch} {D : va_G} {kc : Nat → ClassId} {N : Nat} {ad : Nat → Nat} {S : St} {b : Bs} {t : Ts} (hg : vg N) (hN : N = 66 + 15 * bn b) (hI : Inv b) (hC : RC S b t) (hE : LE b t) {v : Int} (rv : r32 v) (h : ¬ 0 < thC b) (hv : v < 1) : MetK l yX3_width cX3_width 3 (some FieldType.int) 5 0 0 126 D kc (wl kc N ad S) [.ref (ad 0), .int (iZ v)] (QI D kc (wl kc N ad S) (cQ kc N ad S (-4) (refB b 4))) := by
  refine MetK.of (by decide +kernel) (Nat.le_of_ble_eq_true rfl) ?_
  intro p e s m below meth c C
  have hA : ∀ q, s.heap.size ≤ q → va_A (wl kc N ad S) s.heap.size q := fun _ h => Or.inr h
  show V p l e { frames := 5, cells := 0, slots := 0, locals := 126 } s m ([.ref (ad 0), .int (iZ v)] : List Value).toArray below meth c (MQ below (QI D kc (wl kc N ad S) (cQ kc N ad S (-4) (refB b 4)) s.heap.size) ([.ref (ad 0), .int (iZ v)] : List Value).toArray s 0 0 (va_A (wl kc N ad S) s.heap.size)) D (va_A (wl kc N ad S) s.heap.size) 3 0 0 (wl kc N ad S) 0 [(0, .ref (ad 0)), (1, .int (iZ v))] []
  have hP := hC.1
  have hW := hC.2.1
  have hEn := hC.2.2.1
  have hR := hC.2.2.2
  have hb0 := hI.1
  have hcb := cnt_b (thP b) (bn b)
  have hth : thC b = cnt (thP b) (bn b) := rfl
  refine v_aload_n 0 0 C dX3_width_0 rfl ?_
  refine v_calli 1 hA (rV_Pg 1 C L_RX3_58 lk_240 lk_2 (m_partsThere hg hN hI hP) (vg.o hg) rfl ⟨rfl, rfl⟩ (rm_ok rfl) dX3_width_1) (fun r1 w2 h3 => ?_)
  obtain ⟨e_r1, rfl⟩ := h3
  refine v_eqi (iZ (thC b)) (e_r1) ?_
  refine z_if_le 4 14 C (by first | assumption | exact ⟨by omega, by omega⟩) dX3_width_4 (by decide) (fun c4_0 => ?_) (fun c4_0 => absurd (by omega) c4_0)
  refine v_iload_n 14 1 C dX3_width_14 rfl ?_
  refine v_iconst 15 C (iZ 1) dX3_width_15 rfl ?_
  refine z_icmp_ge 16 26 C (by first | assumption | exact ⟨by omega, by omega⟩) (by first | assumption | exact ⟨by omega, by omega⟩) dX3_width_16 (by decide) (fun c16_1 => absurd c16_1 (by omega)) (fun c16_1 => ?_)
  refine v_aload_n 19 0 C dX3_width_19 rfl ?_
  refine v_bipush 20 C (iZ (-4)) dX3_width_20 (by decide) ?_
  refine v_calli 22 hA (rV_Pg 22 C L_RX3_62 lk_252 lk_5 (m_refuse hg hN hI hP 4 (by decide) (by decide)) (vg.o hg) rfl ⟨rfl, rfl⟩ (rm_ok rfl) dX3_width_22) (fun r4 w5 h6 => ?_)
  obtain ⟨e_r4, rfl⟩ := h6
  refine v_eqi (iZ (-4)) (e_r4) ?_
  exact v_iret 25 C (⟨rfl, refS S b 4, t, rfl, refRC hC, refLE hE, refInv hI, refM⟩) dX3_width_25

set_option maxHeartbeats 4000000 in
set_option maxRecDepth 100000 in
theorem c_width_6 {l : Launch} {D : va_G} {kc : Nat → ClassId} {N : Nat} {ad : Nat → Nat} {S : St} {b : Bs} {t : Ts} (hg : vg N) (hN : N = 66 + 15 * bn b) (hI : Inv b) (hC : RC S b t) (hE : LE b t) {v : Int} (rv : r32 v) (h : ¬ 0 < thC b) (hv : 1000 < v) : MetK l yX3_width cX3_width 3 (some FieldType.int) 5 0 0 126 D kc (wl kc N ad S) [.ref (ad 0), .int (iZ v)] (QI D kc (wl kc N ad S) (cQ kc N ad S (-6) (refB b 6))) := by
  refine MetK.of (by decide +kernel) (Nat.le_of_ble_eq_true rfl) ?_
  intro p e s m below meth c C
  have hA : ∀ q, s.heap.size ≤ q → va_A (wl kc N ad S) s.heap.size q := fun _ h => Or.inr h
  show V p l e { frames := 5, cells := 0, slots := 0, locals := 126 } s m ([.ref (ad 0), .int (iZ v)] : List Value).toArray below meth c (MQ below (QI D kc (wl kc N ad S) (cQ kc N ad S (-6) (refB b 6)) s.heap.size) ([.ref (ad 0), .int (iZ v)] : List Value).toArray s 0 0 (va_A (wl kc N ad S) s.heap.size)) D (va_A (wl kc N ad S) s.heap.size) 3 0 0 (wl kc N ad S) 0 [(0, .ref (ad 0)), (1, .int (iZ v))] []
  have hP := hC.1
  have hW := hC.2.1
  have hEn := hC.2.2.1
  have hR := hC.2.2.2
  have hb0 := hI.1
  have hcb := cnt_b (thP b) (bn b)
  have hth : thC b = cnt (thP b) (bn b) := rfl
  refine v_aload_n 0 0 C dX3_width_0 rfl ?_
  refine v_calli 1 hA (rV_Pg 1 C L_RX3_58 lk_240 lk_2 (m_partsThere hg hN hI hP) (vg.o hg) rfl ⟨rfl, rfl⟩ (rm_ok rfl) dX3_width_1) (fun r1 w2 h3 => ?_)
  obtain ⟨e_r1, rfl⟩ := h3
  refine v_eqi (iZ (thC b)) (e_r1) ?_
  refine z_if_le 4 14 C (by first | assumption | exact ⟨by omega, by omega⟩) dX3_width_4 (by decide) (fun c4_0 => ?_) (fun c4_0 => absurd (by omega) c4_0)
  refine v_iload_n 14 1 C dX3_width_14 rfl ?_
  refine v_iconst 15 C (iZ 1) dX3_width_15 rfl ?_
  refine z_icmp_ge 16 26 C (by first | assumption | exact ⟨by omega, by omega⟩) (by first | assumption | exact ⟨by omega, by omega⟩) dX3_width_16 (by decide) (fun c16_1 => ?_) (fun c16_1 => absurd (by omega) c16_1)
  refine v_iload_n 26 1 C dX3_width_26 rfl ?_
  refine v_sipush 27 C (iZ 1000) dX3_width_27 (by decide) ?_
  refine z_icmp_le 30 40 C (by first | assumption | exact ⟨by omega, by omega⟩) (by first | assumption | exact ⟨by omega, by omega⟩) dX3_width_30 (by decide) (fun c30_2 => absurd c30_2 (by omega)) (fun c30_2 => ?_)
  refine v_aload_n 33 0 C dX3_width_33 rfl ?_
  refine v_bipush 34 C (iZ (-6)) dX3_width_34 (by decide) ?_
  refine v_calli 36 hA (rV_Pg 36 C L_RX3_62 lk_252 lk_5 (m_refuse hg hN hI hP 6 (by decide) (by decide)) (vg.o hg) rfl ⟨rfl, rfl⟩ (rm_ok rfl) dX3_width_36) (fun r4 w5 h6 => ?_)
  obtain ⟨e_r4, rfl⟩ := h6
  refine v_eqi (iZ (-6)) (e_r4) ?_
  exact v_iret 39 C (⟨rfl, refS S b 6, t, rfl, refRC hC, refLE hE, refInv hI, refM⟩) dX3_width_39

theorem none_th {b : Bs} (hI : Inv b) (h : ¬ 0 < thC b) : ∀ k, k < bn b → ¬ b 8 k = 1 := fun k hk q => by
  have := cnt_0 _ h k hk
  unfold thP at this
  exact of_decide_eq_false this q
theorem wdInv {b : Bs} {v : Int} (hI : Inv b) (hv : 1 ≤ v ∧ v ≤ 1000) : Inv (upB b 1 0 v) := ⟨hI.1, hv, hI.2.2⟩
theorem wdRC {S S' : St} {b : Bs} {t : Ts} {v : Int} (hI : Inv b) (hC : RC S b t) (h : ¬ 0 < thC b) (hc : CL S S' v) : RC S' (upB b 1 0 v) t := by
  obtain ⟨⟨⟨a1, a2, a3⟩, a4, a5, a6, ⟨a7, a8⟩, a9⟩, hw, he, ht⟩ := hC
  obtain ⟨⟨c1, c2, c3⟩, c4, c5, c6, c7, c8⟩ := hc
  refine ⟨⟨⟨c1, ?_, ?_⟩, fun r hr => ?_, fun k hk => ?_, fun p hp => ?_, ⟨c2, c3⟩, fun k hk => ?_⟩, c4, c5, fun k h1 h2 h3 => absurd h3 (none_th hI h k h2)⟩
  · rw [c6 _ _ (by omega)]; exact a2
  · rw [c6 _ _ (by omega)]; exact a3
  · rw [c7 _ _ (by omega)]; exact a4 r hr
  · rw [(c8 1 k).2.2]; exact a5 k hk
  · rw [(c8 2 p).2.2]; exact a6 p hp
  · rw [c6 _ _ (by omega), c6 _ _ (by omega), c6 _ _ (by omega), c6 _ _ (by omega), c6 _ _ (by omega), c6 _ _ (by omega), c6 _ _ (by omega), c6 _ _ (by omega), c6 _ _ (by omega)]
    exact a9 k hk
theorem wdM {S S' : St} {v : Int} (hc : CL S S' v) : sameOn atM S S' := fun m hm f => ⟨hc.2.2.2.1 m f (by have := hm.1; omega), hc.2.2.2.2.1 m f (by have := hm.1; omega), (hc.2.2.2.2.2 m f).1, (hc.2.2.2.2.2 m f).2.1, (hc.2.2.2.2.2 m f).2.2⟩
theorem wdLE {b : Bs} {t : Ts} {v : Int} (hI : Inv b) (h : ¬ 0 < thC b) : LE (upB b 1 0 v) t := fun k _ h2 h3 => absurd h3 (none_th hI h k h2)
set_option maxHeartbeats 4000000 in
set_option maxRecDepth 100000 in
theorem c_width {l : Launch} {D : va_G} {kc : Nat → ClassId} {N : Nat} {ad : Nat → Nat} {S : St} {b : Bs} {t : Ts} (hg : vg N) (hN : N = 66 + 15 * bn b) (hI : Inv b) (hC : RC S b t) (hE : LE b t) {v : Int} (rv : r32 v) (h : ¬ 0 < thC b) (hv : 1 ≤ v ∧ v ≤ 1000) : MetK l yX3_width cX3_width 3 (some FieldType.int) 5 0 0 126 D kc (wl kc N ad S) [.ref (ad 0), .int (iZ v)] (QI D kc (wl kc N ad S) (cQ kc N ad S (b 1 0) (upB b 1 0 v))) := by
  refine MetK.of (by decide +kernel) (Nat.le_of_ble_eq_true rfl) ?_
  intro p e s m below meth c C
  have hA : ∀ q, s.heap.size ≤ q → va_A (wl kc N ad S) s.heap.size q := fun _ h => Or.inr h
  show V p l e { frames := 5, cells := 0, slots := 0, locals := 126 } s m ([.ref (ad 0), .int (iZ v)] : List Value).toArray below meth c (MQ below (QI D kc (wl kc N ad S) (cQ kc N ad S (b 1 0) (upB b 1 0 v)) s.heap.size) ([.ref (ad 0), .int (iZ v)] : List Value).toArray s 0 0 (va_A (wl kc N ad S) s.heap.size)) D (va_A (wl kc N ad S) s.heap.size) 3 0 0 (wl kc N ad S) 0 [(0, .ref (ad 0)), (1, .int (iZ v))] []
  have hP := hC.1
  have hW := hC.2.1
  have hEn := hC.2.2.1
  have hR := hC.2.2.2
  have hb0 := hI.1
  have hcb := cnt_b (thP b) (bn b)
  have hth : thC b = cnt (thP b) (bn b) := rfl
  refine v_aload_n 0 0 C dX3_width_0 rfl ?_
  refine v_calli 1 hA (rV_Pg 1 C L_RX3_58 lk_240 lk_2 (m_partsThere hg hN hI hP) (vg.o hg) rfl ⟨rfl, rfl⟩ (rm_ok rfl) dX3_width_1) (fun r1 w2 h3 => ?_)
  obtain ⟨e_r1, rfl⟩ := h3
  refine v_eqi (iZ (thC b)) (e_r1) ?_
  refine z_if_le 4 14 C (by first | assumption | exact ⟨by omega, by omega⟩) dX3_width_4 (by decide) (fun c4_0 => ?_) (fun c4_0 => absurd (by omega) c4_0)
  refine v_iload_n 14 1 C dX3_width_14 rfl ?_
  refine v_iconst 15 C (iZ 1) dX3_width_15 rfl ?_
  refine z_icmp_ge 16 26 C (by first | assumption | exact ⟨by omega, by omega⟩) (by first | assumption | exact ⟨by omega, by omega⟩) dX3_width_16 (by decide) (fun c16_1 => ?_) (fun c16_1 => absurd (by omega) c16_1)
  refine v_iload_n 26 1 C dX3_width_26 rfl ?_
  refine v_sipush 27 C (iZ 1000) dX3_width_27 (by decide) ?_
  refine z_icmp_le 30 40 C (by first | assumption | exact ⟨by omega, by omega⟩) (by first | assumption | exact ⟨by omega, by omega⟩) dX3_width_30 (by decide) (fun c30_2 => ?_) (fun c30_2 => absurd (by omega) c30_2)
  refine v_aload_n 40 0 C dX3_width_40 rfl ?_
  refine g_Pg_pageWidth 41 C (vg.o hg).1 (vg.o hg).2 lk_214 dX3_width_41 ?_
  refine v_eqi (iZ (b 1 0)) (hP.1.1) ?_
  refine v_istore_n 44 [(2, .int (iZ (b 1 0))), (0, .ref (ad 0)), (1, .int (iZ v))] C dX3_width_44 (by decide) rfl ?_
  refine v_aload_n 45 1 C dX3_width_45 rfl ?_
  refine v_iload_n 46 2 C dX3_width_46 rfl ?_
  refine v_callv 47 hA (rV_Pg 47 C L_RX3_54 lk_183 lk_0 (m_cutLeaves hg hv hW ((hP.2.2.2.1 0 (by decide)).trans (plI_y (Or.inl (by decide)))) ((hP.2.2.2.1 1 (by decide)).trans (plI_y (Or.inl (by decide))))) (vg.o hg) rfl ⟨rfl, rfl⟩ (rm_ok rfl) dX3_width_47) (fun w5 h6 => ?_)
  obtain ⟨S2, rfl, hc⟩ := h6
  refine v_iload_n 50 0 C dX3_width_50 rfl ?_
  exact v_iret 51 C (⟨rfl, S2, t, rfl, wdRC hI hC h hc, wdLE hI h, wdInv hI hv, wdM hc⟩) dX3_width_51
