/-! PAGE: what is read off the places -/
theorem cr_01 {b : Bs} {t : Ts} {k j : Nat} (hE : LE b t) (hk : k < bn b) (ht : b 8 k = 1) (hj : j < 17) : b01 (t 4 k j) := (hE k hk hk ht j hj).1
theorem cr_s {S : St} {b : Bs} {t : Ts} {k j : Nat} (hR : RTk S b t (bn b)) (hk : k < bn b) (ht : b 8 k = 1) (hj : j < 17) : gA S (66 + 15 * k + 9 + 3) j = iZ (t 4 k j) := (hR k hk hk ht j hj).1
theorem bd_k {b : Bs} {t : Ts} {k j : Nat} (hI : Inv b) (hE : LE b t) (hk : k < bn b) (ht : b 8 k = 1) (hj : j < 17) (h0 : t 4 k j = 0) : (bd (t 2 k j) ∧ bd (t 3 k j)) ∧ ∀ i, (i = 2 * k ∨ i = 2 * k + 1) → bd (t 0 i j) ∧ bd (t 1 i j) := by
  have B := LE_bd hI hE (k + 1) k (by omega) hk hk ht j hj h0
  have h30 := hI.1.2
  have J := hI.2.2.2.2 k hk (2 * k) (Or.inl rfl)
  have B0 := B (2 * k) (Or.inl rfl)
  refine ⟨by omega, fun i hi => ?_⟩
  have B1 := B i hi
  omega
theorem cr_xy {S : St} {b : Bs} {t : Ts} {k j : Nat} (hI : Inv b) (hR : RTk S b t (bn b)) (hE : LE b t) (hk : k < bn b) (ht : b 8 k = 1) (hj : j < 17) (h0 : t 4 k j = 0) : gA S (66 + 15 * k + 9 + 1) j = iZ (t 2 k j) ∧ gA S (66 + 15 * k + 9 + 2) j = iZ (t 3 k j) ∧ bd (t 2 k j) ∧ bd (t 3 k j) := by
  have h1 := ((hR k hk hk ht j hj).2 h0).2.2
  have h2 := (bd_k hI hE hk ht hj h0).1
  exact ⟨h1.1, h1.2, h2.1, h2.2⟩
theorem hi_xy {S : St} {b : Bs} {t : Ts} {k j : Nat} (hI : Inv b) (hR : RTk S b t (bn b)) (hE : LE b t) (hk : k < bn b) (ht : b 8 k = 1) (hj : j < 17) (h0 : t 4 k j = 0) : (gA S (66 + 15 * k + 1 + 1) j = iZ (t 0 (2 * k) j) ∧ gA S (66 + 15 * k + 1 + 2) j = iZ (t 1 (2 * k) j) ∧ gA S (66 + 15 * k + 5 + 1) j = iZ (t 0 (2 * k + 1) j) ∧ gA S (66 + 15 * k + 5 + 2) j = iZ (t 1 (2 * k + 1) j)) ∧ (bd (t 0 (2 * k) j) ∧ bd (t 1 (2 * k) j)) ∧ bd (t 0 (2 * k + 1) j) ∧ bd (t 1 (2 * k + 1) j) := by
  have h1 := (hR k hk hk ht j hj).2 h0
  have h2 := (bd_k hI hE hk ht hj h0).2
  exact ⟨⟨h1.1.1, h1.1.2, h1.2.1.1, h1.2.1.2⟩, h2 _ (Or.inl rfl), h2 _ (Or.inr rfl)⟩
/-- a crease that is not in the page -/
def outP (b : Bs) (t : Ts) (j k : Nat) : Bool := decide (b 8 k = 1) && decide (t 4 k j = 0) && (decide (t 2 k j < (if j = 0 then 0 else -(b 1 0)) ∨ b 1 0 < t 2 k j) || decide (b 2 0 < ((t 3 k j).natAbs : Int)))
def outN (b : Bs) (t : Ts) (j : Nat) : Int := if j = 0 ∨ j = 16 then cnt (outP b t j) (bn b) else 0
/-- the tallest of the first parts -/
def tlF (b : Bs) (t : Ts) (j : Nat) : Nat → Option Int
  | 0 => none
  | n + 1 => if b 8 n = 1 ∧ t 4 n j = 0 then some (match tlF b t j n with | none => t 3 n j | some m => max m (t 3 n j)) else tlF b t j n
def tlN (b : Bs) (t : Ts) (j : Nat) : Int := (tlF b t j (bn b)).getD 0
set_option maxHeartbeats 4000000 in
set_option maxRecDepth 100000 in
theorem m_outside {l : Launch} {D : va_G} {kc : Nat → ClassId} {N : Nat} {ad : Nat → Nat} {S : St} {b : Bs} (hg : vg N) (hN : N = 66 + 15 * bn b) (hI : Inv b) (hP : RP S b) {t : Ts} (hR : RTk S b t (bn b)) (hE : LE b t) {j : Nat} (hj : j < 17) : MetK l yX3_creasesOutside cX3_creasesOutside 7 (some FieldType.int) 3 0 0 67 D kc (wl kc N ad S) [.ref (ad 0), .int (iZ (j : Int))] (QI D kc (wl kc N ad S) (fun r ws' => r = iZ (outN b t j) ∧ ws' = wl kc N ad S)) := by
  refine MetK.of (by decide +kernel) (Nat.le_of_ble_eq_true rfl) ?_
  intro p e s m below meth c C
  have hA : ∀ q, s.heap.size ≤ q → va_A (wl kc N ad S) s.heap.size q := fun _ h => Or.inr h
  show V p l e { frames := 3, cells := 0, slots := 0, locals := 67 } s m ([.ref (ad 0), .int (iZ (j : Int))] : List Value).toArray below meth c (MQ below (QI D kc (wl kc N ad S) (fun r ws' => r = iZ (outN b t j) ∧ ws' = wl kc N ad S) s.heap.size) ([.ref (ad 0), .int (iZ (j : Int))] : List Value).toArray s 0 0 (va_A (wl kc N ad S) s.heap.size)) D (va_A (wl kc N ad S) s.heap.size) 7 0 0 (wl kc N ad S) 0 [(0, .ref (ad 0)), (1, .int (iZ (j : Int)))] []
  have hb0 := hI.1
  have hb1 := hI.2.1
  have hb2 := hI.2.2.1
  have main : ∀ lo : Int, lo = (if j = 0 then 0 else -(b 1 0)) → -1000 ≤ lo → lo ≤ 0 → (j = 0 ∨ j = 16) → V p l e { frames := 3, cells := 0, slots := 0, locals := 67 } s m ([.ref (ad 0), .int (iZ (j : Int))] : List Value).toArray below meth c (MQ below (QI D kc (wl kc N ad S) (fun r ws' => r = iZ (outN b t j) ∧ ws' = wl kc N ad S) s.heap.size) ([.ref (ad 0), .int (iZ (j : Int))] : List Value).toArray s 0 0 (va_A (wl kc N ad S) s.heap.size)) D (va_A (wl kc N ad S) s.heap.size) 7 0 0 (wl kc N ad S) 31 [(4, .int (iZ 0)), (3, .int (iZ 0)), (2, .int (iZ lo)), (1, .int (iZ (j : Int))), (0, .ref (ad 0))] [] := by
    intro lo hlo hlo1 hlo2 hj16
    have loop : ∀ (d : Nat) (i : Nat), i + d = bn b → V p l e { frames := 3, cells := 0, slots := 0, locals := 67 } s m ([.ref (ad 0), .int (iZ (j : Int))] : List Value).toArray below meth c (MQ below (QI D kc (wl kc N ad S) (fun r ws' => r = iZ (outN b t j) ∧ ws' = wl kc N ad S) s.heap.size) ([.ref (ad 0), .int (iZ (j : Int))] : List Value).toArray s 0 0 (va_A (wl kc N ad S) s.heap.size)) D (va_A (wl kc N ad S) s.heap.size) 7 0 0 (wl kc N ad S) 31 [(4, .int (iZ (i : Int))), (3, .int (iZ (cnt (outP b t j) i))), (2, .int (iZ lo)), (1, .int (iZ (j : Int))), (0, .ref (ad 0))] [] := by
      intro d
      induction d with
      | zero =>
        intro i hi
        have hcb := cnt_b (outP b t j) i
        refine v_iload 31 0 C dX3_creasesOutside_31 rfl ?_
        refine v_aload_n 33 4 C dX3_creasesOutside_33 rfl ?_
        refine g_Pg_made 34 C (vg.o hg).1 (vg.o hg).2 lk_216 dX3_creasesOutside_34 ?_
        refine v_eqi (iZ (b 0 0)) (hP.1.2.2) ?_
        refine z_icmp_ge 37 122 C (by first | assumption | exact ⟨by omega, by omega⟩) (by first | assumption | exact ⟨by omega, by omega⟩) dX3_creasesOutside_37 (by decide) (fun c37_0 => ?_) (fun c37_0 => absurd (by omega) c37_0)
        refine v_iload_n 122 1 C dX3_creasesOutside_122 rfl ?_
        exact v_iret 123 C (⟨by unfold outN; rw [if_pos hj16, show i = bn b by omega], rfl⟩) dX3_creasesOutside_123
      | succ d ih =>
        intro i hi
        by_cases ht : b 8 i = 1
        · skip
          have hcb := cnt_b (outP b t j) i
          have hi2 : i < bn b := by omega
          have h01 := cr_01 hE hi2 ht hj
          refine v_iload 31 0 C dX3_creasesOutside_31 rfl ?_
          refine v_aload_n 33 4 C dX3_creasesOutside_33 rfl ?_
          refine g_Pg_made 34 C (vg.o hg).1 (vg.o hg).2 lk_216 dX3_creasesOutside_34 ?_
          refine v_eqi (iZ (b 0 0)) (hP.1.2.2) ?_
          refine z_icmp_ge 37 122 C (by first | assumption | exact ⟨by omega, by omega⟩) (by first | assumption | exact ⟨by omega, by omega⟩) dX3_creasesOutside_37 (by decide) (fun c37_0 => absurd c37_0 (by omega)) (fun c37_0 => ?_)
          refine v_aload_n 40 4 C dX3_creasesOutside_40 rfl ?_
          refine v_iload 41 0 C dX3_creasesOutside_41 rfl ?_
          refine v_callq 43 hA (rV_Pg 43 C L_RX3_90 lk_244 lk_3 (m_partThere hg hN hI hP hi2 ht) (vg.o hg) rfl ⟨rfl, rfl⟩ (rm_ok rfl) dX3_creasesOutside_43) (fun r1 w2 h3 => ?_)
          obtain ⟨e_r1, rfl⟩ := h3
          refine v_eqv (.ref (ad (66 + 15 * i))) (by rw [e_r1]; rfl) ?_
          refine v_astore 46 [(5, .ref (ad (66 + 15 * i))), (4, .int (iZ (i : Int))), (3, .int (iZ (cnt (outP b t j) i))), (2, .int (iZ lo)), (1, .int (iZ (j : Int))), (0, .ref (ad 0))] C dX3_creasesOutside_46 (by decide) rfl ?_
          refine v_aload 48 0 C dX3_creasesOutside_48 rfl ?_
          refine v_ifnull 50 C dX3_creasesOutside_50 ?_
          refine v_aload 53 0 C dX3_creasesOutside_53 rfl ?_
          refine g_Pt_crease 55 C (vp.o (vp_k hN hi2)).1 (vp.o (vp_k hN hi2)).2 lk_127 dX3_creasesOutside_55 ?_
          refine g_Tr_stuck 58 C (vt.o (vp.C (vp_k hN hi2))).1 (vt.o (vp.C (vp_k hN hi2))).2 lk_87 dX3_creasesOutside_58 ?_
          refine v_iload_n 61 4 C dX3_creasesOutside_61 rfl ?_
          refine v_zald 62 C (vt.s (vp.C (vp_k hN hi2))).1 (vt.s (vp.C (vp_k hN hi2))).2 j (izn (by omega)) (lnx (vt.ls (vp.C (vp_k hN hi2))) (by omega)) dX3_creasesOutside_62 ?_
          refine v_eqi (iZ (t 4 i j)) (cr_s hR hi2 ht hj) ?_
          refine z_if_ne 63 116 C (by first | assumption | exact ⟨by omega, by omega⟩) dX3_creasesOutside_63 (by decide) (fun c63_1 => ?_) (fun c63_1 => ?_)
          · skip
            refine v_iinc 116 1 (iZ ((i + 1 : Nat) : Int)) [(4, .int (iZ ((i + 1 : Nat) : Int))), (5, .ref (ad (66 + 15 * i))), (3, .int (iZ (cnt (outP b t j) i))), (2, .int (iZ lo)), (1, .int (iZ (j : Int))), (0, .ref (ad 0))] C dX3_creasesOutside_116 rfl (iZ_add _ _) (by decide) rfl ?_
            refine v_goto 119 31 C dX3_creasesOutside_119 (by decide) ?_
            refine v_sub [0, 2, 3, 4, 5] rfl ?_
            have q := ih (i + 1) (by omega)
            rw [cnt_F (P := outP b t j) (by unfold outP; rw [decide_eq_false c63_1]; simp)] at q
            exact q
          · skip
            obtain ⟨-, -, q1, q2⟩ := cr_xy hI hR hE hi2 ht hj c63_1
            refine v_aload 66 0 C dX3_creasesOutside_66 rfl ?_
            refine g_Pt_crease 68 C (vp.o (vp_k hN hi2)).1 (vp.o (vp_k hN hi2)).2 lk_127 dX3_creasesOutside_68 ?_
            refine g_Tr_x 71 C (vt.o (vp.C (vp_k hN hi2))).1 (vt.o (vp.C (vp_k hN hi2))).2 lk_79 dX3_creasesOutside_71 ?_
            refine v_iload_n 74 4 C dX3_creasesOutside_74 rfl ?_
            refine v_iald 75 C (vt.x (vp.C (vp_k hN hi2))).1 (vt.x (vp.C (vp_k hN hi2))).2 j (izn (by omega)) (lnx (vt.lx (vp.C (vp_k hN hi2))) (by omega)) dX3_creasesOutside_75 ?_
            refine v_eqi (iZ (t 2 i j)) ((cr_xy hI hR hE hi2 ht hj c63_1).1) ?_
            refine v_istore 76 [(6, .int (iZ (t 2 i j))), (5, .ref (ad (66 + 15 * i))), (4, .int (iZ (i : Int))), (3, .int (iZ (cnt (outP b t j) i))), (2, .int (iZ lo)), (1, .int (iZ (j : Int))), (0, .ref (ad 0))] C dX3_creasesOutside_76 (by decide) rfl ?_
            refine v_iload 78 0 C dX3_creasesOutside_78 rfl ?_
            refine v_iload_n 80 4 C dX3_creasesOutside_80 rfl ?_
            refine z_icmp_lt 81 113 C (by first | assumption | exact ⟨by omega, by omega⟩) (by first | assumption | exact ⟨by omega, by omega⟩) dX3_creasesOutside_81 (by decide) (fun c81_2 => ?_) (fun c81_2 => ?_)
            · skip
              refine v_iinc 113 3 (iZ ((cnt (outP b t j) i) + 1)) [(3, .int (iZ ((cnt (outP b t j) i) + 1))), (6, .int (iZ (t 2 i j))), (5, .ref (ad (66 + 15 * i))), (4, .int (iZ (i : Int))), (2, .int (iZ lo)), (1, .int (iZ (j : Int))), (0, .ref (ad 0))] C dX3_creasesOutside_113 rfl (iZ_add _ _) (by decide) rfl ?_
              refine v_iinc 116 3 (iZ ((i + 1 : Nat) : Int)) [(4, .int (iZ ((i + 1 : Nat) : Int))), (3, .int (iZ ((cnt (outP b t j) i) + 1))), (6, .int (iZ (t 2 i j))), (5, .ref (ad (66 + 15 * i))), (2, .int (iZ lo)), (1, .int (iZ (j : Int))), (0, .ref (ad 0))] C dX3_creasesOutside_116 rfl (iZ_add _ _) (by decide) rfl ?_
              refine v_goto 119 31 C dX3_creasesOutside_119 (by decide) ?_
              refine v_sub [0, 1, 4, 5, 6] rfl ?_
              have q := ih (i + 1) (by omega)
              rw [cnt_T (P := outP b t j) (by unfold outP; rw [← hlo, decide_eq_true ht, decide_eq_true c63_1, decide_eq_true (show t 2 i j < lo ∨ b 1 0 < t 2 i j by omega)]; rfl)] at q
              exact q
            · skip
              refine v_iload 84 0 C dX3_creasesOutside_84 rfl ?_
              refine v_aload_n 86 6 C dX3_creasesOutside_86 rfl ?_
              refine g_Pg_pageWidth 87 C (vg.o hg).1 (vg.o hg).2 lk_214 dX3_creasesOutside_87 ?_
              refine v_eqi (iZ (b 1 0)) (hP.1.1) ?_
              refine z_icmp_gt 90 113 C (by first | assumption | exact ⟨by omega, by omega⟩) (by first | assumption | exact ⟨by omega, by omega⟩) dX3_creasesOutside_90 (by decide) (fun c90_3 => ?_) (fun c90_3 => ?_)
              · skip
                refine v_iinc 113 3 (iZ ((cnt (outP b t j) i) + 1)) [(3, .int (iZ ((cnt (outP b t j) i) + 1))), (6, .int (iZ (t 2 i j))), (5, .ref (ad (66 + 15 * i))), (4, .int (iZ (i : Int))), (2, .int (iZ lo)), (1, .int (iZ (j : Int))), (0, .ref (ad 0))] C dX3_creasesOutside_113 rfl (iZ_add _ _) (by decide) rfl ?_
                refine v_iinc 116 3 (iZ ((i + 1 : Nat) : Int)) [(4, .int (iZ ((i + 1 : Nat) : Int))), (3, .int (iZ ((cnt (outP b t j) i) + 1))), (6, .int (iZ (t 2 i j))), (5, .ref (ad (66 + 15 * i))), (2, .int (iZ lo)), (1, .int (iZ (j : Int))), (0, .ref (ad 0))] C dX3_creasesOutside_116 rfl (iZ_add _ _) (by decide) rfl ?_
                refine v_goto 119 31 C dX3_creasesOutside_119 (by decide) ?_
                refine v_sub [0, 1, 4, 5, 6] rfl ?_
                have q := ih (i + 1) (by omega)
                rw [cnt_T (P := outP b t j) (by unfold outP; rw [← hlo, decide_eq_true ht, decide_eq_true c63_1, decide_eq_true (show t 2 i j < lo ∨ b 1 0 < t 2 i j by omega)]; rfl)] at q
                exact q
              · skip
                refine v_aload 93 1 C dX3_creasesOutside_93 rfl ?_
                refine g_Pt_crease 95 C (vp.o (vp_k hN hi2)).1 (vp.o (vp_k hN hi2)).2 lk_127 dX3_creasesOutside_95 ?_
                refine g_Tr_y 98 C (vt.o (vp.C (vp_k hN hi2))).1 (vt.o (vp.C (vp_k hN hi2))).2 lk_83 dX3_creasesOutside_98 ?_
                refine v_iload_n 101 5 C dX3_creasesOutside_101 rfl ?_
                refine v_iald 102 C (vt.y (vp.C (vp_k hN hi2))).1 (vt.y (vp.C (vp_k hN hi2))).2 j (izn (by omega)) (lnx (vt.ly (vp.C (vp_k hN hi2))) (by omega)) dX3_creasesOutside_102 ?_
                refine v_eqi (iZ (t 3 i j)) ((cr_xy hI hR hE hi2 ht hj c63_1).2.1) ?_
                refine v_mabs 103 C lk_413 ⟨Nat.le_of_ble_eq_true rfl, Nat.le_of_ble_eq_true rfl, Nat.le_of_ble_eq_true rfl, Nat.le_of_ble_eq_true rfl⟩ dX3_creasesOutside_103 ?_
                refine v_eqi (iZ ((t 3 i j).natAbs : Int)) (mabs_z (by first | assumption | exact ⟨by omega, by omega⟩)) ?_
                refine v_aload_n 106 6 C dX3_creasesOutside_106 rfl ?_
                refine g_Pg_pageTolerance 107 C (vg.o hg).1 (vg.o hg).2 lk_215 dX3_creasesOutside_107 ?_
                refine v_eqi (iZ (b 2 0)) (hP.1.2.1) ?_
                refine z_icmp_le 110 116 C (by first | assumption | exact ⟨by omega, by omega⟩) (by first | assumption | exact ⟨by omega, by omega⟩) dX3_creasesOutside_110 (by decide) (fun c110_4 => ?_) (fun c110_4 => ?_)
                · skip
                  refine v_iinc 116 2 (iZ ((i + 1 : Nat) : Int)) [(4, .int (iZ ((i + 1 : Nat) : Int))), (6, .int (iZ (t 2 i j))), (5, .ref (ad (66 + 15 * i))), (3, .int (iZ (cnt (outP b t j) i))), (2, .int (iZ lo)), (1, .int (iZ (j : Int))), (0, .ref (ad 0))] C dX3_creasesOutside_116 rfl (iZ_add _ _) (by decide) rfl ?_
                  refine v_goto 119 31 C dX3_creasesOutside_119 (by decide) ?_
                  refine v_sub [0, 3, 4, 5, 6] rfl ?_
                  have q := ih (i + 1) (by omega)
                  rw [cnt_F (P := outP b t j) (by unfold outP; rw [← hlo, decide_eq_true ht, decide_eq_true c63_1, decide_eq_false (show ¬ (t 2 i j < lo ∨ b 1 0 < t 2 i j) by omega), decide_eq_false (show ¬ b 2 0 < ((t 3 i j).natAbs : Int) by omega)]; rfl)] at q
                  exact q
                · skip
                  refine v_iinc 113 3 (iZ ((cnt (outP b t j) i) + 1)) [(3, .int (iZ ((cnt (outP b t j) i) + 1))), (6, .int (iZ (t 2 i j))), (5, .ref (ad (66 + 15 * i))), (4, .int (iZ (i : Int))), (2, .int (iZ lo)), (1, .int (iZ (j : Int))), (0, .ref (ad 0))] C dX3_creasesOutside_113 rfl (iZ_add _ _) (by decide) rfl ?_
                  refine v_iinc 116 3 (iZ ((i + 1 : Nat) : Int)) [(4, .int (iZ ((i + 1 : Nat) : Int))), (3, .int (iZ ((cnt (outP b t j) i) + 1))), (6, .int (iZ (t 2 i j))), (5, .ref (ad (66 + 15 * i))), (2, .int (iZ lo)), (1, .int (iZ (j : Int))), (0, .ref (ad 0))] C dX3_creasesOutside_116 rfl (iZ_add _ _) (by decide) rfl ?_
                  refine v_goto 119 31 C dX3_creasesOutside_119 (by decide) ?_
                  refine v_sub [0, 1, 4, 5, 6] rfl ?_
                  have q := ih (i + 1) (by omega)
                  rw [cnt_T (P := outP b t j) (by unfold outP; rw [← hlo, decide_eq_true ht, decide_eq_true c63_1, decide_eq_true (show b 2 0 < ((t 3 i j).natAbs : Int) by omega)]; simp)] at q
                  exact q
        · skip
          have hcb := cnt_b (outP b t j) i
          have hi2 : i < bn b := by omega
          refine v_iload 31 0 C dX3_creasesOutside_31 rfl ?_
          refine v_aload_n 33 4 C dX3_creasesOutside_33 rfl ?_
          refine g_Pg_made 34 C (vg.o hg).1 (vg.o hg).2 lk_216 dX3_creasesOutside_34 ?_
          refine v_eqi (iZ (b 0 0)) (hP.1.2.2) ?_
          refine z_icmp_ge 37 122 C (by first | assumption | exact ⟨by omega, by omega⟩) (by first | assumption | exact ⟨by omega, by omega⟩) dX3_creasesOutside_37 (by decide) (fun c37_0 => absurd c37_0 (by omega)) (fun c37_0 => ?_)
          refine v_aload_n 40 4 C dX3_creasesOutside_40 rfl ?_
          refine v_iload 41 0 C dX3_creasesOutside_41 rfl ?_
          refine v_callq 43 hA (rV_Pg 43 C L_RX3_90 lk_244 lk_3 (m_partThere_no (z := (i : Int)) hg hN hI hP ⟨by omega, by omega⟩ (fun q => ht q.2.2)) (vg.o hg) rfl ⟨rfl, rfl⟩ (rm_ok rfl) dX3_creasesOutside_43) (fun r4 w5 h6 => ?_)
          obtain ⟨e_r4, rfl⟩ := h6
          refine v_eqv .null (by rw [e_r4]; rfl) ?_
          refine v_astoreN 46 [(5, .null), (4, .int (iZ (i : Int))), (3, .int (iZ (cnt (outP b t j) i))), (2, .int (iZ lo)), (1, .int (iZ (j : Int))), (0, .ref (ad 0))] C dX3_creasesOutside_46 (by decide) rfl ?_
          refine v_aloadN 48 0 C dX3_creasesOutside_48 rfl ?_
          refine v_ifnullN 50 116 C dX3_creasesOutside_50 (by decide) ?_
          refine v_iinc 116 1 (iZ ((i + 1 : Nat) : Int)) [(4, .int (iZ ((i + 1 : Nat) : Int))), (5, .null), (3, .int (iZ (cnt (outP b t j) i))), (2, .int (iZ lo)), (1, .int (iZ (j : Int))), (0, .ref (ad 0))] C dX3_creasesOutside_116 rfl (iZ_add _ _) (by decide) rfl ?_
          refine v_goto 119 31 C dX3_creasesOutside_119 (by decide) ?_
          refine v_sub [0, 2, 3, 4, 5] rfl ?_
          have q := ih (i + 1) (by omega)
          rw [cnt_F (P := outP b t j) (by unfold outP; rw [decide_eq_false ht]; rfl)] at q
          exact q
    exact loop (bn b) 0 (by omega)
  refine v_iload_n 0 1 C dX3_creasesOutside_0 rfl ?_
  refine z_if_eq 1 12 C (by first | assumption | exact ⟨by omega, by omega⟩) dX3_creasesOutside_1 (by decide) (fun c1_0 => ?_) (fun c1_0 => ?_)
  · skip
    refine v_iload_n 12 1 C dX3_creasesOutside_12 rfl ?_
    refine z_if_ne 13 20 C (by first | assumption | exact ⟨by omega, by omega⟩) dX3_creasesOutside_13 (by decide) (fun c13_1 => absurd c13_1 (fun q => q c1_0)) (fun c13_1 => ?_)
    refine v_iconst 16 C (iZ 0) dX3_creasesOutside_16 rfl ?_
    refine v_goto 17 25 C dX3_creasesOutside_17 (by decide) ?_
    refine v_istore_n 25 [(2, .int (iZ 0)), (0, .ref (ad 0)), (1, .int (iZ (j : Int)))] C dX3_creasesOutside_25 (by decide) rfl ?_
    refine v_iconst 26 C (iZ 0) dX3_creasesOutside_26 rfl ?_
    refine v_istore_n 27 [(3, .int (iZ 0)), (2, .int (iZ 0)), (0, .ref (ad 0)), (1, .int (iZ (j : Int)))] C dX3_creasesOutside_27 (by decide) rfl ?_
    refine v_iconst 28 C (iZ 0) dX3_creasesOutside_28 rfl ?_
    refine v_istore 29 [(4, .int (iZ 0)), (3, .int (iZ 0)), (2, .int (iZ 0)), (0, .ref (ad 0)), (1, .int (iZ (j : Int)))] C dX3_creasesOutside_29 (by decide) rfl ?_
    refine v_sub [0, 1, 2, 4, 3] rfl ?_
    exact main 0 (by rw [if_pos (by omega)]) (by decide) (by decide) (Or.inl (by omega))
  · skip
    refine v_iload_n 4 1 C dX3_creasesOutside_4 rfl ?_
    refine v_bipush 5 C (iZ 16) dX3_creasesOutside_5 (by decide) ?_
    refine z_icmp_eq 7 12 C (by first | assumption | exact ⟨by omega, by omega⟩) (by first | assumption | exact ⟨by omega, by omega⟩) dX3_creasesOutside_7 (by decide) (fun c7_1 => ?_) (fun c7_1 => ?_)
    · skip
      refine v_iload_n 12 1 C dX3_creasesOutside_12 rfl ?_
      refine z_if_ne 13 20 C (by first | assumption | exact ⟨by omega, by omega⟩) dX3_creasesOutside_13 (by decide) (fun c13_2 => ?_) (fun c13_2 => absurd c13_2 (c1_0))
      refine v_aload_n 20 0 C dX3_creasesOutside_20 rfl ?_
      refine g_Pg_pageWidth 21 C (vg.o hg).1 (vg.o hg).2 lk_214 dX3_creasesOutside_21 ?_
      refine v_eqi (iZ (b 1 0)) (hP.1.1) ?_
      refine z_ineg 24 C dX3_creasesOutside_24 ?_
      refine v_istore_n 25 [(2, .int (iZ (-(b 1 0)))), (0, .ref (ad 0)), (1, .int (iZ (j : Int)))] C dX3_creasesOutside_25 (by decide) rfl ?_
      refine v_iconst 26 C (iZ 0) dX3_creasesOutside_26 rfl ?_
      refine v_istore_n 27 [(3, .int (iZ 0)), (2, .int (iZ (-(b 1 0)))), (0, .ref (ad 0)), (1, .int (iZ (j : Int)))] C dX3_creasesOutside_27 (by decide) rfl ?_
      refine v_iconst 28 C (iZ 0) dX3_creasesOutside_28 rfl ?_
      refine v_istore 29 [(4, .int (iZ 0)), (3, .int (iZ 0)), (2, .int (iZ (-(b 1 0)))), (0, .ref (ad 0)), (1, .int (iZ (j : Int)))] C dX3_creasesOutside_29 (by decide) rfl ?_
      refine v_sub [0, 1, 2, 4, 3] rfl ?_
      exact main (-(b 1 0)) (by rw [if_neg (by omega)]) (by omega) (by omega) (Or.inr (by omega))
    · skip
      refine v_iconst 10 C (iZ 0) dX3_creasesOutside_10 rfl ?_
      exact v_iret 11 C (⟨by unfold outN; rw [if_neg (by omega)], rfl⟩) dX3_creasesOutside_11

theorem tlF_0 {b : Bs} {t : Ts} {j i : Nat} (h : ¬ (b 8 i = 1 ∧ t 4 i j = 0)) : tlF b t j (i + 1) = tlF b t j i := by rw [tlF, if_neg h]
theorem tlF_1 {b : Bs} {t : Ts} {j i : Nat} (h : b 8 i = 1) (h2 : t 4 i j = 0) (hm : tlF b t j i = none) : tlF b t j (i + 1) = some (t 3 i j) := by rw [tlF, if_pos ⟨h, h2⟩, hm]
theorem tlF_2 {b : Bs} {t : Ts} {j i : Nat} {m : Int} (h : b 8 i = 1) (h2 : t 4 i j = 0) (hm : tlF b t j i = some m) : tlF b t j (i + 1) = some (max m (t 3 i j)) := by rw [tlF, if_pos ⟨h, h2⟩, hm]
theorem tl_end {o : Option Int} {an mo : Int} (h : an = 0 ∧ mo = 0 ∧ o = none ∨ an = 1 ∧ o = some mo) : iZ mo = iZ (o.getD 0) := by
  rcases h with ⟨_, q, q2⟩ | ⟨_, q2⟩
  · rw [q2, q]; rfl
  · rw [q2]; rfl
theorem tl_n {o : Option Int} {an mo : Int} (h : an = 0 ∧ mo = 0 ∧ o = none ∨ an = 1 ∧ o = some mo) (h0 : an = 0) : o = none := by
  rcases h with ⟨_, q, q2⟩ | ⟨q, q2⟩
  · exact q2
  · omega
theorem tl_s {o : Option Int} {an mo : Int} (h : an = 0 ∧ mo = 0 ∧ o = none ∨ an = 1 ∧ o = some mo) (h0 : ¬ an = 0) : o = some mo := by
  rcases h with ⟨q, q2⟩ | ⟨q, q2⟩
  · omega
  · exact q2
set_option maxHeartbeats 4000000 in
set_option maxRecDepth 100000 in
theorem m_tallest {l : Launch} {D : va_G} {kc : Nat → ClassId} {N : Nat} {ad : Nat → Nat} {S : St} {b : Bs} (hg : vg N) (hN : N = 66 + 15 * bn b) (hI : Inv b) (hP : RP S b) {t : Ts} (hR : RTk S b t (bn b)) (hE : LE b t) {j : Nat} (hj : j < 17) : MetK l yX3_tallest cX3_tallest 6 (some FieldType.int) 3 0 0 67 D kc (wl kc N ad S) [.ref (ad 0), .int (iZ (j : Int))] (QI D kc (wl kc N ad S) (fun r ws' => r = iZ (tlN b t j) ∧ ws' = wl kc N ad S)) := by
  refine MetK.of (by decide +kernel) (Nat.le_of_ble_eq_true rfl) ?_
  intro p e s m below meth c C
  have hA : ∀ q, s.heap.size ≤ q → va_A (wl kc N ad S) s.heap.size q := fun _ h => Or.inr h
  show V p l e { frames := 3, cells := 0, slots := 0, locals := 67 } s m ([.ref (ad 0), .int (iZ (j : Int))] : List Value).toArray below meth c (MQ below (QI D kc (wl kc N ad S) (fun r ws' => r = iZ (tlN b t j) ∧ ws' = wl kc N ad S) s.heap.size) ([.ref (ad 0), .int (iZ (j : Int))] : List Value).toArray s 0 0 (va_A (wl kc N ad S) s.heap.size)) D (va_A (wl kc N ad S) s.heap.size) 6 0 0 (wl kc N ad S) 0 [(0, .ref (ad 0)), (1, .int (iZ (j : Int)))] []
  have hb0 := hI.1
  have loop : ∀ (d : Nat) (i : Nat) (an mo : Int), i + d = bn b → bd mo → (an = 0 ∧ mo = 0 ∧ tlF b t j i = none ∨ an = 1 ∧ tlF b t j i = some mo) → V p l e { frames := 3, cells := 0, slots := 0, locals := 67 } s m ([.ref (ad 0), .int (iZ (j : Int))] : List Value).toArray below meth c (MQ below (QI D kc (wl kc N ad S) (fun r ws' => r = iZ (tlN b t j) ∧ ws' = wl kc N ad S) s.heap.size) ([.ref (ad 0), .int (iZ (j : Int))] : List Value).toArray s 0 0 (va_A (wl kc N ad S) s.heap.size)) D (va_A (wl kc N ad S) s.heap.size) 6 0 0 (wl kc N ad S) 7 [(4, .int (iZ (i : Int))), (3, .int (iZ an)), (2, .int (iZ mo)), (1, .int (iZ (j : Int))), (0, .ref (ad 0))] [] := by
    intro d
    induction d with
    | zero =>
      intro i an mo hi hb hm
      have han : 0 ≤ an ∧ an ≤ 1 := by rcases hm with ⟨q, _⟩ | ⟨q, _⟩ <;> omega
      refine v_iload 7 0 C dX3_tallest_7 rfl ?_
      refine v_aload_n 9 4 C dX3_tallest_9 rfl ?_
      refine g_Pg_made 10 C (vg.o hg).1 (vg.o hg).2 lk_216 dX3_tallest_10 ?_
      refine v_eqi (iZ (b 0 0)) (hP.1.2.2) ?_
      refine z_icmp_ge 13 82 C (by first | assumption | exact ⟨by omega, by omega⟩) (by first | assumption | exact ⟨by omega, by omega⟩) dX3_tallest_13 (by decide) (fun c13_0 => ?_) (fun c13_0 => absurd (by omega) c13_0)
      refine v_iload_n 82 2 C dX3_tallest_82 rfl ?_
      exact v_iret 83 C (⟨by unfold tlN; rw [← show i = bn b by omega]; exact tl_end hm, rfl⟩) dX3_tallest_83
    | succ d ih =>
      intro i an mo hi hb hm
      by_cases ht : b 8 i = 1
      · skip
        have hi2 : i < bn b := by omega
        have h01 := cr_01 hE hi2 ht hj
        have han : 0 ≤ an ∧ an ≤ 1 := by rcases hm with ⟨q, _⟩ | ⟨q, _⟩ <;> omega
        refine v_iload 7 0 C dX3_tallest_7 rfl ?_
        refine v_aload_n 9 4 C dX3_tallest_9 rfl ?_
        refine g_Pg_made 10 C (vg.o hg).1 (vg.o hg).2 lk_216 dX3_tallest_10 ?_
        refine v_eqi (iZ (b 0 0)) (hP.1.2.2) ?_
        refine z_icmp_ge 13 82 C (by first | assumption | exact ⟨by omega, by omega⟩) (by first | assumption | exact ⟨by omega, by omega⟩) dX3_tallest_13 (by decide) (fun c13_0 => absurd c13_0 (by omega)) (fun c13_0 => ?_)
        refine v_aload_n 16 4 C dX3_tallest_16 rfl ?_
        refine v_iload 17 0 C dX3_tallest_17 rfl ?_
        refine v_callq 19 hA (rV_Pg 19 C L_RX3_90 lk_244 lk_3 (m_partThere hg hN hI hP hi2 ht) (vg.o hg) rfl ⟨rfl, rfl⟩ (rm_ok rfl) dX3_tallest_19) (fun r1 w2 h3 => ?_)
        obtain ⟨e_r1, rfl⟩ := h3
        refine v_eqv (.ref (ad (66 + 15 * i))) (by rw [e_r1]; rfl) ?_
        refine v_astore 22 [(5, .ref (ad (66 + 15 * i))), (4, .int (iZ (i : Int))), (3, .int (iZ an)), (2, .int (iZ mo)), (1, .int (iZ (j : Int))), (0, .ref (ad 0))] C dX3_tallest_22 (by decide) rfl ?_
        refine v_aload 24 0 C dX3_tallest_24 rfl ?_
        refine v_ifnull 26 C dX3_tallest_26 ?_
        refine v_aload 29 0 C dX3_tallest_29 rfl ?_
        refine g_Pt_crease 31 C (vp.o (vp_k hN hi2)).1 (vp.o (vp_k hN hi2)).2 lk_127 dX3_tallest_31 ?_
        refine g_Tr_stuck 34 C (vt.o (vp.C (vp_k hN hi2))).1 (vt.o (vp.C (vp_k hN hi2))).2 lk_87 dX3_tallest_34 ?_
        refine v_iload_n 37 4 C dX3_tallest_37 rfl ?_
        refine v_zald 38 C (vt.s (vp.C (vp_k hN hi2))).1 (vt.s (vp.C (vp_k hN hi2))).2 j (izn (by omega)) (lnx (vt.ls (vp.C (vp_k hN hi2))) (by omega)) dX3_tallest_38 ?_
        refine v_eqi (iZ (t 4 i j)) (cr_s hR hi2 ht hj) ?_
        refine z_if_ne 39 76 C (by first | assumption | exact ⟨by omega, by omega⟩) dX3_tallest_39 (by decide) (fun c39_1 => ?_) (fun c39_1 => ?_)
        · skip
          refine v_iinc 76 1 (iZ ((i + 1 : Nat) : Int)) [(4, .int (iZ ((i + 1 : Nat) : Int))), (5, .ref (ad (66 + 15 * i))), (3, .int (iZ an)), (2, .int (iZ mo)), (1, .int (iZ (j : Int))), (0, .ref (ad 0))] C dX3_tallest_76 rfl (iZ_add _ _) (by decide) rfl ?_
          refine v_goto 79 7 C dX3_tallest_79 (by decide) ?_
          refine v_sub [0, 2, 3, 4, 5] rfl ?_
          exact ih (i + 1) an mo (by omega) hb (by rw [tlF_0 (fun q => c39_1 q.2)]; exact hm)
        · skip
          obtain ⟨-, -, q1, q2⟩ := cr_xy hI hR hE hi2 ht hj c39_1
          refine v_iload_n 42 2 C dX3_tallest_42 rfl ?_
          refine z_if_eq 43 63 C (by first | assumption | exact ⟨by omega, by omega⟩) dX3_tallest_43 (by decide) (fun c43_2 => ?_) (fun c43_2 => ?_)
          · skip
            refine v_aload 63 0 C dX3_tallest_63 rfl ?_
            refine g_Pt_crease 65 C (vp.o (vp_k hN hi2)).1 (vp.o (vp_k hN hi2)).2 lk_127 dX3_tallest_65 ?_
            refine g_Tr_y 68 C (vt.o (vp.C (vp_k hN hi2))).1 (vt.o (vp.C (vp_k hN hi2))).2 lk_83 dX3_tallest_68 ?_
            refine v_iload_n 71 4 C dX3_tallest_71 rfl ?_
            refine v_iald 72 C (vt.y (vp.C (vp_k hN hi2))).1 (vt.y (vp.C (vp_k hN hi2))).2 j (izn (by omega)) (lnx (vt.ly (vp.C (vp_k hN hi2))) (by omega)) dX3_tallest_72 ?_
            refine v_eqi (iZ (t 3 i j)) ((cr_xy hI hR hE hi2 ht hj c39_1).2.1) ?_
            refine v_istore_n 73 [(2, .int (iZ (t 3 i j))), (5, .ref (ad (66 + 15 * i))), (4, .int (iZ (i : Int))), (3, .int (iZ an)), (1, .int (iZ (j : Int))), (0, .ref (ad 0))] C dX3_tallest_73 (by decide) rfl ?_
            refine v_iconst 74 C (iZ 1) dX3_tallest_74 rfl ?_
            refine v_istore_n 75 [(3, .int (iZ 1)), (2, .int (iZ (t 3 i j))), (5, .ref (ad (66 + 15 * i))), (4, .int (iZ (i : Int))), (1, .int (iZ (j : Int))), (0, .ref (ad 0))] C dX3_tallest_75 (by decide) rfl ?_
            refine v_iinc 76 3 (iZ ((i + 1 : Nat) : Int)) [(4, .int (iZ ((i + 1 : Nat) : Int))), (3, .int (iZ 1)), (2, .int (iZ (t 3 i j))), (5, .ref (ad (66 + 15 * i))), (1, .int (iZ (j : Int))), (0, .ref (ad 0))] C dX3_tallest_76 rfl (iZ_add _ _) (by decide) rfl ?_
            refine v_goto 79 7 C dX3_tallest_79 (by decide) ?_
            refine v_sub [0, 1, 2, 4, 5] rfl ?_
            exact ih (i + 1) 1 (t 3 i j) (by omega) q2 (Or.inr ⟨rfl, tlF_1 ht c39_1 (tl_n hm c43_2)⟩)
          · skip
            refine v_iload_n 46 3 C dX3_tallest_46 rfl ?_
            refine v_aload 47 0 C dX3_tallest_47 rfl ?_
            refine g_Pt_crease 49 C (vp.o (vp_k hN hi2)).1 (vp.o (vp_k hN hi2)).2 lk_127 dX3_tallest_49 ?_
            refine g_Tr_y 52 C (vt.o (vp.C (vp_k hN hi2))).1 (vt.o (vp.C (vp_k hN hi2))).2 lk_83 dX3_tallest_52 ?_
            refine v_iload_n 55 4 C dX3_tallest_55 rfl ?_
            refine v_iald 56 C (vt.y (vp.C (vp_k hN hi2))).1 (vt.y (vp.C (vp_k hN hi2))).2 j (izn (by omega)) (lnx (vt.ly (vp.C (vp_k hN hi2))) (by omega)) dX3_tallest_56 ?_
            refine v_eqi (iZ (t 3 i j)) ((cr_xy hI hR hE hi2 ht hj c39_1).2.1) ?_
            refine v_mmax 57 C lk_452 ⟨Nat.le_of_ble_eq_true rfl, Nat.le_of_ble_eq_true rfl, Nat.le_of_ble_eq_true rfl, Nat.le_of_ble_eq_true rfl⟩ dX3_tallest_57 ?_
            refine v_eqi (iZ (max mo (t 3 i j))) (mmax_z (by first | assumption | exact ⟨by omega, by omega⟩) (by first | assumption | exact ⟨by omega, by omega⟩)) ?_
            refine v_goto 60 73 C dX3_tallest_60 (by decide) ?_
            refine v_istore_n 73 [(2, .int (iZ (max mo (t 3 i j)))), (5, .ref (ad (66 + 15 * i))), (4, .int (iZ (i : Int))), (3, .int (iZ an)), (1, .int (iZ (j : Int))), (0, .ref (ad 0))] C dX3_tallest_73 (by decide) rfl ?_
            refine v_iconst 74 C (iZ 1) dX3_tallest_74 rfl ?_
            refine v_istore_n 75 [(3, .int (iZ 1)), (2, .int (iZ (max mo (t 3 i j)))), (5, .ref (ad (66 + 15 * i))), (4, .int (iZ (i : Int))), (1, .int (iZ (j : Int))), (0, .ref (ad 0))] C dX3_tallest_75 (by decide) rfl ?_
            refine v_iinc 76 3 (iZ ((i + 1 : Nat) : Int)) [(4, .int (iZ ((i + 1 : Nat) : Int))), (3, .int (iZ 1)), (2, .int (iZ (max mo (t 3 i j)))), (5, .ref (ad (66 + 15 * i))), (1, .int (iZ (j : Int))), (0, .ref (ad 0))] C dX3_tallest_76 rfl (iZ_add _ _) (by decide) rfl ?_
            refine v_goto 79 7 C dX3_tallest_79 (by decide) ?_
            refine v_sub [0, 1, 2, 4, 5] rfl ?_
            exact ih (i + 1) 1 (max mo (t 3 i j)) (by omega) (by omega) (Or.inr ⟨rfl, tlF_2 ht c39_1 (tl_s hm c43_2)⟩)
      · skip
        have hi2 : i < bn b := by omega
        have han : 0 ≤ an ∧ an ≤ 1 := by rcases hm with ⟨q, _⟩ | ⟨q, _⟩ <;> omega
        refine v_iload 7 0 C dX3_tallest_7 rfl ?_
        refine v_aload_n 9 4 C dX3_tallest_9 rfl ?_
        refine g_Pg_made 10 C (vg.o hg).1 (vg.o hg).2 lk_216 dX3_tallest_10 ?_
        refine v_eqi (iZ (b 0 0)) (hP.1.2.2) ?_
        refine z_icmp_ge 13 82 C (by first | assumption | exact ⟨by omega, by omega⟩) (by first | assumption | exact ⟨by omega, by omega⟩) dX3_tallest_13 (by decide) (fun c13_0 => absurd c13_0 (by omega)) (fun c13_0 => ?_)
        refine v_aload_n 16 4 C dX3_tallest_16 rfl ?_
        refine v_iload 17 0 C dX3_tallest_17 rfl ?_
        refine v_callq 19 hA (rV_Pg 19 C L_RX3_90 lk_244 lk_3 (m_partThere_no (z := (i : Int)) hg hN hI hP ⟨by omega, by omega⟩ (fun q => ht q.2.2)) (vg.o hg) rfl ⟨rfl, rfl⟩ (rm_ok rfl) dX3_tallest_19) (fun r4 w5 h6 => ?_)
        obtain ⟨e_r4, rfl⟩ := h6
        refine v_eqv .null (by rw [e_r4]; rfl) ?_
        refine v_astoreN 22 [(5, .null), (4, .int (iZ (i : Int))), (3, .int (iZ an)), (2, .int (iZ mo)), (1, .int (iZ (j : Int))), (0, .ref (ad 0))] C dX3_tallest_22 (by decide) rfl ?_
        refine v_aloadN 24 0 C dX3_tallest_24 rfl ?_
        refine v_ifnullN 26 76 C dX3_tallest_26 (by decide) ?_
        refine v_iinc 76 1 (iZ ((i + 1 : Nat) : Int)) [(4, .int (iZ ((i + 1 : Nat) : Int))), (5, .null), (3, .int (iZ an)), (2, .int (iZ mo)), (1, .int (iZ (j : Int))), (0, .ref (ad 0))] C dX3_tallest_76 rfl (iZ_add _ _) (by decide) rfl ?_
        refine v_goto 79 7 C dX3_tallest_79 (by decide) ?_
        refine v_sub [0, 2, 3, 4, 5] rfl ?_
        exact ih (i + 1) an mo (by omega) hb (by rw [tlF_0 (fun q => ht q.1)]; exact hm)
  refine v_iconst 0 C (iZ 0) dX3_tallest_0 rfl ?_
  refine v_istore_n 1 [(2, .int (iZ 0)), (0, .ref (ad 0)), (1, .int (iZ (j : Int)))] C dX3_tallest_1 (by decide) rfl ?_
  refine v_iconst 2 C (iZ 0) dX3_tallest_2 rfl ?_
  refine v_istore_n 3 [(3, .int (iZ 0)), (2, .int (iZ 0)), (0, .ref (ad 0)), (1, .int (iZ (j : Int)))] C dX3_tallest_3 (by decide) rfl ?_
  refine v_iconst 4 C (iZ 0) dX3_tallest_4 rfl ?_
  refine v_istore 5 [(4, .int (iZ 0)), (3, .int (iZ 0)), (2, .int (iZ 0)), (0, .ref (ad 0)), (1, .int (iZ (j : Int)))] C dX3_tallest_5 (by decide) rfl ?_
  refine v_sub [0, 1, 2, 4, 3] rfl ?_
  exact loop (bn b) 0 0 0 (by omega) (by decide) (Or.inl ⟨rfl, rfl, rfl⟩)

/-- a plane's begin and end -/
def bgx (t : Ts) (j p : Nat) : Int := if p < 2 then 0 else t 0 (p - 2) j
def bgy (t : Ts) (j p : Nat) : Int := if p < 2 then 0 else t 1 (p - 2) j
def enx (b : Bs) (t : Ts) (j p : Nat) : Int := if p = 0 then b 1 0 else if p = 1 then rnd (wx j * b 1 0) 10000 else t 2 (p / 2 - 1) j
def eny (b : Bs) (t : Ts) (j p : Nat) : Int := if p = 0 then 0 else if p = 1 then rnd (wy j * b 1 0) 10000 else t 3 (p / 2 - 1) j
def runZ (b : Bs) (t : Ts) (j p q : Nat) : Bool := decide (PS t j p = 0) && decide (PS t j q = 0) && partZ (bgx t j p) (bgy t j p) (enx b t j p) (eny b t j p) (bgx t j q) (bgy t j q) (enx b t j q) (eny b t j q) && partZ (bgx t j q) (bgy t j q) (enx b t j q) (eny b t j q) (bgx t j p) (bgy t j p) (enx b t j p) (eny b t j p)
def thLb (b : Bs) (p : Nat) : Bool := decide (p < 2) || (decide (p / 2 - 1 < bn b) && decide (b 8 (p / 2 - 1) = 1))
theorem thLb_iff {b : Bs} {p : Nat} : thLb b p = true ↔ thL b p := by
  unfold thLb thL
  simp only [Bool.or_eq_true, Bool.and_eq_true, decide_eq_true_eq]
  constructor
  · intro h
    by_cases q : p < 2
    · exact Or.inl q
    · rcases h with h | h
      · exact Or.inl h
      · exact Or.inr ⟨by omega, h⟩
  · intro h
    rcases h with h | h
    · exact Or.inl h
    · exact Or.inr h.2
theorem pl_facts {S : St} {b : Bs} {t : Ts} {N : Nat} (hg : vg N) (hN : N = 66 + 15 * bn b) (hI : Inv b) (hR : RTk S b t (bn b)) (hE : LE b t) (hW : RW S) (hEn : RE S (b 1 0)) {p j : Nat} (h : thL b p) (hj : j < 17) :
    gA S (pe (plN p) + 3) j = iZ (PS t j p) ∧ b01 (PS t j p) ∧ (PS t j p = 0 → gA S (pb (plN p) + 1) j = iZ (bgx t j p) ∧ gA S (pb (plN p) + 2) j = iZ (bgy t j p) ∧ gA S (pe (plN p) + 1) j = iZ (enx b t j p) ∧ gA S (pe (plN p) + 2) j = iZ (eny b t j p) ∧ bd (bgx t j p) ∧ bd (bgy t j p) ∧ bd (enx b t j p) ∧ bd (eny b t j p)) := by
  have hb := hI.2.1
  rcases thL_or h with rfl | rfl | ⟨k, w, hw, rfl, hk, ht⟩
  · exact ⟨(hW j hj).2.2.2.1, Or.inl rfl, fun _ => ⟨(hW j hj).1.1, (hW j hj).1.2, (hEn j hj).1.1, (hEn j hj).1.2, (by decide : bd 0), (by decide : bd 0), (by show bd (b 1 0); omega), (by decide : bd 0)⟩⟩
  · have w0 := w_b j hj
    have w1 := way_le w0.1 (n := b 1 0) (by omega)
    have w2 := way_le w0.2 (n := b 1 0) (by omega)
    exact ⟨(hW j hj).2.2.2.2, Or.inl rfl, fun _ => ⟨(hW j hj).1.1, (hW j hj).1.2, (hEn j hj).2.1, (hEn j hj).2.2, (by decide : bd 0), (by decide : bd 0), (by show bd (rnd _ _); omega), (by show bd (rnd _ _); omega)⟩⟩
  · have hv := vp_k hN hk
    have e0 : (2 * k + 2 + w) / 2 - 1 = k := by omega
    have eP : PS t j (2 * k + 2 + w) = t 4 k j := by unfold PS; rw [if_neg (by omega), e0]
    have eX : enx b t j (2 * k + 2 + w) = t 2 k j := by unfold enx; rw [if_neg (by omega), if_neg (by omega), e0]
    have eY : eny b t j (2 * k + 2 + w) = t 3 k j := by unfold eny; rw [if_neg (by omega), if_neg (by omega), e0]
    have bX : bgx t j (2 * k + 2 + w) = t 0 (2 * k + w) j := by unfold bgx; rw [if_neg (by omega), show 2 * k + 2 + w - 2 = 2 * k + w by omega]
    have bY : bgy t j (2 * k + 2 + w) = t 1 (2 * k + w) j := by unfold bgy; rw [if_neg (by omega), show 2 * k + 2 + w - 2 = 2 * k + w by omega]
    rw [plN_p k w hw, eP, eX, eY, bX, bY]
    rcases (show w = 0 ∨ w = 1 by omega) with rfl | rfl
    · rw [show pe (66 + 15 * k + 13 + 0) = 66 + 15 * k + 9 from hv.2.2.2.1.2.1, show pb (66 + 15 * k + 13 + 0) = 66 + 15 * k + 1 from hv.2.2.2.1.1]
      refine ⟨cr_s hR hk ht hj, cr_01 hE hk ht hj, fun h0 => ?_⟩
      have a := cr_xy hI hR hE hk ht hj h0
      have c := hi_xy hI hR hE hk ht hj h0
      exact ⟨c.1.1, c.1.2.1, a.1, a.2.1, c.2.1.1, c.2.1.2, a.2.2.1, a.2.2.2⟩
    · rw [show pe (66 + 15 * k + 13 + 1) = 66 + 15 * k + 9 from hv.2.2.2.2.2.1, show pb (66 + 15 * k + 13 + 1) = 66 + 15 * k + 5 from hv.2.2.2.2.1]
      refine ⟨cr_s hR hk ht hj, cr_01 hE hk ht hj, fun h0 => ?_⟩
      have a := cr_xy hI hR hE hk ht hj h0
      have c := hi_xy hI hR hE hk ht hj h0
      exact ⟨c.1.2.2.1, c.1.2.2.2, a.1, a.2.1, c.2.2.1, c.2.2.2, a.2.2.1, a.2.2.2⟩
def frF (P : Nat → Bool) : Nat → Nat → Int
  | 0, _ => -9
  | n + 1, q => if P q = true then (q : Int) else frF P n (q + 1)
def frP (b : Bs) (t : Ts) (j p q : Nat) : Bool := thLb b q && runZ b t j p q
def frN (b : Bs) (t : Ts) (j p : Nat) : Int := frF (frP b t j p) (62 - (p + 1)) (p + 1)
theorem thLb_hi {b : Bs} {q : Nat} (h : 2 + 2 * bn b ≤ q) : thLb b q = false := by
  unfold thLb
  rw [decide_eq_false (show ¬ q < 2 by omega), decide_eq_false (show ¬ q / 2 - 1 < bn b by omega)]
  rfl
theorem thL_ev {b : Bs} {q : Nat} (h : thL b q) : q < 2 + 2 * bn b := by
  rcases h with h | h <;> omega
theorem frF_no (P : Nat → Bool) : ∀ n q0, (∀ q, q0 ≤ q → P q = false) → frF P n q0 = -9 := by
  intro n
  induction n with
  | zero => intro q0 _; rfl
  | succ n ih => intro q0 h; rw [frF, if_neg (by rw [h q0 (Nat.le_refl _)]; exact Bool.false_ne_true)]; exact ih (q0 + 1) (fun q hq => h q (by omega))
theorem frF_cut (P : Nat → Bool) {m : Nat} (h : ∀ q, m ≤ q → P q = false) : ∀ n k q0, q0 + k = m → k ≤ n → frF P k q0 = frF P n q0 := by
  intro n
  induction n with
  | zero => intro k q0 _ h2; rw [show k = 0 by omega]
  | succ n ih =>
    intro k q0 h1 h2
    cases k with
    | zero => rw [frF_no P (n + 1) q0 (fun q hq => h q (by omega))]; rfl
    | succ k => rw [frF, frF, ih k (q0 + 1) (by omega) (by omega)]
theorem frN_cut {b : Bs} {t : Ts} {j p : Nat} (hI : Inv b) (hp : thL b p) : frF (frP b t j p) (2 + 2 * bn b - (p + 1)) (p + 1) = frN b t j p := by
  have h1 := thL_ev hp
  have h2 := hI.1.2
  exact frF_cut _ (m := 2 + 2 * bn b) (fun q hq => by unfold frP; rw [thLb_hi hq]; rfl) _ _ _ (by omega) (by omega)
set_option maxHeartbeats 4000000 in
set_option maxRecDepth 100000 in
theorem m_planesEver {l : Launch} {D : va_G} {kc : Nat → ClassId} {N : Nat} {ad : Nat → Nat} {S : St} {b : Bs} (hg : vg N) (hN : N = 66 + 15 * bn b) (hI : Inv b) (hP : RP S b) : MetK l yX3_planesEver cX3_planesEver 1 (some FieldType.int) 1 0 0 24 D kc (wl kc N ad S) [.ref (ad 0)] (QI D kc (wl kc N ad S) (fun r ws' => r = iZ (2 + 2 * b 0 0) ∧ ws' = wl kc N ad S)) := by
  refine MetK.of (by decide +kernel) (Nat.le_of_ble_eq_true rfl) ?_
  intro p e s m below meth c C
  have hA : ∀ q, s.heap.size ≤ q → va_A (wl kc N ad S) s.heap.size q := fun _ h => Or.inr h
  show V p l e { frames := 1, cells := 0, slots := 0, locals := 24 } s m ([.ref (ad 0)] : List Value).toArray below meth c (MQ below (QI D kc (wl kc N ad S) (fun r ws' => r = iZ (2 + 2 * b 0 0) ∧ ws' = wl kc N ad S) s.heap.size) ([.ref (ad 0)] : List Value).toArray s 0 0 (va_A (wl kc N ad S) s.heap.size)) D (va_A (wl kc N ad S) s.heap.size) 1 0 0 (wl kc N ad S) 0 [(0, .ref (ad 0))] []
  have hb0 := hI.1
  refine v_iconst 0 C (iZ 2) dX3_planesEver_0 rfl ?_
  refine v_iconst 1 C (iZ 2) dX3_planesEver_1 rfl ?_
  refine v_aload_n 2 0 C dX3_planesEver_2 rfl ?_
  refine g_Pg_made 3 C (vg.o hg).1 (vg.o hg).2 lk_216 dX3_planesEver_3 ?_
  refine v_eqi (iZ (b 0 0)) (hP.1.2.2) ?_
  refine z_imul 6 C dX3_planesEver_6 ?_
  refine z_iadd 7 C dX3_planesEver_7 ?_
  exact v_iret 8 C (⟨rfl, rfl⟩) dX3_planesEver_8

set_option maxHeartbeats 4000000 in
set_option maxRecDepth 100000 in
theorem m_firstRun {l : Launch} {D : va_G} {kc : Nat → ClassId} {N : Nat} {ad : Nat → Nat} {S : St} {b : Bs} (hg : vg N) (hN : N = 66 + 15 * bn b) (hI : Inv b) (hP : RP S b) {t : Ts} (hR : RTk S b t (bn b)) (hE : LE b t) (hW : RW S) (hEn : RE S (b 1 0)) {j u : Nat} (hj : j < 17) (hu : thL b u) : MetK l yX3_firstRunInto cX3_firstRunInto 7 (some FieldType.int) 4 0 0 102 D kc (wl kc N ad S) [.ref (ad 0), .int (iZ (u : Int)), .int (iZ (j : Int))] (QI D kc (wl kc N ad S) (fun r ws' => r = iZ (frN b t j u) ∧ ws' = wl kc N ad S)) := by
  refine MetK.of (by decide +kernel) (Nat.le_of_ble_eq_true rfl) ?_
  intro p e s m below meth c C
  have hA : ∀ q, s.heap.size ≤ q → va_A (wl kc N ad S) s.heap.size q := fun _ h => Or.inr h
  show V p l e { frames := 4, cells := 0, slots := 0, locals := 102 } s m ([.ref (ad 0), .int (iZ (u : Int)), .int (iZ (j : Int))] : List Value).toArray below meth c (MQ below (QI D kc (wl kc N ad S) (fun r ws' => r = iZ (frN b t j u) ∧ ws' = wl kc N ad S) s.heap.size) ([.ref (ad 0), .int (iZ (u : Int)), .int (iZ (j : Int))] : List Value).toArray s 0 0 (va_A (wl kc N ad S) s.heap.size)) D (va_A (wl kc N ad S) s.heap.size) 7 0 0 (wl kc N ad S) 0 [(0, .ref (ad 0)), (1, .int (iZ (u : Int))), (2, .int (iZ (j : Int)))] []
  have hb0 := hI.1
  have h62 := thL_62 hI hu
  have hev := thL_ev hu
  obtain ⟨g1, g2, g3⟩ := pl_facts hg hN hI hR hE hW hEn hu hj
  have loop : ∀ (d : Nat) (q : Nat), q + d = 2 + 2 * bn b → u < q → frF (frP b t j u) d q = frN b t j u → V p l e { frames := 4, cells := 0, slots := 0, locals := 102 } s m ([.ref (ad 0), .int (iZ (u : Int)), .int (iZ (j : Int))] : List Value).toArray below meth c (MQ below (QI D kc (wl kc N ad S) (fun r ws' => r = iZ (frN b t j u) ∧ ws' = wl kc N ad S) s.heap.size) ([.ref (ad 0), .int (iZ (u : Int)), .int (iZ (j : Int))] : List Value).toArray s 0 0 (va_A (wl kc N ad S) s.heap.size)) D (va_A (wl kc N ad S) s.heap.size) 7 0 0 (wl kc N ad S) 24 [(5, .int (iZ (q : Int))), (4, .int (iZ (2 + 2 * b 0 0))), (3, .ref (ad (plN u))), (2, .int (iZ (j : Int))), (1, .int (iZ (u : Int))), (0, .ref (ad 0))] [] := by
    intro d
    induction d with
    | zero =>
      intro q hq huq hf
      refine v_iload 24 0 C dX3_firstRunInto_24 rfl ?_
      refine v_iload 26 1 C dX3_firstRunInto_26 rfl ?_
      refine z_icmp_ge 28 63 C (by first | assumption | exact ⟨by omega, by omega⟩) (by first | assumption | exact ⟨by omega, by omega⟩) dX3_firstRunInto_28 (by decide) (fun c28_0 => ?_) (fun c28_0 => absurd (by omega) c28_0)
      refine v_bipush 63 C (iZ (-9)) dX3_firstRunInto_63 (by decide) ?_
      exact v_iret 65 C (⟨by rw [← hf]; rfl, rfl⟩) dX3_firstRunInto_65
    | succ d ih =>
      intro q hq huq hf
      by_cases hq2 : thL b q
      · skip
        obtain ⟨f1, f2, f3⟩ := pl_facts hg hN hI hR hE hW hEn hq2 hj
        refine v_iload 24 0 C dX3_firstRunInto_24 rfl ?_
        refine v_iload 26 1 C dX3_firstRunInto_26 rfl ?_
        refine z_icmp_ge 28 63 C (by first | assumption | exact ⟨by omega, by omega⟩) (by first | assumption | exact ⟨by omega, by omega⟩) dX3_firstRunInto_28 (by decide) (fun c28_0 => absurd c28_0 (by omega)) (fun c28_0 => ?_)
        refine v_aload_n 31 5 C dX3_firstRunInto_31 rfl ?_
        refine v_iload 32 0 C dX3_firstRunInto_32 rfl ?_
        refine v_callq 34 hA (rV_Pg 34 C L_RX3_138 lk_187 lk_1 (m_planeThere hg hN hI hP hq2) (vg.o hg) rfl ⟨rfl, rfl⟩ (rm_ok rfl) dX3_firstRunInto_34) (fun r1 w2 h3 => ?_)
        obtain ⟨e_r1, rfl⟩ := h3
        refine v_eqv (.ref (ad (plN q))) (by rw [e_r1]; rfl) ?_
        refine v_astore 37 [(6, .ref (ad (plN q))), (5, .int (iZ (q : Int))), (4, .int (iZ (2 + 2 * b 0 0))), (3, .ref (ad (plN u))), (2, .int (iZ (j : Int))), (1, .int (iZ (u : Int))), (0, .ref (ad 0))] C dX3_firstRunInto_37 (by decide) rfl ?_
        refine v_aload 39 0 C dX3_firstRunInto_39 rfl ?_
        refine v_ifnull 41 C dX3_firstRunInto_41 ?_
        refine v_aload_n 44 3 C dX3_firstRunInto_44 rfl ?_
        refine v_aload 45 0 C dX3_firstRunInto_45 rfl ?_
        refine v_iload_n 47 4 C dX3_firstRunInto_47 rfl ?_
        refine v_calli 48 hA (rV_Pl 48 C L_RX3_158 lk_421 lk_422 (m_runs (vl_p hg hN hu) (vl_p hg hN hq2) hj g1 f1 g2 f2 g3 f3) (vl.o (vl_p hg hN hu)) rfl ⟨rfl, rfl⟩ (rm_ok rfl) dX3_firstRunInto_48) (fun r4 w5 h6 => ?_)
        obtain ⟨e_r4, rfl⟩ := h6
        refine v_eqi (iZ (bz (runZ b t j u q))) (e_r4) ?_
        refine z_if_eq 51 57 C (bzr _) dX3_firstRunInto_51 (by decide) (fun c51_1 => ?_) (fun c51_1 => ?_)
        · skip
          refine v_iinc 57 1 (iZ ((q + 1 : Nat) : Int)) [(5, .int (iZ ((q + 1 : Nat) : Int))), (6, .ref (ad (plN q))), (4, .int (iZ (2 + 2 * b 0 0))), (3, .ref (ad (plN u))), (2, .int (iZ (j : Int))), (1, .int (iZ (u : Int))), (0, .ref (ad 0))] C dX3_firstRunInto_57 rfl (iZ_add _ _) (by decide) rfl ?_
          refine v_goto 60 24 C dX3_firstRunInto_60 (by decide) ?_
          refine v_sub [0, 2, 3, 4, 5, 6] rfl ?_
          exact ih (q + 1) (by omega) (by omega) (by rw [← hf, frF, if_neg (show ¬ frP b t j u q = true by unfold frP; rw [bz_eq c51_1]; simp)])
        · skip
          refine v_iload 54 1 C dX3_firstRunInto_54 rfl ?_
          exact v_iret 56 C (⟨by rw [← hf, frF, if_pos (show frP b t j u q = true by unfold frP; rw [thLb_iff.mpr hq2, bz_ne c51_1]; rfl)], rfl⟩) dX3_firstRunInto_56
      · skip
        refine v_iload 24 0 C dX3_firstRunInto_24 rfl ?_
        refine v_iload 26 1 C dX3_firstRunInto_26 rfl ?_
        refine z_icmp_ge 28 63 C (by first | assumption | exact ⟨by omega, by omega⟩) (by first | assumption | exact ⟨by omega, by omega⟩) dX3_firstRunInto_28 (by decide) (fun c28_0 => absurd c28_0 (by omega)) (fun c28_0 => ?_)
        refine v_aload_n 31 5 C dX3_firstRunInto_31 rfl ?_
        refine v_iload 32 0 C dX3_firstRunInto_32 rfl ?_
        refine v_callq 34 hA (rV_Pg 34 C L_RX3_138 lk_187 lk_1 (m_planeThere_no (z := (q : Int)) hg hN hI hP ⟨by omega, by omega⟩ (fun z => hq2 z.2)) (vg.o hg) rfl ⟨rfl, rfl⟩ (rm_ok rfl) dX3_firstRunInto_34) (fun r7 w8 h9 => ?_)
        obtain ⟨e_r7, rfl⟩ := h9
        refine v_eqv .null (by rw [e_r7]; rfl) ?_
        refine v_astoreN 37 [(6, .null), (5, .int (iZ (q : Int))), (4, .int (iZ (2 + 2 * b 0 0))), (3, .ref (ad (plN u))), (2, .int (iZ (j : Int))), (1, .int (iZ (u : Int))), (0, .ref (ad 0))] C dX3_firstRunInto_37 (by decide) rfl ?_
        refine v_aloadN 39 0 C dX3_firstRunInto_39 rfl ?_
        refine v_ifnullN 41 57 C dX3_firstRunInto_41 (by decide) ?_
        refine v_iinc 57 1 (iZ ((q + 1 : Nat) : Int)) [(5, .int (iZ ((q + 1 : Nat) : Int))), (6, .null), (4, .int (iZ (2 + 2 * b 0 0))), (3, .ref (ad (plN u))), (2, .int (iZ (j : Int))), (1, .int (iZ (u : Int))), (0, .ref (ad 0))] C dX3_firstRunInto_57 rfl (iZ_add _ _) (by decide) rfl ?_
        refine v_goto 60 24 C dX3_firstRunInto_60 (by decide) ?_
        refine v_sub [0, 2, 3, 4, 5, 6] rfl ?_
        exact ih (q + 1) (by omega) (by omega) (by rw [← hf, frF, if_neg (show ¬ frP b t j u q = true by unfold frP; rw [show thLb b q = false from Bool.eq_false_iff.mpr (fun z => hq2 (thLb_iff.mp z))]; simp)])
  refine v_aload_n 0 0 C dX3_firstRunInto_0 rfl ?_
  refine v_iload_n 1 1 C dX3_firstRunInto_1 rfl ?_
  refine v_callq 2 hA (rV_Pg 2 C L_RX3_138 lk_187 lk_1 (m_planeThere hg hN hI hP hu) (vg.o hg) rfl ⟨rfl, rfl⟩ (rm_ok rfl) dX3_firstRunInto_2) (fun r10 w11 h12 => ?_)
  obtain ⟨e_r10, rfl⟩ := h12
  refine v_eqv (.ref (ad (plN u))) (by rw [e_r10]; rfl) ?_
  refine v_astore_n 5 [(3, .ref (ad (plN u))), (0, .ref (ad 0)), (1, .int (iZ (u : Int))), (2, .int (iZ (j : Int)))] C dX3_firstRunInto_5 (by decide) rfl ?_
  refine v_aload_n 6 0 C dX3_firstRunInto_6 rfl ?_
  refine v_ifnonnull 7 13 C dX3_firstRunInto_7 (by decide) ?_
  refine v_aload_n 13 1 C dX3_firstRunInto_13 rfl ?_
  refine v_calli 14 hA (rV_Pg 14 C L_RX3_162 lk_438 lk_17 (m_planesEver hg hN hI hP) (vg.o hg) rfl ⟨rfl, rfl⟩ (rm_ok rfl) dX3_firstRunInto_14) (fun r13 w14 h15 => ?_)
  obtain ⟨e_r13, rfl⟩ := h15
  refine v_eqi (iZ (2 + 2 * b 0 0)) (e_r13) ?_
  refine v_istore 17 [(4, .int (iZ (2 + 2 * b 0 0))), (3, .ref (ad (plN u))), (0, .ref (ad 0)), (1, .int (iZ (u : Int))), (2, .int (iZ (j : Int)))] C dX3_firstRunInto_17 (by decide) rfl ?_
  refine v_iload_n 19 3 C dX3_firstRunInto_19 rfl ?_
  refine v_iconst 20 C (iZ 1) dX3_firstRunInto_20 rfl ?_
  refine z_iadd 21 C dX3_firstRunInto_21 ?_
  refine v_eqi (iZ ((u + 1 : Nat) : Int)) (rfl) ?_
  refine v_istore 22 [(5, .int (iZ ((u + 1 : Nat) : Int))), (4, .int (iZ (2 + 2 * b 0 0))), (3, .ref (ad (plN u))), (0, .ref (ad 0)), (1, .int (iZ (u : Int))), (2, .int (iZ (j : Int)))] C dX3_firstRunInto_22 (by decide) rfl ?_
  refine v_sub [0, 1, 2, 5, 4, 3] rfl ?_
  exact loop (2 + 2 * bn b - (u + 1)) (u + 1) (by omega) (by omega) (frN_cut hI hu)

set_option maxHeartbeats 4000000 in
set_option maxRecDepth 100000 in
theorem m_firstRun_no {l : Launch} {D : va_G} {kc : Nat → ClassId} {N : Nat} {ad : Nat → Nat} {S : St} {b : Bs} (hg : vg N) (hN : N = 66 + 15 * bn b) (hI : Inv b) (hP : RP S b) {j u : Nat} (hj : j < 17) (hu62 : u < 62) (hu : ¬ thL b u) : MetK l yX3_firstRunInto cX3_firstRunInto 7 (some FieldType.int) 4 0 0 102 D kc (wl kc N ad S) [.ref (ad 0), .int (iZ (u : Int)), .int (iZ (j : Int))] (QI D kc (wl kc N ad S) (fun r ws' => r = iZ (-9) ∧ ws' = wl kc N ad S)) := by
  refine MetK.of (by decide +kernel) (Nat.le_of_ble_eq_true rfl) ?_
  intro p e s m below meth c C
  have hA : ∀ q, s.heap.size ≤ q → va_A (wl kc N ad S) s.heap.size q := fun _ h => Or.inr h
  show V p l e { frames := 4, cells := 0, slots := 0, locals := 102 } s m ([.ref (ad 0), .int (iZ (u : Int)), .int (iZ (j : Int))] : List Value).toArray below meth c (MQ below (QI D kc (wl kc N ad S) (fun r ws' => r = iZ (-9) ∧ ws' = wl kc N ad S) s.heap.size) ([.ref (ad 0), .int (iZ (u : Int)), .int (iZ (j : Int))] : List Value).toArray s 0 0 (va_A (wl kc N ad S) s.heap.size)) D (va_A (wl kc N ad S) s.heap.size) 7 0 0 (wl kc N ad S) 0 [(0, .ref (ad 0)), (1, .int (iZ (u : Int))), (2, .int (iZ (j : Int)))] []
  refine v_aload_n 0 0 C dX3_firstRunInto_0 rfl ?_
  refine v_iload_n 1 1 C dX3_firstRunInto_1 rfl ?_
  refine v_callq 2 hA (rV_Pg 2 C L_RX3_138 lk_187 lk_1 (m_planeThere_no (z := (u : Int)) hg hN hI hP ⟨by omega, by omega⟩ (fun z => hu z.2)) (vg.o hg) rfl ⟨rfl, rfl⟩ (rm_ok rfl) dX3_firstRunInto_2) (fun r1 w2 h3 => ?_)
  obtain ⟨e_r1, rfl⟩ := h3
  refine v_eqv .null (by rw [e_r1]; rfl) ?_
  refine v_astore_nN 5 [(3, .null), (0, .ref (ad 0)), (1, .int (iZ (u : Int))), (2, .int (iZ (j : Int)))] C dX3_firstRunInto_5 (by decide) rfl ?_
  refine v_aload_nN 6 0 C dX3_firstRunInto_6 rfl ?_
  refine v_ifnonnullN 7 C dX3_firstRunInto_7 ?_
  refine v_bipush 10 C (iZ (-9)) dX3_firstRunInto_10 (by decide) ?_
  exact v_iret 12 C (⟨rfl, rfl⟩) dX3_firstRunInto_12
