/-! PAGE: its loops -/
def thP (b : Bs) (i : Nat) : Bool := decide (b 8 i = 1)
def thC (b : Bs) : Int := cnt (thP b) (bn b)
set_option maxHeartbeats 4000000 in
set_option maxRecDepth 100000 in
theorem m_partsThere {l : Launch} {D : va_G} {kc : Nat → ClassId} {N : Nat} {ad : Nat → Nat} {S : St} {b : Bs} (hg : vg N) (hN : N = 66 + 15 * bn b) (hI : Inv b) (hP : RP S b) : MetK l yX3_partsThere cX3_partsThere 3 (some FieldType.int) 3 0 0 67 D kc (wl kc N ad S) [.ref (ad 0)] (QI D kc (wl kc N ad S) (fun r ws' => r = iZ (thC b) ∧ ws' = wl kc N ad S)) := by
  refine MetK.of (by decide +kernel) (Nat.le_of_ble_eq_true rfl) ?_
  intro p e s m below meth c C
  have hA : ∀ q, s.heap.size ≤ q → va_A (wl kc N ad S) s.heap.size q := fun _ h => Or.inr h
  show V p l e { frames := 3, cells := 0, slots := 0, locals := 67 } s m ([.ref (ad 0)] : List Value).toArray below meth c (MQ below (QI D kc (wl kc N ad S) (fun r ws' => r = iZ (thC b) ∧ ws' = wl kc N ad S) s.heap.size) ([.ref (ad 0)] : List Value).toArray s 0 0 (va_A (wl kc N ad S) s.heap.size)) D (va_A (wl kc N ad S) s.heap.size) 3 0 0 (wl kc N ad S) 0 [(0, .ref (ad 0))] []
  have hb0 := hI.1
  have loop : ∀ (d : Nat) (i : Nat), i + d = bn b → V p l e { frames := 3, cells := 0, slots := 0, locals := 67 } s m ([.ref (ad 0)] : List Value).toArray below meth c (MQ below (QI D kc (wl kc N ad S) (fun r ws' => r = iZ (thC b) ∧ ws' = wl kc N ad S) s.heap.size) ([.ref (ad 0)] : List Value).toArray s 0 0 (va_A (wl kc N ad S) s.heap.size)) D (va_A (wl kc N ad S) s.heap.size) 3 0 0 (wl kc N ad S) 4 [(2, .int (iZ (i : Int))), (1, .int (iZ (cnt (thP b) i))), (0, .ref (ad 0))] [] := by
    intro d
    induction d with
    | zero =>
      intro i hi
      have hcb := cnt_b (thP b) i
      refine v_iload_n 4 0 C dX3_partsThere_4 rfl ?_
      refine v_aload_n 5 2 C dX3_partsThere_5 rfl ?_
      refine g_Pg_made 6 C (vg.o hg).1 (vg.o hg).2 lk_216 dX3_partsThere_6 ?_
      refine v_eqi (iZ (b 0 0)) (hP.1.2.2) ?_
      refine z_icmp_ge 9 29 C (by first | assumption | exact ⟨by omega, by omega⟩) (by first | assumption | exact ⟨by omega, by omega⟩) dX3_partsThere_9 (by decide) (fun c9_0 => ?_) (fun c9_0 => absurd (by omega) c9_0)
      refine v_iload_n 29 1 C dX3_partsThere_29 rfl ?_
      exact v_iret 30 C (⟨by rw [show i = bn b by omega]; rfl, rfl⟩) dX3_partsThere_30
    | succ d ih =>
      intro i hi
      by_cases ht : b 8 i = 1
      · skip
        have hcb := cnt_b (thP b) i
        refine v_iload_n 4 0 C dX3_partsThere_4 rfl ?_
        refine v_aload_n 5 2 C dX3_partsThere_5 rfl ?_
        refine g_Pg_made 6 C (vg.o hg).1 (vg.o hg).2 lk_216 dX3_partsThere_6 ?_
        refine v_eqi (iZ (b 0 0)) (hP.1.2.2) ?_
        refine z_icmp_ge 9 29 C (by first | assumption | exact ⟨by omega, by omega⟩) (by first | assumption | exact ⟨by omega, by omega⟩) dX3_partsThere_9 (by decide) (fun c9_0 => absurd c9_0 (by omega)) (fun c9_0 => ?_)
        refine v_aload_n 12 2 C dX3_partsThere_12 rfl ?_
        refine v_iload_n 13 0 C dX3_partsThere_13 rfl ?_
        refine v_callq 14 hA (rV_Pg 14 C L_RX3_90 lk_244 lk_3 (m_partThere hg hN hI hP (show i < bn b by omega) ht) (vg.o hg) rfl ⟨rfl, rfl⟩ (rm_ok rfl) dX3_partsThere_14) (fun r1 w2 h3 => ?_)
        obtain ⟨e_r1, rfl⟩ := h3
        refine v_eqv (.ref (ad (66 + 15 * i))) (by rw [e_r1]; rfl) ?_
        refine v_ifnull 17 C dX3_partsThere_17 ?_
        refine v_iinc 20 1 (iZ ((cnt (thP b) i) + 1)) [(1, .int (iZ ((cnt (thP b) i) + 1))), (2, .int (iZ (i : Int))), (0, .ref (ad 0))] C dX3_partsThere_20 rfl (iZ_add _ _) (by decide) rfl ?_
        refine v_iinc 23 1 (iZ ((i + 1 : Nat) : Int)) [(2, .int (iZ ((i + 1 : Nat) : Int))), (1, .int (iZ ((cnt (thP b) i) + 1))), (0, .ref (ad 0))] C dX3_partsThere_23 rfl (iZ_add _ _) (by decide) rfl ?_
        refine v_goto 26 4 C dX3_partsThere_26 (by decide) ?_
        refine v_sub [0, 1, 2] rfl ?_
        have q := ih (i + 1) (by omega)
        rw [cnt_T (P := thP b) (decide_eq_true ht)] at q
        exact q
      · skip
        have hcb := cnt_b (thP b) i
        refine v_iload_n 4 0 C dX3_partsThere_4 rfl ?_
        refine v_aload_n 5 2 C dX3_partsThere_5 rfl ?_
        refine g_Pg_made 6 C (vg.o hg).1 (vg.o hg).2 lk_216 dX3_partsThere_6 ?_
        refine v_eqi (iZ (b 0 0)) (hP.1.2.2) ?_
        refine z_icmp_ge 9 29 C (by first | assumption | exact ⟨by omega, by omega⟩) (by first | assumption | exact ⟨by omega, by omega⟩) dX3_partsThere_9 (by decide) (fun c9_0 => absurd c9_0 (by omega)) (fun c9_0 => ?_)
        refine v_aload_n 12 2 C dX3_partsThere_12 rfl ?_
        refine v_iload_n 13 0 C dX3_partsThere_13 rfl ?_
        refine v_callq 14 hA (rV_Pg 14 C L_RX3_90 lk_244 lk_3 (m_partThere_no (z := (i : Int)) hg hN hI hP ⟨by omega, by omega⟩ (fun q => ht q.2.2)) (vg.o hg) rfl ⟨rfl, rfl⟩ (rm_ok rfl) dX3_partsThere_14) (fun r4 w5 h6 => ?_)
        obtain ⟨e_r4, rfl⟩ := h6
        refine v_eqv .null (by rw [e_r4]; rfl) ?_
        refine v_ifnullN 17 23 C dX3_partsThere_17 (by decide) ?_
        refine v_iinc 23 0 (iZ ((i + 1 : Nat) : Int)) [(2, .int (iZ ((i + 1 : Nat) : Int))), (1, .int (iZ (cnt (thP b) i))), (0, .ref (ad 0))] C dX3_partsThere_23 rfl (iZ_add _ _) (by decide) rfl ?_
        refine v_goto 26 4 C dX3_partsThere_26 (by decide) ?_
        refine v_sub [0, 1, 2] rfl ?_
        have q := ih (i + 1) (by omega)
        rw [cnt_F (P := thP b) (decide_eq_false ht)] at q
        exact q
  refine v_iconst 0 C (iZ 0) dX3_partsThere_0 rfl ?_
  refine v_istore_n 1 [(1, .int (iZ 0)), (0, .ref (ad 0))] C dX3_partsThere_1 (by decide) rfl ?_
  refine v_iconst 2 C (iZ 0) dX3_partsThere_2 rfl ?_
  refine v_istore_n 3 [(2, .int (iZ 0)), (1, .int (iZ 0)), (0, .ref (ad 0))] C dX3_partsThere_3 (by decide) rfl ?_
  refine v_sub [0, 1, 2] rfl ?_
  exact loop (bn b) 0 (by omega)

def onP (b : Bs) (k i : Nat) : Bool := decide (b 4 i = 2 * (k : Int) + 2 ∨ b 4 i = 2 * (k : Int) + 2 + 1)
def hgP (b : Bs) (k h : Nat) : Bool := decide (b 8 h = 1) && (onP b k (2 * h) || onP b k (2 * h + 1))
def hangN (b : Bs) (k : Nat) : Int := cnt (hgP b k) (bn b)
theorem hg0 {b : Bs} (hI : Inv b) (k : Nat) : ∀ i, i ≤ k + 1 → i ≤ bn b → cnt (hgP b k) i = 0 := by
  intro i
  induction i with
  | zero => intro _ _; rfl
  | succ i ih =>
    intro h1 h2
    have a1 := (hI.2.2.2.2 i (by omega) (2 * i) (Or.inl rfl)).1
    have a2 := (hI.2.2.2.2 i (by omega) (2 * i + 1) (Or.inr rfl)).1
    rw [cnt_F, ih (by omega) (by omega)]
    unfold hgP onP
    rw [decide_eq_false (show ¬ (b 4 (2 * i) = 2 * (k : Int) + 2 ∨ b 4 (2 * i) = 2 * (k : Int) + 2 + 1) by omega), decide_eq_false (show ¬ (b 4 (2 * i + 1) = 2 * (k : Int) + 2 ∨ b 4 (2 * i + 1) = 2 * (k : Int) + 2 + 1) by omega)]
    simp
set_option maxHeartbeats 4000000 in
set_option maxRecDepth 100000 in
theorem m_hangingOn {l : Launch} {D : va_G} {kc : Nat → ClassId} {N : Nat} {ad : Nat → Nat} {S : St} {b : Bs} (hg : vg N) (hN : N = 66 + 15 * bn b) (hI : Inv b) (hP : RP S b) {k : Nat} (hk : k < bn b) : MetK l yX3_hangingOn cX3_hangingOn 6 (some FieldType.int) 3 0 0 67 D kc (wl kc N ad S) [.ref (ad 0), .int (iZ (k : Int))] (QI D kc (wl kc N ad S) (fun r ws' => r = iZ (hangN b k) ∧ ws' = wl kc N ad S)) := by
  refine MetK.of (by decide +kernel) (Nat.le_of_ble_eq_true rfl) ?_
  intro p e s m below meth c C
  have hA : ∀ q, s.heap.size ≤ q → va_A (wl kc N ad S) s.heap.size q := fun _ h => Or.inr h
  show V p l e { frames := 3, cells := 0, slots := 0, locals := 67 } s m ([.ref (ad 0), .int (iZ (k : Int))] : List Value).toArray below meth c (MQ below (QI D kc (wl kc N ad S) (fun r ws' => r = iZ (hangN b k) ∧ ws' = wl kc N ad S) s.heap.size) ([.ref (ad 0), .int (iZ (k : Int))] : List Value).toArray s 0 0 (va_A (wl kc N ad S) s.heap.size)) D (va_A (wl kc N ad S) s.heap.size) 6 0 0 (wl kc N ad S) 0 [(0, .ref (ad 0)), (1, .int (iZ (k : Int)))] []
  have hb0 := hI.1
  have loop : ∀ (d : Nat) (i : Nat), i + d = bn b → k < i → V p l e { frames := 3, cells := 0, slots := 0, locals := 67 } s m ([.ref (ad 0), .int (iZ (k : Int))] : List Value).toArray below meth c (MQ below (QI D kc (wl kc N ad S) (fun r ws' => r = iZ (hangN b k) ∧ ws' = wl kc N ad S) s.heap.size) ([.ref (ad 0), .int (iZ (k : Int))] : List Value).toArray s 0 0 (va_A (wl kc N ad S) s.heap.size)) D (va_A (wl kc N ad S) s.heap.size) 6 0 0 (wl kc N ad S) 13 [(4, .int (iZ (i : Int))), (3, .int (iZ (cnt (hgP b k) i))), (2, .int (iZ (2 + 2 * (k : Int)))), (0, .ref (ad 0))] [] := by
    intro d
    induction d with
    | zero =>
      intro i hi hki
      have hcb := cnt_b (hgP b k) i
      refine v_iload 13 0 C dX3_hangingOn_13 rfl ?_
      refine v_aload_n 15 3 C dX3_hangingOn_15 rfl ?_
      refine g_Pg_made 16 C (vg.o hg).1 (vg.o hg).2 lk_216 dX3_hangingOn_16 ?_
      refine v_eqi (iZ (b 0 0)) (hP.1.2.2) ?_
      refine z_icmp_ge 19 68 C (by first | assumption | exact ⟨by omega, by omega⟩) (by first | assumption | exact ⟨by omega, by omega⟩) dX3_hangingOn_19 (by decide) (fun c19_0 => ?_) (fun c19_0 => absurd (by omega) c19_0)
      refine v_iload_n 68 1 C dX3_hangingOn_68 rfl ?_
      exact v_iret 69 C (⟨by rw [show i = bn b by omega]; rfl, rfl⟩) dX3_hangingOn_69
    | succ d ih =>
      intro i hi hki
      by_cases ht : b 8 i = 1
      · skip
        have hcb := cnt_b (hgP b k) i
        have hi2 : i < bn b := by omega
        have J0 := (hI.2.2.2.2 i hi2 (2 * i) (Or.inl rfl)).1
        have J1 := (hI.2.2.2.2 i hi2 (2 * i + 1) (Or.inr rfl)).1
        refine v_iload 13 0 C dX3_hangingOn_13 rfl ?_
        refine v_aload_n 15 3 C dX3_hangingOn_15 rfl ?_
        refine g_Pg_made 16 C (vg.o hg).1 (vg.o hg).2 lk_216 dX3_hangingOn_16 ?_
        refine v_eqi (iZ (b 0 0)) (hP.1.2.2) ?_
        refine z_icmp_ge 19 68 C (by first | assumption | exact ⟨by omega, by omega⟩) (by first | assumption | exact ⟨by omega, by omega⟩) dX3_hangingOn_19 (by decide) (fun c19_0 => absurd c19_0 (by omega)) (fun c19_0 => ?_)
        refine v_aload_n 22 3 C dX3_hangingOn_22 rfl ?_
        refine v_iload 23 0 C dX3_hangingOn_23 rfl ?_
        refine v_callq 25 hA (rV_Pg 25 C L_RX3_90 lk_244 lk_3 (m_partThere hg hN hI hP hi2 ht) (vg.o hg) rfl ⟨rfl, rfl⟩ (rm_ok rfl) dX3_hangingOn_25) (fun r1 w2 h3 => ?_)
        obtain ⟨e_r1, rfl⟩ := h3
        refine v_eqv (.ref (ad (66 + 15 * i))) (by rw [e_r1]; rfl) ?_
        refine v_astore 28 [(5, .ref (ad (66 + 15 * i))), (4, .int (iZ (i : Int))), (3, .int (iZ (cnt (hgP b k) i))), (2, .int (iZ (2 + 2 * (k : Int)))), (0, .ref (ad 0))] C dX3_hangingOn_28 (by decide) rfl ?_
        refine v_aload 30 0 C dX3_hangingOn_30 rfl ?_
        refine v_ifnull 32 C dX3_hangingOn_32 ?_
        refine v_aload 35 0 C dX3_hangingOn_35 rfl ?_
        refine g_Pt_p 37 C (vp.o (vp_k hN hi2)).1 (vp.o (vp_k hN hi2)).2 lk_135 dX3_hangingOn_37 ?_
        refine v_eqi (iZ (b 4 (2 * i))) ((hP.2.2.2.2.2 i hi2).2.1) ?_
        refine v_iload_n 40 3 C dX3_hangingOn_40 rfl ?_
        refine v_calli 41 hA (rS 41 C L_RX3_246 lk_343 (m_pair ⟨by omega, by omega⟩ ⟨by omega, by omega⟩) rfl rfl (rm_ok rfl) dX3_hangingOn_41) (fun r4 w5 h6 => ?_)
        obtain ⟨e_r4, rfl⟩ := h6
        refine v_eqi (iZ (bz (decide (b 4 (2 * i) = 2 + 2 * (k : Int) ∨ b 4 (2 * i) = 2 + 2 * (k : Int) + 1)))) (e_r4) ?_
        refine z_if_ne 44 59 C (bzr _) dX3_hangingOn_44 (by decide) (fun c44_1 => ?_) (fun c44_1 => ?_)
        · skip
          refine v_iinc 59 2 (iZ ((cnt (hgP b k) i) + 1)) [(3, .int (iZ ((cnt (hgP b k) i) + 1))), (5, .ref (ad (66 + 15 * i))), (4, .int (iZ (i : Int))), (2, .int (iZ (2 + 2 * (k : Int)))), (0, .ref (ad 0))] C dX3_hangingOn_59 rfl (iZ_add _ _) (by decide) rfl ?_
          refine v_iinc 62 2 (iZ ((i + 1 : Nat) : Int)) [(4, .int (iZ ((i + 1 : Nat) : Int))), (3, .int (iZ ((cnt (hgP b k) i) + 1))), (5, .ref (ad (66 + 15 * i))), (2, .int (iZ (2 + 2 * (k : Int)))), (0, .ref (ad 0))] C dX3_hangingOn_62 rfl (iZ_add _ _) (by decide) rfl ?_
          refine v_goto 65 13 C dX3_hangingOn_65 (by decide) ?_
          refine v_sub [0, 1, 3, 4] rfl ?_
          have q := ih (i + 1) (by omega) (by omega)
          rw [cnt_T (P := hgP b k) (by unfold hgP onP; rw [decide_eq_true ht, decide_eq_true (show b 4 (2 * i) = 2 * (k : Int) + 2 ∨ b 4 (2 * i) = 2 * (k : Int) + 2 + 1 by have := of_decide_eq_true (bz_ne c44_1); omega)]; rfl)] at q
          exact q
        · skip
          refine v_aload 47 0 C dX3_hangingOn_47 rfl ?_
          refine g_Pt_q 49 C (vp.o (vp_k hN hi2)).1 (vp.o (vp_k hN hi2)).2 lk_139 dX3_hangingOn_49 ?_
          refine v_eqi (iZ (b 4 (2 * i + 1))) ((hP.2.2.2.2.2 i hi2).2.2.2.1) ?_
          refine v_iload_n 52 3 C dX3_hangingOn_52 rfl ?_
          refine v_calli 53 hA (rS 53 C L_RX3_246 lk_343 (m_pair ⟨by omega, by omega⟩ ⟨by omega, by omega⟩) rfl rfl (rm_ok rfl) dX3_hangingOn_53) (fun r7 w8 h9 => ?_)
          obtain ⟨e_r7, rfl⟩ := h9
          refine v_eqi (iZ (bz (decide (b 4 (2 * i + 1) = 2 + 2 * (k : Int) ∨ b 4 (2 * i + 1) = 2 + 2 * (k : Int) + 1)))) (e_r7) ?_
          refine z_if_eq 56 62 C (bzr _) dX3_hangingOn_56 (by decide) (fun c56_2 => ?_) (fun c56_2 => ?_)
          · skip
            refine v_iinc 62 1 (iZ ((i + 1 : Nat) : Int)) [(4, .int (iZ ((i + 1 : Nat) : Int))), (5, .ref (ad (66 + 15 * i))), (3, .int (iZ (cnt (hgP b k) i))), (2, .int (iZ (2 + 2 * (k : Int)))), (0, .ref (ad 0))] C dX3_hangingOn_62 rfl (iZ_add _ _) (by decide) rfl ?_
            refine v_goto 65 13 C dX3_hangingOn_65 (by decide) ?_
            refine v_sub [0, 2, 3, 4] rfl ?_
            have q := ih (i + 1) (by omega) (by omega)
            rw [cnt_F (P := hgP b k) (by unfold hgP onP; rw [decide_eq_false (show ¬ (b 4 (2 * i) = 2 * (k : Int) + 2 ∨ b 4 (2 * i) = 2 * (k : Int) + 2 + 1) by have := of_decide_eq_false (bz_eq c44_1); omega), decide_eq_false (show ¬ (b 4 (2 * i + 1) = 2 * (k : Int) + 2 ∨ b 4 (2 * i + 1) = 2 * (k : Int) + 2 + 1) by have := of_decide_eq_false (bz_eq c56_2); omega)]; simp)] at q
            exact q
          · skip
            refine v_iinc 59 2 (iZ ((cnt (hgP b k) i) + 1)) [(3, .int (iZ ((cnt (hgP b k) i) + 1))), (5, .ref (ad (66 + 15 * i))), (4, .int (iZ (i : Int))), (2, .int (iZ (2 + 2 * (k : Int)))), (0, .ref (ad 0))] C dX3_hangingOn_59 rfl (iZ_add _ _) (by decide) rfl ?_
            refine v_iinc 62 2 (iZ ((i + 1 : Nat) : Int)) [(4, .int (iZ ((i + 1 : Nat) : Int))), (3, .int (iZ ((cnt (hgP b k) i) + 1))), (5, .ref (ad (66 + 15 * i))), (2, .int (iZ (2 + 2 * (k : Int)))), (0, .ref (ad 0))] C dX3_hangingOn_62 rfl (iZ_add _ _) (by decide) rfl ?_
            refine v_goto 65 13 C dX3_hangingOn_65 (by decide) ?_
            refine v_sub [0, 1, 3, 4] rfl ?_
            have q := ih (i + 1) (by omega) (by omega)
            rw [cnt_T (P := hgP b k) (by unfold hgP onP; rw [decide_eq_true ht, decide_eq_true (show b 4 (2 * i + 1) = 2 * (k : Int) + 2 ∨ b 4 (2 * i + 1) = 2 * (k : Int) + 2 + 1 by have := of_decide_eq_true (bz_ne c56_2); omega)]; simp)] at q
            exact q
      · skip
        have hcb := cnt_b (hgP b k) i
        have hi2 : i < bn b := by omega
        have J0 := (hI.2.2.2.2 i hi2 (2 * i) (Or.inl rfl)).1
        have J1 := (hI.2.2.2.2 i hi2 (2 * i + 1) (Or.inr rfl)).1
        refine v_iload 13 0 C dX3_hangingOn_13 rfl ?_
        refine v_aload_n 15 3 C dX3_hangingOn_15 rfl ?_
        refine g_Pg_made 16 C (vg.o hg).1 (vg.o hg).2 lk_216 dX3_hangingOn_16 ?_
        refine v_eqi (iZ (b 0 0)) (hP.1.2.2) ?_
        refine z_icmp_ge 19 68 C (by first | assumption | exact ⟨by omega, by omega⟩) (by first | assumption | exact ⟨by omega, by omega⟩) dX3_hangingOn_19 (by decide) (fun c19_0 => absurd c19_0 (by omega)) (fun c19_0 => ?_)
        refine v_aload_n 22 3 C dX3_hangingOn_22 rfl ?_
        refine v_iload 23 0 C dX3_hangingOn_23 rfl ?_
        refine v_callq 25 hA (rV_Pg 25 C L_RX3_90 lk_244 lk_3 (m_partThere_no (z := (i : Int)) hg hN hI hP ⟨by omega, by omega⟩ (fun q => ht q.2.2)) (vg.o hg) rfl ⟨rfl, rfl⟩ (rm_ok rfl) dX3_hangingOn_25) (fun r10 w11 h12 => ?_)
        obtain ⟨e_r10, rfl⟩ := h12
        refine v_eqv .null (by rw [e_r10]; rfl) ?_
        refine v_astoreN 28 [(5, .null), (4, .int (iZ (i : Int))), (3, .int (iZ (cnt (hgP b k) i))), (2, .int (iZ (2 + 2 * (k : Int)))), (0, .ref (ad 0))] C dX3_hangingOn_28 (by decide) rfl ?_
        refine v_aloadN 30 0 C dX3_hangingOn_30 rfl ?_
        refine v_ifnullN 32 62 C dX3_hangingOn_32 (by decide) ?_
        refine v_iinc 62 1 (iZ ((i + 1 : Nat) : Int)) [(4, .int (iZ ((i + 1 : Nat) : Int))), (5, .null), (3, .int (iZ (cnt (hgP b k) i))), (2, .int (iZ (2 + 2 * (k : Int)))), (0, .ref (ad 0))] C dX3_hangingOn_62 rfl (iZ_add _ _) (by decide) rfl ?_
        refine v_goto 65 13 C dX3_hangingOn_65 (by decide) ?_
        refine v_sub [0, 2, 3, 4] rfl ?_
        have q := ih (i + 1) (by omega) (by omega)
        rw [cnt_F (P := hgP b k) (by unfold hgP; rw [decide_eq_false ht]; rfl)] at q
        exact q
  refine v_iconst 0 C (iZ 2) dX3_hangingOn_0 rfl ?_
  refine v_iconst 1 C (iZ 2) dX3_hangingOn_1 rfl ?_
  refine v_iload_n 2 1 C dX3_hangingOn_2 rfl ?_
  refine z_imul 3 C dX3_hangingOn_3 ?_
  refine z_iadd 4 C dX3_hangingOn_4 ?_
  refine v_istore_n 5 [(2, .int (iZ (2 + (2 * (k : Int))))), (0, .ref (ad 0)), (1, .int (iZ (k : Int)))] C dX3_hangingOn_5 (by decide) rfl ?_
  refine v_iconst 6 C (iZ 0) dX3_hangingOn_6 rfl ?_
  refine v_istore_n 7 [(3, .int (iZ 0)), (2, .int (iZ (2 + (2 * (k : Int))))), (0, .ref (ad 0)), (1, .int (iZ (k : Int)))] C dX3_hangingOn_7 (by decide) rfl ?_
  refine v_iload_n 8 3 C dX3_hangingOn_8 rfl ?_
  refine v_iconst 9 C (iZ 1) dX3_hangingOn_9 rfl ?_
  refine z_iadd 10 C dX3_hangingOn_10 ?_
  refine v_eqi (iZ ((k + 1 : Nat) : Int)) (rfl) ?_
  refine v_istore 11 [(4, .int (iZ ((k + 1 : Nat) : Int))), (3, .int (iZ 0)), (2, .int (iZ (2 + (2 * (k : Int))))), (0, .ref (ad 0)), (1, .int (iZ (k : Int)))] C dX3_hangingOn_11 (by decide) rfl ?_
  refine v_sub [0, 1, 2, 3] rfl ?_
  have q := loop (bn b - (k + 1)) (k + 1) (by omega) (by omega)
  rw [hg0 hI k (k + 1) (by omega) (by omega)] at q
  exact q

set_option maxHeartbeats 4000000 in
set_option maxRecDepth 100000 in
theorem m_firstStuck {l : Launch} {D : va_G} {kc : Nat → ClassId} {N : Nat} {ad : Nat → Nat} {S : St} {t : Nat} (h : vt N t) {sk : Nat → Int} (hs : ∀ j, j < 17 → gA S (t + 3) j = iZ (sk j) ∧ b01 (sk j)) : MetK l yX2_firstStuck cX2_firstStuck 2 (some FieldType.int) 1 0 0 24 D kc (wl kc N ad S) [.ref (ad t)] (QI D kc (wl kc N ad S) (fun r ws' => r = iZ (fsZ sk) ∧ ws' = wl kc N ad S)) := by
  refine MetK.of (by decide +kernel) (Nat.le_of_ble_eq_true rfl) ?_
  intro p e s m below meth c C
  have hA : ∀ q, s.heap.size ≤ q → va_A (wl kc N ad S) s.heap.size q := fun _ h => Or.inr h
  show V p l e { frames := 1, cells := 0, slots := 0, locals := 24 } s m ([.ref (ad t)] : List Value).toArray below meth c (MQ below (QI D kc (wl kc N ad S) (fun r ws' => r = iZ (fsZ sk) ∧ ws' = wl kc N ad S) s.heap.size) ([.ref (ad t)] : List Value).toArray s 0 0 (va_A (wl kc N ad S) s.heap.size)) D (va_A (wl kc N ad S) s.heap.size) 2 0 0 (wl kc N ad S) 0 [(0, .ref (ad t))] []
  have loop : ∀ (d : Nat) (j : Nat), j + d = 17 → fsF sk d j = fsZ sk → V p l e { frames := 1, cells := 0, slots := 0, locals := 24 } s m ([.ref (ad t)] : List Value).toArray below meth c (MQ below (QI D kc (wl kc N ad S) (fun r ws' => r = iZ (fsZ sk) ∧ ws' = wl kc N ad S) s.heap.size) ([.ref (ad t)] : List Value).toArray s 0 0 (va_A (wl kc N ad S) s.heap.size)) D (va_A (wl kc N ad S) s.heap.size) 2 0 0 (wl kc N ad S) 2 [(1, .int (iZ (j : Int))), (0, .ref (ad t))] [] := by
    intro d
    induction d with
    | zero =>
      intro j hj hf
      refine v_iload_n 2 0 C dX2_firstStuck_2 rfl ?_
      refine v_bipush 3 C (iZ 17) dX2_firstStuck_3 (by decide) ?_
      refine z_icmp_ge 5 25 C (by first | assumption | exact ⟨by omega, by omega⟩) (by first | assumption | exact ⟨by omega, by omega⟩) dX2_firstStuck_5 (by decide) (fun c5_0 => ?_) (fun c5_0 => absurd (by omega) c5_0)
      refine v_bipush 25 C (iZ (-9)) dX2_firstStuck_25 (by decide) ?_
      exact v_iret 27 C (⟨by rw [← hf]; rfl, rfl⟩) dX2_firstStuck_27
    | succ d ih =>
      intro j hj hf
      skip
      have h01 := (hs j (by omega)).2
      refine v_iload_n 2 0 C dX2_firstStuck_2 rfl ?_
      refine v_bipush 3 C (iZ 17) dX2_firstStuck_3 (by decide) ?_
      refine z_icmp_ge 5 25 C (by first | assumption | exact ⟨by omega, by omega⟩) (by first | assumption | exact ⟨by omega, by omega⟩) dX2_firstStuck_5 (by decide) (fun c5_0 => absurd c5_0 (by omega)) (fun c5_0 => ?_)
      refine v_aload_n 8 1 C dX2_firstStuck_8 rfl ?_
      refine g_Tr_stuck 9 C (vt.o h).1 (vt.o h).2 lk_84 dX2_firstStuck_9 ?_
      refine v_iload_n 12 0 C dX2_firstStuck_12 rfl ?_
      refine v_zald 13 C (vt.s h).1 (vt.s h).2 j (izn (by omega)) (lnx (vt.ls h) (by omega)) dX2_firstStuck_13 ?_
      refine v_eqi (iZ (sk j)) ((hs j (by omega)).1) ?_
      refine z_if_eq 14 19 C (by first | assumption | exact ⟨by omega, by omega⟩) dX2_firstStuck_14 (by decide) (fun c14_1 => ?_) (fun c14_1 => ?_)
      · skip
        refine v_iinc 19 0 (iZ ((j + 1 : Nat) : Int)) [(1, .int (iZ ((j + 1 : Nat) : Int))), (0, .ref (ad t))] C dX2_firstStuck_19 rfl (iZ_add _ _) (by decide) rfl ?_
        refine v_goto 22 2 C dX2_firstStuck_22 (by decide) ?_
        refine v_sub [0, 1] rfl ?_
        exact ih (j + 1) (by omega) (by rw [← hf]; rw [fsF, if_pos c14_1])
      · skip
        refine v_iload_n 17 0 C dX2_firstStuck_17 rfl ?_
        exact v_iret 18 C (⟨by rw [← hf]; unfold fsF; rw [if_neg c14_1], rfl⟩) dX2_firstStuck_18
  refine v_iconst 0 C (iZ 0) dX2_firstStuck_0 rfl ?_
  refine v_istore_n 1 [(1, .int (iZ 0)), (0, .ref (ad t))] C dX2_firstStuck_1 (by decide) rfl ?_
  refine v_sub [0, 1] rfl ?_
  exact loop 17 0 (by omega) rfl

def mvZ (v0 v1 x0 y0 x1 y1 : Int) : Int := if v0 = 0 ∧ v1 = 0 then max ((x1 - x0).natAbs : Int) ((y1 - y0).natAbs : Int) else -1
set_option maxHeartbeats 4000000 in
set_option maxRecDepth 100000 in
theorem m_moveFrom {l : Launch} {D : va_G} {kc : Nat → ClassId} {N : Nat} {ad : Nat → Nat} {S : St} {t j : Nat} {v0 v1 x0 y0 x1 y1 : Int} (h : vt N t) (hj : j < 16) (s0 : gA S (t + 3) j = iZ v0) (s1 : gA S (t + 3) (j + 1) = iZ v1) (h0 : b01 v0) (h1 : b01 v1) (E0 : v0 = 0 → gA S (t + 1) j = iZ x0 ∧ gA S (t + 2) j = iZ y0 ∧ bd x0 ∧ bd y0) (E1 : v1 = 0 → gA S (t + 1) (j + 1) = iZ x1 ∧ gA S (t + 2) (j + 1) = iZ y1 ∧ bd x1 ∧ bd y1) : MetK l yX2_moveFrom cX2_moveFrom 2 (some FieldType.int) 1 0 0 24 D kc (wl kc N ad S) [.ref (ad t), .int (iZ (j : Int))] (QI D kc (wl kc N ad S) (fun r ws' => r = iZ (mvZ v0 v1 x0 y0 x1 y1) ∧ ws' = wl kc N ad S)) := by
  refine MetK.of (by decide +kernel) (Nat.le_of_ble_eq_true rfl) ?_
  intro p e s m below meth c C
  have hA : ∀ q, s.heap.size ≤ q → va_A (wl kc N ad S) s.heap.size q := fun _ h => Or.inr h
  show V p l e { frames := 1, cells := 0, slots := 0, locals := 24 } s m ([.ref (ad t), .int (iZ (j : Int))] : List Value).toArray below meth c (MQ below (QI D kc (wl kc N ad S) (fun r ws' => r = iZ (mvZ v0 v1 x0 y0 x1 y1) ∧ ws' = wl kc N ad S) s.heap.size) ([.ref (ad t), .int (iZ (j : Int))] : List Value).toArray s 0 0 (va_A (wl kc N ad S) s.heap.size)) D (va_A (wl kc N ad S) s.heap.size) 2 0 0 (wl kc N ad S) 0 [(0, .ref (ad t)), (1, .int (iZ (j : Int)))] []
  refine v_aload_n 0 0 C dX2_moveFrom_0 rfl ?_
  refine g_Tr_stuck 1 C (vt.o h).1 (vt.o h).2 lk_84 dX2_moveFrom_1 ?_
  refine v_iload_n 4 1 C dX2_moveFrom_4 rfl ?_
  refine v_zald 5 C (vt.s h).1 (vt.s h).2 j (izn (by omega)) (lnx (vt.ls h) (by omega)) dX2_moveFrom_5 ?_
  refine v_eqi (iZ v0) (s0) ?_
  refine z_if_ne 6 20 C (by first | assumption | exact ⟨by omega, by omega⟩) dX2_moveFrom_6 (by decide) (fun c6_0 => ?_) (fun c6_0 => ?_)
  · skip
    refine v_iconst 20 C (iZ (-1)) dX2_moveFrom_20 rfl ?_
    exact v_iret 21 C (⟨by unfold mvZ; rw [if_neg (by omega)], rfl⟩) dX2_moveFrom_21
  · skip
    refine v_aload_n 9 0 C dX2_moveFrom_9 rfl ?_
    refine g_Tr_stuck 10 C (vt.o h).1 (vt.o h).2 lk_84 dX2_moveFrom_10 ?_
    refine v_iload_n 13 1 C dX2_moveFrom_13 rfl ?_
    refine v_iconst 14 C (iZ 1) dX2_moveFrom_14 rfl ?_
    refine z_iadd 15 C dX2_moveFrom_15 ?_
    refine v_zald 16 C (vt.s h).1 (vt.s h).2 (j + 1) (izn (by omega)) (lnx (vt.ls h) (by omega)) dX2_moveFrom_16 ?_
    refine v_eqi (iZ v1) (s1) ?_
    refine z_if_eq 17 22 C (by first | assumption | exact ⟨by omega, by omega⟩) dX2_moveFrom_17 (by decide) (fun c17_1 => ?_) (fun c17_1 => ?_)
    · skip
      obtain ⟨-, -, p1, p2⟩ := E0 c6_0
      obtain ⟨-, -, p3, p4⟩ := E1 c17_1
      refine v_aload_n 22 0 C dX2_moveFrom_22 rfl ?_
      refine g_Tr_x 23 C (vt.o h).1 (vt.o h).2 lk_76 dX2_moveFrom_23 ?_
      refine v_iload_n 26 1 C dX2_moveFrom_26 rfl ?_
      refine v_iconst 27 C (iZ 1) dX2_moveFrom_27 rfl ?_
      refine z_iadd 28 C dX2_moveFrom_28 ?_
      refine v_iald 29 C (vt.x h).1 (vt.x h).2 (j + 1) (izn (by omega)) (lnx (vt.lx h) (by omega)) dX2_moveFrom_29 ?_
      refine v_eqi (iZ x1) ((E1 c17_1).1) ?_
      refine v_aload_n 30 0 C dX2_moveFrom_30 rfl ?_
      refine g_Tr_x 31 C (vt.o h).1 (vt.o h).2 lk_76 dX2_moveFrom_31 ?_
      refine v_iload_n 34 1 C dX2_moveFrom_34 rfl ?_
      refine v_iald 35 C (vt.x h).1 (vt.x h).2 j (izn (by omega)) (lnx (vt.lx h) (by omega)) dX2_moveFrom_35 ?_
      refine v_eqi (iZ x0) ((E0 c6_0).1) ?_
      refine z_isub 36 C dX2_moveFrom_36 ?_
      refine v_mabs 37 C lk_463 ⟨Nat.le_of_ble_eq_true rfl, Nat.le_of_ble_eq_true rfl, Nat.le_of_ble_eq_true rfl, Nat.le_of_ble_eq_true rfl⟩ dX2_moveFrom_37 ?_
      refine v_eqi (iZ ((x1 - x0).natAbs : Int)) (mabs_z (by first | assumption | exact ⟨by omega, by omega⟩)) ?_
      refine v_aload_n 40 0 C dX2_moveFrom_40 rfl ?_
      refine g_Tr_y 41 C (vt.o h).1 (vt.o h).2 lk_80 dX2_moveFrom_41 ?_
      refine v_iload_n 44 1 C dX2_moveFrom_44 rfl ?_
      refine v_iconst 45 C (iZ 1) dX2_moveFrom_45 rfl ?_
      refine z_iadd 46 C dX2_moveFrom_46 ?_
      refine v_iald 47 C (vt.y h).1 (vt.y h).2 (j + 1) (izn (by omega)) (lnx (vt.ly h) (by omega)) dX2_moveFrom_47 ?_
      refine v_eqi (iZ y1) ((E1 c17_1).2.1) ?_
      refine v_aload_n 48 0 C dX2_moveFrom_48 rfl ?_
      refine g_Tr_y 49 C (vt.o h).1 (vt.o h).2 lk_80 dX2_moveFrom_49 ?_
      refine v_iload_n 52 1 C dX2_moveFrom_52 rfl ?_
      refine v_iald 53 C (vt.y h).1 (vt.y h).2 j (izn (by omega)) (lnx (vt.ly h) (by omega)) dX2_moveFrom_53 ?_
      refine v_eqi (iZ y0) ((E0 c6_0).2.1) ?_
      refine z_isub 54 C dX2_moveFrom_54 ?_
      refine v_mabs 55 C lk_463 ⟨Nat.le_of_ble_eq_true rfl, Nat.le_of_ble_eq_true rfl, Nat.le_of_ble_eq_true rfl, Nat.le_of_ble_eq_true rfl⟩ dX2_moveFrom_55 ?_
      refine v_eqi (iZ ((y1 - y0).natAbs : Int)) (mabs_z (by first | assumption | exact ⟨by omega, by omega⟩)) ?_
      refine v_mmax 58 C lk_464 ⟨Nat.le_of_ble_eq_true rfl, Nat.le_of_ble_eq_true rfl, Nat.le_of_ble_eq_true rfl, Nat.le_of_ble_eq_true rfl⟩ dX2_moveFrom_58 ?_
      refine v_eqi (iZ (max ((x1 - x0).natAbs : Int) ((y1 - y0).natAbs : Int))) (mmax_z (by first | assumption | exact ⟨by omega, by omega⟩) (by first | assumption | exact ⟨by omega, by omega⟩)) ?_
      exact v_iret 61 C (⟨by unfold mvZ; rw [if_pos ⟨c6_0, c17_1⟩], rfl⟩) dX2_moveFrom_61
    · skip
      refine v_iconst 20 C (iZ (-1)) dX2_moveFrom_20 rfl ?_
      exact v_iret 21 C (⟨by unfold mvZ; rw [if_neg (by omega)], rfl⟩) dX2_moveFrom_21
