/-! MODEL: bend, open -/
def BeF (S S' : St) (k : Nat) : Prop := sameOn (fun i => i ≠ 45 ∧ i ≠ 57 ∧ i ≠ 54 ∧ i ≠ 55 ∧ i ≠ 56) S S' ∧ (∀ f, gI S' 45 f = gI S 45 f) ∧ ∀ f, f ≠ k → gA S' 56 f = gA S 56 f ∧ gJ S' 54 f = gJ S 54 f ∧ gJ S' 55 f = gJ S 55 f
theorem BeF.rf {S : St} {k : Nat} : BeF S S k := ⟨sameOn.rf, fun _ => rfl, fun _ _ => ⟨rfl, rfl, rfl⟩⟩
theorem BeF.tr {S T U : St} {k : Nat} (h1 : BeF S T k) (h2 : BeF T U k) : BeF S U k := ⟨h1.1.tr h2.1, fun f => (h2.2.1 f).trans (h1.2.1 f), fun f q => ⟨(h2.2.2 f q).1.trans (h1.2.2 f q).1, (h2.2.2 f q).2.1.trans (h1.2.2 f q).2.1, (h2.2.2 f q).2.2.trans (h1.2.2 f q).2.2⟩⟩
theorem BeF.a {S : St} {k : Nat} {v : Int32} : BeF S (pA S 56 k v) k := ⟨same_pA (fun q => q.2.2.2.2 rfl), fun _ => rfl, fun f q => ⟨by rw [gA_pA, if_neg (fun z => q z.2)], rfl, rfl⟩⟩
theorem same_pJ {P : Nat → Prop} {S : St} {i k : Nat} {v : Int64} (h : ¬ P i) : sameOn P S (pJ S i k v) := fun j hj f => ⟨rfl, rfl, rfl, by rw [gJ_pJ, if_neg (fun (q : j = i ∧ f = k) => h (by rw [← q.1]; exact hj))], rfl⟩
theorem BeF.j4 {S : St} {k : Nat} {v : Int64} : BeF S (pJ S 54 k v) k := ⟨same_pJ (fun q => q.2.2.1 rfl), fun _ => rfl, fun f q => ⟨rfl, by rw [gJ_pJ, if_neg (fun z => q z.2)], by rw [gJ_pJ, if_neg (by omega : ¬ (55 = 54 ∧ f = k))]⟩⟩
theorem BeF.j5 {S : St} {k : Nat} {v : Int64} : BeF S (pJ S 55 k v) k := ⟨same_pJ (fun q => q.2.2.2.1 rfl), fun _ => rfl, fun f q => ⟨rfl, by rw [gJ_pJ, if_neg (by omega : ¬ (54 = 55 ∧ f = k))], by rw [gJ_pJ, if_neg (fun z => q z.2)]⟩⟩
theorem ShF.B {S S' : St} {k : Nat} (h : ShF S S') : BeF S S' k := ⟨fun i hi f => h.1 i ⟨hi.1, hi.2.1⟩ f, h.2, fun f _ => ⟨(h.1 56 (by decide) f).2.1, (h.1 54 (by decide) f).2.2.2.1, (h.1 55 (by decide) f).2.2.2.1⟩⟩
theorem BeF.RM {S S' : St} {b : Bs} {k : Nat} (h : BeF S S' k) (hM : RM S b) : RM S' b := by
  obtain ⟨⟨a1, a2, a3⟩, c, d, e, f⟩ := hM
  have A : ∀ i k, (i ≠ 45 ∧ i ≠ 57 ∧ i ≠ 54 ∧ i ≠ 55 ∧ i ≠ 56) → gA S' i k = gA S i k := fun i k x => (h.1 i x k).2.1
  refine ⟨⟨(h.2.1 0).trans a1, (h.2.1 1).trans a2, (h.2.1 2).trans a3⟩, fun k hk => ?_, fun i hi => ?_, fun r hr => ?_, fun i hi => ?_⟩
  · rw [A 46 k (by decide), A 50 k (by decide), A 51 k (by decide)]; exact c k hk
  · rw [A 47 i (by decide), A 48 i (by decide), A 49 i (by decide)]; exact d i hi
  · rw [A 52 r (by decide)]; exact e r hr
  · rw [A 53 i (by decide)]; exact f i hi
theorem BeF.OP {S S' : St} {b : Bs} {t : Ts} {s K k : Nat} (h : BeF S S' k) (hK : K ≤ k) (hO : OPk S b t s K) : OPk S' b t s K := by
  refine ⟨(h.2.1 11).trans hO.1, fun a h1 h2 => ?_⟩
  have q := h.2.2 a (by omega)
  rw [q.1, q.2.1, q.2.2]
  exact hO.2 a h1 h2
theorem BeF.C {S S' : St} {k : Nat} (h : BeF S S' k) : sameOn atC S S' := fun i hi f => h.1 i (by unfold atC at hi; omega) f
theorem PL_bd {b : Bs} {t : Ts} {j K u : Nat} {n : Int} (hI : Inv b) (hL : LEk b t K) (hj : j < 17) (hg : gd b t j K u) (hn : 0 ≤ n ∧ n ≤ 1000) : bd (PLx b t j u n) ∧ bd (PLy b t j u n) := by
  have h30 := hI.1.2
  have q := PL_b (b := b) (t := t) (s := j) (p := u) (n := n) (K := 32000) hj hn (by decide) (fun h2 => by
    have T := thL_lt hg.1 h2
    have J := hI.2.2.2.2 _ T.1 (u - 2) (by omega)
    refine ⟨by omega, LE_bd hI hL (u / 2 - 1 + 1) _ (by omega) (by have := hg.2.2; omega) T.1 T.2 j hj, ?_, by omega⟩
    have z := hg.2.1
    unfold PS at z; rw [if_neg (by omega)] at z; exact z)
  omega
def BeQ (S S' : St) (b : Bs) (t : Ts) (k j : Nat) (v : Int) : Prop := BeF S S' k ∧ gA S' 56 k = iZ v ∧ b01 v ∧ (¬ (PS t j (b 4 (2 * k)).toNat = 0 ∧ PS t j (b 4 (2 * k + 1)).toNat = 0) → v = 1) ∧
  (PS t j (b 4 (2 * k)).toNat = 0 → PS t j (b 4 (2 * k + 1)).toNat = 0 →
    (foldZ (PLx b t j (b 4 (2 * k)).toNat (b 5 (2 * k))) (PLy b t j (b 4 (2 * k)).toNat (b 5 (2 * k))) (PLx b t j (b 4 (2 * k + 1)).toNat (b 5 (2 * k + 1))) (PLy b t j (b 4 (2 * k + 1)).toNat (b 5 (2 * k + 1))) (b 6 (2 * k)) (b 6 (2 * k + 1)) (b 7 k) = none ∧ v = 1) ∨
    ∃ x y, foldZ (PLx b t j (b 4 (2 * k)).toNat (b 5 (2 * k))) (PLy b t j (b 4 (2 * k)).toNat (b 5 (2 * k))) (PLx b t j (b 4 (2 * k + 1)).toNat (b 5 (2 * k + 1))) (PLy b t j (b 4 (2 * k + 1)).toNat (b 5 (2 * k + 1))) (b 6 (2 * k)) (b 6 (2 * k + 1)) (b 7 k) = some (x, y) ∧ v = 0 ∧ gJ S' 54 k = lZ x ∧ gJ S' 55 k = lZ y)
theorem BeQ_some {S S3 : St} {b : Bs} {t : Ts} {k j pu qu : Nat} {ax ay bx by_ x y : Int} {z z2 : Int32} (hpu : (b 4 (2 * k)).toNat = pu) (hqu : (b 4 (2 * k + 1)).toNat = qu) (h0 : PS t j pu = 0 ∧ PS t j qu = 0) (f3 : BeF S S3 k) (e1 : ax = PLx b t j pu (b 5 (2 * k))) (e2 : ay = PLy b t j pu (b 5 (2 * k))) (e3 : bx = PLx b t j qu (b 5 (2 * k + 1))) (e4 : by_ = PLy b t j qu (b 5 (2 * k + 1))) (hv : gA S3 56 k = iZ 0) (hf : foldZ ax ay bx by_ (b 6 (2 * k)) (b 6 (2 * k + 1)) (b 7 k) = some (x, y)) : BeQ S (pJ (pJ S3 54 k (lZ x)) 55 k (lZ y)) b t k j 0 := by
  unfold BeQ
  rw [hpu, hqu, ← e1, ← e2, ← e3, ← e4]
  exact ⟨(f3.tr BeF.j4).tr BeF.j5, hv, Or.inl rfl, fun q => absurd h0 q, fun _ _ => Or.inr ⟨x, y, hf, rfl, by rw [gJ_pJ, if_neg (by omega : ¬ (54 = 55 ∧ k = k)), gJ_pJ, if_pos ⟨rfl, rfl⟩], by rw [gJ_pJ, if_pos ⟨rfl, rfl⟩]⟩⟩
theorem BeQ_none {S S3 : St} {b : Bs} {t : Ts} {k j pu qu : Nat} {ax ay bx by_ : Int} (hpu : (b 4 (2 * k)).toNat = pu) (hqu : (b 4 (2 * k + 1)).toNat = qu) (h0 : PS t j pu = 0 ∧ PS t j qu = 0) (f3 : BeF S S3 k) (e1 : ax = PLx b t j pu (b 5 (2 * k))) (e2 : ay = PLy b t j pu (b 5 (2 * k))) (e3 : bx = PLx b t j qu (b 5 (2 * k + 1))) (e4 : by_ = PLy b t j qu (b 5 (2 * k + 1))) (hf : foldZ ax ay bx by_ (b 6 (2 * k)) (b 6 (2 * k + 1)) (b 7 k) = none) : BeQ S (pA S3 56 k (iZ 1)) b t k j 1 := by
  unfold BeQ
  rw [hpu, hqu, ← e1, ← e2, ← e3, ← e4]
  exact ⟨f3.tr BeF.a, by rw [gA_pA, if_pos ⟨rfl, rfl⟩], Or.inr rfl, fun q => absurd h0 q, fun _ _ => Or.inl ⟨hf, rfl⟩⟩
set_option maxHeartbeats 4000000 in
set_option maxRecDepth 100000 in
theorem m4_bend {l : Launch} {D : va_G} {kc : Nat → ClassId} {N : Nat} {ad : Nat → Nat} {S : St} {b : Bs} (hm : vm N) (hI : Inv b) (hM : RM S b) {t : Ts} {j k : Nat} (hj : j < 17) (hk : k < bn b) (ht : b 8 k = 1) (hL : LEk b t k) (hO : OPk S b t j k) : MetK l yX4_bend cX4_bend 22 (none) 4 0 0 103 D kc (wl kc N ad S) [.ref (ad 45), .int (iZ (k : Int))] (QV D kc (wl kc N ad S) (fun ws' => ∃ S' v, ws' = wl kc N ad S' ∧ BeQ S S' b t k j v)) := by
  refine MetK.of (by decide +kernel) (Nat.le_of_ble_eq_true rfl) ?_
  intro p e s m below meth c C
  have hA : ∀ q, s.heap.size ≤ q → va_A (wl kc N ad S) s.heap.size q := fun _ h => Or.inr h
  show V p l e { frames := 4, cells := 0, slots := 0, locals := 103 } s m ([.ref (ad 45), .int (iZ (k : Int))] : List Value).toArray below meth c (MQ below (QV D kc (wl kc N ad S) (fun ws' => ∃ S' v, ws' = wl kc N ad S' ∧ BeQ S S' b t k j v) s.heap.size) ([.ref (ad 45), .int (iZ (k : Int))] : List Value).toArray s 0 0 (va_A (wl kc N ad S) s.heap.size)) D (va_A (wl kc N ad S) s.heap.size) 22 0 0 (wl kc N ad S) 0 [(0, .ref (ad 45)), (1, .int (iZ (k : Int)))] []
  have hb0 := hI.1
  have J0 := hI.2.2.2.2 k hk (2 * k) (Or.inl rfl)
  have J1 := hI.2.2.2.2 k hk (2 * k + 1) (Or.inr rfl)
  have h7 := (hI.2.2.2.1 k hk).2.1
  obtain ⟨pu, hpu⟩ : ∃ pu : Nat, (b 4 (2 * k)).toNat = pu := ⟨_, rfl⟩
  obtain ⟨qu, hqu⟩ : ∃ qu : Nat, (b 4 (2 * k + 1)).toNat = qu := ⟨_, rfl⟩
  have tp := J0.2.2.2 ht
  have tq := J1.2.2.2 ht
  rw [hpu] at tp
  rw [hqu] at tq
  have ep : b 4 (2 * k) = (pu : Int) := by omega
  have eq_ : b 4 (2 * k + 1) = (qu : Int) := by omega
  have p62 := thL_62 hI tp
  have q62 := thL_62 hI tq
  have sp : ∀ u, thL b u → u < 2 * k + 2 → 2 ≤ u → gA S 56 (u / 2 - 1) = iZ (t 4 (u / 2 - 1) j) ∧ b01 (t 4 (u / 2 - 1) j) := fun u hu h1 h2 => by
    have T := thL_lt hu h2
    have A := (hO.2 (u / 2 - 1) (by omega) T.1).1
    rw [if_pos T.2] at A
    exact ⟨A, (hL _ (by omega) T.1 T.2 j hj).1⟩
  have p01 : b01 (PS t j pu) := by
    unfold PS
    split
    · exact Or.inl rfl
    · exact (sp pu tp (by omega) (by omega)).2
  have q01 : b01 (PS t j qu) := by
    unfold PS
    split
    · exact Or.inl rfl
    · exact (sp qu tq (by omega) (by omega)).2
  by_cases h0 : PS t j pu = 0 ∧ PS t j qu = 0
  · skip
    refine v_aload_n 0 0 C dX4_bend_0 rfl ?_
    refine g_Mo_isStuck 1 C (vm.o hm).1 (vm.o hm).2 lk_513 dX4_bend_1 ?_
    refine v_iload_n 4 1 C dX4_bend_4 rfl ?_
    refine v_aload_n 5 0 C dX4_bend_5 rfl ?_
    refine v_aload_n 6 0 C dX4_bend_6 rfl ?_
    refine g_Mo_on 7 C (vm.o hm).1 (vm.o hm).2 lk_503 dX4_bend_7 ?_
    refine v_iconst 10 C (iZ 2) dX4_bend_10 rfl ?_
    refine v_iload_n 11 1 C dX4_bend_11 rfl ?_
    refine z_imul 12 C dX4_bend_12 ?_
    refine v_iald 13 C (vm.a hm 47 (by decide) rfl).1 (vm.a hm 47 (by decide) rfl).2 (2 * k) (izn (by omega)) (lnx (show ln 47 = 60 from rfl) (by omega)) dX4_bend_13 ?_
    refine v_eqi (iZ (pu : Int)) ((hM.2.2.1 (2 * k) (by omega)).1.trans (by rw [ep])) ?_
    refine v_calli 14 hA (rV_Mo 14 C L_RX4_131 lk_625 lk_28 (m4_planeStuck (v := t 4 (pu / 2 - 1) j) hm (by omega) (sp pu tp (by omega))) (vm.o hm) rfl ⟨rfl, rfl⟩ (rm_ok rfl) dX4_bend_14) (fun r1 w2 h3 => ?_)
    obtain ⟨e_r1, rfl⟩ := h3
    refine v_eqi (iZ (PS t j pu)) (e_r1) ?_
    refine z_if_ne 17 37 C (by first | assumption | exact ⟨by omega, by omega⟩) dX4_bend_17 (by decide) (fun c17_0 => absurd c17_0 (fun q => q h0.1)) (fun c17_0 => ?_)
    refine v_aload_n 20 0 C dX4_bend_20 rfl ?_
    refine v_aload_n 21 0 C dX4_bend_21 rfl ?_
    refine g_Mo_on 22 C (vm.o hm).1 (vm.o hm).2 lk_503 dX4_bend_22 ?_
    refine v_iconst 25 C (iZ 2) dX4_bend_25 rfl ?_
    refine v_iload_n 26 1 C dX4_bend_26 rfl ?_
    refine z_imul 27 C dX4_bend_27 ?_
    refine v_iconst 28 C (iZ 1) dX4_bend_28 rfl ?_
    refine z_iadd 29 C dX4_bend_29 ?_
    refine v_iald 30 C (vm.a hm 47 (by decide) rfl).1 (vm.a hm 47 (by decide) rfl).2 (2 * k + 1) (izn (by omega)) (lnx (show ln 47 = 60 from rfl) (by omega)) dX4_bend_30 ?_
    refine v_eqi (iZ (qu : Int)) ((hM.2.2.1 (2 * k + 1) (by omega)).1.trans (by rw [eq_])) ?_
    refine v_calli 31 hA (rV_Mo 31 C L_RX4_131 lk_625 lk_28 (m4_planeStuck (v := t 4 (qu / 2 - 1) j) hm (by omega) (sp qu tq (by omega))) (vm.o hm) rfl ⟨rfl, rfl⟩ (rm_ok rfl) dX4_bend_31) (fun r4 w5 h6 => ?_)
    obtain ⟨e_r4, rfl⟩ := h6
    refine v_eqi (iZ (PS t j qu)) (e_r4) ?_
    refine z_if_eq 34 41 C (by first | assumption | exact ⟨by omega, by omega⟩) dX4_bend_34 (by decide) (fun c34_1 => ?_) (fun c34_1 => absurd (h0.2) c34_1)
    refine v_iconst 41 C (iZ 0) dX4_bend_41 rfl ?_
    refine v_zast 42 C (vm.a hm 56 (by decide) rfl).1 (vm.a hm 56 (by decide) rfl).2 k (izn (by omega)) (lnx (show ln 56 = 30 from rfl) (by omega)) dX4_bend_42 ?_
    rw [vn0]
    refine v_aload_n 43 0 C dX4_bend_43 rfl ?_
    refine g_Mo_isStuck 44 C (vm.o hm).1 (vm.o hm).2 lk_513 dX4_bend_44 ?_
    refine v_iload_n 47 1 C dX4_bend_47 rfl ?_
    refine v_zald 48 C (vm.a hm 56 (by decide) rfl).1 (vm.a hm 56 (by decide) rfl).2 k (izn (by omega)) (lnx (show ln 56 = 30 from rfl) (by omega)) dX4_bend_48 ?_
    refine v_eqi (iZ 0) (by rw [gA_pA, if_pos ⟨rfl, rfl⟩]) ?_
    refine z_if_eq 49 53 C (by first | assumption | exact ⟨by omega, by omega⟩) dX4_bend_49 (by decide) (fun c49_2 => ?_) (fun c49_2 => absurd (rfl) c49_2)
    have f1 : BeF S (pA S 56 k (iZ 0)) k := BeF.a
    have M1 := f1.RM hM
    have O1 := f1.OP (Nat.le_refl k) hO
    refine v_aload_n 53 0 C dX4_bend_53 rfl ?_
    refine v_aload_n 54 0 C dX4_bend_54 rfl ?_
    refine g_Mo_on 55 C (vm.o hm).1 (vm.o hm).2 lk_503 dX4_bend_55 ?_
    refine v_iconst 58 C (iZ 2) dX4_bend_58 rfl ?_
    refine v_iload_n 59 1 C dX4_bend_59 rfl ?_
    refine z_imul 60 C dX4_bend_60 ?_
    refine v_iald 61 C (vm.a hm 47 (by decide) rfl).1 (vm.a hm 47 (by decide) rfl).2 (2 * k) (izn (by omega)) (lnx (show ln 47 = 60 from rfl) (by omega)) dX4_bend_61 ?_
    refine v_eqi (iZ (pu : Int)) ((M1.2.2.1 (2 * k) (by omega)).1.trans (by rw [ep])) ?_
    refine v_aload_n 62 0 C dX4_bend_62 rfl ?_
    refine g_Mo_far 63 C (vm.o hm).1 (vm.o hm).2 lk_504 dX4_bend_63 ?_
    refine v_iconst 66 C (iZ 2) dX4_bend_66 rfl ?_
    refine v_iload_n 67 1 C dX4_bend_67 rfl ?_
    refine z_imul 68 C dX4_bend_68 ?_
    refine v_iald 69 C (vm.a hm 48 (by decide) rfl).1 (vm.a hm 48 (by decide) rfl).2 (2 * k) (izn (by omega)) (lnx (show ln 48 = 60 from rfl) (by omega)) dX4_bend_69 ?_
    refine v_eqi (iZ (b 5 (2 * k))) ((M1.2.2.1 (2 * k) (by omega)).2.1) ?_
    refine v_callv 70 hA (rV_Mo 70 C L_RX4_113 lk_629 lk_29 (m4_show hm hI M1 hj hL O1 tp (by omega) h0.1 ⟨by omega, by omega⟩) (vm.o hm) rfl ⟨rfl, rfl⟩ (rm_ok rfl) dX4_bend_70) (fun w8 h9 => ?_)
    obtain ⟨S2, rfl, F2, g2x, g2y⟩ := h9
    have M2 := F2.RM M1
    have O2 := F2.OP O1
    refine v_aload_n 73 0 C dX4_bend_73 rfl ?_
    refine g_Mo_placeX 74 C (vm.o hm).1 (vm.o hm).2 lk_514 dX4_bend_74 ?_
    refine v_eql (lZ (PLx b t j pu (b 5 (2 * k)))) (g2x) ?_
    refine z_topl (fun ax e_ax => ?_)
    refine v_lstore_n 77 [(2, .long (lZ ax)), (0, .ref (ad 45)), (1, .int (iZ (k : Int)))] C dX4_bend_77 (by decide) rfl ?_
    refine v_aload_n 78 1 C dX4_bend_78 rfl ?_
    refine g_Mo_placeY 79 C (vm.o hm).1 (vm.o hm).2 lk_515 dX4_bend_79 ?_
    refine v_eql (lZ (PLy b t j pu (b 5 (2 * k)))) (g2y) ?_
    refine z_topl (fun ay e_ay => ?_)
    refine v_lstore 82 [(4, .long (lZ ay)), (2, .long (lZ ax)), (0, .ref (ad 45)), (1, .int (iZ (k : Int)))] C dX4_bend_82 (by decide) rfl ?_
    refine v_aload_n 84 2 C dX4_bend_84 rfl ?_
    refine v_aload_n 85 2 C dX4_bend_85 rfl ?_
    refine g_Mo_on 86 C (vm.o hm).1 (vm.o hm).2 lk_503 dX4_bend_86 ?_
    refine v_iconst 89 C (iZ 2) dX4_bend_89 rfl ?_
    refine v_iload_n 90 3 C dX4_bend_90 rfl ?_
    refine z_imul 91 C dX4_bend_91 ?_
    refine v_iconst 92 C (iZ 1) dX4_bend_92 rfl ?_
    refine z_iadd 93 C dX4_bend_93 ?_
    refine v_iald 94 C (vm.a hm 47 (by decide) rfl).1 (vm.a hm 47 (by decide) rfl).2 (2 * k + 1) (izn (by omega)) (lnx (show ln 47 = 60 from rfl) (by omega)) dX4_bend_94 ?_
    refine v_eqi (iZ (qu : Int)) ((M2.2.2.1 (2 * k + 1) (by omega)).1.trans (by rw [eq_])) ?_
    refine v_aload_n 95 2 C dX4_bend_95 rfl ?_
    refine g_Mo_far 96 C (vm.o hm).1 (vm.o hm).2 lk_504 dX4_bend_96 ?_
    refine v_iconst 99 C (iZ 2) dX4_bend_99 rfl ?_
    refine v_iload_n 100 3 C dX4_bend_100 rfl ?_
    refine z_imul 101 C dX4_bend_101 ?_
    refine v_iconst 102 C (iZ 1) dX4_bend_102 rfl ?_
    refine z_iadd 103 C dX4_bend_103 ?_
    refine v_iald 104 C (vm.a hm 48 (by decide) rfl).1 (vm.a hm 48 (by decide) rfl).2 (2 * k + 1) (izn (by omega)) (lnx (show ln 48 = 60 from rfl) (by omega)) dX4_bend_104 ?_
    refine v_eqi (iZ (b 5 (2 * k + 1))) ((M2.2.2.1 (2 * k + 1) (by omega)).2.1) ?_
    refine v_callv 105 hA (rV_Mo 105 C L_RX4_113 lk_629 lk_29 (m4_show hm hI M2 hj hL O2 tq (by omega) h0.2 ⟨by omega, by omega⟩) (vm.o hm) rfl ⟨rfl, rfl⟩ (rm_ok rfl) dX4_bend_105) (fun w11 h12 => ?_)
    obtain ⟨S3, rfl, F3, g3x, g3y⟩ := h12
    have M3 := F3.RM M2
    have f3 : BeF S S3 k := (f1.tr F2.B).tr F3.B
    obtain ⟨bx, hbx⟩ : ∃ bx : Int, bx = PLx b t j qu (b 5 (2 * k + 1)) := ⟨_, rfl⟩
    obtain ⟨by_, hby⟩ : ∃ by_ : Int, by_ = PLy b t j qu (b 5 (2 * k + 1)) := ⟨_, rfl⟩
    have b1 := PL_bd (n := b 5 (2 * k)) hI hL hj ⟨tp, h0.1, by omega⟩ ⟨by omega, by omega⟩
    have b2 := PL_bd (n := b 5 (2 * k + 1)) hI hL hj ⟨tq, h0.2, by omega⟩ ⟨by omega, by omega⟩
    rw [← e_ax, ← e_ay] at b1
    rw [← hbx, ← hby] at b2
    obtain ⟨cv, hcv⟩ : ∃ cv : Int, cv = b 6 (2 * k) := ⟨_, rfl⟩
    obtain ⟨dv, hdv⟩ : ∃ dv : Int, dv = b 6 (2 * k + 1) := ⟨_, rfl⟩
    have rc : 0 ≤ cv ∧ cv ≤ 1000 := by omega
    have rd : 0 ≤ dv ∧ dv ≤ 1000 := by omega
    refine v_aload_n 108 2 C dX4_bend_108 rfl ?_
    refine g_Mo_placeX 109 C (vm.o hm).1 (vm.o hm).2 lk_514 dX4_bend_109 ?_
    refine v_eql (lZ bx) (g3x.trans (by rw [hbx])) ?_
    refine v_lload_n 112 1 C dX4_bend_112 rfl ?_
    refine z_lsub 113 C dX4_bend_113 ?_
    refine z_topl (fun dx e_dx => ?_)
    refine v_lstore 114 [(6, .long (lZ dx)), (4, .long (lZ ay)), (2, .long (lZ ax)), (0, .ref (ad 45)), (1, .int (iZ (k : Int)))] C dX4_bend_114 (by decide) rfl ?_
    refine v_aload_n 116 3 C dX4_bend_116 rfl ?_
    refine g_Mo_placeY 117 C (vm.o hm).1 (vm.o hm).2 lk_515 dX4_bend_117 ?_
    refine v_eql (lZ by_) (g3y.trans (by rw [hby])) ?_
    refine v_lload 120 1 C dX4_bend_120 rfl ?_
    refine z_lsub 122 C dX4_bend_122 ?_
    refine z_topl (fun dy e_dy => ?_)
    refine v_lstore 123 [(8, .long (lZ dy)), (6, .long (lZ dx)), (4, .long (lZ ay)), (2, .long (lZ ax)), (0, .ref (ad 45)), (1, .int (iZ (k : Int)))] C dX4_bend_123 (by decide) rfl ?_
    refine v_aload_n 125 4 C dX4_bend_125 rfl ?_
    refine g_Mo_flat 126 C (vm.o hm).1 (vm.o hm).2 lk_505 dX4_bend_126 ?_
    refine v_iconst 129 C (iZ 2) dX4_bend_129 rfl ?_
    refine v_iload_n 130 5 C dX4_bend_130 rfl ?_
    refine z_imul 131 C dX4_bend_131 ?_
    refine v_iald 132 C (vm.a hm 49 (by decide) rfl).1 (vm.a hm 49 (by decide) rfl).2 (2 * k) (izn (by omega)) (lnx (show ln 49 = 60 from rfl) (by omega)) dX4_bend_132 ?_
    refine v_eqi (iZ (b 6 (2 * k))) ((M3.2.2.1 (2 * k) (by omega)).2.2) ?_
    refine z_i2l 133 C (by first | assumption | exact ⟨by omega, by omega⟩) dX4_bend_133 ?_
    refine v_eql (lZ cv) (by rw [hcv]) ?_
    refine v_lstore 134 [(10, .long (lZ cv)), (8, .long (lZ dy)), (6, .long (lZ dx)), (4, .long (lZ ay)), (2, .long (lZ ax)), (0, .ref (ad 45)), (1, .int (iZ (k : Int)))] C dX4_bend_134 (by decide) rfl ?_
    refine v_aload_n 136 5 C dX4_bend_136 rfl ?_
    refine g_Mo_flat 137 C (vm.o hm).1 (vm.o hm).2 lk_505 dX4_bend_137 ?_
    refine v_iconst 140 C (iZ 2) dX4_bend_140 rfl ?_
    refine v_iload_n 141 6 C dX4_bend_141 rfl ?_
    refine z_imul 142 C dX4_bend_142 ?_
    refine v_iconst 143 C (iZ 1) dX4_bend_143 rfl ?_
    refine z_iadd 144 C dX4_bend_144 ?_
    refine v_iald 145 C (vm.a hm 49 (by decide) rfl).1 (vm.a hm 49 (by decide) rfl).2 (2 * k + 1) (izn (by omega)) (lnx (show ln 49 = 60 from rfl) (by omega)) dX4_bend_145 ?_
    refine v_eqi (iZ (b 6 (2 * k + 1))) ((M3.2.2.1 (2 * k + 1) (by omega)).2.2) ?_
    refine z_i2l 146 C (by first | assumption | exact ⟨by omega, by omega⟩) dX4_bend_146 ?_
    refine v_eql (lZ dv) (by rw [hdv]) ?_
    refine v_lstore 147 [(12, .long (lZ dv)), (10, .long (lZ cv)), (8, .long (lZ dy)), (6, .long (lZ dx)), (4, .long (lZ ay)), (2, .long (lZ ax)), (0, .ref (ad 45)), (1, .int (iZ (k : Int)))] C dX4_bend_147 (by decide) rfl ?_
    refine v_lload 149 3 C dX4_bend_149 rfl ?_
    refine v_lload 151 3 C dX4_bend_151 rfl ?_
    refine z_lmul 153 C dX4_bend_153 ?_
    refine v_lload 154 2 C dX4_bend_154 rfl ?_
    refine v_lload 156 2 C dX4_bend_156 rfl ?_
    refine z_lmul 158 C dX4_bend_158 ?_
    refine z_ladd 159 C dX4_bend_159 ?_
    refine z_topl (fun sq e_sq => ?_)
    have n1 := sqN dx
    have n2 := sqN dy
    have hb0 := mulB (A := 200000) (B := 200000) (x := dx) (y := dx) (by omega) (by omega)
    have hb1 := mulB (A := 200000) (B := 200000) (x := dy) (y := dy) (by omega) (by omega)
    have hb2 := mulB (A := 2000) (B := 2000) (x := cv + dv) (y := cv + dv) (by omega) (by omega)
    have esq : sq = (bx - ax) * (bx - ax) + (by_ - ay) * (by_ - ay) := by rw [e_sq, e_dx, e_dy]
    refine v_lstore 160 [(14, .long (lZ sq)), (12, .long (lZ dv)), (10, .long (lZ cv)), (8, .long (lZ dy)), (6, .long (lZ dx)), (4, .long (lZ ay)), (2, .long (lZ ax)), (0, .ref (ad 45)), (1, .int (iZ (k : Int)))] C dX4_bend_160 (by decide) rfl ?_
    refine v_aload_n 162 7 C dX4_bend_162 rfl ?_
    refine g_Mo_isStuck 163 C (vm.o hm).1 (vm.o hm).2 lk_513 dX4_bend_163 ?_
    refine v_iload_n 166 8 C dX4_bend_166 rfl ?_
    refine v_lload 167 0 C dX4_bend_167 rfl ?_
    refine v_lconst 169 C (lZ 0) dX4_bend_169 (by decide) ?_
    refine z_lcmp_ne 170 190 C (by first | assumption | exact ⟨by omega, by omega⟩) (by first | assumption | exact ⟨by omega, by omega⟩) dX4_bend_170 dX4_bend_171 (by decide) (fun c170_2 => ?_) (fun c170_2 => ?_)
    · skip
      refine v_lload 190 0 C dX4_bend_190 rfl ?_
      refine v_lload 192 2 C dX4_bend_192 rfl ?_
      refine v_lload 194 1 C dX4_bend_194 rfl ?_
      refine z_ladd 196 C dX4_bend_196 ?_
      refine v_lload 197 2 C dX4_bend_197 rfl ?_
      refine v_lload 199 1 C dX4_bend_199 rfl ?_
      refine z_ladd 201 C dX4_bend_201 ?_
      refine z_lmul 202 C dX4_bend_202 ?_
      refine z_lcmp_le 203 211 C (by first | assumption | exact ⟨by omega, by omega⟩) (by first | assumption | exact ⟨by omega, by omega⟩) dX4_bend_203 dX4_bend_204 (by decide) (fun c203_3 => ?_) (fun c203_3 => ?_)
      · skip
        refine v_iconst 211 C (iZ 0) dX4_bend_211 rfl ?_
        refine v_zast 212 C (vm.a hm 56 (by decide) rfl).1 (vm.a hm 56 (by decide) rfl).2 k (izn (by omega)) (lnx (show ln 56 = 30 from rfl) (by omega)) dX4_bend_212 ?_
        rw [vn0]
        have M4 := (BeF.a (k := k) (v := iZ 0)).RM M3
        refine v_aload_n 213 7 C dX4_bend_213 rfl ?_
        refine g_Mo_isStuck 214 C (vm.o hm).1 (vm.o hm).2 lk_513 dX4_bend_214 ?_
        refine v_iload_n 217 8 C dX4_bend_217 rfl ?_
        refine v_zald 218 C (vm.a hm 56 (by decide) rfl).1 (vm.a hm 56 (by decide) rfl).2 k (izn (by omega)) (lnx (show ln 56 = 30 from rfl) (by omega)) dX4_bend_218 ?_
        refine v_eqi (iZ 0) (by rw [gA_pA, if_pos ⟨rfl, rfl⟩]) ?_
        refine z_if_eq 219 223 C (by first | assumption | exact ⟨by omega, by omega⟩) dX4_bend_219 (by decide) (fun c219_5 => ?_) (fun c219_5 => absurd (rfl) c219_5)
        refine v_lload 223 0 C dX4_bend_223 rfl ?_
        refine v_lconst 225 C (lZ 0) dX4_bend_225 (by decide) ?_
        refine z_lcmp_ne 226 249 C (by first | assumption | exact ⟨by omega, by omega⟩) (by first | assumption | exact ⟨by omega, by omega⟩) dX4_bend_226 dX4_bend_227 (by decide) (fun c226_6 => ?_) (fun c226_6 => absurd c226_6 (c170_2))
        refine v_lload 249 2 C dX4_bend_249 rfl ?_
        refine v_lload 251 2 C dX4_bend_251 rfl ?_
        refine z_lmul 253 C dX4_bend_253 ?_
        refine v_lload 254 1 C dX4_bend_254 rfl ?_
        refine v_lload 256 1 C dX4_bend_256 rfl ?_
        refine z_lmul 258 C dX4_bend_258 ?_
        refine z_lsub 259 C dX4_bend_259 ?_
        refine v_lload 260 0 C dX4_bend_260 rfl ?_
        refine z_ladd 262 C dX4_bend_262 ?_
        refine z_topl (fun ee e_ee => ?_)
        refine v_lstore 263 [(16, .long (lZ ee)), (14, .long (lZ sq)), (12, .long (lZ dv)), (10, .long (lZ cv)), (8, .long (lZ dy)), (6, .long (lZ dx)), (4, .long (lZ ay)), (2, .long (lZ ax)), (0, .ref (ad 45)), (1, .int (iZ (k : Int)))] C dX4_bend_263 (by decide) rfl ?_
        refine v_ldc2 265 C (4) lk_646 dX4_bend_265 ?_
        refine v_eql (lZ 4) (by decide) ?_
        refine v_lload 268 3 C dX4_bend_268 rfl ?_
        refine z_lmul 270 C dX4_bend_270 ?_
        refine v_lload 271 3 C dX4_bend_271 rfl ?_
        refine z_lmul 273 C dX4_bend_273 ?_
        refine v_lload 274 1 C dX4_bend_274 rfl ?_
        refine z_lmul 276 C dX4_bend_276 ?_
        refine v_lload 277 0 C dX4_bend_277 rfl ?_
        refine v_lload 279 0 C dX4_bend_279 rfl ?_
        refine z_lmul 281 C dX4_bend_281 ?_
        refine z_lsub 282 C dX4_bend_282 ?_
        refine z_topl (fun rr e_rr => ?_)
        obtain ⟨q1, q2, q3, q4, q5⟩ := fold_b e_sq rc rd c203_3 e_ee e_rr
        refine v_lstore 283 [(18, .long (lZ rr)), (16, .long (lZ ee)), (14, .long (lZ sq)), (12, .long (lZ dv)), (10, .long (lZ cv)), (8, .long (lZ dy)), (6, .long (lZ dx)), (4, .long (lZ ay)), (2, .long (lZ ax)), (0, .ref (ad 45)), (1, .int (iZ (k : Int)))] C dX4_bend_283 (by decide) rfl ?_
        refine v_aload_n 285 9 C dX4_bend_285 rfl ?_
        refine g_Mo_isStuck 286 C (vm.o hm).1 (vm.o hm).2 lk_513 dX4_bend_286 ?_
        refine v_iload_n 289 10 C dX4_bend_289 rfl ?_
        refine v_lload 290 0 C dX4_bend_290 rfl ?_
        refine v_lconst 292 C (lZ 0) dX4_bend_292 (by decide) ?_
        refine z_lcmp_ge 293 301 C (by first | assumption | exact ⟨by omega, by omega⟩) (by first | assumption | exact ⟨by omega, by omega⟩) dX4_bend_293 dX4_bend_294 (by decide) (fun c293 => ?_) (fun c293 => ?_)
        · skip
          refine v_iconst 301 C (iZ 0) dX4_bend_301 rfl ?_
          refine v_zast 302 C (vm.a hm 56 (by decide) rfl).1 (vm.a hm 56 (by decide) rfl).2 k (izn (by omega)) (lnx (show ln 56 = 30 from rfl) (by omega)) dX4_bend_302 ?_
          rw [vn0]
          refine v_aload_n 303 9 C dX4_bend_303 rfl ?_
          refine g_Mo_isStuck 304 C (vm.o hm).1 (vm.o hm).2 lk_513 dX4_bend_304 ?_
          refine v_iload_n 307 10 C dX4_bend_307 rfl ?_
          refine v_zald 308 C (vm.a hm 56 (by decide) rfl).1 (vm.a hm 56 (by decide) rfl).2 k (izn (by omega)) (lnx (show ln 56 = 30 from rfl) (by omega)) dX4_bend_308 ?_
          refine v_eqi (iZ 0) (by rw [gA_pA, if_pos ⟨rfl, rfl⟩]) ?_
          refine z_if_ne 309 394 C (by first | assumption | exact ⟨by omega, by omega⟩) dX4_bend_309 (by decide) (fun c309_8 => absurd c309_8 (fun q => q rfl)) (fun c309_8 => ?_)
          have M5 := (BeF.a (k := k) (v := iZ 0)).RM M4
          refine v_aload_n 312 9 C dX4_bend_312 rfl ?_
          refine g_Mo_left 313 C (vm.o hm).1 (vm.o hm).2 lk_506 dX4_bend_313 ?_
          refine v_iload_n 316 10 C dX4_bend_316 rfl ?_
          refine v_zald 317 C (vm.a hm 50 (by decide) rfl).1 (vm.a hm 50 (by decide) rfl).2 k (izn (by omega)) (lnx (show ln 50 = 30 from rfl) (by omega)) dX4_bend_317 ?_
          refine v_eqi (iZ (b 7 k)) ((M5.2.1 k hk).2.1) ?_
          refine z_if_eq 318 329 C (by first | assumption | exact ⟨by omega, by omega⟩) dX4_bend_318 (by decide) (fun c318 => ?_) (fun c318 => ?_)
          · skip
            refine v_lload 329 0 C dX4_bend_329 rfl ?_
            refine v_calll 331 hA (rS 331 C L_RX4_137 lk_648 (m4_root c293 (by omega)) rfl rfl (rm_ok rfl) dX4_bend_331) (fun r13 w14 h15 => ?_)
            obtain ⟨e_r13, rfl⟩ := h15
            refine v_eql (lZ (isq rr)) (e_r13) ?_
            refine z_lneg 334 C dX4_bend_334 ?_
            refine z_topl (fun ss e_ss => ?_)
            have es : ss = if b 7 k = 0 then -isq rr else isq rr := by rw [e_ss, if_pos c318]
            have hi := isq_spec c293
            have q6 : -4000000 ≤ isq rr ∧ isq rr ≤ 4000000 := sq_le (by decide) (by omega)
            have q7 : -4000000 ≤ ss ∧ ss ≤ 4000000 := by rw [e_ss]; omega
            have p1 := mulB q1 q4
            have p2 := mulB q2 q7
            have p3 := mulB q2 q4
            have p4 := mulB q1 q7
            refine v_lstore 335 [(20, .long (lZ ss)), (18, .long (lZ rr)), (16, .long (lZ ee)), (14, .long (lZ sq)), (12, .long (lZ dv)), (10, .long (lZ cv)), (8, .long (lZ dy)), (6, .long (lZ dx)), (4, .long (lZ ay)), (2, .long (lZ ax)), (0, .ref (ad 45)), (1, .int (iZ (k : Int)))] C dX4_bend_335 (by decide) rfl ?_
            refine v_aload_n 337 10 C dX4_bend_337 rfl ?_
            refine g_Mo_atX 338 C (vm.o hm).1 (vm.o hm).2 lk_511 dX4_bend_338 ?_
            refine v_iload_n 341 11 C dX4_bend_341 rfl ?_
            refine v_lload_n 342 9 C dX4_bend_342 rfl ?_
            refine v_lload 343 7 C dX4_bend_343 rfl ?_
            refine v_lload 345 2 C dX4_bend_345 rfl ?_
            refine z_lmul 347 C dX4_bend_347 ?_
            refine v_lload 348 6 C dX4_bend_348 rfl ?_
            refine v_lload 350 0 C dX4_bend_350 rfl ?_
            refine z_lmul 352 C dX4_bend_352 ?_
            refine z_lsub 353 C dX4_bend_353 ?_
            refine v_ldc2 354 C (2) lk_606 dX4_bend_354 ?_
            refine v_eql (lZ 2) (by decide) ?_
            refine v_lload 357 3 C dX4_bend_357 rfl ?_
            refine z_lmul 359 C dX4_bend_359 ?_
            refine v_calll 360 hA (rS 360 C L_RX4_123 lk_637 (m4_rounded ⟨by omega, by omega⟩ ⟨by omega, by omega⟩) rfl rfl (rm_ok rfl) dX4_bend_360) (fun r16 w17 h18 => ?_)
            obtain ⟨e_r16, rfl⟩ := h18
            refine v_eql (lZ (rnd (dx * ee - dy * ss) (2 * sq))) (e_r16) ?_
            refine z_ladd 363 C dX4_bend_363 ?_
            refine v_last 364 C (vm.a hm 54 (by decide) rfl).1 (vm.a hm 54 (by decide) rfl).2 k (izn (by omega)) (lnx (show ln 54 = 30 from rfl) (by omega)) dX4_bend_364 ?_
            refine v_aload_n 365 10 C dX4_bend_365 rfl ?_
            refine g_Mo_atY 366 C (vm.o hm).1 (vm.o hm).2 lk_512 dX4_bend_366 ?_
            refine v_iload_n 369 11 C dX4_bend_369 rfl ?_
            refine v_lload 370 8 C dX4_bend_370 rfl ?_
            refine v_lload 372 6 C dX4_bend_372 rfl ?_
            refine v_lload 374 2 C dX4_bend_374 rfl ?_
            refine z_lmul 376 C dX4_bend_376 ?_
            refine v_lload 377 7 C dX4_bend_377 rfl ?_
            refine v_lload 379 0 C dX4_bend_379 rfl ?_
            refine z_lmul 381 C dX4_bend_381 ?_
            refine z_ladd 382 C dX4_bend_382 ?_
            refine v_ldc2 383 C (2) lk_606 dX4_bend_383 ?_
            refine v_eql (lZ 2) (by decide) ?_
            refine v_lload 386 3 C dX4_bend_386 rfl ?_
            refine z_lmul 388 C dX4_bend_388 ?_
            refine v_calll 389 hA (rS 389 C L_RX4_123 lk_637 (m4_rounded ⟨by omega, by omega⟩ ⟨by omega, by omega⟩) rfl rfl (rm_ok rfl) dX4_bend_389) (fun r19 w20 h21 => ?_)
            obtain ⟨e_r19, rfl⟩ := h21
            refine v_eql (lZ (rnd (dy * ee + dx * ss) (2 * sq))) (e_r19) ?_
            refine z_ladd 392 C dX4_bend_392 ?_
            refine v_last 393 C (vm.a hm 55 (by decide) rfl).1 (vm.a hm 55 (by decide) rfl).2 k (izn (by omega)) (lnx (show ln 55 = 30 from rfl) (by omega)) dX4_bend_393 ?_
            exact v_vret 394 C (⟨_, 0, rfl, BeQ_some (z := 0) (z2 := 0) hpu hqu h0 ((f3.tr BeF.a).tr BeF.a) e_ax e_ay hbx hby (by rw [gA_pA, if_pos ⟨rfl, rfl⟩]) (by rw [← hcv, ← hdv]; exact foldZ_3 esq e_ee e_rr c170_2 c203_3 c293 es e_dx e_dy)⟩) dX4_bend_394
          · skip
            refine v_lload 321 0 C dX4_bend_321 rfl ?_
            refine v_calll 323 hA (rS 323 C L_RX4_137 lk_648 (m4_root c293 (by omega)) rfl rfl (rm_ok rfl) dX4_bend_323) (fun r22 w23 h24 => ?_)
            obtain ⟨e_r22, rfl⟩ := h24
            refine v_eql (lZ (isq rr)) (e_r22) ?_
            refine v_goto 326 335 C dX4_bend_326 (by decide) ?_
            refine z_topl (fun ss e_ss => ?_)
            have es : ss = if b 7 k = 0 then -isq rr else isq rr := by rw [e_ss, if_neg c318]
            have hi := isq_spec c293
            have q6 : -4000000 ≤ isq rr ∧ isq rr ≤ 4000000 := sq_le (by decide) (by omega)
            have q7 : -4000000 ≤ ss ∧ ss ≤ 4000000 := by rw [e_ss]; omega
            have p1 := mulB q1 q4
            have p2 := mulB q2 q7
            have p3 := mulB q2 q4
            have p4 := mulB q1 q7
            refine v_lstore 335 [(20, .long (lZ ss)), (18, .long (lZ rr)), (16, .long (lZ ee)), (14, .long (lZ sq)), (12, .long (lZ dv)), (10, .long (lZ cv)), (8, .long (lZ dy)), (6, .long (lZ dx)), (4, .long (lZ ay)), (2, .long (lZ ax)), (0, .ref (ad 45)), (1, .int (iZ (k : Int)))] C dX4_bend_335 (by decide) rfl ?_
            refine v_aload_n 337 10 C dX4_bend_337 rfl ?_
            refine g_Mo_atX 338 C (vm.o hm).1 (vm.o hm).2 lk_511 dX4_bend_338 ?_
            refine v_iload_n 341 11 C dX4_bend_341 rfl ?_
            refine v_lload_n 342 9 C dX4_bend_342 rfl ?_
            refine v_lload 343 7 C dX4_bend_343 rfl ?_
            refine v_lload 345 2 C dX4_bend_345 rfl ?_
            refine z_lmul 347 C dX4_bend_347 ?_
            refine v_lload 348 6 C dX4_bend_348 rfl ?_
            refine v_lload 350 0 C dX4_bend_350 rfl ?_
            refine z_lmul 352 C dX4_bend_352 ?_
            refine z_lsub 353 C dX4_bend_353 ?_
            refine v_ldc2 354 C (2) lk_606 dX4_bend_354 ?_
            refine v_eql (lZ 2) (by decide) ?_
            refine v_lload 357 3 C dX4_bend_357 rfl ?_
            refine z_lmul 359 C dX4_bend_359 ?_
            refine v_calll 360 hA (rS 360 C L_RX4_123 lk_637 (m4_rounded ⟨by omega, by omega⟩ ⟨by omega, by omega⟩) rfl rfl (rm_ok rfl) dX4_bend_360) (fun r25 w26 h27 => ?_)
            obtain ⟨e_r25, rfl⟩ := h27
            refine v_eql (lZ (rnd (dx * ee - dy * ss) (2 * sq))) (e_r25) ?_
            refine z_ladd 363 C dX4_bend_363 ?_
            refine v_last 364 C (vm.a hm 54 (by decide) rfl).1 (vm.a hm 54 (by decide) rfl).2 k (izn (by omega)) (lnx (show ln 54 = 30 from rfl) (by omega)) dX4_bend_364 ?_
            refine v_aload_n 365 10 C dX4_bend_365 rfl ?_
            refine g_Mo_atY 366 C (vm.o hm).1 (vm.o hm).2 lk_512 dX4_bend_366 ?_
            refine v_iload_n 369 11 C dX4_bend_369 rfl ?_
            refine v_lload 370 8 C dX4_bend_370 rfl ?_
            refine v_lload 372 6 C dX4_bend_372 rfl ?_
            refine v_lload 374 2 C dX4_bend_374 rfl ?_
            refine z_lmul 376 C dX4_bend_376 ?_
            refine v_lload 377 7 C dX4_bend_377 rfl ?_
            refine v_lload 379 0 C dX4_bend_379 rfl ?_
            refine z_lmul 381 C dX4_bend_381 ?_
            refine z_ladd 382 C dX4_bend_382 ?_
            refine v_ldc2 383 C (2) lk_606 dX4_bend_383 ?_
            refine v_eql (lZ 2) (by decide) ?_
            refine v_lload 386 3 C dX4_bend_386 rfl ?_
            refine z_lmul 388 C dX4_bend_388 ?_
            refine v_calll 389 hA (rS 389 C L_RX4_123 lk_637 (m4_rounded ⟨by omega, by omega⟩ ⟨by omega, by omega⟩) rfl rfl (rm_ok rfl) dX4_bend_389) (fun r28 w29 h30 => ?_)
            obtain ⟨e_r28, rfl⟩ := h30
            refine v_eql (lZ (rnd (dy * ee + dx * ss) (2 * sq))) (e_r28) ?_
            refine z_ladd 392 C dX4_bend_392 ?_
            refine v_last 393 C (vm.a hm 55 (by decide) rfl).1 (vm.a hm 55 (by decide) rfl).2 k (izn (by omega)) (lnx (show ln 55 = 30 from rfl) (by omega)) dX4_bend_393 ?_
            exact v_vret 394 C (⟨_, 0, rfl, BeQ_some (z := 0) (z2 := 0) hpu hqu h0 ((f3.tr BeF.a).tr BeF.a) e_ax e_ay hbx hby (by rw [gA_pA, if_pos ⟨rfl, rfl⟩]) (by rw [← hcv, ← hdv]; exact foldZ_3 esq e_ee e_rr c170_2 c203_3 c293 es e_dx e_dy)⟩) dX4_bend_394
        · skip
          refine v_iconst 297 C (iZ 1) dX4_bend_297 rfl ?_
          refine v_goto 298 302 C dX4_bend_298 (by decide) ?_
          refine v_zast 302 C (vm.a hm 56 (by decide) rfl).1 (vm.a hm 56 (by decide) rfl).2 k (izn (by omega)) (lnx (show ln 56 = 30 from rfl) (by omega)) dX4_bend_302 ?_
          rw [vn1]
          refine v_aload_n 303 9 C dX4_bend_303 rfl ?_
          refine g_Mo_isStuck 304 C (vm.o hm).1 (vm.o hm).2 lk_513 dX4_bend_304 ?_
          refine v_iload_n 307 10 C dX4_bend_307 rfl ?_
          refine v_zald 308 C (vm.a hm 56 (by decide) rfl).1 (vm.a hm 56 (by decide) rfl).2 k (izn (by omega)) (lnx (show ln 56 = 30 from rfl) (by omega)) dX4_bend_308 ?_
          refine v_eqi (iZ 1) (by rw [gA_pA, if_pos ⟨rfl, rfl⟩]) ?_
          refine z_if_ne 309 394 C (by first | assumption | exact ⟨by omega, by omega⟩) dX4_bend_309 (by decide) (fun c309_8 => ?_) (fun c309_8 => absurd c309_8 (by decide))
          exact v_vret 394 C (⟨_, 1, rfl, BeQ_none hpu hqu h0 (f3.tr BeF.a) e_ax e_ay hbx hby (by rw [← hcv, ← hdv]; exact foldZ_2 esq e_ee e_rr c170_2 c203_3 c293)⟩) dX4_bend_394
      · skip
        refine v_iconst 207 C (iZ 1) dX4_bend_207 rfl ?_
        refine v_goto 208 212 C dX4_bend_208 (by decide) ?_
        refine v_zast 212 C (vm.a hm 56 (by decide) rfl).1 (vm.a hm 56 (by decide) rfl).2 k (izn (by omega)) (lnx (show ln 56 = 30 from rfl) (by omega)) dX4_bend_212 ?_
        rw [vn1]
        skip
        refine v_aload_n 213 7 C dX4_bend_213 rfl ?_
        refine g_Mo_isStuck 214 C (vm.o hm).1 (vm.o hm).2 lk_513 dX4_bend_214 ?_
        refine v_iload_n 217 8 C dX4_bend_217 rfl ?_
        refine v_zald 218 C (vm.a hm 56 (by decide) rfl).1 (vm.a hm 56 (by decide) rfl).2 k (izn (by omega)) (lnx (show ln 56 = 30 from rfl) (by omega)) dX4_bend_218 ?_
        refine v_eqi (iZ 1) (by rw [gA_pA, if_pos ⟨rfl, rfl⟩]) ?_
        refine z_if_eq 219 223 C (by first | assumption | exact ⟨by omega, by omega⟩) dX4_bend_219 (by decide) (fun c219_5 => absurd c219_5 (by decide)) (fun c219_5 => ?_)
        exact v_vret 222 C (⟨_, 1, rfl, BeQ_none hpu hqu h0 f3 e_ax e_ay hbx hby (by rw [← hcv, ← hdv]; exact foldZ_1 esq c170_2 c203_3)⟩) dX4_bend_222
    · skip
      refine v_lload 174 2 C dX4_bend_174 rfl ?_
      refine v_lload 176 1 C dX4_bend_176 rfl ?_
      refine z_lcmp_eq 178 186 C (by first | assumption | exact ⟨by omega, by omega⟩) (by first | assumption | exact ⟨by omega, by omega⟩) dX4_bend_178 dX4_bend_179 (by decide) (fun c178_3 => ?_) (fun c178_3 => ?_)
      · skip
        refine v_iconst 186 C (iZ 0) dX4_bend_186 rfl ?_
        refine v_goto 187 212 C dX4_bend_187 (by decide) ?_
        refine v_zast 212 C (vm.a hm 56 (by decide) rfl).1 (vm.a hm 56 (by decide) rfl).2 k (izn (by omega)) (lnx (show ln 56 = 30 from rfl) (by omega)) dX4_bend_212 ?_
        rw [vn0]
        have M4 := (BeF.a (k := k) (v := iZ 0)).RM M3
        refine v_aload_n 213 7 C dX4_bend_213 rfl ?_
        refine g_Mo_isStuck 214 C (vm.o hm).1 (vm.o hm).2 lk_513 dX4_bend_214 ?_
        refine v_iload_n 217 8 C dX4_bend_217 rfl ?_
        refine v_zald 218 C (vm.a hm 56 (by decide) rfl).1 (vm.a hm 56 (by decide) rfl).2 k (izn (by omega)) (lnx (show ln 56 = 30 from rfl) (by omega)) dX4_bend_218 ?_
        refine v_eqi (iZ 0) (by rw [gA_pA, if_pos ⟨rfl, rfl⟩]) ?_
        refine z_if_eq 219 223 C (by first | assumption | exact ⟨by omega, by omega⟩) dX4_bend_219 (by decide) (fun c219_5 => ?_) (fun c219_5 => absurd (rfl) c219_5)
        refine v_lload 223 0 C dX4_bend_223 rfl ?_
        refine v_lconst 225 C (lZ 0) dX4_bend_225 (by decide) ?_
        refine z_lcmp_ne 226 249 C (by first | assumption | exact ⟨by omega, by omega⟩) (by first | assumption | exact ⟨by omega, by omega⟩) dX4_bend_226 dX4_bend_227 (by decide) (fun c226_6 => absurd c226_6 (fun q => q c170_2)) (fun c226_6 => ?_)
        refine v_aload_n 230 7 C dX4_bend_230 rfl ?_
        refine g_Mo_atX 231 C (vm.o hm).1 (vm.o hm).2 lk_511 dX4_bend_231 ?_
        refine v_iload_n 234 8 C dX4_bend_234 rfl ?_
        refine v_lload_n 235 6 C dX4_bend_235 rfl ?_
        refine v_lload 236 2 C dX4_bend_236 rfl ?_
        refine z_ladd 238 C dX4_bend_238 ?_
        refine v_last 239 C (vm.a hm 54 (by decide) rfl).1 (vm.a hm 54 (by decide) rfl).2 k (izn (by omega)) (lnx (show ln 54 = 30 from rfl) (by omega)) dX4_bend_239 ?_
        refine v_aload_n 240 7 C dX4_bend_240 rfl ?_
        refine g_Mo_atY 241 C (vm.o hm).1 (vm.o hm).2 lk_512 dX4_bend_241 ?_
        refine v_iload_n 244 8 C dX4_bend_244 rfl ?_
        refine v_lload 245 5 C dX4_bend_245 rfl ?_
        refine v_last 247 C (vm.a hm 55 (by decide) rfl).1 (vm.a hm 55 (by decide) rfl).2 k (izn (by omega)) (lnx (show ln 55 = 30 from rfl) (by omega)) dX4_bend_247 ?_
        exact v_vret 248 C (⟨_, 0, rfl, BeQ_some (z := 0) (z2 := 0) hpu hqu h0 (f3.tr BeF.a) e_ax e_ay hbx hby (by rw [gA_pA, if_pos ⟨rfl, rfl⟩]) (by rw [← hcv, ← hdv, foldZ_0 esq c170_2, if_pos c178_3])⟩) dX4_bend_248
      · skip
        refine v_iconst 182 C (iZ 1) dX4_bend_182 rfl ?_
        refine v_goto 183 212 C dX4_bend_183 (by decide) ?_
        refine v_zast 212 C (vm.a hm 56 (by decide) rfl).1 (vm.a hm 56 (by decide) rfl).2 k (izn (by omega)) (lnx (show ln 56 = 30 from rfl) (by omega)) dX4_bend_212 ?_
        rw [vn1]
        skip
        refine v_aload_n 213 7 C dX4_bend_213 rfl ?_
        refine g_Mo_isStuck 214 C (vm.o hm).1 (vm.o hm).2 lk_513 dX4_bend_214 ?_
        refine v_iload_n 217 8 C dX4_bend_217 rfl ?_
        refine v_zald 218 C (vm.a hm 56 (by decide) rfl).1 (vm.a hm 56 (by decide) rfl).2 k (izn (by omega)) (lnx (show ln 56 = 30 from rfl) (by omega)) dX4_bend_218 ?_
        refine v_eqi (iZ 1) (by rw [gA_pA, if_pos ⟨rfl, rfl⟩]) ?_
        refine z_if_eq 219 223 C (by first | assumption | exact ⟨by omega, by omega⟩) dX4_bend_219 (by decide) (fun c219_5 => absurd c219_5 (by decide)) (fun c219_5 => ?_)
        exact v_vret 222 C (⟨_, 1, rfl, BeQ_none hpu hqu h0 f3 e_ax e_ay hbx hby (by rw [← hcv, ← hdv]; rw [foldZ_0 esq c170_2, if_neg c178_3])⟩) dX4_bend_222
  · skip
    refine v_aload_n 0 0 C dX4_bend_0 rfl ?_
    refine g_Mo_isStuck 1 C (vm.o hm).1 (vm.o hm).2 lk_513 dX4_bend_1 ?_
    refine v_iload_n 4 1 C dX4_bend_4 rfl ?_
    refine v_aload_n 5 0 C dX4_bend_5 rfl ?_
    refine v_aload_n 6 0 C dX4_bend_6 rfl ?_
    refine g_Mo_on 7 C (vm.o hm).1 (vm.o hm).2 lk_503 dX4_bend_7 ?_
    refine v_iconst 10 C (iZ 2) dX4_bend_10 rfl ?_
    refine v_iload_n 11 1 C dX4_bend_11 rfl ?_
    refine z_imul 12 C dX4_bend_12 ?_
    refine v_iald 13 C (vm.a hm 47 (by decide) rfl).1 (vm.a hm 47 (by decide) rfl).2 (2 * k) (izn (by omega)) (lnx (show ln 47 = 60 from rfl) (by omega)) dX4_bend_13 ?_
    refine v_eqi (iZ (pu : Int)) ((hM.2.2.1 (2 * k) (by omega)).1.trans (by rw [ep])) ?_
    refine v_calli 14 hA (rV_Mo 14 C L_RX4_131 lk_625 lk_28 (m4_planeStuck (v := t 4 (pu / 2 - 1) j) hm (by omega) (sp pu tp (by omega))) (vm.o hm) rfl ⟨rfl, rfl⟩ (rm_ok rfl) dX4_bend_14) (fun r31 w32 h33 => ?_)
    obtain ⟨e_r31, rfl⟩ := h33
    refine v_eqi (iZ (PS t j pu)) (e_r31) ?_
    refine z_if_ne 17 37 C (by first | assumption | exact ⟨by omega, by omega⟩) dX4_bend_17 (by decide) (fun cA => ?_) (fun cA => ?_)
    · skip
      refine v_iconst 37 C (iZ 1) dX4_bend_37 rfl ?_
      refine v_goto 38 42 C dX4_bend_38 (by decide) ?_
      refine v_zast 42 C (vm.a hm 56 (by decide) rfl).1 (vm.a hm 56 (by decide) rfl).2 k (izn (by omega)) (lnx (show ln 56 = 30 from rfl) (by omega)) dX4_bend_42 ?_
      rw [vn1]
      refine v_aload_n 43 0 C dX4_bend_43 rfl ?_
      refine g_Mo_isStuck 44 C (vm.o hm).1 (vm.o hm).2 lk_513 dX4_bend_44 ?_
      refine v_iload_n 47 1 C dX4_bend_47 rfl ?_
      refine v_zald 48 C (vm.a hm 56 (by decide) rfl).1 (vm.a hm 56 (by decide) rfl).2 k (izn (by omega)) (lnx (show ln 56 = 30 from rfl) (by omega)) dX4_bend_48 ?_
      refine v_eqi (iZ 1) (by rw [gA_pA, if_pos ⟨rfl, rfl⟩]) ?_
      refine z_if_eq 49 53 C (by first | assumption | exact ⟨by omega, by omega⟩) dX4_bend_49 (by decide) (fun c49_1 => absurd c49_1 (by decide)) (fun c49_1 => ?_)
      exact v_vret 52 C (⟨_, 1, rfl, by unfold BeQ; rw [hpu, hqu]; exact ⟨BeF.a, by rw [gA_pA, if_pos ⟨rfl, rfl⟩], Or.inr rfl, fun _ => rfl, fun z1 z2 => absurd ⟨z1, z2⟩ h0⟩⟩) dX4_bend_52
    · skip
      refine v_aload_n 20 0 C dX4_bend_20 rfl ?_
      refine v_aload_n 21 0 C dX4_bend_21 rfl ?_
      refine g_Mo_on 22 C (vm.o hm).1 (vm.o hm).2 lk_503 dX4_bend_22 ?_
      refine v_iconst 25 C (iZ 2) dX4_bend_25 rfl ?_
      refine v_iload_n 26 1 C dX4_bend_26 rfl ?_
      refine z_imul 27 C dX4_bend_27 ?_
      refine v_iconst 28 C (iZ 1) dX4_bend_28 rfl ?_
      refine z_iadd 29 C dX4_bend_29 ?_
      refine v_iald 30 C (vm.a hm 47 (by decide) rfl).1 (vm.a hm 47 (by decide) rfl).2 (2 * k + 1) (izn (by omega)) (lnx (show ln 47 = 60 from rfl) (by omega)) dX4_bend_30 ?_
      refine v_eqi (iZ (qu : Int)) ((hM.2.2.1 (2 * k + 1) (by omega)).1.trans (by rw [eq_])) ?_
      refine v_calli 31 hA (rV_Mo 31 C L_RX4_131 lk_625 lk_28 (m4_planeStuck (v := t 4 (qu / 2 - 1) j) hm (by omega) (sp qu tq (by omega))) (vm.o hm) rfl ⟨rfl, rfl⟩ (rm_ok rfl) dX4_bend_31) (fun r34 w35 h36 => ?_)
      obtain ⟨e_r34, rfl⟩ := h36
      refine v_eqi (iZ (PS t j qu)) (e_r34) ?_
      refine z_if_eq 34 41 C (by first | assumption | exact ⟨by omega, by omega⟩) dX4_bend_34 (by decide) (fun cB => absurd cB (fun q => h0 ⟨cA, q⟩)) (fun cB => ?_)
      refine v_iconst 37 C (iZ 1) dX4_bend_37 rfl ?_
      refine v_goto 38 42 C dX4_bend_38 (by decide) ?_
      refine v_zast 42 C (vm.a hm 56 (by decide) rfl).1 (vm.a hm 56 (by decide) rfl).2 k (izn (by omega)) (lnx (show ln 56 = 30 from rfl) (by omega)) dX4_bend_42 ?_
      rw [vn1]
      refine v_aload_n 43 0 C dX4_bend_43 rfl ?_
      refine g_Mo_isStuck 44 C (vm.o hm).1 (vm.o hm).2 lk_513 dX4_bend_44 ?_
      refine v_iload_n 47 1 C dX4_bend_47 rfl ?_
      refine v_zald 48 C (vm.a hm 56 (by decide) rfl).1 (vm.a hm 56 (by decide) rfl).2 k (izn (by omega)) (lnx (show ln 56 = 30 from rfl) (by omega)) dX4_bend_48 ?_
      refine v_eqi (iZ 1) (by rw [gA_pA, if_pos ⟨rfl, rfl⟩]) ?_
      refine z_if_eq 49 53 C (by first | assumption | exact ⟨by omega, by omega⟩) dX4_bend_49 (by decide) (fun c49_2 => absurd c49_2 (by decide)) (fun c49_2 => ?_)
      exact v_vret 52 C (⟨_, 1, rfl, by unfold BeQ; rw [hpu, hqu]; exact ⟨BeF.a, by rw [gA_pA, if_pos ⟨rfl, rfl⟩], Or.inr rfl, fun _ => rfl, fun z1 z2 => absurd ⟨z1, z2⟩ h0⟩⟩) dX4_bend_52
