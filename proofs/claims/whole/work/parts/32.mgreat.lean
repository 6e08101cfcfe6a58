def DM (b : Bs) (j k : Nat) (a c : Nat) : Prop := a < bn b ∧ b 8 a = 1 ∧ (c < j ∨ (c = j ∧ a < k))
theorem DM_next {b : Bs} {j a c : Nat} : DM b j (bn b) a c ↔ DM b (j + 1) 0 a c := by
  unfold DM
  constructor
  · intro ⟨q1, q2, q3⟩; exact ⟨q1, q2, by omega⟩
  · intro ⟨q1, q2, q3⟩; exact ⟨q1, q2, by omega⟩
theorem DM_end {b : Bs} {a c : Nat} : DM b 16 0 a c ↔ DG b (bn b) a c := by
  unfold DM DG
  constructor
  · intro ⟨q1, q2, q3⟩; exact ⟨q1, q2, by omega⟩
  · intro ⟨q1, q2, q3⟩; exact ⟨q1, q2, by omega⟩
theorem DM_step {b : Bs} {t : Ts} {j k : Nat} {mo v : Int} (h : gm t (DM b j k) mo) (hk : k < bn b) (hv : v = if b 8 k = 1 then mvK t k j else -1) (hb : b 8 k = 1 → mvK t k j ≤ 200000) : gm t (DM b j (k + 1)) (max mo v) := by
  by_cases q : b 8 k = 1
  · rw [hv, if_pos q]
    refine gm_step h (hb q) ⟨hk, q, Or.inr ⟨rfl, by omega⟩⟩ (fun a c z => ⟨z.1, z.2.1, by have := z.2.2; omega⟩) (fun a c z => ?_)
    by_cases y : a = k ∧ c = j
    · exact Or.inr y
    · refine Or.inl ⟨z.1, z.2.1, ?_⟩
      have := z.2.2
      omega
  · have e : max mo v = mo := by rw [hv, if_neg q]; have := h.1; omega
    rw [e]
    refine gm_same h (fun a c => ⟨fun z => ⟨z.1, z.2.1, by have := z.2.2; omega⟩, fun z => ⟨z.1, z.2.1, ?_⟩⟩)
    have y : a ≠ k := fun y => q (y ▸ z.2.1)
    have := z.2.2
    omega
set_option maxHeartbeats 4000000 in
set_option maxRecDepth 100000 in
theorem d_greatest {l : Launch} {D : va_G} {kc : Nat → ClassId} {N : Nat} {ad : Nat → Nat} {S : St} {b : Bs} (hm : vm N) (hI : Inv b) (hM : RM S b) {t : Ts} (hE : LE b t)  : MetK l yX4_greatest cX4_greatest 5 (some FieldType.int) 6 0 0 166 D kc (wl kc N ad S) [.ref (ad 45)] (QI D kc (wl kc N ad S) (fun r ws' => ∃ mo : Int, gm t (DG b (bn b)) mo ∧ mQ kc N ad S mo b r ws')) := by
  refine MetK.of (by decide +kernel) (Nat.le_of_ble_eq_true rfl) ?_
  intro p e s m below meth c C
  have hA : ∀ q, s.heap.size ≤ q → va_A (wl kc N ad S) s.heap.size q := fun _ h => Or.inr h
  show V p l e { frames := 6, cells := 0, slots := 0, locals := 166 } s m ([.ref (ad 45)] : List Value).toArray below meth c (MQ below (QI D kc (wl kc N ad S) (fun r ws' => ∃ mo : Int, gm t (DG b (bn b)) mo ∧ mQ kc N ad S mo b r ws') s.heap.size) ([.ref (ad 45)] : List Value).toArray s 0 0 (va_A (wl kc N ad S) s.heap.size)) D (va_A (wl kc N ad S) s.heap.size) 5 0 0 (wl kc N ad S) 0 [(0, .ref (ad 45))] []
  have hb0 := hI.1
  have loop : ∀ (d j s_ : Nat) (S1 : St) (mo : Int), j + d = 16 → s_ = j + 1 → MoF S S1 → OPk S1 b t j (bn b) → gm t (DM b j 0) mo → V p l e { frames := 6, cells := 0, slots := 0, locals := 166 } s m ([.ref (ad 45)] : List Value).toArray below meth c (MQ below (QI D kc (wl kc N ad S) (fun r ws' => ∃ mo : Int, gm t (DG b (bn b)) mo ∧ mQ kc N ad S mo b r ws') s.heap.size) ([.ref (ad 45)] : List Value).toArray s 0 0 (va_A (wl kc N ad S) s.heap.size)) D (va_A (wl kc N ad S) s.heap.size) 5 0 0 (wl kc N ad S1) 9 [(3, .int (iZ (s_ : Int))), (1, .long (lZ mo)), (0, .ref (ad 45))] [] := by
    intro d
    induction d with
    | zero =>
      intro j s_ S1 mo hj hs hF hO hg
      have hgb := hg.1
      have e16 : j = 16 := by omega
      refine v_iload_n 9 0 C dX4_greatest_9 rfl ?_
      refine v_bipush 10 C (iZ 17) dX4_greatest_10 (by decide) ?_
      refine z_icmp_ge 12 70 C (by first | assumption | exact ⟨by omega, by omega⟩) (by first | assumption | exact ⟨by omega, by omega⟩) dX4_greatest_12 (by decide) (fun c12_0 => ?_) (fun c12_0 => absurd (by omega) c12_0)
      refine v_lload_n 70 1 C dX4_greatest_70 rfl ?_
      refine z_l2i 71 C dX4_greatest_71 ?_
      exact v_iret 72 C (⟨mo, by rw [e16] at hg; exact gm_same hg (fun a c => DM_end), rfl, S1, rfl, hF.RM hM, hF.C⟩) dX4_greatest_72
    | succ d ih =>
      intro j s_ S1 mo0 hj hs hF hO hg0
      have M1 := hF.RM hM
      refine v_iload_n 9 0 C dX4_greatest_9 rfl ?_
      refine v_bipush 10 C (iZ 17) dX4_greatest_10 (by decide) ?_
      refine z_icmp_ge 12 70 C (by first | assumption | exact ⟨by omega, by omega⟩) (by first | assumption | exact ⟨by omega, by omega⟩) dX4_greatest_12 (by decide) (fun c12_0 => absurd c12_0 (by omega)) (fun c12_0 => ?_)
      refine v_aload_n 15 2 C dX4_greatest_15 rfl ?_
      refine v_callv 16 hA (rV_Mo 16 C L_RX4_210 lk_755 lk_44 (m4_keep hm hI M1 hE (show j < 17 by omega) hO) (vm.o hm) rfl ⟨rfl, rfl⟩ (rm_ok rfl) dX4_greatest_16) (fun w2 h3 => ?_)
      obtain ⟨S2, rfl, F2, L2⟩ := h3
      have M2 := F2.M.RM M1
      refine v_aload_n 19 2 C dX4_greatest_19 rfl ?_
      refine v_iload_n 20 0 C dX4_greatest_20 rfl ?_
      refine v_callv 21 hA (rV_Mo 21 C L_RX4_155 lk_617 lk_26 (m4_open (j := s_) hm hI M2 hE (by omega)) (vm.o hm) rfl ⟨rfl, rfl⟩ (rm_ok rfl) dX4_greatest_21) (fun w5 h6 => ?_)
      obtain ⟨S3, rfl, F3, O3⟩ := h6
      refine v_iconst 24 C (iZ 0) dX4_greatest_24 rfl ?_
      refine v_istore 25 [(4, .int (iZ 0)), (3, .int (iZ (s_ : Int))), (1, .long (lZ mo0)), (0, .ref (ad 45))] C dX4_greatest_25 (by decide) rfl ?_
      have O3b : OPk S3 b t (j + 1) (bn b) := by rw [← hs]; exact O3
      have F03 := (hF.tr F2.M).tr F3.M
      have M3 := F03.RM hM
      have L3 := F3.L L2
      have inner : ∀ (f k : Nat) (mo : Int), k + f = bn b → gm t (DM b j k) mo → V p l e { frames := 6, cells := 0, slots := 0, locals := 166 } s m ([.ref (ad 45)] : List Value).toArray below meth c (MQ below (QI D kc (wl kc N ad S) (fun r ws' => ∃ mo : Int, gm t (DG b (bn b)) mo ∧ mQ kc N ad S mo b r ws') s.heap.size) ([.ref (ad 45)] : List Value).toArray s 0 0 (va_A (wl kc N ad S) s.heap.size)) D (va_A (wl kc N ad S) s.heap.size) 5 0 0 (wl kc N ad S3) 27 [(4, .int (iZ (k : Int))), (3, .int (iZ (s_ : Int))), (1, .long (lZ mo)), (0, .ref (ad 45))] [] := by
        intro f
        induction f with
        | zero =>
          intro k mo hk hg
          have hgb := hg.1
          refine v_iload 27 0 C dX4_greatest_27 rfl ?_
          refine v_aload_n 29 3 C dX4_greatest_29 rfl ?_
          refine g_Mo_parts 30 C (vm.o hm).1 (vm.o hm).2 lk_501 dX4_greatest_30 ?_
          refine v_eqi (iZ (b 0 0)) (M3.1.2.2) ?_
          refine z_icmp_ge 33 64 C (by first | assumption | exact ⟨by omega, by omega⟩) (by first | assumption | exact ⟨by omega, by omega⟩) dX4_greatest_33 (by decide) (fun c33_0 => ?_) (fun c33_0 => absurd (by omega) c33_0)
          refine v_iinc 64 1 (iZ ((s_ + 1 : Nat) : Int)) [(3, .int (iZ ((s_ + 1 : Nat) : Int))), (4, .int (iZ (k : Int))), (1, .long (lZ mo)), (0, .ref (ad 45))] C dX4_greatest_64 rfl (iZ_add _ _) (by decide) rfl ?_
          refine v_goto 67 9 C dX4_greatest_67 (by decide) ?_
          refine v_sub [0, 2, 3] rfl ?_
          exact ih (j + 1) (s_ + 1) S3 mo (by omega) (by omega) F03 O3b (gm_same (by rw [← show k = bn b by omega]; exact hg) (fun a c => DM_next))
        | succ f ih2 =>
          intro k mo hk hg
          have hgb := hg.1
          have hk2 : k < bn b := by omega
          obtain ⟨X, Y, LX, LY, v0, v1, ⟨e1, e2, e3, e4, e5, e6⟩, ⟨r1, r2, r3, r4⟩, ⟨h0, h1⟩, hb, hmv⟩ := mov_facts hI hE hk2 (by omega) L3 O3b
          have hst := DM_step hg hk2 hmv (fun q => (mvK_b hI hE hk2 q (by omega)).2)
          have hmb := hst.1
          have hm1 : -1 ≤ mvZ v0 v1 LX LY X Y := by
            rw [hmv]
            split
            · rename_i q; exact (mvK_b hI hE hk2 q (by omega)).1
            · decide
          generalize hV : mvZ v0 v1 LX LY X Y = V_ at hst hmb hm1
          refine v_iload 27 0 C dX4_greatest_27 rfl ?_
          refine v_aload_n 29 3 C dX4_greatest_29 rfl ?_
          refine g_Mo_parts 30 C (vm.o hm).1 (vm.o hm).2 lk_501 dX4_greatest_30 ?_
          refine v_eqi (iZ (b 0 0)) (M3.1.2.2) ?_
          refine z_icmp_ge 33 64 C (by first | assumption | exact ⟨by omega, by omega⟩) (by first | assumption | exact ⟨by omega, by omega⟩) dX4_greatest_33 (by decide) (fun c33_0 => absurd c33_0 (by omega)) (fun c33_0 => ?_)
          refine v_aload_n 36 3 C dX4_greatest_36 rfl ?_
          refine v_iload 37 0 C dX4_greatest_37 rfl ?_
          refine v_calll 39 hA (rV_Mo 39 C L_RX4_213 lk_759 lk_45 (m4_moved hm (by omega) e1 e2 e3 e4 e5 e6 r1 r2 r3 r4 h0 h1 hb) (vm.o hm) rfl ⟨rfl, rfl⟩ (rm_ok rfl) dX4_greatest_39) (fun r7 w8 h9 => ?_)
          obtain ⟨e_r7, rfl⟩ := h9
          refine v_eql (lZ (mvZ v0 v1 LX LY X Y)) (e_r7) ?_
          refine v_eql (lZ V_) (congrArg lZ hV) ?_
          refine v_lload_n 42 2 C dX4_greatest_42 rfl ?_
          refine z_lcmp_le 43 56 C (by first | assumption | exact ⟨by omega, by omega⟩) (by first | assumption | exact ⟨by omega, by omega⟩) dX4_greatest_43 dX4_greatest_44 (by decide) (fun c43_1 => ?_) (fun c43_1 => ?_)
          · skip
            refine v_lload_n 56 2 C dX4_greatest_56 rfl ?_
            refine v_lstore_n 57 [(1, .long (lZ mo)), (4, .int (iZ (k : Int))), (3, .int (iZ (s_ : Int))), (0, .ref (ad 45))] C dX4_greatest_57 (by decide) rfl ?_
            refine v_iinc 58 1 (iZ ((k + 1 : Nat) : Int)) [(4, .int (iZ ((k + 1 : Nat) : Int))), (1, .long (lZ mo)), (3, .int (iZ (s_ : Int))), (0, .ref (ad 45))] C dX4_greatest_58 rfl (iZ_add _ _) (by decide) rfl ?_
            refine v_goto 61 27 C dX4_greatest_61 (by decide) ?_
            refine v_sub [0, 2, 1, 3] rfl ?_
            exact ih2 (k + 1) mo (by omega) (by rw [← show max mo V_ = mo by omega]; exact hst)
          · skip
            refine v_aload_n 47 3 C dX4_greatest_47 rfl ?_
            refine v_iload 48 0 C dX4_greatest_48 rfl ?_
            refine v_calll 50 hA (rV_Mo 50 C L_RX4_213 lk_759 lk_45 (m4_moved hm (by omega) e1 e2 e3 e4 e5 e6 r1 r2 r3 r4 h0 h1 hb) (vm.o hm) rfl ⟨rfl, rfl⟩ (rm_ok rfl) dX4_greatest_50) (fun r10 w11 h12 => ?_)
            obtain ⟨e_r10, rfl⟩ := h12
            refine v_eql (lZ (mvZ v0 v1 LX LY X Y)) (e_r10) ?_
            refine v_eql (lZ V_) (congrArg lZ hV) ?_
            refine v_goto 53 57 C dX4_greatest_53 (by decide) ?_
            refine v_lstore_n 57 [(1, .long (lZ V_)), (4, .int (iZ (k : Int))), (3, .int (iZ (s_ : Int))), (0, .ref (ad 45))] C dX4_greatest_57 (by decide) rfl ?_
            refine v_iinc 58 1 (iZ ((k + 1 : Nat) : Int)) [(4, .int (iZ ((k + 1 : Nat) : Int))), (1, .long (lZ V_)), (3, .int (iZ (s_ : Int))), (0, .ref (ad 45))] C dX4_greatest_58 rfl (iZ_add _ _) (by decide) rfl ?_
            refine v_goto 61 27 C dX4_greatest_61 (by decide) ?_
            refine v_sub [0, 2, 1, 3] rfl ?_
            exact ih2 (k + 1) V_ (by omega) (by rw [← show max mo V_ = V_ by omega]; exact hst)
      refine v_sub [0, 1, 2, 3] rfl ?_
      exact inner (bn b) 0 mo0 (by omega) hg0
  refine v_lconst 0 C (lZ 0) dX4_greatest_0 (by decide) ?_
  refine v_lstore_n 1 [(1, .long (lZ 0)), (0, .ref (ad 45))] C dX4_greatest_1 (by decide) rfl ?_
  refine v_aload_n 2 1 C dX4_greatest_2 rfl ?_
  refine v_iconst 3 C (iZ 0) dX4_greatest_3 rfl ?_
  refine v_callv 4 hA (rV_Mo 4 C L_RX4_155 lk_617 lk_26 (m4_open (j := 0) hm hI hM hE (by decide)) (vm.o hm) rfl ⟨rfl, rfl⟩ (rm_ok rfl) dX4_greatest_4) (fun w14 h15 => ?_)
  obtain ⟨S1, rfl, F1, O1⟩ := h15
  refine v_iconst 7 C (iZ 1) dX4_greatest_7 rfl ?_
  refine v_istore_n 8 [(3, .int (iZ 1)), (1, .long (lZ 0)), (0, .ref (ad 45))] C dX4_greatest_8 (by decide) rfl ?_
  refine v_sub [0, 1, 2] rfl ?_
  exact loop 16 0 1 S1 0 (by decide) rfl F1.M O1 ⟨by decide, fun a c q => by have := q.2.2; omega, Or.inl rfl⟩
