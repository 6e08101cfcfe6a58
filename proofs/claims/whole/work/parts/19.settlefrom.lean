/-! SETTLE: from a part on -/
def ag (t t' : Ts) (i s : Nat) : Prop := ∀ a, (a < 2 * i → t' 0 a s = t 0 a s ∧ t' 1 a s = t 1 a s) ∧ (a < i → t' 2 a s = t 2 a s ∧ t' 3 a s = t 3 a s ∧ t' 4 a s = t 4 a s)
theorem PS_ag {t t' : Ts} {i s p : Nat} (h : ag t t' i s) (hp : p < 2 * i + 2) : PS t' s p = PS t s p := by
  unfold PS
  split
  · rfl
  · exact ((h (p / 2 - 1)).2 (by omega)).2.2
theorem PLx_ag {b : Bs} {t t' : Ts} {i s p : Nat} {n : Int} (h : ag t t' i s) (hp : p < 2 * i + 2) : PLx b t' s p n = PLx b t s p n := by
  unfold PLx
  split
  · rfl
  · split
    · rfl
    · rw [((h (p - 2)).1 (by omega)).1, ((h (p / 2 - 1)).2 (by omega)).1]
theorem PLy_ag {b : Bs} {t t' : Ts} {i s p : Nat} {n : Int} (h : ag t t' i s) (hp : p < 2 * i + 2) : PLy b t' s p n = PLy b t s p n := by
  unfold PLy
  split
  · rfl
  · split
    · rfl
    · rw [((h (p - 2)).1 (by omega)).2, ((h (p / 2 - 1)).2 (by omega)).2.1]
theorem LE1_ag {b : Bs} {t t' : Ts} {i k s : Nat} (hI : Inv b) (h : ag t t' i s) (hk : k < i) (hkn : k < bn b) (hL : LE1 b t k s) : LE1 b t' k s := by
  have J0 := (hI.2.2.2.2 k hkn (2 * k) (Or.inl rfl)).1
  have J1 := (hI.2.2.2.2 k hkn (2 * k + 1) (Or.inr rfl)).1
  unfold LE1 at hL ⊢
  rw [PS_ag h (by omega), PS_ag h (by omega), PLx_ag h (by omega), PLx_ag h (by omega), PLy_ag h (by omega), PLy_ag h (by omega), ((h (2 * k)).1 (by omega)).1, ((h (2 * k)).1 (by omega)).2, ((h (2 * k + 1)).1 (by omega)).1, ((h (2 * k + 1)).1 (by omega)).2, ((h k).2 hk).1, ((h k).2 hk).2.1, ((h k).2 hk).2.2]
  exact hL
theorem RT1_ag {S : St} {t t' : Ts} {i k s : Nat} (h : ag t t' i s) (hk : k < i) (hR : RT1 S t k s) : RT1 S t' k s := by
  unfold RT1 at hR ⊢
  rw [((h (2 * k)).1 (by omega)).1, ((h (2 * k)).1 (by omega)).2, ((h (2 * k + 1)).1 (by omega)).1, ((h (2 * k + 1)).1 (by omega)).2, ((h k).2 hk).1, ((h k).2 hk).2.1, ((h k).2 hk).2.2]
  exact hR
def SF (S0 S : St) (b : Bs) (t : Ts) (i : Nat) : Prop := RP S b ∧ RW S ∧ RE S (b 1 0) ∧ RTk S b t i ∧ LEk b t i ∧ sameOn atM S0 S
def SI (S0 S : St) (b : Bs) (t : Ts) (i s : Nat) : Prop := SF S0 S b t i ∧ ∀ s', s' < s → RT1 S t i s' ∧ LE1 b t i s'
def stab (t : Ts) (i s : Nat) (x0 y0 x1 y1 x y v : Int) : Ts := fun f a c => if c = s then (if f = 0 ∧ a = 2 * i then x0 else if f = 1 ∧ a = 2 * i then y0 else if f = 0 ∧ a = 2 * i + 1 then x1 else if f = 1 ∧ a = 2 * i + 1 then y1 else if f = 2 ∧ a = i then x else if f = 3 ∧ a = i then y else if f = 4 ∧ a = i then v else t f a c) else t f a c
theorem stab_ag {t : Ts} {i s : Nat} {x0 y0 x1 y1 x y v : Int} : ag t (stab t i s x0 y0 x1 y1 x y v) i s := by
  intro a
  refine ⟨fun h => ⟨?_, ?_⟩, fun h => ⟨?_, ?_, ?_⟩⟩ <;> unfold stab <;> simp <;> omega
theorem stab_st {t : Ts} {i s s' k : Nat} {x0 y0 x1 y1 x y v : Int} (h : s' ≠ s) : ag t (stab t i s x0 y0 x1 y1 x y v) k s' := by
  intro a
  refine ⟨fun _ => ⟨?_, ?_⟩, fun _ => ⟨?_, ?_, ?_⟩⟩ <;> unfold stab <;> rw [if_neg h]
theorem settle_step {S0 S S' : St} {b : Bs} {t : Ts} {i s : Nat} {v : Int} (hI : Inv b) (hi : i < bn b) (ht : b 8 i = 1) (hs : s < 17) (h : SI S0 S b t i s) (hQ : SetQ S S' b t (66 + 15 * i) s (b 4 (2 * i)).toNat (b 4 (2 * i + 1)).toNat (b 5 (2 * i)) (b 5 (2 * i + 1)) (b 6 (2 * i)) (b 6 (2 * i + 1)) (b 7 i) v) : ∃ t', SI S0 S' b t' i (s + 1) := by
  obtain ⟨⟨hP, hW, hE, hR, hL, hM⟩, hin⟩ := h
  obtain ⟨hWr, q1, q2, q3, q4⟩ := hQ
  have J0 := (hI.2.2.2.2 i hi (2 * i) (Or.inl rfl)).1
  have J1 := (hI.2.2.2.2 i hi (2 * i + 1) (Or.inr rfl)).1
  have base : ∀ t' : Ts, ag t t' i s → (∀ s' k : Nat, s' ≠ s → ag t t' k s') → RT1 S' t' i s → LE1 b t' i s → SI S0 S' b t' i (s + 1) := by
    intro t' h1 h2 h3 h4
    have agk : ∀ s', ag t t' i s' := fun s' => by
      by_cases e : s' = s
      · rw [e]; exact h1
      · exact h2 s' i e
    refine ⟨⟨hWr.RP (by omega) hP, hWr.RW (Or.inr (by omega)) hW, hWr.RE (Or.inr (by omega)) hE, fun k h5 h6 h7 s' h8 => ?_, fun k h5 h6 h7 s' h8 => ?_, hM.tr (hWr.M (Or.inr (by omega)))⟩, fun s' h5 => ?_⟩
    · exact RT1_ag (agk s') h5 (hWr.RT1 (Or.inr ⟨i, rfl, Or.inl (by omega)⟩) (hR k h5 h6 h7 s' h8))
    · exact LE1_ag hI (agk s') h5 h6 (hL k h5 h6 h7 s' h8)
    · by_cases e : s' = s
      · rw [e]; exact ⟨h3, h4⟩
      · have g := hin s' (by omega)
        exact ⟨RT1_ag (i := i + 1) (h2 s' _ e) (by omega) (hWr.RT1 (Or.inr ⟨i, rfl, Or.inr e⟩) g.1), LE1_ag (i := i + 1) hI (h2 s' _ e) (by omega) hi g.2⟩
  have fin : ∀ x0 y0 x1 y1 x y : Int, RT1 S' (stab t i s x0 y0 x1 y1 x y v) i s → LE1 b (stab t i s x0 y0 x1 y1 x y v) i s → ∃ t', SI S0 S' b t' i (s + 1) := fun x0 y0 x1 y1 x y h3 h4 => ⟨_, base _ stab_ag (fun _ _ e => stab_st e) h3 h4⟩
  have T4 : ∀ x0 y0 x1 y1 x y : Int, stab t i s x0 y0 x1 y1 x y v 4 i s = v := fun _ _ _ _ _ _ => by simp [stab]
  have T2 : ∀ x0 y0 x1 y1 x y : Int, stab t i s x0 y0 x1 y1 x y v 2 i s = x := fun _ _ _ _ _ _ => by simp [stab]
  have T3 : ∀ x0 y0 x1 y1 x y : Int, stab t i s x0 y0 x1 y1 x y v 3 i s = y := fun _ _ _ _ _ _ => by simp [stab]
  have T00 : ∀ x0 y0 x1 y1 x y : Int, stab t i s x0 y0 x1 y1 x y v 0 (2 * i) s = x0 := fun _ _ _ _ _ _ => by simp [stab]
  have T10 : ∀ x0 y0 x1 y1 x y : Int, stab t i s x0 y0 x1 y1 x y v 1 (2 * i) s = y0 := fun _ _ _ _ _ _ => by simp [stab]
  have T01 : ∀ x0 y0 x1 y1 x y : Int, stab t i s x0 y0 x1 y1 x y v 0 (2 * i + 1) s = x1 := fun _ _ _ _ _ _ => by simp [stab]
  have T11 : ∀ x0 y0 x1 y1 x y : Int, stab t i s x0 y0 x1 y1 x y v 1 (2 * i + 1) s = y1 := fun _ _ _ _ _ _ => by simp [stab]
  have P : ∀ x0 y0 x1 y1 x y : Int, (PS (stab t i s x0 y0 x1 y1 x y v) s (b 4 (2 * i)).toNat = PS t s (b 4 (2 * i)).toNat ∧ PS (stab t i s x0 y0 x1 y1 x y v) s (b 4 (2 * i + 1)).toNat = PS t s (b 4 (2 * i + 1)).toNat) := fun _ _ _ _ _ _ => ⟨PS_ag stab_ag (by omega), PS_ag stab_ag (by omega)⟩
  by_cases h0 : PS t s (b 4 (2 * i)).toNat = 0 ∧ PS t s (b 4 (2 * i + 1)).toNat = 0
  · obtain ⟨⟨⟨g1, g2⟩, g3, g4⟩, hf⟩ := q4 h0.1 h0.2
    rcases hf with ⟨hf, hv⟩ | ⟨x, y, hf, hv, gx, gy⟩
    · refine fin (PLx b t s (b 4 (2 * i)).toNat (b 5 (2 * i))) (PLy b t s (b 4 (2 * i)).toNat (b 5 (2 * i))) (PLx b t s (b 4 (2 * i + 1)).toNat (b 5 (2 * i + 1))) (PLy b t s (b 4 (2 * i + 1)).toNat (b 5 (2 * i + 1))) 0 0 ⟨by rw [T4]; exact q1, fun z => absurd z (by rw [T4, hv]; decide)⟩ ⟨by rw [T4]; exact q2, fun z => by rw [T4]; exact hv, fun _ _ => ⟨⟨?_, ?_, ?_, ?_⟩, Or.inl ⟨?_, by rw [T4]; exact hv⟩⟩⟩
      · rw [T00, PLx_ag stab_ag (by omega)]
      · rw [T10, PLy_ag stab_ag (by omega)]
      · rw [T01, PLx_ag stab_ag (by omega)]
      · rw [T11, PLy_ag stab_ag (by omega)]
      · rw [T00, T10, T01, T11]; exact hf
    · refine fin (PLx b t s (b 4 (2 * i)).toNat (b 5 (2 * i))) (PLy b t s (b 4 (2 * i)).toNat (b 5 (2 * i))) (PLx b t s (b 4 (2 * i + 1)).toNat (b 5 (2 * i + 1))) (PLy b t s (b 4 (2 * i + 1)).toNat (b 5 (2 * i + 1))) x y ⟨by rw [T4]; exact q1, fun z => ?_⟩ ⟨by rw [T4]; exact q2, fun z => absurd (by rw [(P _ _ _ _ _ _).1, (P _ _ _ _ _ _).2]; exact h0) z, fun _ _ => ⟨⟨?_, ?_, ?_, ?_⟩, Or.inr ⟨?_, by rw [T4]; exact hv⟩⟩⟩
      · rw [T00, T10, T01, T11, T2, T3]; exact ⟨⟨g1, g2⟩, ⟨g3, g4⟩, gx, gy⟩
      · rw [T00, PLx_ag stab_ag (by omega)]
      · rw [T10, PLy_ag stab_ag (by omega)]
      · rw [T01, PLx_ag stab_ag (by omega)]
      · rw [T11, PLy_ag stab_ag (by omega)]
      · rw [T00, T10, T01, T11, T2, T3]; exact hf
  · have hv := q3 h0
    refine fin 0 0 0 0 0 0 ⟨by rw [T4]; exact q1, fun z => absurd z (by rw [T4, hv]; decide)⟩ ⟨by rw [T4]; exact q2, fun _ => by rw [T4]; exact hv, fun z1 z2 => absurd ⟨by rw [← (P 0 0 0 0 0 0).1]; exact z1, by rw [← (P 0 0 0 0 0 0).2]; exact z2⟩ h0⟩
theorem SI_end {S0 S : St} {b : Bs} {t : Ts} {i : Nat} (h : SI S0 S b t i 17) : SF S0 S b t (i + 1) := by
  obtain ⟨⟨hP, hW, hE, hR, hL, hM⟩, hin⟩ := h
  refine ⟨hP, hW, hE, fun k h5 h6 h7 s' h8 => ?_, fun k h5 h6 h7 s' h8 => ?_, hM⟩
  · by_cases e : k = i
    · rw [e]; exact (hin s' h8).1
    · exact hR k (by omega) h6 h7 s' h8
  · by_cases e : k = i
    · rw [e]; exact (hin s' h8).2
    · exact hL k (by omega) h6 h7 s' h8
theorem SF_skip {S0 S : St} {b : Bs} {t : Ts} {i : Nat} (ht : ¬ b 8 i = 1) (h : SF S0 S b t i) : SF S0 S b t (i + 1) := by
  obtain ⟨hP, hW, hE, hR, hL, hM⟩ := h
  refine ⟨hP, hW, hE, fun k h5 h6 h7 s' h8 => ?_, fun k h5 h6 h7 s' h8 => ?_, hM⟩
  · by_cases e : k = i
    · rw [e] at h7; exact absurd h7 ht
    · exact hR k (by omega) h6 h7 s' h8
  · by_cases e : k = i
    · rw [e] at h7; exact absurd h7 ht
    · exact hL k (by omega) h6 h7 s' h8
/-- what a plane that a part hangs on has, while the parts before K are settled -/
theorem SF_u {S0 S : St} {b : Bs} {t : Ts} {K u j : Nat} (hI : Inv b) (h : SF S0 S b t K) (hu : thL b u) (hK : u < 2 * K + 2) (hj : j < 17) : 2 ≤ u → RT1 S t (u / 2 - 1) j ∧ BD1 b t (u / 2 - 1) j ∧ b01 (t 4 (u / 2 - 1) j) := by
  intro h2
  obtain ⟨hP, hW, hE, hR, hL, hM⟩ := h
  have T := thL_lt hu h2
  exact ⟨hR _ (by omega) T.1 T.2 j hj, LE_bd hI hL (u / 2 - 1 + 1) _ (by omega) (by omega) T.1 T.2 j hj, (hL _ (by omega) T.1 T.2 j hj).1⟩
theorem SF_RC {S0 S : St} {b : Bs} {t : Ts} {i : Nat} (e : i = bn b) (h : SF S0 S b t i) : RC S b t := by
  rw [e] at h
  exact ⟨h.1, h.2.1, h.2.2.1, h.2.2.2.1⟩
theorem SF_LE {S0 S : St} {b : Bs} {t : Ts} {i : Nat} (e : i = bn b) (h : SF S0 S b t i) : LE b t := by
  rw [e] at h
  exact h.2.2.2.2.1
set_option maxHeartbeats 4000000 in
set_option maxRecDepth 100000 in
theorem m_settleFrom {l : Launch} {D : va_G} {kc : Nat → ClassId} {N : Nat} {ad : Nat → Nat} {S : St} {b : Bs} {t : Ts} {k : Nat} (hg : vg N) (hN : N = 66 + 15 * bn b) (hI : Inv b) (hk : k ≤ bn b) (hSF0 : SF S S b t k) : MetK l yX3_settleFrom cX3_settleFrom 5 (none) 6 0 0 149 D kc (wl kc N ad S) [.ref (ad 0), .int (iZ (k : Int))] (QV D kc (wl kc N ad S) (fun ws' => ∃ (S' : St) (t' : Ts), ws' = wl kc N ad S' ∧ RC S' b t' ∧ LE b t' ∧ sameOn atM S S')) := by
  refine MetK.of (by decide +kernel) (Nat.le_of_ble_eq_true rfl) ?_
  intro p e s m below meth c C
  have hA : ∀ q, s.heap.size ≤ q → va_A (wl kc N ad S) s.heap.size q := fun _ h => Or.inr h
  show V p l e { frames := 6, cells := 0, slots := 0, locals := 149 } s m ([.ref (ad 0), .int (iZ (k : Int))] : List Value).toArray below meth c (MQ below (QV D kc (wl kc N ad S) (fun ws' => ∃ (S' : St) (t' : Ts), ws' = wl kc N ad S' ∧ RC S' b t' ∧ LE b t' ∧ sameOn atM S S') s.heap.size) ([.ref (ad 0), .int (iZ (k : Int))] : List Value).toArray s 0 0 (va_A (wl kc N ad S) s.heap.size)) D (va_A (wl kc N ad S) s.heap.size) 5 0 0 (wl kc N ad S) 0 [(0, .ref (ad 0)), (1, .int (iZ (k : Int)))] []
  have hb0 := hI.1
  have loop : ∀ (d i : Nat) (S1 : St) (t1 : Ts), i + d = bn b → SF S S1 b t1 i → V p l e { frames := 6, cells := 0, slots := 0, locals := 149 } s m ([.ref (ad 0), .int (iZ (k : Int))] : List Value).toArray below meth c (MQ below (QV D kc (wl kc N ad S) (fun ws' => ∃ (S' : St) (t' : Ts), ws' = wl kc N ad S' ∧ RC S' b t' ∧ LE b t' ∧ sameOn atM S S') s.heap.size) ([.ref (ad 0), .int (iZ (k : Int))] : List Value).toArray s 0 0 (va_A (wl kc N ad S) s.heap.size)) D (va_A (wl kc N ad S) s.heap.size) 5 0 0 (wl kc N ad S1) 2 [(2, .int (iZ (i : Int))), (1, .int (iZ (k : Int))), (0, .ref (ad 0))] [] := by
    intro d
    induction d with
    | zero =>
      intro i S1 t1 hi hSF
      refine v_iload_n 2 0 C dX3_settleFrom_2 rfl ?_
      refine v_aload_n 3 2 C dX3_settleFrom_3 rfl ?_
      refine g_Pg_made 4 C (vg.o hg).1 (vg.o hg).2 lk_216 dX3_settleFrom_4 ?_
      refine v_eqi (iZ (b 0 0)) (hSF.1.1.2.2) ?_
      refine z_icmp_ge 7 49 C (by first | assumption | exact ⟨by omega, by omega⟩) (by first | assumption | exact ⟨by omega, by omega⟩) dX3_settleFrom_7 (by decide) (fun c7_0 => ?_) (fun c7_0 => absurd (by omega) c7_0)
      exact v_vret 49 C (⟨S1, t1, rfl, SF_RC (show i = bn b by omega) hSF, SF_LE (show i = bn b by omega) hSF, hSF.2.2.2.2.2⟩) dX3_settleFrom_49
    | succ d ih =>
      intro i S1 t1 hi hSF
      have hi2 : i < bn b := by omega
      by_cases ht : b 8 i = 1
      · skip
        have inner : ∀ (f s_ : Nat) (S2 : St) (t2 : Ts), s_ + f = 17 → SI S S2 b t2 i s_ → V p l e { frames := 6, cells := 0, slots := 0, locals := 149 } s m ([.ref (ad 0), .int (iZ (k : Int))] : List Value).toArray below meth c (MQ below (QV D kc (wl kc N ad S) (fun ws' => ∃ (S' : St) (t' : Ts), ws' = wl kc N ad S' ∧ RC S' b t' ∧ LE b t' ∧ sameOn atM S S') s.heap.size) ([.ref (ad 0), .int (iZ (k : Int))] : List Value).toArray s 0 0 (va_A (wl kc N ad S) s.heap.size)) D (va_A (wl kc N ad S) s.heap.size) 5 0 0 (wl kc N ad S2) 23 [(4, .int (iZ (s_ : Int))), (3, .ref (ad (66 + 15 * i))), (2, .int (iZ (i : Int))), (1, .int (iZ (k : Int))), (0, .ref (ad 0))] [] := by
          intro f
          induction f with
          | zero =>
            intro s_ S2 t2 hs hSI
            refine v_iload 23 0 C dX3_settleFrom_23 rfl ?_
            refine v_bipush 25 C (iZ 17) dX3_settleFrom_25 (by decide) ?_
            refine z_icmp_ge 27 43 C (by first | assumption | exact ⟨by omega, by omega⟩) (by first | assumption | exact ⟨by omega, by omega⟩) dX3_settleFrom_27 (by decide) (fun c27_0 => ?_) (fun c27_0 => absurd (by omega) c27_0)
            refine v_iinc 43 2 (iZ ((i + 1 : Nat) : Int)) [(2, .int (iZ ((i + 1 : Nat) : Int))), (4, .int (iZ (s_ : Int))), (3, .ref (ad (66 + 15 * i))), (1, .int (iZ (k : Int))), (0, .ref (ad 0))] C dX3_settleFrom_43 rfl (iZ_add _ _) (by decide) rfl ?_
            refine v_goto 46 2 C dX3_settleFrom_46 (by decide) ?_
            refine v_sub [0, 3, 4] rfl ?_
            exact ih (i + 1) S2 t2 (by omega) (SI_end (by rw [show s_ = 17 by omega] at hSI; exact hSI))
          | succ f ih2 =>
            intro s_ S2 t2 hs hSI
            have hs17 : s_ < 17 := by omega
            have J0 := hI.2.2.2.2 i hi2 (2 * i) (Or.inl rfl)
            have J1 := hI.2.2.2.2 i hi2 (2 * i + 1) (Or.inr rfl)
            have hr := hSI.1.1.2.2.2.2.2 i hi2
            have hp1 : iZ (b 4 (2 * i)) = iZ (((b 4 (2 * i)).toNat : Nat) : Int) := by congr 1; omega
            have hq1 : iZ (b 4 (2 * i + 1)) = iZ (((b 4 (2 * i + 1)).toNat : Nat) : Int) := by congr 1; omega
            refine v_iload 23 0 C dX3_settleFrom_23 rfl ?_
            refine v_bipush 25 C (iZ 17) dX3_settleFrom_25 (by decide) ?_
            refine z_icmp_ge 27 43 C (by first | assumption | exact ⟨by omega, by omega⟩) (by first | assumption | exact ⟨by omega, by omega⟩) dX3_settleFrom_27 (by decide) (fun c27_0 => absurd c27_0 (by omega)) (fun c27_0 => ?_)
            refine v_aload_n 30 4 C dX3_settleFrom_30 rfl ?_
            refine v_aload_n 31 1 C dX3_settleFrom_31 rfl ?_
            refine v_iload 32 0 C dX3_settleFrom_32 rfl ?_
            refine v_callv 34 hA (rV_Pg 34 C L_RX3_187 lk_317 lk_12 (m_settle hg hN hI hSI.1.1 (vp_k hN hi2) hSI.1.2.1 hs17 (Or.inr ⟨i, rfl, by omega, by omega⟩) (J0.2.2.2 ht) (J1.2.2.2 ht) J0.2.1 J1.2.1 J0.2.2.1 J1.2.2.1 (hI.2.2.2.1 i hi2).2.1 (hr.2.1.trans hp1) hr.2.2.1 (hr.2.2.2.1.trans hq1) hr.2.2.2.2.1 hr.2.2.2.2.2.1 hr.2.2.2.2.2.2.2.1 hr.2.2.2.2.2.2.2.2 (SF_u hI hSI.1 (J0.2.2.2 ht) (by omega) hs17) (SF_u hI hSI.1 (J1.2.2.2 ht) (by omega) hs17)) (vg.o hg) rfl ⟨rfl, rfl⟩ (rm_ok rfl) dX3_settleFrom_34) (fun w2 h3 => ?_)
            obtain ⟨S3, v3, rfl, hQ⟩ := h3
            obtain ⟨t3, h3⟩ := settle_step hI hi2 ht hs17 hSI hQ
            refine v_iinc 37 0 (iZ ((s_ + 1 : Nat) : Int)) [(4, .int (iZ ((s_ + 1 : Nat) : Int))), (3, .ref (ad (66 + 15 * i))), (2, .int (iZ (i : Int))), (1, .int (iZ (k : Int))), (0, .ref (ad 0))] C dX3_settleFrom_37 rfl (iZ_add _ _) (by decide) rfl ?_
            refine v_goto 40 23 C dX3_settleFrom_40 (by decide) ?_
            refine v_sub [0, 1, 2, 3, 4] rfl ?_
            exact ih2 (s_ + 1) S3 t3 (by omega) h3
        refine v_iload_n 2 0 C dX3_settleFrom_2 rfl ?_
        refine v_aload_n 3 2 C dX3_settleFrom_3 rfl ?_
        refine g_Pg_made 4 C (vg.o hg).1 (vg.o hg).2 lk_216 dX3_settleFrom_4 ?_
        refine v_eqi (iZ (b 0 0)) (hSF.1.1.2.2) ?_
        refine z_icmp_ge 7 49 C (by first | assumption | exact ⟨by omega, by omega⟩) (by first | assumption | exact ⟨by omega, by omega⟩) dX3_settleFrom_7 (by decide) (fun c7_0 => absurd c7_0 (by omega)) (fun c7_0 => ?_)
        refine v_aload_n 10 2 C dX3_settleFrom_10 rfl ?_
        refine v_iload_n 11 0 C dX3_settleFrom_11 rfl ?_
        refine v_callq 12 hA (rV_Pg 12 C L_RX3_90 lk_244 lk_3 (m_partThere hg hN hI hSF.1 hi2 ht) (vg.o hg) rfl ⟨rfl, rfl⟩ (rm_ok rfl) dX3_settleFrom_12) (fun r4 w5 h6 => ?_)
        obtain ⟨e_r4, rfl⟩ := h6
        refine v_eqv (.ref (ad (66 + 15 * i))) (by rw [e_r4]; rfl) ?_
        refine v_astore_n 15 [(3, .ref (ad (66 + 15 * i))), (2, .int (iZ (i : Int))), (1, .int (iZ (k : Int))), (0, .ref (ad 0))] C dX3_settleFrom_15 (by decide) rfl ?_
        refine v_aload_n 16 0 C dX3_settleFrom_16 rfl ?_
        refine v_ifnull 17 C dX3_settleFrom_17 ?_
        refine v_iconst 20 C (iZ 0) dX3_settleFrom_20 rfl ?_
        refine v_istore 21 [(4, .int (iZ 0)), (3, .ref (ad (66 + 15 * i))), (2, .int (iZ (i : Int))), (1, .int (iZ (k : Int))), (0, .ref (ad 0))] C dX3_settleFrom_21 (by decide) rfl ?_
        refine v_sub [0, 1, 2, 3, 4] rfl ?_
        exact inner 17 0 S1 t1 (by omega) ⟨hSF, fun s_ q => absurd q (by omega)⟩
      · skip
        refine v_iload_n 2 0 C dX3_settleFrom_2 rfl ?_
        refine v_aload_n 3 2 C dX3_settleFrom_3 rfl ?_
        refine g_Pg_made 4 C (vg.o hg).1 (vg.o hg).2 lk_216 dX3_settleFrom_4 ?_
        refine v_eqi (iZ (b 0 0)) (hSF.1.1.2.2) ?_
        refine z_icmp_ge 7 49 C (by first | assumption | exact ⟨by omega, by omega⟩) (by first | assumption | exact ⟨by omega, by omega⟩) dX3_settleFrom_7 (by decide) (fun c7_0 => absurd c7_0 (by omega)) (fun c7_0 => ?_)
        refine v_aload_n 10 2 C dX3_settleFrom_10 rfl ?_
        refine v_iload_n 11 0 C dX3_settleFrom_11 rfl ?_
        refine v_callq 12 hA (rV_Pg 12 C L_RX3_90 lk_244 lk_3 (m_partThere_no (z := (i : Int)) hg hN hI hSF.1 ⟨by omega, by omega⟩ (fun q => ht q.2.2)) (vg.o hg) rfl ⟨rfl, rfl⟩ (rm_ok rfl) dX3_settleFrom_12) (fun r7 w8 h9 => ?_)
        obtain ⟨e_r7, rfl⟩ := h9
        refine v_eqv .null (by rw [e_r7]; rfl) ?_
        refine v_astore_nN 15 [(3, .null), (2, .int (iZ (i : Int))), (1, .int (iZ (k : Int))), (0, .ref (ad 0))] C dX3_settleFrom_15 (by decide) rfl ?_
        refine v_aload_nN 16 0 C dX3_settleFrom_16 rfl ?_
        refine v_ifnullN 17 43 C dX3_settleFrom_17 (by decide) ?_
        refine v_iinc 43 1 (iZ ((i + 1 : Nat) : Int)) [(2, .int (iZ ((i + 1 : Nat) : Int))), (3, .null), (1, .int (iZ (k : Int))), (0, .ref (ad 0))] C dX3_settleFrom_43 rfl (iZ_add _ _) (by decide) rfl ?_
        refine v_goto 46 2 C dX3_settleFrom_46 (by decide) ?_
        refine v_sub [0, 2, 3] rfl ?_
        exact ih (i + 1) S1 t1 (by omega) (SF_skip ht hSF)
  refine v_iload_n 0 1 C dX3_settleFrom_0 rfl ?_
  refine v_istore_n 1 [(2, .int (iZ (k : Int))), (0, .ref (ad 0)), (1, .int (iZ (k : Int)))] C dX3_settleFrom_1 (by decide) rfl ?_
  refine v_sub [0, 2, 1] rfl ?_
  exact loop (bn b - k) k S t (by omega) hSF0
