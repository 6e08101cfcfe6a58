/-! MODEL: show -/
def OPk (S : St) (b : Bs) (t : Ts) (s K : Nat) : Prop := gI S 45 11 = iZ (s : Int) ∧ ∀ k, k < K → k < bn b → gA S 56 k = iZ (if b 8 k = 1 then t 4 k s else 1) ∧ (b 8 k = 1 → t 4 k s = 0 → gJ S 54 k = lZ (t 2 k s) ∧ gJ S 55 k = lZ (t 3 k s))
def ShF (S S' : St) : Prop := sameOn (fun i => i ≠ 45 ∧ i ≠ 57) S S' ∧ ∀ f, gI S' 45 f = gI S 45 f
theorem ShF.rf {S : St} : ShF S S := ⟨sameOn.rf, fun _ => rfl⟩
theorem ShF.tr {S T U : St} (h1 : ShF S T) (h2 : ShF T U) : ShF S U := ⟨h1.1.tr h2.1, fun f => (h2.2 f).trans (h1.2 f)⟩
theorem ShF.pA {S : St} {k : Nat} {v : Int32} : ShF S (pA S 57 k v) := ⟨same_pA (fun q => q.2 rfl), fun _ => rfl⟩
theorem ShF.pL {S : St} {k : Nat} {v : Int64} : ShF S (pL S 45 k v) := ⟨fun j hj f => ⟨rfl, rfl, by rw [gL_pL, if_neg (fun (q : j = 45 ∧ f = k) => hj.1 q.1)], rfl, rfl⟩, fun _ => rfl⟩
theorem ShF.RM {S S' : St} {b : Bs} (h : ShF S S') (hM : RM S b) : RM S' b := by
  obtain ⟨⟨a1, a2, a3⟩, c, d, e, f⟩ := hM
  have A : ∀ i k, i ≠ 45 → i ≠ 57 → gA S' i k = gA S i k := fun i k x y => (h.1 i ⟨x, y⟩ k).2.1
  refine ⟨⟨(h.2 0).trans a1, (h.2 1).trans a2, (h.2 2).trans a3⟩, fun k hk => ?_, fun i hi => ?_, fun r hr => ?_, fun i hi => ?_⟩
  · rw [A 46 k (by decide) (by decide), A 50 k (by decide) (by decide), A 51 k (by decide) (by decide)]; exact c k hk
  · rw [A 47 i (by decide) (by decide), A 48 i (by decide) (by decide), A 49 i (by decide) (by decide)]; exact d i hi
  · rw [A 52 r (by decide) (by decide)]; exact e r hr
  · rw [A 53 i (by decide) (by decide)]; exact f i hi
theorem ShF.OP {S S' : St} {b : Bs} {t : Ts} {s K : Nat} (h : ShF S S') (hO : OPk S b t s K) : OPk S' b t s K := by
  refine ⟨(h.2 11).trans hO.1, fun k h1 h2 => ?_⟩
  rw [(h.1 56 (by decide) k).2.1, (h.1 54 (by decide) k).2.2.2.1, (h.1 55 (by decide) k).2.2.2.1]
  exact hO.2 k h1 h2
theorem ShF.C {S S' : St} (h : ShF S S') : sameOn atC S S' := fun i hi k => h.1 i ⟨by unfold atC at hi; omega, by unfold atC at hi; omega⟩ k
def ch (b : Bs) (u : Nat) : Nat → Nat
  | 0 => u
  | i + 1 => (b 4 (ch b u i - 2)).toNat
/-- a plane that stands -/
def gd (b : Bs) (t : Ts) (s K c : Nat) : Prop := thL b c ∧ PS t s c = 0 ∧ c < 2 * K + 2
theorem ch_step {b : Bs} {t : Ts} {s K c : Nat} (hI : Inv b) (hL : LEk b t K) (hs : s < 17) (h : gd b t s K c) (h2 : 2 ≤ c) : gd b t s K (b 4 (c - 2)).toNat ∧ (b 4 (c - 2)).toNat / 2 < c / 2 ∧ (0 ≤ b 4 (c - 2) ∧ 0 ≤ b 5 (c - 2) ∧ b 5 (c - 2) ≤ 1000) ∧ t 0 (c - 2) s = PLx b t s (b 4 (c - 2)).toNat (b 5 (c - 2)) ∧ t 1 (c - 2) s = PLy b t s (b 4 (c - 2)).toNat (b 5 (c - 2)) := by
  obtain ⟨h1, h0, hK⟩ := h
  have T := thL_lt h1 h2
  have z : t 4 (c / 2 - 1) s = 0 := by unfold PS at h0; rw [if_neg (by omega)] at h0; exact h0
  have L := hL (c / 2 - 1) (by omega) T.1 T.2 s hs
  have J := hI.2.2.2.2 (c / 2 - 1) T.1 (c - 2) (by omega)
  have hps : PS t s (b 4 (2 * (c / 2 - 1))).toNat = 0 ∧ PS t s (b 4 (2 * (c / 2 - 1) + 1)).toNat = 0 := by
    by_cases q : PS t s (b 4 (2 * (c / 2 - 1))).toNat = 0 ∧ PS t s (b 4 (2 * (c / 2 - 1) + 1)).toNat = 0
    · exact q
    · have := L.2.1 q; omega
  have E := (L.2.2 hps.1 hps.2).1
  rcases (show c - 2 = 2 * (c / 2 - 1) ∨ c - 2 = 2 * (c / 2 - 1) + 1 by omega) with e | e
  · rw [e] at J ⊢
    exact ⟨⟨J.2.2.2 T.2, hps.1, by omega⟩, by omega, ⟨by omega, by omega, by omega⟩, E.1, E.2.1⟩
  · rw [e] at J ⊢
    exact ⟨⟨J.2.2.2 T.2, hps.2, by omega⟩, by omega, ⟨by omega, by omega, by omega⟩, E.2.2.1, E.2.2.2⟩
/-- the place before the plane number m - 1 of the trail is gone along -/
def PX (b : Bs) (t : Ts) (s u : Nat) (n : Int) (m : Nat) : Int := match m with
  | 0 => PLx b t s u n
  | m + 1 => t 0 (ch b u m - 2) s
def PY (b : Bs) (t : Ts) (s u : Nat) (n : Int) (m : Nat) : Int := match m with
  | 0 => PLy b t s u n
  | m + 1 => t 1 (ch b u m - 2) s
theorem gd_bd {b : Bs} {t : Ts} {s K c : Nat} (hI : Inv b) (hL : LEk b t K) (hs : s < 17) (h : gd b t s K c) (h2 : 2 ≤ c) : c / 2 - 1 < bn b ∧ c / 2 - 1 < K ∧ b 8 (c / 2 - 1) = 1 ∧ t 4 (c / 2 - 1) s = 0 ∧ (1 ≤ b 6 (c - 2) ∧ b 6 (c - 2) ≤ 1000) ∧ (-(b 6 (c - 2)) ≤ t 2 (c / 2 - 1) s - t 0 (c - 2) s ∧ t 2 (c / 2 - 1) s - t 0 (c - 2) s ≤ b 6 (c - 2)) ∧ (-(b 6 (c - 2)) ≤ t 3 (c / 2 - 1) s - t 1 (c - 2) s ∧ t 3 (c / 2 - 1) s - t 1 (c - 2) s ≤ b 6 (c - 2)) := by
  obtain ⟨h1, h0, hK⟩ := h
  have T := thL_lt h1 h2
  have z : t 4 (c / 2 - 1) s = 0 := by unfold PS at h0; rw [if_neg (by omega)] at h0; exact h0
  have J := hI.2.2.2.2 (c / 2 - 1) T.1 (c - 2) (by omega)
  have B := LE_bd hI hL (c / 2 - 1 + 1) (c / 2 - 1) (by omega) (by omega) T.1 T.2 s hs z (c - 2) (by omega)
  exact ⟨T.1, by omega, T.2, z, J.2.2.1, B.2.2.1, B.2.2.2⟩
theorem PL_go {b : Bs} {t : Ts} {s c : Nat} {n : Int} (h2 : 2 ≤ c) : t 0 (c - 2) s + rnd ((t 2 (c / 2 - 1) s - t 0 (c - 2) s) * n) (b 6 (c - 2)) = PLx b t s c n ∧ t 1 (c - 2) s + rnd ((t 3 (c / 2 - 1) s - t 1 (c - 2) s) * n) (b 6 (c - 2)) = PLy b t s c n := by
  unfold PLx PLy
  rw [if_neg (by omega), if_neg (by omega), if_neg (by omega), if_neg (by omega)]
  exact ⟨rfl, rfl⟩
theorem tr_step {S1 : St} {b : Bs} {t : Ts} {u j K i : Nat} (hT : ∀ i2, i2 < i → gA S1 57 i2 = iZ (ch b u i2 : Int) ∧ 2 ≤ ch b u i2 ∧ gd b t j K (ch b u i2)) (h2 : 2 ≤ ch b u i) (hg : gd b t j K (ch b u i)) : ∀ i2, i2 < i + 1 → gA (pA S1 57 i (iZ (ch b u i : Int))) 57 i2 = iZ (ch b u i2 : Int) ∧ 2 ≤ ch b u i2 ∧ gd b t j K (ch b u i2) := by
  intro i2 h
  rw [gA_pA]
  by_cases e : i2 = i
  · rw [if_pos ⟨rfl, e⟩, e]; exact ⟨rfl, h2, hg⟩
  · rw [if_neg (fun q => e q.2)]; exact hT i2 (by omega)
set_option maxHeartbeats 4000000 in
set_option maxRecDepth 100000 in
theorem m4_show {l : Launch} {D : va_G} {kc : Nat → ClassId} {N : Nat} {ad : Nat → Nat} {S : St} {b : Bs} (hm : vm N) (hI : Inv b) (hM : RM S b) {t : Ts} {j K u : Nat} {n : Int} (hj : j < 17) (hL : LEk b t K) (hO : OPk S b t j K) (hu : thL b u) (huK : u < 2 * K + 2) (h0 : PS t j u = 0) (hn : 0 ≤ n ∧ n ≤ 1000) : MetK l yX4_show cX4_show 12 (none) 3 0 0 72 D kc (wl kc N ad S) [.ref (ad 45), .int (iZ (u : Int)), .int (iZ n)] (QV D kc (wl kc N ad S) (fun ws' => ∃ S', ws' = wl kc N ad S' ∧ ShF S S' ∧ gL S' 45 15 = lZ (PLx b t j u n) ∧ gL S' 45 16 = lZ (PLy b t j u n))) := by
  refine MetK.of (by decide +kernel) (Nat.le_of_ble_eq_true rfl) ?_
  intro p e s m below meth c C
  have hA : ∀ q, s.heap.size ≤ q → va_A (wl kc N ad S) s.heap.size q := fun _ h => Or.inr h
  show V p l e { frames := 3, cells := 0, slots := 0, locals := 72 } s m ([.ref (ad 45), .int (iZ (u : Int)), .int (iZ n)] : List Value).toArray below meth c (MQ below (QV D kc (wl kc N ad S) (fun ws' => ∃ S', ws' = wl kc N ad S' ∧ ShF S S' ∧ gL S' 45 15 = lZ (PLx b t j u n) ∧ gL S' 45 16 = lZ (PLy b t j u n)) s.heap.size) ([.ref (ad 45), .int (iZ (u : Int)), .int (iZ n)] : List Value).toArray s 0 0 (va_A (wl kc N ad S) s.heap.size)) D (va_A (wl kc N ad S) s.heap.size) 12 0 0 (wl kc N ad S) 0 [(0, .ref (ad 45)), (1, .int (iZ (u : Int))), (2, .int (iZ n))] []
  have loop2 : ∀ (m_ : Nat) (e_ : Int) (S2 : St), e_ = (m_ : Int) - 1 → m_ ≤ 31 → ShF S S2 → (∀ i, i < m_ → gA S2 57 i = iZ (ch b u i : Int) ∧ 2 ≤ ch b u i ∧ gd b t j K (ch b u i)) → gL S2 45 15 = lZ (PX b t j u n m_) → gL S2 45 16 = lZ (PY b t j u n m_) → V p l e { frames := 3, cells := 0, slots := 0, locals := 72 } s m ([.ref (ad 45), .int (iZ (u : Int)), .int (iZ n)] : List Value).toArray below meth c (MQ below (QV D kc (wl kc N ad S) (fun ws' => ∃ S', ws' = wl kc N ad S' ∧ ShF S S' ∧ gL S' 45 15 = lZ (PLx b t j u n) ∧ gL S' 45 16 = lZ (PLy b t j u n)) s.heap.size) ([.ref (ad 45), .int (iZ (u : Int)), .int (iZ n)] : List Value).toArray s 0 0 (va_A (wl kc N ad S) s.heap.size)) D (va_A (wl kc N ad S) s.heap.size) 12 0 0 (wl kc N ad S2) 122 [(6, .int (iZ e_)), (2, .int (iZ n)), (0, .ref (ad 45))] [] := by
    intro m_
    induction m_ with
    | zero =>
      intro e_ S2 he hm31 hF hT gX gY
      refine v_iload 122 0 C dX4_show_122 rfl ?_
      refine z_if_lt 124 250 C (by first | assumption | exact ⟨by omega, by omega⟩) dX4_show_124 (by decide) (fun c124_0 => ?_) (fun c124_0 => absurd (by omega) c124_0)
      exact v_vret 250 C (⟨S2, rfl, hF, gX, gY⟩) dX4_show_250
    | succ m_ ih =>
      intro e_ S2 he hm31 hF hT gX gY
      obtain rfl : e_ = (m_ : Int) := by omega
      obtain ⟨T0, h2c, hgd⟩ := hT m_ (by omega)
      generalize hcc : ch b u m_ = cc_ at T0 h2c hgd
      have M2 := hF.RM hM
      have O2 := hF.OP hO
      obtain ⟨q1, q2, q3, q4, q5, q6, q7⟩ := gd_bd hI hL hj hgd h2c
      have at2 := (O2.2 (cc_ / 2 - 1) q2 q1).2 q3 q4
      have h62 := thL_62 hI hgd.1
      have gX0 : gL S2 45 15 = lZ (t 0 (cc_ - 2) j) := by rw [gX, ← hcc]; rfl
      have gY0 : gL S2 45 16 = lZ (t 1 (cc_ - 2) j) := by rw [gY, ← hcc]; rfl
      have main : ∀ al : Int, 0 ≤ al ∧ al ≤ 1000 → PLx b t j cc_ al = PX b t j u n m_ → PLy b t j cc_ al = PY b t j u n m_ → V p l e { frames := 3, cells := 0, slots := 0, locals := 72 } s m ([.ref (ad 45), .int (iZ (u : Int)), .int (iZ n)] : List Value).toArray below meth c (MQ below (QV D kc (wl kc N ad S) (fun ws' => ∃ S', ws' = wl kc N ad S' ∧ ShF S S' ∧ gL S' 45 15 = lZ (PLx b t j u n) ∧ gL S' 45 16 = lZ (PLy b t j u n)) s.heap.size) ([.ref (ad 45), .int (iZ (u : Int)), .int (iZ n)] : List Value).toArray s 0 0 (va_A (wl kc N ad S) s.heap.size)) D (va_A (wl kc N ad S) s.heap.size) 12 0 0 (wl kc N ad S2) 184 [(8, .long (lZ (b 6 (cc_ - 2)))), (7, .int (iZ ((cc_ : Int) / 2 - 1))), (6, .int (iZ (m_ : Int))), (2, .int (iZ n)), (0, .ref (ad 45))] [.long (lZ al)] := by
        intro al hal eX eY
        have p1 := mulB (A := 1000) (B := 1000) (x := t 2 (cc_ / 2 - 1) j - t 0 (cc_ - 2) j) (y := al) (by omega) (by omega)
        have p2 := mulB (A := 1000) (B := 1000) (x := t 3 (cc_ / 2 - 1) j - t 1 (cc_ - 2) j) (y := al) (by omega) (by omega)
        have pg := PL_go (b := b) (t := t) (s := j) (n := al) h2c
        refine v_lstore 184 [(10, .long (lZ al)), (8, .long (lZ (b 6 (cc_ - 2)))), (7, .int (iZ ((cc_ : Int) / 2 - 1))), (6, .int (iZ (m_ : Int))), (2, .int (iZ n)), (0, .ref (ad 45))] C dX4_show_184 (by decide) rfl ?_
        refine v_aload_n 186 5 C dX4_show_186 rfl ?_
        refine v_dup 187 C dX4_show_187 rfl ?_
        refine g_Mo_placeX 188 C (vm.o hm).1 (vm.o hm).2 lk_514 dX4_show_188 ?_
        refine v_eql (lZ (t 0 (cc_ - 2) j)) (gX0) ?_
        refine v_aload_n 191 5 C dX4_show_191 rfl ?_
        refine g_Mo_atX 192 C (vm.o hm).1 (vm.o hm).2 lk_511 dX4_show_192 ?_
        refine v_iload 195 2 C dX4_show_195 rfl ?_
        refine v_lald 197 C (vm.a hm 54 (by decide) rfl).1 (vm.a hm 54 (by decide) rfl).2 (cc_ / 2 - 1) (izn (by omega)) (lnx (show ln 54 = 30 from rfl) (by omega)) dX4_show_197 ?_
        refine v_eql (lZ (t 2 (cc_ / 2 - 1) j)) (at2.1) ?_
        refine v_aload_n 198 5 C dX4_show_198 rfl ?_
        refine g_Mo_placeX 199 C (vm.o hm).1 (vm.o hm).2 lk_514 dX4_show_199 ?_
        refine v_eql (lZ (t 0 (cc_ - 2) j)) (gX0) ?_
        refine z_lsub 202 C dX4_show_202 ?_
        refine v_lload 203 0 C dX4_show_203 rfl ?_
        refine z_lmul 205 C dX4_show_205 ?_
        refine v_lload 206 1 C dX4_show_206 rfl ?_
        refine v_calll 208 hA (rS 208 C L_RX4_123 lk_637 (m4_rounded ⟨by omega, by omega⟩ ⟨by omega, by omega⟩) rfl rfl (rm_ok rfl) dX4_show_208) (fun r1 w2 h3 => ?_)
        obtain ⟨e_r1, rfl⟩ := h3
        refine v_eql (lZ (rnd ((t 2 (cc_ / 2 - 1) j - t 0 (cc_ - 2) j) * al) (b 6 (cc_ - 2)))) (e_r1) ?_
        refine z_ladd 211 C dX4_show_211 ?_
        refine v_eql (lZ (PX b t j u n m_)) (by rw [pg.1, eX]) ?_
        refine s_Mo_placeX 212 C (vm.o hm).1 (vm.o hm).2 lk_514 dX4_show_212 ?_
        refine v_aload_n 215 5 C dX4_show_215 rfl ?_
        refine v_dup 216 C dX4_show_216 rfl ?_
        refine g_Mo_placeY 217 C (vm.o hm).1 (vm.o hm).2 lk_515 dX4_show_217 ?_
        refine v_eql (lZ (t 1 (cc_ - 2) j)) (by rw [gL_pL, if_neg (by decide)]; exact gY0) ?_
        refine v_aload_n 220 5 C dX4_show_220 rfl ?_
        refine g_Mo_atY 221 C (vm.o hm).1 (vm.o hm).2 lk_512 dX4_show_221 ?_
        refine v_iload 224 2 C dX4_show_224 rfl ?_
        refine v_lald 226 C (vm.a hm 55 (by decide) rfl).1 (vm.a hm 55 (by decide) rfl).2 (cc_ / 2 - 1) (izn (by omega)) (lnx (show ln 55 = 30 from rfl) (by omega)) dX4_show_226 ?_
        refine v_eql (lZ (t 3 (cc_ / 2 - 1) j)) (at2.2) ?_
        refine v_aload_n 227 5 C dX4_show_227 rfl ?_
        refine g_Mo_placeY 228 C (vm.o hm).1 (vm.o hm).2 lk_515 dX4_show_228 ?_
        refine v_eql (lZ (t 1 (cc_ - 2) j)) (by rw [gL_pL, if_neg (by decide)]; exact gY0) ?_
        refine z_lsub 231 C dX4_show_231 ?_
        refine v_lload 232 0 C dX4_show_232 rfl ?_
        refine z_lmul 234 C dX4_show_234 ?_
        refine v_lload 235 1 C dX4_show_235 rfl ?_
        refine v_calll 237 hA (rS 237 C L_RX4_123 lk_637 (m4_rounded ⟨by omega, by omega⟩ ⟨by omega, by omega⟩) rfl rfl (rm_ok rfl) dX4_show_237) (fun r4 w5 h6 => ?_)
        obtain ⟨e_r4, rfl⟩ := h6
        refine v_eql (lZ (rnd ((t 3 (cc_ / 2 - 1) j - t 1 (cc_ - 2) j) * al) (b 6 (cc_ - 2)))) (e_r4) ?_
        refine z_ladd 240 C dX4_show_240 ?_
        refine v_eql (lZ (PY b t j u n m_)) (by rw [pg.2, eY]) ?_
        refine s_Mo_placeY 241 C (vm.o hm).1 (vm.o hm).2 lk_515 dX4_show_241 ?_
        refine v_iinc 244 3 (iZ ((m_ : Int) + (-1))) [(6, .int (iZ ((m_ : Int) + (-1)))), (10, .long (lZ al)), (8, .long (lZ (b 6 (cc_ - 2)))), (7, .int (iZ ((cc_ : Int) / 2 - 1))), (2, .int (iZ n)), (0, .ref (ad 45))] C dX4_show_244 rfl (iZ_add _ _) (by decide) rfl ?_
        refine v_goto 247 122 C dX4_show_247 (by decide) ?_
        refine v_sub [0, 4, 5] rfl ?_
        exact ih _ _ (by omega) (by omega) (hF.tr (ShF.pL.tr ShF.pL)) (fun i hi => hT i (by omega)) (by rw [gL_pL, if_neg (by decide), gL_pL, if_pos ⟨rfl, rfl⟩]) (by rw [gL_pL, if_pos ⟨rfl, rfl⟩])
      cases m_ with
      | zero =>
        have hcu : cc_ = u := hcc.symm
        refine v_iload 122 0 C dX4_show_122 rfl ?_
        refine z_if_lt 124 250 C (by first | assumption | exact ⟨by omega, by omega⟩) dX4_show_124 (by decide) (fun c124_0 => absurd c124_0 (by omega)) (fun c124_0 => ?_)
        refine v_aload_n 127 2 C dX4_show_127 rfl ?_
        refine g_Mo_trail 128 C (vm.o hm).1 (vm.o hm).2 lk_516 dX4_show_128 ?_
        refine v_iload 131 0 C dX4_show_131 rfl ?_
        refine v_iald 133 C (vm.a hm 57 (by decide) rfl).1 (vm.a hm 57 (by decide) rfl).2 0 (izn (by omega)) (lnx (show ln 57 = 32 from rfl) (by omega)) dX4_show_133 ?_
        refine v_eqi (iZ (cc_ : Int)) (T0) ?_
        refine v_iconst 134 C (iZ 2) dX4_show_134 rfl ?_
        refine z_idiv2 135 C (by first | assumption | exact ⟨by omega, by omega⟩) dX4_show_135 ?_
        refine v_eqi (iZ ((cc_ : Int) / 2)) (congrArg iZ (Int.tdiv_eq_ediv_of_nonneg (by omega))) ?_
        refine v_iconst 136 C (iZ 1) dX4_show_136 rfl ?_
        refine z_isub 137 C dX4_show_137 ?_
        refine v_istore 138 [(7, .int (iZ (((cc_ : Int) / 2) - 1))), (6, .int (iZ ((0 : Nat) : Int))), (2, .int (iZ n)), (0, .ref (ad 45))] C dX4_show_138 (by decide) rfl ?_
        refine v_aload_n 140 3 C dX4_show_140 rfl ?_
        refine g_Mo_flat 141 C (vm.o hm).1 (vm.o hm).2 lk_505 dX4_show_141 ?_
        refine v_aload_n 144 3 C dX4_show_144 rfl ?_
        refine g_Mo_trail 145 C (vm.o hm).1 (vm.o hm).2 lk_516 dX4_show_145 ?_
        refine v_iload 148 1 C dX4_show_148 rfl ?_
        refine v_iald 150 C (vm.a hm 57 (by decide) rfl).1 (vm.a hm 57 (by decide) rfl).2 0 (izn (by omega)) (lnx (show ln 57 = 32 from rfl) (by omega)) dX4_show_150 ?_
        refine v_eqi (iZ (cc_ : Int)) (T0) ?_
        refine v_iconst 151 C (iZ 2) dX4_show_151 rfl ?_
        refine z_isub 152 C dX4_show_152 ?_
        refine v_iald 153 C (vm.a hm 49 (by decide) rfl).1 (vm.a hm 49 (by decide) rfl).2 (cc_ - 2) (izn (by omega)) (lnx (show ln 49 = 60 from rfl) (by omega)) dX4_show_153 ?_
        refine v_eqi (iZ (b 6 (cc_ - 2))) ((M2.2.2.1 (cc_ - 2) (by omega)).2.2) ?_
        refine z_i2l 154 C (by first | assumption | exact ⟨by omega, by omega⟩) dX4_show_154 ?_
        refine v_lstore 155 [(8, .long (lZ (b 6 (cc_ - 2)))), (7, .int (iZ (((cc_ : Int) / 2) - 1))), (6, .int (iZ ((0 : Nat) : Int))), (2, .int (iZ n)), (0, .ref (ad 45))] C dX4_show_155 (by decide) rfl ?_
        refine v_iload 157 2 C dX4_show_157 rfl ?_
        refine z_if_ne 159 167 C (by first | assumption | exact ⟨by omega, by omega⟩) dX4_show_159 (by decide) (fun c159_1 => absurd c159_1 (fun q => q rfl)) (fun c159_1 => ?_)
        refine v_iload_n 162 3 C dX4_show_162 rfl ?_
        refine z_i2l 163 C (by first | assumption | exact ⟨by omega, by omega⟩) dX4_show_163 ?_
        refine v_goto 164 184 C dX4_show_164 (by decide) ?_
        refine v_sub [0, 1, 2, 3, 4] rfl ?_
        exact main n hn (by rw [hcu]; rfl) (by rw [hcu]; rfl)
      | succ m2 =>
        obtain ⟨T1, h2d, hgd2⟩ := hT m2 (by omega)
        have st2 := ch_step hI hL hj hgd2 h2d
        obtain ⟨v1, v2, v3, v4, v5, v6, v7⟩ := gd_bd hI hL hj hgd2 h2d
        have hc1 : cc_ = (b 4 (ch b u m2 - 2)).toNat := hcc.symm
        have h62b := thL_62 hI hgd2.1
        refine v_iload 122 0 C dX4_show_122 rfl ?_
        refine z_if_lt 124 250 C (by first | assumption | exact ⟨by omega, by omega⟩) dX4_show_124 (by decide) (fun c124_0 => absurd c124_0 (by omega)) (fun c124_0 => ?_)
        refine v_aload_n 127 2 C dX4_show_127 rfl ?_
        refine g_Mo_trail 128 C (vm.o hm).1 (vm.o hm).2 lk_516 dX4_show_128 ?_
        refine v_iload 131 0 C dX4_show_131 rfl ?_
        refine v_iald 133 C (vm.a hm 57 (by decide) rfl).1 (vm.a hm 57 (by decide) rfl).2 (m2 + 1) (izn (by omega)) (lnx (show ln 57 = 32 from rfl) (by omega)) dX4_show_133 ?_
        refine v_eqi (iZ (cc_ : Int)) (T0) ?_
        refine v_iconst 134 C (iZ 2) dX4_show_134 rfl ?_
        refine z_idiv2 135 C (by first | assumption | exact ⟨by omega, by omega⟩) dX4_show_135 ?_
        refine v_eqi (iZ ((cc_ : Int) / 2)) (congrArg iZ (Int.tdiv_eq_ediv_of_nonneg (by omega))) ?_
        refine v_iconst 136 C (iZ 1) dX4_show_136 rfl ?_
        refine z_isub 137 C dX4_show_137 ?_
        refine v_istore 138 [(7, .int (iZ (((cc_ : Int) / 2) - 1))), (6, .int (iZ ((m2 + 1 : Nat) : Int))), (2, .int (iZ n)), (0, .ref (ad 45))] C dX4_show_138 (by decide) rfl ?_
        refine v_aload_n 140 3 C dX4_show_140 rfl ?_
        refine g_Mo_flat 141 C (vm.o hm).1 (vm.o hm).2 lk_505 dX4_show_141 ?_
        refine v_aload_n 144 3 C dX4_show_144 rfl ?_
        refine g_Mo_trail 145 C (vm.o hm).1 (vm.o hm).2 lk_516 dX4_show_145 ?_
        refine v_iload 148 1 C dX4_show_148 rfl ?_
        refine v_iald 150 C (vm.a hm 57 (by decide) rfl).1 (vm.a hm 57 (by decide) rfl).2 (m2 + 1) (izn (by omega)) (lnx (show ln 57 = 32 from rfl) (by omega)) dX4_show_150 ?_
        refine v_eqi (iZ (cc_ : Int)) (T0) ?_
        refine v_iconst 151 C (iZ 2) dX4_show_151 rfl ?_
        refine z_isub 152 C dX4_show_152 ?_
        refine v_iald 153 C (vm.a hm 49 (by decide) rfl).1 (vm.a hm 49 (by decide) rfl).2 (cc_ - 2) (izn (by omega)) (lnx (show ln 49 = 60 from rfl) (by omega)) dX4_show_153 ?_
        refine v_eqi (iZ (b 6 (cc_ - 2))) ((M2.2.2.1 (cc_ - 2) (by omega)).2.2) ?_
        refine z_i2l 154 C (by first | assumption | exact ⟨by omega, by omega⟩) dX4_show_154 ?_
        refine v_lstore 155 [(8, .long (lZ (b 6 (cc_ - 2)))), (7, .int (iZ (((cc_ : Int) / 2) - 1))), (6, .int (iZ ((m2 + 1 : Nat) : Int))), (2, .int (iZ n)), (0, .ref (ad 45))] C dX4_show_155 (by decide) rfl ?_
        refine v_iload 157 2 C dX4_show_157 rfl ?_
        refine z_if_ne 159 167 C (by first | assumption | exact ⟨by omega, by omega⟩) dX4_show_159 (by decide) (fun c159_1 => ?_) (fun c159_1 => absurd c159_1 (by omega))
        refine v_aload_n 167 4 C dX4_show_167 rfl ?_
        refine g_Mo_far 168 C (vm.o hm).1 (vm.o hm).2 lk_504 dX4_show_168 ?_
        refine v_aload_n 171 4 C dX4_show_171 rfl ?_
        refine g_Mo_trail 172 C (vm.o hm).1 (vm.o hm).2 lk_516 dX4_show_172 ?_
        refine v_iload 175 2 C dX4_show_175 rfl ?_
        refine v_iconst 177 C (iZ 1) dX4_show_177 rfl ?_
        refine z_isub 178 C dX4_show_178 ?_
        refine v_iald 179 C (vm.a hm 57 (by decide) rfl).1 (vm.a hm 57 (by decide) rfl).2 m2 (izn (by omega)) (lnx (show ln 57 = 32 from rfl) (by omega)) dX4_show_179 ?_
        refine v_eqi (iZ (ch b u m2 : Int)) ((hT m2 (by omega)).1) ?_
        refine v_iconst 180 C (iZ 2) dX4_show_180 rfl ?_
        refine z_isub 181 C dX4_show_181 ?_
        refine v_iald 182 C (vm.a hm 48 (by decide) rfl).1 (vm.a hm 48 (by decide) rfl).2 (ch b u m2 - 2) (izn (by omega)) (lnx (show ln 48 = 60 from rfl) (by omega)) dX4_show_182 ?_
        refine v_eqi (iZ (b 5 (ch b u m2 - 2))) ((M2.2.2.1 (ch b u m2 - 2) (by omega)).2.1) ?_
        refine z_i2l 183 C (by first | assumption | exact ⟨by omega, by omega⟩) dX4_show_183 ?_
        refine v_sub [0, 1, 2, 3, 4] rfl ?_
        exact main (b 5 (ch b u m2 - 2)) ⟨by omega, by omega⟩ (by rw [hc1]; exact st2.2.2.2.1.symm) (by rw [hc1]; exact st2.2.2.2.2.symm)
  have ext : ∀ (i : Nat) (S1 : St) (ds : Int), i ≤ 31 → ShF S S1 → (∀ i2, i2 < i → gA S1 57 i2 = iZ (ch b u i2 : Int) ∧ 2 ≤ ch b u i2 ∧ gd b t j K (ch b u i2)) → ch b u i < 2 → 0 ≤ ds ∧ ds ≤ 1000 → PLx b t j (ch b u i) ds = PX b t j u n i → PLy b t j (ch b u i) ds = PY b t j u n i → V p l e { frames := 3, cells := 0, slots := 0, locals := 72 } s m ([.ref (ad 45), .int (iZ (u : Int)), .int (iZ n)] : List Value).toArray below meth c (MQ below (QV D kc (wl kc N ad S) (fun ws' => ∃ S', ws' = wl kc N ad S' ∧ ShF S S' ∧ gL S' 45 15 = lZ (PLx b t j u n) ∧ gL S' 45 16 = lZ (PLy b t j u n)) s.heap.size) ([.ref (ad 45), .int (iZ (u : Int)), .int (iZ n)] : List Value).toArray s 0 0 (va_A (wl kc N ad S) s.heap.size)) D (va_A (wl kc N ad S) s.heap.size) 12 0 0 (wl kc N ad S1) 61 [(5, .int (iZ ds)), (4, .int (iZ (ch b u i : Int))), (3, .int (iZ (i : Int))), (2, .int (iZ n)), (0, .ref (ad 45))] [] := by
    intro i S1 ds hi31 hF hT hc2 hds eX eY
    have M1 := hF.RM hM
    have s1 := (hF.OP hO).1
    have w0 := w_b j hj
    have p1 := mulB (A := 10000) (B := 1000) (x := wx j) (y := ds) (by omega) (by omega)
    have p2 := mulB (A := 10000) (B := 1000) (x := wy j) (y := ds) (by omega) (by omega)
    rcases (show ch b u i = 0 ∨ ch b u i = 1 by omega) with hc | hc
    · skip
      refine v_aload_n 61 4 C dX4_show_61 rfl ?_
      refine v_iload 62 1 C dX4_show_62 rfl ?_
      refine z_if_ne 64 73 C (by first | assumption | exact ⟨by omega, by omega⟩) dX4_show_64 (by decide) (fun c64_0 => absurd c64_0 (by omega)) (fun c64_0 => ?_)
      refine v_iload 67 0 C dX4_show_67 rfl ?_
      refine z_i2l 69 C (by first | assumption | exact ⟨by omega, by omega⟩) dX4_show_69 ?_
      refine v_goto 70 87 C dX4_show_70 (by decide) ?_
      refine s_Mo_placeX 87 C (vm.o hm).1 (vm.o hm).2 lk_514 dX4_show_87 ?_
      refine v_aload_n 90 4 C dX4_show_90 rfl ?_
      refine v_iload 91 1 C dX4_show_91 rfl ?_
      refine z_if_ne 93 100 C (by first | assumption | exact ⟨by omega, by omega⟩) dX4_show_93 (by decide) (fun c93_1 => absurd c93_1 (by omega)) (fun c93_1 => ?_)
      refine v_lconst 96 C (lZ 0) dX4_show_96 (by decide) ?_
      refine v_goto 97 114 C dX4_show_97 (by decide) ?_
      refine s_Mo_placeY 114 C (vm.o hm).1 (vm.o hm).2 lk_515 dX4_show_114 ?_
      refine v_iload_n 117 2 C dX4_show_117 rfl ?_
      refine v_iconst 118 C (iZ 1) dX4_show_118 rfl ?_
      refine z_isub 119 C dX4_show_119 ?_
      refine v_istore 120 [(6, .int (iZ ((i : Int) - 1))), (5, .int (iZ ds)), (4, .int (iZ (ch b u i : Int))), (3, .int (iZ (i : Int))), (2, .int (iZ n)), (0, .ref (ad 45))] C dX4_show_120 (by decide) rfl ?_
      refine v_sub [0, 4, 5] rfl ?_
      exact loop2 i _ _ rfl hi31 (hF.tr (ShF.pL.tr ShF.pL)) hT (by rw [gL_pL, if_neg (by decide), gL_pL, if_pos ⟨rfl, rfl⟩, ← eX, hc]; rfl) (by rw [gL_pL, if_pos ⟨rfl, rfl⟩, ← eY, hc]; rfl)
    · skip
      refine v_aload_n 61 4 C dX4_show_61 rfl ?_
      refine v_iload 62 1 C dX4_show_62 rfl ?_
      refine z_if_ne 64 73 C (by first | assumption | exact ⟨by omega, by omega⟩) dX4_show_64 (by decide) (fun c64_0 => ?_) (fun c64_0 => absurd c64_0 (by omega))
      refine v_aload_n 73 4 C dX4_show_73 rfl ?_
      refine v_calll 74 hA (rV_Mo 74 C L_RX4_117 lk_633 lk_30 (m4_wayX hm hI M1 hj s1) (vm.o hm) rfl ⟨rfl, rfl⟩ (rm_ok rfl) dX4_show_74) (fun r7 w8 h9 => ?_)
      obtain ⟨e_r7, rfl⟩ := h9
      refine v_eql (lZ (wx j)) (e_r7) ?_
      refine v_iload 77 0 C dX4_show_77 rfl ?_
      refine z_i2l 79 C (by first | assumption | exact ⟨by omega, by omega⟩) dX4_show_79 ?_
      refine z_lmul 80 C dX4_show_80 ?_
      refine v_ldc2 81 C (10000) lk_635 dX4_show_81 ?_
      refine v_eql (lZ 10000) (by decide) ?_
      refine v_calll 84 hA (rS 84 C L_RX4_123 lk_637 (m4_rounded ⟨by omega, by omega⟩ ⟨by omega, by omega⟩) rfl rfl (rm_ok rfl) dX4_show_84) (fun r10 w11 h12 => ?_)
      obtain ⟨e_r10, rfl⟩ := h12
      refine v_eql (lZ (rnd (wx j * ds) 10000)) (e_r10) ?_
      refine s_Mo_placeX 87 C (vm.o hm).1 (vm.o hm).2 lk_514 dX4_show_87 ?_
      refine v_aload_n 90 4 C dX4_show_90 rfl ?_
      refine v_iload 91 1 C dX4_show_91 rfl ?_
      refine z_if_ne 93 100 C (by first | assumption | exact ⟨by omega, by omega⟩) dX4_show_93 (by decide) (fun c93_1 => ?_) (fun c93_1 => absurd c93_1 (by omega))
      refine v_aload_n 100 4 C dX4_show_100 rfl ?_
      refine v_calll 101 hA (rV_Mo 101 C L_RX4_126 lk_644 lk_31 (m4_wayY hm hI (ShF.pL.RM M1) hj s1) (vm.o hm) rfl ⟨rfl, rfl⟩ (rm_ok rfl) dX4_show_101) (fun r13 w14 h15 => ?_)
      obtain ⟨e_r13, rfl⟩ := h15
      refine v_eql (lZ (wy j)) (e_r13) ?_
      refine v_iload 104 0 C dX4_show_104 rfl ?_
      refine z_i2l 106 C (by first | assumption | exact ⟨by omega, by omega⟩) dX4_show_106 ?_
      refine z_lmul 107 C dX4_show_107 ?_
      refine v_ldc2 108 C (10000) lk_635 dX4_show_108 ?_
      refine v_eql (lZ 10000) (by decide) ?_
      refine v_calll 111 hA (rS 111 C L_RX4_123 lk_637 (m4_rounded ⟨by omega, by omega⟩ ⟨by omega, by omega⟩) rfl rfl (rm_ok rfl) dX4_show_111) (fun r16 w17 h18 => ?_)
      obtain ⟨e_r16, rfl⟩ := h18
      refine v_eql (lZ (rnd (wy j * ds) 10000)) (e_r16) ?_
      refine s_Mo_placeY 114 C (vm.o hm).1 (vm.o hm).2 lk_515 dX4_show_114 ?_
      refine v_iload_n 117 2 C dX4_show_117 rfl ?_
      refine v_iconst 118 C (iZ 1) dX4_show_118 rfl ?_
      refine z_isub 119 C dX4_show_119 ?_
      refine v_istore 120 [(6, .int (iZ ((i : Int) - 1))), (5, .int (iZ ds)), (4, .int (iZ (ch b u i : Int))), (3, .int (iZ (i : Int))), (2, .int (iZ n)), (0, .ref (ad 45))] C dX4_show_120 (by decide) rfl ?_
      refine v_sub [0, 4, 5] rfl ?_
      exact loop2 i _ _ rfl hi31 (hF.tr (ShF.pL.tr ShF.pL)) hT (by rw [gL_pL, if_neg (by decide), gL_pL, if_pos ⟨rfl, rfl⟩, ← eX, hc]; rfl) (by rw [gL_pL, if_pos ⟨rfl, rfl⟩, ← eY, hc]; rfl)
  have ih0 : ∀ (i : Nat) (S1 : St), ch b u i < 2 → ShF S S1 → (∀ i2, i2 < i → gA S1 57 i2 = iZ (ch b u i2 : Int) ∧ 2 ≤ ch b u i2 ∧ gd b t j K (ch b u i2)) → gd b t j K (ch b u i) → i + ch b u i / 2 ≤ u / 2 → V p l e { frames := 3, cells := 0, slots := 0, locals := 72 } s m ([.ref (ad 45), .int (iZ (u : Int)), .int (iZ n)] : List Value).toArray below meth c (MQ below (QV D kc (wl kc N ad S) (fun ws' => ∃ S', ws' = wl kc N ad S' ∧ ShF S S' ∧ gL S' 45 15 = lZ (PLx b t j u n) ∧ gL S' 45 16 = lZ (PLy b t j u n)) s.heap.size) ([.ref (ad 45), .int (iZ (u : Int)), .int (iZ n)] : List Value).toArray s 0 0 (va_A (wl kc N ad S) s.heap.size)) D (va_A (wl kc N ad S) s.heap.size) 12 0 0 (wl kc N ad S1) 5 [(4, .int (iZ (ch b u i : Int))), (3, .int (iZ (i : Int))), (2, .int (iZ n)), (1, .int (iZ (u : Int))), (0, .ref (ad 45))] [] := by
      intro i S1 hd hF hT hg hi
      have hu62 := thL_62 hI hu
      cases i with
      | zero =>
        refine v_iload 5 0 C dX4_show_5 rfl ?_
        refine v_iconst 7 C (iZ 1) dX4_show_7 rfl ?_
        refine z_icmp_le 8 36 C (by first | assumption | exact ⟨by omega, by omega⟩) (by first | assumption | exact ⟨by omega, by omega⟩) dX4_show_8 (by decide) (fun c8_0 => ?_) (fun c8_0 => absurd (by omega) c8_0)
        refine v_iload_n 36 1 C dX4_show_36 rfl ?_
        refine z_if_ne 37 44 C (by first | assumption | exact ⟨by omega, by omega⟩) dX4_show_37 (by decide) (fun c37_1 => absurd c37_1 (fun q => q rfl)) (fun c37_1 => ?_)
        refine v_iload_n 40 2 C dX4_show_40 rfl ?_
        refine v_goto 41 59 C dX4_show_41 (by decide) ?_
        refine v_istore 59 [(5, .int (iZ n)), (4, .int (iZ (ch b u 0 : Int))), (3, .int (iZ ((0 : Nat) : Int))), (2, .int (iZ n)), (1, .int (iZ (u : Int))), (0, .ref (ad 45))] C dX4_show_59 (by decide) rfl ?_
        refine v_sub [0, 1, 2, 3, 5] rfl ?_
        exact ext 0 S1 n (by decide) hF hT (by omega) hn rfl rfl
      | succ i =>
        obtain ⟨T1, h2d, hgd2⟩ := hT i (by omega)
        have st2 := ch_step hI hL hj hgd2 h2d
        obtain ⟨v1, v2, v3, v4, v5, v6, v7⟩ := gd_bd hI hL hj hgd2 h2d
        have hc1 : ch b u (i + 1) = (b 4 (ch b u i - 2)).toNat := rfl
        have h62 := thL_62 hI hgd2.1
        have M1 := hF.RM hM
        refine v_iload 5 0 C dX4_show_5 rfl ?_
        refine v_iconst 7 C (iZ 1) dX4_show_7 rfl ?_
        refine z_icmp_le 8 36 C (by first | assumption | exact ⟨by omega, by omega⟩) (by first | assumption | exact ⟨by omega, by omega⟩) dX4_show_8 (by decide) (fun c8_0 => ?_) (fun c8_0 => absurd (by omega) c8_0)
        refine v_iload_n 36 1 C dX4_show_36 rfl ?_
        refine z_if_ne 37 44 C (by first | assumption | exact ⟨by omega, by omega⟩) dX4_show_37 (by decide) (fun c37_1 => ?_) (fun c37_1 => absurd c37_1 (by omega))
        refine v_aload_n 44 4 C dX4_show_44 rfl ?_
        refine g_Mo_far 45 C (vm.o hm).1 (vm.o hm).2 lk_504 dX4_show_45 ?_
        refine v_aload_n 48 4 C dX4_show_48 rfl ?_
        refine g_Mo_trail 49 C (vm.o hm).1 (vm.o hm).2 lk_516 dX4_show_49 ?_
        refine v_iload_n 52 1 C dX4_show_52 rfl ?_
        refine v_iconst 53 C (iZ 1) dX4_show_53 rfl ?_
        refine z_isub 54 C dX4_show_54 ?_
        refine v_iald 55 C (vm.a hm 57 (by decide) rfl).1 (vm.a hm 57 (by decide) rfl).2 i (izn (by omega)) (lnx (show ln 57 = 32 from rfl) (by omega)) dX4_show_55 ?_
        refine v_eqi (iZ (ch b u i : Int)) (T1) ?_
        refine v_iconst 56 C (iZ 2) dX4_show_56 rfl ?_
        refine z_isub 57 C dX4_show_57 ?_
        refine v_iald 58 C (vm.a hm 48 (by decide) rfl).1 (vm.a hm 48 (by decide) rfl).2 (ch b u i - 2) (izn (by omega)) (lnx (show ln 48 = 60 from rfl) (by omega)) dX4_show_58 ?_
        refine v_eqi (iZ (b 5 (ch b u i - 2))) ((M1.2.2.1 (ch b u i - 2) (by omega)).2.1) ?_
        refine v_istore 59 [(5, .int (iZ (b 5 (ch b u i - 2)))), (4, .int (iZ (ch b u (i + 1) : Int))), (3, .int (iZ ((i + 1 : Nat) : Int))), (2, .int (iZ n)), (1, .int (iZ (u : Int))), (0, .ref (ad 45))] C dX4_show_59 (by decide) rfl ?_
        refine v_sub [0, 1, 2, 3, 5] rfl ?_
        exact ext (i + 1) S1 (b 5 (ch b u i - 2)) (by omega) hF hT (by omega) ⟨by omega, by omega⟩ st2.2.2.2.1.symm st2.2.2.2.2.symm
  have loop1 : ∀ (d i : Nat) (S1 : St), ch b u i ≤ 2 * d + 1 → i + ch b u i / 2 ≤ u / 2 → ShF S S1 → (∀ i2, i2 < i → gA S1 57 i2 = iZ (ch b u i2 : Int) ∧ 2 ≤ ch b u i2 ∧ gd b t j K (ch b u i2)) → gd b t j K (ch b u i) → V p l e { frames := 3, cells := 0, slots := 0, locals := 72 } s m ([.ref (ad 45), .int (iZ (u : Int)), .int (iZ n)] : List Value).toArray below meth c (MQ below (QV D kc (wl kc N ad S) (fun ws' => ∃ S', ws' = wl kc N ad S' ∧ ShF S S' ∧ gL S' 45 15 = lZ (PLx b t j u n) ∧ gL S' 45 16 = lZ (PLy b t j u n)) s.heap.size) ([.ref (ad 45), .int (iZ (u : Int)), .int (iZ n)] : List Value).toArray s 0 0 (va_A (wl kc N ad S) s.heap.size)) D (va_A (wl kc N ad S) s.heap.size) 12 0 0 (wl kc N ad S1) 5 [(4, .int (iZ (ch b u i : Int))), (3, .int (iZ (i : Int))), (2, .int (iZ n)), (1, .int (iZ (u : Int))), (0, .ref (ad 45))] [] := by
    intro d
    induction d with
    | zero => intro i S1 hd hi hF hT hg; exact ih0 i S1 (by omega) hF hT hg hi
    | succ d ih =>
      intro i S1 hd hi hF hT hg
      have hu62 := thL_62 hI hu
      by_cases hc2 : ch b u i < 2
      · exact ih0 i S1 hc2 hF hT hg hi
      · skip
        have st2 := ch_step hI hL hj hg (by omega)
        obtain ⟨v1, v2, v3, v4, v5, v6, v7⟩ := gd_bd hI hL hj hg (by omega)
        have h62 := thL_62 hI hg.1
        have M1 := hF.RM hM
        refine v_iload 5 0 C dX4_show_5 rfl ?_
        refine v_iconst 7 C (iZ 1) dX4_show_7 rfl ?_
        refine z_icmp_le 8 36 C (by first | assumption | exact ⟨by omega, by omega⟩) (by first | assumption | exact ⟨by omega, by omega⟩) dX4_show_8 (by decide) (fun c8_0 => absurd c8_0 (by omega)) (fun c8_0 => ?_)
        refine v_aload_n 11 4 C dX4_show_11 rfl ?_
        refine g_Mo_trail 12 C (vm.o hm).1 (vm.o hm).2 lk_516 dX4_show_12 ?_
        refine v_iload_n 15 1 C dX4_show_15 rfl ?_
        refine v_iload 16 0 C dX4_show_16 rfl ?_
        refine v_iast 18 C (vm.a hm 57 (by decide) rfl).1 (vm.a hm 57 (by decide) rfl).2 i (izn (by omega)) (lnx (show ln 57 = 32 from rfl) (by omega)) dX4_show_18 ?_
        refine v_iinc 19 1 (iZ ((i + 1 : Nat) : Int)) [(3, .int (iZ ((i + 1 : Nat) : Int))), (4, .int (iZ (ch b u i : Int))), (2, .int (iZ n)), (1, .int (iZ (u : Int))), (0, .ref (ad 45))] C dX4_show_19 rfl (iZ_add _ _) (by decide) rfl ?_
        refine v_aload_n 22 4 C dX4_show_22 rfl ?_
        refine g_Mo_on 23 C (vm.o hm).1 (vm.o hm).2 lk_503 dX4_show_23 ?_
        refine v_iload 26 1 C dX4_show_26 rfl ?_
        refine v_iconst 28 C (iZ 2) dX4_show_28 rfl ?_
        refine z_isub 29 C dX4_show_29 ?_
        refine v_iald 30 C (vm.a hm 47 (by decide) rfl).1 (vm.a hm 47 (by decide) rfl).2 (ch b u i - 2) (izn (by omega)) (lnx (show ln 47 = 60 from rfl) (by omega)) dX4_show_30 ?_
        refine v_eqi (iZ (b 4 (ch b u i - 2))) (((ShF.pA (k := i) (v := iZ (ch b u i : Int))).RM M1).2.2.1 (ch b u i - 2) (by omega) |>.1) ?_
        refine v_eqi (iZ (ch b u (i + 1) : Int)) (congrArg iZ (by show b 4 (ch b u i - 2) = (((b 4 (ch b u i - 2)).toNat : Nat) : Int); omega)) ?_
        refine v_istore 31 [(4, .int (iZ (ch b u (i + 1) : Int))), (3, .int (iZ ((i + 1 : Nat) : Int))), (2, .int (iZ n)), (1, .int (iZ (u : Int))), (0, .ref (ad 45))] C dX4_show_31 (by decide) rfl ?_
        refine v_goto 33 5 C dX4_show_33 (by decide) ?_
        refine v_sub [0, 1, 2, 3, 4] rfl ?_
        exact ih (i + 1) _ (by show (b 4 (ch b u i - 2)).toNat ≤ _; omega) (by show i + 1 + (b 4 (ch b u i - 2)).toNat / 2 ≤ _; omega) (hF.tr ShF.pA) (tr_step hT (by omega) hg) st2.1
  refine v_iconst 0 C (iZ 0) dX4_show_0 rfl ?_
  refine v_istore_n 1 [(3, .int (iZ 0)), (0, .ref (ad 45)), (1, .int (iZ (u : Int))), (2, .int (iZ n))] C dX4_show_1 (by decide) rfl ?_
  refine v_iload_n 2 2 C dX4_show_2 rfl ?_
  refine v_istore 3 [(4, .int (iZ (u : Int))), (3, .int (iZ 0)), (0, .ref (ad 45)), (1, .int (iZ (u : Int))), (2, .int (iZ n))] C dX4_show_3 (by decide) rfl ?_
  refine v_sub [0, 1, 4, 3, 2] rfl ?_
  exact loop1 (u / 2) 0 S (by show u ≤ _; omega) (by show 0 + u / 2 ≤ _; omega) ShF.rf (fun i2 q => absurd q (by omega)) ⟨hu, h0, huK⟩
