/-! GROW: a world with a new part in it -/
def adG (N : Nat) (ad : Nat → Nat) (a : Nat) (g : Nat → Nat) : Nat → Nat := fun i => if i < N then ad i else if i = N then a else g (i - N)
def stG (N : Nat) (S : St) : St := (fun i k => if i < N then gI S i k else 0, fun i k => if i < N then gA S i k else 0, fun i k => gL S i k, fun i k => gJ S i k, fun i k => if i = 1 ∧ ¬ k < 30 then none else if i = 2 ∧ ¬ k < 62 then none else gR S i k)
theorem adG_lo {N : Nat} {ad : Nat → Nat} {a : Nat} {g : Nat → Nat} {i : Nat} (h : i < N) : adG N ad a g i = ad i := by unfold adG; rw [if_pos h]
theorem adG_N {N : Nat} {ad : Nat → Nat} {a : Nat} {g : Nat → Nat} : adG N ad a g N = a := by unfold adG; rw [if_neg (by omega), if_pos rfl]
theorem adG_hi {N : Nat} {ad : Nat → Nat} {a : Nat} {g : Nat → Nat} {j : Nat} (h : 0 < j) : adG N ad a g (N + j) = g j := by unfold adG; rw [if_neg (by omega), if_neg (by omega), show N + j - N = j by omega]
theorem stG_I {N : Nat} {S : St} {i k : Nat} (h : i < N) : gI (stG N S) i k = gI S i k := by show (if i < N then gI S i k else 0) = _; rw [if_pos h]
theorem stG_A {N : Nat} {S : St} {i k : Nat} (h : i < N) : gA (stG N S) i k = gA S i k := by show (if i < N then gA S i k else 0) = _; rw [if_pos h]
theorem stG_I0 {N : Nat} {S : St} {i k : Nat} (h : N ≤ i) : gI (stG N S) i k = 0 := by show (if i < N then gI S i k else 0) = _; rw [if_neg (by omega)]
theorem stG_A0 {N : Nat} {S : St} {i k : Nat} (h : N ≤ i) : gA (stG N S) i k = 0 := by show (if i < N then gA S i k else 0) = _; rw [if_neg (by omega)]
theorem stG_R1 {N : Nat} {S : St} {k : Nat} (h : k < 30) : gR (stG N S) 1 k = gR S 1 k := by show (if (1 = 1 ∧ ¬ k < 30) then none else if (1 = 2 ∧ ¬ k < 62) then none else gR S 1 k) = _; rw [if_neg (by omega), if_neg (by omega)]
theorem stG_R2 {N : Nat} {S : St} {k : Nat} (h : k < 62) : gR (stG N S) 2 k = gR S 2 k := by show (if (2 = 1 ∧ ¬ k < 30) then none else if (2 = 2 ∧ ¬ k < 62) then none else gR S 2 k) = _; rw [if_neg (by omega), if_neg (by omega)]
theorem stG_M {N : Nat} {S : St} (h : 66 ≤ N) : sameOn atM S (stG N S) := fun i hi k => ⟨stG_I (by have := hi.2; omega), stG_A (by have := hi.2; omega), rfl, rfl, by
  show (if (i = 1 ∧ ¬ k < 30) then none else if (i = 2 ∧ ¬ k < 62) then none else gR S i k) = _
  rw [if_neg (by have := hi.1; omega), if_neg (by have := hi.1; omega)]⟩
theorem kd4_lo : ∀ i, i < 66 → kdT.getD i 0 = 4 → i = 4 := by decide
theorem kd5_lo : ∀ i, i < 66 → kdT.getD i 0 = 5 → i + 3 < 66 := by decide
theorem kd1_lo : ∀ i, i < 66 → kdT.getD i 0 = 1 → i = 1 := by decide
theorem kd2_lo : ∀ i, i < 66 → kdT.getD i 0 = 2 → i = 2 := by decide
theorem kd4_hi : ∀ c, c < 15 → kpT.getD c 0 = 4 → c = 0 := by decide
theorem kd5_hi : ∀ c, c < 15 → kpT.getD c 0 = 5 → c + 3 < 15 := by decide
theorem kd12_hi : ∀ c, c < 15 → kpT.getD c 0 ≠ 1 ∧ kpT.getD c 0 ≠ 2 := by decide
theorem kd_1 {i : Nat} (h : kd i = 1) : i = 1 := by
  unfold kd at h
  split at h
  · rename_i q; exact kd1_lo i q h
  · exact absurd h (kd12_hi _ (Nat.mod_lt _ (by decide))).1
theorem kd_2 {i : Nat} (h : kd i = 2) : i = 2 := by
  unfold kd at h
  split at h
  · rename_i q; exact kd2_lo i q h
  · exact absurd h (kd12_hi _ (Nat.mod_lt _ (by decide))).2
theorem kd_4 {i n : Nat} (h : kd i = 4) (hi : i < 66 + 15 * n) : i + 14 < 66 + 15 * n := by
  unfold kd at h
  split at h
  · rename_i q; have := kd4_lo i q h; omega
  · have := kd4_hi _ (Nat.mod_lt _ (by decide)) h; omega
theorem kd_5 {i n : Nat} (h : kd i = 5) (hi : i < 66 + 15 * n) : i + 3 < 66 + 15 * n := by
  unfold kd at h
  split at h
  · rename_i q; have := kd5_lo i q h; omega
  · have := kd5_hi _ (Nat.mod_lt _ (by decide)) h; omega
theorem pb_lt {i N : Nat} (h : i < N) (hN : 66 ≤ N) : pb i < N := by unfold pb; split <;> (try split) <;> omega
theorem pe_lt {i N : Nat} (h : i < N) (hN : 66 ≤ N) : pe i < N := by unfold pe; split <;> (try split) <;> (try split) <;> omega
theorem pm_lt {i N : Nat} (h : i < N) (hN : 66 ≤ N) : pm i < N := by unfold pm; split <;> (try split) <;> (try split) <;> omega
/-- a cell that was there is the same -/
theorem cell_grow {kc : Nat → ClassId} {n N i : Nat} {ad ad' : Nat → Nat} {S S' : St} (hN : N = 66 + 15 * n) (hi : i < N) (ha : ∀ j, j < N → ad' j = ad j) (h1 : ∀ k, gI S' i k = gI S i k) (h2 : ∀ k, gA S' i k = gA S i k) (h3 : ∀ k, gL S' i k = gL S i k) (h4 : ∀ k, gJ S' i k = gJ S i k) (k1 : kd i ≠ 1) (k2 : kd i ≠ 2) : cellf kc ad' S' i = cellf kc ad S i := by
  have key : ∀ K, kd i = K → cellK kc ad' S' i K = cellK kc ad S i K := by
    intro K hK
    have b4 := fun q => kd_4 (i := i) (n := n) q (by omega)
    have b5 := fun q => kd_5 (i := i) (n := n) q (by omega)
    have q1 := pb_lt hi (by omega)
    have q2 := pe_lt hi (by omega)
    have q3 := pm_lt hi (by omega)
    unfold cellK
    split
    · rw [ha 1 (by omega), ha 2 (by omega), ha 3 (by omega), ha 4 (by omega), ha 19 (by omega), h1, h1, h1]
    · exact absurd hK k1
    · exact absurd hK k2
    · have z := b4 hK
      rw [ha (i + 1) (by omega), ha (i + 5) (by omega), ha (i + 9) (by omega), ha (i + 13) (by omega), ha (i + 14) (by omega), h1, h1, h1, h1, h1, h1, h1]
    · have z := b5 hK
      rw [ha (i + 1) (by omega), ha (i + 2) (by omega), ha (i + 3) (by omega)]
    · simp only [h2]
    · simp only [h2]
    · rw [ha _ q1, ha _ q2, ha _ q3, h1]
    · simp only [h1, h3]
      rw [ha 46 (by omega), ha 47 (by omega), ha 48 (by omega), ha 49 (by omega), ha 50 (by omega), ha 51 (by omega), ha 52 (by omega), ha 53 (by omega), ha 54 (by omega), ha 55 (by omega), ha 56 (by omega), ha 57 (by omega), ha 58 (by omega), ha 59 (by omega), ha 60 (by omega), ha 61 (by omega), ha 62 (by omega), ha 63 (by omega), ha 64 (by omega), ha 65 (by omega)]
    · simp only [h4]
  exact key _ rfl
theorem arrV_cg {cA : ClassId} {n : Nat} {f g : Nat → Value} (h : ∀ j, j < n → f j = g j) : arrV cA n f = arrV cA n g := by
  unfold arrV
  congr 1
  congr 1
  funext j
  exact h j.val j.isLt
theorem plN_lt {b : Bs} {p : Nat} (h : thL b p) : plN p < 66 + 15 * bn b := by
  rcases thL_or h with rfl | rfl | ⟨k, w, hw, rfl, hk, ht⟩
  · rw [plN_0]; omega
  · rw [plN_1]; omega
  · rw [plN_p k w hw]; omega
theorem at_cg {D : va_G} {cl : List vw_C} {a : Nat} {cA : ClassId} {n : Nat} {f g : Nat → Option Nat} {H : Heap} (h : ∀ j, j < n → f j = g j) (h0 : va_at D cl (a, .inl (cA, n, .inr (.inr (.inr (.inr f))))) H) : va_at D cl (a, .inl (cA, n, .inr (.inr (.inr (.inr g))))) H := by
  show H[a]? = some (vp_cell cA (n, .inr (.inr (.inr (.inr g)))))
  have e : H[a]? = some (vp_cell cA (n, .inr (.inr (.inr (.inr f))))) := h0
  rw [e, vp_cell_q, vp_cell_q, arrV_cg (fun j hj => by rw [h j hj])]
/-- the cells of a new part -/
theorem pt_at {kc : Nat → ClassId} {k : Nat} {ad : Nat → Nat} {S : St} {a : Nat} {g : Nat → Nat} : ∀ j, j < 15 → (ptW kc a g)[j]? = some (adG (66 + 15 * k) ad a g (66 + 15 * k + j), cellf kc (adG (66 + 15 * k) ad a g) (stG (66 + 15 * k) S) (66 + 15 * k + j)) := by
  intro j hj
  have hv := vp_part (N := 66 + 15 * k + 15) k (by omega)
  have ga : ∀ c, 0 < c → adG (66 + 15 * k) ad a g (66 + 15 * k + c) = g c := fun c hc => adG_hi hc
  have zI : ∀ c f, gI (stG (66 + 15 * k) S) (66 + 15 * k + c) f = 0 := fun c f => stG_I0 (by omega)
  have zA : ∀ c, (fun f => gA (stG (66 + 15 * k) S) (66 + 15 * k + c) f) = fun _ => 0 := fun c => funext fun f => stG_A0 (by omega)
  have hk := kd_part k j hj
  rw [cell_kd hk]
  have ln17 := ln_part k j
  have q := show j = 0 ∨ j = 1 ∨ j = 2 ∨ j = 3 ∨ j = 4 ∨ j = 5 ∨ j = 6 ∨ j = 7 ∨ j = 8 ∨ j = 9 ∨ j = 10 ∨ j = 11 ∨ j = 12 ∨ j = 13 ∨ j = 14 by omega
  have P13 := hv.2.2.2.1
  have P14 := hv.2.2.2.2
  rcases q with rfl | rfl | rfl | rfl | rfl | rfl | rfl | rfl | rfl | rfl | rfl | rfl | rfl | rfl | rfl
  · show some (oPt a (g 1) (g 5) (g 9) (g 13) (g 14)) = some (_, cellK kc (adG (66 + 15 * k) ad a g) (stG (66 + 15 * k) S) (66 + 15 * k) 4)
    have zI0 : ∀ f, gI (stG (66 + 15 * k) S) (66 + 15 * k) f = 0 := fun f => stG_I0 (by omega)
    show some (oPt a (g 1) (g 5) (g 9) (g 13) (g 14)) = some (adG (66 + 15 * k) ad a g (66 + 15 * k), Sum.inr (0, [.ref (adG (66 + 15 * k) ad a g (66 + 15 * k + 1)), .ref (adG (66 + 15 * k) ad a g (66 + 15 * k + 5)), .ref (adG (66 + 15 * k) ad a g (66 + 15 * k + 9)), .ref (adG (66 + 15 * k) ad a g (66 + 15 * k + 13)), .ref (adG (66 + 15 * k) ad a g (66 + 15 * k + 14)), .int (gI (stG (66 + 15 * k) S) (66 + 15 * k) 5), .int (gI (stG (66 + 15 * k) S) (66 + 15 * k) 6), .int (gI (stG (66 + 15 * k) S) (66 + 15 * k) 7), .int (gI (stG (66 + 15 * k) S) (66 + 15 * k) 8), .int (gI (stG (66 + 15 * k) S) (66 + 15 * k) 9), .int (gI (stG (66 + 15 * k) S) (66 + 15 * k) 10), .int (gI (stG (66 + 15 * k) S) (66 + 15 * k) 11)])) 
    rw [adG_N, ga 1 (by decide), ga 5 (by decide), ga 9 (by decide), ga 13 (by decide), ga 14 (by decide), zI0, zI0, zI0, zI0, zI0, zI0, zI0]
  · show some (oTr (g 1) (g 2) (g 3) (g 4)) = some (_, Sum.inr (2, [.ref (adG (66 + 15 * k) ad a g (66 + 15 * k + (1 + 1))), .ref (adG (66 + 15 * k) ad a g (66 + 15 * k + (1 + 2))), .ref (adG (66 + 15 * k) ad a g (66 + 15 * k + (1 + 3)))]))
    rw [ga 1 (by decide), ga (1 + 1) (by decide), ga (1 + 2) (by decide), ga (1 + 3) (by decide)]
  · show some (zAr kc (g 2) 17) = some (_, Sum.inl (kc 0, ln (66 + 15 * k + 2), .inl (fun f => gA (stG (66 + 15 * k) S) (66 + 15 * k + 2) f)))
    rw [ga 2 (by decide), zA, ln17]
  · show some (zAr kc (g 3) 17) = some (_, Sum.inl (kc 0, ln (66 + 15 * k + 3), .inl (fun f => gA (stG (66 + 15 * k) S) (66 + 15 * k + 3) f)))
    rw [ga 3 (by decide), zA, ln17]
  · show some (zBr kc (g 4) 17) = some (_, Sum.inl (kc 2, ln (66 + 15 * k + 4), .inl (fun f => gA (stG (66 + 15 * k) S) (66 + 15 * k + 4) f)))
    rw [ga 4 (by decide), zA, ln17]
  · show some (oTr (g 5) (g 6) (g 7) (g 8)) = some (_, Sum.inr (2, [.ref (adG (66 + 15 * k) ad a g (66 + 15 * k + (5 + 1))), .ref (adG (66 + 15 * k) ad a g (66 + 15 * k + (5 + 2))), .ref (adG (66 + 15 * k) ad a g (66 + 15 * k + (5 + 3)))]))
    rw [ga 5 (by decide), ga (5 + 1) (by decide), ga (5 + 2) (by decide), ga (5 + 3) (by decide)]
  · show some (zAr kc (g 6) 17) = some (_, Sum.inl (kc 0, ln (66 + 15 * k + 6), .inl (fun f => gA (stG (66 + 15 * k) S) (66 + 15 * k + 6) f)))
    rw [ga 6 (by decide), zA, ln17]
  · show some (zAr kc (g 7) 17) = some (_, Sum.inl (kc 0, ln (66 + 15 * k + 7), .inl (fun f => gA (stG (66 + 15 * k) S) (66 + 15 * k + 7) f)))
    rw [ga 7 (by decide), zA, ln17]
  · show some (zBr kc (g 8) 17) = some (_, Sum.inl (kc 2, ln (66 + 15 * k + 8), .inl (fun f => gA (stG (66 + 15 * k) S) (66 + 15 * k + 8) f)))
    rw [ga 8 (by decide), zA, ln17]
  · show some (oTr (g 9) (g 10) (g 11) (g 12)) = some (_, Sum.inr (2, [.ref (adG (66 + 15 * k) ad a g (66 + 15 * k + (9 + 1))), .ref (adG (66 + 15 * k) ad a g (66 + 15 * k + (9 + 2))), .ref (adG (66 + 15 * k) ad a g (66 + 15 * k + (9 + 3)))]))
    rw [ga 9 (by decide), ga (9 + 1) (by decide), ga (9 + 2) (by decide), ga (9 + 3) (by decide)]
  · show some (zAr kc (g 10) 17) = some (_, Sum.inl (kc 0, ln (66 + 15 * k + 10), .inl (fun f => gA (stG (66 + 15 * k) S) (66 + 15 * k + 10) f)))
    rw [ga 10 (by decide), zA, ln17]
  · show some (zAr kc (g 11) 17) = some (_, Sum.inl (kc 0, ln (66 + 15 * k + 11), .inl (fun f => gA (stG (66 + 15 * k) S) (66 + 15 * k + 11) f)))
    rw [ga 11 (by decide), zA, ln17]
  · show some (zBr kc (g 12) 17) = some (_, Sum.inl (kc 2, ln (66 + 15 * k + 12), .inl (fun f => gA (stG (66 + 15 * k) S) (66 + 15 * k + 12) f)))
    rw [ga 12 (by decide), zA, ln17]
  · show some (oPl (g 13) (g 1) (g 9) (g 9) 0) = some (_, Sum.inr (1, [.ref (adG (66 + 15 * k) ad a g (pb (66 + 15 * k + 13))), .ref (adG (66 + 15 * k) ad a g (pe (66 + 15 * k + 13))), .ref (adG (66 + 15 * k) ad a g (pm (66 + 15 * k + 13))), .int (pf (66 + 15 * k + 13)), .int (gI (stG (66 + 15 * k) S) (66 + 15 * k + 13) 4)]))
    rw [P13.1, P13.2.1, P13.2.2.1, P13.2.2.2, ga 13 (by decide), ga 1 (by decide), ga 9 (by decide), zI]
  · show some (oPl (g 14) (g 5) (g 9) (g 9) 0) = some (_, Sum.inr (1, [.ref (adG (66 + 15 * k) ad a g (pb (66 + 15 * k + 14))), .ref (adG (66 + 15 * k) ad a g (pe (66 + 15 * k + 14))), .ref (adG (66 + 15 * k) ad a g (pm (66 + 15 * k + 14))), .int (pf (66 + 15 * k + 14)), .int (gI (stG (66 + 15 * k) S) (66 + 15 * k + 14) 4)]))
    rw [P14.1, P14.2.1, P14.2.2.1, P14.2.2.2, ga 14 (by decide), ga 5 (by decide), ga 9 (by decide), zI]
/-- the world with the new part's cells is the world of one part more -/
theorem grow_at {D : va_G} {kc : Nat → ClassId} {b : Bs} {ad : Nat → Nat} {S : St} {a : Nat} {g : Nat → Nat} (hP : RP S b) (i : Nat) (hi : i < 66 + 15 * bn b + 15) :
    ∃ q0 : Nat × va_E, (wl kc (66 + 15 * bn b) ad S ++ ptW kc a g)[i]? = some q0 ∧ q0.1 = adG (66 + 15 * bn b) ad a g i ∧ ∀ H, va_at D vwCl q0 H → va_at D vwCl (adG (66 + 15 * bn b) ad a g i, cellf kc (adG (66 + 15 * bn b) ad a g) (stG (66 + 15 * bn b) S) i) H := by
  have hlen : (wl kc (66 + 15 * bn b) ad S).length = 66 + 15 * bn b := by simp [wl]
  by_cases h : i < 66 + 15 * bn b
  · refine ⟨(ad i, cellf kc ad S i), ?_, (adG_lo h).symm, fun H hh => ?_⟩
    · rw [List.getElem?_append_left (by omega)]; exact wl_at h
    · rw [adG_lo h]
      by_cases k1 : kd i = 1
      · have e := kd_1 k1
        subst e
        rw [cell_kd k1] at hh ⊢
        refine at_cg (fun j hj => ?_) hh
        show (gR S 1 j).map ad = (gR (stG _ S) 1 j).map _
        rw [stG_R1 hj, hP.2.2.1 j hj]
        split
        · show some _ = some _
          rw [adG_lo (by omega)]
        · rfl
      · by_cases k2 : kd i = 2
        · have e := kd_2 k2
          subst e
          rw [cell_kd k2] at hh ⊢
          refine at_cg (fun j hj => ?_) hh
          show (gR S 2 j).map ad = (gR (stG _ S) 2 j).map _
          rw [stG_R2 hj, hP.2.2.2.1 j hj]
          by_cases hl : thL b j
          · rw [plI_y hl]
            show some _ = some _
            rw [adG_lo (plN_lt hl)]
          · rw [plI_n hl]; rfl
        · rw [cell_grow (n := bn b) (ad := ad) (S := S) rfl h (fun j hj => adG_lo hj) (fun k => stG_I h) (fun k => stG_A h) (fun k => rfl) (fun k => rfl) k1 k2]
          exact hh
  · have e : i = 66 + 15 * bn b + (i - (66 + 15 * bn b)) := by omega
    have A := pt_at (kc := kc) (k := bn b) (ad := ad) (S := S) (a := a) (g := g) (i - (66 + 15 * bn b)) (by omega)
    rw [← e] at A
    refine ⟨_, ?_, rfl, fun H hh => hh⟩
    rw [List.getElem?_append_right (by omega), hlen]
    exact A
theorem grow_P {D : va_G} {kc : Nat → ClassId} {b : Bs} {ad : Nat → Nat} {S : St} {a : Nat} {g : Nat → Nat} (hP : RP S b) {H : Heap} (h : va_P D vwCl (wl kc (66 + 15 * bn b) ad S ++ ptW kc a g) H) : va_P D vwCl (wl kc (66 + 15 * bn b + 15) (adG (66 + 15 * bn b) ad a g) (stG (66 + 15 * bn b) S)) H := by
  intro i q hq
  have hi : i < 66 + 15 * bn b + 15 := by
    have := (List.getElem?_eq_some_iff.mp hq).1
    simpa [wl] using this
  rw [wl_at hi] at hq
  obtain ⟨q0, h1, h2, h3⟩ := grow_at (D := D) (kc := kc) (ad := ad) (a := a) (g := g) hP i hi
  rw [← Option.some.inj hq]
  exact h3 H (h i q0 h1)
theorem grow_D {D : va_G} {kc : Nat → ClassId} {b : Bs} {ad : Nat → Nat} {S : St} {a : Nat} {g : Nat → Nat} (hP : RP S b) {A : Nat → Prop} (h : va_D A (wl kc (66 + 15 * bn b) ad S ++ ptW kc a g)) : va_D A (wl kc (66 + 15 * bn b + 15) (adG (66 + 15 * bn b) ad a g) (stG (66 + 15 * bn b) S)) := by
  have X : ∀ (i : Nat) (q : Nat × va_E), (wl kc (66 + 15 * bn b + 15) (adG (66 + 15 * bn b) ad a g) (stG (66 + 15 * bn b) S))[i]? = some q → ∃ q0, (wl kc (66 + 15 * bn b) ad S ++ ptW kc a g)[i]? = some q0 ∧ q0.1 = q.1 := by
    intro i q hq
    have hi : i < 66 + 15 * bn b + 15 := by
      have := (List.getElem?_eq_some_iff.mp hq).1
      simpa [wl] using this
    rw [wl_at hi] at hq
    obtain ⟨q0, h1, h2, h3⟩ := grow_at (D := D) (kc := kc) (ad := ad) (a := a) (g := g) hP i hi
    exact ⟨q0, h1, by rw [← Option.some.inj hq]; exact h2⟩
  refine ⟨fun i j p q hp hq e => ?_, fun k q hk => ?_⟩
  · obtain ⟨p0, a1, a2⟩ := X i p hp
    obtain ⟨q0, b1, b2⟩ := X j q hq
    exact h.1 i j p0 q0 a1 b1 (a2.trans (e.trans b2.symm))
  · obtain ⟨q0, b1, b2⟩ := X k q hk
    rw [← b2]
    exact h.2 k q0 b1
