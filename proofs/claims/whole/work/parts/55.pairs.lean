/-! PAIRS: a call of the class and the same call of the model -/
theorem MetK.mono {l : Launch} {y : MethodName} {by_ : ByteArray} {mL : Nat} {rt : Option FieldType} {fr mc ms lo : Nat} {D : va_G} {kc : Nat → ClassId} {ws : va_W} {av : List Value} {post post' : Int32 → va_W → Prop} (h : MetK l y by_ mL rt fr mc ms lo D kc ws av (QI D kc ws post)) (hp : ∀ r u, post r u → post' r u) : MetK l y by_ mL rt fr mc ms lo D kc ws av (QI D kc ws post') := by
  intro sz p e h1 h2 h3 s m args below h4 h5 h6 h7
  obtain ⟨n, o, g1, g2, g3, ⟨⟨r, u, q1, q2, q3⟩, q4⟩, g5⟩ := h sz p e h1 h2 h3 s m args below h4 h5 h6 h7
  exact ⟨n, o, g1, g2, g3, ⟨⟨r, u, q1, hp r u q2, q3⟩, q4⟩, g5⟩
def gP (kc : Nat → ClassId) (ad : Nat → Nat) (S : St) (RR : Int → Prop) (b' : Bs) : Int32 → va_W → Prop := fun r ws' => ∃ R : Int, RR R ∧ gQ kc ad S R b' r ws'
def mP (kc : Nat → ClassId) (N : Nat) (ad : Nat → Nat) (S : St) (RR : Int → Prop) (b' : Bs) : Int32 → va_W → Prop := fun r ws' => ∃ R : Int, RR R ∧ mQ kc N ad S R b' r ws'
def Pair (l : Launch) (D : va_G) (kc : Nat → ClassId) (N : Nat) (ad : Nat → Nat) (S : St) (b : Bs) (yc : MethodName) (cc : ByteArray) (mLc : Nat) (rtc : Option FieldType) (frc mcc msc loc : Nat) (avc : List Value) (ym : MethodName) (cm : ByteArray) (mLm : Nat) (rtm : Option FieldType) (frm lom : Nat) (avm : (Nat → Nat) → List Value) : Prop :=
  ∃ (RR : Int → Prop) (b' : Bs), (∀ R1 R2, RR R1 → RR R2 → R1 = R2) ∧ MetK l yc cc mLc rtc frc mcc msc loc D kc (wl kc N ad S) avc (QI D kc (wl kc N ad S) (gP kc ad S RR b')) ∧ ∀ (N' : Nat) (ad' : Nat → Nat) (S' : St), vm N' → RM S' b → MetK l ym cm mLm rtm frm 0 0 lom D kc (wl kc N' ad' S') (avm ad') (QI D kc (wl kc N' ad' S') (mP kc N' ad' S' RR b'))
theorem gQ_of {kc : Nat → ClassId} {N : Nat} {ad : Nat → Nat} {S : St} {R : Int} {b b' : Bs} (hN : N = 66 + 15 * bn b) (hb : bn b' = bn b) {r : Int32} {u : va_W} (h : cQ kc N ad S R b' r u) : gQ kc ad S R b' r u := by
  obtain ⟨h1, S', t', h2, h3, h4, h5, h6⟩ := h
  exact ⟨h1, N, ad, S', t', h2, by rw [hb]; exact hN, fun _ _ => rfl, h3, h4, h5, h6⟩
section PM
variable {l : Launch} {D : va_G} {kc : Nat → ClassId} {N : Nat} {ad : Nat → Nat} {S : St} {b b' : Bs} {yc ym : MethodName} {cc cm : ByteArray} {mLc mLm frc frm loc lom mcc msc : Nat} {rtc rtm : Option FieldType} {avc : List Value} {avm : (Nat → Nat) → List Value} {R : Int}
theorem pr_g (hc : MetK l yc cc mLc rtc frc mcc msc loc D kc (wl kc N ad S) avc (QI D kc (wl kc N ad S) (gQ kc ad S R b'))) (hd : ∀ (N' : Nat) (ad' : Nat → Nat) (S' : St), vm N' → RM S' b → MetK l ym cm mLm rtm frm 0 0 lom D kc (wl kc N' ad' S') (avm ad') (QI D kc (wl kc N' ad' S') (mQ kc N' ad' S' R b'))) : Pair l D kc N ad S b yc cc mLc rtc frc mcc msc loc avc ym cm mLm rtm frm lom avm :=
  ⟨fun x => x = R, b', fun _ _ h1 h2 => h1.trans h2.symm, hc.mono (fun _ _ h => ⟨R, rfl, h⟩), fun N' ad' S' hm hM => (hd N' ad' S' hm hM).mono (fun _ _ h => ⟨R, rfl, h⟩)⟩
theorem pr_c (hN : N = 66 + 15 * bn b) (hb : bn b' = bn b) (hc : MetK l yc cc mLc rtc frc mcc msc loc D kc (wl kc N ad S) avc (QI D kc (wl kc N ad S) (cQ kc N ad S R b'))) (hd : ∀ (N' : Nat) (ad' : Nat → Nat) (S' : St), vm N' → RM S' b → MetK l ym cm mLm rtm frm 0 0 lom D kc (wl kc N' ad' S') (avm ad') (QI D kc (wl kc N' ad' S') (mQ kc N' ad' S' R b'))) : Pair l D kc N ad S b yc cc mLc rtc frc mcc msc loc avc ym cm mLm rtm frm lom avm := pr_g (hc.mono (fun _ _ h => gQ_of hN hb h)) hd
theorem pr_x (RR : Int → Prop) (hU : ∀ R1 R2, RR R1 → RR R2 → R1 = R2) (hN : N = 66 + 15 * bn b) (hc : MetK l yc cc mLc rtc frc mcc msc loc D kc (wl kc N ad S) avc (QI D kc (wl kc N ad S) (fun r ws' => ∃ R : Int, RR R ∧ cQ kc N ad S R b r ws'))) (hd : ∀ (N' : Nat) (ad' : Nat → Nat) (S' : St), vm N' → RM S' b → MetK l ym cm mLm rtm frm 0 0 lom D kc (wl kc N' ad' S') (avm ad') (QI D kc (wl kc N' ad' S') (fun r ws' => ∃ R : Int, RR R ∧ mQ kc N' ad' S' R b r ws'))) : Pair l D kc N ad S b yc cc mLc rtc frc mcc msc loc avc ym cm mLm rtm frm lom avm :=
  ⟨RR, b, hU, hc.mono (fun _ _ h => by obtain ⟨R, h1, h2⟩ := h; exact ⟨R, h1, gQ_of hN rfl h2⟩), fun N' ad' S' hm hM => hd N' ad' S' hm hM⟩
end PM
theorem step_or (s : Int) : ¬ (0 ≤ s ∧ s < 17) ∨ ∃ j : Nat, s = (j : Int) ∧ j < 17 := by
  by_cases h : 0 ≤ s ∧ s < 17
  · exact Or.inr ⟨s.toNat, by omega, by omega⟩
  · exact Or.inl h
theorem step16_or (s : Int) : ¬ (0 ≤ s ∧ s < 16) ∨ ∃ j : Nat, s = (j : Int) ∧ j < 16 := by
  by_cases h : 0 ≤ s ∧ s < 16
  · exact Or.inr ⟨s.toNat, by omega, by omega⟩
  · exact Or.inl h
theorem pr_tolerance {l : Launch} {D : va_G} {kc : Nat → ClassId} {N : Nat} {ad : Nat → Nat} {S : St} {b : Bs} {t : Ts} (hg : vg N) (hN : N = 66 + 15 * bn b) (hI : Inv b) (hC : RC S b t) (hE : LE b t) {z : Int} (rz : r32 z) : Pair l D kc N ad S b yX3_tolerance cX3_tolerance 3 (some FieldType.int) 2 0 0 46 [.ref (ad 0), .int (iZ z)] yX4_tolerance cX4_tolerance 3 (some FieldType.int) 2 45 (fun ad => [.ref (ad 45), .int (iZ z)]) := by
  by_cases h4 : z < 0
  · exact pr_c hN (by rfl) (c_tol_4 hg hN hI hC hE rz h4) (fun N' ad' S' hm hM => d_tol_4 hm hI hM hE rz h4)
  · by_cases h6 : 100 < z
    · exact pr_c hN (by rfl) (c_tol_6 hg hN hI hC hE rz h6) (fun N' ad' S' hm hM => d_tol_6 hm hI hM hE rz h6)
    · exact pr_c hN (by rfl) (c_tol hg hN hI hC hE rz ⟨by omega, by omega⟩) (fun N' ad' S' hm hM => d_tol hm hI hM hE rz ⟨by omega, by omega⟩)
theorem pr_width {l : Launch} {D : va_G} {kc : Nat → ClassId} {N : Nat} {ad : Nat → Nat} {S : St} {b : Bs} {t : Ts} (hg : vg N) (hN : N = 66 + 15 * bn b) (hI : Inv b) (hC : RC S b t) (hE : LE b t) {v : Int} (rv : r32 v) : Pair l D kc N ad S b yX3_width cX3_width 3 (some FieldType.int) 5 0 0 126 [.ref (ad 0), .int (iZ v)] yX4_width cX4_width 3 (some FieldType.int) 2 46 (fun ad => [.ref (ad 45), .int (iZ v)]) := by
  by_cases h : 0 < thC b
  · exact pr_c hN (by rfl) (c_width_3 hg hN hI hC hE rv h) (fun N' ad' S' hm hM => d_width_3 hm hI hM hE rv h)
  · by_cases h4 : v < 1
    · exact pr_c hN (by rfl) (c_width_4 hg hN hI hC hE rv h h4) (fun N' ad' S' hm hM => d_width_4 hm hI hM hE rv h h4)
    · by_cases h6 : 1000 < v
      · exact pr_c hN (by rfl) (c_width_6 hg hN hI hC hE rv h h6) (fun N' ad' S' hm hM => d_width_6 hm hI hM hE rv h h6)
      · exact pr_c hN (by rfl) (c_width hg hN hI hC hE rv h ⟨by omega, by omega⟩) (fun N' ad' S' hm hM => d_width hm hI hM hE rv h ⟨by omega, by omega⟩)
theorem pr_crease {l : Launch} {D : va_G} {kc : Nat → ClassId} {N : Nat} {ad : Nat → Nat} {S : St} {b : Bs} {t : Ts} (hg : vg N) (hN : N = 66 + 15 * bn b) (hI : Inv b) (hC : RC S b t) (hE : LE b t) {z : Int} {s_ : Int} {w : Int} (rz : r32 z) (rs_ : r32 s_) (rw : r32 w) : Pair l D kc N ad S b yX3_crease cX3_crease 5 (some FieldType.int) 3 0 0 67 [.ref (ad 0), .int (iZ z), .int (iZ s_), .int (iZ w)] yX4_crease cX4_crease 4 (some FieldType.int) 6 166 (fun ad => [.ref (ad 45), .int (iZ z), .int (iZ s_), .int (iZ w)]) := by
  rcases isP_or hI z with hp | ⟨k, rfl, hk, ht⟩
  · exact pr_c hN (by rfl) (c_crease_p hg hN hI hC hE rz rs_ rw hp) (fun N' ad' S' hm hM => d_crease_p hm hI hM hE rz rs_ rw hp)
  · rcases step_or s_ with hs | ⟨j, rfl, hj⟩
    · exact pr_c hN (by rfl) (c_crease_s hg hN hI hC hE hk ht rs_ rw hs) (fun N' ad' S' hm hM => d_crease_s hm hI hM hE hk ht rs_ rw hs)
    · by_cases hw : w = 0 ∨ w = 1
      · exact pr_c hN (by rfl) (c_crease hg hN hI hC hE hk ht hj rw hw) (fun N' ad' S' hm hM => d_crease hm hI hM hE hk ht hj rw hw)
      · exact pr_c hN (by rfl) (c_crease_w hg hN hI hC hE hk ht hj rw hw) (fun N' ad' S' hm hM => d_crease_w hm hI hM hE hk ht hj rw hw)
theorem pr_miss {l : Launch} {D : va_G} {kc : Nat → ClassId} {N : Nat} {ad : Nat → Nat} {S : St} {b : Bs} {t : Ts} (hg : vg N) (hN : N = 66 + 15 * bn b) (hI : Inv b) (hC : RC S b t) (hE : LE b t) {z : Int} {s_ : Int} (rz : r32 z) (rs_ : r32 s_) : Pair l D kc N ad S b yX3_miss cX3_miss 4 (some FieldType.int) 3 0 0 79 [.ref (ad 0), .int (iZ z), .int (iZ s_)] yX4_miss cX4_miss 7 (some FieldType.int) 6 166 (fun ad => [.ref (ad 45), .int (iZ z), .int (iZ s_)]) := by
  rcases isP_or hI z with hp | ⟨k, rfl, hk, ht⟩
  · exact pr_c hN (by rfl) (c_miss_p hg hN hI hC hE rz rs_ hp) (fun N' ad' S' hm hM => d_miss_p hm hI hM hE rz rs_ hp)
  · rcases step_or s_ with hs | ⟨j, rfl, hj⟩
    · exact pr_c hN (by rfl) (c_miss_s hg hN hI hC hE hk ht rs_ hs) (fun N' ad' S' hm hM => d_miss_s hm hI hM hE hk ht rs_ hs)
    · exact pr_c hN (by rfl) (c_miss hg hN hI hC hE hk ht hj) (fun N' ad' S' hm hM => d_miss hm hI hM hE hk ht hj)
theorem pr_stuck {l : Launch} {D : va_G} {kc : Nat → ClassId} {N : Nat} {ad : Nat → Nat} {S : St} {b : Bs} {t : Ts} (hg : vg N) (hN : N = 66 + 15 * bn b) (hI : Inv b) (hC : RC S b t) (hE : LE b t) {z : Int} (rz : r32 z) : Pair l D kc N ad S b yX3_stuck cX3_stuck 3 (some FieldType.int) 3 0 0 67 [.ref (ad 0), .int (iZ z)] yX4_stuck cX4_stuck 2 (some FieldType.int) 7 188 (fun ad => [.ref (ad 45), .int (iZ z)]) := by
  rcases isP_or hI z with hp | ⟨k, rfl, hk, ht⟩
  · exact pr_c hN (by rfl) (c_stuck_p hg hN hI hC hE rz hp) (fun N' ad' S' hm hM => d_stuck_p hm hI hM hE rz hp)
  · exact pr_c hN (by rfl) (c_stuck hg hN hI hC hE hk ht) (fun N' ad' S' hm hM => d_stuck hm hI hM hE hk ht)
theorem pr_out {l : Launch} {D : va_G} {kc : Nat → ClassId} {N : Nat} {ad : Nat → Nat} {S : St} {b : Bs} {t : Ts} (hg : vg N) (hN : N = 66 + 15 * bn b) (hI : Inv b) (hC : RC S b t) (hE : LE b t) {s_ : Int} (rs_ : r32 s_) : Pair l D kc N ad S b yX3_out cX3_out 2 (some FieldType.int) 4 0 0 93 [.ref (ad 0), .int (iZ s_)] yX4_out cX4_out 2 (some FieldType.int) 7 190 (fun ad => [.ref (ad 45), .int (iZ s_)]) := by
  rcases step_or s_ with hs | ⟨j, rfl, hj⟩
  · exact pr_c hN (by rfl) (c_out_s hg hN hI hC hE rs_ hs) (fun N' ad' S' hm hM => d_out_s hm hI hM hE rs_ hs)
  · exact pr_c hN (by rfl) (c_out hg hN hI hC hE hj) (fun N' ad' S' hm hM => d_out hm hI hM hE hj)
theorem pr_tall {l : Launch} {D : va_G} {kc : Nat → ClassId} {N : Nat} {ad : Nat → Nat} {S : St} {b : Bs} {t : Ts} (hg : vg N) (hN : N = 66 + 15 * bn b) (hI : Inv b) (hC : RC S b t) (hE : LE b t) {s_ : Int} (rs_ : r32 s_) : Pair l D kc N ad S b yX3_tall cX3_tall 2 (some FieldType.int) 4 0 0 92 [.ref (ad 0), .int (iZ s_)] yX4_tall cX4_tall 6 (some FieldType.int) 6 166 (fun ad => [.ref (ad 45), .int (iZ s_)]) := by
  rcases step_or s_ with hs | ⟨j, rfl, hj⟩
  · exact pr_c hN (by rfl) (c_tall_s hg hN hI hC hE rs_ hs) (fun N' ad' S' hm hM => d_tall_s hm hI hM hE rs_ hs)
  · exact pr_c hN (by rfl) (c_tall hg hN hI hC hE hj) (fun N' ad' S' hm hM => d_tall hm hI hM hE hj)
theorem pr_move {l : Launch} {D : va_G} {kc : Nat → ClassId} {N : Nat} {ad : Nat → Nat} {S : St} {b : Bs} {t : Ts} (hg : vg N) (hN : N = 66 + 15 * bn b) (hI : Inv b) (hC : RC S b t) (hE : LE b t) {z : Int} {s_ : Int} (rz : r32 z) (rs_ : r32 s_) : Pair l D kc N ad S b yX3_move cX3_move 4 (some FieldType.int) 3 0 0 67 [.ref (ad 0), .int (iZ z), .int (iZ s_)] yX4_move cX4_move 3 (some FieldType.int) 6 166 (fun ad => [.ref (ad 45), .int (iZ z), .int (iZ s_)]) := by
  rcases isP_or hI z with hp | ⟨k, rfl, hk, ht⟩
  · exact pr_c hN (by rfl) (c_move_p hg hN hI hC hE rz rs_ hp) (fun N' ad' S' hm hM => d_move_p hm hI hM hE rz rs_ hp)
  · rcases step16_or s_ with hs | ⟨j, rfl, hj⟩
    · exact pr_c hN (by rfl) (c_move_s hg hN hI hC hE hk ht rs_ hs) (fun N' ad' S' hm hM => d_move_s hm hI hM hE hk ht rs_ hs)
    · exact pr_c hN (by rfl) (c_move hg hN hI hC hE hk ht hj) (fun N' ad' S' hm hM => d_move hm hI hM hE hk ht hj)
theorem pr_even {l : Launch} {D : va_G} {kc : Nat → ClassId} {N : Nat} {ad : Nat → Nat} {S : St} {b : Bs} {t : Ts} (hg : vg N) (hN : N = 66 + 15 * bn b) (hI : Inv b) (hC : RC S b t) (hE : LE b t) {z : Int} (rz : r32 z) : Pair l D kc N ad S b yX3_even cX3_even 3 (some FieldType.boolean) 3 0 0 67 [.ref (ad 0), .int (iZ z)] yX4_even cX4_even 2 (some FieldType.boolean) 6 166 (fun ad => [.ref (ad 45), .int (iZ z)]) := by
  rcases isP_or hI z with hp | ⟨k, rfl, hk, ht⟩
  · exact pr_c hN (by rfl) (c_even_p hg hN hI hC hE rz hp) (fun N' ad' S' hm hM => d_even_p hm hI hM hE rz hp)
  · exact pr_c hN (by rfl) (c_even hg hN hI hC hE hk ht) (fun N' ad' S' hm hM => d_even hm hI hM hE hk ht)
theorem pr_free {l : Launch} {D : va_G} {kc : Nat → ClassId} {N : Nat} {ad : Nat → Nat} {S : St} {b : Bs} {t : Ts} (hg : vg N) (hN : N = 66 + 15 * bn b) (hI : Inv b) (hC : RC S b t) (hE : LE b t) {z : Int} (rz : r32 z) : Pair l D kc N ad S b yX3_free cX3_free 3 (some FieldType.int) 4 0 0 92 [.ref (ad 0), .int (iZ z)] yX4_free cX4_free 2 (some FieldType.int) 3 70 (fun ad => [.ref (ad 45), .int (iZ z)]) := by
  rcases isP_or hI z with hp | ⟨k, rfl, hk, ht⟩
  · exact pr_c hN (by rfl) (c_free_p hg hN hI hC hE rz hp) (fun N' ad' S' hm hM => d_free_p hm hI hM hE rz hp)
  · by_cases h3 : 0 < hangN b k
    · exact pr_c hN (by rfl) (c_free_3 hg hN hI hC hE hk ht h3) (fun N' ad' S' hm hM => d_free_3 hm hI hM hE hk ht h3)
    · exact pr_c hN (by rfl) (c_free hg hN hI hC hE hk ht h3) (fun N' ad' S' hm hM => d_free hm hI hM hE hk ht h3)
theorem pr_hinge {l : Launch} {D : va_G} {kc : Nat → ClassId} {N : Nat} {ad : Nat → Nat} {S : St} {b : Bs} {t : Ts} (hg : vg N) (hN : N = 66 + 15 * bn b) (hI : Inv b) (hC : RC S b t) (hE : LE b t) {z : Int} {f : Int} {v : Int} (rz : r32 z) (hf : b01 f) (rv : r32 v) : Pair l D kc N ad S b yX3_hinge cX3_hinge 6 (some FieldType.int) 7 0 0 173 [.ref (ad 0), .int (iZ z), .int (iZ f), .int (iZ v)] yX4_hinge cX4_hinge 6 (some FieldType.int) 3 70 (fun ad => [.ref (ad 45), .int (iZ z), .int (iZ f), .int (iZ v)]) := by
  rcases isP_or hI z with hp | ⟨k, rfl, hk, ht⟩
  · exact pr_c hN (by rfl) (c_hinge_p hg hN hI hC hE rz hf rv hp) (fun N' ad' S' hm hM => d_hinge_p hm hI hM hE rz hf rv hp)
  · by_cases h4 : v < (if b 3 k = 1 then 1 else 0)
    · exact pr_c hN (by rfl) (c_hinge_4 hg hN hI hC hE hk ht hf rv h4) (fun N' ad' S' hm hM => d_hinge_4 hm hI hM hE hk ht hf rv h4)
    · by_cases h6 : szL b (hgU b k f) < v
      · exact pr_c hN (by rfl) (c_hinge_6 hg hN hI hC hE hk ht hf rv (Int.not_lt.mp h4) h6) (fun N' ad' S' hm hM => d_hinge_6 hm hI hM hE hk ht hf rv (Int.not_lt.mp h4) h6)
      · exact pr_c hN hgB_bn (c_hinge hg hN hI hC hE hk ht hf rv (Int.not_lt.mp h4) (Int.not_lt.mp h6)) (fun N' ad' S' hm hM => d_hinge hm hI hM hE hk ht hf rv (Int.not_lt.mp h4) (Int.not_lt.mp h6))
theorem pr_place {l : Launch} {D : va_G} {kc : Nat → ClassId} {N : Nat} {ad : Nat → Nat} {S : St} {b : Bs} {t : Ts} (hg : vg N) (hN : N = 66 + 15 * bn b) (hI : Inv b) (hC : RC S b t) (hE : LE b t) {z : Int} {n : Int} {s_ : Int} {w : Int} (rz : r32 z) (rn : r32 n) (rs_ : r32 s_) (rw : r32 w) : Pair l D kc N ad S b yX3_place cX3_place 6 (some FieldType.int) 4 0 0 102 [.ref (ad 0), .int (iZ z), .int (iZ n), .int (iZ s_), .int (iZ w)] yX4_place cX4_place 5 (some FieldType.int) 6 166 (fun ad => [.ref (ad 45), .int (iZ z), .int (iZ n), .int (iZ s_), .int (iZ w)]) := by
  rcases isL_or b z with hz | ⟨u, rfl, hu⟩
  · exact pr_c hN (by rfl) (c_place_p hg hN hI hC hE rz rn rs_ rw hz) (fun N' ad' S' hm hM => d_place_p hm hI hM hE rz rn rs_ rw hz)
  · rcases step_or s_ with hs | ⟨j, rfl, hj⟩
    · exact pr_c hN (by rfl) (c_place_s hg hN hI hC hE hu rn rs_ rw hs) (fun N' ad' S' hm hM => d_place_s hm hI hM hE hu rn rs_ rw hs)
    · by_cases hw : w = 0 ∨ w = 1
      · by_cases hn : n < 0
        · exact pr_c hN (by rfl) (c_place_4 hg hN hI hC hE hu hj rn rw hw hn) (fun N' ad' S' hm hM => d_place_4 hm hI hM hE hu hj rn rw hw hn)
        · by_cases hn2 : szL b u < n
          · exact pr_c hN (by rfl) (c_place_6 hg hN hI hC hE hu hj rn rw hw (Int.not_lt.mp hn) hn2) (fun N' ad' S' hm hM => d_place_6 hm hI hM hE hu hj rn rw hw (Int.not_lt.mp hn) hn2)
          · exact pr_c hN (by rfl) (c_place hg hN hI hC hE hu hj rn rw hw (Int.not_lt.mp hn) (Int.not_lt.mp hn2)) (fun N' ad' S' hm hM => d_place hm hI hM hE hu hj rn rw hw (Int.not_lt.mp hn) (Int.not_lt.mp hn2))
      · exact pr_c hN (by rfl) (c_place_w hg hN hI hC hE hu hj rn rw hw) (fun N' ad' S' hm hM => d_place_w hm hI hM hE hu hj rn rw hw)
theorem pr_meet {l : Launch} {D : va_G} {kc : Nat → ClassId} {N : Nat} {ad : Nat → Nat} {S : St} {b : Bs} {t : Ts} (hg : vg N) (hN : N = 66 + 15 * bn b) (hI : Inv b) (hC : RC S b t) (hE : LE b t) {z : Int} {y : Int} {s_ : Int} (rz : r32 z) (ry : r32 y) (rs_ : r32 s_) : Pair l D kc N ad S b yX3_meet cX3_meet 6 (some FieldType.int) 4 0 0 102 [.ref (ad 0), .int (iZ z), .int (iZ y), .int (iZ s_)] yX4_meet cX4_meet 4 (some FieldType.int) 7 188 (fun ad => [.ref (ad 45), .int (iZ z), .int (iZ y), .int (iZ s_)]) := by
  rcases isL_or b z with hz | ⟨u, rfl, hu⟩
  · rcases isL_or b y with hy | ⟨q, rfl, hq⟩
    · exact pr_c hN (by rfl) (c_meet_nn hg hN hI hC hE rz ry rs_ hz hy) (fun N' ad' S' hm hM => d_meet_nn hm hI hM hE rz ry rs_ hz hy)
    · exact pr_c hN (by rfl) (c_meet_ny hg hN hI hC hE rz rs_ hz hq) (fun N' ad' S' hm hM => d_meet_ny hm hI hM hE rz rs_ hz hq)
  · rcases isL_or b y with hy | ⟨q, rfl, hq⟩
    · exact pr_c hN (by rfl) (c_meet_yn hg hN hI hC hE ry rs_ hu hy) (fun N' ad' S' hm hM => d_meet_yn hm hI hM hE ry rs_ hu hy)
    · by_cases he : u = q
      · exact pr_c hN (by rfl) (c_meet_e hg hN hI hC hE rs_ hu hq he) (fun N' ad' S' hm hM => d_meet_e hm hI hM hE rs_ hu hq he)
      · rcases step_or s_ with hs | ⟨j, rfl, hj⟩
        · exact pr_c hN (by rfl) (c_meet_s hg hN hI hC hE rs_ hu hq he hs) (fun N' ad' S' hm hM => d_meet_s hm hI hM hE rs_ hu hq he hs)
        · exact pr_c hN (by rfl) (c_meet hg hN hI hC hE hj hu hq he) (fun N' ad' S' hm hM => d_meet hm hI hM hE hj hu hq he)
theorem pr_meets {l : Launch} {D : va_G} {kc : Nat → ClassId} {N : Nat} {ad : Nat → Nat} {S : St} {b : Bs} {t : Ts} (hg : vg N) (hN : N = 66 + 15 * bn b) (hI : Inv b) (hC : RC S b t) (hE : LE b t) {w : Int} (rw : r32 w) : Pair l D kc N ad S b yX3_meets cX3_meets 6 (some FieldType.int) 5 0 0 128 [.ref (ad 0), .int (iZ w)] yX4_meets cX4_meets 5 (some FieldType.int) 7 188 (fun ad => [.ref (ad 45), .int (iZ w)]) := by
  by_cases hw : 0 ≤ w ∧ w ≤ 2
  · exact pr_x (msR b t w) (fun _ _ h1 h2 => msR_uniq h1 h2) hN (c_meets hg hN hI hC hE rw hw) (fun N' ad' S' hm hM => d_meets hm hI hM hE rw hw)
  · exact pr_c hN (by rfl) (c_meets_2 hg hN hI hC hE rw (by omega)) (fun N' ad' S' hm hM => d_meets_2 hm hI hM hE rw (by omega))
theorem pr_greatest {l : Launch} {D : va_G} {kc : Nat → ClassId} {N : Nat} {ad : Nat → Nat} {S : St} {b : Bs} {t : Ts} (hg : vg N) (hN : N = 66 + 15 * bn b) (hI : Inv b) (hC : RC S b t) (hE : LE b t)   : Pair l D kc N ad S b yX3_greatest cX3_greatest 5 (some FieldType.int) 3 0 0 67 [.ref (ad 0)] yX4_greatest cX4_greatest 5 (some FieldType.int) 6 166 (fun ad => [.ref (ad 45)]) := by
  exact pr_x (gm t (DG b (bn b))) (fun _ _ h1 h2 => gm_uniq h1 h2) hN (c_greatest hg hN hI hC hE) (fun N' ad' S' hm hM => d_greatest hm hI hM hE)
theorem pr_find {l : Launch} {D : va_G} {kc : Nat → ClassId} {N : Nat} {ad : Nat → Nat} {S : St} {b : Bs} {t : Ts} (hg : vg N) (hN : N = 66 + 15 * bn b) (hI : Inv b) (hC : RC S b t) (hE : LE b t) {z : Int} {f : Int} {v : Int} {s_ : Int} {hh : Int} {tl : Int} (rz : r32 z) (hf : b01 f) (rv : r32 v) (rs_ : r32 s_) (rh : r32 hh) (rt : r32 tl) : Pair l D kc N ad S b yX3_find cX3_find 10 (some FieldType.int) 6 0 0 149 [.ref (ad 0), .int (iZ z), .int (iZ f), .int (iZ v), .int (iZ s_), .int (iZ hh), .int (iZ tl)] yX4_find cX4_find 12 (some FieldType.int) 6 166 (fun ad => [.ref (ad 45), .int (iZ z), .int (iZ f), .int (iZ v), .int (iZ s_), .int (iZ hh), .int (iZ tl)]) := by
  rcases isP_or hI z with hp | ⟨k, rfl, hk, ht⟩
  · exact pr_c hN (by rfl) (c_find_p hg hN hI hC hE rz rs_ hp hf rv rh rt) (fun N' ad' S' hm hM => d_find_p hm hI hM hE rz rs_ hp hf rv rh rt)
  · rcases step_or s_ with hs | ⟨j, rfl, hj⟩
    · exact pr_c hN (by rfl) (c_find_s hg hN hI hC hE hk ht rs_ hs hf rv rh rt) (fun N' ad' S' hm hM => d_find_s hm hI hM hE hk ht rs_ hs hf rv rh rt)
    · by_cases h4 : v < 0 ∨ tl < 0
      · exact pr_c hN (by rfl) (c_find_4 hg hN hI hC hE hk ht hj hf rv rh rt h4) (fun N' ad' S' hm hM => d_find_4 hm hI hM hE hk ht hj hf rv rh rt h4)
      · by_cases h6 : szL b (hgU b k f) < v
        · exact pr_c hN (by rfl) (c_find_6 hg hN hI hC hE hk ht hj hf rv rh rt ⟨by omega, by omega⟩ h6) (fun N' ad' S' hm hM => d_find_6 hm hI hM hE hk ht hj hf rv rh rt ⟨by omega, by omega⟩ h6)
        · exact pr_c hN (by rfl) (c_find hg hN hI hC hE hk ht hj hf rv rh rt ⟨by omega, by omega⟩ (Int.not_lt.mp h6)) (fun N' ad' S' hm hM => d_find hm hI hM hE hk ht hj hf rv rh rt ⟨by omega, by omega⟩ (Int.not_lt.mp h6))
theorem pr_partOf {l : Launch} {D : va_G} {kc : Nat → ClassId} {N : Nat} {ad : Nat → Nat} {S : St} {b : Bs} {t : Ts} (hg : vg N) (hN : N = 66 + 15 * bn b) (hI : Inv b) (hC : RC S b t) (hE : LE b t) {z : Int} {w : Int} (rz : r32 z) (rw : r32 w) : Pair l D kc N ad S b yX3_partOf cX3_partOf 4 (some FieldType.int) 4 0 0 92 [.ref (ad 0), .int (iZ z), .int (iZ w)] yX4_partOf cX4_partOf 3 (some FieldType.int) 2 49 (fun ad => [.ref (ad 45), .int (iZ z), .int (iZ w)]) := by
  by_cases hz : 0 ≤ z ∧ z < b 0 0
  · obtain ⟨k, rfl, hk⟩ : ∃ k : Nat, z = (k : Int) ∧ k < bn b := ⟨z.toNat, by omega, by have := hI.1.1; omega⟩
    by_cases hw : w < 0 ∨ 9 < w
    · exact pr_c hN (by rfl) (c_partOf_w hg hN hI hC hE hk rw hw) (fun N' ad' S' hm hM => d_partOf_w hm hI hM hE hk rw hw)
    · have hcs : w = 0 ∨ w = 1 ∨ w = 2 ∨ w = 3 ∨ w = 4 ∨ w = 5 ∨ w = 6 ∨ w = 7 ∨ w = 8 ∨ w = 9 := by omega
      rcases hcs with rfl | rfl | rfl | rfl | rfl | rfl | rfl | rfl | rfl | rfl
      · exact pr_c hN (by rfl) (c_partOf_0 hg hN hI hC hE hk) (fun N' ad' S' hm hM => d_partOf_0 hm hI hM hE hk)
      · exact pr_c hN (by rfl) (c_partOf_1 hg hN hI hC hE hk) (fun N' ad' S' hm hM => d_partOf_1 hm hI hM hE hk)
      · exact pr_c hN (by rfl) (c_partOf_2 hg hN hI hC hE hk) (fun N' ad' S' hm hM => d_partOf_2 hm hI hM hE hk)
      · exact pr_c hN (by rfl) (c_partOf_3 hg hN hI hC hE hk) (fun N' ad' S' hm hM => d_partOf_3 hm hI hM hE hk)
      · exact pr_c hN (by rfl) (c_partOf_4 hg hN hI hC hE hk) (fun N' ad' S' hm hM => d_partOf_4 hm hI hM hE hk)
      · exact pr_c hN (by rfl) (c_partOf_5 hg hN hI hC hE hk) (fun N' ad' S' hm hM => d_partOf_5 hm hI hM hE hk)
      · exact pr_c hN (by rfl) (c_partOf_6 hg hN hI hC hE hk) (fun N' ad' S' hm hM => d_partOf_6 hm hI hM hE hk)
      · exact pr_c hN (by rfl) (c_partOf_7 hg hN hI hC hE hk) (fun N' ad' S' hm hM => d_partOf_7 hm hI hM hE hk)
      · exact pr_c hN (by rfl) (c_partOf_8 hg hN hI hC hE hk) (fun N' ad' S' hm hM => d_partOf_8 hm hI hM hE hk)
      · exact pr_c hN (by rfl) (c_partOf_9 hg hN hI hC hE hk) (fun N' ad' S' hm hM => d_partOf_9 hm hI hM hE hk)
  · exact pr_c hN (by rfl) (c_partOf_p hg hN hI hC hE rz rw hz) (fun N' ad' S' hm hM => d_partOf_p hm hI hM hE rz rw hz)
theorem pr_count {l : Launch} {D : va_G} {kc : Nat → ClassId} {N : Nat} {ad : Nat → Nat} {S : St} {b : Bs} {t : Ts} (hg : vg N) (hN : N = 66 + 15 * bn b) (hI : Inv b) (hC : RC S b t) (hE : LE b t) {w : Int} (rw : r32 w) : Pair l D kc N ad S b yX3_count cX3_count 2 (some FieldType.int) 4 0 0 93 [.ref (ad 0), .int (iZ w)] yX4_count cX4_count 4 (some FieldType.int) 7 190 (fun ad => [.ref (ad 45), .int (iZ w)]) := by
  by_cases hw : w < 0 ∨ 16 < w
  · exact pr_c hN (by rfl) (c_count_w hg hN hI hC hE rw hw) (fun N' ad' S' hm hM => d_count_w hm hI hM hE rw hw)
  · have hcs : w = 0 ∨ w = 1 ∨ w = 2 ∨ w = 3 ∨ w = 4 ∨ w = 5 ∨ w = 6 ∨ w = 7 ∨ w = 8 ∨ w = 9 ∨ w = 10 ∨ w = 11 ∨ w = 12 ∨ w = 13 ∨ w = 14 ∨ w = 15 ∨ w = 16 := by omega
    rcases hcs with rfl | rfl | rfl | rfl | rfl | rfl | rfl | rfl | rfl | rfl | rfl | rfl | rfl | rfl | rfl | rfl | rfl
    · exact pr_c hN (by rfl) (c_count_0 hg hN hI hC hE) (fun N' ad' S' hm hM => d_count_0 hm hI hM hE)
    · exact pr_c hN (by rfl) (c_count_1 hg hN hI hC hE) (fun N' ad' S' hm hM => d_count_1 hm hI hM hE)
    · exact pr_c hN (by rfl) (c_count_2 hg hN hI hC hE) (fun N' ad' S' hm hM => d_count_2 hm hI hM hE)
    · exact pr_c hN (by rfl) (c_count_3 hg hN hI hC hE) (fun N' ad' S' hm hM => d_count_3 hm hI hM hE)
    · exact pr_c hN (by rfl) (c_count_4 hg hN hI hC hE) (fun N' ad' S' hm hM => d_count_4 hm hI hM hE)
    · exact pr_c hN (by rfl) (c_count_5 hg hN hI hC hE) (fun N' ad' S' hm hM => d_count_5 hm hI hM hE)
    · exact pr_c hN (by rfl) (c_count_6 hg hN hI hC hE) (fun N' ad' S' hm hM => d_count_6 hm hI hM hE)
    · exact pr_c hN (by rfl) (c_count_7 hg hN hI hC hE) (fun N' ad' S' hm hM => d_count_7 hm hI hM hE)
    · exact pr_c hN (by rfl) (c_count_8 hg hN hI hC hE) (fun N' ad' S' hm hM => d_count_8 hm hI hM hE)
    · exact pr_c hN (by rfl) (c_count_9 hg hN hI hC hE) (fun N' ad' S' hm hM => d_count_9 hm hI hM hE)
    · exact pr_c hN (by rfl) (c_count_10 hg hN hI hC hE) (fun N' ad' S' hm hM => d_count_10 hm hI hM hE)
    · exact pr_c hN (by rfl) (c_count_11 hg hN hI hC hE) (fun N' ad' S' hm hM => d_count_11 hm hI hM hE)
    · exact pr_c hN (by rfl) (c_count_12 hg hN hI hC hE) (fun N' ad' S' hm hM => d_count_12 hm hI hM hE)
    · exact pr_c hN (by rfl) (c_count_13 hg hN hI hC hE) (fun N' ad' S' hm hM => d_count_13 hm hI hM hE)
    · exact pr_c hN (by rfl) (c_count_14 hg hN hI hC hE) (fun N' ad' S' hm hM => d_count_14 hm hI hM hE)
    · exact pr_c hN (by rfl) (c_count_15 hg hN hI hC hE) (fun N' ad' S' hm hM => d_count_15 hm hI hM hE)
    · exact pr_c hN (by rfl) (c_count_16 hg hN hI hC hE) (fun N' ad' S' hm hM => d_count_16 hm hI hM hE)
theorem pr_part {l : Launch} {D : va_G} {kc : Nat → ClassId} {N : Nat} {ad : Nat → Nat} {S : St} {b : Bs} {t : Ts} (hg : vg N) (hN : N = 66 + 15 * bn b) (hI : Inv b) (hC : RC S b t) (hE : LE b t) {kd : Int} {z : Int} {a : Int} {y : Int} {b_ : Int} {c_ : Int} {d_ : Int} {f : Int} (rk : r32 kd) (rz : r32 z) (ra : r32 a) (ry : r32 y) (rb : r32 b_) (rc : r32 c_) (rd : r32 d_) (hf : b01 f) : Pair l D kc N ad S b yX3_part cX3_part 10 (some FieldType.int) 8 15 184 195 [.ref (ad 0), .int (iZ kd), .int (iZ z), .int (iZ a), .int (iZ y), .int (iZ b_), .int (iZ c_), .int (iZ d_), .int (iZ f)] yX4_part cX4_part 15 (some FieldType.int) 6 166 (fun ad => [.ref (ad 45), .int (iZ kd), .int (iZ z), .int (iZ a), .int (iZ y), .int (iZ b_), .int (iZ c_), .int (iZ d_), .int (iZ f)]) := by
  rcases isL_or b z with hz | ⟨u, rfl, hu⟩
  · rcases isL_or b y with hy | ⟨q, rfl, hq⟩
    · exact pr_g (c_part_nn hg hN hI hC hE rz ry hz hy rk ra rb rc rd hf) (fun N' ad' S' hm hM => d_part_nn hm hI hM hE rz ry hz hy rk ra rb rc rd hf)
    · exact pr_g (c_part_ny hg hN hI hC hE rz hz hq rk ra rb rc rd hf) (fun N' ad' S' hm hM => d_part_ny hm hI hM hE rz hz hq rk ra rb rc rd hf)
  · rcases isL_or b y with hy | ⟨q, rfl, hq⟩
    · exact pr_g (c_part_yn hg hN hI hC hE ry hu hy rk ra rb rc rd hf) (fun N' ad' S' hm hM => d_part_yn hm hI hM hE ry hu hy rk ra rb rc rd hf)
    · by_cases he : u = q
      · exact pr_g (c_part_e hg hN hI hC hE hu hq he rk ra rb rc rd hf) (fun N' ad' S' hm hM => d_part_e hm hI hM hE hu hq he rk ra rb rc rd hf)
      · by_cases hk : 0 ≤ kd ∧ kd ≤ 2
        · by_cases h4 : gdP kd a b_ c_ d_
          · by_cases h6 : rmP b kd u a q b_ c_ d_
            · by_cases h2 : kd = 2
              · by_cases h3 : PS t 16 u = 0 ∧ PS t 16 q = 0
                · by_cases h7 : 1000 < stL b t u a q b_ c_
                  · exact pr_g (c_part_7 hg hN hI hC hE hu hq he rk ra rb rc rd hf hk h4 h6 h2 h3 h7) (fun N' ad' S' hm hM => d_part_7 hm hI hM hE hu hq he rk ra rb rc rd hf hk h4 h6 h2 h3 h7)
                  · exact pr_g (c_part_o2 hg hN hI hC hE hu hq he rk ra rb rc rd hf hk h4 h6 h2 h3 (Int.not_lt.mp h7)) (fun N' ad' S' hm hM => d_part_o2 hm hI hM hE hu hq he rk ra rb rc rd hf hk h4 h6 h2 h3 (Int.not_lt.mp h7))
                · exact pr_g (c_part_3 hg hN hI hC hE hu hq he rk ra rb rc rd hf hk h4 h6 h2 h3) (fun N' ad' S' hm hM => d_part_3 hm hI hM hE hu hq he rk ra rb rc rd hf hk h4 h6 h2 h3)
              · by_cases h1 : kd = 1
                · exact pr_g (c_part_o1 hg hN hI hC hE hu hq he rk ra rb rc rd hf hk h4 h6 h1) (fun N' ad' S' hm hM => d_part_o1 hm hI hM hE hu hq he rk ra rb rc rd hf hk h4 h6 h1)
                · exact pr_g (c_part_o0 hg hN hI hC hE hu hq he rk ra rb rc rd hf hk h4 h6 (by omega)) (fun N' ad' S' hm hM => d_part_o0 hm hI hM hE hu hq he rk ra rb rc rd hf hk h4 h6 (by omega))
            · exact pr_g (c_part_6 hg hN hI hC hE hu hq he rk ra rb rc rd hf hk h4 h6) (fun N' ad' S' hm hM => d_part_6 hm hI hM hE hu hq he rk ra rb rc rd hf hk h4 h6)
          · exact pr_g (c_part_4 hg hN hI hC hE hu hq he rk ra rb rc rd hf hk h4) (fun N' ad' S' hm hM => d_part_4 hm hI hM hE hu hq he rk ra rb rc rd hf hk h4)
        · exact pr_g (c_part_2 hg hN hI hC hE hu hq he rk ra rb rc rd hf (by omega)) (fun N' ad' S' hm hM => d_part_2 hm hI hM hE hu hq he rk ra rb rc rd hf (by omega))
