def ptB (b : Bs) (kd : Int) (u : Nat) (a : Int) (q : Nat) (b_ c d f : Int) : Bs := upB (upB (upB (upB (upB (upB (upB (upB (upB (upB b 0 0 (b 0 0 + 1)) 3 (bn b) kd) 4 (2 * bn b) u) 4 (2 * bn b + 1) q) 5 (2 * bn b) a) 5 (2 * bn b + 1) b_) 6 (2 * bn b) c) 6 (2 * bn b + 1) d) 7 (bn b) f) 8 (bn b) 1
def ptS (S : St) (b : Bs) (kd : Int) (u : Nat) (a : Int) (q : Nat) (b_ c d f : Int) : St := pA (pA (pA (pA (pA (pA (pA (pA (pA (pI S 45 2 (iZ (b 0 0 + 1))) 46 (bn b) (iZ kd)) 47 (2 * bn b) (iZ (u : Int))) 47 (2 * bn b + 1) (iZ (q : Int))) 48 (2 * bn b) (iZ a)) 48 (2 * bn b + 1) (iZ b_)) 49 (2 * bn b) (iZ c)) 49 (2 * bn b + 1) (iZ d)) 50 (bn b) (iZ f)) 51 (bn b) (iZ 1)
theorem ptB_bn {b : Bs} (hI : Inv b) {kd a b_ c d f : Int} {u q : Nat} : bn (ptB b kd u a q b_ c d f) = bn b + 1 := by
  have h := hI.1.1
  have e : ptB b kd u a q b_ c d f 0 0 = b 0 0 + 1 := by simp [ptB, upB]
  show (ptB b kd u a q b_ c d f 0 0).toNat = _
  rw [e]; omega
theorem ptS_C {S : St} {b : Bs} {kd a b_ c d f : Int} {u q : Nat} : sameOn atC S (ptS S b kd u a q b_ c d f) := by
  have n : ∀ i, 45 ≤ i → i < 66 → ¬ atC i := fun i h1 h2 h => by unfold atC at h; omega
  unfold ptS
  exact (((((((((same_pI (n _ (by decide) (by decide))).tr (same_pA (n _ (by decide) (by decide)))).tr (same_pA (n _ (by decide) (by decide)))).tr (same_pA (n _ (by decide) (by decide)))).tr (same_pA (n _ (by decide) (by decide)))).tr (same_pA (n _ (by decide) (by decide)))).tr (same_pA (n _ (by decide) (by decide)))).tr (same_pA (n _ (by decide) (by decide)))).tr (same_pA (n _ (by decide) (by decide)))).tr (same_pA (n _ (by decide) (by decide)))
theorem ptS_RM {S : St} {b : Bs} (hI : Inv b) (hM : RM S b) {kd a b_ c d f : Int} {u q : Nat} : RM (ptS S b kd u a q b_ c d f) (ptB b kd u a q b_ c d f) := by
  obtain ⟨⟨a1, a2, a3⟩, c1, d1, e1, g1⟩ := hM
  refine ⟨⟨?_, ?_, ?_⟩, fun k hk => ?_, fun i hi => ?_, fun r hr => ?_, fun i hi => ?_⟩
  · simp [ptS, ptB, upB, gI_pI, gI_pA, a1]
  · simp [ptS, ptB, upB, gI_pI, gI_pA, a2]
  · simp [ptS, ptB, upB, gI_pI, gI_pA]
  · rw [ptB_bn hI] at hk
    by_cases z : k = bn b
    · simp [ptS, ptB, upB, gA_pA, z]
    · have := c1 k (by omega)
      simp [ptS, ptB, upB, gA_pA, gA_pI, z, this]
  · rw [ptB_bn hI] at hi
    by_cases z : i = 2 * bn b
    · simp [ptS, ptB, upB, gA_pA, z]
    · by_cases z2 : i = 2 * bn b + 1
      · simp [ptS, ptB, upB, gA_pA, z2]
      · have := d1 i (by omega)
        simp [ptS, ptB, upB, gA_pA, gA_pI, z, z2, this]
  · simp [ptS, ptB, upB, gA_pA, gA_pI, e1 r hr]
  · simp [ptS, ptB, upB, gA_pA, gA_pI, g1 i hi]