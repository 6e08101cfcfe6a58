/-! ADD: the part is made -/
section GW
variable {p : Program} {l : Launch} {e : Env} {R : Room} {s : State} {m : MethodId} {args : Array Value} {below : List Frame} {meth : Method} {c : Code} {Q : State → Prop} {D : va_G} {A : Nat → Prop} {nL cells slots : Nat} {ws ws' : va_W} {lv : List (Nat × Value)} {st : List Value}
theorem v_world {pc : Nat} (hp : ∀ H, va_P D vwCl ws H → va_P D vwCl ws' H) (hd : va_D A ws → va_D A ws') (k : V p l e R s m args below meth c Q D A nL cells slots ws' pc lv st) : V p l e R s m args below meth c Q D A nL cells slots ws pc lv st := fun H locs ls hl hP hD hS => k H locs ls hl (hp H hP) (hd hD) hS
theorem v_eqlv {pc : Nat} (lv' : List (Nat × Value)) (h : lv = lv') (k : V p l e R s m args below meth c Q D A nL cells slots ws pc lv' st) : V p l e R s m args below meth c Q D A nL cells slots ws pc lv st := by subst h; exact k
end GW
def pQ (kc : Nat → ClassId) (N : Nat) (ad : Nat → Nat) (S : St) (R : Int) (b' : Bs) : Int32 → va_W → Prop := fun r ws' => r = iZ R ∧ ∃ (ad' : Nat → Nat) (S' : St) (t' : Ts), ws' = wl kc (N + 15) ad' S' ∧ (∀ i, i < N → ad' i = ad i) ∧ RC S' b' t' ∧ LE b' t' ∧ Inv b' ∧ sameOn atM S S'
theorem made_new {N : Nat} {S : St} {b : Bs} {kd a b_ c d f u q : Int} (hN : 66 ≤ N) (h : gI S 0 7 = iZ (b 0 0)) : gI (pR (pI (likeT (stG N S) (66 + 15 * bn b) kd u a q b_ c d f) (66 + 15 * bn b) 11 (iZ 1)) 1 (bn b) (some (66 + 15 * bn b))) 0 7 = iZ (b 0 0) := by
  unfold likeT cutT hangT
  rw [gI_pR, gI_pI, if_neg (by omega), gI_pI, if_neg (by omega), gI_pI, if_neg (by omega), gI_pI, if_neg (by omega), gI_pI, if_neg (by omega), gI_pI, if_neg (by omega), gI_pI, if_neg (by omega), gI_pI, if_neg (by omega), gI_pI, if_neg (by omega), stG_I (by omega)]
  exact h
set_option maxHeartbeats 4000000 in
set_option maxRecDepth 100000 in
theorem m_addTrial {l : Launch} {D : va_G} {kc : Nat → ClassId} {N : Nat} {ad : Nat → Nat} {S : St} {b : Bs} {t : Ts} (hg : vg N) (hN : N = 66 + 15 * bn b) (hI : Inv b) (hC : RC S b t) (hE : LE b t) {u q : Nat} (hu : thL b u) (hq : thL b q) {kd a b_ cF dF f : Int} (hn : bn b < 30) (hk : 0 ≤ kd ∧ kd ≤ 2) (ha : 0 ≤ a ∧ a ≤ 1000) (hb : 0 ≤ b_ ∧ b_ ≤ 1000) (hc : 1 ≤ cF ∧ cF ≤ 1000) (hd : 1 ≤ dF ∧ dF ≤ 1000) (hf : b01 f) (h1 : kd = 1 → cF = b_ ∧ dF = a) (hT : TJ S kd (u : Int) a (q : Int) b_ cF dF f) : MetK l yX3_addTrial cX3_addTrial 3 (some FieldType.int) 7 15 184 173 D kc (wl kc N ad S) [.ref (ad 0)] (QI D kc (wl kc N ad S) (pQ kc N ad S (bn b : Int) (ptB b kd u a q b_ cF dF f))) := by
  refine MetK.of (by decide +kernel) (Nat.le_of_ble_eq_true rfl) ?_
  intro p e s m below meth c C
  have hA : ∀ q, s.heap.size ≤ q → va_A (wl kc N ad S) s.heap.size q := fun _ h => Or.inr h
  show V p l e { frames := 7, cells := 15, slots := 184, locals := 173 } s m ([.ref (ad 0)] : List Value).toArray below meth c (MQ below (QI D kc (wl kc N ad S) (pQ kc N ad S (bn b : Int) (ptB b kd u a q b_ cF dF f)) s.heap.size) ([.ref (ad 0)] : List Value).toArray s 15 184 (va_A (wl kc N ad S) s.heap.size)) D (va_A (wl kc N ad S) s.heap.size) 3 0 0 (wl kc N ad S) 0 [(0, .ref (ad 0))] []
  have hP := hC.1
  have hW := hC.2.1
  have hEn := hC.2.2.1
  have hR := hC.2.2.2
  have hb0 := hI.1
  have h62u := thL_62 hI hu
  have h62q := thL_62 hI hq
  refine v_aload_n 0 0 C dX3_addTrial_0 rfl ?_
  refine g_Pg_made 1 C (vg.o hg).1 (vg.o hg).2 lk_216 dX3_addTrial_1 ?_
  refine v_eqi (iZ (b 0 0)) (hP.1.2.2) ?_
  refine v_eqi (iZ (bn b : Int)) (congrArg iZ hI.1.1) ?_
  refine v_istore_n 4 [(1, .int (iZ (bn b : Int))), (0, .ref (ad 0))] C dX3_addTrial_4 (by decide) rfl ?_
  refine v_iload_n 5 0 C dX3_addTrial_5 rfl ?_
  refine z_if_lt 6 15 C (by first | assumption | exact ⟨by omega, by omega⟩) dX3_addTrial_6 (by decide) (fun c6_0 => absurd c6_0 (by omega)) (fun c6_0 => ?_)
  refine v_iload_n 9 0 C dX3_addTrial_9 rfl ?_
  refine v_bipush 10 C (iZ 30) dX3_addTrial_10 (by decide) ?_
  refine z_icmp_lt 12 22 C (by first | assumption | exact ⟨by omega, by omega⟩) (by first | assumption | exact ⟨by omega, by omega⟩) dX3_addTrial_12 (by decide) (fun c12_1 => ?_) (fun c12_1 => absurd (by omega) c12_1)
  refine n_new 22 C hA (ci := 0) (fs := [.null, .null, .null, .null, .null, .int 0, .int 0, .int 0, .int 0, .int 0, .int 0, .int 0]) rfl inGX0 tyX0 tyX0_ok lk_61 lk_65 lk_48 ndX0 ⟨Nat.le_of_ble_eq_true rfl, Nat.le_of_ble_eq_true rfl⟩ dX3_addTrial_22 (fun qa => ?_)
  refine v_dup 25 C dX3_addTrial_25 rfl ?_
  refine v_callv 26 hA (rIN 26 C LN_yX0_init C.2.2.2.2.2.1.2.1 rfl lk_67 (i_Part (wl kc N ad S) qa) rfl rfl (rm_ok rfl) dX3_addTrial_26) (fun w_26 h_26 => ?_)
  obtain ⟨g, rfl⟩ := h_26
  subst hN
  obtain ⟨ad2, had⟩ : ∃ ad2, ad2 = adG (66 + 15 * bn b) ad qa g := ⟨_, rfl⟩
  have hlo : ∀ i, i < 66 + 15 * bn b → ad2 i = ad i := fun i h => by rw [had]; exact adG_lo h
  have haN : ad2 (66 + 15 * bn b) = qa := by rw [had]; exact adG_N
  refine v_world (fun H h => grow_P hP h) (fun h => grow_D (D := D) hP h) ?_
  rw [← had]
  refine v_eqv (.ref (ad2 (66 + 15 * bn b))) (by rw [haN]) ?_
  refine v_eqlv [(1, .int (iZ (bn b : Int))), (0, .ref (ad2 0))] (by rw [hlo 0 (by omega)]) ?_
  have hg2 : vg (66 + 15 * bn b + 15) := Nat.le_trans hg (by omega)
  have hv2 : vp (66 + 15 * bn b + 15) (66 + 15 * bn b) := vp_part (bn b) (by omega)
  have hI2 : Inv (ptB b kd u a q b_ cF dF f) := ptInv hI hn hk hu hq ha hb hc hd hf h1
  refine v_astore_n 29 [(2, .ref (ad2 (66 + 15 * bn b))), (1, .int (iZ (bn b : Int))), (0, .ref (ad2 0))] C dX3_addTrial_29 (by decide) rfl ?_
  refine v_aload_n 30 0 C dX3_addTrial_30 rfl ?_
  refine v_aload_n 31 2 C dX3_addTrial_31 rfl ?_
  refine g_Pg_trial 32 C (vg.o hg2).1 (vg.o hg2).2 lk_212 dX3_addTrial_32 ?_
  refine v_callv 35 hA (rV_Pt 35 C L_RX3_183 lk_303 lk_304 (m_likenTo (i := 66 + 15 * bn b) (k0 := 4) hv2 (vg.t hg2) (by omega) ((stG_I (by omega)).trans hT.1) ((stG_I (by omega)).trans hT.2.1) ((stG_I (by omega)).trans hT.2.2.1) ((stG_I (by omega)).trans hT.2.2.2.1) ((stG_I (by omega)).trans hT.2.2.2.2.1) ((stG_I (by omega)).trans hT.2.2.2.2.2.1) ((stG_I (by omega)).trans hT.2.2.2.2.2.2.1) ((stG_I (by omega)).trans hT.2.2.2.2.2.2.2) hf) (vp.o hv2) rfl ⟨rfl, rfl⟩ (rm_ok rfl) dX3_addTrial_35) (fun w2 h3 => ?_)
  obtain rfl := h3
  refine v_aload_n 38 0 C dX3_addTrial_38 rfl ?_
  refine v_iconst 39 C (iZ 1) dX3_addTrial_39 rfl ?_
  refine s_Pt_there 40 C (vp.o hv2).1 (vp.o hv2).2 (zn01 (Or.inr rfl)) (zf01 (Or.inr rfl)) lk_144 dX3_addTrial_40 ?_
  refine v_aload_n 43 2 C dX3_addTrial_43 rfl ?_
  refine g_Pg_parts 44 C (vg.o hg2).1 (vg.o hg2).2 lk_209 dX3_addTrial_44 ?_
  refine v_iload_n 47 1 C dX3_addTrial_47 rfl ?_
  refine v_aload_n 48 0 C dX3_addTrial_48 rfl ?_
  refine v_aastP 49 C (vg.p hg2).1 (vg.p hg2).2 (bn b) (izn rfl) (by omega) (vp.o hv2) dX3_addTrial_49 ?_
  refine v_aload_n 50 2 C dX3_addTrial_50 rfl ?_
  refine v_dup 51 C dX3_addTrial_51 rfl ?_
  refine g_Pg_made 52 C (vg.o hg2).1 (vg.o hg2).2 lk_216 dX3_addTrial_52 ?_
  refine v_eqi (iZ (b 0 0)) (made_new (by omega) hP.1.2.2) ?_
  refine v_iconst 55 C (iZ 1) dX3_addTrial_55 rfl ?_
  refine z_iadd 56 C dX3_addTrial_56 ?_
  refine s_Pg_made 57 C (vg.o hg2).1 (vg.o hg2).2 lk_216 dX3_addTrial_57 ?_
  refine v_aload_n 60 2 C dX3_addTrial_60 rfl ?_
  refine v_iload_n 61 1 C dX3_addTrial_61 rfl ?_
  refine v_aload_n 62 0 C dX3_addTrial_62 rfl ?_
  refine g_Pt_flatA 63 C (vp.o hv2).1 (vp.o hv2).2 lk_129 dX3_addTrial_63 ?_
  refine v_aload_n 66 0 C dX3_addTrial_66 rfl ?_
  refine g_Pt_flatB 67 C (vp.o hv2).1 (vp.o hv2).2 lk_131 dX3_addTrial_67 ?_
  refine v_callv 70 hA (rV_Pg 70 C L_RX3_100 lk_309 lk_10 (m_putPlanes (k := bn b) hg2 (by omega) hv2) (vg.o hg2) rfl ⟨rfl, rfl⟩ (rm_ok rfl) dX3_addTrial_70) (fun w5 h6 => ?_)
  obtain rfl := h6
  refine v_eqw (ws' := wl kc (66 + 15 * bn b + 15) ad2 (newS (66 + 15 * bn b) S b kd u a q b_ cF dF f)) rfl ?_
  refine v_aload_n 73 2 C dX3_addTrial_73 rfl ?_
  refine v_iload_n 74 1 C dX3_addTrial_74 rfl ?_
  refine v_callv 75 hA (rV_Pg 75 C L_RX3_121 lk_313 lk_11 (m_settleFrom (b := ptB b kd u a q b_ cF dF f) (t := t) (k := bn b) hg2 (by rw [ptB_bn hI]; omega) hI2 (by rw [ptB_bn hI]; omega) (new_SF rfl hI hC hE)) (vg.o hg2) rfl ⟨rfl, rfl⟩ (rm_ok rfl) dX3_addTrial_75) (fun w8 h9 => ?_)
  obtain ⟨S9, t9, rfl, g1, g2, g3⟩ := h9
  refine v_iload_n 78 1 C dX3_addTrial_78 rfl ?_
  exact v_iret 79 C (⟨rfl, ad2, S9, t9, rfl, hlo, g1, g2, hI2, (newS_M (by omega)).tr g3⟩) dX3_addTrial_79

