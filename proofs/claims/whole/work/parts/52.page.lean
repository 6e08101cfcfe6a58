/-! THE PAGE, MADE -/
def WX (tX tY : Nat) (A : Nat → Prop) (U : State) (H : Heap) : Prop := (va_AO "RisingPage$Part" U ∧ va_AO "RisingPage$Plane" U) ∧ (va_Z "RisingPage" "WAY_X" "[I" (.ref tX) A U H ∧ va_T .int tX 17 (fun j => .int (iZ (wx j))) A U H) ∧ (va_Z "RisingPage" "WAY_Y" "[I" (.ref tY) A U H ∧ va_T .int tY 17 (fun j => .int (iZ (wy j))) A U H)
theorem WX.moved {tX tY : Nat} {A : Nat → Prop} {u U : State} {H : Heap} (hvm : u.vm.Alike U.vm) (h : WX tX tY A u H) : WX tX tY A U H := ⟨⟨va_AO.moved hvm h.1.1, va_AO.moved hvm h.1.2⟩, ⟨va_Z.moved hvm h.2.1.1, va_T.moved hvm h.2.1.2⟩, ⟨va_Z.moved hvm h.2.2.1, va_T.moved hvm h.2.2.2⟩⟩
theorem WX.narrow {tX tY : Nat} {A B : Nat → Prop} {U : State} {H : Heap} (h : WX tX tY A U H) (hAB : ∀ q, B q → A q) : WX tX tY B U H := ⟨h.1, ⟨va_Z.narrow h.2.1.1 hAB, va_T.narrow h.2.1.2 hAB⟩, ⟨va_Z.narrow h.2.2.1 hAB, va_T.narrow h.2.2.2 hAB⟩⟩
theorem WX.kept {tX tY : Nat} {A : Nat → Prop} {U : State} {H H1 : Heap} (h : WX tX tY A U H) (hq : ∀ a : Nat, a < H.size → ¬ A a → H1[a]? = H[a]?) : WX tX tY A U H1 := ⟨h.1, ⟨va_Z.kept h.2.1.1 hq, va_T.kept h.2.1.2 hq⟩, ⟨va_Z.kept h.2.2.1 hq, va_T.kept h.2.2.2 hq⟩⟩
theorem MetX.of {l : Launch} {y : MethodName} {by_ : ByteArray} {mL : Nat} {rt : Option FieldType} {fr mc ms lo : Nat} {D : va_G} {kc : Nat → ClassId} {ws : va_W} {av : List Value} {X : Nat → State → Prop} {Qc : Nat → Array Value → State → Outcome → State → Prop} (hy : plainFor y = true) (hlen : (lg_sl av).length ≤ mL)
    (body : ∀ (p : Program) (e : Env) (s : State) (m : MethodId) (below : List Frame) (meth : Method) (c : Code), Cx p s m av.toArray meth c by_ y.cls mL rt D kc → meth.name = y.name → X s.heap.size s → V p l e { frames := fr, cells := mc, slots := ms, locals := lo } s m av.toArray below meth c (MQ below (Qc s.heap.size) av.toArray s mc ms (va_A ws s.heap.size)) D (va_A ws s.heap.size) mL 0 0 ws 0 (lv_args 0 av) []) (sz : Nat) : Met l y (Cond.code y by_ mL rt :: wsG) { frames := fr, cells := mc, slots := ms, locals := lo } (va_Pc av (fun U => Kpre D kc ws sz U ∧ X sz U)) (Qc sz) mc ms (va_A ws sz) := by
  refine Met.ofWF (cc := by_) (maxL := mL) (ret := rt) hy rfl ?_
  intro p e s m args below meth c s₁ B hml hv
  obtain ⟨rfl, ⟨hsz, hP, hK, hD0⟩, hX⟩ := hv
  have hts := atoms_spec (ws := Cond.code y by_ mL rt :: wsG) B.pre
  have hown : s.vm.findClass y.cls = some m.cls := findClass_of_methodNamed B.named
  subst hsz
  have hl := lv_entry av (n := mL) hlen
  rw [lg_entry_eq]
  exact body p e s m below meth c ⟨B.exec, B.bytes, hml, hown, fun w hw => hts w (List.mem_cons_of_mem _ hw), hK, B.returns, B.notSynchronized⟩ (name_of_methodNamed B.named B.method).1 hX s.heap [] _ hl hP (hD0.self (sz := s.heap.size)) va_S.rf
def Z0 : St := (fun _ _ => 0, fun _ _ => 0, fun _ _ => 0, fun _ _ => 0, fun _ _ => none)
def stH (n : Nat) (S : St) : St := (fun i k => if i < n then gI S i k else 0, fun i k => if i < n then gA S i k else 0, fun i k => if i < n then gL S i k else 0, fun i k => if i < n then gJ S i k else 0, fun i k => gR S i k)
def adE (n : Nat) (ad : Nat → Nat) (L : List Nat) : Nat → Nat := fun i => if i < n then ad i else L.getD (i - n) 0
theorem stH_I {n : Nat} {S : St} {i k : Nat} (h : i < n) : gI (stH n S) i k = gI S i k := by show (if i < n then gI S i k else 0) = _; rw [if_pos h]
theorem stH_A {n : Nat} {S : St} {i k : Nat} (h : i < n) : gA (stH n S) i k = gA S i k := by show (if i < n then gA S i k else 0) = _; rw [if_pos h]
theorem stH_I0 {n : Nat} {S : St} {i k : Nat} (h : n ≤ i) : gI (stH n S) i k = 0 := by show (if i < n then gI S i k else 0) = _; rw [if_neg (by omega)]
theorem stH_A0 {n : Nat} {S : St} {i k : Nat} (h : n ≤ i) : gA (stH n S) i k = 0 := by show (if i < n then gA S i k else 0) = _; rw [if_neg (by omega)]
theorem adE_lo {n : Nat} {ad : Nat → Nat} {L : List Nat} {i : Nat} (h : i < n) : adE n ad L i = ad i := by unfold adE; rw [if_pos h]
/-- the numbers of the cells that a cell names -/
def rfs (i : Nat) : List Nat := match kd i with
  | 0 => [1, 2, 3, 4, 19]
  | 4 => [i + 1, i + 5, i + 9, i + 13, i + 14]
  | 5 => [i + 1, i + 2, i + 3]
  | 8 => [pb i, pe i, pm i]
  | 9 => [46, 47, 48, 49, 50, 51, 52, 53, 54, 55, 56, 57, 58, 59, 60, 61, 62, 63, 64, 65]
  | _ => []
theorem cell_gr {kc : Nat → ClassId} {N i : Nat} {ad ad' : Nat → Nat} {S S' : St} (ha : ∀ j, j < N → ad' j = ad j) (hb : ∀ j ∈ rfs i, j < N) (h1 : ∀ k, gI S' i k = gI S i k) (h2 : ∀ k, gA S' i k = gA S i k) (h3 : ∀ k, gL S' i k = gL S i k) (h4 : ∀ k, gJ S' i k = gJ S i k) (h5 : kd i = 1 ∨ kd i = 2 → ∀ k, (gR S' i k).map ad' = (gR S i k).map ad) : cellf kc ad' S' i = cellf kc ad S i := by
  have key : ∀ K, kd i = K → cellK kc ad' S' i K = cellK kc ad S i K := by
    intro K hK
    unfold rfs at hb
    rw [hK] at hb
    unfold cellK
    split
    · simp only [List.forall_mem_cons] at hb
      obtain ⟨c1, c2, c3, c4, c5, -⟩ := hb
      rw [ha _ c1, ha _ c2, ha _ c3, ha _ c4, ha _ c5, h1, h1, h1]
    · simp only [h5 (Or.inl hK)]
    · simp only [h5 (Or.inr hK)]
    · simp only [List.forall_mem_cons] at hb
      obtain ⟨c1, c2, c3, c4, c5, -⟩ := hb
      rw [ha _ c1, ha _ c2, ha _ c3, ha _ c4, ha _ c5, h1, h1, h1, h1, h1, h1, h1]
    · simp only [List.forall_mem_cons] at hb
      obtain ⟨c1, c2, c3, -⟩ := hb
      rw [ha _ c1, ha _ c2, ha _ c3]
    · simp only [h2]
    · simp only [h2]
    · simp only [List.forall_mem_cons] at hb
      obtain ⟨c1, c2, c3, -⟩ := hb
      rw [ha _ c1, ha _ c2, ha _ c3, h1]
    · simp only [List.forall_mem_cons] at hb
      obtain ⟨c1, c2, c3, c4, c5, c6, c7, c8, c9, c10, c11, c12, c13, c14, c15, c16, c17, c18, c19, c20, -⟩ := hb
      rw [ha _ c1, ha _ c2, ha _ c3, ha _ c4, ha _ c5, ha _ c6, ha _ c7, ha _ c8, ha _ c9, ha _ c10, ha _ c11, ha _ c12, ha _ c13, ha _ c14, ha _ c15, ha _ c16, ha _ c17, ha _ c18, ha _ c19, ha _ c20]
      simp only [h1, h3]
    · simp only [h4]
  exact key _ rfl
theorem wl_app {kc : Nat → ClassId} {n k : Nat} {ad ad' : Nat → Nat} {S S' : St} {l : va_W} (ha : ∀ i, i < n → ad' i = ad i) (hc : ∀ i, i < n → cellf kc ad' S' i = cellf kc ad S i) (hl : l = (List.range k).map (fun j => (ad' (n + j), cellf kc ad' S' (n + j)))) : wl kc n ad S ++ l = wl kc (n + k) ad' S' := by
  unfold wl
  rw [List.range_add, List.map_append, hl, List.map_map]
  congr 1
  refine List.map_congr_left (fun i hi => ?_)
  have := List.mem_range.mp hi
  rw [ha i this, hc i this]
section PR
variable {p : Program} {l : Launch} {e : Env} {R : Room} {s : State} {m : MethodId} {args : Array Value} {below : List Frame} {meth : Method} {c : Code} {Q : State → Prop} {D : va_G} {kc : Nat → ClassId} {A : Nat → Prop} {nL cells slots : Nat} {ws ws0 : va_W} {lv : List (Nat × Value)} {st : List Value} {cc : ByteArray} {own : String} {ret : Option FieldType}
theorem n_gets (pc : Nat) (C : Cx p s m args meth c cc own nL ret D kc) {nm : String} {t idx : Nat} (hZ : va_Z "RisingPage" nm "[I" (.ref t) A s s.heap) (hlink : Cond.fieldLink own idx "RisingPage" nm "[I" ∈ wsG) (hd : decode cc pc = .ok (.getstatic idx, 3)) (k : V p l e R s m args below meth c Q D A nL cells slots ws (pc + 3) lv (.ref t :: st)) : V p l e R s m args below meth c Q D A nL cells slots ws pc lv st := fun H locs ls hl hP hD hS => va_gets C.1 C.2.1 hZ hS C.2.2.2.1 (C.2.2.2.2.1 _ hlink) (fun _ h => h) hd (k H locs ls hl hP hD hS)
theorem n_ti (pc : Nat) (C : Cx p s m args meth c cc own nL ret D kc) {t n : Nat} {f : Nat → Int32} (hT : va_T .int t n (fun j => .int (f j)) A s s.heap) {x : Int32} (j : Nat) (hx : x = nI j) (hj : j < n) (hn : n < 1000) (hd : decode cc pc = .ok (.iaload, 1)) (k : V p l e R s m args below meth c Q D A nL cells slots ws (pc + 1) lv (.int (f j) :: st)) : V p l e R s m args below meth c Q D A nL cells slots ws pc lv (.int x :: .ref t :: st) := fun H locs ls hl hP hD hS => va_ti C.1 C.2.1 hT hS (by rw [hx]; exact vp_in_nI hj (show n < 2 ^ 31 by omega)) (v := .int (f j)) (by rw [hx, nI_clamp (show j < 2 ^ 31 by omega)]) hd (k H locs ls hl hP hD hS)
theorem v_eqst {pc : Nat} (st' : List Value) (h : st = st') (k : V p l e R s m args below meth c Q D A nL cells slots ws pc lv st') : V p l e R s m args below meth c Q D A nL cells slots ws pc lv st := by subst h; exact k
end PR
/-- while the ways are laid down -/
def WI (S : St) (s : Nat) : Prop := (∀ m f, gI S m f = 0 ∧ gR S m f = none) ∧ (∀ m f, ¬ (m = 28 ∨ m = 29 ∨ m = 32 ∨ m = 33) → gA S m f = 0) ∧ ∀ f, f < s → (gA S 28 f = iZ 10000 ∧ gA S 29 f = iZ 0) ∧ gA S 32 f = iZ (wx f) ∧ gA S 33 f = iZ (wy f)
theorem WI_step {S : St} {s : Nat} (h : WI S s) : WI (putT (putT S 27 s 10000 0) 31 s (wx s) (wy s)) (s + 1) := by
  obtain ⟨h1, h2, h3⟩ := h
  refine ⟨h1, fun m f q => ?_, fun f hf => ?_⟩
  · unfold putT
    rw [gA_pA]
    by_cases e1 : m = 31 + 3 ∧ f = s
    · rw [if_pos e1]; rfl
    · rw [if_neg e1, gA_pA, if_neg (by omega), gA_pA, if_neg (by omega), gA_pA]
      by_cases e2 : m = 27 + 3 ∧ f = s
      · rw [if_pos e2]; rfl
      · rw [if_neg e2, gA_pA, if_neg (by omega), gA_pA, if_neg (by omega)]; exact h2 m f q
  · unfold putT
    by_cases e : f = s
    · subst e
      simp [gA_pA]
    · have := h3 f (by omega)
      simp [gA_pA, e, this]

/-- the page at the beginning -/
def bZ : Bs := fun g i => if g = 1 ∧ i = 0 then 200 else if g = 2 ∧ i = 0 then 2 else 0
def tZ : Ts := fun _ _ _ => 0
theorem bZ_bn : bn bZ = 0 := rfl
theorem bZ_Inv : Inv bZ := by
  refine ⟨⟨rfl, by decide⟩, ⟨by decide, by decide⟩, ⟨by decide, by decide⟩, fun k hk => ?_, fun k hk => ?_⟩
  · rw [bZ_bn] at hk; omega
  · rw [bZ_bn] at hk; omega
theorem bZ_LE : LE bZ tZ := fun k hk => by rw [bZ_bn] at hk; omega
/-- the rows of references, all of them -/
def RZ (S : St) : Prop := ∀ k, gR S 1 k = none ∧ gR S 2 k = if k = 0 then some 35 else if k = 1 then some 40 else none
theorem RZ_of {S : St} (h : WI S 17) : RZ (pR (stH 40 (pR (stH 35 S) 2 0 (some 35))) 2 1 (some 40)) := by
  intro k
  constructor
  · rw [gR_pR, if_neg (by omega)]
    show gR (pR (stH 35 S) 2 0 (some 35)) 1 k = none
    rw [gR_pR, if_neg (by omega)]
    exact (h.1 1 k).2
  · rw [gR_pR]
    by_cases e1 : k = 1
    · rw [if_pos ⟨rfl, e1⟩, if_neg (by omega), if_pos e1]
    · rw [if_neg (fun z => e1 z.2)]
      show gR (pR (stH 35 S) 2 0 (some 35)) 2 k = _
      rw [gR_pR]
      by_cases e0 : k = 0
      · rw [if_pos ⟨rfl, e0⟩, if_pos e0]
      · rw [if_neg (fun z => e0 z.2), if_neg e0, if_neg e1]
        exact (h.1 2 k).2
def pgS (S : St) : St := pI (pR (stH 40 (pR (stH 35 S) 2 0 (some 35))) 2 1 (some 40)) 0 6 (iZ 2)
theorem pgS_I {S : St} (h : WI S 17) {m f : Nat} (q : ¬ (m = 0 ∧ f = 6)) : gI (pgS S) m f = 0 := by
  unfold pgS
  rw [gI_pI, if_neg q]
  show gI (stH 40 (pR (stH 35 S) 2 0 (some 35))) m f = 0
  by_cases e : m < 40
  · rw [stH_I e]
    show gI (stH 35 S) m f = 0
    by_cases e2 : m < 35
    · rw [stH_I e2]; exact (h.1 m f).1
    · exact stH_I0 (by omega)
  · exact stH_I0 (by omega)
theorem pgS_A {S : St} (h : WI S 17) {m f : Nat} : gA (pgS S) m f = if m < 35 then gA S m f else 0 := by
  show gA (stH 40 (pR (stH 35 S) 2 0 (some 35))) m f = _
  by_cases e2 : m < 35
  · rw [if_pos e2, stH_A (by omega)]
    show gA (stH 35 S) m f = _
    exact stH_A e2
  · rw [if_neg e2]
    by_cases e : m < 40
    · rw [stH_A e]
      show gA (stH 35 S) m f = 0
      exact stH_A0 (by omega)
    · exact stH_A0 (by omega)
theorem pgS_RW {S : St} (h : WI S 17) : RW (pgS S) := by
  intro s hs
  have A := h.2.2 s hs
  rw [pgS_A h, pgS_A h, pgS_A h, pgS_A h, pgS_A h, pgS_A h, pgS_A h, pgS_A h, if_pos (by decide), if_pos (by decide), if_pos (by decide), if_pos (by decide), if_pos (by decide), if_pos (by decide), if_neg (by decide), if_neg (by decide), h.2.1 24 s (by decide), h.2.1 25 s (by decide)]
  exact ⟨⟨rfl, rfl⟩, A.1, A.2, ⟨rfl, rfl⟩⟩
theorem pgS_RC {S S' : St} (h : WI S 17) (hc : CL (pgS S) S' 200) : RC S' bZ tZ ∧ RZ S' := by
  obtain ⟨⟨c1, c2, c3⟩, cW, cE, cI, cA, cX⟩ := hc
  have hz : RZ S' := fun k => by
    have q := RZ_of h k
    rw [(cX 1 k).2.2, (cX 2 k).2.2]
    exact q
  refine ⟨⟨⟨⟨c1, ?_, ?_⟩, fun r hr => ?_, fun k hk => ?_, fun p hp => ?_, ⟨c2, c3⟩, fun k hk => ?_⟩, cW, cE, fun k _ hk => ?_⟩, hz⟩
  · rw [cI 0 6 (by decide)]
    unfold pgS
    rw [gI_pI, if_pos ⟨rfl, rfl⟩]; rfl
  · rw [cI 0 7 (by decide), pgS_I h (by decide)]; rfl
  · rw [cA 3 r (by decide), pgS_A h, if_pos (by decide), h.2.1 3 r (by decide)]
    have : bZ 9 r = 0 := rfl
    rw [this]; rfl
  · rw [(hz k).1, bZ_bn, if_neg (by omega)]
  · rw [(hz p).2]
    unfold plI
    rw [bZ_bn]
    by_cases e0 : p = 0
    · subst e0; rfl
    · rw [if_neg e0]
      by_cases e1 : p = 1
      · subst e1; rfl
      · rw [if_neg e1, if_neg (by omega)]
  · rw [bZ_bn] at hk; omega
  · rw [bZ_bn] at hk; omega
theorem rfs_35 : ∀ i, i < 35 → ∀ j ∈ rfs i, j < 35 := by decide +kernel
theorem rfs_40 : ∀ i, i < 40 → ∀ j ∈ rfs i, j < 40 := by decide +kernel
theorem rfs_45 : ∀ i, i < 45 → ∀ j ∈ rfs i, j < 45 := by decide +kernel
theorem wl_40 {kc : Nat → ClassId} {ad : Nat → Nat} {S : St} (h : WI S 17) (a b c d e : Nat) : wl kc 35 ad S ++ [oPl a (ad 23) b (ad 27) (iZ 1), oTr b c d e, zAr kc c 17, zAr kc d 17, zBr kc e 17] = wl kc 40 (adE 35 ad [a, b, c, d, e]) (stH 35 S) := by
  refine wl_app (n := 35) (k := 5) (ad := ad) (ad' := adE 35 ad [a, b, c, d, e]) (S := S) (S' := stH 35 S) (fun i hi => adE_lo hi) (fun i hi => cell_gr (N := 35) (fun j hj => adE_lo hj) (rfs_35 i hi) (fun k => stH_I hi) (fun k => stH_A hi) (fun k => ?_) (fun k => ?_) (fun _ k => ?_)) rfl
  · show (if i < 35 then gL S i k else 0) = _; rw [if_pos hi]
  · show (if i < 35 then gJ S i k else 0) = _; rw [if_pos hi]
  · show (gR S i k).map _ = (gR S i k).map _
    rw [(h.1 i k).2]; rfl
theorem wl_45 {kc : Nat → ClassId} {ad : Nat → Nat} {S : St} (h : WI S 17) (a b c d e : Nat) : wl kc 40 ad (pR (stH 35 S) 2 0 (some 35)) ++ [oPl a (ad 23) b (ad 31) (iZ 1), oTr b c d e, zAr kc c 17, zAr kc d 17, zBr kc e 17] = wl kc 45 (adE 40 ad [a, b, c, d, e]) (stH 40 (pR (stH 35 S) 2 0 (some 35))) := by
  refine wl_app (n := 40) (k := 5) (ad := ad) (ad' := adE 40 ad [a, b, c, d, e]) (S := pR (stH 35 S) 2 0 (some 35)) (S' := stH 40 (pR (stH 35 S) 2 0 (some 35))) (fun i hi => adE_lo hi) (fun i hi => cell_gr (N := 40) (fun j hj => adE_lo hj) (rfs_40 i hi) (fun k => stH_I hi) (fun k => stH_A hi) (fun k => ?_) (fun k => ?_) (fun _ k => ?_)) rfl
  · show (if i < 40 then _ else 0) = _; rw [if_pos hi]
  · show (if i < 40 then _ else 0) = _; rw [if_pos hi]
  · show (gR (pR (stH 35 S) 2 0 (some 35)) i k).map _ = (gR (pR (stH 35 S) 2 0 (some 35)) i k).map _
    rw [gR_pR]
    split
    · show some _ = some _
      rw [adE_lo (by decide)]
    · show (gR S i k).map _ = (gR S i k).map _
      rw [(h.1 i k).2]; rfl
