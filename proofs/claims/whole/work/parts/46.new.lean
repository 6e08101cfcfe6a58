/-! NEW: rows over a world that grows -/
theorem MetK.ofI {l : Launch} {y : MethodName} {by_ : ByteArray} {mL : Nat} {rt : Option FieldType} {fr mc ms lo : Nat} {D : va_G} {kc : Nat → ClassId} {ws : va_W} {av : List Value} {Qc : Nat → Array Value → State → Outcome → State → Prop} (hy : plainFor y = true) (hlen : (lg_sl av).length ≤ mL)
    (body : ∀ (p : Program) (e : Env) (s : State) (m : MethodId) (below : List Frame) (meth : Method) (c : Code), Cx p s m av.toArray meth c by_ y.cls mL rt D kc → meth.name = y.name → V p l e { frames := fr, cells := mc, slots := ms, locals := lo } s m av.toArray below meth c (MQ below (Qc s.heap.size) av.toArray s mc ms (va_A ws s.heap.size)) D (va_A ws s.heap.size) mL 0 0 ws 0 (lv_args 0 av) []) : MetK l y by_ mL rt fr mc ms lo D kc ws av Qc := by
  intro sz
  refine Met.ofWF (cc := by_) (maxL := mL) (ret := rt) hy rfl ?_
  intro p e s m args below meth c s₁ B hml hv
  obtain ⟨rfl, hsz, hP, hK, hD0⟩ := hv
  have hts := atoms_spec (ws := Cond.code y by_ mL rt :: wsG) B.pre
  have hown : s.vm.findClass y.cls = some m.cls := findClass_of_methodNamed B.named
  subst hsz
  have hl := lv_entry av (n := mL) hlen
  rw [lg_entry_eq]
  exact body p e s m below meth c ⟨B.exec, B.bytes, hml, hown, fun w hw => hts w (List.mem_cons_of_mem _ hw), hK, B.returns, B.notSynchronized⟩ (name_of_methodNamed B.named B.method).1 s.heap [] _ hl hP (hD0.self (sz := s.heap.size)) va_S.rf
theorem va_RA.uniq {U : State} {c1 c2 : ClassId} {ty : FieldType} (h1 : va_RA U c1 ty) (h2 : va_RA U c2 ty) : c1 = c2 := by
  cases ty with
  | object C =>
    obtain ⟨_, _, _, _, _, a⟩ := h1
    obtain ⟨_, _, _, _, _, b⟩ := h2
    exact Option.some.inj (a.symm.trans b)
  | _ => exact Option.some.inj (Eq.trans (Eq.symm h1) h2)
theorem ap_at {w0 l : va_W} {j : Nat} {q : Nat × va_E} (h : l[j]? = some q) : (w0 ++ l)[w0.length + j]? = some q := by
  rw [List.getElem?_append_right (by omega), show w0.length + j - w0.length = j by omega]; exact h
theorem ap_set {w0 l : va_W} {j : Nat} {q : Nat × va_E} : (w0 ++ l).set (w0.length + j) q = w0 ++ l.set j q := by
  rw [List.set_append_right _ _ (by omega), show w0.length + j - w0.length = j by omega]
section NR
variable {p : Program} {l : Launch} {e : Env} {R : Room} {s : State} {m : MethodId} {args : Array Value} {below : List Frame} {meth : Method} {c : Code} {Q : State → Prop} {D : va_G} {kc : Nat → ClassId} {A : Nat → Prop} {nL cells slots : Nat} {ws ws0 : va_W} {lv : List (Nat × Value)} {st : List Value} {cc : ByteArray} {own : String} {ret : Option FieldType}
theorem v_eqw {pc : Nat} {ws' : va_W} (h : ws = ws') (k : V p l e R s m args below meth c Q D A nL cells slots ws' pc lv st) : V p l e R s m args below meth c Q D A nL cells slots ws pc lv st := by subst h; exact k
theorem n_obj (pc : Nat) (C : Cx p s m args meth c cc own nL ret D kc) {idx a : Nat} (ml : Cond.methodLink own idx objectInit ∈ wsG) (hR : 1 ≤ R.frames ∧ (st.map fun v => v.category).sum + 12 ≤ R.locals) (hd : decode cc pc = .ok (.invokespecial idx, 3)) (k : V p l e R s m args below meth c Q D A nL cells slots ws (pc + 3) lv st) : V p l e R s m args below meth c Q D A nL cells slots ws pc lv (.ref a :: st) := fun H locs ls hl hP hD hS => W.objInit C.1 C.2.1 C.2.2.2.1 (C.2.2.2.2.1 _ ml) (C.2.2.2.2.1 _ lk_59) (C.2.2.2.2.1 _ lk_60) rfl (by rw [C.2.2.1]; exact hl.1) rfl hd hR.1 (by show 2 * 0 + _ + 12 ≤ _; omega) (k H locs ls hl hP hD hS)
theorem n_new (pc : Nat) (C : Cx p s m args meth c cc own nL ret D kc) (hA : ∀ q, s.heap.size ≤ q → A q) {idx ci Nf : Nat} {Cn : String} {T : u_T} {fs : List Value} (hc : vwCl[ci]? = some (Cn, T, Nf)) (hin : ∀ w ∈ u_ws Cn T Nf, w ∈ wsG) (ty : Nat → FieldType) (hty : ∀ k, k < Nf → parseFieldDescriptor (T k).2.2.1 = some (ty k)) (cl : Cond.classLink own idx Cn ∈ wsG) (it : Cond.instantiable Cn Nf ∈ wsG) (ini : Cond.initialized Cn ∈ wsG) (hfs : ∀ j, j < Nf → defaultValue (ty j) = vp_V fs j) (hR : cells + 1 ≤ R.cells ∧ slots + Nf ≤ R.slots) (hd : decode cc pc = .ok (.new idx, 3)) (k : ∀ q : Nat, V p l e R s m args below meth c Q D A nL (cells + 1) (slots + Nf) (ws ++ [(q, .inr (ci, fs))]) (pc + 3) lv (.ref q :: st)) : V p l e R s m args below meth c Q D A nL cells slots ws pc lv st := fun H locs ls hl hP hD hS => va_new C.1 C.2.1 C.2.2.2.2.1 hin ty hty C.2.2.2.1 (C.2.2.2.2.1 _ cl) (C.2.2.2.2.1 _ it) (C.2.2.2.2.1 _ ini) C.2.2.2.2.2.1.1 hP hD hS hA hc hfs hR.1 hR.2 hd (fun q H1 hP1 hD1 hS1 => k q H1 locs ls hl hP1 hD1 hS1)
theorem n_newai (pc : Nat) (C : Cx p s m args meth c cc own nL ret D kc) (hA : ∀ q, s.heap.size ≤ q → A q) {x : Int32} (n : Nat) (hx : x = nI n) (hn : n < 1000) (hR : cells + 1 ≤ R.cells ∧ slots + n ≤ R.slots) (hd : decode cc pc = .ok (.newarray .int, 2)) (k : ∀ q : Nat, V p l e R s m args below meth c Q D A nL (cells + 1) (slots + n) (ws ++ [(q, .inl (kc 0, n, .inl (fun _ => 0)))]) (pc + 2) lv (.ref q :: st)) : V p l e R s m args below meth c Q D A nL cells slots ws pc lv (.int x :: st) := by
  intro H locs ls hl hP hD hS
  have h0 : ¬ x < 0 := fun q => (vp_in_nI (show n < n + 1 by omega) (show n + 1 < 2 ^ 31 by omega)) (Or.inl (by rw [← hx]; exact q))
  have hcl : x.toNatClampNeg = n := by rw [hx, nI_clamp (show n < 2 ^ 31 by omega)]
  have hb : ∀ B : Nat, B ≤ 8 → n * B ≤ 536870912 := fun B h => Nat.le_trans (Nat.mul_le_mul (show n ≤ 1000 by omega) h) (by decide)
  refine va_newa (atype := .int) (ty := .int) (a0 := (n, .inl (fun _ => 0))) C.1 C.2.1 (C.2.2.2.2.1 _ lk_95) rfl C.2.2.2.2.2.1.1 hP hD hS hA (fun _ => rfl) h0 hcl (hb _ (by decide)) hR.1 hR.2 hd (fun q cA H1 hK1 hP1 hD1 hS1 => ?_)
  have e : cA = kc 0 := va_RA.uniq (hK1.2 5 (cA, .int) rfl).2 (C.2.2.2.2.2.1.1.2 0 (kc 0, .int) rfl).2
  subst e
  exact k q H1 locs ls hl hP1 hD1 hS1
theorem n_newaz (pc : Nat) (C : Cx p s m args meth c cc own nL ret D kc) (hA : ∀ q, s.heap.size ≤ q → A q) {x : Int32} (n : Nat) (hx : x = nI n) (hn : n < 1000) (hR : cells + 1 ≤ R.cells ∧ slots + n ≤ R.slots) (hd : decode cc pc = .ok (.newarray .boolean, 2)) (k : ∀ q : Nat, V p l e R s m args below meth c Q D A nL (cells + 1) (slots + n) (ws ++ [(q, .inl (kc 2, n, .inl (fun _ => 0)))]) (pc + 2) lv (.ref q :: st)) : V p l e R s m args below meth c Q D A nL cells slots ws pc lv (.int x :: st) := by
  intro H locs ls hl hP hD hS
  have h0 : ¬ x < 0 := fun q => (vp_in_nI (show n < n + 1 by omega) (show n + 1 < 2 ^ 31 by omega)) (Or.inl (by rw [← hx]; exact q))
  have hcl : x.toNatClampNeg = n := by rw [hx, nI_clamp (show n < 2 ^ 31 by omega)]
  have hb : ∀ B : Nat, B ≤ 8 → n * B ≤ 536870912 := fun B h => Nat.le_trans (Nat.mul_le_mul (show n ≤ 1000 by omega) h) (by decide)
  refine va_newa (atype := .boolean) (ty := .boolean) (a0 := (n, .inl (fun _ => 0))) C.1 C.2.1 (C.2.2.2.2.1 _ lk_96) rfl C.2.2.2.2.2.1.1 hP hD hS hA (fun _ => rfl) h0 hcl (hb _ (by decide)) hR.1 hR.2 hd (fun q cA H1 hK1 hP1 hD1 hS1 => ?_)
  have e : cA = kc 2 := va_RA.uniq (hK1.2 5 (cA, .boolean) rfl).2 (C.2.2.2.2.2.1.1.2 2 (kc 2, .boolean) rfl).2
  subst e
  exact k q H1 locs ls hl hP1 hD1 hS1
theorem n_newal (pc : Nat) (C : Cx p s m args meth c cc own nL ret D kc) (hA : ∀ q, s.heap.size ≤ q → A q) {x : Int32} (n : Nat) (hx : x = nI n) (hn : n < 1000) (hR : cells + 1 ≤ R.cells ∧ slots + n ≤ R.slots) (hd : decode cc pc = .ok (.newarray .long, 2)) (k : ∀ q : Nat, V p l e R s m args below meth c Q D A nL (cells + 1) (slots + n) (ws ++ [(q, .inl (kc 1, n, .inr (.inl (fun _ => 0))))]) (pc + 2) lv (.ref q :: st)) : V p l e R s m args below meth c Q D A nL cells slots ws pc lv (.int x :: st) := by
  intro H locs ls hl hP hD hS
  have h0 : ¬ x < 0 := fun q => (vp_in_nI (show n < n + 1 by omega) (show n + 1 < 2 ^ 31 by omega)) (Or.inl (by rw [← hx]; exact q))
  have hcl : x.toNatClampNeg = n := by rw [hx, nI_clamp (show n < 2 ^ 31 by omega)]
  have hb : ∀ B : Nat, B ≤ 8 → n * B ≤ 536870912 := fun B h => Nat.le_trans (Nat.mul_le_mul (show n ≤ 1000 by omega) h) (by decide)
  refine va_newa (atype := .long) (ty := .long) (a0 := (n, .inr (.inl (fun _ => 0)))) C.1 C.2.1 (C.2.2.2.2.1 _ lk_578) rfl C.2.2.2.2.2.1.1 hP hD hS hA (fun _ => rfl) h0 hcl (hb _ (by decide)) hR.1 hR.2 hd (fun q cA H1 hK1 hP1 hD1 hS1 => ?_)
  have e : cA = kc 1 := va_RA.uniq (hK1.2 5 (cA, .long) rfl).2 (C.2.2.2.2.2.1.1.2 1 (kc 1, .long) rfl).2
  subst e
  exact k q H1 locs ls hl hP1 hD1 hS1
theorem n_newqP (pc : Nat) (C : Cx p s m args meth c cc own nL ret D kc) (hA : ∀ q, s.heap.size ≤ q → A q) (hO : va_AO "RisingPage$Part" s) {x : Int32} {idx : Nat} (n : Nat) (hx : x = nI n) (hn : n < 1000) (cl : Cond.classLink own idx "RisingPage$Part" ∈ wsG) (hR : cells + 1 ≤ R.cells ∧ slots + n ≤ R.slots) (hd : decode cc pc = .ok (.anewarray idx, 3)) (k : ∀ q : Nat, V p l e R s m args below meth c Q D A nL (cells + 1) (slots + n) (ws ++ [(q, .inl (kc 3, n, .inr (.inr (.inr (.inr (fun _ => none))))))]) (pc + 3) lv (.ref q :: st)) : V p l e R s m args below meth c Q D A nL cells slots ws pc lv (.int x :: st) := by
  intro H locs ls hl hP hD hS
  have h0 : ¬ x < 0 := fun q => (vp_in_nI (show n < n + 1 by omega) (show n + 1 < 2 ^ 31 by omega)) (Or.inl (by rw [← hx]; exact q))
  have hcl : x.toNatClampNeg = n := by rw [hx, nI_clamp (show n < 2 ^ 31 by omega)]
  refine va_newq (C := "RisingPage$Part") C.1 C.2.1 C.2.2.2.1 (C.2.2.2.2.1 _ cl) hO C.2.2.2.2.2.1.1 hP hD hS hA h0 hcl (by omega) hR.1 hR.2 hd (fun q cA H1 hK1 hP1 hD1 hS1 => ?_)
  have e : cA = kc 3 := va_RA.uniq (hK1.2 5 (cA, .object "RisingPage$Part") rfl).2 (C.2.2.2.2.2.1.1.2 3 (kc 3, .object "RisingPage$Part") rfl).2
  subst e
  exact k q H1 locs ls hl hP1 hD1 hS1
theorem n_newqL (pc : Nat) (C : Cx p s m args meth c cc own nL ret D kc) (hA : ∀ q, s.heap.size ≤ q → A q) (hO : va_AO "RisingPage$Plane" s) {x : Int32} {idx : Nat} (n : Nat) (hx : x = nI n) (hn : n < 1000) (cl : Cond.classLink own idx "RisingPage$Plane" ∈ wsG) (hR : cells + 1 ≤ R.cells ∧ slots + n ≤ R.slots) (hd : decode cc pc = .ok (.anewarray idx, 3)) (k : ∀ q : Nat, V p l e R s m args below meth c Q D A nL (cells + 1) (slots + n) (ws ++ [(q, .inl (kc 4, n, .inr (.inr (.inr (.inr (fun _ => none))))))]) (pc + 3) lv (.ref q :: st)) : V p l e R s m args below meth c Q D A nL cells slots ws pc lv (.int x :: st) := by
  intro H locs ls hl hP hD hS
  have h0 : ¬ x < 0 := fun q => (vp_in_nI (show n < n + 1 by omega) (show n + 1 < 2 ^ 31 by omega)) (Or.inl (by rw [← hx]; exact q))
  have hcl : x.toNatClampNeg = n := by rw [hx, nI_clamp (show n < 2 ^ 31 by omega)]
  refine va_newq (C := "RisingPage$Plane") C.1 C.2.1 C.2.2.2.1 (C.2.2.2.2.1 _ cl) hO C.2.2.2.2.2.1.1 hP hD hS hA h0 hcl (by omega) hR.1 hR.2 hd (fun q cA H1 hK1 hP1 hD1 hS1 => ?_)
  have e : cA = kc 4 := va_RA.uniq (hK1.2 5 (cA, .object "RisingPage$Plane") rfl).2 (C.2.2.2.2.2.1.1.2 4 (kc 4, .object "RisingPage$Plane") rfl).2
  subst e
  exact k q H1 locs ls hl hP1 hD1 hS1
theorem n_putF (pc : Nat) (C : Cx p s m args meth c cc own nL ret D kc) (hI : meth.name = "<init>") {l0 : va_W} (j : Nat) {a ci Nf : Nat} {Cn : String} {T : u_T} {fs : List Value} (he : l0[j]? = some (a, .inr (ci, fs))) (hc : vwCl[ci]? = some (Cn, T, Nf)) (hin : ∀ w ∈ u_ws Cn T Nf, w ∈ wsG) (ty0 : Nat → FieldType) (hty : ∀ k, k < Nf → parseFieldDescriptor (T k).2.2.1 = some (ty0 k)) (hnm : ∀ a, a < Nf → ∀ b, b < Nf → a ≠ b → (T a).2.1 ≠ (T b).2.1) (f : Nat) (hf : f < Nf) (hfin : (T f).2.2.2 = true) (hdecl : (T f).1 = own) {idx : Nat} (hlink : Cond.fieldLink own idx (T f).1 (T f).2.1 (T f).2.2.1 ∈ wsG) {v : Value} (hn : narrow (ty0 f) v = v) (hfit : fits (ty0 f) v = true) (hl0 : f < fs.length) (hd : decode cc pc = .ok (.putfield idx, 3)) (k : V p l e R s m args below meth c Q D A nL cells slots (ws0 ++ l0.set j (a, .inr (ci, fs.set f v))) (pc + 3) lv st) : V p l e R s m args below meth c Q D A nL cells slots (ws0 ++ l0) pc lv (v :: .ref a :: st) := fun H locs ls hl hP hD hS => va_putF C.1 C.2.1 C.2.2.2.2.1 hin ty0 hty hnm C.2.2.2.1 C.2.2.2.2.2.1.1 hP hD hS (ws0.length + j) (ap_at he) hc f hf (C.2.2.2.2.1 _ hlink) (fun _ h => h) hfin hI hdecl (hty f hf) hn hfit hl0 hd (fun H1 locs1 hP1 hD1 hS1 => k H1 locs1 ls hl (by rw [← ap_set]; exact hP1) (by rw [← ap_set]; exact hD1) hS1)
theorem n_put (pc : Nat) (C : Cx p s m args meth c cc own nL ret D kc) {l0 : va_W} (j : Nat) {a ci Nf : Nat} {Cn : String} {T : u_T} {fs : List Value} (he : l0[j]? = some (a, .inr (ci, fs))) (hc : vwCl[ci]? = some (Cn, T, Nf)) (hin : ∀ w ∈ u_ws Cn T Nf, w ∈ wsG) (ty0 : Nat → FieldType) (hty : ∀ k, k < Nf → parseFieldDescriptor (T k).2.2.1 = some (ty0 k)) (hnm : ∀ a, a < Nf → ∀ b, b < Nf → a ≠ b → (T a).2.1 ≠ (T b).2.1) (f : Nat) (hf : f < Nf) (hfin : (T f).2.2.2 = false) {idx : Nat} (hlink : Cond.fieldLink own idx (T f).1 (T f).2.1 (T f).2.2.1 ∈ wsG) {v : Value} (hn : narrow (ty0 f) v = v) (hfit : fits (ty0 f) v = true) (hl0 : f < fs.length) (hd : decode cc pc = .ok (.putfield idx, 3)) (k : V p l e R s m args below meth c Q D A nL cells slots (ws0 ++ l0.set j (a, .inr (ci, fs.set f v))) (pc + 3) lv st) : V p l e R s m args below meth c Q D A nL cells slots (ws0 ++ l0) pc lv (v :: .ref a :: st) := fun H locs ls hl hP hD hS => va_put C.1 C.2.1 C.2.2.2.2.1 hin ty0 hty hnm C.2.2.2.1 C.2.2.2.2.2.1.1 hP hD hS (ws0.length + j) (ap_at he) hc f hf (C.2.2.2.2.1 _ hlink) (fun _ h => h) hfin (hty f hf) hn hfit hl0 hd (fun H1 locs1 hP1 hD1 hS1 => k H1 locs1 ls hl (by rw [← ap_set]; exact hP1) (by rw [← ap_set]; exact hD1) hS1)
theorem n_get (pc : Nat) (C : Cx p s m args meth c cc own nL ret D kc) {l0 : va_W} (j : Nat) {a ci Nf : Nat} {Cn : String} {T : u_T} {fs : List Value} (he : l0[j]? = some (a, .inr (ci, fs))) (hc : vwCl[ci]? = some (Cn, T, Nf)) (hin : ∀ w ∈ u_ws Cn T Nf, w ∈ wsG) (f : Nat) (hf : f < Nf) {idx : Nat} (hlink : Cond.fieldLink own idx (T f).1 (T f).2.1 (T f).2.2.1 ∈ wsG) {v : Value} (hv : fs[f]? = some v) (hd : decode cc pc = .ok (.getfield idx, 3)) (k : V p l e R s m args below meth c Q D A nL cells slots (ws0 ++ l0) (pc + 3) lv (v :: st)) : V p l e R s m args below meth c Q D A nL cells slots (ws0 ++ l0) pc lv (.ref a :: st) := fun H locs ls hl hP hD hS => va_get C.1 C.2.1 C.2.2.2.2.1 hin C.2.2.2.1 C.2.2.2.2.2.1.1 hP (ws0.length + j) (ap_at he) hc f hf (C.2.2.2.2.1 _ hlink) (fun _ h => h) hv hd (k H locs ls hl hP hD hS)
theorem n_iast (pc : Nat) (C : Cx p s m args meth c cc own nL ret D kc) {l0 : va_W} (j : Nat) {a n : Nat} {f : Nat → Int32} (he : l0[j]? = some (a, .inl (kc 0, n, .inl f))) {x : Int32} (i : Nat) (hx : x = nI i) (hi : i < n) (hn : n < 1000) {v : Int32} (hd : decode cc pc = .ok (.iastore, 1)) (k : V p l e R s m args below meth c Q D A nL cells slots (ws0 ++ l0.set j (a, .inl (kc 0, n, .inl (upd f i v)))) (pc + 1) lv st) : V p l e R s m args below meth c Q D A nL cells slots (ws0 ++ l0) pc lv (.int v :: .int x :: .ref a :: st) := by
  intro H locs ls hl hP hD hS
  have e : x.toNatClampNeg = i := by rw [hx, nI_clamp (show i < 2 ^ 31 by omega)]
  refine va_iast C.1 C.2.1 C.2.2.2.2.2.1.1 hP hD hS (ws0.length + j) 0 (ap_at he) rfl (by rw [hx]; exact vp_in_nI hi (show n < 2 ^ 31 by omega)) hd (fun H1 locs1 hP1 hD1 hS1 => ?_)
  rw [e, ap_set] at hP1 hD1
  exact k H1 locs1 ls hl hP1 hD1 hS1
end NR
abbrev zAr (kc : Nat → ClassId) (q n : Nat) : Nat × va_E := (q, .inl (kc 0, n, .inl (fun _ => 0)))
abbrev zBr (kc : Nat → ClassId) (q n : Nat) : Nat × va_E := (q, .inl (kc 2, n, .inl (fun _ => 0)))
abbrev zLr (kc : Nat → ClassId) (q n : Nat) : Nat × va_E := (q, .inl (kc 1, n, .inr (.inl (fun _ => 0))))
abbrev oTr (q a b c : Nat) : Nat × va_E := (q, .inr (2, [.ref a, .ref b, .ref c]))
abbrev oPl (q a b c : Nat) (lf : Int32) : Nat × va_E := (q, .inr (1, [.ref a, .ref b, .ref c, .int lf, .int 0]))
abbrev oPt (q a b c d e : Nat) : Nat × va_E := (q, .inr (0, [.ref a, .ref b, .ref c, .ref d, .ref e, .int 0, .int 0, .int 0, .int 0, .int 0, .int 0, .int 0]))
abbrev nTr (q : Nat) : Nat × va_E := (q, .inr (2, [.null, .null, .null]))
abbrev nPl (q : Nat) : Nat × va_E := (q, .inr (1, [.null, .null, .null, .int 0, .int 0]))
abbrev nPt (q : Nat) : Nat × va_E := (q, .inr (0, [.null, .null, .null, .null, .null, .int 0, .int 0, .int 0, .int 0, .int 0, .int 0, .int 0]))
/-- a track's cells; a part's cells, as they are made -/
def trW (kc : Nat → ClassId) (q a b c : Nat) : va_W := [oTr q a b c, zAr kc a 17, zAr kc b 17, zBr kc c 17]
def ptW (kc : Nat → ClassId) (q : Nat) (g : Nat → Nat) : va_W := [oPt q (g 1) (g 5) (g 9) (g 13) (g 14), oTr (g 1) (g 2) (g 3) (g 4), zAr kc (g 2) 17, zAr kc (g 3) 17, zBr kc (g 4) 17, oTr (g 5) (g 6) (g 7) (g 8), zAr kc (g 6) 17, zAr kc (g 7) 17, zBr kc (g 8) 17, oTr (g 9) (g 10) (g 11) (g 12), zAr kc (g 10) 17, zAr kc (g 11) 17, zBr kc (g 12) 17, oPl (g 13) (g 1) (g 9) (g 9) 0, oPl (g 14) (g 5) (g 9) (g 9) 0]
