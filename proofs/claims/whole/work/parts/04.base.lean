/-! BASE: the words used everywhere; the store by numbers of cells; the judgement V and its rows -/
def wsG : List Cond := lw_tbl.filter goodWord
theorem mG {w : Cond} (i : Nat) (h : lw_tbl[i]? = some w) (g : goodWord w = true) : w ∈ wsG := List.mem_filter.mpr ⟨List.mem_of_getElem? h, g⟩
theorem wsG_in : ∀ w ∈ wsG, w ∈ lw_tbl := fun w h => (List.mem_filter.mp h).1
theorem wsG_c {c1 : Cond} (h : c1 ∈ wsG) : GoodIn wsG (c1 :: wsG) := fun w hw => by
  have h2 : w ∈ wsG := by
    rcases List.mem_cons.mp hw with e | e
    · rw [e]; exact h
    · exact e
  exact ⟨h2, good_of_word (List.mem_filter.mp h2).2⟩
theorem allG (ps : List Nat) {ws : List Cond} (hp : ws = ps.filterMap (fun i => lw_tbl[i]?)) (hg : ws.all goodWord = true) : ∀ w ∈ ws, w ∈ wsG := by
  intro w hw
  have h1 := List.all_eq_true.mp hg w hw
  rw [hp] at hw
  obtain ⟨i, -, hi⟩ := List.mem_filterMap.mp hw
  exact mG i hi h1
/-- the array classes: int, long, boolean, parts, planes -/
abbrev tyL (kc : Nat → ClassId) : List (ClassId × FieldType) := [(kc 0, .int), (kc 1, .long), (kc 2, .boolean), (kc 3, .object "RisingPage$Part"), (kc 4, .object "RisingPage$Plane")]
def n_1 : Cond := .methodLinkNest "RisingPage" 25 yX0_init "RisingPage"
def n_2 : Cond := .methodLinkNest "RisingPage" 32 yX2_init "RisingPage"
def n_3 : Cond := .methodLinkNest "RisingPage$Part" 11 yX2_init "RisingPage"
def n_4 : Cond := .methodLinkNest "RisingPage$Part" 84 yX3_rootBelow "RisingPage"
def n_5 : Cond := .methodLinkNest "RisingPage$Part" 97 yX3_nearest "RisingPage"
def n_6 : Cond := .methodLinkNest "RisingPage$Plane" 50 yX3_nearest "RisingPage"
def NW (U : State) : Prop := va_Nw n_1 U ∧ va_Nw n_2 U ∧ va_Nw n_3 U ∧ va_Nw n_4 U ∧ va_Nw n_5 U ∧ va_Nw n_6 U
theorem NW.warm {s U : State} (hW : s.WarmedH U.vm) (h : NW s) : NW U := ⟨va_Nw.warmM hW h.1, va_Nw.warmM hW h.2.1, va_Nw.warmM hW h.2.2.1, va_Nw.warmM hW h.2.2.2.1, va_Nw.warmM hW h.2.2.2.2.1, va_Nw.warmM hW h.2.2.2.2.2⟩
theorem NW.same {s U : State} (hW : s.vm = U.vm) (h : NW s) : NW U := ⟨va_Nw.same rfl hW h.1, va_Nw.same rfl hW h.2.1, va_Nw.same rfl hW h.2.2.1, va_Nw.same rfl hW h.2.2.2.1, va_Nw.same rfl hW h.2.2.2.2.1, va_Nw.same rfl hW h.2.2.2.2.2⟩
def KW (D : va_G) (kc : Nat → ClassId) (U : State) : Prop := va_K D vwCl (tyL kc) U ∧ NW U
theorem KW.warm {D : va_G} {kc : Nat → ClassId} {s U : State} (hW : s.WarmedH U.vm) (h : KW D kc s) : KW D kc U := ⟨va_K.moved hW.alike h.1, NW.warm hW h.2⟩
theorem KW.call {D : va_G} {kc : Nat → ClassId} {U : State} {g : JFrame} {mk : MethodId} {a : Array Value} (h : KW D kc U) : KW D kc (U.calling g mk a) := ⟨va_K.moved (u := U) (U := U.calling g mk a) (Vm.Alike.refl U.vm) h.1, NW.same rfl h.2⟩
def Cx (p : Program) (s : State) (m : MethodId) (args : Array Value) (meth : Method) (c : Code) (cc : ByteArray) (own : String) (nL : Nat) (ret : Option FieldType) (D : va_G) (kc : Nat → ClassId) : Prop :=
  p.tables.exec = Jvm.exec ∧ c.code = cc ∧ c.maxLocals = nL ∧ s.vm.findClass own = some m.cls ∧ (∀ w ∈ wsG, w.before args s = true) ∧ KW D kc s ∧ meth.sig.returnType = ret ∧ meth.locks = false
def V (p : Program) (l : Launch) (e : Env) (R : Room) (s : State) (m : MethodId) (args : Array Value) (below : List Frame) (meth : Method) (c : Code) (Q : State → Prop) (D : va_G) (A : Nat → Prop) (nL cells slots : Nat) (ws : va_W) (pc : Nat) (lv : List (Nat × Value)) (st : List Value) : Prop :=
  ∀ (H : Heap) (locs : List Loc) (ls : Array Slot), lv_has ls nL lv → va_P D vwCl ws H → va_D A ws → va_S A s.heap H locs → W p l e R s m args below meth c H locs cells slots Q (F0 m pc ls st)
/-- the store: int fields, int and boolean rows, long fields, long rows, rows of references (by number of the cell) -/
abbrev St : Type := (Nat → Nat → Int32) × (Nat → Nat → Int32) × (Nat → Nat → Int64) × (Nat → Nat → Int64) × (Nat → Nat → Option Nat)
def gI (S : St) (i k : Nat) : Int32 := S.1 i k
def gA (S : St) (i k : Nat) : Int32 := S.2.1 i k
def gL (S : St) (i k : Nat) : Int64 := S.2.2.1 i k
def gJ (S : St) (i k : Nat) : Int64 := S.2.2.2.1 i k
def gR (S : St) (i k : Nat) : Option Nat := S.2.2.2.2 i k
def pI (S : St) (i k : Nat) (v : Int32) : St := (va_up S.1 i (va_up (S.1 i) k v), S.2)
def pA (S : St) (i k : Nat) (v : Int32) : St := (S.1, va_up S.2.1 i (va_up (S.2.1 i) k v), S.2.2)
def pL (S : St) (i k : Nat) (v : Int64) : St := (S.1, S.2.1, va_up S.2.2.1 i (va_up (S.2.2.1 i) k v), S.2.2.2)
def pJ (S : St) (i k : Nat) (v : Int64) : St := (S.1, S.2.1, S.2.2.1, va_up S.2.2.2.1 i (va_up (S.2.2.2.1 i) k v), S.2.2.2.2)
def pR (S : St) (i k : Nat) (v : Option Nat) : St := (S.1, S.2.1, S.2.2.1, S.2.2.2.1, va_up S.2.2.2.2 i (va_up (S.2.2.2.2 i) k v))
theorem up2 {α : Type} (f : Nat → Nat → α) (i k : Nat) (v : α) (j h : Nat) : va_up f i (va_up (f i) k v) j h = if j = i ∧ h = k then v else f j h := by
  by_cases e : j = i
  · subst e
    by_cases e2 : h = k
    · subst e2; simp [va_up]
    · simp [va_up, e2]
  · simp [va_up, e]

theorem gI_pI (S : St) (i k : Nat) (v : Int32) (j h : Nat) : gI (pI S i k v) j h = if j = i ∧ h = k then v else gI S j h := up2 _ i k v j h
theorem gI_pA (S : St) (i k : Nat) (v : Int32) (j h : Nat) : gI (pA S i k v) j h = gI S j h := rfl
theorem gI_pL (S : St) (i k : Nat) (v : Int64) (j h : Nat) : gI (pL S i k v) j h = gI S j h := rfl
theorem gI_pJ (S : St) (i k : Nat) (v : Int64) (j h : Nat) : gI (pJ S i k v) j h = gI S j h := rfl
theorem gI_pR (S : St) (i k : Nat) (v : (Option Nat)) (j h : Nat) : gI (pR S i k v) j h = gI S j h := rfl
theorem gA_pI (S : St) (i k : Nat) (v : Int32) (j h : Nat) : gA (pI S i k v) j h = gA S j h := rfl
theorem gA_pA (S : St) (i k : Nat) (v : Int32) (j h : Nat) : gA (pA S i k v) j h = if j = i ∧ h = k then v else gA S j h := up2 _ i k v j h
theorem gA_pL (S : St) (i k : Nat) (v : Int64) (j h : Nat) : gA (pL S i k v) j h = gA S j h := rfl
theorem gA_pJ (S : St) (i k : Nat) (v : Int64) (j h : Nat) : gA (pJ S i k v) j h = gA S j h := rfl
theorem gA_pR (S : St) (i k : Nat) (v : (Option Nat)) (j h : Nat) : gA (pR S i k v) j h = gA S j h := rfl
theorem gL_pI (S : St) (i k : Nat) (v : Int32) (j h : Nat) : gL (pI S i k v) j h = gL S j h := rfl
theorem gL_pA (S : St) (i k : Nat) (v : Int32) (j h : Nat) : gL (pA S i k v) j h = gL S j h := rfl
theorem gL_pL (S : St) (i k : Nat) (v : Int64) (j h : Nat) : gL (pL S i k v) j h = if j = i ∧ h = k then v else gL S j h := up2 _ i k v j h
theorem gL_pJ (S : St) (i k : Nat) (v : Int64) (j h : Nat) : gL (pJ S i k v) j h = gL S j h := rfl
theorem gL_pR (S : St) (i k : Nat) (v : (Option Nat)) (j h : Nat) : gL (pR S i k v) j h = gL S j h := rfl
theorem gJ_pI (S : St) (i k : Nat) (v : Int32) (j h : Nat) : gJ (pI S i k v) j h = gJ S j h := rfl
theorem gJ_pA (S : St) (i k : Nat) (v : Int32) (j h : Nat) : gJ (pA S i k v) j h = gJ S j h := rfl
theorem gJ_pL (S : St) (i k : Nat) (v : Int64) (j h : Nat) : gJ (pL S i k v) j h = gJ S j h := rfl
theorem gJ_pJ (S : St) (i k : Nat) (v : Int64) (j h : Nat) : gJ (pJ S i k v) j h = if j = i ∧ h = k then v else gJ S j h := up2 _ i k v j h
theorem gJ_pR (S : St) (i k : Nat) (v : (Option Nat)) (j h : Nat) : gJ (pR S i k v) j h = gJ S j h := rfl
theorem gR_pI (S : St) (i k : Nat) (v : Int32) (j h : Nat) : gR (pI S i k v) j h = gR S j h := rfl
theorem gR_pA (S : St) (i k : Nat) (v : Int32) (j h : Nat) : gR (pA S i k v) j h = gR S j h := rfl
theorem gR_pL (S : St) (i k : Nat) (v : Int64) (j h : Nat) : gR (pL S i k v) j h = gR S j h := rfl
theorem gR_pJ (S : St) (i k : Nat) (v : Int64) (j h : Nat) : gR (pJ S i k v) j h = gR S j h := rfl
theorem gR_pR (S : St) (i k : Nat) (v : (Option Nat)) (j h : Nat) : gR (pR S i k v) j h = if j = i ∧ h = k then v else gR S j h := up2 _ i k v j h
theorem St_ext {S T : St} (h1 : ∀ i k, gI S i k = gI T i k) (h2 : ∀ i k, gA S i k = gA T i k) (h3 : ∀ i k, gL S i k = gL T i k) (h4 : ∀ i k, gJ S i k = gJ T i k) (h5 : ∀ i k, gR S i k = gR T i k) : S = T := by
  obtain ⟨a, b, c, d, e⟩ := S
  obtain ⟨a', b', c', d', e'⟩ := T
  have e1 : a = a' := funext fun i => funext fun k => h1 i k
  have e2 : b = b' := funext fun i => funext fun k => h2 i k
  have e3 : c = c' := funext fun i => funext fun k => h3 i k
  have e4 : d = d' := funext fun i => funext fun k => h4 i k
  have e5 : e = e' := funext fun i => funext fun k => h5 i k
  subst e1 e2 e3 e4 e5
  rfl
/-- the kinds of cells: 0 page, 1 parts, 2 planes, 4 Part, 5 Track, 6 ints, 7 booleans, 8 Plane, 9 model, 10 longs -/
def kdT : List Nat := [0, 1, 2, 6, 4, 5, 6, 6, 7, 5, 6, 6, 7, 5, 6, 6, 7, 8, 8, 5, 6, 6, 7, 5, 6, 6, 7, 5, 6, 6, 7, 5, 6, 6, 7, 8, 5, 6, 6, 7, 8, 5, 6, 6, 7, 9, 6, 6, 6, 6, 7, 7, 6, 6, 10, 10, 7, 6, 10, 10, 10, 10, 7, 10, 10, 7]
def kpT : List Nat := [4, 5, 6, 6, 7, 5, 6, 6, 7, 5, 6, 6, 7, 8, 8]
def lnT : List Nat := [0, 30, 62, 7, 17, 17, 17, 17, 17, 17, 17, 17, 17, 17, 17, 17, 17, 17, 17, 17, 17, 17, 17, 17, 17, 17, 17, 17, 17, 17, 17, 17, 17, 17, 17, 17, 17, 17, 17, 17, 17, 17, 17, 17, 17, 17, 30, 60, 60, 60, 30, 30, 7, 9, 30, 30, 30, 32, 62, 62, 62, 62, 62, 30, 30, 30]
def kd (i : Nat) : Nat := if i < 66 then kdT.getD i 0 else kpT.getD ((i - 66) % 15) 0
def ln (i : Nat) : Nat := if i < 66 then lnT.getD i 17 else 17
def isFA (i : Nat) : Bool := i == 17 || (decide (66 ≤ i) && (i - 66) % 15 == 13)
def pb (i : Nat) : Nat := if i = 35 ∨ i = 40 then 23 else if isFA i = true then i - 12 else i - 9
def pe (i : Nat) : Nat := if i = 35 then 36 else if i = 40 then 41 else if isFA i = true then i - 4 else i - 5
def pm (i : Nat) : Nat := if i = 35 then 27 else if i = 40 then 31 else if isFA i = true then i - 4 else i - 5
def pf (i : Nat) : Int32 := if i = 35 ∨ i = 40 then 1 else 0
def cellK (kc : Nat → ClassId) (ad : Nat → Nat) (S : St) (i : Nat) (K : Nat) : va_E := match K with
  | 0 => .inr (3, [.ref (ad 1), .ref (ad 2), .ref (ad 3), .ref (ad 4), .ref (ad 19), .int (gI S i 5), .int (gI S i 6), .int (gI S i 7)])
  | 1 => .inl (kc 3, 30, .inr (.inr (.inr (.inr (fun k => (gR S i k).map ad)))))
  | 2 => .inl (kc 4, 62, .inr (.inr (.inr (.inr (fun k => (gR S i k).map ad)))))
  | 4 => .inr (0, [.ref (ad (i + 1)), .ref (ad (i + 5)), .ref (ad (i + 9)), .ref (ad (i + 13)), .ref (ad (i + 14)), .int (gI S i 5), .int (gI S i 6), .int (gI S i 7), .int (gI S i 8), .int (gI S i 9), .int (gI S i 10), .int (gI S i 11)])
  | 5 => .inr (2, [.ref (ad (i + 1)), .ref (ad (i + 2)), .ref (ad (i + 3))])
  | 6 => .inl (kc 0, ln i, .inl (fun k => gA S i k))
  | 7 => .inl (kc 2, ln i, .inl (fun k => gA S i k))
  | 8 => .inr (1, [.ref (ad (pb i)), .ref (ad (pe i)), .ref (ad (pm i)), .int (pf i), .int (gI S i 4)])
  | 9 => .inr (4, [.int (gI S i 0), .int (gI S i 1), .int (gI S i 2), .ref (ad 46), .ref (ad 47), .ref (ad 48), .ref (ad 49), .ref (ad 50), .ref (ad 51), .ref (ad 52), .ref (ad 53), .int (gI S i 11), .ref (ad 54), .ref (ad 55), .ref (ad 56), .long (gL S i 15), .long (gL S i 16), .ref (ad 57), .ref (ad 58), .ref (ad 59), .ref (ad 60), .ref (ad 61), .ref (ad 62), .ref (ad 63), .ref (ad 64), .ref (ad 65)])
  | _ => .inl (kc 1, ln i, .inr (.inl (fun k => gJ S i k)))
def cellf (kc : Nat → ClassId) (ad : Nat → Nat) (S : St) (i : Nat) : va_E := cellK kc ad S i (kd i)
theorem cell_kd {kc : Nat → ClassId} {ad : Nat → Nat} {S : St} {i K : Nat} (h : kd i = K) : cellf kc ad S i = cellK kc ad S i K := by rw [← h]; rfl
theorem cellK_congr {kc : Nat → ClassId} {ad : Nat → Nat} {S S' : St} {i : Nat} (K : Nat) (h1 : ∀ k, gI S' i k = gI S i k) (h2 : ∀ k, gA S' i k = gA S i k) (h3 : ∀ k, gL S' i k = gL S i k) (h4 : ∀ k, gJ S' i k = gJ S i k) (h5 : ∀ k, gR S' i k = gR S i k) : cellK kc ad S' i K = cellK kc ad S i K := by
  unfold cellK
  simp only [h1, h2, h3, h4, h5]
def wl (kc : Nat → ClassId) (N : Nat) (ad : Nat → Nat) (S : St) : va_W := (List.range N).map (fun i => (ad i, cellf kc ad S i))
theorem wl_at {kc : Nat → ClassId} {N : Nat} {ad : Nat → Nat} {S : St} {i : Nat} (h : i < N) : (wl kc N ad S)[i]? = some (ad i, cellf kc ad S i) := by
  simp [wl, h]
theorem wl_set {kc : Nat → ClassId} {N : Nat} {ad : Nat → Nat} {S S' : St} {i : Nat} {e : va_E} (h1 : cellf kc ad S' i = e) (h2 : ∀ j, j ≠ i → cellf kc ad S' j = cellf kc ad S j) : (wl kc N ad S).set i (ad i, e) = wl kc N ad S' := by
  refine List.ext_getElem? (fun j => ?_)
  by_cases hj : j < N
  · by_cases e1 : j = i
    · subst e1
      rw [wl_at hj, h1]
      rw [List.getElem?_set_self (by simpa [wl] using hj)]
    · rw [List.getElem?_set_ne (Ne.symm e1), wl_at hj, wl_at hj, h2 j e1]
  · rw [List.getElem?_eq_none (by simp [wl]; omega), List.getElem?_eq_none (by simp [wl]; omega)]
theorem pI_ne {kc : Nat → ClassId} {ad : Nat → Nat} {S : St} {i k : Nat} {v : Int32} (j : Nat) (h : j ≠ i) : cellf kc ad (pI S i k v) j = cellf kc ad S j := cellK_congr _ (fun h' => by rw [gI_pI, if_neg (fun q => h q.1)]) (fun _ => rfl) (fun _ => rfl) (fun _ => rfl) (fun _ => rfl)
theorem pA_ne {kc : Nat → ClassId} {ad : Nat → Nat} {S : St} {i k : Nat} {v : Int32} (j : Nat) (h : j ≠ i) : cellf kc ad (pA S i k v) j = cellf kc ad S j := cellK_congr _ (fun _ => rfl) (fun h' => by rw [gA_pA, if_neg (fun q => h q.1)]) (fun _ => rfl) (fun _ => rfl) (fun _ => rfl)
theorem pL_ne {kc : Nat → ClassId} {ad : Nat → Nat} {S : St} {i k : Nat} {v : Int64} (j : Nat) (h : j ≠ i) : cellf kc ad (pL S i k v) j = cellf kc ad S j := cellK_congr _ (fun _ => rfl) (fun _ => rfl) (fun h' => by rw [gL_pL, if_neg (fun q => h q.1)]) (fun _ => rfl) (fun _ => rfl)
theorem pJ_ne {kc : Nat → ClassId} {ad : Nat → Nat} {S : St} {i k : Nat} {v : Int64} (j : Nat) (h : j ≠ i) : cellf kc ad (pJ S i k v) j = cellf kc ad S j := cellK_congr _ (fun _ => rfl) (fun _ => rfl) (fun _ => rfl) (fun h' => by rw [gJ_pJ, if_neg (fun q => h q.1)]) (fun _ => rfl)
theorem pR_ne {kc : Nat → ClassId} {ad : Nat → Nat} {S : St} {i k : Nat} {v : Option Nat} (j : Nat) (h : j ≠ i) : cellf kc ad (pR S i k v) j = cellf kc ad S j := cellK_congr _ (fun _ => rfl) (fun _ => rfl) (fun _ => rfl) (fun _ => rfl) (fun h' => by rw [gR_pR, if_neg (fun q => h q.1)])
theorem ln_lt (i : Nat) : ln i < 2 ^ 31 := by
  unfold ln
  split
  · rename_i h
    have : ∀ x, x < 66 → lnT.getD x 17 < 2 ^ 31 := by decide +kernel
    exact this i h
  · decide
section VR
variable {p : Program} {l : Launch} {e : Env} {R : Room} {s : State} {m : MethodId} {args : Array Value} {below : List Frame} {meth : Method} {c : Code} {Q : State → Prop} {D : va_G} {kc : Nat → ClassId} {A : Nat → Prop} {nL cells slots : Nat} {ws : va_W} {lv : List (Nat × Value)} {st : List Value} {cc : ByteArray} {own : String} {ret : Option FieldType} {N : Nat} {ad : Nat → Nat} {S : St}

theorem v_iadd (pc : Nat) (C : Cx p s m args meth c cc own nL ret D kc) {x y : Int32} (hd : decode cc pc = .ok (.iadd, 1)) (k : V p l e R s m args below meth c Q D A nL cells slots ws (pc + 1) lv (.int (x + y) :: st)) : V p l e R s m args below meth c Q D A nL cells slots ws pc lv (.int y :: .int x :: st) := fun H locs ls hl hP hD hS => lv_iadd C.1 C.2.1 hd  (k H locs ls hl hP hD hS)
theorem v_isub (pc : Nat) (C : Cx p s m args meth c cc own nL ret D kc) {x y : Int32} (hd : decode cc pc = .ok (.isub, 1)) (k : V p l e R s m args below meth c Q D A nL cells slots ws (pc + 1) lv (.int (x - y) :: st)) : V p l e R s m args below meth c Q D A nL cells slots ws pc lv (.int y :: .int x :: st) := fun H locs ls hl hP hD hS => lv_isub C.1 C.2.1 hd  (k H locs ls hl hP hD hS)
theorem v_imul (pc : Nat) (C : Cx p s m args meth c cc own nL ret D kc) {x y : Int32} (hd : decode cc pc = .ok (.imul, 1)) (k : V p l e R s m args below meth c Q D A nL cells slots ws (pc + 1) lv (.int (x * y) :: st)) : V p l e R s m args below meth c Q D A nL cells slots ws pc lv (.int y :: .int x :: st) := fun H locs ls hl hP hD hS => lv_imul C.1 C.2.1 hd  (k H locs ls hl hP hD hS)
theorem v_iand (pc : Nat) (C : Cx p s m args meth c cc own nL ret D kc) {x y : Int32} (hd : decode cc pc = .ok (.iand, 1)) (k : V p l e R s m args below meth c Q D A nL cells slots ws (pc + 1) lv (.int (x &&& y) :: st)) : V p l e R s m args below meth c Q D A nL cells slots ws pc lv (.int y :: .int x :: st) := fun H locs ls hl hP hD hS => lv_iand C.1 C.2.1 hd  (k H locs ls hl hP hD hS)
theorem v_ladd (pc : Nat) (C : Cx p s m args meth c cc own nL ret D kc) {x y : Int64} (hd : decode cc pc = .ok (.ladd, 1)) (k : V p l e R s m args below meth c Q D A nL cells slots ws (pc + 1) lv (.long (x + y) :: st)) : V p l e R s m args below meth c Q D A nL cells slots ws pc lv (.long y :: .long x :: st) := fun H locs ls hl hP hD hS => lv_ladd C.1 C.2.1 hd  (k H locs ls hl hP hD hS)
theorem v_lsub (pc : Nat) (C : Cx p s m args meth c cc own nL ret D kc) {x y : Int64} (hd : decode cc pc = .ok (.lsub, 1)) (k : V p l e R s m args below meth c Q D A nL cells slots ws (pc + 1) lv (.long (x - y) :: st)) : V p l e R s m args below meth c Q D A nL cells slots ws pc lv (.long y :: .long x :: st) := fun H locs ls hl hP hD hS => lv_lsub C.1 C.2.1 hd  (k H locs ls hl hP hD hS)
theorem v_lmul (pc : Nat) (C : Cx p s m args meth c cc own nL ret D kc) {x y : Int64} (hd : decode cc pc = .ok (.lmul, 1)) (k : V p l e R s m args below meth c Q D A nL cells slots ws (pc + 1) lv (.long (x * y) :: st)) : V p l e R s m args below meth c Q D A nL cells slots ws pc lv (.long y :: .long x :: st) := fun H locs ls hl hP hD hS => lv_lmul C.1 C.2.1 hd  (k H locs ls hl hP hD hS)
theorem v_lxor (pc : Nat) (C : Cx p s m args meth c cc own nL ret D kc) {x y : Int64} (hd : decode cc pc = .ok (.lxor, 1)) (k : V p l e R s m args below meth c Q D A nL cells slots ws (pc + 1) lv (.long (x ^^^ y) :: st)) : V p l e R s m args below meth c Q D A nL cells slots ws pc lv (.long y :: .long x :: st) := fun H locs ls hl hP hD hS => lv_lxor C.1 C.2.1 hd  (k H locs ls hl hP hD hS)
theorem v_idiv (pc : Nat) (C : Cx p s m args meth c cc own nL ret D kc) {x y : Int32} (hd : decode cc pc = .ok (.idiv, 1)) (hne : ¬ y = 0) (k : V p l e R s m args below meth c Q D A nL cells slots ws (pc + 1) lv (.int (x / y) :: st)) : V p l e R s m args below meth c Q D A nL cells slots ws pc lv (.int y :: .int x :: st) := fun H locs ls hl hP hD hS => lv_idiv C.1 C.2.1 hd hne (k H locs ls hl hP hD hS)
theorem v_ldiv (pc : Nat) (C : Cx p s m args meth c cc own nL ret D kc) {x y : Int64} (hd : decode cc pc = .ok (.ldiv, 1)) (hne : ¬ y = 0) (k : V p l e R s m args below meth c Q D A nL cells slots ws (pc + 1) lv (.long (x / y) :: st)) : V p l e R s m args below meth c Q D A nL cells slots ws pc lv (.long y :: .long x :: st) := fun H locs ls hl hP hD hS => lv_ldiv C.1 C.2.1 hd hne (k H locs ls hl hP hD hS)
theorem v_lrem (pc : Nat) (C : Cx p s m args meth c cc own nL ret D kc) {x y : Int64} (hd : decode cc pc = .ok (.lrem, 1)) (hne : ¬ y = 0) (k : V p l e R s m args below meth c Q D A nL cells slots ws (pc + 1) lv (.long (x - x / y * y) :: st)) : V p l e R s m args below meth c Q D A nL cells slots ws pc lv (.long y :: .long x :: st) := fun H locs ls hl hP hD hS => lv_lrem C.1 C.2.1 hd hne (k H locs ls hl hP hD hS)
theorem v_ineg (pc : Nat) (C : Cx p s m args meth c cc own nL ret D kc) {x : Int32} (hd : decode cc pc = .ok (.ineg, 1)) (k : V p l e R s m args below meth c Q D A nL cells slots ws (pc + 1) lv (.int (-x) :: st)) : V p l e R s m args below meth c Q D A nL cells slots ws pc lv (.int x :: st) := fun H locs ls hl hP hD hS => lv_ineg C.1 C.2.1 hd  (k H locs ls hl hP hD hS)
theorem v_lneg (pc : Nat) (C : Cx p s m args meth c cc own nL ret D kc) {x : Int64} (hd : decode cc pc = .ok (.lneg, 1)) (k : V p l e R s m args below meth c Q D A nL cells slots ws (pc + 1) lv (.long (-x) :: st)) : V p l e R s m args below meth c Q D A nL cells slots ws pc lv (.long x :: st) := fun H locs ls hl hP hD hS => lv_lneg C.1 C.2.1 hd  (k H locs ls hl hP hD hS)
theorem v_i2l (pc : Nat) (C : Cx p s m args meth c cc own nL ret D kc) {x : Int32} (hd : decode cc pc = .ok (.i2l, 1)) (k : V p l e R s m args below meth c Q D A nL cells slots ws (pc + 1) lv (.long x.toInt64 :: st)) : V p l e R s m args below meth c Q D A nL cells slots ws pc lv (.int x :: st) := fun H locs ls hl hP hD hS => lv_i2l C.1 C.2.1 hd rfl (k H locs ls hl hP hD hS)
theorem v_l2i (pc : Nat) (C : Cx p s m args meth c cc own nL ret D kc) {x : Int64} (hd : decode cc pc = .ok (.l2i, 1)) (k : V p l e R s m args below meth c Q D A nL cells slots ws (pc + 1) lv (.int x.toInt32 :: st)) : V p l e R s m args below meth c Q D A nL cells slots ws pc lv (.long x :: st) := fun H locs ls hl hP hD hS => lv_l2i C.1 C.2.1 hd rfl (k H locs ls hl hP hD hS)
theorem v_lshl (pc : Nat) (C : Cx p s m args meth c cc own nL ret D kc) {x v : Int64} {y : Int32} (hd : decode cc pc = .ok (.lshl, 1)) (hv : x <<< (y.toInt64 &&& 63) = v) (k : V p l e R s m args below meth c Q D A nL cells slots ws (pc + 1) lv (.long v :: st)) : V p l e R s m args below meth c Q D A nL cells slots ws pc lv (.int y :: .long x :: st) := fun H locs ls hl hP hD hS => lv_lshl C.1 C.2.1 hd hv (k H locs ls hl hP hD hS)
theorem v_lshr (pc : Nat) (C : Cx p s m args meth c cc own nL ret D kc) {x v : Int64} {y : Int32} (hd : decode cc pc = .ok (.lshr, 1)) (hv : x >>> (y.toInt64 &&& 63) = v) (k : V p l e R s m args below meth c Q D A nL cells slots ws (pc + 1) lv (.long v :: st)) : V p l e R s m args below meth c Q D A nL cells slots ws pc lv (.int y :: .long x :: st) := fun H locs ls hl hP hD hS => lv_lshr C.1 C.2.1 hd hv (k H locs ls hl hP hD hS)
theorem v_iconst (pc : Nat) (C : Cx p s m args meth c cc own nL ret D kc) {n : Int} (v : Int32) (hd : decode cc pc = .ok (.iconst n, 1)) (hv : Int32.ofInt n = v) (k : V p l e R s m args below meth c Q D A nL cells slots ws (pc + 1) lv (.int v :: st)) : V p l e R s m args below meth c Q D A nL cells slots ws pc lv st := fun H locs ls hl hP hD hS => lv_iconst C.1 C.2.1 hd hv (k H locs ls hl hP hD hS)
theorem v_bipush (pc : Nat) (C : Cx p s m args meth c cc own nL ret D kc) {n : Int} (v : Int32) (hd : decode cc pc = .ok (.bipush n, 2)) (hv : (Int8.ofInt n).toInt32 = v) (k : V p l e R s m args below meth c Q D A nL cells slots ws (pc + 2) lv (.int v :: st)) : V p l e R s m args below meth c Q D A nL cells slots ws pc lv st := fun H locs ls hl hP hD hS => lv_bipush C.1 C.2.1 hd hv (k H locs ls hl hP hD hS)
theorem v_sipush (pc : Nat) (C : Cx p s m args meth c cc own nL ret D kc) {n : Int} (v : Int32) (hd : decode cc pc = .ok (.sipush n, 3)) (hv : (Int16.ofInt n).toInt32 = v) (k : V p l e R s m args below meth c Q D A nL cells slots ws (pc + 3) lv (.int v :: st)) : V p l e R s m args below meth c Q D A nL cells slots ws pc lv st := fun H locs ls hl hP hD hS => lv_sipush C.1 C.2.1 hd hv (k H locs ls hl hP hD hS)
theorem v_lconst (pc : Nat) (C : Cx p s m args meth c cc own nL ret D kc) {n : Fin 2} (v : Int64) (hd : decode cc pc = .ok (.lconst n, 1)) (hv : Int64.ofNat (n : Nat) = v) (k : V p l e R s m args below meth c Q D A nL cells slots ws (pc + 1) lv (.long v :: st)) : V p l e R s m args below meth c Q D A nL cells slots ws pc lv st := fun H locs ls hl hP hD hS => lv_lconst C.1 C.2.1 hd hv (k H locs ls hl hP hD hS)
theorem v_null (pc : Nat) (C : Cx p s m args meth c cc own nL ret D kc)  (hd : decode cc pc = .ok (.aconst_null, 1)) (k : V p l e R s m args below meth c Q D A nL cells slots ws (pc + 1) lv (.null :: st)) : V p l e R s m args below meth c Q D A nL cells slots ws pc lv st := fun H locs ls hl hP hD hS => lv_null C.1 C.2.1 hd  (k H locs ls hl hP hD hS)
theorem v_dup (pc : Nat) (C : Cx p s m args meth c cc own nL ret D kc) {va : Value} (hd : decode cc pc = .ok (.dup, 1)) (h : va.category = 1) (k : V p l e R s m args below meth c Q D A nL cells slots ws (pc + 1) lv (va :: va :: st)) : V p l e R s m args below meth c Q D A nL cells slots ws pc lv (va :: st) := fun H locs ls hl hP hD hS => lv_dup C.1 C.2.1 hd h (k H locs ls hl hP hD hS)
theorem v_dup2_2 (pc : Nat) (C : Cx p s m args meth c cc own nL ret D kc) {va : Value} (hd : decode cc pc = .ok (.dup2, 1)) (h : va.category = 2) (k : V p l e R s m args below meth c Q D A nL cells slots ws (pc + 1) lv (va :: va :: st)) : V p l e R s m args below meth c Q D A nL cells slots ws pc lv (va :: st) := fun H locs ls hl hP hD hS => lv_dup2_2 C.1 C.2.1 hd h (k H locs ls hl hP hD hS)
theorem v_dup2_11 (pc : Nat) (C : Cx p s m args meth c cc own nL ret D kc) {va vb : Value} (hd : decode cc pc = .ok (.dup2, 1)) (h : va.category = 1) (h2 : vb.category = 1) (k : V p l e R s m args below meth c Q D A nL cells slots ws (pc + 1) lv (va :: vb :: va :: vb :: st)) : V p l e R s m args below meth c Q D A nL cells slots ws pc lv (va :: vb :: st) := fun H locs ls hl hP hD hS => lv_dup2_11 C.1 C.2.1 hd h h2 (k H locs ls hl hP hD hS)
theorem v_ldc (pc : Nat) (C : Cx p s m args meth c cc own nL ret D kc) {idx : Nat} (v : Int32) (hc : Cond.constant own idx v ∈ wsG) (hd : decode cc pc = .ok (.ldc idx, 2)) (k : V p l e R s m args below meth c Q D A nL cells slots ws (pc + 2) lv (.int v :: st)) : V p l e R s m args below meth c Q D A nL cells slots ws pc lv st := fun H locs ls hl hP hD hS => lv_ldc C.1 C.2.1 C.2.2.2.1 (C.2.2.2.2.1 _ hc) hd (k H locs ls hl hP hD hS)
theorem v_ldc2 (pc : Nat) (C : Cx p s m args meth c cc own nL ret D kc) {idx : Nat} (v : Int64) (hc : Cond.constantLong own idx v ∈ wsG) (hd : decode cc pc = .ok (.ldc2_w idx, 3)) (k : V p l e R s m args below meth c Q D A nL cells slots ws (pc + 3) lv (.long v :: st)) : V p l e R s m args below meth c Q D A nL cells slots ws pc lv st := fun H locs ls hl hP hD hS => lv_ldc2 C.1 C.2.1 C.2.2.2.1 (C.2.2.2.2.1 _ hc) hd (k H locs ls hl hP hD hS)
theorem v_iload_n (pc j : Nat) (C : Cx p s m args meth c cc own nL ret D kc) {i : Fin 4} {x : Int32} (hd : decode cc pc = .ok (.iload_n i, 1)) (hj : lv[j]? = some ((i : Nat), .int x)) (k : V p l e R s m args below meth c Q D A nL cells slots ws (pc + 1) lv (.int x :: st)) : V p l e R s m args below meth c Q D A nL cells slots ws pc lv st := fun H locs ls hl hP hD hS => lv_iload_n C.1 C.2.1 hd rfl (lv_at hl j hj) (k H locs ls hl hP hD hS)
theorem v_iload (pc j : Nat) (C : Cx p s m args meth c cc own nL ret D kc) {i : Nat} {x : Int32} (hd : decode cc pc = .ok (.iload i, 2)) (hj : lv[j]? = some (i, .int x)) (k : V p l e R s m args below meth c Q D A nL cells slots ws (pc + 2) lv (.int x :: st)) : V p l e R s m args below meth c Q D A nL cells slots ws pc lv st := fun H locs ls hl hP hD hS => lv_iload C.1 C.2.1 hd (lv_at hl j hj) (k H locs ls hl hP hD hS)
theorem v_lload_n (pc j : Nat) (C : Cx p s m args meth c cc own nL ret D kc) {i : Fin 4} {x : Int64} (hd : decode cc pc = .ok (.lload_n i, 1)) (hj : lv[j]? = some ((i : Nat), .long x)) (k : V p l e R s m args below meth c Q D A nL cells slots ws (pc + 1) lv (.long x :: st)) : V p l e R s m args below meth c Q D A nL cells slots ws pc lv st := fun H locs ls hl hP hD hS => lv_lload_n C.1 C.2.1 hd rfl (lv_at hl j hj) (k H locs ls hl hP hD hS)
theorem v_lload (pc j : Nat) (C : Cx p s m args meth c cc own nL ret D kc) {i : Nat} {x : Int64} (hd : decode cc pc = .ok (.lload i, 2)) (hj : lv[j]? = some (i, .long x)) (k : V p l e R s m args below meth c Q D A nL cells slots ws (pc + 2) lv (.long x :: st)) : V p l e R s m args below meth c Q D A nL cells slots ws pc lv st := fun H locs ls hl hP hD hS => lv_lload C.1 C.2.1 hd (lv_at hl j hj) (k H locs ls hl hP hD hS)
theorem v_aload_n (pc j : Nat) (C : Cx p s m args meth c cc own nL ret D kc) {i : Fin 4} {x : Nat} (hd : decode cc pc = .ok (.aload_n i, 1)) (hj : lv[j]? = some ((i : Nat), .ref x)) (k : V p l e R s m args below meth c Q D A nL cells slots ws (pc + 1) lv (.ref x :: st)) : V p l e R s m args below meth c Q D A nL cells slots ws pc lv st := fun H locs ls hl hP hD hS => lv_aload_n C.1 C.2.1 hd rfl (lv_at hl j hj) (k H locs ls hl hP hD hS)
theorem v_aload (pc j : Nat) (C : Cx p s m args meth c cc own nL ret D kc) {i : Nat} {x : Nat} (hd : decode cc pc = .ok (.aload i, 2)) (hj : lv[j]? = some (i, .ref x)) (k : V p l e R s m args below meth c Q D A nL cells slots ws (pc + 2) lv (.ref x :: st)) : V p l e R s m args below meth c Q D A nL cells slots ws pc lv st := fun H locs ls hl hP hD hS => lv_aload C.1 C.2.1 hd (lv_at hl j hj) (k H locs ls hl hP hD hS)
theorem v_aload_nN (pc j : Nat) (C : Cx p s m args meth c cc own nL ret D kc) {i : Fin 4}  (hd : decode cc pc = .ok (.aload_n i, 1)) (hj : lv[j]? = some ((i : Nat), .null)) (k : V p l e R s m args below meth c Q D A nL cells slots ws (pc + 1) lv (.null :: st)) : V p l e R s m args below meth c Q D A nL cells slots ws pc lv st := fun H locs ls hl hP hD hS => lv_aload_nN C.1 C.2.1 hd rfl (lv_at hl j hj) (k H locs ls hl hP hD hS)
theorem v_aloadN (pc j : Nat) (C : Cx p s m args meth c cc own nL ret D kc) {i : Nat}  (hd : decode cc pc = .ok (.aload i, 2)) (hj : lv[j]? = some (i, .null)) (k : V p l e R s m args below meth c Q D A nL cells slots ws (pc + 2) lv (.null :: st)) : V p l e R s m args below meth c Q D A nL cells slots ws pc lv st := fun H locs ls hl hP hD hS => lv_aloadN C.1 C.2.1 hd (lv_at hl j hj) (k H locs ls hl hP hD hS)
theorem v_istore_n (pc : Nat) (lv' : List (Nat × Value)) (C : Cx p s m args meth c cc own nL ret D kc) {i : Fin 4} {x : Int32} (hd : decode cc pc = .ok (.istore_n i, 1)) (hn : ((i : Nat) < nL)) (hl' : ((i : Nat), Value.int x) :: lv.filter (fun q => !(q.1 == (i : Nat)) && !(q.1 + 1 == (i : Nat) && q.2.category == 2)) = lv') (k : V p l e R s m args below meth c Q D A nL cells slots ws (pc + 1) lv' st) : V p l e R s m args below meth c Q D A nL cells slots ws pc lv (.int x :: st) := fun H locs ls hl hP hD hS => lv_istore_n C.1 C.2.1 hd rfl hl hn hl' (fun ls' hl2 => k H locs ls' hl2 hP hD hS)
theorem v_istore (pc : Nat) (lv' : List (Nat × Value)) (C : Cx p s m args meth c cc own nL ret D kc) {i : Nat} {x : Int32} (hd : decode cc pc = .ok (.istore i, 2)) (hn : (i < nL)) (hl' : (i, Value.int x) :: lv.filter (fun q => !(q.1 == i) && !(q.1 + 1 == i && q.2.category == 2)) = lv') (k : V p l e R s m args below meth c Q D A nL cells slots ws (pc + 2) lv' st) : V p l e R s m args below meth c Q D A nL cells slots ws pc lv (.int x :: st) := fun H locs ls hl hP hD hS => lv_istore C.1 C.2.1 hd  hl hn hl' (fun ls' hl2 => k H locs ls' hl2 hP hD hS)
theorem v_lstore_n (pc : Nat) (lv' : List (Nat × Value)) (C : Cx p s m args meth c cc own nL ret D kc) {i : Fin 4} {x : Int64} (hd : decode cc pc = .ok (.lstore_n i, 1)) (hn : ((i : Nat) + 1 < nL)) (hl' : ((i : Nat), Value.long x) :: lv.filter (fun q => !(q.1 == (i : Nat)) && (!(q.1 == (i : Nat) + 1) && !(q.1 + 1 == (i : Nat) && q.2.category == 2))) = lv') (k : V p l e R s m args below meth c Q D A nL cells slots ws (pc + 1) lv' st) : V p l e R s m args below meth c Q D A nL cells slots ws pc lv (.long x :: st) := fun H locs ls hl hP hD hS => lv_lstore_n C.1 C.2.1 hd rfl hl hn hl' (fun ls' hl2 => k H locs ls' hl2 hP hD hS)
theorem v_lstore (pc : Nat) (lv' : List (Nat × Value)) (C : Cx p s m args meth c cc own nL ret D kc) {i : Nat} {x : Int64} (hd : decode cc pc = .ok (.lstore i, 2)) (hn : (i + 1 < nL)) (hl' : (i, Value.long x) :: lv.filter (fun q => !(q.1 == i) && (!(q.1 == i + 1) && !(q.1 + 1 == i && q.2.category == 2))) = lv') (k : V p l e R s m args below meth c Q D A nL cells slots ws (pc + 2) lv' st) : V p l e R s m args below meth c Q D A nL cells slots ws pc lv (.long x :: st) := fun H locs ls hl hP hD hS => lv_lstore C.1 C.2.1 hd  hl hn hl' (fun ls' hl2 => k H locs ls' hl2 hP hD hS)
theorem v_astore_n (pc : Nat) (lv' : List (Nat × Value)) (C : Cx p s m args meth c cc own nL ret D kc) {i : Fin 4} {x : Nat} (hd : decode cc pc = .ok (.astore_n i, 1)) (hn : ((i : Nat) < nL)) (hl' : ((i : Nat), Value.ref x) :: lv.filter (fun q => !(q.1 == (i : Nat)) && !(q.1 + 1 == (i : Nat) && q.2.category == 2)) = lv') (k : V p l e R s m args below meth c Q D A nL cells slots ws (pc + 1) lv' st) : V p l e R s m args below meth c Q D A nL cells slots ws pc lv (.ref x :: st) := fun H locs ls hl hP hD hS => lv_astore_n C.1 C.2.1 hd rfl hl hn hl' (fun ls' hl2 => k H locs ls' hl2 hP hD hS)
theorem v_astore (pc : Nat) (lv' : List (Nat × Value)) (C : Cx p s m args meth c cc own nL ret D kc) {i : Nat} {x : Nat} (hd : decode cc pc = .ok (.astore i, 2)) (hn : (i < nL)) (hl' : (i, Value.ref x) :: lv.filter (fun q => !(q.1 == i) && !(q.1 + 1 == i && q.2.category == 2)) = lv') (k : V p l e R s m args below meth c Q D A nL cells slots ws (pc + 2) lv' st) : V p l e R s m args below meth c Q D A nL cells slots ws pc lv (.ref x :: st) := fun H locs ls hl hP hD hS => lv_astore C.1 C.2.1 hd  hl hn hl' (fun ls' hl2 => k H locs ls' hl2 hP hD hS)
theorem v_astore_nN (pc : Nat) (lv' : List (Nat × Value)) (C : Cx p s m args meth c cc own nL ret D kc) {i : Fin 4}  (hd : decode cc pc = .ok (.astore_n i, 1)) (hn : ((i : Nat) < nL)) (hl' : ((i : Nat), Value.null) :: lv.filter (fun q => !(q.1 == (i : Nat)) && !(q.1 + 1 == (i : Nat) && q.2.category == 2)) = lv') (k : V p l e R s m args below meth c Q D A nL cells slots ws (pc + 1) lv' st) : V p l e R s m args below meth c Q D A nL cells slots ws pc lv (.null :: st) := fun H locs ls hl hP hD hS => lv_astore_nN C.1 C.2.1 hd rfl hl hn hl' (fun ls' hl2 => k H locs ls' hl2 hP hD hS)
theorem v_astoreN (pc : Nat) (lv' : List (Nat × Value)) (C : Cx p s m args meth c cc own nL ret D kc) {i : Nat}  (hd : decode cc pc = .ok (.astore i, 2)) (hn : (i < nL)) (hl' : (i, Value.null) :: lv.filter (fun q => !(q.1 == i) && !(q.1 + 1 == i && q.2.category == 2)) = lv') (k : V p l e R s m args below meth c Q D A nL cells slots ws (pc + 2) lv' st) : V p l e R s m args below meth c Q D A nL cells slots ws pc lv (.null :: st) := fun H locs ls hl hP hD hS => lv_astoreN C.1 C.2.1 hd  hl hn hl' (fun ls' hl2 => k H locs ls' hl2 hP hD hS)
theorem v_iinc (pc j : Nat) (v : Int32) (lv' : List (Nat × Value)) (C : Cx p s m args meth c cc own nL ret D kc) {i : Nat} {n : Int} {x : Int32} (hd : decode cc pc = .ok (.iinc i n, 3)) (hj : lv[j]? = some (i, .int x)) (hv : x + Int32.ofInt n = v) (hn : i < nL) (hl' : (i, Value.int v) :: lv.filter (fun q => !(q.1 == i) && !(q.1 + 1 == i && q.2.category == 2)) = lv') (k : V p l e R s m args below meth c Q D A nL cells slots ws (pc + 3) lv' st) : V p l e R s m args below meth c Q D A nL cells slots ws pc lv st := fun H locs ls hl hP hD hS => lv_iinc C.1 C.2.1 hd hl hj hv hn hl' (fun ls' hl2 => k H locs ls' hl2 hP hD hS)
theorem v_if_eq (pc tgt : Nat) (C : Cx p s m args meth c cc own nL ret D kc) {x : Int32} {off : Int} (hd : decode cc pc = .ok (.ifCond .eq off, 3)) (ht : (pc : Int) + off = (tgt : Int)) (kt : x = 0 → V p l e R s m args below meth c Q D A nL cells slots ws tgt lv st) (kf : ¬ (x = 0) → V p l e R s m args below meth c Q D A nL cells slots ws (pc + 3) lv st) : V p l e R s m args below meth c Q D A nL cells slots ws pc lv (.int x :: st) := fun H locs ls hl hP hD hS => lv_if_eq C.1 C.2.1 hd ht (fun q => kt q H locs ls hl hP hD hS) (fun q => kf q H locs ls hl hP hD hS)
theorem v_icmp_eq (pc tgt : Nat) (C : Cx p s m args meth c cc own nL ret D kc) {x y : Int32} {off : Int} (hd : decode cc pc = .ok (.if_icmp .eq off, 3)) (ht : (pc : Int) + off = (tgt : Int)) (kt : x = y → V p l e R s m args below meth c Q D A nL cells slots ws tgt lv st) (kf : ¬ (x = y) → V p l e R s m args below meth c Q D A nL cells slots ws (pc + 3) lv st) : V p l e R s m args below meth c Q D A nL cells slots ws pc lv (.int y :: .int x :: st) := fun H locs ls hl hP hD hS => lv_icmp_eq C.1 C.2.1 hd ht (fun q => kt q H locs ls hl hP hD hS) (fun q => kf q H locs ls hl hP hD hS)
theorem v_lcmp_eq (pc tgt : Nat) (C : Cx p s m args meth c cc own nL ret D kc) {x y : Int64} {off : Int} (hd0 : decode cc pc = .ok (.lcmp, 1)) (hd : decode cc (pc + 1) = .ok (.ifCond .eq off, 3)) (ht : ((pc + 1 : Nat) : Int) + off = (tgt : Int)) (kt : x = y → V p l e R s m args below meth c Q D A nL cells slots ws tgt lv st) (kf : ¬ (x = y) → V p l e R s m args below meth c Q D A nL cells slots ws (pc + 4) lv st) : V p l e R s m args below meth c Q D A nL cells slots ws pc lv (.long y :: .long x :: st) := fun H locs ls hl hP hD hS => W.lcmp C.1 C.2.1 hd0 (lv_if_eq C.1 C.2.1 hd ht (fun q => kt ((lg_cmp_eq x y).mp q) H locs ls hl hP hD hS) (fun q => kf (fun z => q ((lg_cmp_eq x y).mpr z)) H locs ls hl hP hD hS))
theorem v_if_ne (pc tgt : Nat) (C : Cx p s m args meth c cc own nL ret D kc) {x : Int32} {off : Int} (hd : decode cc pc = .ok (.ifCond .ne off, 3)) (ht : (pc : Int) + off = (tgt : Int)) (kt : ¬ x = 0 → V p l e R s m args below meth c Q D A nL cells slots ws tgt lv st) (kf : x = 0 → V p l e R s m args below meth c Q D A nL cells slots ws (pc + 3) lv st) : V p l e R s m args below meth c Q D A nL cells slots ws pc lv (.int x :: st) := fun H locs ls hl hP hD hS => lv_if_ne C.1 C.2.1 hd ht (fun q => kt q H locs ls hl hP hD hS) (fun q => kf q H locs ls hl hP hD hS)
theorem v_icmp_ne (pc tgt : Nat) (C : Cx p s m args meth c cc own nL ret D kc) {x y : Int32} {off : Int} (hd : decode cc pc = .ok (.if_icmp .ne off, 3)) (ht : (pc : Int) + off = (tgt : Int)) (kt : ¬ x = y → V p l e R s m args below meth c Q D A nL cells slots ws tgt lv st) (kf : x = y → V p l e R s m args below meth c Q D A nL cells slots ws (pc + 3) lv st) : V p l e R s m args below meth c Q D A nL cells slots ws pc lv (.int y :: .int x :: st) := fun H locs ls hl hP hD hS => lv_icmp_ne C.1 C.2.1 hd ht (fun q => kt q H locs ls hl hP hD hS) (fun q => kf q H locs ls hl hP hD hS)
theorem v_lcmp_ne (pc tgt : Nat) (C : Cx p s m args meth c cc own nL ret D kc) {x y : Int64} {off : Int} (hd0 : decode cc pc = .ok (.lcmp, 1)) (hd : decode cc (pc + 1) = .ok (.ifCond .ne off, 3)) (ht : ((pc + 1 : Nat) : Int) + off = (tgt : Int)) (kt : ¬ x = y → V p l e R s m args below meth c Q D A nL cells slots ws tgt lv st) (kf : x = y → V p l e R s m args below meth c Q D A nL cells slots ws (pc + 4) lv st) : V p l e R s m args below meth c Q D A nL cells slots ws pc lv (.long y :: .long x :: st) := fun H locs ls hl hP hD hS => W.lcmp C.1 C.2.1 hd0 (lv_if_ne C.1 C.2.1 hd ht (fun q => kt (fun z => q ((lg_cmp_eq x y).mpr z)) H locs ls hl hP hD hS) (fun q => kf ((lg_cmp_eq x y).mp q) H locs ls hl hP hD hS))
theorem v_if_lt (pc tgt : Nat) (C : Cx p s m args meth c cc own nL ret D kc) {x : Int32} {off : Int} (hd : decode cc pc = .ok (.ifCond .lt off, 3)) (ht : (pc : Int) + off = (tgt : Int)) (kt : x < 0 → V p l e R s m args below meth c Q D A nL cells slots ws tgt lv st) (kf : ¬ (x < 0) → V p l e R s m args below meth c Q D A nL cells slots ws (pc + 3) lv st) : V p l e R s m args below meth c Q D A nL cells slots ws pc lv (.int x :: st) := fun H locs ls hl hP hD hS => lv_if_lt C.1 C.2.1 hd ht (fun q => kt q H locs ls hl hP hD hS) (fun q => kf q H locs ls hl hP hD hS)
theorem v_icmp_lt (pc tgt : Nat) (C : Cx p s m args meth c cc own nL ret D kc) {x y : Int32} {off : Int} (hd : decode cc pc = .ok (.if_icmp .lt off, 3)) (ht : (pc : Int) + off = (tgt : Int)) (kt : x < y → V p l e R s m args below meth c Q D A nL cells slots ws tgt lv st) (kf : ¬ (x < y) → V p l e R s m args below meth c Q D A nL cells slots ws (pc + 3) lv st) : V p l e R s m args below meth c Q D A nL cells slots ws pc lv (.int y :: .int x :: st) := fun H locs ls hl hP hD hS => lv_icmp_lt C.1 C.2.1 hd ht (fun q => kt q H locs ls hl hP hD hS) (fun q => kf q H locs ls hl hP hD hS)
theorem v_lcmp_lt (pc tgt : Nat) (C : Cx p s m args meth c cc own nL ret D kc) {x y : Int64} {off : Int} (hd0 : decode cc pc = .ok (.lcmp, 1)) (hd : decode cc (pc + 1) = .ok (.ifCond .lt off, 3)) (ht : ((pc + 1 : Nat) : Int) + off = (tgt : Int)) (kt : x < y → V p l e R s m args below meth c Q D A nL cells slots ws tgt lv st) (kf : ¬ (x < y) → V p l e R s m args below meth c Q D A nL cells slots ws (pc + 4) lv st) : V p l e R s m args below meth c Q D A nL cells slots ws pc lv (.long y :: .long x :: st) := fun H locs ls hl hP hD hS => W.lcmp C.1 C.2.1 hd0 (lv_if_lt C.1 C.2.1 hd ht (fun q => kt ((lg_cmp_lt x y).mp q) H locs ls hl hP hD hS) (fun q => kf (fun z => q ((lg_cmp_lt x y).mpr z)) H locs ls hl hP hD hS))
theorem v_if_ge (pc tgt : Nat) (C : Cx p s m args meth c cc own nL ret D kc) {x : Int32} {off : Int} (hd : decode cc pc = .ok (.ifCond .ge off, 3)) (ht : (pc : Int) + off = (tgt : Int)) (kt : 0 ≤ x → V p l e R s m args below meth c Q D A nL cells slots ws tgt lv st) (kf : ¬ (0 ≤ x) → V p l e R s m args below meth c Q D A nL cells slots ws (pc + 3) lv st) : V p l e R s m args below meth c Q D A nL cells slots ws pc lv (.int x :: st) := fun H locs ls hl hP hD hS => lv_if_ge C.1 C.2.1 hd ht (fun q => kt q H locs ls hl hP hD hS) (fun q => kf q H locs ls hl hP hD hS)
theorem v_icmp_ge (pc tgt : Nat) (C : Cx p s m args meth c cc own nL ret D kc) {x y : Int32} {off : Int} (hd : decode cc pc = .ok (.if_icmp .ge off, 3)) (ht : (pc : Int) + off = (tgt : Int)) (kt : y ≤ x → V p l e R s m args below meth c Q D A nL cells slots ws tgt lv st) (kf : ¬ (y ≤ x) → V p l e R s m args below meth c Q D A nL cells slots ws (pc + 3) lv st) : V p l e R s m args below meth c Q D A nL cells slots ws pc lv (.int y :: .int x :: st) := fun H locs ls hl hP hD hS => lv_icmp_ge C.1 C.2.1 hd ht (fun q => kt q H locs ls hl hP hD hS) (fun q => kf q H locs ls hl hP hD hS)
theorem v_lcmp_ge (pc tgt : Nat) (C : Cx p s m args meth c cc own nL ret D kc) {x y : Int64} {off : Int} (hd0 : decode cc pc = .ok (.lcmp, 1)) (hd : decode cc (pc + 1) = .ok (.ifCond .ge off, 3)) (ht : ((pc + 1 : Nat) : Int) + off = (tgt : Int)) (kt : y ≤ x → V p l e R s m args below meth c Q D A nL cells slots ws tgt lv st) (kf : ¬ (y ≤ x) → V p l e R s m args below meth c Q D A nL cells slots ws (pc + 4) lv st) : V p l e R s m args below meth c Q D A nL cells slots ws pc lv (.long y :: .long x :: st) := fun H locs ls hl hP hD hS => W.lcmp C.1 C.2.1 hd0 (lv_if_ge C.1 C.2.1 hd ht (fun q => kt ((lg_cmp_ge x y).mp q) H locs ls hl hP hD hS) (fun q => kf (fun z => q ((lg_cmp_ge x y).mpr z)) H locs ls hl hP hD hS))
theorem v_if_gt (pc tgt : Nat) (C : Cx p s m args meth c cc own nL ret D kc) {x : Int32} {off : Int} (hd : decode cc pc = .ok (.ifCond .gt off, 3)) (ht : (pc : Int) + off = (tgt : Int)) (kt : 0 < x → V p l e R s m args below meth c Q D A nL cells slots ws tgt lv st) (kf : ¬ (0 < x) → V p l e R s m args below meth c Q D A nL cells slots ws (pc + 3) lv st) : V p l e R s m args below meth c Q D A nL cells slots ws pc lv (.int x :: st) := fun H locs ls hl hP hD hS => lv_if_gt C.1 C.2.1 hd ht (fun q => kt q H locs ls hl hP hD hS) (fun q => kf q H locs ls hl hP hD hS)
theorem v_icmp_gt (pc tgt : Nat) (C : Cx p s m args meth c cc own nL ret D kc) {x y : Int32} {off : Int} (hd : decode cc pc = .ok (.if_icmp .gt off, 3)) (ht : (pc : Int) + off = (tgt : Int)) (kt : y < x → V p l e R s m args below meth c Q D A nL cells slots ws tgt lv st) (kf : ¬ (y < x) → V p l e R s m args below meth c Q D A nL cells slots ws (pc + 3) lv st) : V p l e R s m args below meth c Q D A nL cells slots ws pc lv (.int y :: .int x :: st) := fun H locs ls hl hP hD hS => lv_icmp_gt C.1 C.2.1 hd ht (fun q => kt q H locs ls hl hP hD hS) (fun q => kf q H locs ls hl hP hD hS)
theorem v_lcmp_gt (pc tgt : Nat) (C : Cx p s m args meth c cc own nL ret D kc) {x y : Int64} {off : Int} (hd0 : decode cc pc = .ok (.lcmp, 1)) (hd : decode cc (pc + 1) = .ok (.ifCond .gt off, 3)) (ht : ((pc + 1 : Nat) : Int) + off = (tgt : Int)) (kt : y < x → V p l e R s m args below meth c Q D A nL cells slots ws tgt lv st) (kf : ¬ (y < x) → V p l e R s m args below meth c Q D A nL cells slots ws (pc + 4) lv st) : V p l e R s m args below meth c Q D A nL cells slots ws pc lv (.long y :: .long x :: st) := fun H locs ls hl hP hD hS => W.lcmp C.1 C.2.1 hd0 (lv_if_gt C.1 C.2.1 hd ht (fun q => kt ((lg_cmp_gt x y).mp q) H locs ls hl hP hD hS) (fun q => kf (fun z => q ((lg_cmp_gt x y).mpr z)) H locs ls hl hP hD hS))
theorem v_if_le (pc tgt : Nat) (C : Cx p s m args meth c cc own nL ret D kc) {x : Int32} {off : Int} (hd : decode cc pc = .ok (.ifCond .le off, 3)) (ht : (pc : Int) + off = (tgt : Int)) (kt : x ≤ 0 → V p l e R s m args below meth c Q D A nL cells slots ws tgt lv st) (kf : ¬ (x ≤ 0) → V p l e R s m args below meth c Q D A nL cells slots ws (pc + 3) lv st) : V p l e R s m args below meth c Q D A nL cells slots ws pc lv (.int x :: st) := fun H locs ls hl hP hD hS => lv_if_le C.1 C.2.1 hd ht (fun q => kt q H locs ls hl hP hD hS) (fun q => kf q H locs ls hl hP hD hS)
theorem v_icmp_le (pc tgt : Nat) (C : Cx p s m args meth c cc own nL ret D kc) {x y : Int32} {off : Int} (hd : decode cc pc = .ok (.if_icmp .le off, 3)) (ht : (pc : Int) + off = (tgt : Int)) (kt : x ≤ y → V p l e R s m args below meth c Q D A nL cells slots ws tgt lv st) (kf : ¬ (x ≤ y) → V p l e R s m args below meth c Q D A nL cells slots ws (pc + 3) lv st) : V p l e R s m args below meth c Q D A nL cells slots ws pc lv (.int y :: .int x :: st) := fun H locs ls hl hP hD hS => lv_icmp_le C.1 C.2.1 hd ht (fun q => kt q H locs ls hl hP hD hS) (fun q => kf q H locs ls hl hP hD hS)
theorem v_lcmp_le (pc tgt : Nat) (C : Cx p s m args meth c cc own nL ret D kc) {x y : Int64} {off : Int} (hd0 : decode cc pc = .ok (.lcmp, 1)) (hd : decode cc (pc + 1) = .ok (.ifCond .le off, 3)) (ht : ((pc + 1 : Nat) : Int) + off = (tgt : Int)) (kt : x ≤ y → V p l e R s m args below meth c Q D A nL cells slots ws tgt lv st) (kf : ¬ (x ≤ y) → V p l e R s m args below meth c Q D A nL cells slots ws (pc + 4) lv st) : V p l e R s m args below meth c Q D A nL cells slots ws pc lv (.long y :: .long x :: st) := fun H locs ls hl hP hD hS => W.lcmp C.1 C.2.1 hd0 (lv_if_le C.1 C.2.1 hd ht (fun q => kt ((lg_cmp_le x y).mp q) H locs ls hl hP hD hS) (fun q => kf (fun z => q ((lg_cmp_le x y).mpr z)) H locs ls hl hP hD hS))
theorem v_goto (pc tgt : Nat) (C : Cx p s m args meth c cc own nL ret D kc) {off : Int} (hd : decode cc pc = .ok (.goto off, 3)) (ht : (pc : Int) + off = (tgt : Int)) (k : V p l e R s m args below meth c Q D A nL cells slots ws tgt lv st) : V p l e R s m args below meth c Q D A nL cells slots ws pc lv st := fun H locs ls hl hP hD hS => lv_goto C.1 C.2.1 hd ht (k H locs ls hl hP hD hS)
theorem v_ifnull (pc : Nat) (C : Cx p s m args meth c cc own nL ret D kc) {x : Nat} {off : Int} (hd : decode cc pc = .ok (.ifnull off, 3)) (k : V p l e R s m args below meth c Q D A nL cells slots ws (pc + 3) lv st) : V p l e R s m args below meth c Q D A nL cells slots ws pc lv (.ref x :: st) := fun H locs ls hl hP hD hS => lv_ifnull C.1 C.2.1 hd (k H locs ls hl hP hD hS)
theorem v_ifnullN (pc tgt : Nat) (C : Cx p s m args meth c cc own nL ret D kc) {off : Int} (hd : decode cc pc = .ok (.ifnull off, 3)) (ht : (pc : Int) + off = (tgt : Int)) (k : V p l e R s m args below meth c Q D A nL cells slots ws tgt lv st) : V p l e R s m args below meth c Q D A nL cells slots ws pc lv (.null :: st) := fun H locs ls hl hP hD hS => lv_ifnullN C.1 C.2.1 hd ht (k H locs ls hl hP hD hS)
theorem v_ifnonnullN (pc : Nat) (C : Cx p s m args meth c cc own nL ret D kc) {off : Int} (hd : decode cc pc = .ok (.ifnonnull off, 3)) (k : V p l e R s m args below meth c Q D A nL cells slots ws (pc + 3) lv st) : V p l e R s m args below meth c Q D A nL cells slots ws pc lv (.null :: st) := fun H locs ls hl hP hD hS => lv_ifnonnullN C.1 C.2.1 hd (k H locs ls hl hP hD hS)
theorem v_ifnonnull (pc tgt : Nat) (C : Cx p s m args meth c cc own nL ret D kc) {x : Nat} {off : Int} (hd : decode cc pc = .ok (.ifnonnull off, 3)) (ht : (pc : Int) + off = (tgt : Int)) (k : V p l e R s m args below meth c Q D A nL cells slots ws tgt lv st) : V p l e R s m args below meth c Q D A nL cells slots ws pc lv (.ref x :: st) := fun H locs ls hl hP hD hS => lv_ifnonnull C.1 C.2.1 hd ht (k H locs ls hl hP hD hS)
theorem v_tabIn (pc tgt : Nat) (C : Cx p s m args meth c cc own nL ret D kc) {dflt lo hi : Int} {offs : Array Int} {len : Nat} {x : Int32} {off : Int} (hd : decode cc pc = .ok (.tableswitch dflt lo hi offs, len)) (h1 : ¬ x.toInt < lo) (h2 : ¬ hi < x.toInt) (ho : offs[(x.toInt - lo).toNat]? = some off) (ht : (pc : Int) + off = (tgt : Int)) (k : V p l e R s m args below meth c Q D A nL cells slots ws tgt lv st) : V p l e R s m args below meth c Q D A nL cells slots ws pc lv (.int x :: st) := fun H locs ls hl hP hD hS => lv_tableIn C.1 C.2.1 hd h1 h2 ho ht (k H locs ls hl hP hD hS)
theorem v_tabOut (pc tgt : Nat) (C : Cx p s m args meth c cc own nL ret D kc) {dflt lo hi : Int} {offs : Array Int} {len : Nat} {x : Int32} (hd : decode cc pc = .ok (.tableswitch dflt lo hi offs, len)) (h : x.toInt < lo ∨ hi < x.toInt) (ht : (pc : Int) + dflt = (tgt : Int)) (k : V p l e R s m args below meth c Q D A nL cells slots ws tgt lv st) : V p l e R s m args below meth c Q D A nL cells slots ws pc lv (.int x :: st) := fun H locs ls hl hP hD hS => lv_tableOut C.1 C.2.1 hd h ht (k H locs ls hl hP hD hS)
theorem v_topi {pc : Nat} {x : Int32} (k : ∀ y : Int32, y = x → V p l e R s m args below meth c Q D A nL cells slots ws pc lv (.int y :: st)) : V p l e R s m args below meth c Q D A nL cells slots ws pc lv (.int x :: st) := k x rfl
theorem v_topl {pc : Nat} {x : Int64} (k : ∀ y : Int64, y = x → V p l e R s m args below meth c Q D A nL cells slots ws pc lv (.long y :: st)) : V p l e R s m args below meth c Q D A nL cells slots ws pc lv (.long x :: st) := k x rfl
theorem v_eqi {pc : Nat} {x : Int32} (y : Int32) (h : x = y) (k : V p l e R s m args below meth c Q D A nL cells slots ws pc lv (.int y :: st)) : V p l e R s m args below meth c Q D A nL cells slots ws pc lv (.int x :: st) := by subst h; exact k
theorem v_eql {pc : Nat} {x : Int64} (y : Int64) (h : x = y) (k : V p l e R s m args below meth c Q D A nL cells slots ws pc lv (.long y :: st)) : V p l e R s m args below meth c Q D A nL cells slots ws pc lv (.long x :: st) := by subst h; exact k
theorem v_sub {pc : Nat} {lv' : List (Nat × Value)} (is : List Nat) (h : lv_pick lv is = lv') (k : V p l e R s m args below meth c Q D A nL cells slots ws pc lv' st) : V p l e R s m args below meth c Q D A nL cells slots ws pc lv st := fun H locs ls hl hP hD hS => k H locs ls (lv_sub hl is h) hP hD hS
theorem v_wid {pc k n : Nat} (h1 : cells ≤ k) (h2 : slots ≤ n) (kk : V p l e R s m args below meth c Q D A nL k n ws pc lv st) : V p l e R s m args below meth c Q D A nL cells slots ws pc lv st := fun H locs ls hl hP hD hS => W.widen h1 h2 (kk H locs ls hl hP hD hS)
theorem v_get (pc : Nat) (C : Cx p s m args meth c cc own nL ret D kc) {i : Nat} (hi : i < N) {ci Nf : Nat} {Cn : String} {T : u_T} {fs : List Value} (he : cellf kc ad S i = .inr (ci, fs)) (hc : vwCl[ci]? = some (Cn, T, Nf)) (hin : ∀ w ∈ u_ws Cn T Nf, w ∈ wsG) (f : Nat) (hf : f < Nf) {idx : Nat} (hlink : Cond.fieldLink own idx (T f).1 (T f).2.1 (T f).2.2.1 ∈ wsG) {v : Value} (hv : fs[f]? = some v) (hd : decode cc pc = .ok (.getfield idx, 3)) (k : V p l e R s m args below meth c Q D A nL cells slots (wl kc N ad S) (pc + 3) lv (v :: st)) : V p l e R s m args below meth c Q D A nL cells slots (wl kc N ad S) pc lv (.ref (ad i) :: st) := fun H locs ls hl hP hD hS => va_get C.1 C.2.1 C.2.2.2.2.1 hin C.2.2.2.1 C.2.2.2.2.2.1.1 hP i ((wl_at hi).trans (by rw [he])) hc f hf (C.2.2.2.2.1 _ hlink) (fun _ h => h) hv hd (k H locs ls hl hP hD hS)
theorem v_put (pc : Nat) (C : Cx p s m args meth c cc own nL ret D kc) {i : Nat} (hi : i < N) {ci Nf : Nat} {Cn : String} {T : u_T} {fs : List Value} (he : cellf kc ad S i = .inr (ci, fs)) (hc : vwCl[ci]? = some (Cn, T, Nf)) (hin : ∀ w ∈ u_ws Cn T Nf, w ∈ wsG) (ty0 : Nat → FieldType) (hty : ∀ k, k < Nf → parseFieldDescriptor (T k).2.2.1 = some (ty0 k)) (hnm : ∀ a, a < Nf → ∀ b, b < Nf → a ≠ b → (T a).2.1 ≠ (T b).2.1) (f : Nat) (hf : f < Nf) (hfin : (T f).2.2.2 = false) {idx : Nat} (hlink : Cond.fieldLink own idx (T f).1 (T f).2.1 (T f).2.2.1 ∈ wsG) {v : Value} (hn : narrow (ty0 f) v = v) (hfit : fits (ty0 f) v = true) (hl : f < fs.length) {S' : St} (h1 : cellf kc ad S' i = .inr (ci, fs.set f v)) (h2 : ∀ j, j ≠ i → cellf kc ad S' j = cellf kc ad S j) (hd : decode cc pc = .ok (.putfield idx, 3)) (k : V p l e R s m args below meth c Q D A nL cells slots (wl kc N ad S') (pc + 3) lv st) : V p l e R s m args below meth c Q D A nL cells slots (wl kc N ad S) pc lv (v :: .ref (ad i) :: st) := fun H locs ls hl0 hP hD hS => va_put C.1 C.2.1 C.2.2.2.2.1 hin ty0 hty hnm C.2.2.2.1 C.2.2.2.2.2.1.1 hP hD hS i ((wl_at hi).trans (by rw [he])) hc f hf (C.2.2.2.2.1 _ hlink) (fun _ h => h) hfin (hty f hf) hn hfit hl hd (fun H1 locs1 hP1 hD1 hS1 => k H1 locs1 ls hl0 (by rw [← wl_set (kc := kc) (N := N) (ad := ad) (S := S) h1 h2]; exact hP1) (by rw [← wl_set (kc := kc) (N := N) (ad := ad) (S := S) h1 h2]; exact hD1) hS1)
theorem v_iald (pc : Nat) (C : Cx p s m args meth c cc own nL ret D kc) {i : Nat} (hi : i < N) (hk : kd i = 6) {x : Int32} (j : Nat) (hx : x = nI j) (hj : j < ln i) (hd : decode cc pc = .ok (.iaload, 1)) (k : V p l e R s m args below meth c Q D A nL cells slots (wl kc N ad S) (pc + 1) lv (.int (gA S i j) :: st)) : V p l e R s m args below meth c Q D A nL cells slots (wl kc N ad S) pc lv (.int x :: .ref (ad i) :: st) := by
  intro H locs ls hl hP hD hS
  refine va_iald C.1 C.2.1 C.2.2.2.2.2.1.1 hP i 0 ((wl_at hi).trans (by rw [cell_kd hk]; rfl)) rfl (by rw [hx]; exact vp_in_nI hj (ln_lt i)) hd ?_
  have e : x.toNatClampNeg = j := (by rw [hx, nI_clamp (Nat.lt_trans hj (ln_lt i))])
  rw [e]
  exact k H locs ls hl hP hD hS
theorem v_zald (pc : Nat) (C : Cx p s m args meth c cc own nL ret D kc) {i : Nat} (hi : i < N) (hk : kd i = 7) {x : Int32} (j : Nat) (hx : x = nI j) (hj : j < ln i) (hd : decode cc pc = .ok (.baload, 1)) (k : V p l e R s m args below meth c Q D A nL cells slots (wl kc N ad S) (pc + 1) lv (.int (gA S i j) :: st)) : V p l e R s m args below meth c Q D A nL cells slots (wl kc N ad S) pc lv (.int x :: .ref (ad i) :: st) := by
  intro H locs ls hl hP hD hS
  refine va_zald C.1 C.2.1 C.2.2.2.2.2.1.1 hP i 2 ((wl_at hi).trans (by rw [cell_kd hk]; rfl)) rfl (by rw [hx]; exact vp_in_nI hj (ln_lt i)) hd ?_
  have e : x.toNatClampNeg = j := (by rw [hx, nI_clamp (Nat.lt_trans hj (ln_lt i))])
  rw [e]
  exact k H locs ls hl hP hD hS
theorem v_lald (pc : Nat) (C : Cx p s m args meth c cc own nL ret D kc) {i : Nat} (hi : i < N) (hk : kd i = 10) {x : Int32} (j : Nat) (hx : x = nI j) (hj : j < ln i) (hd : decode cc pc = .ok (.laload, 1)) (k : V p l e R s m args below meth c Q D A nL cells slots (wl kc N ad S) (pc + 1) lv (.long (gJ S i j) :: st)) : V p l e R s m args below meth c Q D A nL cells slots (wl kc N ad S) pc lv (.int x :: .ref (ad i) :: st) := by
  intro H locs ls hl hP hD hS
  refine va_lald C.1 C.2.1 C.2.2.2.2.2.1.1 hP i 1 ((wl_at hi).trans (by rw [cell_kd hk]; rfl)) rfl (by rw [hx]; exact vp_in_nI hj (ln_lt i)) hd ?_
  have e : x.toNatClampNeg = j := (by rw [hx, nI_clamp (Nat.lt_trans hj (ln_lt i))])
  rw [e]
  exact k H locs ls hl hP hD hS
theorem v_iast (pc : Nat) (C : Cx p s m args meth c cc own nL ret D kc) {i : Nat} (hi : i < N) (hk : kd i = 6) {x : Int32} (j : Nat) (hx : x = nI j) (hj : j < ln i) {v : Int32} (hd : decode cc pc = .ok (.iastore, 1)) (k : V p l e R s m args below meth c Q D A nL cells slots (wl kc N ad (pA S i j v)) (pc + 1) lv st) : V p l e R s m args below meth c Q D A nL cells slots (wl kc N ad S) pc lv (.int v :: .int x :: .ref (ad i) :: st) := by
  intro H locs ls hl hP hD hS
  refine va_iast C.1 C.2.1 C.2.2.2.2.2.1.1 hP hD hS i 0 ((wl_at hi).trans (by rw [cell_kd hk]; rfl)) rfl (by rw [hx]; exact vp_in_nI hj (ln_lt i)) hd (fun H1 locs1 hP1 hD1 hS1 => ?_)
  have e : x.toNatClampNeg = j := (by rw [hx, nI_clamp (Nat.lt_trans hj (ln_lt i))])
  rw [e] at hP1 hD1
  have hs := wl_set (kc := kc) (N := N) (ad := ad) (S := S) (S' := pA S i j v) (i := i) (cell_kd hk) (pA_ne)
  have hf : (fun h => gA (pA S i j v) i h) = upd (fun k => gA S i k) j v := by
    funext h
    rw [gA_pA]
    by_cases q : h = j
    · subst q; simp [upd]
    · simp [upd, q]
  have hc : cellK kc ad (pA S i j v) i 6 = .inl (kc 0, ln i, .inl (upd (fun k => gA S i k) j v)) := by
    show (Sum.inl (kc 0, ln i, .inl (fun h => gA (pA S i j v) i h)) : va_E) = _
    rw [hf]
  rw [hc] at hs
  rw [hs] at hP1 hD1
  exact k H1 locs1 ls hl hP1 hD1 hS1
theorem v_zast (pc : Nat) (C : Cx p s m args meth c cc own nL ret D kc) {i : Nat} (hi : i < N) (hk : kd i = 7) {x : Int32} (j : Nat) (hx : x = nI j) (hj : j < ln i) {v : Int32} (hd : decode cc pc = .ok (.bastore, 1)) (k : V p l e R s m args below meth c Q D A nL cells slots (wl kc N ad (pA S i j (vp_nar .boolean v))) (pc + 1) lv st) : V p l e R s m args below meth c Q D A nL cells slots (wl kc N ad S) pc lv (.int v :: .int x :: .ref (ad i) :: st) := by
  intro H locs ls hl hP hD hS
  refine va_zast C.1 C.2.1 C.2.2.2.2.2.1.1 hP hD hS i 2 ((wl_at hi).trans (by rw [cell_kd hk]; rfl)) rfl (by rw [hx]; exact vp_in_nI hj (ln_lt i)) hd (fun H1 locs1 hP1 hD1 hS1 => ?_)
  have e : x.toNatClampNeg = j := (by rw [hx, nI_clamp (Nat.lt_trans hj (ln_lt i))])
  rw [e] at hP1 hD1
  have hs := wl_set (kc := kc) (N := N) (ad := ad) (S := S) (S' := pA S i j (vp_nar .boolean v)) (i := i) (cell_kd hk) (pA_ne)
  have hf : (fun h => gA (pA S i j (vp_nar .boolean v)) i h) = upd (fun k => gA S i k) j (vp_nar .boolean v) := by
    funext h
    rw [gA_pA]
    by_cases q : h = j
    · subst q; simp [upd]
    · simp [upd, q]
  have hc : cellK kc ad (pA S i j (vp_nar .boolean v)) i 7 = .inl (kc 2, ln i, .inl (upd (fun k => gA S i k) j (vp_nar .boolean v))) := by
    show (Sum.inl (kc 2, ln i, .inl (fun h => gA (pA S i j (vp_nar .boolean v)) i h)) : va_E) = _
    rw [hf]
  rw [hc] at hs
  rw [hs] at hP1 hD1
  exact k H1 locs1 ls hl hP1 hD1 hS1
theorem v_last (pc : Nat) (C : Cx p s m args meth c cc own nL ret D kc) {i : Nat} (hi : i < N) (hk : kd i = 10) {x : Int32} (j : Nat) (hx : x = nI j) (hj : j < ln i) {v : Int64} (hd : decode cc pc = .ok (.lastore, 1)) (k : V p l e R s m args below meth c Q D A nL cells slots (wl kc N ad (pJ S i j v)) (pc + 1) lv st) : V p l e R s m args below meth c Q D A nL cells slots (wl kc N ad S) pc lv (.long v :: .int x :: .ref (ad i) :: st) := by
  intro H locs ls hl hP hD hS
  refine va_last C.1 C.2.1 C.2.2.2.2.2.1.1 hP hD hS i 1 ((wl_at hi).trans (by rw [cell_kd hk]; rfl)) rfl (by rw [hx]; exact vp_in_nI hj (ln_lt i)) hd (fun H1 locs1 hP1 hD1 hS1 => ?_)
  have e : x.toNatClampNeg = j := (by rw [hx, nI_clamp (Nat.lt_trans hj (ln_lt i))])
  rw [e] at hP1 hD1
  have hs := wl_set (kc := kc) (N := N) (ad := ad) (S := S) (S' := pJ S i j v) (i := i) (cell_kd hk) (pJ_ne)
  have hf : (fun h => gJ (pJ S i j v) i h) = vp_updL (fun k => gJ S i k) j v := by
    funext h
    rw [gJ_pJ]
    by_cases q : h = j
    · subst q; simp [vp_updL]
    · simp [vp_updL, q]
  have hc : cellK kc ad (pJ S i j v) i 10 = .inl (kc 1, ln i, .inr (.inl (vp_updL (fun k => gJ S i k) j v))) := by
    show (Sum.inl (kc 1, ln i, .inr (.inl (fun h => gJ (pJ S i j v) i h))) : va_E) = _
    rw [hf]
  rw [hc] at hs
  rw [hs] at hP1 hD1
  exact k H1 locs1 ls hl hP1 hD1 hS1
theorem v_aaldP (pc : Nat) (C : Cx p s m args meth c cc own nL ret D kc) {i : Nat} (hi : i < N) (hk : kd i = 1) {x : Int32} (j : Nat) (hx : x = nI j) (hj : j < 30) (hd : decode cc pc = .ok (.aaload, 1)) (k : V p l e R s m args below meth c Q D A nL cells slots (wl kc N ad S) (pc + 1) lv (va_rf ((gR S i j).map ad) :: st)) : V p l e R s m args below meth c Q D A nL cells slots (wl kc N ad S) pc lv (.int x :: .ref (ad i) :: st) := by
  intro H locs ls hl hP hD hS
  refine va_aldq C.1 C.2.1 C.2.2.2.2.2.1.1 hP i 3 ((wl_at hi).trans (by rw [cell_kd hk]; rfl)) rfl (by rw [hx]; exact vp_in_nI hj (by decide)) hd ?_
  have e : x.toNatClampNeg = j := by rw [hx, nI_clamp (Nat.lt_trans hj (by decide))]
  rw [e]
  exact k H locs ls hl hP hD hS
theorem v_aaldL (pc : Nat) (C : Cx p s m args meth c cc own nL ret D kc) {i : Nat} (hi : i < N) (hk : kd i = 2) {x : Int32} (j : Nat) (hx : x = nI j) (hj : j < 62) (hd : decode cc pc = .ok (.aaload, 1)) (k : V p l e R s m args below meth c Q D A nL cells slots (wl kc N ad S) (pc + 1) lv (va_rf ((gR S i j).map ad) :: st)) : V p l e R s m args below meth c Q D A nL cells slots (wl kc N ad S) pc lv (.int x :: .ref (ad i) :: st) := by
  intro H locs ls hl hP hD hS
  refine va_aldq C.1 C.2.1 C.2.2.2.2.2.1.1 hP i 4 ((wl_at hi).trans (by rw [cell_kd hk]; rfl)) rfl (by rw [hx]; exact vp_in_nI hj (by decide)) hd ?_
  have e : x.toNatClampNeg = j := by rw [hx, nI_clamp (Nat.lt_trans hj (by decide))]
  rw [e]
  exact k H locs ls hl hP hD hS
end VR
