/-! THE CLAIM OUT OF ONE WALK OF THE LAW'S BODY. Your part is whole_start (and what it stands on); all else here is the same for every law, but numbers. -/
def R_law : String := "RisingPageLaw"
def lw_P (b : Addr) (xs : List Int32) (args : Array Value) (s : State) : Prop := args = #[.ref b] ∧ s.IntsAt b xs ∧ xs.length ≤ 4608 ∧ (Jvm.Cond.and given_1 narrow_1).before args s = true
def lw_Q (_ : Array Value) (s : State) (o : Outcome) (t : State) : Prop := o = .returned (some (.int 1)) ∧ Framed s o t [] 600000 7302250
def lw_Z (below : List Frame) (a : Array Value) (s : State) : State → Prop := fun t => ∃ o, t.status = .running ∧ Ended t below o ∧ lw_Q a s o t
/-- the law's own end, with 1 on the stack, nothing written that was there before, its room as the claim has it -/
theorem lw_ret {p : Program} {l : Launch} {e : Env} {s : State} {m : MethodId} {below : List Frame} {meth : Method} {c : Code} {b : Nat} (hx : p.tables.exec = Jvm.exec) (hb : c.code = code) (hr : meth.sig.returnType = ret) (hlocks : meth.locks = false) {pc : Nat} {H : Heap} {ls : Array Slot} (hdg : decode code pc = .ok (.ireturn, 1)) : W p l e room_1 s m #[Value.ref b] below meth c H [] 600000 7302250 (lw_Z below #[Value.ref b] s) (F0 m pc ls [.int 1]) := by
  intro T hT X
  obtain ⟨fs, hret, hrun, hended, hW, hframe⟩ := X.leave (v := some (.int 1)) (hlocks := hlocks) (fun h => by rw [hr] at h; cases h)
  have hmeth' : T.vm.method? m = some meth := X.method'
  refine ⟨T.setFrames fs, ?_, .returned (some (.int 1)), hrun, hended, rfl, ⟨_, rfl⟩, hW, hframe⟩
  jvm_step X.here [X.here.top, hx, hb, hdg, hmeth', hr, ret, narrow_b1]
  (try refine ⟨rfl, ?_⟩); (try refine ⟨rfl, ?_⟩)
  first | (intro acts; rw [hret _ acts rfl rfl rfl]) | rw [hret _ _ rfl rfl rfl]
  exact Steps.refl _
/-- what holds at the law's entry: the machine, the code, the tables' words (any of lw_tbl by 'hts w (by decide +kernel)'), the script of L ints xs at the cell b, what the Statement gives of the start (any of its parts by flat_of_before) -/
def lw_At (p : Program) (s : State) (m : MethodId) (meth : Method) (c : Code) (b L : Nat) (xs : Nat → Int32) : Prop :=
  p.tables.exec = Jvm.exec ∧ c.code = code ∧ meth.sig.returnType = ret ∧ c.maxLocals = 4 ∧ s.vm.findClass R_law = some m.cls ∧ (∀ w ∈ lw_tbl, w.before #[Value.ref b] s = true) ∧ va_X b L xs s s.heap ∧ b < s.heap.size ∧ meth.locks = false ∧ (Jvm.Cond.and given_1 narrow_1).before #[Value.ref b] s = true

/-! THE LAW: its rows -/
theorem rm_law {cells slots mL fr mc ms lo : Nat} {st : List Value} (h : (Nat.ble (fr + 1) 10 && Nat.ble (8 + (mL + 11) + lo) 408 && Nat.ble (st.map fun v => v.category).sum 8) = true) (hc : cells + mc ≤ 600000) (hs : slots + ms ≤ 7302250) : rmF room_1 cells slots mL fr mc ms lo st := by
  simp only [Bool.and_eq_true] at h
  obtain ⟨⟨a, b⟩, c⟩ := h
  exact ⟨⟨Nat.le_of_ble_eq_true a, Nat.le_of_ble_eq_true b⟩, Nat.le_of_ble_eq_true c, hc, hs⟩
section LR
variable {p : Program} {l : Launch} {e : Env} {R : Room} {s : State} {m : MethodId} {args : Array Value} {below : List Frame} {meth : Method} {c : Code} {Q : State → Prop} {D : va_G} {kc : Nat → ClassId} {nL cells slots : Nat} {ws : va_W} {lv : List (Nat × Value)} {st : List Value} {cc : ByteArray} {own : String} {ret : Option FieldType} {b0 L : Nat} {xs : Nat → Int32}
theorem l_sld (pc : Nat) (C : Cx p s m args meth c cc own nL ret D kc) (hX : va_X b0 L xs s s.heap) (hbl : b0 < s.heap.size) {x : Int32} (j : Nat) (hx : x = nI j) (hj : j < L) (hL : L ≤ 4608) (hd : decode cc pc = .ok (.iaload, 1)) (k : V p l e R s m args below meth c Q D (fun q => s.heap.size ≤ q) nL cells slots ws (pc + 1) lv (.int (xs j) :: st)) : V p l e R s m args below meth c Q D (fun q => s.heap.size ≤ q) nL cells slots ws pc lv (.int x :: .ref b0 :: st) := by
  intro H locs ls hl hP hD hS
  refine va_sld C.1 C.2.1 hX hbl (Nat.not_le.mpr hbl) hS (by rw [hx]; exact vp_in_nI hj (show L < 2 ^ 31 by omega)) hd ?_
  rw [hx, nI_clamp (show j < 2 ^ 31 by omega)]
  exact k H locs ls hl hP hD hS
theorem l_slen (pc : Nat) (C : Cx p s m args meth c cc own nL ret D kc) (hX : va_X b0 L xs s s.heap) (hbl : b0 < s.heap.size) (hd : decode cc pc = .ok (.arraylength, 1)) (k : V p l e R s m args below meth c Q D (fun q => s.heap.size ≤ q) nL cells slots ws (pc + 1) lv (.int (iZ (L : Int)) :: st)) : V p l e R s m args below meth c Q D (fun q => s.heap.size ≤ q) nL cells slots ws pc lv (.ref b0 :: st) := fun H locs ls hl hP hD hS => va_slen C.1 C.2.1 hX hbl (Nat.not_le.mpr hbl) hS hd (k H locs ls hl hP hD hS)
end LR
/-- the law's own judgement -/
abbrev VL (p : Program) (l : Launch) (e : Env) (s : State) (m : MethodId) (below : List Frame) (meth : Method) (c : Code) (b0 : Nat) (D : va_G) (cells slots : Nat) (ws : va_W) (pc : Nat) (lv : List (Nat × Value)) (st : List Value) : Prop := V p l e room_1 s m #[Value.ref b0] below meth c (lw_Z below #[Value.ref b0] s) D (fun q => s.heap.size ≤ q) 4 cells slots ws pc lv st
/-- behind n calls -/
def LWK (p : Program) (l : Launch) (e : Env) (s : State) (m : MethodId) (below : List Frame) (meth : Method) (c : Code) (b0 : Nat) (D : va_G) (kc : Nat → ClassId) (n : Nat) : Prop :=
  ∀ (N : Nat) (ad : Nat → Nat) (S : St) (b : Bs) (t : Ts), N = 66 + 15 * bn b → Inv b → RC S b t → LE b t → RM S b → VL p l e s m below meth c b0 D (66 + 15 * n) (2000 + 184 * n) (wl kc N ad S) 18 [(3, .int (iZ (9 * (n : Int)))), (2, .ref (ad 45)), (1, .ref (ad 0)), (0, .ref b0)] []
