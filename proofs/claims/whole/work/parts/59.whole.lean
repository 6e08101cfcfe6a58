/-! THE CLAIM -/
theorem kc_of {args : Array Value} {s : State} {ty : FieldType} (hn : ∀ C, ty ≠ .object C) (h : (Cond.arrayClass ty).before args s = true) : ∃ cA : ClassId, ArrOfT s cA ty ∧ va_RA s cA ty := by
  obtain ⟨c, k, comp, h1, h2, h3⟩ := Cond.arrayClass_spec h
  refine ⟨c, fun n z => ⟨fun k h => (by cases h), k, h2, comp, h3⟩, ?_⟩
  cases ty with
  | object C => exact absurd rfl (hn C)
  | _ => exact h1
theorem kq_of {args : Array Value} {s : State} {C : String} (h : (Cond.arrayOver (.object C)).before args s = true) : ∃ cA : ClassId, ArrOfT s cA (.object C) ∧ va_RA s cA (.object C) := by
  obtain ⟨comp, c, k, h1, h2, h3, h4, h5⟩ := Cond.arrayOver_spec h
  exact ⟨c, fun n z => ⟨fun k h => (by cases h), k, h3, comp, h4⟩, k, comp, h3, h4, h1, h5⟩
theorem el_of {args : Array Value} {s : State} {tm : Term} {v : Int32} {z : Int} (h : (Cond.eq tm (.int v)).before args s = true) (hv : v = iZ z) : tm.eval args s none [] s = some (.int (iZ z)) := by
  rw [va_eqt h, hv]
theorem way_X {b0 : Nat} {s : State} (hts : ∀ w ∈ lw_tbl, w.before #[Value.ref b0] s = true) (hgv : (Jvm.Cond.and given_1 narrow_1).before #[Value.ref b0] s = true) : ∃ t : Nat, va_Z "RisingPage" "WAY_X" "[I" (.ref t) (fun q => s.heap.size ≤ q) s s.heap ∧ va_T .int t 17 (fun j => .int (iZ (wx j))) (fun q => s.heap.size ≤ q) s s.heap := by
  have hs := flat_of_before _ hgv
  have hA : ∀ a : Nat, a < s.heap.size → ¬ (fun q => s.heap.size ≤ q) a := fun a h => Nat.not_le.mpr h
  have harr : (Cond.arrayOf (Term.static "RisingPage" "WAY_X" "[I") .int).before #[Value.ref b0] s = true := hs _ (by decide +kernel)
  have hlen : (Cond.eq (.length (Term.static "RisingPage" "WAY_X" "[I")) (.int 17)).before #[Value.ref b0] s = true := hs _ (by decide +kernel)
  have h0 : (Cond.eq (.elem (Term.static "RisingPage" "WAY_X" "[I") (.int 0)) (.int 10000)).before #[Value.ref b0] s = true := hs _ (by decide +kernel)
  have h1 : (Cond.eq (.elem (Term.static "RisingPage" "WAY_X" "[I") (.int 1)) (.int 9808)).before #[Value.ref b0] s = true := hs _ (by decide +kernel)
  have h2 : (Cond.eq (.elem (Term.static "RisingPage" "WAY_X" "[I") (.int 2)) (.int 9239)).before #[Value.ref b0] s = true := hs _ (by decide +kernel)
  have h3 : (Cond.eq (.elem (Term.static "RisingPage" "WAY_X" "[I") (.int 3)) (.int 8315)).before #[Value.ref b0] s = true := hs _ (by decide +kernel)
  have h4 : (Cond.eq (.elem (Term.static "RisingPage" "WAY_X" "[I") (.int 4)) (.int 7071)).before #[Value.ref b0] s = true := hs _ (by decide +kernel)
  have h5 : (Cond.eq (.elem (Term.static "RisingPage" "WAY_X" "[I") (.int 5)) (.int 5556)).before #[Value.ref b0] s = true := hs _ (by decide +kernel)
  have h6 : (Cond.eq (.elem (Term.static "RisingPage" "WAY_X" "[I") (.int 6)) (.int 3827)).before #[Value.ref b0] s = true := hs _ (by decide +kernel)
  have h7 : (Cond.eq (.elem (Term.static "RisingPage" "WAY_X" "[I") (.int 7)) (.int 1951)).before #[Value.ref b0] s = true := hs _ (by decide +kernel)
  have h8 : (Cond.eq (.elem (Term.static "RisingPage" "WAY_X" "[I") (.int 8)) (.int 0)).before #[Value.ref b0] s = true := hs _ (by decide +kernel)
  have h9 : (Cond.eq (.elem (Term.static "RisingPage" "WAY_X" "[I") (.int 9)) (.int (-1951))).before #[Value.ref b0] s = true := hs _ (by decide +kernel)
  have h10 : (Cond.eq (.elem (Term.static "RisingPage" "WAY_X" "[I") (.int 10)) (.int (-3827))).before #[Value.ref b0] s = true := hs _ (by decide +kernel)
  have h11 : (Cond.eq (.elem (Term.static "RisingPage" "WAY_X" "[I") (.int 11)) (.int (-5556))).before #[Value.ref b0] s = true := hs _ (by decide +kernel)
  have h12 : (Cond.eq (.elem (Term.static "RisingPage" "WAY_X" "[I") (.int 12)) (.int (-7071))).before #[Value.ref b0] s = true := hs _ (by decide +kernel)
  have h13 : (Cond.eq (.elem (Term.static "RisingPage" "WAY_X" "[I") (.int 13)) (.int (-8315))).before #[Value.ref b0] s = true := hs _ (by decide +kernel)
  have h14 : (Cond.eq (.elem (Term.static "RisingPage" "WAY_X" "[I") (.int 14)) (.int (-9239))).before #[Value.ref b0] s = true := hs _ (by decide +kernel)
  have h15 : (Cond.eq (.elem (Term.static "RisingPage" "WAY_X" "[I") (.int 15)) (.int (-9808))).before #[Value.ref b0] s = true := hs _ (by decide +kernel)
  have h16 : (Cond.eq (.elem (Term.static "RisingPage" "WAY_X" "[I") (.int 16)) (.int (-10000))).before #[Value.ref b0] s = true := hs _ (by decide +kernel)
  have hel : ∀ j : Nat, j < 17 → (Term.elem (Term.static "RisingPage" "WAY_X" "[I") (.int (Int32.ofNat j))).eval #[Value.ref b0] s none [] s = some (.int (iZ (wx j))) := by
    intro j hj
    have hc : j = 0 ∨ j = 1 ∨ j = 2 ∨ j = 3 ∨ j = 4 ∨ j = 5 ∨ j = 6 ∨ j = 7 ∨ j = 8 ∨ j = 9 ∨ j = 10 ∨ j = 11 ∨ j = 12 ∨ j = 13 ∨ j = 14 ∨ j = 15 ∨ j = 16 := by omega
    rcases hc with rfl | rfl | rfl | rfl | rfl | rfl | rfl | rfl | rfl | rfl | rfl | rfl | rfl | rfl | rfl | rfl | rfl
    · exact el_of h0 (by decide)
    · exact el_of h1 (by decide)
    · exact el_of h2 (by decide)
    · exact el_of h3 (by decide)
    · exact el_of h4 (by decide)
    · exact el_of h5 (by decide)
    · exact el_of h6 (by decide)
    · exact el_of h7 (by decide)
    · exact el_of h8 (by decide)
    · exact el_of h9 (by decide)
    · exact el_of h10 (by decide)
    · exact el_of h11 (by decide)
    · exact el_of h12 (by decide)
    · exact el_of h13 (by decide)
    · exact el_of h14 (by decide)
    · exact el_of h15 (by decide)
    · exact el_of h16 (by decide)
  obtain ⟨t, ht, hT⟩ := va_Tof (tm := (Term.static "RisingPage" "WAY_X" "[I")) (ty := .int) (N := 17) (f := fun j => .int (iZ (wx j))) (A := fun q => s.heap.size ≤ q) (by decide) harr (va_eqt hlen) hel hA
  exact ⟨t, va_Zref (hts _ (List.mem_of_getElem? (i := 177) (by decide +kernel))) (hts _ (wsG_in _ lk_47)) ht hA, hT⟩
theorem way_Y {b0 : Nat} {s : State} (hts : ∀ w ∈ lw_tbl, w.before #[Value.ref b0] s = true) (hgv : (Jvm.Cond.and given_1 narrow_1).before #[Value.ref b0] s = true) : ∃ t : Nat, va_Z "RisingPage" "WAY_Y" "[I" (.ref t) (fun q => s.heap.size ≤ q) s s.heap ∧ va_T .int t 17 (fun j => .int (iZ (wy j))) (fun q => s.heap.size ≤ q) s s.heap := by
  have hs := flat_of_before _ hgv
  have hA : ∀ a : Nat, a < s.heap.size → ¬ (fun q => s.heap.size ≤ q) a := fun a h => Nat.not_le.mpr h
  have harr : (Cond.arrayOf (Term.static "RisingPage" "WAY_Y" "[I") .int).before #[Value.ref b0] s = true := hs _ (by decide +kernel)
  have hlen : (Cond.eq (.length (Term.static "RisingPage" "WAY_Y" "[I")) (.int 17)).before #[Value.ref b0] s = true := hs _ (by decide +kernel)
  have h0 : (Cond.eq (.elem (Term.static "RisingPage" "WAY_Y" "[I") (.int 0)) (.int 0)).before #[Value.ref b0] s = true := hs _ (by decide +kernel)
  have h1 : (Cond.eq (.elem (Term.static "RisingPage" "WAY_Y" "[I") (.int 1)) (.int 1951)).before #[Value.ref b0] s = true := hs _ (by decide +kernel)
  have h2 : (Cond.eq (.elem (Term.static "RisingPage" "WAY_Y" "[I") (.int 2)) (.int 3827)).before #[Value.ref b0] s = true := hs _ (by decide +kernel)
  have h3 : (Cond.eq (.elem (Term.static "RisingPage" "WAY_Y" "[I") (.int 3)) (.int 5556)).before #[Value.ref b0] s = true := hs _ (by decide +kernel)
  have h4 : (Cond.eq (.elem (Term.static "RisingPage" "WAY_Y" "[I") (.int 4)) (.int 7071)).before #[Value.ref b0] s = true := hs _ (by decide +kernel)
  have h5 : (Cond.eq (.elem (Term.static "RisingPage" "WAY_Y" "[I") (.int 5)) (.int 8315)).before #[Value.ref b0] s = true := hs _ (by decide +kernel)
  have h6 : (Cond.eq (.elem (Term.static "RisingPage" "WAY_Y" "[I") (.int 6)) (.int 9239)).before #[Value.ref b0] s = true := hs _ (by decide +kernel)
  have h7 : (Cond.eq (.elem (Term.static "RisingPage" "WAY_Y" "[I") (.int 7)) (.int 9808)).before #[Value.ref b0] s = true := hs _ (by decide +kernel)
  have h8 : (Cond.eq (.elem (Term.static "RisingPage" "WAY_Y" "[I") (.int 8)) (.int 10000)).before #[Value.ref b0] s = true := hs _ (by decide +kernel)
  have h9 : (Cond.eq (.elem (Term.static "RisingPage" "WAY_Y" "[I") (.int 9)) (.int 9808)).before #[Value.ref b0] s = true := hs _ (by decide +kernel)
  have h10 : (Cond.eq (.elem (Term.static "RisingPage" "WAY_Y" "[I") (.int 10)) (.int 9239)).before #[Value.ref b0] s = true := hs _ (by decide +kernel)
  have h11 : (Cond.eq (.elem (Term.static "RisingPage" "WAY_Y" "[I") (.int 11)) (.int 8315)).before #[Value.ref b0] s = true := hs _ (by decide +kernel)
  have h12 : (Cond.eq (.elem (Term.static "RisingPage" "WAY_Y" "[I") (.int 12)) (.int 7071)).before #[Value.ref b0] s = true := hs _ (by decide +kernel)
  have h13 : (Cond.eq (.elem (Term.static "RisingPage" "WAY_Y" "[I") (.int 13)) (.int 5556)).before #[Value.ref b0] s = true := hs _ (by decide +kernel)
  have h14 : (Cond.eq (.elem (Term.static "RisingPage" "WAY_Y" "[I") (.int 14)) (.int 3827)).before #[Value.ref b0] s = true := hs _ (by decide +kernel)
  have h15 : (Cond.eq (.elem (Term.static "RisingPage" "WAY_Y" "[I") (.int 15)) (.int 1951)).before #[Value.ref b0] s = true := hs _ (by decide +kernel)
  have h16 : (Cond.eq (.elem (Term.static "RisingPage" "WAY_Y" "[I") (.int 16)) (.int 0)).before #[Value.ref b0] s = true := hs _ (by decide +kernel)
  have hel : ∀ j : Nat, j < 17 → (Term.elem (Term.static "RisingPage" "WAY_Y" "[I") (.int (Int32.ofNat j))).eval #[Value.ref b0] s none [] s = some (.int (iZ (wy j))) := by
    intro j hj
    have hc : j = 0 ∨ j = 1 ∨ j = 2 ∨ j = 3 ∨ j = 4 ∨ j = 5 ∨ j = 6 ∨ j = 7 ∨ j = 8 ∨ j = 9 ∨ j = 10 ∨ j = 11 ∨ j = 12 ∨ j = 13 ∨ j = 14 ∨ j = 15 ∨ j = 16 := by omega
    rcases hc with rfl | rfl | rfl | rfl | rfl | rfl | rfl | rfl | rfl | rfl | rfl | rfl | rfl | rfl | rfl | rfl | rfl
    · exact el_of h0 (by decide)
    · exact el_of h1 (by decide)
    · exact el_of h2 (by decide)
    · exact el_of h3 (by decide)
    · exact el_of h4 (by decide)
    · exact el_of h5 (by decide)
    · exact el_of h6 (by decide)
    · exact el_of h7 (by decide)
    · exact el_of h8 (by decide)
    · exact el_of h9 (by decide)
    · exact el_of h10 (by decide)
    · exact el_of h11 (by decide)
    · exact el_of h12 (by decide)
    · exact el_of h13 (by decide)
    · exact el_of h14 (by decide)
    · exact el_of h15 (by decide)
    · exact el_of h16 (by decide)
  obtain ⟨t, ht, hT⟩ := va_Tof (tm := (Term.static "RisingPage" "WAY_Y" "[I")) (ty := .int) (N := 17) (f := fun j => .int (iZ (wy j))) (A := fun q => s.heap.size ≤ q) (by decide) harr (va_eqt hlen) hel hA
  exact ⟨t, va_Zref (hts _ (List.mem_of_getElem? (i := 179) (by decide +kernel))) (hts _ (wsG_in _ lk_47)) ht hA, hT⟩
set_option maxHeartbeats 4000000 in
set_option maxRecDepth 100000 in
theorem whole_start {p : Program} {e : Env} {s : State} {m : MethodId} {below : List Frame} {meth : Method} {c : Code} (l : Launch) (hflags : l.flags = flags0) {b L : Nat} {xs : Nat → Int32} (hL : L ≤ 4608) (C0 : lw_At p s m meth c b L xs) : W p l e room_1 s m #[Value.ref b] below meth c s.heap [] 0 0 (lw_Z below #[Value.ref b] s) (entryFrame m ([Value.ref b] : List Value).toArray 4) := by
  obtain ⟨hx, hb, hr, hml, hown, hts, hX, hbl, hlocks, hgv⟩ := C0
  have htG : ∀ w ∈ wsG, w.before #[Value.ref b] s = true := fun w hw => hts w (wsG_in w hw)
  obtain ⟨c0, i0, k0⟩ := u_known (C := RX0) (T := TX0) (N := 12) (n := 12) htG inGX0 (htG _ lk_65)
  obtain ⟨c1, i1, k1⟩ := u_known (C := RX1) (T := TX1) (N := 5) (n := 5) htG inGX1 (htG _ lk_98)
  obtain ⟨c2, i2, k2⟩ := u_known (C := RX2) (T := TX2) (N := 3) (n := 3) htG inGX2 (htG _ lk_71)
  obtain ⟨c3, i3, k3⟩ := u_known (C := RX3) (T := TX3) (N := 8) (n := 8) htG inGX3 (htG _ lk_54)
  obtain ⟨c4, i4, k4⟩ := u_known (C := RX4) (T := TX4) (N := 26) (n := 26) htG inGX4 (htG _ lk_494)
  have hO1 : (Cond.arrayOver (.object "RisingPage$Part")).before #[Value.ref b] s = true := hts _ (List.mem_of_getElem? (i := 62) (by decide +kernel))
  have hO2 : (Cond.arrayOver (.object "RisingPage$Plane")).before #[Value.ref b] s = true := hts _ (List.mem_of_getElem? (i := 64) (by decide +kernel))
  obtain ⟨a0, A0⟩ := kc_of (fun _ h => by cases h) (htG _ lk_95)
  obtain ⟨a1, A1⟩ := kc_of (fun _ h => by cases h) (htG _ lk_578)
  obtain ⟨a2, A2⟩ := kc_of (fun _ h => by cases h) (htG _ lk_96)
  obtain ⟨a3, A3⟩ := kq_of hO1
  obtain ⟨a4, A4⟩ := kq_of hO2
  obtain ⟨D, hKc⟩ : ∃ D : va_G, ∀ (k : Nat) (q : vw_C), vwCl[k]? = some q → u_Kn s q.1 q.2.1 q.2.2 (D.1 k) (D.2 k) := by
    refine ⟨(fun k => if k = 0 then c0 else if k = 1 then c1 else if k = 2 then c2 else if k = 3 then c3 else c4, fun k => if k = 0 then i0 else if k = 1 then i1 else if k = 2 then i2 else if k = 3 then i3 else i4), ?_⟩
    intro k q hq
    match k, hq with
    | 0, hq => cases hq; exact k0
    | 1, hq => cases hq; exact k1
    | 2, hq => cases hq; exact k2
    | 3, hq => cases hq; exact k3
    | 4, hq => cases hq; exact k4
    | k + 5, hq => simp [vwCl] at hq
  obtain ⟨kc, hkc⟩ : ∃ kc : Nat → ClassId, ∀ (k : Nat) (q : ClassId × FieldType), (tyL kc)[k]? = some q → ArrOfT s q.1 q.2 ∧ va_RA s q.1 q.2 := by
    refine ⟨fun k => if k = 0 then a0 else if k = 1 then a1 else if k = 2 then a2 else if k = 3 then a3 else a4, ?_⟩
    intro k q hq
    match k, hq with
    | 0, hq => cases hq; exact A0
    | 1, hq => cases hq; exact A1
    | 2, hq => cases hq; exact A2
    | 3, hq => cases hq; exact A3
    | 4, hq => cases hq; exact A4
    | k + 5, hq => simp [tyL] at hq
  have nw : ∀ (i : Nat) (w : Cond), lw_tbl[i]? = some w → w.onTables = true → va_Nw w s := fun i w h1 h2 => va_Nw.of h2 (hts w (List.mem_of_getElem? h1))
  have hNW : NW s := ⟨nw 66 _ (by decide +kernel) (by decide +kernel), nw 171 _ (by decide +kernel) (by decide +kernel), nw 72 _ (by decide +kernel) (by decide +kernel), nw 331 _ (by decide +kernel) (by decide +kernel), nw 333 _ (by decide +kernel) (by decide +kernel), nw 201 _ (by decide +kernel) (by decide +kernel)⟩
  obtain ⟨tX, zX, wX⟩ := way_X hts hgv
  obtain ⟨tY, zY, wY⟩ := way_Y hts hgv
  have C : Cx p s m #[Value.ref b] meth c cL_law RL 4 ret D kc := ⟨hx, hb, hml, hown, htG, ⟨⟨hKc, hkc⟩, hNW⟩, hr, hlocks⟩
  have hl := lv_entry ([.ref b]) (n := 4) (Nat.le_of_ble_eq_true rfl)
  rw [lg_entry_eq]
  exact law_start C hX hbl hL ⟨⟨va_AO.of hO1, va_AO.of hO2⟩, ⟨zX, wX⟩, ⟨zY, wY⟩⟩ s.heap [] _ hl (fun k q h => by simp at h) ⟨fun i j p q h => by simp at h, fun k q h => by simp at h⟩ va_S.rf
set_option maxHeartbeats 4000000 in
theorem lw_walk (l : Launch) (hflags : l.flags = flags0) (b : Addr) (xs : List Int32) : MetFree l x (headSpec (Jvm.Cond.code x code maxLocals ret :: tables_1) room_1) (lw_P b xs) (fun _ _ _ _ _ => True) lw_Q := by
  refine MetFree.of_bodyS (code := code) (maxLocals := maxLocals) (ret := ret) (by decide) ?_ ?_
  · intro args s m h hn
    obtain ⟨meth, c, h1, h2, h3, h4, h5, h6, -, -⟩ := Cond.code_spec hn (atoms_spec (ws := Jvm.Cond.code x code maxLocals ret :: tables_1) h _ List.mem_cons_self)
    exact ⟨meth, c, h1, h2, h3, h4, h5, h6⟩
  · intro p e s m args below meth c s₁ B hml0 hP _
    obtain ⟨rfl, hx, hbd, hgv⟩ := hP
    obtain ⟨scr, harrAt, hlist, hof, hsmall⟩ := hx
    obtain ⟨hcb, hkn, -, -⟩ := State.arrayAt?_spec harrAt
    have hown : s.vm.findClass R_law = some m.cls := findClass_of_methodNamed B.named
    have hts0 : ∀ c ∈ (Jvm.Cond.code x code maxLocals ret :: tables_1), c.before #[Value.ref b] s = true := atoms_spec (ws := Jvm.Cond.code x code maxLocals ret :: tables_1) B.pre
    have hts : ∀ w ∈ lw_tbl, w.before #[Value.ref b] s = true := k2_hts_sels lw_privs (fun w hw => hts0 w (List.mem_cons_of_mem _ hw)) lw_privs_ok
    have hml : c.maxLocals = 4 := B.maxLocals_eq (hts0 _ List.mem_cons_self)
    have X₀ : Stand p l e room_1 s m #[Value.ref b] below meth c s₁ [] 0 0 := Stand.of_body B
    have hh0 : s₁.heap = s.heap := by rw [B.state]; rfl
    have hsz : scr.slots.size = xs.length := by rw [← Array.length_toList, hlist, List.length_map]
    have hval : ∀ j : Nat, j < xs.length → scr.slots[j]? = some (.int (xs.getD j 0)) := fun j hj => by
      rw [← Array.getElem?_toList, hlist]
      simp [hj]
    have hbl : b < s.heap.size := (Array.getElem?_eq_some_iff.mp hcb).1
    have hX : va_X b xs.length (fun j => xs.getD j 0) s s.heap := ⟨scr, hcb, hof, hkn, hsz, hval⟩
    have K : W p l e room_1 s m #[Value.ref b] below meth c s₁.heap [] 0 0 (lw_Z below #[Value.ref b] s) (entryFrame m ([Value.ref b] : List Value).toArray 4) := by
      rw [hh0]
      exact whole_start l hflags hbd ⟨B.exec, B.bytes, B.returns, hml, hown, hts, hX, hbl, B.notSynchronized, hgv⟩
    obtain ⟨t, a1, o, b1, b2, b3⟩ := K s₁ rfl X₀
    exact ⟨t, o, a1, b1, b2, b3⟩
theorem lw_pre_spec {args : Array Value} {s : State} (h : (Jvm.Cond.and given_1 narrow_1).before args s = true) (hr : rest_1_c.before args s = true) : ∃ (b : Addr) (xs : List Int32), lw_P b xs args s := by
  have hs := flat_of_before _ h
  have hq := flat_of_before _ hr
  have hc : (Cond.count 1).before args s = true := hs _ (by decide +kernel)
  have harr : (Cond.arrayOf (.arg 0) .int).before args s = true := hs _ (by decide +kernel)
  have hle : (Cond.le (.length (.arg 0)) (.int 4608)).before args s = true := hs _ (by decide +kernel)
  have hlen : (Cond.isInt (.length (.arg 0))).before args s = true := hq _ (by decide +kernel)
  have hall : (Cond.all (.arg 0) (.isInt (.elem (.arg 0) (.index 0)))).before args s = true := hq _ (by decide +kernel)
  obtain ⟨b, xs, hb, hx⟩ := State.ints_of_pre rfl harr hlen hall
  have hsm : xs.length < 2 ^ 31 := hx.choose_spec.2.2.2
  have hev : (Term.length (.arg 0)).eval args s none [] s = some (.int xs.length.toInt32) := hx.length_eval hb
  have hv := Cond.le_ints hev (show (Term.int 4608).eval args s none [] s = some (.int 4608) from rfl)
  have hd : xs.length.toInt32 ≤ 4608 := by
    simpa [Cond.before, Cond.holds, hv] using hle
  have hN : xs.length ≤ 4608 := (Int32.ofNat_le_ofNat hsm (by decide)).mp (show Int32.ofNat xs.length ≤ Int32.ofNat 4608 from hd)
  exact ⟨b, xs, Cond.one_arg hc (show args[0]? = some (.ref b) from hb), hx, hN, h⟩
theorem lw_comes (l : Launch) (hflags : l.flags = flags0) : Comes l x (Jvm.Cond.code x code maxLocals ret :: tables_1) room_1 (fun tb e args s => Calls_1 tb e args s ∧ rest_1 tb e args s ∧ Pre_1 tb e args s)
    (fun _ _ args s o t => lw_Q args s o t) := by
  intro p e ha hc hk s m args below hf hfit hheap happ hpre
  obtain ⟨b, xs, hP⟩ := lw_pre_spec hpre.2.2 hpre.2.1
  obtain ⟨k, o, h1, h2, h3, hQ⟩ := lw_walk l hflags b xs p e ha hc hk s m args below hf ((Spec.applies_iff_loose hf).mp happ).1 hP trivial
  exact ⟨k, o, h1, h2, h3, hQ⟩
theorem lw_frame {s t : State} {o : Outcome} {args : Array Value} (h : Framed s o t [] 600000 7302250) :
    Framed s o t (fieldLocs frame_1_writes args s ++ arrayLocs frame_1_arrays args s ++ staticLocs frame_1_statics s) 600000 7302250 := h
theorem lw_limb (L : Cond) (hL : ∀ (args : Array Value) (s t : State), L.after args s (.returned (some (.int 1))) t = true) :
    ArmFor flags0 classFile x code maxLocals ret World_1 tables_1 room_1 Calls_1 rest_1 Pre_1
      (fun tb e a s o t => postC L tb e a s o t ∧ Framed s o t (fieldLocs frame_1_writes a s ++ arrayLocs frame_1_arrays a s ++ staticLocs frame_1_statics s) 600000 7302250) := by
  intro l hflags _ _ p e ha hc hk s m args below hf hfit hheap happ hpre
  obtain ⟨k, o, h1, h2, h3, rfl, hF⟩ := lw_comes l hflags p e ha hc hk s m args below hf hfit hheap happ hpre
  exact ⟨k, _, h1, h2, h3, hL args s _, lw_frame hF⟩
theorem i_vc : Claimed_1_1 ∧ Claimed_1_2 := ⟨lw_limb limb_1_1 (fun args s t => by simp [limb_1_1, Cond.after, Cond.holds, Cond.value]), lw_limb limb_1_2 (fun args s t => Cond.after_iff.mpr (by
  first | (rw [show limb_1_2 = Cond.eq .result (.int 1) from rfl, Cond.eq_ints (x := 1) (y := 1) rfl rfl]; simp; done) | (simp [limb_1_2, Cond.value, Term.eval]; done)))⟩

