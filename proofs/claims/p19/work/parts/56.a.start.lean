/-! The law's entry: what the Statement gives there is the context of every contract. (The names lw_.. as the skeleton has them, with the launch's flag carried along.) -/
def R_law : String := "CommitTreeLaw"
def lw_P (b : Addr) (xs : List Int32) (args : Array Value) (s : State) : Prop := args = #[.ref b] ∧ s.IntsAt b xs ∧ xs.length ≤ 2560 ∧ (Jvm.Cond.and given_1 narrow_1).before args s = true
def lw_Q (_ : Array Value) (s : State) (o : Outcome) (t : State) : Prop := o = .returned (some (.int 1)) ∧ Framed s o t [] 601024 7293034
def lw_Z (below : List Frame) (a : Array Value) (s : State) : State → Prop := fun t => ∃ o, t.status = .running ∧ Ended t below o ∧ lw_Q a s o t
/-- the law's own end, with 1 on the stack, nothing written that was there before, its room as the claim has it -/
theorem lw_ret {p : Program} {l : Launch} {e : Env} {s : State} {m : MethodId} {below : List Frame} {meth : Method} {c : Code} {b : Nat} (hx : p.tables.exec = Jvm.exec) (hb : c.code = code) (hr : meth.sig.returnType = ret) (hlocks : meth.locks = false) {pc : Nat} {H : Heap} {ls : Array Slot} (hdg : decode code pc = .ok (.ireturn, 1)) : W p l e room_1 s m #[Value.ref b] below meth c H [] 601024 7293034 (lw_Z below #[Value.ref b] s) (F0 m pc ls [.int 1]) := by
  intro T hT X
  obtain ⟨fs, hret, hrun, hended, hW, hframe⟩ := X.leave (v := some (.int 1)) (hlocks := hlocks) (fun h => by rw [hr] at h; cases h)
  have hmeth' : T.vm.method? m = some meth := X.method'
  refine ⟨T.setFrames fs, ?_, .returned (some (.int 1)), hrun, hended, rfl, ⟨_, rfl⟩, hW, hframe⟩
  jvm_step X.here [X.here.top, hx, hb, hdg, hmeth', hr, ret, narrow_b1]
  (try refine ⟨rfl, ?_⟩); (try refine ⟨rfl, ?_⟩)
  first | (intro acts; rw [hret _ acts rfl rfl rfl]) | rw [hret _ _ rfl rfl rfl]
  exact Steps.refl _
/-- what holds at the law's entry -/
def lw_At (p : Program) (s : State) (m : MethodId) (meth : Method) (c : Code) (b L : Nat) (xs : Nat → Int32) : Prop :=
  p.tables.exec = Jvm.exec ∧ c.code = code ∧ meth.sig.returnType = ret ∧ c.maxLocals = 7 ∧ s.vm.findClass R_law = some m.cls ∧ (∀ w ∈ lw_tbl, w.before #[Value.ref b] s = true) ∧ va_X b L xs s s.heap ∧ b < s.heap.size ∧ meth.locks = false ∧ (Jvm.Cond.and given_1 narrow_1).before #[Value.ref b] s = true
/-- an array class of numbers, by the tables -/
theorem st_arr {args : Array Value} {s : State} {ty : FieldType} (h : (Cond.arrayClass ty).before args s = true) (hob : ∀ C, ty ≠ .object C) : ∃ cA, ArrOfT s cA ty ∧ va_RA s cA ty := by
  obtain ⟨c, k, comp, h1, h2, h3⟩ := Cond.arrayClass_spec h
  refine ⟨c, fun n z => ⟨fun k h => (by cases h), k, h2, comp, h3⟩, ?_⟩
  cases ty with
  | object C => exact absurd rfl (hob C)
  | _ => exact h1
/-- an array class of references, by the tables -/
theorem st_arq {args : Array Value} {s : State} {C : String} (h : (Cond.arrayOver (.object C)).before args s = true) : ∃ cA, ArrOfT s cA (.object C) ∧ va_RA s cA (.object C) := by
  obtain ⟨comp, c, k, h1, -, h2, h3, h4⟩ := Cond.arrayOver_spec h
  exact ⟨c, fun n z => ⟨fun k h => (by cases h), k, h2, comp, h3⟩, k, comp, h2, h3, h1, h4⟩
theorem nw_in : ∀ w ∈ NW, w ∈ lw_tbl := by decide +kernel
theorem dw_in : ∀ w ∈ DW, w ∈ lw_tbl := by decide +kernel
theorem nw_on : ∀ w ∈ NW, w.onTables = true := by decide +kernel
theorem dw_on : ∀ w ∈ DW, w.onTables = true := by decide +kernel
theorem str_in : ∀ q ∈ STR, Cond.stringRef RX5 q.1 q.2 ∈ lw_tbl := by decide +kernel
theorem st_flat : ∀ {args : Array Value} {s : State}, (Jvm.Cond.and given_1 narrow_1).before args s = true → ∀ q ∈ STR, (Cond.exactly (.string RX5 q.1) "java/lang/String").before args s = true := fun h q hq => by
  have hs := flat_of_before _ h
  simp only [STR, List.mem_cons, List.not_mem_nil, or_false] at hq
  rcases hq with rfl | rfl | rfl | rfl | rfl | rfl | rfl | rfl | rfl | rfl | rfl | rfl | rfl | rfl | rfl | rfl | rfl | rfl | rfl | rfl | rfl | rfl | rfl | rfl <;> exact hs _ (by decide +kernel)
/-- THE CONTEXT at the law's entry -/
theorem cx_start {p : Program} {s : State} {m : MethodId} {meth : Method} {c : Code} {b L : Nat} {xs : Nat → Int32} (C0 : lw_At p s m meth c b L xs) : ∃ (D : va_G) (k : Nat → ClassId), cx D k (AZ s.heap.size) s := by
  obtain ⟨hx, hb, hr, hml, hown, hts, hX, hbl, hlocks, hgv⟩ := C0
  have hs := flat_of_before _ hgv
  obtain ⟨c0, i0, h0⟩ := u_known (C := RX0) (T := TX0) (N := 2) (n := 2) hts inX0 (hts (.instantiable RX0 2) (by decide +kernel))
  obtain ⟨c1, i1, h1⟩ := u_known (C := RX1) (T := TX1) (N := 6) (n := 6) hts inX1 (hts (.instantiable RX1 6) (by decide +kernel))
  obtain ⟨c2, i2, h2⟩ := u_known (C := RX2) (T := TX2) (N := 4) (n := 4) hts inX2 (hts (.instantiable RX2 4) (by decide +kernel))
  obtain ⟨c3, i3, h3⟩ := u_known (C := RX3) (T := TX3) (N := 7) (n := 7) hts inX3 (hts (.instantiable RX3 7) (by decide +kernel))
  obtain ⟨c4, i4, h4⟩ := u_known (C := RX4) (T := TX4) (N := 2) (n := 2) hts inX4 (hts (.instantiable RX4 2) (by decide +kernel))
  obtain ⟨c5, i5, h5⟩ := u_known (C := RX5) (T := TX5) (N := 11) (n := 11) hts inX5 (hts (.instantiable RX5 11) (by decide +kernel))
  obtain ⟨c6, i6, h6⟩ := u_known (C := RX6) (T := TX6) (N := 24) (n := 24) hts inX6 (hts (.instantiable RX6 24) (by decide +kernel))
  obtain ⟨k0, a0⟩ := st_arr (ty := .int) (hts (.arrayClass .int) (by decide +kernel)) (fun C h => by cases h)
  obtain ⟨k1, a1⟩ := st_arr (ty := .long) (hts (.arrayClass .long) (by decide +kernel)) (fun C h => by cases h)
  obtain ⟨k2, a2⟩ := st_arr (ty := .boolean) (hts (.arrayClass .boolean) (by decide +kernel)) (fun C h => by cases h)
  have o3 := hts (.arrayOver (.object "CommitTree$Node")) (by decide +kernel)
  have o4 := hts (.arrayOver (.object "CommitTree$Transaction")) (by decide +kernel)
  have o5 := hts (.arrayOver (.object "CommitTree$Tree")) (by decide +kernel)
  obtain ⟨k3, a3⟩ := st_arq o3
  obtain ⟨k4, a4⟩ := st_arq o4
  obtain ⟨k5, a5⟩ := st_arq o5
  have hA : ∀ a : Nat, a < s.heap.size → ¬ AZ s.heap.size a := fun a h => Nat.not_le.mpr h
  refine ⟨(fun j => if j = 0 then c0 else if j = 1 then c1 else if j = 2 then c2 else if j = 3 then c3 else if j = 4 then c4 else if j = 5 then c5 else c6, fun j => if j = 0 then i0 else if j = 1 then i1 else if j = 2 then i2 else if j = 3 then i3 else if j = 4 then i4 else if j = 5 then i5 else i6),
    fun j => if j = 0 then k0 else if j = 1 then k1 else if j = 2 then k2 else if j = 3 then k3 else if j = 4 then k4 else k5, ⟨?_, ?_⟩, ⟨?_, ?_⟩, ?_, ⟨⟨va_AO.of o3, va_AO.of o4, va_AO.of o5⟩, ?_⟩, ?_, ?_⟩
  · intro j q hq
    match j, hq with
    | 0, hq => cases hq; exact h0
    | 1, hq => cases hq; exact h1
    | 2, hq => cases hq; exact h2
    | 3, hq => cases hq; exact h3
    | 4, hq => cases hq; exact h4
    | 5, hq => cases hq; exact h5
    | 6, hq => cases hq; exact h6
    | j + 7, hq => simp [vwCl] at hq
  · intro j q hq
    match j, hq with
    | 0, hq => cases hq; exact a0
    | 1, hq => cases hq; exact a1
    | 2, hq => cases hq; exact a2
    | 3, hq => cases hq; exact a3
    | 4, hq => cases hq; exact a4
    | 5, hq => cases hq; exact a5
    | j + 6, hq => simp [TY] at hq
  · exact vx_Zqof (hts (.laysStatic Bundle.tN "UNASSIGNED_STACK" Bundle.steD) (by decide +kernel)) (hts (.initialized Bundle.tN) (by decide +kernel)) (hs _ (by decide +kernel)) hA
  · exact vx_Zqof (hts (.laysStatic Bundle.tN "SUPPRESSED_SENTINEL" Bundle.listD) (by decide +kernel)) (hts (.initialized Bundle.tN) (by decide +kernel)) (hs _ (by decide +kernel)) hA
  · intro q hq
    obtain ⟨a, cc, cA, kA, q1, -⟩ := Cond.exactly_spec (st_flat hgv q hq)
    exact ⟨a, vk_R.of (hts _ (str_in q hq)) q1⟩
  · exact va_Nw.of rfl (hts (.castable "[I" "java/lang/Cloneable") (by decide +kernel))
  · exact fun w hw => va_Nw.of (nw_on w hw) (hts w (nw_in w hw))
  · exact fun w hw => va_Nw.of (dw_on w hw) (hts w (dw_in w hw))
