/-! What every method of the class and of the reference may take as given; the contract's form; calls. -/
abbrev AZ (z : Nat) : Nat → Prop := fun q => z ≤ q
def TY (k : Nat → ClassId) : List (ClassId × FieldType) := [(k 0, .int), (k 1, .long), (k 2, .boolean), (k 3, .object "CommitTree$Node"), (k 4, .object "CommitTree$Transaction"), (k 5, .object "CommitTree$Tree")]
/-- words that no list of words may hold -/
def NW : List Cond := [.methodLinkNest "CommitTree" 9 yX4_init "CommitTree", .methodLinkNest "CommitTree$Transaction" 11 yX4_init "CommitTree", .methodLinkNest "CommitTree" 38 yX0_init "CommitTree", .methodLinkNest "CommitTree" 31 yX1_init "CommitTree"]
/-- words of the throws that no list of words may hold -/
def DW : List Cond := [.declares (Bundle.initS "java/lang/RuntimeException"), .declares (Bundle.initS "java/lang/Exception"), .declares (Bundle.initS Bundle.tN), .castable "java/lang/IllegalStateException" "java/lang/IllegalStateException", .castable "java/lang/IllegalArgumentException" "java/lang/IllegalArgumentException", .castable "java/lang/UnsupportedOperationException" "java/lang/UnsupportedOperationException", .castable "java/lang/IndexOutOfBoundsException" "java/lang/IndexOutOfBoundsException", .castable "java/util/NoSuchElementException" "java/util/NoSuchElementException"]
def cx (D : va_G) (k : Nat → ClassId) (A : Nat → Prop) (U : State) : Prop :=
  va_K D vwCl (TY k) U ∧ (vx_Zq Bundle.tN "UNASSIGNED_STACK" Bundle.steD A U U.heap ∧ vx_Zq Bundle.tN "SUPPRESSED_SENTINEL" Bundle.listD A U U.heap) ∧ (∀ q ∈ STR, ∃ sa, vk_R RX5 q.1 q.2 sa U) ∧
  ((va_AO "CommitTree$Node" U ∧ va_AO "CommitTree$Transaction" U ∧ va_AO "CommitTree$Tree" U) ∧ va_Nw (.castable "[I" "java/lang/Cloneable") U) ∧ (∀ w ∈ NW, va_Nw w U) ∧ ∀ w ∈ DW, va_Nw w U
theorem cx.moved {D : va_G} {k : Nat → ClassId} {A : Nat → Prop} {U U' : State} (h : cx D k A U) (hW : U.WarmedH U'.vm) (hq : ∀ a : Nat, a < U.heap.size → ¬ A a → U'.heap[a]? = U.heap[a]?) : cx D k A U' := by
  obtain ⟨h1, ⟨h2, h3⟩, h4, ⟨⟨h5, h6, h7⟩, h8⟩, h9, h11⟩ := h
  refine ⟨h1.moved hW.alike, ⟨(h2.kept hq).moved hW.alike, (h3.kept hq).moved hW.alike⟩, fun q hq => ?_, ⟨⟨h5.moved hW.alike, h6.moved hW.alike, h7.moved hW.alike⟩, va_Nw.warmC hW h8⟩, fun w hw => ?_, fun w hw => ?_⟩
  · obtain ⟨sa, hs⟩ := h4 q hq
    exact ⟨sa, vk_R.warm hW hs⟩
  · have h10 := h9 w hw
    simp only [NW, List.mem_cons, List.not_mem_nil, or_false] at hw
    rcases hw with rfl | rfl | rfl | rfl <;> exact va_Nw.warmM hW h10
  · have h10 := h11 w hw
    simp only [DW, List.mem_cons, List.not_mem_nil, or_false] at hw
    rcases hw with rfl | rfl | rfl | rfl | rfl | rfl | rfl | rfl <;> first | exact va_Nw.warmD hW h10 | exact va_Nw.warmC hW h10
/-- the words DW, for a throw -/
theorem cx.dw {D : va_G} {k : Nat → ClassId} {A : Nat → Prop} {U : State} (h : cx D k A U) (args : Array Value) : ∀ w ∈ DW, w.before args U = true := fun w hw => by
  have h10 := h.2.2.2.2.2 w hw
  simp only [DW, List.mem_cons, List.not_mem_nil, or_false] at hw
  rcases hw with rfl | rfl | rfl | rfl | rfl | rfl | rfl | rfl <;> exact va_Nw.use rfl h10
/-- a contract's start: these arguments, this memory -/
def mPc (D : va_G) (k : Nat → ClassId) (z : Nat) (av : List Value) (M : mM) : Array Value → State → Prop := va_Pc av (fun U => z ≤ U.heap.size ∧ cx D k (AZ z) U ∧ mm D (AZ z) M U.heap)
/-- its end: an answer, a memory -/
def mQ (D : va_G) (z : Nat) (Ret : Option Value → mM → Prop) : Array Value → State → Outcome → State → Prop := fun _ st o t => (∃ (v : Option Value) (M' : mM), o = .returned v ∧ Ret v M' ∧ mm D (AZ z) M' t.heap) ∧ va_F (AZ z) st t
/-- its end by a throw: of which class, and the memory -/
def mX (D : va_G) (z : Nat) (Thr : String → mM → Prop) : String → State → State → Prop := fun E st t => (∃ M' : mM, Thr E M' ∧ mm D (AZ z) M' t.heap) ∧ va_F (AZ z) st t
/-- a method that returns -/
def mK (l : Launch) (y : MethodName) (ws : List Cond) (rm : Room) (D : va_G) (k : Nat → ClassId) (z : Nat) (av : List Value) (M : mM) (Ret : Option Value → mM → Prop) : Prop := Met l y ws rm (mPc D k z av M) (mQ D z Ret) rm.cells rm.slots (AZ z)
/-- a method that returns or throws -/
def mC (l : Launch) (y : MethodName) (ws : List Cond) (rm : Room) (D : va_G) (k : Nat → ClassId) (z : Nat) (av : List Value) (M : mM) (Ret : Option Value → mM → Prop) (Thr : String → mM → Prop) : Prop := vx_Met l y ws rm (mPc D k z av M) (mQ D z Ret) (mX D z Thr) rm.cells rm.slots (AZ z)
theorem mPc_blind (D : va_G) (k : Nat → ClassId) (z : Nat) (av : List Value) (M : mM) : FrameBlind (mPc D k z av M) := fun a U g mk q => by
  obtain ⟨q0, q1, q2, q3⟩ := q
  exact ⟨q0, q1, q2.moved (U' := U.calling g mk a) (State.WarmedH.refl U) (fun _ _ _ => rfl), q3⟩
section MCA
variable {p : Program} {l : Launch} {e : Env} {R : Room} {s : State} {m : MethodId} {args : Array Value} {below : List Frame} {meth : Method} {c : Code} {H : Heap} {locs : List Loc} {cells slots : Nat} {Q : State → Prop}
variable {y : MethodName} {bytes cc : ByteArray} {maxL nL n index : Nat} {ret : Option FieldType} {ws : List Cond} {rm : Room} {Ts : List Cond} {own C : String} {b : Addr} {As rest st0 : List Value} {pc : Nat} {ls : Array Slot}
variable {D : va_G} {k : Nat → ClassId} {z : Nat} {M : mM} {Ret : Option Value → mM → Prop} {Thr : String → mM → Prop} {a0 : Array Value}
theorem mPc_at (hz : z ≤ s.heap.size) (hcx : cx D k (AZ z) s) (hm : mm D (AZ z) M H) (hS : va_S (AZ z) s.heap H locs) (av : List Value) : ∀ U : State, U.heap = H → s.WarmedH U.vm → mPc D k z av M av.toArray U := fun U hU hW =>
  ⟨rfl, by rw [hU]; exact Nat.le_trans hz hS.1, hcx.moved hW (fun a h1 h2 => by rw [hU]; exact hS.2.1 a h1 h2), by rw [hU]; exact hm⟩
theorem m_S {st t T' : State} {L : List Loc} (h0 : st.heap = H) (e1 : T'.heap = t.heap) (hS : va_S (AZ z) s.heap H locs) (hL : ∀ q ∈ L, AZ z q.base) (hF : va_F (AZ z) st t) : va_S (AZ z) s.heap T'.heap (locs ++ L) := by
  obtain ⟨hz, hk⟩ := hF
  rw [h0] at hz hk
  refine ⟨Nat.le_trans hS.1 (by rw [e1]; exact hz), fun q h1 h2 => ?_, fun q hq => ?_⟩
  · rw [e1, hk q (Nat.lt_of_lt_of_le h1 hS.1) h2]
    exact hS.2.1 q h1 h2
  · rcases List.mem_append.mp hq with h | h
    · exact hS.2.2 q h
    · exact hL q h
/-- behind a call that returns -/
theorem m_goK (hr : va_Run p l e R s m args below meth c H locs cells slots rm.cells rm.slots (F0 m pc ls st0) rest (mQ D z Ret a0) (AZ z)) (hS : va_S (AZ z) s.heap H locs)
    (kk : ∀ (v : Option Value) (M' : mM) (H1 : Heap) (locs1 : List Loc), Ret v M' → mm D (AZ z) M' H1 → va_S (AZ z) s.heap H1 locs1 → W p l e R s m args below meth c H1 locs1 (cells + rm.cells) (slots + rm.slots) Q (F0 m (pc + 3) ls (v.toList ++ rest))) : W p l e R s m args below meth c H locs cells slots Q (F0 m pc ls st0) := by
  intro T hT X
  obtain ⟨v, st, t, T', L, h0, X', hL, e1, e2, ⟨⟨v', M', hv, hR, hM'⟩, hF⟩, go⟩ := hr T hT X
  cases hv
  obtain ⟨t2, a1, b1⟩ := kk v M' T'.heap (locs ++ L) hR (by rw [e1]; exact hM') (m_S h0 e1 hS hL hF) T' rfl X'
  exact ⟨t2, go t2 a1, b1⟩
/-- behind a call that returns or throws -/
theorem m_goC (hr : vx_Run p l e R s m args below meth c H locs cells slots rm.cells rm.slots (F0 m pc ls st0) rest (mQ D z Ret a0) (mX D z Thr) (AZ z)) (hS : va_S (AZ z) s.heap H locs)
    (kx : ∀ (E : String) (ce : Cell) (q : Addr) (M' : mM) (H1 : Heap) (locs1 : List Loc), Thr E M' → mm D (AZ z) M' H1 → va_S (AZ z) s.heap H1 locs1 → H1[q]? = some ce → ce.vm = .none → s.vm.findClass E = some ce.cls → vx_W p l e R s m args below meth c H1 locs1 (cells + rm.cells) (slots + rm.slots) Q (F0 m pc ls rest) q)
    (kk : ∀ (v : Option Value) (M' : mM) (H1 : Heap) (locs1 : List Loc), Ret v M' → mm D (AZ z) M' H1 → va_S (AZ z) s.heap H1 locs1 → W p l e R s m args below meth c H1 locs1 (cells + rm.cells) (slots + rm.slots) Q (F0 m (pc + 3) ls (v.toList ++ rest))) : W p l e R s m args below meth c H locs cells slots Q (F0 m pc ls st0) := by
  intro T hT X
  rcases hr T hT X with ⟨v, st, t, T', L, h0, X', hL, e1, e2, ⟨⟨v', M', hv, hR, hM'⟩, hF⟩, go⟩ | ⟨q, st, t, T', L, E, ce, h0, X', hL, e1, e2, ⟨⟨M', hR, hM'⟩, hF⟩, hce, hcv, hcl, go⟩
  · cases hv
    obtain ⟨t2, a1, b1⟩ := kk v M' T'.heap (locs ++ L) hR (by rw [e1]; exact hM') (m_S h0 e1 hS hL hF) T' rfl X'
    exact ⟨t2, go t2 a1, b1⟩
  · obtain ⟨t2, a1, b1⟩ := kx E ce q M' T'.heap (locs ++ L) hR (by rw [e1]; exact hM') (m_S h0 e1 hS hL hF) (by rw [e1]; exact hce) hcv hcl T' rfl X'
    exact ⟨t2, go.trans a1, b1⟩
theorem m_kV (S : CallFix p m c cc nL s args Ts own) (hM : mK l y ws rm D k z (.ref b :: As) M Ret) (cw : CallW R s args own C index y bytes maxL ret ws rm rm.cells rm.slots n) (hrc : ∃ cellB : Cell, H[b]? = some cellB ∧ cellB.vm.isStatics = false ∧ s.vm.findClass C = some cellB.cls)
    (hz : z ≤ s.heap.size) (hcx : cx D k (AZ z) s) (hm : mm D (AZ z) M H) (hS : va_S (AZ z) s.heap H locs) (hn : As.length = n) (hsize : ls.size = nL) (hst : st0 = As.reverse ++ .ref b :: rest) (hW : (rest.map fun v => v.category).sum ≤ 8) (hdg : decode cc pc = .ok (.invokevirtual index, 3)) (hf : cells + rm.cells ≤ R.cells ∧ slots + rm.slots ≤ R.slots)
    (kk : ∀ (v : Option Value) (M' : mM) (H1 : Heap) (locs1 : List Loc), Ret v M' → mm D (AZ z) M' H1 → va_S (AZ z) s.heap H1 locs1 → W p l e R s m args below meth c H1 locs1 (cells + rm.cells) (slots + rm.slots) Q (F0 m (pc + 3) ls (v.toList ++ rest))) : W p l e R s m args below meth c H locs cells slots Q (F0 m pc ls st0) :=
  m_goK (va_runV S hM cw ⟨mPc_blind D k z _ M, hrc, mPc_at hz hcx hm hS (.ref b :: As)⟩ rfl hn hsize hst (by show 2 * 0 + _ ≤ 8; omega) hdg hf) hS kk
theorem m_kS (S : CallFix p m c cc nL s args Ts own) (hM : mK l y ws rm D k z As M Ret) (cw : CallB R s args own index y bytes maxL ret ws rm rm.cells rm.slots n ∧ (Cond.static y).before args s = true)
    (hz : z ≤ s.heap.size) (hcx : cx D k (AZ z) s) (hm : mm D (AZ z) M H) (hS : va_S (AZ z) s.heap H locs) (hn : As.length = n) (hsize : ls.size = nL) (hst : st0 = As.reverse ++ rest) (hW : (rest.map fun v => v.category).sum ≤ 8) (hdg : decode cc pc = .ok (.invokestatic index, 3)) (hf : cells + rm.cells ≤ R.cells ∧ slots + rm.slots ≤ R.slots)
    (kk : ∀ (v : Option Value) (M' : mM) (H1 : Heap) (locs1 : List Loc), Ret v M' → mm D (AZ z) M' H1 → va_S (AZ z) s.heap H1 locs1 → W p l e R s m args below meth c H1 locs1 (cells + rm.cells) (slots + rm.slots) Q (F0 m (pc + 3) ls (v.toList ++ rest))) : W p l e R s m args below meth c H locs cells slots Q (F0 m pc ls st0) :=
  m_goK (va_runS S hM cw ⟨mPc_blind D k z _ M, mPc_at hz hcx hm hS As⟩ rfl hn hsize hst (by show 2 * 0 + _ ≤ 8; omega) hdg hf) hS kk
theorem m_kI (S : CallFix p m c cc nL s args Ts own) (hM : mK l y ws rm D k z (.ref b :: As) M Ret) (cw : CallB R s args own index y bytes maxL none ws rm rm.cells rm.slots n ∧ y.name = "<init>" ∧ (Cond.instanceMethod y).before args s = true)
    (hz : z ≤ s.heap.size) (hcx : cx D k (AZ z) s) (hm : mm D (AZ z) M H) (hS : va_S (AZ z) s.heap H locs) (hn : As.length = n) (hsize : ls.size = nL) (hst : st0 = As.reverse ++ .ref b :: rest) (hW : (rest.map fun v => v.category).sum ≤ 8) (hdg : decode cc pc = .ok (.invokespecial index, 3)) (hf : cells + rm.cells ≤ R.cells ∧ slots + rm.slots ≤ R.slots)
    (kk : ∀ (v : Option Value) (M' : mM) (H1 : Heap) (locs1 : List Loc), Ret v M' → mm D (AZ z) M' H1 → va_S (AZ z) s.heap H1 locs1 → W p l e R s m args below meth c H1 locs1 (cells + rm.cells) (slots + rm.slots) Q (F0 m (pc + 3) ls (v.toList ++ rest))) : W p l e R s m args below meth c H locs cells slots Q (F0 m pc ls st0) :=
  m_goK (va_runI S hM cw ⟨mPc_blind D k z _ M, mPc_at hz hcx hm hS (.ref b :: As)⟩ rfl hn hsize hst (by show 2 * 0 + _ ≤ 8; omega) hdg hf) hS kk
theorem m_cV (S : CallFix p m c cc nL s args Ts own) (hM : mC l y ws rm D k z (.ref b :: As) M Ret Thr) (cw : CallW R s args own C index y bytes maxL ret ws rm rm.cells rm.slots n) (hrc : ∃ cellB : Cell, H[b]? = some cellB ∧ cellB.vm.isStatics = false ∧ s.vm.findClass C = some cellB.cls)
    (hz : z ≤ s.heap.size) (hcx : cx D k (AZ z) s) (hm : mm D (AZ z) M H) (hS : va_S (AZ z) s.heap H locs) (hn : As.length = n) (hsize : ls.size = nL) (hst : st0 = As.reverse ++ .ref b :: rest) (hW : (rest.map fun v => v.category).sum ≤ 8) (hdg : decode cc pc = .ok (.invokevirtual index, 3)) (hf : cells + rm.cells ≤ R.cells ∧ slots + rm.slots ≤ R.slots)
    (kx : ∀ (E : String) (ce : Cell) (q : Addr) (M' : mM) (H1 : Heap) (locs1 : List Loc), Thr E M' → mm D (AZ z) M' H1 → va_S (AZ z) s.heap H1 locs1 → H1[q]? = some ce → ce.vm = .none → s.vm.findClass E = some ce.cls → vx_W p l e R s m args below meth c H1 locs1 (cells + rm.cells) (slots + rm.slots) Q (F0 m pc ls rest) q)
    (kk : ∀ (v : Option Value) (M' : mM) (H1 : Heap) (locs1 : List Loc), Ret v M' → mm D (AZ z) M' H1 → va_S (AZ z) s.heap H1 locs1 → W p l e R s m args below meth c H1 locs1 (cells + rm.cells) (slots + rm.slots) Q (F0 m (pc + 3) ls (v.toList ++ rest))) : W p l e R s m args below meth c H locs cells slots Q (F0 m pc ls st0) :=
  m_goC (vx_runV S hM cw ⟨mPc_blind D k z _ M, hrc, mPc_at hz hcx hm hS (.ref b :: As)⟩ rfl hn hsize hst (by show 2 * 0 + _ ≤ 8; omega) hdg hf) hS kx kk
theorem m_cS (S : CallFix p m c cc nL s args Ts own) (hM : mC l y ws rm D k z As M Ret Thr) (cw : CallB R s args own index y bytes maxL ret ws rm rm.cells rm.slots n ∧ (Cond.static y).before args s = true)
    (hz : z ≤ s.heap.size) (hcx : cx D k (AZ z) s) (hm : mm D (AZ z) M H) (hS : va_S (AZ z) s.heap H locs) (hn : As.length = n) (hsize : ls.size = nL) (hst : st0 = As.reverse ++ rest) (hW : (rest.map fun v => v.category).sum ≤ 8) (hdg : decode cc pc = .ok (.invokestatic index, 3)) (hf : cells + rm.cells ≤ R.cells ∧ slots + rm.slots ≤ R.slots)
    (kx : ∀ (E : String) (ce : Cell) (q : Addr) (M' : mM) (H1 : Heap) (locs1 : List Loc), Thr E M' → mm D (AZ z) M' H1 → va_S (AZ z) s.heap H1 locs1 → H1[q]? = some ce → ce.vm = .none → s.vm.findClass E = some ce.cls → vx_W p l e R s m args below meth c H1 locs1 (cells + rm.cells) (slots + rm.slots) Q (F0 m pc ls rest) q)
    (kk : ∀ (v : Option Value) (M' : mM) (H1 : Heap) (locs1 : List Loc), Ret v M' → mm D (AZ z) M' H1 → va_S (AZ z) s.heap H1 locs1 → W p l e R s m args below meth c H1 locs1 (cells + rm.cells) (slots + rm.slots) Q (F0 m (pc + 3) ls (v.toList ++ rest))) : W p l e R s m args below meth c H locs cells slots Q (F0 m pc ls st0) :=
  m_goC (vx_runS S hM cw ⟨mPc_blind D k z _ M, mPc_at hz hcx hm hS As⟩ rfl hn hsize hst (by show 2 * 0 + _ ≤ 8; omega) hdg hf) hS kx kk
end MCA
/-- a cell that was not there is no other -/
theorem m_fr {M : mM} {q b : Nat} {e : va_E} (hq : M q = none) (hb : M b = some e) : b ≠ q := fun h => by
  subst h
  rw [hq] at hb
  cases hb
/-- cells that hold other things are apart -/
theorem m_df {M : mM} {a b : Nat} {e e' : va_E} (ha : M a = some e) (hb : M b = some e') (hne : e ≠ e') : b ≠ a := fun h => by
  subst h
  rw [ha] at hb
  exact hne (Option.some.inj hb)
section MCT
variable {p : Program} {l : Launch} {e : Env} {R : Room} {s : State} {m : MethodId} {args : Array Value} {below : List Frame} {meth : Method} {c : Code} {H : Heap} {locs : List Loc} {cells slots : Nat} {Q : State → Prop}
variable {cc : ByteArray} {pc : Nat} {ls : Array Slot} {rest : List Value} {D : va_G} {A : Nat → Prop} {a : Nat} {M : mM}
theorem m_castA (hexec : p.tables.exec = Jvm.exec) (hb : c.code = cc) {own nm : String} {index : Nat} (hown : s.vm.findClass own = some m.cls) (hlink : (Cond.classLink own index nm).before args s = true) (hm : mm D A M H) {cA : ClassId} {x : vp_A} (ha : M a = some (.inl (cA, x))) (hnm : s.vm.findClass nm = some cA) (hdg : decode cc pc = .ok (.checkcast index, 3))
    (k : W p l e R s m args below meth c H locs cells slots Q (F0 m (pc + 3) ls (.ref a :: rest))) : W p l e R s m args below meth c H locs cells slots Q (F0 m pc ls (.ref a :: rest)) := by
  obtain ⟨ws, hP, hD, rfl⟩ := hm
  obtain ⟨q0, hq⟩ := wm_get ha
  exact va_castA hexec hb hown hlink hP q0 hq hnm hdg k
end MCT
