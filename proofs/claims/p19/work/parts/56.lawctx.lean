/-! The law's helpers: methods with a table of their own, that return. Their context has, beside cx, which exceptions are not which. -/
def NCP : List (String × String) := [(eIS, eIA), (eIS, eNS), (eIS, eUO), (eIS, eIO), (eIA, eIS), (eIA, eNS), (eIA, eUO), (eIA, eIO), (eNS, eIS), (eNS, eIA), (eNS, eUO), (eNS, eIO), (eUO, eIS), (eUO, eIA), (eUO, eNS), (eUO, eIO), (eIO, eIS), (eIO, eIA), (eIO, eNS), (eIO, eUO)]
def cxN (D : va_G) (k : Nat → ClassId) (A : Nat → Prop) (U : State) : Prop := cx D k A U ∧ ∀ q ∈ NCP, va_Nc q.1 q.2 U
theorem cxN.moved {D : va_G} {k : Nat → ClassId} {A : Nat → Prop} {U U' : State} (h : cxN D k A U) (hW : U.WarmedH U'.vm) (hq : ∀ a : Nat, a < U.heap.size → ¬ A a → U'.heap[a]? = U.heap[a]?) : cxN D k A U' := ⟨h.1.moved hW hq, fun q hq => (h.2 q hq).moved hW.alike⟩
def mPcN (D : va_G) (k : Nat → ClassId) (z : Nat) (av : List Value) (M : mM) : Array Value → State → Prop := va_Pc av (fun U => z ≤ U.heap.size ∧ cxN D k (AZ z) U ∧ mm D (AZ z) M U.heap)
def mKN (l : Launch) (y : MethodName) (ws : List Cond) (rm : Room) (D : va_G) (k : Nat → ClassId) (z : Nat) (av : List Value) (M : mM) (Ret : Option Value → mM → Prop) : Prop := Met l y ws rm (mPcN D k z av M) (mQ D z Ret) rm.cells rm.slots (AZ z)
theorem mPcN_blind (D : va_G) (k : Nat → ClassId) (z : Nat) (av : List Value) (M : mM) : FrameBlind (mPcN D k z av M) := fun a U g mk q => by
  obtain ⟨q0, q1, q2, q3⟩ := q
  exact ⟨q0, q1, q2.moved (U' := U.calling g mk a) (State.WarmedH.refl U) (fun _ _ _ => rfl), q3⟩
section MLN
variable {p : Program} {l : Launch} {e : Env} {R : Room} {s : State} {m : MethodId} {args : Array Value} {below : List Frame} {meth : Method} {c : Code} {H : Heap} {locs : List Loc} {cells slots : Nat} {Q : State → Prop}
variable {y : MethodName} {bytes cc : ByteArray} {maxL nL n index : Nat} {ret : Option FieldType} {ws : List Cond} {rm : Room} {Ts : List Cond} {own C : String} {As rest st0 : List Value} {pc : Nat} {ls : Array Slot}
variable {D : va_G} {k : Nat → ClassId} {z : Nat} {M : mM} {Ret : Option Value → mM → Prop}
theorem mPcN_at (hz : z ≤ s.heap.size) (hcx : cxN D k (AZ z) s) (hm : mm D (AZ z) M H) (hS : va_S (AZ z) s.heap H locs) (av : List Value) : ∀ U : State, U.heap = H → s.WarmedH U.vm → mPcN D k z av M av.toArray U := fun U hU hW =>
  ⟨rfl, by rw [hU]; exact Nat.le_trans hz hS.1, hcx.moved hW (fun a h1 h2 => by rw [hU]; exact hS.2.1 a h1 h2), by rw [hU]; exact hm⟩
/-- a static call of a method that has a table -/
theorem m_kSW {hh : List (Nat × Nat × Nat × Nat)} (S : CallFix p m c cc nL s args Ts own) (hM : mKN l y ws rm D k z As M Ret) (cw : vx_CSW R s args own index y bytes maxL ret hh ws rm rm.cells rm.slots n)
    (hz : z ≤ s.heap.size) (hcx : cxN D k (AZ z) s) (hm : mm D (AZ z) M H) (hS : va_S (AZ z) s.heap H locs) (hn : As.length = n) (hsize : ls.size = nL) (hst : st0 = As.reverse ++ rest) (hW : (rest.map fun v => v.category).sum ≤ 8) (hdg : decode cc pc = .ok (.invokestatic index, 3)) (hf : cells + rm.cells ≤ R.cells ∧ slots + rm.slots ≤ R.slots)
    (kk : ∀ (v : Option Value) (M' : mM) (H1 : Heap) (locs1 : List Loc), Ret v M' → mm D (AZ z) M' H1 → va_S (AZ z) s.heap H1 locs1 → W p l e R s m args below meth c H1 locs1 (cells + rm.cells) (slots + rm.slots) Q (F0 m (pc + 3) ls (v.toList ++ rest))) : W p l e R s m args below meth c H locs cells slots Q (F0 m pc ls st0) :=
  m_goK (vx_runSW S hM cw ⟨mPcN_blind D k z _ M, mPcN_at hz hcx hm hS As⟩ rfl hn hsize hst (by show 2 * 0 + _ ≤ 8; omega) hdg hf) hS kk
end MLN
theorem tc_ofWH {l : Launch} {y : MethodName} {ws ws' : List Cond} {rm : Room} {Pc : Array Value → State → Prop} {Qc : Array Value → State → Outcome → State → Prop} {mc ms : Nat} {free : Addr → Prop} {cc : ByteArray} {maxL : Nat} {ret : Option FieldType} {hh : List (Nat × Nat × Nat × Nat)}
    (hy : plainName y.cls = true) (hw : ws = Cond.codeWith y cc maxL ret hh :: ws')
    (body : ∀ p e s m args below meth c s₁, BodyLoose p l y (headSpec ws rm) cc maxL ret e s m args below meth c s₁ → c.maxLocals = maxL → Pc args s →
      W p l e (headSpec ws rm).room s m args below meth c s.heap [] 0 0 (MQ below Qc args s mc ms free) (entryFrame m args maxL)) : Met l y ws rm Pc Qc mc ms free := by
  refine MetFree.of_bodyS (code := cc) (maxLocals := maxL) (ret := ret) hy ?_ ?_
  · intro args s m h hn
    obtain ⟨m9, meth, c, hn9, h1, h2, h3, h4, -, h5, h6, -⟩ := Cond.codeWith_spec (atoms_spec (ws := ws) h _ (by rw [hw]; exact List.mem_cons_self))
    cases hn.symm.trans hn9
    exact ⟨meth, c, h1, h2, h3, h4, h5, h6⟩
  · intro p e s m args below meth c s₁ B hml hP _
    have hh0 : s₁.heap = s.heap := by rw [B.state]; rfl
    obtain ⟨t, a1, o, b1, b2, b3⟩ := body p e s m args below meth c s₁ B hml hP s₁ hh0 (Stand.of_body B)
    exact ⟨t, o, a1, b1, b2, b3⟩
theorem cxN_start {p : Program} {s : State} {m : MethodId} {meth : Method} {c : Code} {b L : Nat} {xs : Nat → Int32} (C0 : lw_At p s m meth c b L xs) : ∃ (D : va_G) (k : Nat → ClassId), cxN D k (AZ s.heap.size) s := by
  obtain ⟨D, k, hcx⟩ := cx_start C0
  obtain ⟨hx, hb, hr, hml, hown, hts, hX, hbl, hlocks, hgv⟩ := C0
  have hs := flat_of_before _ hgv
  refine ⟨D, k, hcx, fun q hq => ?_⟩
  simp only [NCP, List.mem_cons, List.not_mem_nil, or_false] at hq
  rcases hq with rfl | rfl | rfl | rfl | rfl | rfl | rfl | rfl | rfl | rfl | rfl | rfl | rfl | rfl | rfl | rfl | rfl | rfl | rfl | rfl <;> exact va_Nc.of (hs _ (by decide +kernel))
/-- cells of the reference -/
def mc2 (e : va_E) : Prop := (∃ c n f, e = .inl (c, n, .inl f) ∧ n ≠ 60) ∨ ∃ fs, e = .inr (6, fs)
def k2 (M M' : mM) : Prop := ∀ (a : Nat) (e : va_E), mc2 e → M a = some e → M' a = some e
theorem k2.refl (M : mM) : k2 M M := fun _ _ _ h => h
theorem kM.k2 {M M' : mM} (h : kM M M') : k2 M M' := fun a e he hM => h a e (by
  rcases he with ⟨c, n, f, rfl, hn⟩ | ⟨fs, rfl⟩
  · exact hn
  · rfl) hM
theorem k2.long {k : Nat → ClassId} {M M1 : mM} {a n : Nat} {g : Nat → Int64} {e : va_E} (hk : k2 M M1) (ha : M1 a = some (.inl (k 1, n, .inr (.inl g)))) : k2 M (mu M1 a e) := fun b e' hb' hM => by
  have h1 := hk b e' hb' hM
  have h2 : b ≠ a := fun h => by
    subst h; rw [ha] at h1
    rcases hb' with ⟨c, n, f, rfl, hn⟩ | ⟨fs, rfl⟩
    · cases h1
    · cases h1
  rw [mu_ne h2]; exact h1
theorem mFr_k2 {k : Nat → ClassId} {M M' : mM} {mo : Nat} {c : Int32} (hk : k2 M M') (h : mFr k M mo c) : mFr k M' mo c := by
  obtain ⟨cn, ia, dr, en, la, wo, op, mk, ir, se, ec, lc, wc, ol, al, hap, hM, h1, h2, h3, h4, h5, h6, h7, h8, h9⟩ := h
  exact ⟨cn, ia, dr, en, la, wo, op, mk, ir, se, ec, lc, wc, ol, al, hap, hk _ _ (Or.inr ⟨_, rfl⟩) hM, hk _ _ (Or.inl ⟨_, _, _, rfl, by decide⟩) h1, hk _ _ (Or.inl ⟨_, _, _, rfl, by decide⟩) h2, hk _ _ (Or.inl ⟨_, _, _, rfl, by decide⟩) h3, hk _ _ (Or.inl ⟨_, _, _, rfl, by decide⟩) h4, hk _ _ (Or.inl ⟨_, _, _, rfl, by decide⟩) h5, hk _ _ (Or.inl ⟨_, _, _, rfl, by decide⟩) h6, hk _ _ (Or.inl ⟨_, _, _, rfl, by decide⟩) h7, hk _ _ (Or.inl ⟨_, _, _, rfl, by decide⟩) h8, hk _ _ (Or.inl ⟨_, _, _, rfl, by decide⟩) h9⟩
