/-! What is kept: all cells but some. -/
def kpx (h : Nat → Prop) (M M' : mM) : Prop := ∀ (a : Nat) (e : va_E), ¬ h a → M a = some e → M' a = some e
theorem kpx.refl (h : Nat → Prop) (M : mM) : kpx h M M := fun _ _ _ q => q
theorem kpx.trans {h : Nat → Prop} {M M1 M2 : mM} (h1 : kpx h M M1) (h2 : kpx h M1 M2) : kpx h M M2 := fun a e ha q => h2 a e ha (h1 a e ha q)
theorem kpx.new {h : Nat → Prop} {M M1 : mM} {q : Nat} {e : va_E} (hk : kpx h M M1) (hq : M1 q = none) : kpx h M (mu M1 q e) := fun a e' ha hM => by
  have h1 := hk a e' ha hM
  rw [mu_ne (m_fr hq h1)]; exact h1
theorem kpx.self {h : Nat → Prop} {M M1 : mM} {a : Nat} {e : va_E} (hk : kpx h M M1) (hh : h a) : kpx h M (mu M1 a e) := fun b e' hb hM => by
  have h1 : b ≠ a := fun h9 => hb (h9 ▸ hh)
  rw [mu_ne h1]; exact hk b e' hb hM
theorem kpx.old {h : Nat → Prop} {M M1 : mM} {q : Nat} {e : va_E} (hk : kpx h M M1) (hn : M q = none) : kpx h M (mu M1 q e) := fun a e' ha hM => by
  rw [mu_ne (m_fr hn hM)]; exact hk a e' ha hM
theorem kpx.no {h : Nat → Prop} {M M1 : mM} {q : Nat} (hk : kpx h M M1) (hb : ¬ h q) (hq : M1 q = none) : M q = none := by
  cases hM : M q with
  | none => rfl
  | some e => have := hk q e hb hM; rw [hq] at this; cases this
/-- behind a new object whose constructor changed it alone -/
theorem kpx.made {M M1 : mM} {q : Nat} {d : va_E} (hq : M q = none) (hk : kpx (fun a => a = q) (mu M q d) M1) : kpx (fun _ => False) M M1 := fun a e _ hM => by
  have h1 : a ≠ q := m_fr hq hM
  exact hk a e h1 (by rw [mu_ne h1]; exact hM)
theorem kpx.weak {h : Nat → Prop} {M M1 : mM} (hk : kpx (fun _ => False) M M1) : kpx h M M1 := fun a e _ hM => hk a e (fun h => h) hM
section MKN
variable {p : Program} {l : Launch} {e : Env} {R : Room} {s : State} {m : MethodId} {args : Array Value} {below : List Frame} {meth : Method} {c : Code} {H : Heap} {locs : List Loc} {cells slots : Nat} {Q : State → Prop}
variable {y : MethodName} {bytes cc : ByteArray} {maxL nL n index : Nat} {ret : Option FieldType} {ws : List Cond} {rm : Room} {Ts : List Cond} {own C host : String} {b : Addr} {As rest st0 : List Value} {pc : Nat} {ls : Array Slot}
variable {D : va_G} {k : Nat → ClassId} {z : Nat} {M : mM} {Ret : Option Value → mM → Prop}
/-- a private constructor of a nest mate -/
theorem m_kIN (S : CallFix p m c cc nL s args Ts own) (hM : mK l y ws rm D k z (.ref b :: As) M Ret) (cw : va_CN R s args own index y host bytes maxL none ws rm rm.cells rm.slots n ∧ y.name = "<init>" ∧ (Cond.instanceMethod y).before args s = true)
    (hz : z ≤ s.heap.size) (hcx : cx D k (AZ z) s) (hm : mm D (AZ z) M H) (hS : va_S (AZ z) s.heap H locs) (hn : As.length = n) (hsize : ls.size = nL) (hst : st0 = As.reverse ++ .ref b :: rest) (hW : (rest.map fun v => v.category).sum ≤ 8) (hdg : decode cc pc = .ok (.invokespecial index, 3)) (hf : cells + rm.cells ≤ R.cells ∧ slots + rm.slots ≤ R.slots)
    (kk : ∀ (v : Option Value) (M' : mM) (H1 : Heap) (locs1 : List Loc), Ret v M' → mm D (AZ z) M' H1 → va_S (AZ z) s.heap H1 locs1 → W p l e R s m args below meth c H1 locs1 (cells + rm.cells) (slots + rm.slots) Q (F0 m (pc + 3) ls (v.toList ++ rest))) : W p l e R s m args below meth c H locs cells slots Q (F0 m pc ls st0) :=
  m_goK (va_runIN S hM cw ⟨mPc_blind D k z _ M, mPc_at hz hcx hm hS (.ref b :: As)⟩ rfl hn hsize hst (by show 2 * 0 + _ ≤ 8; omega) hdg hf) hS kk
end MKN
/-! Trees and nodes under what is kept. -/
theorem nodeAt_le {k : Nat → ClassId} {M M' : mM} {a : Nat} {v : NV} (hk : kpx (fun _ => False) M M') (h : nodeAt k M a v) : nodeAt k M' a v := by
  obtain ⟨hd, ca, h1, h2⟩ := h
  exact ⟨hd, ca, hk _ _ id h1, hk _ _ id h2⟩
theorem treeAt_le {k : Nat → ClassId} {M M' : mM} {t na : Nat} {g : Nat → Option Nat} {L : List NV} (hk : kpx (fun _ => False) M M') (h : treeAt k M t na g L) : treeAt k M' t na g L :=
  ⟨hk _ _ id h.1, hk _ _ id h.2.1, h.2.2.1, fun j v hv => by obtain ⟨a, h1, h2⟩ := h.2.2.2 j v hv; exact ⟨a, h1, nodeAt_le hk h2⟩⟩
/-- a new tree -/
theorem tree_new {k : Nat → ClassId} {M : mM} {h q : Nat} {d : va_E} (hh : M h = none) (hq : mu M h d q = none) : treeAt k (mu (mu (mu M h d) q (.inl (k 3, 60, .inr (.inr (.inr (.inr (fun _ => none))))))) h (.inr (4, [.ref q, .int 0]))) h q (fun _ => none) [] ∧ kpx (fun _ => False) M (mu (mu (mu M h d) q (.inl (k 3, 60, .inr (.inr (.inr (.inr (fun _ => none))))))) h (.inr (4, [.ref q, .int 0]))) ∧ M q = none := by
  have hne : q ≠ h := fun e => by subst e; rw [mu_self] at hq; cases hq
  refine ⟨⟨mu_self _ _ _, by rw [mu_ne hne, mu_self], Nat.zero_le _, fun j v hv => by simp at hv⟩, fun a e _ hM => ?_, by rw [mu_ne hne] at hq; exact hq⟩
  have h1 : a ≠ h := m_fr hh hM
  have h2 : a ≠ q := m_fr hq (by rw [mu_ne h1]; exact hM)
  rw [mu_ne h1, mu_ne h2, mu_ne h1]; exact hM
