/-! The class on any state: kinds of cells. -/
abbrev KD : Type := Nat
abbrev KD.disk : KD := 0
abbrev KD.merge : KD := 1
abbrev KD.node : KD := 2
abbrev KD.txn : KD := 3
abbrev KD.tree : KD := 4
abbrev KD.top : KD := 5
abbrev KD.ints : KD := 6
abbrev KD.longs : KD := 7
abbrev KD.outs : KD := 8
abbrev KD.rows : KD := 9
abbrev KD.txns : KD := 10
abbrev KD.trees : KD := 11
/-- what a cell of a kind may hold -/
def wf (k : Nat → ClassId) (κ : Nat → Option KD) : KD → va_E → Prop
  | 0, e => ∃ (v0 : Int32) (v1 : Int32), e = .inr (0, [.int v0, .int v1])
  | 1, e => ∃ (v0 : Int32) (v1 : Int32) (v2 : Int32) (v3 : Int32) (v4 : Nat) (v5 : Nat), e = .inr (1, [.int v0, .int v1, .int v2, .int v3, .ref v4, .ref v5]) ∧ κ v4 = some .node ∧ κ v5 = some .node
  | 2, e => ∃ (v0 : Int32) (v1 : Int32) (v2 : Int32) (v3 : Nat), e = .inr (2, [.int v0, .int v1, .int v2, .ref v3]) ∧ (v1 = 0 ∨ v1 = 1) ∧ κ v3 = some .ints
  | 3, e => ∃ (v0 : Nat) (v1 : Nat) (v2 : Nat) (v3 : Nat) (v4 : Nat) (v5 : Int32) (v6 : Int32), e = .inr (3, [.ref v0, .ref v1, .ref v2, .ref v3, .ref v4, .int v5, .int v6]) ∧ κ v0 = some .tree ∧ κ v1 = some .tree ∧ κ v2 = some .trees ∧ κ v3 = some .longs ∧ κ v4 = some .longs ∧ (v5 = 0 ∨ v5 = 1)
  | 4, e => ∃ (v0 : Nat) (v1 : Nat), e = .inr (4, [.ref v0, .int (nI v1)]) ∧ κ v0 = some .rows ∧ v1 ≤ 60
  | 5, e => ∃ (v0 : Nat) (v1 : Nat) (v2 : Nat) (v3 : Nat) (v4 : Nat) (v5 : Nat) (v6 : Int32) (v7 : Int32) (v8 : Int32) (v9 : Int32) (v10 : Int32), e = .inr (5, [.ref v0, .ref v1, .ref v2, .ref v3, .ref v4, .ref v5, .int v6, .int v7, .int v8, .int v9, .int v10]) ∧ κ v0 = some .tree ∧ κ v1 = some .tree ∧ κ v2 = some .merge ∧ κ v3 = some .disk ∧ κ v4 = some .txns ∧ κ v5 = some .txn ∧ (v9 = 0 ∨ v9 = 1) ∧ (v10 = 0 ∨ v10 = 1)
  | 6, e => ∃ (n : Nat) (f : Nat → Int32), e = .inl (k 0, n, .inl f) ∧ n ≤ 64
  | 7, e => ∃ f : Nat → Int64, e = .inl (k 1, 60, .inr (.inl f))
  | 8, e => ∃ f : Nat → Int64, e = .inl (k 1, 1, .inr (.inl f))
  | 9, e => ∃ g : Nat → Option Nat, e = .inl (k 3, 60, .inr (.inr (.inr (.inr g)))) ∧ ∀ j a, g j = some a → κ a = some .node
  | 10, e => ∃ g : Nat → Option Nat, e = .inl (k 4, 6, .inr (.inr (.inr (.inr g)))) ∧ ∀ j a, g j = some a → κ a = some .txn
  | 11, e => ∃ g : Nat → Option Nat, e = .inl (k 5, 3, .inr (.inr (.inr (.inr g)))) ∧ ∀ j a, g j = some a → κ a = some .tree
  | _, _ => False
def TM (k : Nat → ClassId) (κ : Nat → Option KD) (M : mM) : Prop := ∀ a d, κ a = some d → ∃ e, M a = some e ∧ wf k κ d e
/-- from a memory to a later one: kinds stay, foreign cells are kept -/
def kx (κ : Nat → Option KD) (M : mM) (κ' : Nat → Option KD) (M' : mM) : Prop := (∀ a e, M a = some e → κ' a = κ a) ∧ ∀ a e, M a = some e → κ a = none → M' a = some e
theorem TM.disk {k : Nat → ClassId} {κ : Nat → Option KD} {M : mM} {a : Nat} (h : TM k κ M) (ha : κ a = some .disk) : ∃ (v0 : Int32) (v1 : Int32), M a = some (.inr (0, [.int v0, .int v1])) := by
  obtain ⟨e, h1, h2⟩ := h a _ ha
  obtain ⟨v0, v1, rfl⟩ := h2
  exact ⟨_, _, h1⟩
theorem TM.merge {k : Nat → ClassId} {κ : Nat → Option KD} {M : mM} {a : Nat} (h : TM k κ M) (ha : κ a = some .merge) : ∃ (v0 : Int32) (v1 : Int32) (v2 : Int32) (v3 : Int32) (v4 : Nat) (v5 : Nat), M a = some (.inr (1, [.int v0, .int v1, .int v2, .int v3, .ref v4, .ref v5])) ∧ κ v4 = some .node ∧ κ v5 = some .node := by
  obtain ⟨e, h1, h2⟩ := h a _ ha
  obtain ⟨v0, v1, v2, v3, v4, v5, rfl, q0, q1⟩ := h2
  exact ⟨_, _, _, _, _, _, h1, q0, q1⟩
theorem TM.node {k : Nat → ClassId} {κ : Nat → Option KD} {M : mM} {a : Nat} (h : TM k κ M) (ha : κ a = some .node) : ∃ (v0 : Int32) (v1 : Int32) (v2 : Int32) (v3 : Nat), M a = some (.inr (2, [.int v0, .int v1, .int v2, .ref v3])) ∧ (v1 = 0 ∨ v1 = 1) ∧ κ v3 = some .ints := by
  obtain ⟨e, h1, h2⟩ := h a _ ha
  obtain ⟨v0, v1, v2, v3, rfl, q0, q1⟩ := h2
  exact ⟨_, _, _, _, h1, q0, q1⟩
theorem TM.txn {k : Nat → ClassId} {κ : Nat → Option KD} {M : mM} {a : Nat} (h : TM k κ M) (ha : κ a = some .txn) : ∃ (v0 : Nat) (v1 : Nat) (v2 : Nat) (v3 : Nat) (v4 : Nat) (v5 : Int32) (v6 : Int32), M a = some (.inr (3, [.ref v0, .ref v1, .ref v2, .ref v3, .ref v4, .int v5, .int v6])) ∧ κ v0 = some .tree ∧ κ v1 = some .tree ∧ κ v2 = some .trees ∧ κ v3 = some .longs ∧ κ v4 = some .longs ∧ (v5 = 0 ∨ v5 = 1) := by
  obtain ⟨e, h1, h2⟩ := h a _ ha
  obtain ⟨v0, v1, v2, v3, v4, v5, v6, rfl, q0, q1, q2, q3, q4, q5⟩ := h2
  exact ⟨_, _, _, _, _, _, _, h1, q0, q1, q2, q3, q4, q5⟩
theorem TM.tree {k : Nat → ClassId} {κ : Nat → Option KD} {M : mM} {a : Nat} (h : TM k κ M) (ha : κ a = some .tree) : ∃ (v0 : Nat) (v1 : Nat), M a = some (.inr (4, [.ref v0, .int (nI v1)])) ∧ κ v0 = some .rows ∧ v1 ≤ 60 := by
  obtain ⟨e, h1, h2⟩ := h a _ ha
  obtain ⟨v0, v1, rfl, q0, q1⟩ := h2
  exact ⟨_, _, h1, q0, q1⟩
theorem TM.top {k : Nat → ClassId} {κ : Nat → Option KD} {M : mM} {a : Nat} (h : TM k κ M) (ha : κ a = some .top) : ∃ (v0 : Nat) (v1 : Nat) (v2 : Nat) (v3 : Nat) (v4 : Nat) (v5 : Nat) (v6 : Int32) (v7 : Int32) (v8 : Int32) (v9 : Int32) (v10 : Int32), M a = some (.inr (5, [.ref v0, .ref v1, .ref v2, .ref v3, .ref v4, .ref v5, .int v6, .int v7, .int v8, .int v9, .int v10])) ∧ κ v0 = some .tree ∧ κ v1 = some .tree ∧ κ v2 = some .merge ∧ κ v3 = some .disk ∧ κ v4 = some .txns ∧ κ v5 = some .txn ∧ (v9 = 0 ∨ v9 = 1) ∧ (v10 = 0 ∨ v10 = 1) := by
  obtain ⟨e, h1, h2⟩ := h a _ ha
  obtain ⟨v0, v1, v2, v3, v4, v5, v6, v7, v8, v9, v10, rfl, q0, q1, q2, q3, q4, q5, q6, q7⟩ := h2
  exact ⟨_, _, _, _, _, _, _, _, _, _, _, h1, q0, q1, q2, q3, q4, q5, q6, q7⟩
theorem TM.ints {k : Nat → ClassId} {κ : Nat → Option KD} {M : mM} {a : Nat} (h : TM k κ M) (ha : κ a = some .ints) : ∃ (n : Nat) (f : Nat → Int32), M a = some (.inl (k 0, n, .inl f)) ∧ n ≤ 64 := by
  obtain ⟨e, h1, h2⟩ := h a _ ha
  obtain ⟨n, f, rfl, q0⟩ := h2
  exact ⟨_, _, h1, q0⟩
theorem TM.longs {k : Nat → ClassId} {κ : Nat → Option KD} {M : mM} {a : Nat} (h : TM k κ M) (ha : κ a = some .longs) : ∃ f : Nat → Int64, M a = some (.inl (k 1, 60, .inr (.inl f))) := by
  obtain ⟨e, h1, h2⟩ := h a _ ha
  obtain ⟨f, rfl⟩ := h2
  exact ⟨_, h1⟩
theorem TM.outs {k : Nat → ClassId} {κ : Nat → Option KD} {M : mM} {a : Nat} (h : TM k κ M) (ha : κ a = some .outs) : ∃ f : Nat → Int64, M a = some (.inl (k 1, 1, .inr (.inl f))) := by
  obtain ⟨e, h1, h2⟩ := h a _ ha
  obtain ⟨f, rfl⟩ := h2
  exact ⟨_, h1⟩
theorem TM.rows {k : Nat → ClassId} {κ : Nat → Option KD} {M : mM} {a : Nat} (h : TM k κ M) (ha : κ a = some .rows) : ∃ g : Nat → Option Nat, M a = some (.inl (k 3, 60, .inr (.inr (.inr (.inr g))))) ∧ ∀ j a, g j = some a → κ a = some .node := by
  obtain ⟨e, h1, h2⟩ := h a _ ha
  obtain ⟨g, rfl, q0⟩ := h2
  exact ⟨_, h1, q0⟩
theorem TM.txns {k : Nat → ClassId} {κ : Nat → Option KD} {M : mM} {a : Nat} (h : TM k κ M) (ha : κ a = some .txns) : ∃ g : Nat → Option Nat, M a = some (.inl (k 4, 6, .inr (.inr (.inr (.inr g))))) ∧ ∀ j a, g j = some a → κ a = some .txn := by
  obtain ⟨e, h1, h2⟩ := h a _ ha
  obtain ⟨g, rfl, q0⟩ := h2
  exact ⟨_, h1, q0⟩
theorem TM.trees {k : Nat → ClassId} {κ : Nat → Option KD} {M : mM} {a : Nat} (h : TM k κ M) (ha : κ a = some .trees) : ∃ g : Nat → Option Nat, M a = some (.inl (k 5, 3, .inr (.inr (.inr (.inr g))))) ∧ ∀ j a, g j = some a → κ a = some .tree := by
  obtain ⟨e, h1, h2⟩ := h a _ ha
  obtain ⟨g, rfl, q0⟩ := h2
  exact ⟨_, h1, q0⟩
theorem wf.mono {k : Nat → ClassId} {κ κ1 : Nat → Option KD} {d : Nat} {e : va_E} (h : wf k κ d e) (hk : ∀ a d, κ a = some d → κ1 a = some d) : wf k κ1 d e := by
  rcases (show d = 0 ∨ d = 1 ∨ d = 2 ∨ d = 3 ∨ d = 4 ∨ d = 5 ∨ d = 6 ∨ d = 7 ∨ d = 8 ∨ d = 9 ∨ d = 10 ∨ d = 11 ∨ 12 ≤ d by omega) with rfl | rfl | rfl | rfl | rfl | rfl | rfl | rfl | rfl | rfl | rfl | rfl | hd
  · obtain ⟨v0, v1, q⟩ := h; exact ⟨v0, v1, q⟩
  · obtain ⟨v0, v1, v2, v3, v4, v5, q, q0, q1⟩ := h; exact ⟨v0, v1, v2, v3, v4, v5, q, hk _ _ q0, hk _ _ q1⟩
  · obtain ⟨v0, v1, v2, v3, q, q0, q1⟩ := h; exact ⟨v0, v1, v2, v3, q, q0, hk _ _ q1⟩
  · obtain ⟨v0, v1, v2, v3, v4, v5, v6, q, q0, q1, q2, q3, q4, q5⟩ := h; exact ⟨v0, v1, v2, v3, v4, v5, v6, q, hk _ _ q0, hk _ _ q1, hk _ _ q2, hk _ _ q3, hk _ _ q4, q5⟩
  · obtain ⟨v0, v1, q, q0, q1⟩ := h; exact ⟨v0, v1, q, hk _ _ q0, q1⟩
  · obtain ⟨v0, v1, v2, v3, v4, v5, v6, v7, v8, v9, v10, q, q0, q1, q2, q3, q4, q5, q6, q7⟩ := h; exact ⟨v0, v1, v2, v3, v4, v5, v6, v7, v8, v9, v10, q, hk _ _ q0, hk _ _ q1, hk _ _ q2, hk _ _ q3, hk _ _ q4, hk _ _ q5, q6, q7⟩
  · obtain ⟨n, f, q, q0⟩ := h; exact ⟨n, f, q, q0⟩
  · obtain ⟨f, q⟩ := h; exact ⟨f, q⟩
  · obtain ⟨f, q⟩ := h; exact ⟨f, q⟩
  · obtain ⟨g, q, q0⟩ := h; exact ⟨g, q, fun j a ha => hk _ _ (q0 j a ha)⟩
  · obtain ⟨g, q, q0⟩ := h; exact ⟨g, q, fun j a ha => hk _ _ (q0 j a ha)⟩
  · obtain ⟨g, q, q0⟩ := h; exact ⟨g, q, fun j a ha => hk _ _ (q0 j a ha)⟩
  · obtain ⟨n, rfl⟩ : ∃ n, d = n + 12 := ⟨d - 12, by omega⟩
    exact h.elim
theorem kx.refl (κ : Nat → Option KD) (M : mM) : kx κ M κ M := ⟨fun _ _ _ => rfl, fun _ _ h _ => h⟩
theorem TM.put {k : Nat → ClassId} {κ : Nat → Option KD} {M : mM} {a : Nat} {d : KD} {e : va_E} (h : TM k κ M) (ha : κ a = some d) (hw : wf k κ d e) : TM k κ (mu M a e) := fun b d2 hb => by
  by_cases hba : b = a
  · subst hba
    have : d2 = d := Option.some.inj (hb.symm.trans ha)
    subst this
    exact ⟨e, mu_self _ _ _, hw⟩
  · obtain ⟨e2, h1, h2⟩ := h b d2 hb
    exact ⟨e2, (mu_ne hba).trans h1, h2⟩
theorem kx.put {κ κ1 : Nat → Option KD} {M M1 : mM} {a : Nat} {d : KD} {e : va_E} (h : kx κ M κ1 M1) (ha : κ1 a = some d) : kx κ M κ1 (mu M1 a e) := ⟨h.1, fun b e2 hb hn => by
  have hba : b ≠ a := fun q => by
    subst q
    rw [h.1 b e2 hb, hn] at ha
    cases ha
  exact (mu_ne hba).trans (h.2 b e2 hb hn)⟩
theorem TM.no {k : Nat → ClassId} {κ : Nat → Option KD} {M : mM} {q : Nat} (h : TM k κ M) (hq : M q = none) : κ q = none := by
  cases hk : κ q with
  | none => rfl
  | some d => obtain ⟨e, h1, -⟩ := h q d hk; rw [hq] at h1; cases h1
theorem TM.new0 {k : Nat → ClassId} {κ : Nat → Option KD} {M : mM} {q : Nat} {e : va_E} (h : TM k κ M) (hq : M q = none) : TM k κ (mu M q e) := fun b d hb => by
  obtain ⟨e2, h1, h2⟩ := h b d hb
  exact ⟨e2, (mu_ne (m_fr hq h1)).trans h1, h2⟩
theorem kx.new0 {κ κ1 : Nat → Option KD} {M M1 : mM} {q : Nat} {e : va_E} (h : kx κ M κ1 M1) (hq : M1 q = none) : kx κ M κ1 (mu M1 q e) := ⟨h.1, fun b e2 hb hn => (mu_ne (m_fr hq (h.2 b e2 hb hn))).trans (h.2 b e2 hb hn)⟩
theorem kx.k {k : Nat → ClassId} {κ κ1 : Nat → Option KD} {M M1 : mM} (h : kx κ M κ1 M1) (hT : TM k κ M) {a : Nat} {d : KD} (ha : κ a = some d) : κ1 a = some d := by
  obtain ⟨e, h1, -⟩ := hT a d ha
  rw [h.1 a e h1]; exact ha
theorem kx.no {k : Nat → ClassId} {κ κ1 : Nat → Option KD} {M M1 : mM} (h : kx κ M κ1 M1) (hT : TM k κ M) (hT1 : TM k κ1 M1) {q : Nat} (hq : M1 q = none) : M q = none := by
  cases hM : M q with
  | none => rfl
  | some e =>
    cases hk : κ q with
    | none => rw [h.2 q e hM hk] at hq; cases hq
    | some d => obtain ⟨e2, h1, -⟩ := hT1 q d (h.k hT hk); rw [hq] at h1; cases h1
theorem kx.trans {k : Nat → ClassId} {κ κ1 κ2 : Nat → Option KD} {M M1 M2 : mM} (h : kx κ M κ1 M1) (hT : TM k κ M) (hT1 : TM k κ1 M1) (h2 : kx κ1 M1 κ2 M2) : kx κ M κ2 M2 := ⟨fun a e ha => by
  cases hk : κ a with
  | none => rw [h2.1 a e (h.2 a e ha hk), h.1 a e ha, hk]
  | some d =>
    have h3 := h.k hT hk
    obtain ⟨e2, h4, -⟩ := hT1 a d h3
    rw [h2.1 a e2 h4, h3], fun a e ha hn => h2.2 a e (h.2 a e ha hn) (by rw [h.1 a e ha]; exact hn)⟩
/-- an address of no kind gets one -/
def kup (κ : Nat → Option KD) (q : Nat) (d : KD) : Nat → Option KD := fun a => if a = q then some d else κ a
theorem kup_self (κ : Nat → Option KD) (q : Nat) (d : KD) : kup κ q d q = some d := if_pos rfl
theorem kup_old {κ : Nat → Option KD} {q : Nat} {d d2 : KD} {a : Nat} (hq : κ q = none) (ha : κ a = some d2) : kup κ q d a = some d2 := by
  have : a ≠ q := fun h => by subst h; rw [hq] at ha; cases ha
  exact (if_neg this).trans ha
theorem TM.adopt {k : Nat → ClassId} {κ : Nat → Option KD} {M : mM} {q : Nat} {d : KD} {e : va_E} (h : TM k κ M) (hq : κ q = none) (hM : M q = some e) (hw : wf k (kup κ q d) d e) : TM k (kup κ q d) M := fun b d2 hb => by
  by_cases hbq : b = q
  · subst hbq
    rw [kup_self] at hb
    cases hb
    exact ⟨e, hM, hw⟩
  · have hb2 : κ b = some d2 := (if_neg hbq).symm.trans hb
    obtain ⟨e2, h1, h2⟩ := h b d2 hb2
    exact ⟨e2, h1, h2.mono (fun a d3 ha => kup_old hq ha)⟩
theorem kx.adopt {κ κ1 : Nat → Option KD} {M M1 : mM} {q : Nat} {d : KD} (h : kx κ M κ1 M1) (hq : M q = none) : kx κ M (kup κ1 q d) M1 := ⟨fun a e ha => by
  have : a ≠ q := m_fr hq ha
  exact (if_neg this).trans (h.1 a e ha), h.2⟩
theorem kd_ne {κ : Nat → Option KD} {a b : Nat} {d d2 : KD} (ha : κ a = some d) (hb : κ b = some d2) (h : d ≠ d2) : a ≠ b := fun q => by
  subst q
  exact h (Option.some.inj (ha.symm.trans hb))
def mdel (M : mM) (q : Nat) : mM := fun a => if a = q then none else M a
theorem del_some {M : mM} {q a : Nat} {e : va_E} (h : mdel M q a = some e) : a ≠ q ∧ M a = some e := by
  unfold mdel at h
  by_cases ha : a = q
  · rw [if_pos ha] at h; cases h
  · rw [if_neg ha] at h; exact ⟨ha, h⟩
theorem del_of {M : mM} {q a : Nat} {e : va_E} (hne : a ≠ q) (h : M a = some e) : mdel M q a = some e := (if_neg hne).trans h
theorem TM.del {k : Nat → ClassId} {κ : Nat → Option KD} {M : mM} {q : Nat} (h : TM k κ M) (hq : κ q = none) : TM k κ (mdel M q) := fun a d ha => by
  obtain ⟨e, h1, h2⟩ := h a d ha
  exact ⟨e, del_of (fun q9 => by rw [q9, hq] at ha; cases ha) h1, h2⟩
theorem kx.del0 (κ : Nat → Option KD) (M : mM) (q : Nat) : kx κ (mdel M q) κ M := ⟨fun _ _ _ => rfl, fun a e h _ => (del_some h).2⟩
theorem kx.kD {k : Nat → ClassId} {κ κ1 : Nat → Option KD} {M M1 : mM} {q : Nat} (h : kx κ (mdel M q) κ1 M1) (hT : TM k κ M) (hq : κ q = none) {a : Nat} {d : KD} (ha : κ a = some d) : κ1 a = some d := h.k (hT.del hq) ha
theorem kx.transD {k : Nat → ClassId} {κ κ1 κ2 : Nat → Option KD} {M M1 M2 : mM} {q : Nat} (h : kx κ M κ1 M1) (hT : TM k κ M) (hT1 : TM k κ1 M1) (hq : κ1 q = none) (hz : M q = none) (h2 : kx κ1 (mdel M1 q) κ2 M2) : kx κ M κ2 M2 := ⟨fun a e ha => by
  cases hk : κ a with
  | none => rw [h2.1 a e (del_of (m_fr hz ha) (h.2 a e ha hk)), h.1 a e ha, hk]
  | some d =>
    have h3 := h.k hT hk
    obtain ⟨e2, h4, -⟩ := hT1 a d h3
    rw [h2.1 a e2 (del_of (fun q9 => by rw [q9, hq] at h3; cases h3) h4), h3], fun a e ha hn => h2.2 a e (del_of (m_fr hz ha) (h.2 a e ha hn)) (by rw [h.1 a e ha]; exact hn)⟩
theorem nI_up {j : Nat} {b : Int32} (hj : j < 2147483648) (h : ¬ b ≤ nI j) : j + 1 < 2147483648 := by
  rcases Nat.lt_or_ge (j + 1) 2147483648 with q | q
  · exact q
  · have : j = 2147483647 := by omega
    subst this
    exact absurd (Int32.le_iff_toInt_le.mpr (by have := b.toInt_lt; have h2 : (nI 2147483647).toInt = 2147483647 := by decide
                                                omega)) h
theorem nI_up2 {j : Nat} {b : Int32} (hb : b < nI 2147483647) (hj : j < 2147483648) (h : ¬ b < nI j) : j + 1 < 2147483648 := by
  rcases Nat.lt_or_ge (j + 1) 2147483648 with q | q
  · exact q
  · have : j = 2147483647 := by omega
    subst this
    exact absurd hb h
theorem sz_pos {n : Nat} (h : ¬ (nI n - 1) < 0) : 1 ≤ n := Nat.pos_of_ne_zero fun q => h (by subst q; decide)
theorem mx_0 (x : Int32) : ∃ c, c < 2147483648 ∧ (if x < 0 then 0 else x) = nI c := by
  by_cases h : x < 0
  · exact ⟨0, by decide, by rw [if_pos h]; rfl⟩
  · have h1 : 0 ≤ x.toInt := by
      rcases Int.lt_or_le x.toInt 0 with q | q
      · exact absurd (Int32.lt_iff_toInt_lt.mpr q) h
      · exact q
    have h2 := x.toInt_lt
    refine ⟨x.toInt.toNat, by omega, ?_⟩
    rw [if_neg h]
    apply Int32.toInt_inj.mp
    rw [show nI x.toInt.toNat = Int32.ofNat x.toInt.toNat from rfl, Int32.toInt_ofNat_of_lt (by omega)]
    omega
theorem nI_ltn {i n : Nat} (hi : i < 2147483648) (hn : n < 2147483648) (h : ¬ nI n ≤ nI i) : i < n := Nat.lt_of_not_le fun q => h (nI_le q (by omega))

