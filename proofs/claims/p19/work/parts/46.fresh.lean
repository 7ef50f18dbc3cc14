/-! A new object of the class: its cells. While it is made, some cells change yet: 'bad' ones; all others are kept. -/
def bad : va_E → Prop
  | .inl (_, n, _) => n = 6
  | .inr (c, fs) => c = 5 ∨ c = 1 ∨ fs.head? = some .null ∨ (c = 0 ∧ fs = [.int 0, .int 0])
def kq (M M' : mM) : Prop := ∀ (a : Nat) (e : va_E), ¬ bad e → M a = some e → M' a = some e
theorem kq.refl (M : mM) : kq M M := fun _ _ _ h => h
theorem kq.new {M M1 : mM} {q : Nat} {e : va_E} (hk : kq M M1) (hq : M1 q = none) : kq M (mu M1 q e) := fun a e' ha hM => by
  have h1 := hk a e' ha hM
  rw [mu_ne (m_fr hq h1)]; exact h1
theorem kq.upd {M M1 : mM} {a : Nat} {e0 e : va_E} (hk : kq M M1) (ha : M1 a = some e0) (hb : bad e0) : kq M (mu M1 a e) := fun b e' hb' hM => by
  have h1 := hk b e' hb' hM
  have h2 : b ≠ a := fun h => by subst h; rw [ha] at h1; exact hb' (Option.some.inj h1 ▸ hb)
  rw [mu_ne h2]; exact h1
theorem kq.made {M M1 : mM} {x : Nat} {e0 : va_E} (hk : kpx (fun a => a = x) M M1) (hx : M x = some e0) (hb : bad e0) : kq M M1 := fun a e ha hM => hk a e (fun h => by subst h; rw [hx] at hM; exact ha (Option.some.inj hM ▸ hb)) hM
theorem kpx.call {h : Nat → Prop} {M0 M M1 : mM} {x : Nat} (hk : kpx h M0 M) (h1 : kpx (fun a => a = x) M M1) (hn : M0 x = none) : kpx h M0 M1 := fun a e ha hM => h1 a e (m_fr hn hM) (hk a e ha hM)
theorem bad5 {fs : List Value} : bad (.inr (5, fs)) := Or.inl rfl
theorem badN {c : Nat} {fs : List Value} : bad (.inr (c, .null :: fs)) := Or.inr (Or.inr (Or.inl rfl))
theorem bad6 {c : ClassId} {g : Nat → Option Nat} : bad (.inl (c, 6, .inr (.inr (.inr (.inr g))))) := rfl
theorem bad00 : bad (.inr (0, [.int 0, .int 0])) := Or.inr (Or.inr (Or.inr ⟨rfl, rfl⟩))
theorem nlen_6 (v : NV) : nlen v ≠ 6 := by unfold nlen; split <;> decide
theorem nodeAt_kq {k : Nat → ClassId} {M M' : mM} {a : Nat} {v : NV} (hk : kq M M') (h : nodeAt k M a v) : nodeAt k M' a v := by
  obtain ⟨hd, ca, h1, h2⟩ := h
  exact ⟨hd, ca, hk _ _ (by simp [bad]) h1, hk _ _ (nlen_6 v) h2⟩
theorem treeAt_kq {k : Nat → ClassId} {M M' : mM} {t na : Nat} {g : Nat → Option Nat} {L : List NV} (hk : kq M M') (h : treeAt k M t na g L) : treeAt k M' t na g L :=
  ⟨hk _ _ (by simp [bad]) h.1, hk _ _ (by simp [bad]) h.2.1, h.2.2.1, fun j v hv => by obtain ⟨a, h1, h2⟩ := h.2.2.2 j v hv; exact ⟨a, h1, nodeAt_kq hk h2⟩⟩
abbrev L0 (k : Nat → ClassId) : va_E := .inl (k 1, 60, .inr (.inl (fun _ => 0)))
/-- a transaction that is not open, as it was made -/
def txF (k : Nat → ClassId) (M : mM) (tr tn a : Nat) : Prop := ∃ b v mk c r bn vn, M a = some (.inr (3, [.ref b, .ref v, .ref mk, .ref c, .ref r, .int 0, .int 0])) ∧ treeAt k M b bn (fun _ => none) [] ∧ treeAt k M v vn (fun _ => none) [] ∧ M c = some (L0 k) ∧ M r = some (L0 k) ∧ r ≠ c ∧ tr ≠ b ∧ tn ≠ bn ∧ tr ≠ v ∧ tn ≠ vn ∧ v ≠ b ∧ vn ≠ bn
theorem txF_kq {k : Nat → ClassId} {M M' : mM} {tr tn a : Nat} (hk : kq M M') (h : txF k M tr tn a) : txF k M' tr tn a := by
  obtain ⟨b, v, mk, c, r, bn, vn, h1, h2, h3, h4, h5, h6⟩ := h
  exact ⟨b, v, mk, c, r, bn, vn, hk _ _ (by simp [bad]) h1, treeAt_kq hk h2, treeAt_kq hk h3, hk _ _ (by simp [bad]) h4, hk _ _ (by simp [bad]) h5, h6⟩
/-- a transaction with another's tree as its view: what NONE stands for -/
def txO (k : Nat → ClassId) (M : mM) (tr a : Nat) : Prop := ∃ b mk c r bn, M a = some (.inr (3, [.ref b, .ref tr, .ref mk, .ref c, .ref r, .int 0, .int 0])) ∧ treeAt k M b bn (fun _ => none) [] ∧ M c = some (L0 k) ∧ M r = some (L0 k) ∧ r ≠ c
theorem txO_kq {k : Nat → ClassId} {M M' : mM} {tr a : Nat} (hk : kq M M') (h : txO k M tr a) : txO k M' tr a := by
  obtain ⟨b, mk, c, r, bn, h1, h2, h4, h5, h6⟩ := h
  exact ⟨b, mk, c, r, bn, hk _ _ (by simp [bad]) h1, treeAt_kq hk h2, hk _ _ (by simp [bad]) h4, hk _ _ (by simp [bad]) h5, h6⟩
abbrev rootV : NV := (1, 1, 0, fun _ => 0)
/-- a new object of the class -/
def cFr (k : Nat → ClassId) (M : mM) (o : Nat) : Prop := ∃ tr nx mg dk ts ou tn g0 gt, M o = some (.inr (5, [.ref tr, .ref nx, .ref mg, .ref dk, .ref ts, .ref ou, .int 1, .int 0, .int 0, .int 0, .int 0])) ∧ treeAt k M tr tn g0 [rootV] ∧ M dk = some (.inr (0, [.int 0, .int (-1)])) ∧ M ts = some (.inl (k 4, 6, .inr (.inr (.inr (.inr gt))))) ∧ (∀ j, j < 6 → ∃ a, gt j = some a ∧ txF k M tr tn a) ∧ txO k M tr ou
/-- behind Transaction(Tree()): a transaction as it was made -/
theorem txF_of {k : Nat → ClassId} {M M1 : mM} {tr tn x v vn : Nat} {g : Nat → Option Nat} {L : List NV} (hT : treeAt k M tr tn g L) (hV : treeAt k M v vn (fun _ => none) []) (h1 : tr ≠ v) (h2 : tn ≠ vn) (hq : kq M M1)
    (h : ∃ bs bn mk cr fr, (M bs = none ∧ M bn = none ∧ fr ≠ cr) ∧ M1 x = some (.inr (3, [.ref bs, .ref v, .ref mk, .ref cr, .ref fr, .int 0, .int 0])) ∧ treeAt k M1 bs bn (fun _ => none) [] ∧ M1 cr = some (.inl (k 1, 60, .inr (.inl (fun _ => 0)))) ∧ M1 fr = some (.inl (k 1, 60, .inr (.inl (fun _ => 0))))) : txF k M1 tr tn x := by
  obtain ⟨bs, bn, mk, cr, fr, ⟨h3, h4, h5⟩, h6, h7, h8, h9⟩ := h
  exact ⟨bs, v, mk, cr, fr, bn, vn, h6, h7, treeAt_kq hq hV, h8, h9, h5, m_fr h3 hT.1, m_fr h4 hT.2.1, h1, h2, m_fr h3 hV.1, m_fr h4 hV.2.1⟩
theorem txO_of {k : Nat → ClassId} {M M1 : mM} {tr x : Nat}
    (h : ∃ bs bn mk cr fr, (M bs = none ∧ M bn = none ∧ fr ≠ cr) ∧ M1 x = some (.inr (3, [.ref bs, .ref tr, .ref mk, .ref cr, .ref fr, .int 0, .int 0])) ∧ treeAt k M1 bs bn (fun _ => none) [] ∧ M1 cr = some (.inl (k 1, 60, .inr (.inl (fun _ => 0)))) ∧ M1 fr = some (.inl (k 1, 60, .inr (.inl (fun _ => 0))))) : txO k M1 tr x := by
  obtain ⟨bs, bn, mk, cr, fr, ⟨h3, h4, h5⟩, h6, h7, h8, h9⟩ := h
  exact ⟨bs, mk, cr, fr, bn, h6, h7, h8, h9, h5⟩
