/-! What stays of nodes and trees when other cells change; where an id is. -/
/-- no node's cell, no array of a node -/
def other (k : Nat → ClassId) (e : va_E) : Prop := (∀ fs, e ≠ .inr (2, fs)) ∧ ∀ n f, e ≠ .inl (k 0, n, .inl f)
theorem other_tree (k : Nat → ClassId) (fs : List Value) : other k (.inr (4, fs)) := ⟨fun _ h => (by cases h), fun _ _ h => (by cases h)⟩
theorem other_row (k : Nat → ClassId) (c : ClassId) (n : Nat) (g : Nat → Option Nat) : other k (.inl (c, n, .inr (.inr (.inr (.inr g))))) := ⟨fun _ h => (by cases h), fun _ _ h => (by cases h)⟩
theorem nodeAt_mu {k : Nat → ClassId} {M : mM} {a b : Nat} {v : NV} {e e' : va_E} (h : nodeAt k M a v) (hb : M b = some e) (ho : other k e) : nodeAt k (mu M b e') a v := by
  obtain ⟨h1, ca, h2, h3⟩ := h
  refine ⟨h1, ca, ?_, ?_⟩
  · rw [mu_ne (m_df hb h2 (ho.1 _))]; exact h2
  · rw [mu_ne (m_df hb h3 (ho.2 _ _))]; exact h3
theorem nodeAt_new {k : Nat → ClassId} {M : mM} {a q : Nat} {v : NV} {e' : va_E} (h : nodeAt k M a v) (hq : M q = none) : nodeAt k (mu M q e') a v := by
  obtain ⟨h1, ca, h2, h3⟩ := h
  exact ⟨h1, ca, by rw [mu_ne (m_fr hq h2)]; exact h2, by rw [mu_ne (m_fr hq h3)]; exact h3⟩
theorem rowsAt_mu {k : Nat → ClassId} {M : mM} {b : Nat} {g : Nat → Option Nat} {L : List NV} {e e' : va_E} (h : rowsAt k M g L) (hb : M b = some e) (ho : other k e) : rowsAt k (mu M b e') g L := fun j v hv => by
  obtain ⟨a, h1, h2⟩ := h j v hv
  exact ⟨a, h1, nodeAt_mu h2 hb ho⟩
theorem rowsAt_new {k : Nat → ClassId} {M : mM} {q : Nat} {g : Nat → Option Nat} {L : List NV} {e' : va_E} (h : rowsAt k M g L) (hq : M q = none) : rowsAt k (mu M q e') g L := fun j v hv => by
  obtain ⟨a, h1, h2⟩ := h j v hv
  exact ⟨a, h1, nodeAt_new h2 hq⟩
theorem treeAt_mu {k : Nat → ClassId} {M : mM} {t na b : Nat} {g : Nat → Option Nat} {L : List NV} {e e' : va_E} (h : treeAt k M t na g L) (hb : M b = some e) (ho : other k e) (h1 : t ≠ b) (h2 : na ≠ b) : treeAt k (mu M b e') t na g L :=
  ⟨by rw [mu_ne h1]; exact h.1, by rw [mu_ne h2]; exact h.2.1, h.2.2.1, rowsAt_mu h.2.2.2 hb ho⟩
theorem treeAt_new {k : Nat → ClassId} {M : mM} {t na q : Nat} {g : Nat → Option Nat} {L : List NV} {e' : va_E} (h : treeAt k M t na g L) (hq : M q = none) : treeAt k (mu M q e') t na g L :=
  ⟨by rw [mu_ne (m_fr hq h.1)]; exact h.1, by rw [mu_ne (m_fr hq h.2.1)]; exact h.2.1, h.2.2.1, rowsAt_new h.2.2.2 hq⟩
theorem treeAt_ne {k : Nat → ClassId} {M : mM} {t na : Nat} {g : Nat → Option Nat} {L : List NV} (h : treeAt k M t na g L) : t ≠ na := (m_df h.1 h.2.1 (by intro h; cases h)).symm
/-- a tree with a node more -/
theorem treeAt_add {k : Nat → ClassId} {M : mM} {t na a : Nat} {g : Nat → Option Nat} {L : List NV} {v : NV} (h : treeAt k M t na g L) (hv : nodeAt k M a v) (hl : L.length < 60) : treeAt k (addM k M t na L.length g a) t na (va_up g L.length (some a)) (L ++ [v]) := by
  have hne := treeAt_ne h
  unfold addM
  rw [if_pos hl]
  have hM1 : (mu M na (.inl (k 3, 60, .inr (.inr (.inr (.inr (va_up g L.length (some a)))))))) t = some (.inr (4, [.ref na, .int (nI L.length)])) := by rw [mu_ne hne]; exact h.1
  refine ⟨by rw [mu_self, List.length_append]; rfl, by rw [mu_ne hne.symm, mu_self], by rw [List.length_append]; exact hl, fun j w hw => ?_⟩
  by_cases hj : j < L.length
  · rw [List.getElem?_append_left hj] at hw
    obtain ⟨b, h1, h2⟩ := h.2.2.2 j w hw
    exact ⟨b, by rw [va_up_ne _ _ (Nat.ne_of_lt hj)]; exact h1, nodeAt_mu (nodeAt_mu h2 h.2.1 (other_row _ _ _ _)) hM1 (other_tree _ _)⟩
  · have hj2 : j < (L ++ [v]).length := (List.getElem?_eq_some_iff.mp hw).1
    have hj3 : j = L.length := by rw [List.length_append] at hj2; simp at hj2; omega
    subst hj3
    have hw2 : w = v := by simpa using hw.symm
    subst hw2
    exact ⟨a, va_up_self _ _ _, nodeAt_mu (nodeAt_mu hv h.2.1 (other_row _ _ _ _)) hM1 (other_tree _ _)⟩
/-- a tree in which one place holds another node -/
theorem treeAt_set {k : Nat → ClassId} {M : mM} {t na a : Nat} {g : Nat → Option Nat} {L : List NV} {v : NV} (h : treeAt k M t na g L) (hv : nodeAt k M a v) {i : Nat} (hi : i < L.length) :
    treeAt k (mu M na (.inl (k 3, 60, .inr (.inr (.inr (.inr (va_up g i (some a)))))))) t na (va_up g i (some a)) (L.set i v) := by
  have hne := treeAt_ne h
  refine ⟨by rw [mu_ne hne, List.length_set]; exact h.1, mu_self _ _ _, by rw [List.length_set]; exact h.2.2.1, fun j w hw => ?_⟩
  by_cases hj : i = j
  · subst hj
    rw [List.getElem?_set_self hi] at hw
    cases hw
    exact ⟨a, va_up_self _ _ _, nodeAt_mu hv h.2.1 (other_row _ _ _ _)⟩
  · rw [List.getElem?_set_ne hj] at hw
    obtain ⟨b, h1, h2⟩ := h.2.2.2 j w hw
    exact ⟨b, by rw [va_up_ne _ _ (Ne.symm hj)]; exact h1, nodeAt_mu h2 h.2.1 (other_row _ _ _ _)⟩
theorem placeFrom_cases (id : Int32) : ∀ (L : List NV) (i : Nat), i + L.length < 2 ^ 31 → (placeFrom id L i = -1 ∧ ∀ (j : Nat) (v : NV), L[j]? = some v → v.1 ≠ id) ∨ ∃ (j : Nat) (v : NV), j < L.length ∧ placeFrom id L i = nI (i + j) ∧ L[j]? = some v ∧ v.1 = id ∧ ∀ (j' : Nat) (v' : NV), j' < j → L[j']? = some v' → v'.1 ≠ id
  | [], i, _ => Or.inl ⟨rfl, fun j v h => by simp at h⟩
  | w :: L, i, hb => by
    by_cases hw : w.1 = id
    · exact Or.inr ⟨0, w, by simp, by simp [placeFrom, hw], rfl, hw, fun j' v' h => absurd h (Nat.not_lt_zero _)⟩
    · have hlen : (w :: L).length = L.length + 1 := rfl
      rcases placeFrom_cases id L (i + 1) (by omega) with ⟨h1, h2⟩ | ⟨j, v, h1, h2, h3, h4, h5⟩
      · refine Or.inl ⟨by simp [placeFrom, hw, h1], fun j v h => ?_⟩
        cases j with
        | zero => simp at h; rw [← h]; exact hw
        | succ j => exact h2 j v (by simpa using h)
      · refine Or.inr ⟨j + 1, v, by omega, by rw [placeFrom, if_neg hw, h2]; congr 1; omega, by simpa using h3, h4, fun j' v' hj h => ?_⟩
        cases j' with
        | zero => simp at h; rw [← h]; exact hw
        | succ j' => exact h5 j' v' (by omega) (by simpa using h)
/-- the node of an id in a tree -/
def lookL (id : Int32) (L : List NV) : Option NV := L.find? (fun v => v.1 == id)
theorem placeFrom_none {id : Int32} {L : List NV} (h : ∀ (j : Nat) (v : NV), L[j]? = some v → v.1 ≠ id) : lookL id L = none := by
  refine List.find?_eq_none.mpr fun v hv => ?_
  obtain ⟨j, hj⟩ := List.getElem?_of_mem hv
  simpa using h j v hj
theorem lookL_first {id : Int32} : ∀ {L : List NV} {j : Nat} {v : NV}, L[j]? = some v → v.1 = id → (∀ (j' : Nat) (v' : NV), j' < j → L[j']? = some v' → v'.1 ≠ id) → lookL id L = some v
  | [], j, v, h, _, _ => by simp at h
  | w :: L, 0, v, h, hid, _ => by
    simp at h
    subst h
    simp [lookL, hid]
  | w :: L, j + 1, v, h, hid, hf => by
    have hw : w.1 ≠ id := hf 0 w (by omega) rfl
    have := lookL_first (L := L) (j := j) (v := v) (by simpa using h) hid (fun j' v' h1 h2 => hf (j' + 1) v' (by omega) (by simpa using h2))
    simp only [lookL, List.find?_cons] at this ⊢
    have hb : (w.1 == id) = false := by simpa using hw
    rw [hb]
    exact this
/-- what Tree.find finds -/
theorem findA_cases {k : Nat → ClassId} {M : mM} {t na : Nat} {g : Nat → Option Nat} {L : List NV} (id : Int32) (h : treeAt k M t na g L) :
    (findA id g L = none ∧ lookL id L = none ∧ placeFrom id L 0 = -1) ∨ ∃ (j : Nat) (v : NV) (a : Nat), j < L.length ∧ L[j]? = some v ∧ v.1 = id ∧ lookL id L = some v ∧ placeFrom id L 0 = nI j ∧ findA id g L = some a ∧ g j = some a ∧ nodeAt k M a v := by
  have h6 := h.2.2.1
  rcases placeFrom_cases id L 0 (by omega) with ⟨h1, h2⟩ | ⟨j, v, h1, h2, h3, h4, h5⟩
  · exact Or.inl ⟨by unfold findA; rw [h1]; rfl, placeFrom_none h2, h1⟩
  · rw [Nat.zero_add] at h2
    obtain ⟨a, g1, g2⟩ := h.2.2.2 j v h3
    refine Or.inr ⟨j, v, a, h1, h3, h4, lookL_first h3 h4 h5, h2, ?_, g1, g2⟩
    unfold findA atA
    rw [h2, if_neg (nI_pos (by omega)), if_neg (fun q => absurd ((nI_leI (by omega) (by omega)).mp q) (by omega)), nI_clamp (by omega)]
    exact g1
