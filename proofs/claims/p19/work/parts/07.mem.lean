/-! THE MEMORY: every cell of the class's and the reference's objects, by its address: a partial function. One world for both; no frames to cut and join. -/
abbrev mM : Type := Nat → Option va_E
def wm (ws : va_W) : mM := fun a => (ws.find? (fun q => q.1 == a)).map (fun q => q.2)
/-- the heap H holds the memory M, all of it in A -/
def mm (D : va_G) (A : Nat → Prop) (M : mM) (H : Heap) : Prop := ∃ ws : va_W, va_P D vwCl ws H ∧ va_D A ws ∧ wm ws = M
def mu (M : mM) (a : Nat) (e : va_E) : mM := va_up M a (some e)
theorem mu_self (M : mM) (a : Nat) (e : va_E) : mu M a e a = some e := va_up_self _ _ _
theorem mu_ne {M : mM} {a b : Nat} {e : va_E} (h : b ≠ a) : mu M a e b = M b := va_up_ne _ _ h
theorem mu_mu (M : mM) (a : Nat) (e e' : va_E) : mu (mu M a e) a e' = mu M a e' := by
  funext b
  by_cases h : b = a
  · subst h; rw [mu_self, mu_self]
  · rw [mu_ne h, mu_ne h, mu_ne h]
theorem mu_comm {M : mM} {a b : Nat} {e e' : va_E} (h : a ≠ b) : mu (mu M a e) b e' = mu (mu M b e') a e := by
  funext x
  by_cases h1 : x = a
  · subst h1; rw [mu_ne h, mu_self, mu_self]
  · by_cases h2 : x = b
    · subst h2; rw [mu_self, mu_ne h1, mu_self]
    · rw [mu_ne h2, mu_ne h1, mu_ne h1, mu_ne h2]
theorem mu_id {M : mM} {a : Nat} {e : va_E} (h : M a = some e) : mu M a e = M := by
  funext x
  by_cases h1 : x = a
  · subst h1; rw [mu_self, h]
  · rw [mu_ne h1]
theorem wm_get {ws : va_W} {a : Nat} {e : va_E} (h : wm ws a = some e) : ∃ k : Nat, ws[k]? = some (a, e) := by
  unfold wm at h
  cases hf : ws.find? (fun q => q.1 == a) with
  | none => rw [hf] at h; cases h
  | some q =>
    rw [hf] at h
    have h1 := List.find?_some hf
    have h2 := List.mem_of_find?_eq_some hf
    obtain ⟨k, hk⟩ := List.getElem?_of_mem h2
    obtain ⟨b, e'⟩ := q
    have hb : b = a := by simpa using h1
    have he : e' = e := Option.some.inj h
    subst hb; subst he
    exact ⟨k, hk⟩
theorem wm_of {A : Nat → Prop} {ws : va_W} (hD : va_D A ws) {k a : Nat} {e : va_E} (h : ws[k]? = some (a, e)) : wm ws a = some e := by
  cases hf : ws.find? (fun q => q.1 == a) with
  | none =>
    have h1 := List.find?_eq_none.mp hf (a, e) (List.mem_of_getElem? h)
    simp at h1
  | some q =>
    have h1 := List.find?_some hf
    obtain ⟨j, hj⟩ := List.getElem?_of_mem (List.mem_of_find?_eq_some hf)
    have hb : q.1 = a := by simpa using h1
    have hjk := hD.1 j k q (a, e) hj h hb
    subst hjk
    rw [hj] at h
    have h2 : q = (a, e) := Option.some.inj h
    unfold wm
    rw [hf, h2]
    rfl
theorem wm_none {ws : va_W} {a : Nat} (h : ∀ (k : Nat) (e : va_E), ws[k]? ≠ some (a, e)) : wm ws a = none := by
  cases hm : wm ws a with
  | none => rfl
  | some e => obtain ⟨k, hk⟩ := wm_get hm; exact absurd hk (h k e)
theorem wm_set {A : Nat → Prop} {ws : va_W} {k a : Nat} {e0 e : va_E} (hD : va_D A ws) (h : ws[k]? = some (a, e0)) : wm (ws.set k (a, e)) = mu (wm ws) a e := by
  have hD' : va_D A (ws.set k (a, e)) := hD.set h
  have hlt : k < ws.length := (List.getElem?_eq_some_iff.mp h).1
  funext b
  by_cases hb : b = a
  · subst hb
    rw [mu_self]
    exact wm_of hD' (k := k) (by rw [List.getElem?_set_self hlt])
  · rw [mu_ne hb]
    cases hm : wm ws b with
    | some e1 =>
      obtain ⟨j, hj⟩ := wm_get hm
      have hjk : k ≠ j := fun q => by
        subst q
        rw [h] at hj
        exact hb (congrArg Prod.fst (Option.some.inj hj)).symm
      exact wm_of hD' (k := j) (by rw [List.getElem?_set_ne hjk]; exact hj)
    | none =>
      refine wm_none fun j e1 hj => ?_
      by_cases hjk : k = j
      · subst hjk
        rw [List.getElem?_set_self hlt] at hj
        exact hb (congrArg Prod.fst (Option.some.inj hj)).symm
      · rw [List.getElem?_set_ne hjk] at hj
        rw [wm_of hD hj] at hm
        cases hm
theorem wm_push {A : Nat → Prop} {ws : va_W} {q : Nat} {e : va_E} (hD : va_D A (ws ++ [(q, e)])) : wm ws q = none ∧ wm (ws ++ [(q, e)]) = mu (wm ws) q e := by
  have hl : (ws ++ [(q, e)])[ws.length]? = some (q, e) := by simp
  have hD0 : va_D A ws := ⟨fun i j x y hi hj hxy => hD.1 i j x y (by rw [List.getElem?_append_left (List.getElem?_eq_some_iff.mp hi).1]; exact hi) (by rw [List.getElem?_append_left (List.getElem?_eq_some_iff.mp hj).1]; exact hj) hxy, fun k x hk => hD.2 k x (by rw [List.getElem?_append_left (List.getElem?_eq_some_iff.mp hk).1]; exact hk)⟩
  have hn : wm ws q = none := wm_none fun k e1 hk => by
    have hlt := (List.getElem?_eq_some_iff.mp hk).1
    have := hD.1 k ws.length (q, e1) (q, e) (by rw [List.getElem?_append_left hlt]; exact hk) hl rfl
    omega
  refine ⟨hn, ?_⟩
  funext b
  by_cases hb : b = q
  · subst hb
    rw [mu_self]
    exact wm_of hD hl
  · rw [mu_ne hb]
    cases hm : wm ws b with
    | some e1 =>
      obtain ⟨j, hj⟩ := wm_get hm
      exact wm_of hD (k := j) (by rw [List.getElem?_append_left (List.getElem?_eq_some_iff.mp hj).1]; exact hj)
    | none =>
      refine wm_none fun j e1 hj => ?_
      by_cases hjl : j < ws.length
      · rw [List.getElem?_append_left hjl] at hj
        rw [wm_of hD0 hj] at hm
        cases hm
      · have hj2 : j < (ws ++ [(q, e)]).length := (List.getElem?_eq_some_iff.mp hj).1
        have : j = ws.length := by simp at hj2; omega
        subst this
        rw [hl] at hj
        exact hb (congrArg Prod.fst (Option.some.inj hj)).symm
theorem mm.inA {D : va_G} {A : Nat → Prop} {M : mM} {H : Heap} (h : mm D A M H) {a : Nat} {e : va_E} (hM : M a = some e) : A a := by
  obtain ⟨ws, hP, hD, rfl⟩ := h
  obtain ⟨k, hk⟩ := wm_get hM
  exact hD.2 k _ hk
theorem mm.lt {D : va_G} {A : Nat → Prop} {M : mM} {H : Heap} (h : mm D A M H) {a : Nat} {e : va_E} (hM : M a = some e) : a < H.size := by
  obtain ⟨ws, hP, hD, rfl⟩ := h
  obtain ⟨k, hk⟩ := wm_get hM
  exact (hP k _ hk).lt
theorem mm.at {D : va_G} {A : Nat → Prop} {M : mM} {H : Heap} (h : mm D A M H) {a : Nat} {e : va_E} (hM : M a = some e) : va_at D vwCl (a, e) H := by
  obtain ⟨ws, hP, hD, rfl⟩ := h
  obtain ⟨k, hk⟩ := wm_get hM
  exact hP k _ hk
theorem mm.kept {D : va_G} {A : Nat → Prop} {M : mM} {H H1 : Heap} (h : mm D A M H) (hq : ∀ q : Nat, q < H.size → H1[q]? = H[q]?) : mm D A M H1 := by
  obtain ⟨ws, hP, hD, rfl⟩ := h
  exact ⟨ws, hP.kept (fun k x hx => hq x.1 ((hP k x hx).lt)), hD, rfl⟩
theorem mm.nil {D : va_G} {A : Nat → Prop} {H : Heap} : mm D A (fun _ => none) H := ⟨[], fun k q h => by simp at h, ⟨fun i j p q h => by simp at h, fun k q h => by simp at h⟩, by funext a; rfl⟩
