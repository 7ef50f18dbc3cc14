/-! Contracts on a new object: weaker ones out of the general ones. -/
section IMP
variable {l : Launch} {y : MethodName} {ws : List Cond} {rm : Room} {D : va_G} {k : Nat → ClassId} {z : Nat} {av : List Value} {M : mM} {Ret Ret' : Option Value → mM → Prop} {Thr Thr' : String → mM → Prop}
theorem mC.imp (h : mC l y ws rm D k z av M Ret Thr) (h1 : ∀ v M', Ret v M' → Ret' v M') (h2 : ∀ E M', Thr E M' → Thr' E M') : mC l y ws rm D k z av M Ret' Thr' := by
  intro p e ha hc hk s m args below hf hap hp hK
  obtain ⟨n, o, a1, a2, a3, a4⟩ := h p e ha hc hk s m args below hf hap hp hK
  refine ⟨n, o, a1, a2, a3, ?_⟩
  rcases a4 with ⟨⟨⟨v, M', e1, e2, e3⟩, hF⟩, hL⟩ | ⟨q, e0, E, ce, L, ⟨⟨M', e2, e3⟩, hF⟩, hrest⟩
  · exact Or.inl ⟨⟨⟨v, M', e1, h1 _ _ e2, e3⟩, hF⟩, hL⟩
  · exact Or.inr ⟨q, e0, E, ce, L, ⟨⟨M', h2 _ _ e2, e3⟩, hF⟩, hrest⟩
theorem mK.imp (h : mK l y ws rm D k z av M Ret) (h1 : ∀ v M', Ret v M' → Ret' v M') : mK l y ws rm D k z av M Ret' := by
  intro p e ha hc hk s m args below hf hap hp hK
  obtain ⟨n, o, a1, a2, a3, a4⟩ := h p e ha hc hk s m args below hf hap hp hK
  refine ⟨n, o, a1, a2, a3, ?_⟩
  obtain ⟨⟨⟨v, M', e1, e2, e3⟩, hF⟩, hL⟩ := a4
  exact ⟨⟨⟨v, M', e1, h1 _ _ e2, e3⟩, hF⟩, hL⟩
end IMP
abbrev eIS : String := "java/lang/IllegalStateException"
abbrev eIA : String := "java/lang/IllegalArgumentException"
abbrev eNS : String := "java/util/NoSuchElementException"
abbrev eUO : String := "java/lang/UnsupportedOperationException"
abbrev eIO : String := "java/lang/IndexOutOfBoundsException"
/-- cells of the reference and of the law: the class's methods leave them -/
def mcell : va_E → Prop
  | .inl (_, n, _) => n ≠ 60
  | .inr (c, _) => c = 6
def kM (M M' : mM) : Prop := ∀ (a : Nat) (e : va_E), mcell e → M a = some e → M' a = some e
theorem kM.refl (M : mM) : kM M M := fun _ _ _ h => h
theorem kM.upd {M M1 : mM} {a : Nat} {e0 e : va_E} (hk : kM M M1) (ha : M1 a = some e0) (hb : ¬ mcell e0) : kM M (mu M1 a e) := fun b e' hb' hM => by
  have h1 := hk b e' hb' hM
  have h2 : b ≠ a := fun h => by subst h; rw [ha] at h1; exact hb (Option.some.inj h1 ▸ hb')
  rw [mu_ne h2]; exact h1
theorem cFr_xs {k : Nat → ClassId} {M : mM} {tr tn : Nat} {gt : Nat → Option Nat} (h : ∀ j, j < 6 → ∃ a, gt j = some a ∧ txF k M tr tn a) : ∃ (xa xb xv xm xc xr : Nat → Nat), (∀ j, j < 6 → gt j = some (xa j)) ∧ ∀ j, j < 6 → M (xa j) = some (.inr (3, [.ref (xb j), .ref (xv j), .ref (xm j), .ref (xc j), .ref (xr j), .int ((fun _ => (0 : Int32)) j), .int ((fun _ => (0 : Int32)) j)])) := by
  have h2 : ∀ j, ∃ q : Nat × Nat × Nat × Nat × Nat × Nat, j < 6 → gt j = some q.1 ∧ M q.1 = some (.inr (3, [.ref q.2.1, .ref q.2.2.1, .ref q.2.2.2.1, .ref q.2.2.2.2.1, .ref q.2.2.2.2.2, .int 0, .int 0])) := fun j => by
    by_cases hj : j < 6
    · obtain ⟨a, h1, b, v, mk, c, r, bn, vn, h3, -⟩ := h j hj
      exact ⟨(a, b, v, mk, c, r), fun _ => ⟨h1, h3⟩⟩
    · exact ⟨(0, 0, 0, 0, 0, 0), fun h => absurd h hj⟩
  obtain ⟨f, hf⟩ := Classical.skolem.mp h2
  exact ⟨fun j => (f j).1, fun j => (f j).2.1, fun j => (f j).2.2.1, fun j => (f j).2.2.2.1, fun j => (f j).2.2.2.2.1, fun j => (f j).2.2.2.2.2, fun j hj => (hf j hj).1, fun j hj => (hf j hj).2⟩
theorem F_opened (l : Launch) (hlt : l.stackTraces = false) (D : va_G) (k : Nat → ClassId) (z : Nat) (M : mM) (o : Nat) (hF : cFr k M o) (t : Int32) : mC l yX5_opened wsX5_opened ({ frames := 6, cells := 1, slots := 6, locals := 82 }) D k z [.ref o, .int t] M (fun _ _ => False) (fun E M' => E = eIS ∧ M' = M) := by
  obtain ⟨tr, nx, mg, dk, ts, ou, tn, g0, gt, hO, hT, hD, hTs, hXt, hOu⟩ := hF
  obtain ⟨xa, xb, xv, xm, xc, xr, hG, hXs⟩ := cFr_xs hXt
  refine (c_X5_opened l hlt D k z M o tr nx mg dk ts ou 1 0 0 0 0 hO xa xb xv xm xc xr (fun _ => 0) (fun _ => 0) gt hTs hG hXs t).imp ?_ ?_
  · rintro v M' ⟨j, ⟨-, -, -, h⟩, -⟩
    exact absurd rfl h
  · rintro E M' ⟨-, h1, h2⟩
    exact ⟨h1, h2⟩
theorem F_openedOrNone (l : Launch) (hlt : l.stackTraces = false) (D : va_G) (k : Nat → ClassId) (z : Nat) (M : mM) (o tr nx mg dk ts ou : Nat) (tn : Nat) (gt : Nat → Option Nat) (hO : M o = some (.inr (5, [.ref tr, .ref nx, .ref mg, .ref dk, .ref ts, .ref ou, .int 1, .int 0, .int 0, .int 0, .int 0]))) (hTs : M ts = some (.inl (k 4, 6, .inr (.inr (.inr (.inr gt)))))) (hXt : ∀ j, j < 6 → ∃ a, gt j = some a ∧ txF k M tr tn a) (t : Int32) : mC l yX5_openedOrNone wsX5_openedOrNone ({ frames := 7, cells := 1, slots := 6, locals := 104 }) D k z [.ref o, .int t] M (fun v M' => t = -1 ∧ v = some (.ref ou) ∧ M' = M) (fun E M' => t ≠ -1 ∧ E = eIS ∧ M' = M) := by
  obtain ⟨xa, xb, xv, xm, xc, xr, hG, hXs⟩ := cFr_xs hXt
  refine (c_X5_openedOrNone l hlt D k z M o tr nx mg dk ts ou 1 0 0 0 0 hO xa xb xv xm xc xr (fun _ => 0) (fun _ => 0) gt hTs hG hXs t).imp ?_ ?_
  · rintro v M' ⟨⟨h1, -, h2⟩ | ⟨-, j, ⟨-, -, -, h⟩, -⟩, h3⟩
    · exact ⟨h1, h2, h3⟩
    · exact absurd rfl h
  · rintro E M' ⟨⟨h0, -⟩, h1, h2⟩
    exact ⟨fun h => h0 ⟨h, rfl⟩, h1, h2⟩
/-! Paths in a tree of the root alone. -/
theorem dg_last {path : Int32} (h : isP path) (h0 : path ≠ 0) : (path >>> (nI (4 * 0) &&& 31)) &&& 15 ≠ 0 := by
  have e : path >>> (nI (4 * 0) &&& 31) = path := by
    rw [show (nI (4 * 0) &&& 31 : Int32) = 0 by decide]; simp
  rcases h.2.2 0 (by decide) with h1 | h1
  · exact absurd (e.symm.trans h1) h0
  · exact h1
theorem ndc_root (d : Int32) : ndc rootV d = 0 := by unfold ndc nd_cell; split <;> (try split) <;> rfl
theorem up_gone {path : Int32} (hd : (path >>> (nI (4 * 0) &&& 31)) &&& 15 ≠ 0) (f : Nat → Int64) : ∀ (n : Nat) (c : Option NV), (c = none ∨ c = some rootV) → upV [] [rootV] path (n + 1) c f = (none, f) := by
  intro n
  induction n with
  | zero =>
    intro c hc
    unfold upV
    rw [if_neg hd]
    rcases hc with rfl | rfl
    · rfl
    · show (if (1 : Int32) = 0 then _ else upV [] [rootV] path 0 (lookL (ndc rootV _) [rootV]) (lookF f [] rootV _)) = _
      rw [if_neg (by decide), ndc_root]; rfl
  | succ n ih =>
    intro c hc
    unfold upV
    split
    · exact ih c hc
    · rcases hc with rfl | rfl
      · exact ih none (Or.inl rfl)
      · show (if (1 : Int32) = 0 then _ else upV [] [rootV] path (n + 1) (lookL (ndc rootV _) [rootV]) (lookF f [] rootV _)) = _
        rw [if_neg (by decide), ndc_root]
        exact ih none (Or.inl rfl)
theorem up_root {path : Int32} (h : isP path) (h0 : path ≠ 0) (f : Nat → Int64) : upV [] [rootV] path 7 (lookL 1 [rootV]) f = (none, f) := up_gone (dg_last h h0) f 6 _ (Or.inr rfl)
theorem up_zero (f : Nat → Int64) : upV [] [rootV] 0 7 (lookL 1 [rootV]) f = (some rootV, f) := rfl
/-- what measuredFile throws on NONE -/
def mfX (path : Int32) (E : String) : Prop := (¬ isP path ∧ E = eIA) ∨ (isP path ∧ path ≠ 0 ∧ E = eNS) ∨ (isP path ∧ path = 0 ∧ E = eUO)
theorem F_measured (l : Launch) (hlt : l.stackTraces = false) (D : va_G) (k : Nat → ClassId) (z : Nat) (M : mM) (tr tn ou : Nat) (g0 : Nat → Option Nat) (hT : treeAt k M tr tn g0 [rootV]) (hU : txO k M tr ou) (path : Int32) : mC l yX5_measuredFile wsX5_measuredFile ({ frames := 7, cells := 2, slots := 12, locals := 102 }) D k z [.ref ou, .int path] M (fun _ _ => False) (fun E M' => mfX path E ∧ M' = M) := by
  obtain ⟨ob, om, oc, or9, obn, hU, hUb, hUc, hUr, hne⟩ := hU
  have hid : crM k M oc (fun _ => 0) = M := mu_id hUc
  refine (c_X5_measuredFile l hlt D k z M ou ob tr om oc or9 obn tn (fun _ => none) g0 [] [rootV] (fun _ => 0) (fun _ => 0) 0 0 hne hU hUb hT hUc hUr path).imp ?_ ?_
  · rintro v M' ⟨hp, a, w, h1, h2, -⟩
    by_cases h0 : path = 0
    · subst h0
      have : some rootV = some w := (congrArg Prod.fst (up_zero (fun _ => 0))).symm.trans h1
      cases this; exact absurd h2 (by decide)
    · have : (none : Option NV) = some w := (congrArg Prod.fst (up_root hp h0 (fun _ => 0))).symm.trans h1
      cases this
  · rintro E M' (⟨h1, h2, h3⟩ | ⟨hp, h1, h2, h3⟩ | ⟨hp, w, h1, h2, h3, h4⟩)
    · exact ⟨Or.inl ⟨h1, h2⟩, h3⟩
    · have h0 : path ≠ 0 := fun h0 => by
        subst h0
        have : some rootV = none := (congrArg Prod.fst (up_zero (fun _ => 0))).symm.trans h1
        cases this
      refine ⟨Or.inr (Or.inl ⟨hp, h0, h2⟩), ?_⟩
      rw [h3, show (upP [] [rootV] path (fun _ => 0)).2 = fun _ => 0 from congrArg Prod.snd (up_root hp h0 (fun _ => 0))]; exact hid
    · by_cases h0 : path = 0
      · refine ⟨Or.inr (Or.inr ⟨hp, h0, h3⟩), ?_⟩
        subst h0
        rw [h4, show (upP [] [rootV] 0 (fun _ => 0)).2 = fun _ => 0 from congrArg Prod.snd (up_zero (fun _ => 0))]; exact hid
      · have : (none : Option NV) = some w := (congrArg Prod.fst (up_root hp h0 (fun _ => 0))).symm.trans h1
        cases this
theorem F_lookUp (l : Launch) (D : va_G) (k : Nat → ClassId) (z : Nat) (M : mM) (tr tn ou : Nat) (g0 : Nat → Option Nat) (hT : treeAt k M tr tn g0 [rootV]) (hU : txO k M tr ou) (path : Int32) (hp : isP path) : mK l yX3_lookUp wsX3_lookUp ({ frames := 3, cells := 0, slots := 0, locals := 75 }) D k z [.ref ou, .int path] M (fun v M' => M' = M ∧ ((path = 0 ∧ ∃ a, v = some (.ref a) ∧ nodeAt k M a rootV) ∨ (path ≠ 0 ∧ v = some .null))) := by
  obtain ⟨ob, om, oc, or9, obn, hU, hUb, hUc, hUr, hne⟩ := hU
  have hid : crM k M oc (fun _ => 0) = M := mu_id hUc
  refine (c_X3_lookUp l D k z M ou ob tr om oc or9 obn tn (fun _ => none) g0 [] [rootV] (fun _ => 0) 0 0 hU hUb hT hUc path).imp ?_
  rintro v M' ⟨r, h1, h2, h3⟩
  by_cases h0 : path = 0
  · subst h0
    rw [up_zero] at h2 h3
    have h2 : M' = M := h2.trans hid
    subst h2
    rcases h3 with ⟨-, h3⟩ | ⟨a, w, h4, h5, h6⟩
    · cases h3
    · cases h5; subst h4
      exact ⟨rfl, Or.inl ⟨rfl, a, h1, h6⟩⟩
  · rw [up_root hp h0] at h2 h3
    have h2 : M' = M := h2.trans hid
    rcases h3 with ⟨h3, -⟩ | ⟨a, w, h4, h5, h6⟩
    · subst h3
      exact ⟨h2, Or.inr ⟨h0, h1⟩⟩
    · cases h5
theorem F_namesOf (l : Launch) (D : va_G) (k : Nat → ClassId) (z : Nat) (M : mM) (tr ou nd : Nat) (hU : txO k M tr ou) (hN : nodeAt k M nd rootV) : mK l yX3_namesOf wsX3_namesOf ({ frames := 1, cells := 0, slots := 0, locals := 24 }) D k z [.ref ou, .ref nd] M (fun v M' => v = some (.int 0) ∧ M' = M) := by
  obtain ⟨ob, om, oc, or9, obn, hU, hUb, hUc, hUr, hne⟩ := hU
  refine (c_X3_namesOf l D k z M ou ob tr om oc or9 obn nd (fun _ => none) [] (fun _ => 0) 0 0 rootV hU hUb hN hUr).imp ?_
  rintro v M' ⟨h1, h2⟩
  exact ⟨h1.trans (by decide), h2.trans (mu_id hUr)⟩
