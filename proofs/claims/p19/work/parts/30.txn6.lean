theorem treeAt_by {k : Nat → ClassId} {M : mM} {t na o oa : Nat} {g go g2 : Nat → Option Nat} {L L2 : List NV} (h : treeAt k M t na g L) (ho : treeAt k M o oa g2 L2) (h1 : o ≠ t) (h2 : oa ≠ na) (n : Nat) : treeAt k (copyM k M t na g go n) o oa g2 L2 :=
  treeAt_mu (treeAt_mu ho h.2.1 (other_row _ _ _ _) (m_df h.2.1 ho.1 (by intro h; cases h)) h2) ((mu_ne (treeAt_ne h)).trans h.1) (other_tree _ _) h1 (m_df h.1 ho.2.1 (by intro h; cases h))
theorem long_copy {k : Nat → ClassId} {M : mM} {t na c n : Nat} {g go : Nat → Option Nat} {L : List NV} {f : Nat → Int64} (h : treeAt k M t na g L) (hc : M c = some (.inl (k 1, 60, .inr (.inl f)))) : copyM k M t na g go n c = some (.inl (k 1, 60, .inr (.inl f))) :=
  (mu_ne (m_df h.1 hc (by intro h; cases h))).trans ((mu_ne (m_df h.2.1 hc (by intro h; simp at h))).trans hc)

set_option maxHeartbeats 4000000 in
set_option maxRecDepth 100000 in
theorem c_X3_start (l : Launch) (D : va_G) (k : Nat → ClassId) (z : Nat) (M : mM) (x bs vw mk cr fr bn vn t tn : Nat) (gb gv gt : Nat → Option Nat) (Lb Lv Lt : List NV) (fc ff : Nat → Int64) (op md : Int32) (hcf : fr ≠ cr) (h1 : t ≠ bs) (h2 : tn ≠ bn) (h3 : t ≠ vw) (h4 : tn ≠ vn) (h5 : vw ≠ bs) (h6 : vn ≠ bn) (hX : M x = some (.inr (3, [.ref bs, .ref vw, .ref mk, .ref cr, .ref fr, .int op, .int md]))) (hB : treeAt k M bs bn gb Lb) (hV : treeAt k M vw vn gv Lv) (hT : treeAt k M t tn gt Lt) (hC : M cr = some (.inl (k 1, 60, .inr (.inl fc)))) (hF : M fr = some (.inl (k 1, 60, .inr (.inl ff)))) : mK l yX3_start wsX3_start ({ frames := 2, cells := 0, slots := 0, locals := 50 }) D k z [.ref x, .ref t] M (fun v M' => v = none ∧ M' = mu (crM k (crM k (copyM k (copyM k M bs bn gb gt Lt.length) vw vn gv gt Lt.length) cr (fillF fc 0 60)) fr (fillF ff 0 60)) x (.inr (3, [.ref bs, .ref vw, .ref mk, .ref cr, .ref fr, .int 1, .int 0]))) := by
  refine Met.ofW (cc := cX3_start) (maxL := 2) (ret := none) (by decide) rfl ?_
  intro p e s m args below meth c s₁ B hml hv
  obtain ⟨rfl, hz, hcx, hm⟩ := hv
  have hx := B.exec
  have hb := B.bytes
  have hr := B.returns
  have hts := atoms_spec (ws := wsX3_start) B.pre
  have hown : s.vm.findClass RX3 = some m.cls := findClass_of_methodNamed B.named
  have hlocks := B.notSynchronized
  have hK := hcx.1
  have hS : va_S (AZ z) s.heap s.heap [] := va_S.rf
  have hA : ∀ q, s.heap.size ≤ q → AZ z q := fun q h => Nat.le_trans hz h
  have hl := lv_entry ([.ref x, .ref t]) (n := 2) (Nat.le_of_ble_eq_true rfl)
  rw [lg_entry_eq]
  generalize (lg_sl ([.ref x, .ref t]) ++ List.replicate (2 - (lg_sl ([.ref x, .ref t])).length) Slot.unset).toArray = ls at hl ⊢
  have hl : lv_has ls 2 [(0, .ref x), (1, .ref t)] := hl
  have f12 := hts (.fieldLink RX3 12 "CommitTree$Transaction" "base" "LCommitTree$Tree;") (by decide +kernel)
  have f22 := hts (.fieldLink RX3 22 "CommitTree$Transaction" "cellsRead" "[J") (by decide +kernel)
  have f26 := hts (.fieldLink RX3 26 "CommitTree$Transaction" "factsRead" "[J") (by decide +kernel)
  have f29 := hts (.fieldLink RX3 29 "CommitTree$Transaction" "open" "Z") (by decide +kernel)
  have f33 := hts (.fieldLink RX3 33 "CommitTree$Transaction" "marked" "I") (by decide +kernel)
  have f37 := hts (.fieldLink RX3 37 "CommitTree$Transaction" "view" "LCommitTree$Tree;") (by decide +kernel)
  have wX3 : ∀ w ∈ wsX30, w ∈ wsX3_start := by decide +kernel
  refine lv_aload_n hx hb dX3_start_0 rfl (lv_at hl 0 rfl) ?_
  refine m_get (T := TX3) (N := 7) (ci := 3) (v := .ref bs) hx hb hts wX3 hown hK hm hX rfl 0 (by decide) f12 (fun _ h9 => h9) rfl dX3_start_1 ?_
  refine lv_aload_n hx hb dX3_start_4 rfl (lv_at hl 1 rfl) ?_
  refine m_kV (As := [.ref t]) (rest := []) (rm := { frames := 1, cells := 0, slots := 0, locals := 24 }) ⟨hx, hb, hml, hown, hts⟩ (c_X4_copyFrom l D k z _ bs bn t tn gb gt Lb Lt h1 h2 hB hT) (cwV 1 hts gX3_start_X4_copyFrom rfl rfl rfl (by decide +kernel) ⟨Nat.le_of_ble_eq_true rfl, Nat.le_of_ble_eq_true rfl⟩) (m_recv hK hm (q := (RX4, TX4, 2)) rfl hB.1) hz hcx hm hS rfl hl.1 rfl (Nat.le_of_ble_eq_true rfl) dX3_start_5 ⟨Nat.le_of_ble_eq_true rfl, Nat.le_of_ble_eq_true rfl⟩ (fun v M1 H locs hv hm hS => ?_)
  obtain ⟨rfl, hM1⟩ := hv
  rw [hM1] at hm
  have hX1 : (copyM k M bs bn gb gt Lt.length) x = _ := obj_copy (by decide) hB hX
  have hV1 : treeAt k (copyM k M bs bn gb gt Lt.length) vw vn gv Lv := treeAt_by hB hV h5 h6 _
  have hT1 : treeAt k (copyM k M bs bn gb gt Lt.length) t tn gt Lt := treeAt_by hB hT h1 h2 _
  refine W.eq (g2 := F0 m 8 ls []) rfl ?_
  refine W.widen (k := 0) (n := 0) (Nat.le_of_ble_eq_true rfl) (Nat.le_of_ble_eq_true rfl) ?_
  have hm : mm D (AZ z) (copyM k M bs bn gb gt Lt.length) H := hm
  refine lv_aload_n hx hb dX3_start_8 rfl (lv_at hl 0 rfl) ?_
  refine m_get (T := TX3) (N := 7) (ci := 3) (v := .ref vw) hx hb hts wX3 hown hK hm hX1 rfl 1 (by decide) f37 (fun _ h9 => h9) rfl dX3_start_9 ?_
  refine lv_aload_n hx hb dX3_start_12 rfl (lv_at hl 1 rfl) ?_
  refine m_kV (As := [.ref t]) (rest := []) (rm := { frames := 1, cells := 0, slots := 0, locals := 24 }) ⟨hx, hb, hml, hown, hts⟩ (c_X4_copyFrom l D k z _ vw vn t tn gv gt Lv Lt h3 h4 hV1 hT1) (cwV 1 hts gX3_start_X4_copyFrom rfl rfl rfl (by decide +kernel) ⟨Nat.le_of_ble_eq_true rfl, Nat.le_of_ble_eq_true rfl⟩) (m_recv hK hm (q := (RX4, TX4, 2)) rfl hV1.1) hz hcx hm hS rfl hl.1 rfl (Nat.le_of_ble_eq_true rfl) dX3_start_13 ⟨Nat.le_of_ble_eq_true rfl, Nat.le_of_ble_eq_true rfl⟩ (fun v M1 H locs hv hm hS => ?_)
  obtain ⟨rfl, hM2⟩ := hv
  rw [hM2] at hm
  have hX2 : (copyM k (copyM k M bs bn gb gt Lt.length) vw vn gv gt Lt.length) x = _ := obj_copy (by decide) hV1 hX1
  have hC2 : (copyM k (copyM k M bs bn gb gt Lt.length) vw vn gv gt Lt.length) cr = _ := long_copy hV1 (long_copy hB hC)
  have hF2 : (copyM k (copyM k M bs bn gb gt Lt.length) vw vn gv gt Lt.length) fr = _ := long_copy hV1 (long_copy hB hF)
  refine W.eq (g2 := F0 m 16 ls []) rfl ?_
  refine W.widen (k := 0) (n := 0) (Nat.le_of_ble_eq_true rfl) (Nat.le_of_ble_eq_true rfl) ?_
  have hm : mm D (AZ z) (copyM k (copyM k M bs bn gb gt Lt.length) vw vn gv gt Lt.length) H := hm
  refine lv_aload_n hx hb dX3_start_16 rfl (lv_at hl 0 rfl) ?_
  refine m_get (T := TX3) (N := 7) (ci := 3) (v := .ref cr) hx hb hts wX3 hown hK hm hX2 rfl 3 (by decide) f22 (fun _ h9 => h9) rfl dX3_start_17 ?_
  refine lv_lconst (v := 0) hx hb dX3_start_20 (by decide) ?_
  refine m_kS (As := [.ref cr, .long 0]) (rest := []) (rm := { frames := 0, cells := 0, slots := 0, locals := 0 }) ⟨hx, hb, hml, hown, hts⟩ (c_J7_fill_d0a16 l D k z _ cr fc 0 hC2) (va_cwS 2 hts gX3_start_J7_fill_d0a16 rfl rfl rfl (by decide +kernel) ⟨Nat.le_of_ble_eq_true rfl, Nat.le_of_ble_eq_true rfl⟩) hz hcx hm hS rfl hl.1 rfl (Nat.le_of_ble_eq_true rfl) dX3_start_21 ⟨Nat.le_of_ble_eq_true rfl, Nat.le_of_ble_eq_true rfl⟩ (fun v M1 H locs hv hm hS => ?_)
  obtain ⟨rfl, hM3⟩ := hv
  rw [hM3] at hm
  have hX3 := obj_cr (f' := fillF fc 0 60) hX2 hC2
  have hF3 : (crM k (copyM k (copyM k M bs bn gb gt Lt.length) vw vn gv gt Lt.length) cr (fillF fc 0 60)) fr = some (.inl (k 1, 60, .inr (.inl ff))) := (mu_ne hcf).trans hF2
  refine W.eq (g2 := F0 m 24 ls []) rfl ?_
  refine W.widen (k := 0) (n := 0) (Nat.le_of_ble_eq_true rfl) (Nat.le_of_ble_eq_true rfl) ?_
  have hm : mm D (AZ z) (crM k (copyM k (copyM k M bs bn gb gt Lt.length) vw vn gv gt Lt.length) cr (fillF fc 0 60)) H := hm
  refine lv_aload_n hx hb dX3_start_24 rfl (lv_at hl 0 rfl) ?_
  refine m_get (T := TX3) (N := 7) (ci := 3) (v := .ref fr) hx hb hts wX3 hown hK hm hX3 rfl 4 (by decide) f26 (fun _ h9 => h9) rfl dX3_start_25 ?_
  refine lv_lconst (v := 0) hx hb dX3_start_28 (by decide) ?_
  refine m_kS (As := [.ref fr, .long 0]) (rest := []) (rm := { frames := 0, cells := 0, slots := 0, locals := 0 }) ⟨hx, hb, hml, hown, hts⟩ (c_J7_fill_d0a16 l D k z _ fr ff 0 hF3) (va_cwS 2 hts gX3_start_J7_fill_d0a16 rfl rfl rfl (by decide +kernel) ⟨Nat.le_of_ble_eq_true rfl, Nat.le_of_ble_eq_true rfl⟩) hz hcx hm hS rfl hl.1 rfl (Nat.le_of_ble_eq_true rfl) dX3_start_29 ⟨Nat.le_of_ble_eq_true rfl, Nat.le_of_ble_eq_true rfl⟩ (fun v M1 H locs hv hm hS => ?_)
  obtain ⟨rfl, hM4⟩ := hv
  rw [hM4] at hm
  have hX4 := obj_cr (f' := fillF ff 0 60) hX3 hF3
  refine W.eq (g2 := F0 m 32 ls []) rfl ?_
  refine W.widen (k := 0) (n := 0) (Nat.le_of_ble_eq_true rfl) (Nat.le_of_ble_eq_true rfl) ?_
  have hm : mm D (AZ z) (crM k (crM k (copyM k (copyM k M bs bn gb gt Lt.length) vw vn gv gt Lt.length) cr (fillF fc 0 60)) fr (fillF ff 0 60)) H := hm
  refine lv_aload_n hx hb dX3_start_32 rfl (lv_at hl 0 rfl) ?_
  refine lv_iconst (v := 0) hx hb dX3_start_33 (by decide) ?_
  refine m_put (T := TX3) (N := 7) (ci := 3) (v := .int 0) (ty := .int) hx hb hts wX3 tyX3 tyX3_ok nmX3 hown hK hm hS hX4 rfl 6 (by decide) f33 (fun _ h9 => h9) rfl (by decide +kernel) rfl rfl (Nat.le_of_ble_eq_true rfl) dX3_start_34 (fun H locs hm hS => ?_)
  have hm : mm D (AZ z) (mu (crM k (crM k (copyM k (copyM k M bs bn gb gt Lt.length) vw vn gv gt Lt.length) cr (fillF fc 0 60)) fr (fillF ff 0 60)) x (.inr (3, [.ref bs, .ref vw, .ref mk, .ref cr, .ref fr, .int op, .int 0]))) H := hm
  refine lv_aload_n hx hb dX3_start_37 rfl (lv_at hl 0 rfl) ?_
  refine lv_iconst (v := 1) hx hb dX3_start_38 (by decide) ?_
  refine m_put (T := TX3) (N := 7) (ci := 3) (v := .int 1) (ty := .boolean) hx hb hts wX3 tyX3 tyX3_ok nmX3 hown hK hm hS (mu_self _ _ _) rfl 5 (by decide) f29 (fun _ h9 => h9) rfl (by decide +kernel) rfl rfl (Nat.le_of_ble_eq_true rfl) dX3_start_39 (fun H locs hm hS => ?_)
  have hm : mm D (AZ z) (mu (mu (crM k (crM k (copyM k (copyM k M bs bn gb gt Lt.length) vw vn gv gt Lt.length) cr (fillF fc 0 60)) fr (fillF ff 0 60)) x (.inr (3, [.ref bs, .ref vw, .ref mk, .ref cr, .ref fr, .int op, .int 0]))) x (.inr (3, [.ref bs, .ref vw, .ref mk, .ref cr, .ref fr, .int 1, .int 0]))) H := hm
  refine W.vret hx hb hr (fun t ht hW => ⟨⟨none, _, rfl, ?_, by rw [ht]; exact hm⟩, hS.F ht⟩) hS.2.2 dX3_start_42
  exact ⟨rfl, by rw [mu_mu]⟩

/-- the names that a directory has, the first n of them -/
def namesV (w : NV) : Nat → Int32
  | 0 => 0
  | n + 1 => if ndc w (nI (n + 1)) = 0 then namesV w n else namesV w n ||| (1 <<< (nI (n + 1) &&& 31))
def noteF (f : Nat → Int64) (p b : Int32) : Nat → Int64 := if p < 0 then f else if nI 60 ≤ p then f else vp_updL f p.toNatClampNeg (f p.toNatClampNeg ||| (1 <<< (b.toInt64 &&& 63)))
theorem noteM_eq {k : Nat → ClassId} {M : mM} {c : Nat} {f : Nat → Int64} (h : M c = some (.inl (k 1, 60, .inr (.inl f)))) (p b : Int32) : noteM k M c f p b = crM k M c (noteF f p b) := by
  unfold noteM noteF
  by_cases h2 : p < 0
  · rw [if_pos h2, if_pos h2, crM_id h]
  · rw [if_neg h2, if_neg h2]
    by_cases h3 : nI 60 ≤ p
    · rw [if_pos h3, if_pos h3, crM_id h]
    · rw [if_neg h3, if_neg h3]; rfl
/-- the HAS that are READ, of the first n names: of a node that the base has as v -/
def hasF (f : Nat → Int64) (p : Int32) (v w : NV) : Nat → (Nat → Int64)
  | 0 => f
  | n + 1 => if (ndc w (nI (n + 1)) = 0 ↔ ndc v (nI (n + 1)) = 0) then noteF (hasF f p v w n) p (nI (n + 1)) else hasF f p v w n

set_option maxHeartbeats 4000000 in
set_option maxRecDepth 100000 in
theorem c_X3_namesOf (l : Launch) (D : va_G) (k : Nat → ClassId) (z : Nat) (M : mM) (x bs vw mk cr fr bn nd : Nat) (gb : Nat → Option Nat) (Lb : List NV) (ff : Nat → Int64) (op md : Int32) (w : NV) (hX : M x = some (.inr (3, [.ref bs, .ref vw, .ref mk, .ref cr, .ref fr, .int op, .int md]))) (hB : treeAt k M bs bn gb Lb) (hN : nodeAt k M nd w) (hF : M fr = some (.inl (k 1, 60, .inr (.inl ff)))) : mK l yX3_namesOf wsX3_namesOf ({ frames := 1, cells := 0, slots := 0, locals := 24 }) D k z [.ref x, .ref nd] M (fun u M' => u = some (.int (namesV w 15)) ∧ M' = crM k M fr (match lookL w.1 Lb with | none => ff | some v => hasF ff (placeFrom w.1 Lb 0) v w 15)) := by
  refine Met.ofW (cc := cX3_namesOf) (maxL := 7) (ret := (some .int)) (by decide) rfl ?_
  intro p e s m args below meth c s₁ B hml hv
  obtain ⟨rfl, hz, hcx, hm⟩ := hv
  have hx := B.exec
  have hb := B.bytes
  have hr := B.returns
  have hts := atoms_spec (ws := wsX3_namesOf) B.pre
  have hown : s.vm.findClass RX3 = some m.cls := findClass_of_methodNamed B.named
  have hlocks := B.notSynchronized
  have hK := hcx.1
  have hS : va_S (AZ z) s.heap s.heap [] := va_S.rf
  have hA : ∀ q, s.heap.size ≤ q → AZ z q := fun q h => Nat.le_trans hz h
  have hl := lv_entry ([.ref x, .ref nd]) (n := 7) (Nat.le_of_ble_eq_true rfl)
  rw [lg_entry_eq]
  generalize (lg_sl ([.ref x, .ref nd]) ++ List.replicate (7 - (lg_sl ([.ref x, .ref nd])).length) Slot.unset).toArray = ls at hl ⊢
  have hl : lv_has ls 7 [(0, .ref x), (1, .ref nd)] := hl
  have f12 := hts (.fieldLink RX3 12 "CommitTree$Transaction" "base" "LCommitTree$Tree;") (by decide +kernel)
  have f26 := hts (.fieldLink RX3 26 "CommitTree$Transaction" "factsRead" "[J") (by decide +kernel)
  have f71 := hts (.fieldLink RX3 71 "CommitTree$Node" "id" "I") (by decide +kernel)
  have wX2 : ∀ w ∈ wsX20, w ∈ wsX3_namesOf := by decide +kernel
  have wX3 : ∀ w ∈ wsX30, w ∈ wsX3_namesOf := by decide +kernel
  obtain ⟨hdw, cw, hnw, hcw⟩ := And.intro hN.1 hN.2
  rcases findA_cases w.1 hB with ⟨hf, hlk, hpl⟩ | ⟨j, v, a, hj, hLj, hid, hlk, hpl, hf, hgj, hnd⟩
  · refine lv_aload_n hx hb dX3_namesOf_0 rfl (lv_at hl 0 rfl) ?_
    refine m_get (T := TX3) (N := 7) (ci := 3) (v := .ref bs) hx hb hts wX3 hown hK hm hX rfl 0 (by decide) f12 (fun _ h9 => h9) rfl dX3_namesOf_1 ?_
    refine lv_aload_n hx hb dX3_namesOf_4 rfl (lv_at hl 1 rfl) ?_
    refine m_get (T := TX2) (N := 4) (ci := 2) (v := .int w.1) hx hb hts wX2 hown hK hm hnw rfl 0 (by decide) f71 (fun _ h9 => h9) rfl dX3_namesOf_5 ?_
    refine m_kV (As := [.int w.1]) (rest := []) (rm := { frames := 0, cells := 0, slots := 0, locals := 0 }) ⟨hx, hb, hml, hown, hts⟩ (c_X4_placeOf l D k z _ bs bn gb Lb w.1 hB) (cwV 1 hts gX3_namesOf_X4_placeOf rfl rfl rfl (by decide +kernel) ⟨Nat.le_of_ble_eq_true rfl, Nat.le_of_ble_eq_true rfl⟩) (m_recv hK hm (q := (RX4, TX4, 2)) rfl hB.1) hz hcx hm hS rfl hl.1 rfl (Nat.le_of_ble_eq_true rfl) dX3_namesOf_8 ⟨Nat.le_of_ble_eq_true rfl, Nat.le_of_ble_eq_true rfl⟩ (fun v M1 H locs hv hm hS => ?_)
    obtain ⟨rfl, hM1⟩ := hv
    rw [hM1] at hm
    refine W.eq (g2 := F0 m 11 ls [.int (placeFrom w.1 Lb 0)]) rfl ?_
    refine W.widen (k := 0) (n := 0) (Nat.le_of_ble_eq_true rfl) (Nat.le_of_ble_eq_true rfl) ?_
    have hm : mm D (AZ z) M H := hm
    refine lv_istore_n (lv' := [(2, .int (placeFrom w.1 Lb 0)), (0, .ref x), (1, .ref nd)]) hx hb dX3_namesOf_11 rfl hl (by decide) rfl (fun ls hl => ?_)
    refine lv_aload_n hx hb dX3_namesOf_12 rfl (lv_at hl 1 rfl) ?_
    refine m_get (T := TX3) (N := 7) (ci := 3) (v := .ref bs) hx hb hts wX3 hown hK hm hX rfl 0 (by decide) f12 (fun _ h9 => h9) rfl dX3_namesOf_13 ?_
    refine lv_iload_n hx hb dX3_namesOf_16 rfl (lv_at hl 0 rfl) ?_
    refine m_kV (As := [.int (placeFrom w.1 Lb 0)]) (rest := []) (rm := { frames := 0, cells := 0, slots := 0, locals := 0 }) ⟨hx, hb, hml, hown, hts⟩ (c_X4_at l D k z _ bs bn gb Lb (placeFrom w.1 Lb 0) hB) (cwV 1 hts gX3_namesOf_X4_at rfl rfl rfl (by decide +kernel) ⟨Nat.le_of_ble_eq_true rfl, Nat.le_of_ble_eq_true rfl⟩) (m_recv hK hm (q := (RX4, TX4, 2)) rfl hB.1) hz hcx hm hS rfl hl.1 rfl (Nat.le_of_ble_eq_true rfl) dX3_namesOf_17 ⟨Nat.le_of_ble_eq_true rfl, Nat.le_of_ble_eq_true rfl⟩ (fun v M1 H locs hv hm hS => ?_)
    obtain ⟨hv1, hM1⟩ := hv
    rw [show atA gb Lb.length (placeFrom w.1 Lb 0) = findA w.1 gb Lb from rfl, hf] at hv1
    subst hv1
    rw [hM1] at hm
    refine W.eq (g2 := F0 m 20 ls [.null]) rfl ?_
    refine W.widen (k := 0) (n := 0) (Nat.le_of_ble_eq_true rfl) (Nat.le_of_ble_eq_true rfl) ?_
    have hm : mm D (AZ z) M H := hm
    refine lv_astore_nN (lv' := [(3, .null), (2, .int (placeFrom w.1 Lb 0)), (0, .ref x), (1, .ref nd)]) hx hb dX3_namesOf_20 rfl hl (by decide) rfl (fun ls hl => ?_)
    refine lv_iconst (v := 0) hx hb dX3_namesOf_21 (by decide) ?_
    refine lv_istore (lv' := [(4, .int 0), (3, .null), (2, .int (placeFrom w.1 Lb 0)), (0, .ref x), (1, .ref nd)]) hx hb dX3_namesOf_22 hl (by decide) rfl (fun ls hl => ?_)
    refine lv_iconst (v := 1) hx hb dX3_namesOf_24 (by decide) ?_
    refine lv_istore (lv' := [(5, .int 1), (4, .int 0), (3, .null), (2, .int (placeFrom w.1 Lb 0)), (0, .ref x), (1, .ref nd)]) hx hb dX3_namesOf_25 hl (by decide) rfl (fun ls hl => ?_)
    rw [← crM_id hF] at hm
    refine W_loop (σ := Nat) (fun i H locs ls => (i ≤ 15) ∧ mm D (AZ z) (crM k M fr ff) H ∧ va_S (AZ z) s.heap H locs ∧ lv_has ls 7 [(5, .int (nI (i + 1))), (4, .int (namesV w i)), (3, .null), (2, .int (placeFrom w.1 Lb 0)), (0, .ref x), (1, .ref nd)]) (fun i => 15 - i) (fun i => 0) (fun i => 0) ?_ 0 _ _ _ ⟨Nat.zero_le _, hm, hS, lv_sub hl [0, 1, 2, 3, 4, 5] rfl⟩
    intro i H locs ls hI ih27
    obtain ⟨hi, hm, hS, hl⟩ := hI
    try dsimp only at hm hl ih27 ⊢
    have hX1 := obj_cr (f' := ff) hX hF
    have hN1 := nodeAt_cr (f' := ff) hN hF
    obtain ⟨hdw, cw, hnw1, hcw1⟩ := And.intro hN1.1 hN1.2
    refine lv_iload hx hb dX3_namesOf_27 (lv_at hl 0 rfl) ?_
    refine lv_bipush (v := 15) hx hb dX3_namesOf_29 (by decide) ?_
    refine lv_icmp_gt (tgt := 103) hx hb dX3_namesOf_31 (by decide) (fun c1 => ?_) (fun c1 => ?_)
    · refine lv_iload hx hb dX3_namesOf_103 (lv_at hl 1 rfl) ?_
      refine W.iret (v := (namesV w i)) hx hb hr (fun t ht hW => ⟨⟨some (.int (namesV w i)), _, rfl, ?_, by rw [ht]; exact hm⟩, hS.F ht⟩) hS.2.2 dX3_namesOf_105
      have he : i = 15 := by
        rcases Nat.lt_or_ge i 15 with q | q
        · exact absurd c1 (nI_nlt (show i + 1 ≤ 15 by omega) (by decide))
        · omega
      subst he
      exact ⟨rfl, by rw [hlk]⟩
    · have hi15 : i < 15 := Nat.lt_of_not_le fun q => c1 (nI_lt (show 15 < i + 1 by omega) (by omega))
      refine lv_aload_n hx hb dX3_namesOf_34 rfl (lv_at hl 5 rfl) ?_
      refine lv_iload hx hb dX3_namesOf_35 (lv_at hl 0 rfl) ?_
      refine m_kV (As := [.int (nI (i + 1))]) (rest := []) (rm := { frames := 0, cells := 0, slots := 0, locals := 0 }) ⟨hx, hb, hml, hown, hts⟩ (c_X2_cell l D k z _ nd cw (nlen w) w.1 w.2.1 w.2.2.1 (nI (i + 1)) w.2.2.2 (nlen31 w) hnw1 hcw1) (cwV 1 hts gX3_namesOf_X2_cell rfl rfl rfl (by decide +kernel) ⟨Nat.le_of_ble_eq_true rfl, Nat.le_of_ble_eq_true rfl⟩) (m_recv hK hm (q := (RX2, TX2, 4)) rfl hnw1) hz hcx hm hS rfl hl.1 rfl (Nat.le_of_ble_eq_true rfl) dX3_namesOf_37 ⟨Nat.le_of_ble_eq_true rfl, Nat.le_of_ble_eq_true rfl⟩ (fun v M1 H locs hv hm hS => ?_)
      obtain ⟨rfl, hM1⟩ := hv
      rw [hM1] at hm
      refine W.eq (g2 := F0 m 40 ls [.int (ndc w (nI (i + 1)))]) rfl ?_
      refine W.widen (k := 0) (n := 0) (Nat.le_of_ble_eq_true rfl) (Nat.le_of_ble_eq_true rfl) ?_
      have hm : mm D (AZ z) (crM k M fr ff) H := hm
      refine lv_if_eq (tgt := 47) hx hb dX3_namesOf_40 (by decide) (fun c2 => ?_) (fun c2 => ?_)
      · refine lv_iconst (v := 0) hx hb dX3_namesOf_47 (by decide) ?_
        refine lv_istore (lv' := [(6, .int 0), (5, .int (nI (i + 1))), (4, .int (namesV w i)), (3, .null), (2, .int (placeFrom w.1 Lb 0)), (0, .ref x), (1, .ref nd)]) hx hb dX3_namesOf_48 hl (by decide) rfl (fun ls hl => ?_)
        refine lv_iload hx hb dX3_namesOf_50 (lv_at hl 0 rfl) ?_
        refine lv_if_eq (tgt := 64) hx hb dX3_namesOf_52 (by decide) (fun c3 => ?_) (fun c3 => ?_)
        · refine lv_aload_nN hx hb dX3_namesOf_64 rfl (lv_at hl 3 rfl) ?_
          refine lv_ifnullN (tgt := 97) hx hb dX3_namesOf_65 (by decide) ?_
          refine lv_iinc (v := ((nI (i + 1)) + 1)) (lv' := [(5, .int ((nI (i + 1)) + 1)), (6, .int 0), (4, .int (namesV w i)), (3, .null), (2, .int (placeFrom w.1 Lb 0)), (0, .ref x), (1, .ref nd)]) hx hb dX3_namesOf_97 hl (k := 1) rfl rfl (by decide) rfl (fun ls hl => ?_)
          refine lv_goto (tgt := 27) hx hb dX3_namesOf_100 (by decide) ?_
          rw [nI_1] at hl
          have hnv : (namesV w i) = namesV w (i + 1) := by simp [namesV, c1, c2, c3]
          rw [hnv] at hl
          exact ih27 (i + 1) _ _ _ ⟨by omega, hm, hS, lv_sub hl [0, 2, 3, 4, 5, 6] rfl⟩ (by omega)
        · first | exact absurd c3 (by decide) | exact absurd (by decide) c3
      · refine lv_iconst (v := 1) hx hb dX3_namesOf_43 (by decide) ?_
        refine lv_goto (tgt := 48) hx hb dX3_namesOf_44 (by decide) ?_
        refine lv_istore (lv' := [(6, .int 1), (5, .int (nI (i + 1))), (4, .int (namesV w i)), (3, .null), (2, .int (placeFrom w.1 Lb 0)), (0, .ref x), (1, .ref nd)]) hx hb dX3_namesOf_48 hl (by decide) rfl (fun ls hl => ?_)
        refine lv_iload hx hb dX3_namesOf_50 (lv_at hl 0 rfl) ?_
        refine lv_if_eq (tgt := 64) hx hb dX3_namesOf_52 (by decide) (fun c4 => ?_) (fun c4 => ?_)
        · first | exact absurd c4 (by decide) | exact absurd (by decide) c4
        · refine lv_iload hx hb dX3_namesOf_55 (lv_at hl 2 rfl) ?_
          refine lv_iconst (v := 1) hx hb dX3_namesOf_57 (by decide) ?_
          refine lv_iload hx hb dX3_namesOf_58 (lv_at hl 1 rfl) ?_
          refine lv_ishl hx hb dX3_namesOf_60 ?_
          refine lv_ior hx hb dX3_namesOf_61 ?_
          refine lv_istore (lv' := [(4, .int ((namesV w i) ||| (1 <<< ((nI (i + 1)) &&& 31)))), (6, .int 1), (5, .int (nI (i + 1))), (3, .null), (2, .int (placeFrom w.1 Lb 0)), (0, .ref x), (1, .ref nd)]) hx hb dX3_namesOf_62 hl (by decide) rfl (fun ls hl => ?_)
          refine lv_aload_nN hx hb dX3_namesOf_64 rfl (lv_at hl 3 rfl) ?_
          refine lv_ifnullN (tgt := 97) hx hb dX3_namesOf_65 (by decide) ?_
          refine lv_iinc (v := ((nI (i + 1)) + 1)) (lv' := [(5, .int ((nI (i + 1)) + 1)), (4, .int ((namesV w i) ||| (1 <<< ((nI (i + 1)) &&& 31)))), (6, .int 1), (3, .null), (2, .int (placeFrom w.1 Lb 0)), (0, .ref x), (1, .ref nd)]) hx hb dX3_namesOf_97 hl (k := 2) rfl rfl (by decide) rfl (fun ls hl => ?_)
          refine lv_goto (tgt := 27) hx hb dX3_namesOf_100 (by decide) ?_
          rw [nI_1] at hl
          have hnv : ((namesV w i) ||| (1 <<< ((nI (i + 1)) &&& 31))) = namesV w (i + 1) := by simp [namesV, c1, c2, c4]
          rw [hnv] at hl
          exact ih27 (i + 1) _ _ _ ⟨by omega, hm, hS, lv_sub hl [0, 1, 3, 4, 5, 6] rfl⟩ (by omega)
  · refine lv_aload_n hx hb dX3_namesOf_0 rfl (lv_at hl 0 rfl) ?_
    refine m_get (T := TX3) (N := 7) (ci := 3) (v := .ref bs) hx hb hts wX3 hown hK hm hX rfl 0 (by decide) f12 (fun _ h9 => h9) rfl dX3_namesOf_1 ?_
    refine lv_aload_n hx hb dX3_namesOf_4 rfl (lv_at hl 1 rfl) ?_
    refine m_get (T := TX2) (N := 4) (ci := 2) (v := .int w.1) hx hb hts wX2 hown hK hm hnw rfl 0 (by decide) f71 (fun _ h9 => h9) rfl dX3_namesOf_5 ?_
    refine m_kV (As := [.int w.1]) (rest := []) (rm := { frames := 0, cells := 0, slots := 0, locals := 0 }) ⟨hx, hb, hml, hown, hts⟩ (c_X4_placeOf l D k z _ bs bn gb Lb w.1 hB) (cwV 1 hts gX3_namesOf_X4_placeOf rfl rfl rfl (by decide +kernel) ⟨Nat.le_of_ble_eq_true rfl, Nat.le_of_ble_eq_true rfl⟩) (m_recv hK hm (q := (RX4, TX4, 2)) rfl hB.1) hz hcx hm hS rfl hl.1 rfl (Nat.le_of_ble_eq_true rfl) dX3_namesOf_8 ⟨Nat.le_of_ble_eq_true rfl, Nat.le_of_ble_eq_true rfl⟩ (fun v M1 H locs hv hm hS => ?_)
    obtain ⟨rfl, hM1⟩ := hv
    rw [hM1] at hm
    refine W.eq (g2 := F0 m 11 ls [.int (placeFrom w.1 Lb 0)]) rfl ?_
    refine W.widen (k := 0) (n := 0) (Nat.le_of_ble_eq_true rfl) (Nat.le_of_ble_eq_true rfl) ?_
    have hm : mm D (AZ z) M H := hm
    refine lv_istore_n (lv' := [(2, .int (placeFrom w.1 Lb 0)), (0, .ref x), (1, .ref nd)]) hx hb dX3_namesOf_11 rfl hl (by decide) rfl (fun ls hl => ?_)
    refine lv_aload_n hx hb dX3_namesOf_12 rfl (lv_at hl 1 rfl) ?_
    refine m_get (T := TX3) (N := 7) (ci := 3) (v := .ref bs) hx hb hts wX3 hown hK hm hX rfl 0 (by decide) f12 (fun _ h9 => h9) rfl dX3_namesOf_13 ?_
    refine lv_iload_n hx hb dX3_namesOf_16 rfl (lv_at hl 0 rfl) ?_
    refine m_kV (As := [.int (placeFrom w.1 Lb 0)]) (rest := []) (rm := { frames := 0, cells := 0, slots := 0, locals := 0 }) ⟨hx, hb, hml, hown, hts⟩ (c_X4_at l D k z _ bs bn gb Lb (placeFrom w.1 Lb 0) hB) (cwV 1 hts gX3_namesOf_X4_at rfl rfl rfl (by decide +kernel) ⟨Nat.le_of_ble_eq_true rfl, Nat.le_of_ble_eq_true rfl⟩) (m_recv hK hm (q := (RX4, TX4, 2)) rfl hB.1) hz hcx hm hS rfl hl.1 rfl (Nat.le_of_ble_eq_true rfl) dX3_namesOf_17 ⟨Nat.le_of_ble_eq_true rfl, Nat.le_of_ble_eq_true rfl⟩ (fun v M1 H locs hv hm hS => ?_)
    obtain ⟨hv1, hM1⟩ := hv
    rw [show atA gb Lb.length (placeFrom w.1 Lb 0) = findA w.1 gb Lb from rfl, hf] at hv1
    subst hv1
    rw [hM1] at hm
    refine W.eq (g2 := F0 m 20 ls [.ref a]) rfl ?_
    refine W.widen (k := 0) (n := 0) (Nat.le_of_ble_eq_true rfl) (Nat.le_of_ble_eq_true rfl) ?_
    have hm : mm D (AZ z) M H := hm
    refine lv_astore_n (lv' := [(3, .ref a), (2, .int (placeFrom w.1 Lb 0)), (0, .ref x), (1, .ref nd)]) hx hb dX3_namesOf_20 rfl hl (by decide) rfl (fun ls hl => ?_)
    refine lv_iconst (v := 0) hx hb dX3_namesOf_21 (by decide) ?_
    refine lv_istore (lv' := [(4, .int 0), (3, .ref a), (2, .int (placeFrom w.1 Lb 0)), (0, .ref x), (1, .ref nd)]) hx hb dX3_namesOf_22 hl (by decide) rfl (fun ls hl => ?_)
    refine lv_iconst (v := 1) hx hb dX3_namesOf_24 (by decide) ?_
    refine lv_istore (lv' := [(5, .int 1), (4, .int 0), (3, .ref a), (2, .int (placeFrom w.1 Lb 0)), (0, .ref x), (1, .ref nd)]) hx hb dX3_namesOf_25 hl (by decide) rfl (fun ls hl => ?_)
    rw [← crM_id hF] at hm
    refine W_loop (σ := Nat) (fun i H locs ls => (i ≤ 15) ∧ mm D (AZ z) (crM k M fr (hasF ff (placeFrom w.1 Lb 0) v w i)) H ∧ va_S (AZ z) s.heap H locs ∧ lv_has ls 7 [(5, .int (nI (i + 1))), (4, .int (namesV w i)), (3, .ref a), (2, .int (placeFrom w.1 Lb 0)), (0, .ref x), (1, .ref nd)]) (fun i => 15 - i) (fun i => 0) (fun i => 0) ?_ 0 _ _ _ ⟨Nat.zero_le _, hm, hS, lv_sub hl [0, 1, 2, 3, 4, 5] rfl⟩
    intro i H locs ls hI ih27
    obtain ⟨hi, hm, hS, hl⟩ := hI
    try dsimp only at hm hl ih27 ⊢
    have hX1 := obj_cr (f' := (hasF ff (placeFrom w.1 Lb 0) v w i)) hX hF
    have hN1 := nodeAt_cr (f' := (hasF ff (placeFrom w.1 Lb 0) v w i)) hN hF
    obtain ⟨hdw, cw, hnw1, hcw1⟩ := And.intro hN1.1 hN1.2
    have hA1 := nodeAt_cr (f' := (hasF ff (placeFrom w.1 Lb 0) v w i)) hnd hF
    obtain ⟨hdr, ca, hna1, hca1⟩ := And.intro hA1.1 hA1.2
    refine lv_iload hx hb dX3_namesOf_27 (lv_at hl 0 rfl) ?_
    refine lv_bipush (v := 15) hx hb dX3_namesOf_29 (by decide) ?_
    refine lv_icmp_gt (tgt := 103) hx hb dX3_namesOf_31 (by decide) (fun c5 => ?_) (fun c5 => ?_)
    · refine lv_iload hx hb dX3_namesOf_103 (lv_at hl 1 rfl) ?_
      refine W.iret (v := (namesV w i)) hx hb hr (fun t ht hW => ⟨⟨some (.int (namesV w i)), _, rfl, ?_, by rw [ht]; exact hm⟩, hS.F ht⟩) hS.2.2 dX3_namesOf_105
      have he : i = 15 := by
        rcases Nat.lt_or_ge i 15 with q | q
        · exact absurd c5 (nI_nlt (show i + 1 ≤ 15 by omega) (by decide))
        · omega
      subst he
      exact ⟨rfl, by rw [hlk]⟩
    · have hi15 : i < 15 := Nat.lt_of_not_le fun q => c5 (nI_lt (show 15 < i + 1 by omega) (by omega))
      refine lv_aload_n hx hb dX3_namesOf_34 rfl (lv_at hl 5 rfl) ?_
      refine lv_iload hx hb dX3_namesOf_35 (lv_at hl 0 rfl) ?_
      refine m_kV (As := [.int (nI (i + 1))]) (rest := []) (rm := { frames := 0, cells := 0, slots := 0, locals := 0 }) ⟨hx, hb, hml, hown, hts⟩ (c_X2_cell l D k z _ nd cw (nlen w) w.1 w.2.1 w.2.2.1 (nI (i + 1)) w.2.2.2 (nlen31 w) hnw1 hcw1) (cwV 1 hts gX3_namesOf_X2_cell rfl rfl rfl (by decide +kernel) ⟨Nat.le_of_ble_eq_true rfl, Nat.le_of_ble_eq_true rfl⟩) (m_recv hK hm (q := (RX2, TX2, 4)) rfl hnw1) hz hcx hm hS rfl hl.1 rfl (Nat.le_of_ble_eq_true rfl) dX3_namesOf_37 ⟨Nat.le_of_ble_eq_true rfl, Nat.le_of_ble_eq_true rfl⟩ (fun v M1 H locs hv hm hS => ?_)
      obtain ⟨rfl, hM1⟩ := hv
      rw [hM1] at hm
      refine W.eq (g2 := F0 m 40 ls [.int (ndc w (nI (i + 1)))]) rfl ?_
      refine W.widen (k := 0) (n := 0) (Nat.le_of_ble_eq_true rfl) (Nat.le_of_ble_eq_true rfl) ?_
      have hm : mm D (AZ z) (crM k M fr (hasF ff (placeFrom w.1 Lb 0) v w i)) H := hm
      refine lv_if_eq (tgt := 47) hx hb dX3_namesOf_40 (by decide) (fun c6 => ?_) (fun c6 => ?_)
      · refine lv_iconst (v := 0) hx hb dX3_namesOf_47 (by decide) ?_
        refine lv_istore (lv' := [(6, .int 0), (5, .int (nI (i + 1))), (4, .int (namesV w i)), (3, .ref a), (2, .int (placeFrom w.1 Lb 0)), (0, .ref x), (1, .ref nd)]) hx hb dX3_namesOf_48 hl (by decide) rfl (fun ls hl => ?_)
        refine lv_iload hx hb dX3_namesOf_50 (lv_at hl 0 rfl) ?_
        refine lv_if_eq (tgt := 64) hx hb dX3_namesOf_52 (by decide) (fun c7 => ?_) (fun c7 => ?_)
        · refine lv_aload_n hx hb dX3_namesOf_64 rfl (lv_at hl 3 rfl) ?_
          refine lv_ifnull hx hb dX3_namesOf_65 ?_
          refine lv_iload hx hb dX3_namesOf_68 (lv_at hl 0 rfl) ?_
          refine lv_aload_n hx hb dX3_namesOf_70 rfl (lv_at hl 3 rfl) ?_
          refine lv_iload hx hb dX3_namesOf_71 (lv_at hl 1 rfl) ?_
          refine m_kV (As := [.int (nI (i + 1))]) (rest := [.int 0]) (rm := { frames := 0, cells := 0, slots := 0, locals := 0 }) ⟨hx, hb, hml, hown, hts⟩ (c_X2_cell l D k z _ a ca (nlen v) v.1 v.2.1 v.2.2.1 (nI (i + 1)) v.2.2.2 (nlen31 v) hna1 hca1) (cwV 1 hts gX3_namesOf_X2_cell rfl rfl rfl (by decide +kernel) ⟨Nat.le_of_ble_eq_true rfl, Nat.le_of_ble_eq_true rfl⟩) (m_recv hK hm (q := (RX2, TX2, 4)) rfl hna1) hz hcx hm hS rfl hl.1 rfl (Nat.le_of_ble_eq_true rfl) dX3_namesOf_73 ⟨Nat.le_of_ble_eq_true rfl, Nat.le_of_ble_eq_true rfl⟩ (fun v M1 H locs hv hm hS => ?_)
          obtain ⟨rfl, hM1⟩ := hv
          rw [hM1] at hm
          refine W.eq (g2 := F0 m 76 ls [.int (ndc v (nI (i + 1))), .int 0]) rfl ?_
          refine W.widen (k := 0) (n := 0) (Nat.le_of_ble_eq_true rfl) (Nat.le_of_ble_eq_true rfl) ?_
          have hm : mm D (AZ z) (crM k M fr (hasF ff (placeFrom w.1 Lb 0) v w i)) H := hm
          refine lv_if_eq (tgt := 83) hx hb dX3_namesOf_76 (by decide) (fun c8 => ?_) (fun c8 => ?_)
          · refine lv_iconst (v := 0) hx hb dX3_namesOf_83 (by decide) ?_
            refine lv_icmp_ne (tgt := 97) hx hb dX3_namesOf_84 (by decide) (fun c9 => ?_) (fun c9 => ?_)
            · first | exact absurd c9 (by decide) | exact absurd (by decide) c9
            · refine lv_aload_n hx hb dX3_namesOf_87 rfl (lv_at hl 5 rfl) ?_
              refine m_get (T := TX3) (N := 7) (ci := 3) (v := .ref fr) hx hb hts wX3 hown hK hm hX1 rfl 4 (by decide) f26 (fun _ h9 => h9) rfl dX3_namesOf_88 ?_
              refine lv_iload_n hx hb dX3_namesOf_91 rfl (lv_at hl 4 rfl) ?_
              refine lv_iload hx hb dX3_namesOf_92 (lv_at hl 1 rfl) ?_
              refine m_kS (As := [.ref fr, .int (placeFrom w.1 Lb 0), .int (nI (i + 1))]) (rest := []) (rm := { frames := 0, cells := 0, slots := 0, locals := 0 }) ⟨hx, hb, hml, hown, hts⟩ (c_X3_noteRead l D k z _ fr (hasF ff (placeFrom w.1 Lb 0) v w i) (placeFrom w.1 Lb 0) (nI (i + 1)) crM_self) (cwS 3 hts gX3_namesOf_X3_noteRead rfl rfl rfl (by decide +kernel) ⟨Nat.le_of_ble_eq_true rfl, Nat.le_of_ble_eq_true rfl⟩) hz hcx hm hS rfl hl.1 rfl (Nat.le_of_ble_eq_true rfl) dX3_namesOf_94 ⟨Nat.le_of_ble_eq_true rfl, Nat.le_of_ble_eq_true rfl⟩ (fun v M1 H locs hv hm hS => ?_)
              obtain ⟨rfl, hM2⟩ := hv
              rw [noteM_eq crM_self, crM_crM] at hM2
              rw [hM2] at hm
              refine W.eq (g2 := F0 m 97 ls []) rfl ?_
              refine W.widen (k := 0) (n := 0) (Nat.le_of_ble_eq_true rfl) (Nat.le_of_ble_eq_true rfl) ?_
              have hm : mm D (AZ z) (crM k M fr (noteF (hasF ff (placeFrom w.1 Lb 0) v w i) (placeFrom w.1 Lb 0) (nI (i + 1)))) H := hm
              refine lv_iinc (v := ((nI (i + 1)) + 1)) (lv' := [(5, .int ((nI (i + 1)) + 1)), (6, .int 0), (4, .int (namesV w i)), (3, .ref a), (2, .int (placeFrom w.1 Lb 0)), (0, .ref x), (1, .ref nd)]) hx hb dX3_namesOf_97 hl (k := 1) rfl rfl (by decide) rfl (fun ls hl => ?_)
              refine lv_goto (tgt := 27) hx hb dX3_namesOf_100 (by decide) ?_
              rw [nI_1] at hl
              have hnv : (namesV w i) = namesV w (i + 1) := by simp [namesV, c5, c6, c7, c8, c9]
              rw [hnv] at hl
              have hff : (noteF (hasF ff (placeFrom w.1 Lb 0) v w i) (placeFrom w.1 Lb 0) (nI (i + 1))) = hasF ff (placeFrom w.1 Lb 0) v w (i + 1) := by simp [hasF, c5, c6, c7, c8, c9]
              rw [hff] at hm
              exact ih27 (i + 1) _ _ _ ⟨by omega, hm, hS, lv_sub hl [0, 2, 3, 4, 5, 6] rfl⟩ (by omega)
          · refine lv_iconst (v := 1) hx hb dX3_namesOf_79 (by decide) ?_
            refine lv_goto (tgt := 84) hx hb dX3_namesOf_80 (by decide) ?_
            refine lv_icmp_ne (tgt := 97) hx hb dX3_namesOf_84 (by decide) (fun c10 => ?_) (fun c10 => ?_)
            · refine lv_iinc (v := ((nI (i + 1)) + 1)) (lv' := [(5, .int ((nI (i + 1)) + 1)), (6, .int 0), (4, .int (namesV w i)), (3, .ref a), (2, .int (placeFrom w.1 Lb 0)), (0, .ref x), (1, .ref nd)]) hx hb dX3_namesOf_97 hl (k := 1) rfl rfl (by decide) rfl (fun ls hl => ?_)
              refine lv_goto (tgt := 27) hx hb dX3_namesOf_100 (by decide) ?_
              rw [nI_1] at hl
              have hnv : (namesV w i) = namesV w (i + 1) := by simp [namesV, c5, c6, c7, c8, c10]
              rw [hnv] at hl
              have hff : (hasF ff (placeFrom w.1 Lb 0) v w i) = hasF ff (placeFrom w.1 Lb 0) v w (i + 1) := by simp [hasF, c5, c6, c7, c8, c10]
              rw [hff] at hm
              exact ih27 (i + 1) _ _ _ ⟨by omega, hm, hS, lv_sub hl [0, 2, 3, 4, 5, 6] rfl⟩ (by omega)
            · first | exact absurd c10 (by decide) | exact absurd (by decide) c10
        · first | exact absurd c7 (by decide) | exact absurd (by decide) c7
      · refine lv_iconst (v := 1) hx hb dX3_namesOf_43 (by decide) ?_
        refine lv_goto (tgt := 48) hx hb dX3_namesOf_44 (by decide) ?_
        refine lv_istore (lv' := [(6, .int 1), (5, .int (nI (i + 1))), (4, .int (namesV w i)), (3, .ref a), (2, .int (placeFrom w.1 Lb 0)), (0, .ref x), (1, .ref nd)]) hx hb dX3_namesOf_48 hl (by decide) rfl (fun ls hl => ?_)
        refine lv_iload hx hb dX3_namesOf_50 (lv_at hl 0 rfl) ?_
        refine lv_if_eq (tgt := 64) hx hb dX3_namesOf_52 (by decide) (fun c11 => ?_) (fun c11 => ?_)
        · first | exact absurd c11 (by decide) | exact absurd (by decide) c11
        · refine lv_iload hx hb dX3_namesOf_55 (lv_at hl 2 rfl) ?_
          refine lv_iconst (v := 1) hx hb dX3_namesOf_57 (by decide) ?_
          refine lv_iload hx hb dX3_namesOf_58 (lv_at hl 1 rfl) ?_
          refine lv_ishl hx hb dX3_namesOf_60 ?_
          refine lv_ior hx hb dX3_namesOf_61 ?_
          refine lv_istore (lv' := [(4, .int ((namesV w i) ||| (1 <<< ((nI (i + 1)) &&& 31)))), (6, .int 1), (5, .int (nI (i + 1))), (3, .ref a), (2, .int (placeFrom w.1 Lb 0)), (0, .ref x), (1, .ref nd)]) hx hb dX3_namesOf_62 hl (by decide) rfl (fun ls hl => ?_)
          refine lv_aload_n hx hb dX3_namesOf_64 rfl (lv_at hl 3 rfl) ?_
          refine lv_ifnull hx hb dX3_namesOf_65 ?_
          refine lv_iload hx hb dX3_namesOf_68 (lv_at hl 1 rfl) ?_
          refine lv_aload_n hx hb dX3_namesOf_70 rfl (lv_at hl 3 rfl) ?_
          refine lv_iload hx hb dX3_namesOf_71 (lv_at hl 2 rfl) ?_
          refine m_kV (As := [.int (nI (i + 1))]) (rest := [.int 1]) (rm := { frames := 0, cells := 0, slots := 0, locals := 0 }) ⟨hx, hb, hml, hown, hts⟩ (c_X2_cell l D k z _ a ca (nlen v) v.1 v.2.1 v.2.2.1 (nI (i + 1)) v.2.2.2 (nlen31 v) hna1 hca1) (cwV 1 hts gX3_namesOf_X2_cell rfl rfl rfl (by decide +kernel) ⟨Nat.le_of_ble_eq_true rfl, Nat.le_of_ble_eq_true rfl⟩) (m_recv hK hm (q := (RX2, TX2, 4)) rfl hna1) hz hcx hm hS rfl hl.1 rfl (Nat.le_of_ble_eq_true rfl) dX3_namesOf_73 ⟨Nat.le_of_ble_eq_true rfl, Nat.le_of_ble_eq_true rfl⟩ (fun v M1 H locs hv hm hS => ?_)
          obtain ⟨rfl, hM1⟩ := hv
          rw [hM1] at hm
          refine W.eq (g2 := F0 m 76 ls [.int (ndc v (nI (i + 1))), .int 1]) rfl ?_
          refine W.widen (k := 0) (n := 0) (Nat.le_of_ble_eq_true rfl) (Nat.le_of_ble_eq_true rfl) ?_
          have hm : mm D (AZ z) (crM k M fr (hasF ff (placeFrom w.1 Lb 0) v w i)) H := hm
          refine lv_if_eq (tgt := 83) hx hb dX3_namesOf_76 (by decide) (fun c12 => ?_) (fun c12 => ?_)
          · refine lv_iconst (v := 0) hx hb dX3_namesOf_83 (by decide) ?_
            refine lv_icmp_ne (tgt := 97) hx hb dX3_namesOf_84 (by decide) (fun c13 => ?_) (fun c13 => ?_)
            · refine lv_iinc (v := ((nI (i + 1)) + 1)) (lv' := [(5, .int ((nI (i + 1)) + 1)), (4, .int ((namesV w i) ||| (1 <<< ((nI (i + 1)) &&& 31)))), (6, .int 1), (3, .ref a), (2, .int (placeFrom w.1 Lb 0)), (0, .ref x), (1, .ref nd)]) hx hb dX3_namesOf_97 hl (k := 2) rfl rfl (by decide) rfl (fun ls hl => ?_)
              refine lv_goto (tgt := 27) hx hb dX3_namesOf_100 (by decide) ?_
              rw [nI_1] at hl
              have hnv : ((namesV w i) ||| (1 <<< ((nI (i + 1)) &&& 31))) = namesV w (i + 1) := by simp [namesV, c5, c6, c11, c12, c13]
              rw [hnv] at hl
              have hff : (hasF ff (placeFrom w.1 Lb 0) v w i) = hasF ff (placeFrom w.1 Lb 0) v w (i + 1) := by simp [hasF, c5, c6, c11, c12, c13]
              rw [hff] at hm
              exact ih27 (i + 1) _ _ _ ⟨by omega, hm, hS, lv_sub hl [0, 1, 3, 4, 5, 6] rfl⟩ (by omega)
            · first | exact absurd c13 (by decide) | exact absurd (by decide) c13
          · refine lv_iconst (v := 1) hx hb dX3_namesOf_79 (by decide) ?_
            refine lv_goto (tgt := 84) hx hb dX3_namesOf_80 (by decide) ?_
            refine lv_icmp_ne (tgt := 97) hx hb dX3_namesOf_84 (by decide) (fun c14 => ?_) (fun c14 => ?_)
            · first | exact absurd c14 (by decide) | exact absurd (by decide) c14
            · refine lv_aload_n hx hb dX3_namesOf_87 rfl (lv_at hl 5 rfl) ?_
              refine m_get (T := TX3) (N := 7) (ci := 3) (v := .ref fr) hx hb hts wX3 hown hK hm hX1 rfl 4 (by decide) f26 (fun _ h9 => h9) rfl dX3_namesOf_88 ?_
              refine lv_iload_n hx hb dX3_namesOf_91 rfl (lv_at hl 4 rfl) ?_
              refine lv_iload hx hb dX3_namesOf_92 (lv_at hl 2 rfl) ?_
              refine m_kS (As := [.ref fr, .int (placeFrom w.1 Lb 0), .int (nI (i + 1))]) (rest := []) (rm := { frames := 0, cells := 0, slots := 0, locals := 0 }) ⟨hx, hb, hml, hown, hts⟩ (c_X3_noteRead l D k z _ fr (hasF ff (placeFrom w.1 Lb 0) v w i) (placeFrom w.1 Lb 0) (nI (i + 1)) crM_self) (cwS 3 hts gX3_namesOf_X3_noteRead rfl rfl rfl (by decide +kernel) ⟨Nat.le_of_ble_eq_true rfl, Nat.le_of_ble_eq_true rfl⟩) hz hcx hm hS rfl hl.1 rfl (Nat.le_of_ble_eq_true rfl) dX3_namesOf_94 ⟨Nat.le_of_ble_eq_true rfl, Nat.le_of_ble_eq_true rfl⟩ (fun v M1 H locs hv hm hS => ?_)
              obtain ⟨rfl, hM2⟩ := hv
              rw [noteM_eq crM_self, crM_crM] at hM2
              rw [hM2] at hm
              refine W.eq (g2 := F0 m 97 ls []) rfl ?_
              refine W.widen (k := 0) (n := 0) (Nat.le_of_ble_eq_true rfl) (Nat.le_of_ble_eq_true rfl) ?_
              have hm : mm D (AZ z) (crM k M fr (noteF (hasF ff (placeFrom w.1 Lb 0) v w i) (placeFrom w.1 Lb 0) (nI (i + 1)))) H := hm
              refine lv_iinc (v := ((nI (i + 1)) + 1)) (lv' := [(5, .int ((nI (i + 1)) + 1)), (4, .int ((namesV w i) ||| (1 <<< ((nI (i + 1)) &&& 31)))), (6, .int 1), (3, .ref a), (2, .int (placeFrom w.1 Lb 0)), (0, .ref x), (1, .ref nd)]) hx hb dX3_namesOf_97 hl (k := 2) rfl rfl (by decide) rfl (fun ls hl => ?_)
              refine lv_goto (tgt := 27) hx hb dX3_namesOf_100 (by decide) ?_
              rw [nI_1] at hl
              have hnv : ((namesV w i) ||| (1 <<< ((nI (i + 1)) &&& 31))) = namesV w (i + 1) := by simp [namesV, c5, c6, c11, c12, c14]
              rw [hnv] at hl
              have hff : (noteF (hasF ff (placeFrom w.1 Lb 0) v w i) (placeFrom w.1 Lb 0) (nI (i + 1))) = hasF ff (placeFrom w.1 Lb 0) v w (i + 1) := by simp [hasF, c5, c6, c11, c12, c14]
              rw [hff] at hm
              exact ih27 (i + 1) _ _ _ ⟨by omega, hm, hS, lv_sub hl [0, 1, 3, 4, 5, 6] rfl⟩ (by omega)
