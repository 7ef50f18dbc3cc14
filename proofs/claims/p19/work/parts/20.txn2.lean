theorem other_long (k : Nat → ClassId) (c : ClassId) (n : Nat) (f : Nat → Int64) : other k (.inl (c, n, .inr (.inl f))) := ⟨fun _ h => (by cases h), fun _ _ h => (by cases h)⟩
/-- the bits of what is READ behind a look at a cell, at a size -/
def lookF (f : Nat → Int64) (Lb : List NV) (w : NV) (i : Int32) : Nat → Int64 := match lookL w.1 Lb with
  | none => f
  | some v => if ndc v i = ndc w i then (if placeFrom w.1 Lb 0 < 0 then f else if nI 60 ≤ placeFrom w.1 Lb 0 then f else vp_updL f (placeFrom w.1 Lb 0).toNatClampNeg (f (placeFrom w.1 Lb 0).toNatClampNeg ||| (1 <<< (i.toInt64 &&& 63)))) else f
def lookFS (f : Nat → Int64) (Lb : List NV) (w : NV) : Nat → Int64 := match lookL w.1 Lb with
  | none => f
  | some v => if v.2.2.1 = w.2.2.1 then (if placeFrom w.1 Lb 0 < 0 then f else if nI 60 ≤ placeFrom w.1 Lb 0 then f else vp_updL f (placeFrom w.1 Lb 0).toNatClampNeg (f (placeFrom w.1 Lb 0).toNatClampNeg ||| (1 <<< ((0 : Int32).toInt64 &&& 63)))) else f
theorem lookM_eq {k : Nat → ClassId} {M : mM} {c : Nat} {f : Nat → Int64} (h : M c = some (.inl (k 1, 60, .inr (.inl f)))) (Lb : List NV) (w : NV) (i : Int32) : lookM k M c f Lb w i = mu M c (.inl (k 1, 60, .inr (.inl (lookF f Lb w i)))) := by
  unfold lookM lookF noteM
  cases lookL w.1 Lb with
  | none => exact (mu_id h).symm
  | some v =>
    dsimp only
    by_cases h1 : ndc v i = ndc w i
    · rw [if_pos h1, if_pos h1]
      by_cases h2 : placeFrom w.1 Lb 0 < 0
      · rw [if_pos h2, if_pos h2, mu_id h]
      · rw [if_neg h2, if_neg h2]
        by_cases h3 : nI 60 ≤ placeFrom w.1 Lb 0
        · rw [if_pos h3, if_pos h3, mu_id h]
        · rw [if_neg h3, if_neg h3]
    · rw [if_neg h1, if_neg h1, mu_id h]
theorem lookS_eq {k : Nat → ClassId} {M : mM} {c : Nat} {f : Nat → Int64} (h : M c = some (.inl (k 1, 60, .inr (.inl f)))) (Lb : List NV) (w : NV) : lookS k M c f Lb w = mu M c (.inl (k 1, 60, .inr (.inl (lookFS f Lb w)))) := by
  unfold lookS lookFS noteM
  cases lookL w.1 Lb with
  | none => exact (mu_id h).symm
  | some v =>
    dsimp only
    by_cases h1 : v.2.2.1 = w.2.2.1
    · rw [if_pos h1, if_pos h1]
      by_cases h2 : placeFrom w.1 Lb 0 < 0
      · rw [if_pos h2, if_pos h2, mu_id h]
      · rw [if_neg h2, if_neg h2]
        by_cases h3 : nI 60 ≤ placeFrom w.1 Lb 0
        · rw [if_pos h3, if_pos h3, mu_id h]
        · rw [if_neg h3, if_neg h3]
    · rw [if_neg h1, if_neg h1, mu_id h]

set_option maxHeartbeats 4000000 in
set_option maxRecDepth 100000 in
theorem c_X3_stepN (l : Launch) (D : va_G) (k : Nat → ClassId) (z : Nat) (M : mM) (x : Nat) (nm : Int32) : mK l yX3_step wsX3_step ({ frames := 2, cells := 0, slots := 0, locals := 50 }) D k z [.ref x, .null, .int nm] M (fun v M' => v = some .null ∧ M' = M) := by
  refine Met.ofW (cc := cX3_step) (maxL := 3) (ret := (some (.object "CommitTree$Node"))) (by decide) rfl ?_
  intro p e s m args below meth c s₁ B hml hv
  obtain ⟨rfl, hz, hcx, hm⟩ := hv
  have hx := B.exec
  have hb := B.bytes
  have hr := B.returns
  have hts := atoms_spec (ws := wsX3_step) B.pre
  have hown : s.vm.findClass RX3 = some m.cls := findClass_of_methodNamed B.named
  have hlocks := B.notSynchronized
  have hK := hcx.1
  have hS : va_S (AZ z) s.heap s.heap [] := va_S.rf
  have hA : ∀ q, s.heap.size ≤ q → AZ z q := fun q h => Nat.le_trans hz h
  have hl := lv_entry ([.ref x, .null, .int nm]) (n := 3) (Nat.le_of_ble_eq_true rfl)
  rw [lg_entry_eq]
  generalize (lg_sl ([.ref x, .null, .int nm]) ++ List.replicate (3 - (lg_sl ([.ref x, .null, .int nm])).length) Slot.unset).toArray = ls at hl ⊢
  have hl : lv_has ls 3 [(0, .ref x), (1, .null), (2, .int nm)] := hl
  have f37 := hts (.fieldLink RX3 37 "CommitTree$Transaction" "view" "LCommitTree$Tree;") (by decide +kernel)
  have f58 := hts (.fieldLink RX3 58 "CommitTree$Node" "directory" "Z") (by decide +kernel)
  have wX2 : ∀ w ∈ wsX20, w ∈ wsX3_step := by decide +kernel
  have wX3 : ∀ w ∈ wsX30, w ∈ wsX3_step := by decide +kernel
  refine lv_aload_nN hx hb dX3_step_0 rfl (lv_at hl 1 rfl) ?_
  refine lv_ifnullN (tgt := 11) hx hb dX3_step_1 (by decide) ?_
  refine lv_null hx hb dX3_step_11 ?_
  refine W.aret (v := .null) hx hb hr (Or.inl ⟨_, rfl⟩) (Or.inl rfl) (fun t ht hW => ⟨⟨some (.null), _, rfl, ?_, by rw [ht]; exact hm⟩, hS.F ht⟩) hS.2.2 dX3_step_12
  exact ⟨rfl, rfl⟩

/-- the memory behind a look at a cell, and what it keeps -/
def crM (k : Nat → ClassId) (M : mM) (c : Nat) (f : Nat → Int64) : mM := mu M c (.inl (k 1, 60, .inr (.inl f)))
theorem treeAt_cr {k : Nat → ClassId} {M : mM} {c t na : Nat} {f f' : Nat → Int64} {g : Nat → Option Nat} {L : List NV} (h : treeAt k M t na g L) (hc : M c = some (.inl (k 1, 60, .inr (.inl f)))) : treeAt k (crM k M c f') t na g L :=
  treeAt_mu h hc (other_long _ _ _ _) (m_df hc h.1 (by intro h; cases h)) (m_df hc h.2.1 (by intro h; simp at h))
theorem nodeAt_cr {k : Nat → ClassId} {M : mM} {c a : Nat} {f f' : Nat → Int64} {v : NV} (h : nodeAt k M a v) (hc : M c = some (.inl (k 1, 60, .inr (.inl f)))) : nodeAt k (crM k M c f') a v := nodeAt_mu h hc (other_long _ _ _ _)
theorem obj_cr {k : Nat → ClassId} {M : mM} {c a : Nat} {f f' : Nat → Int64} {o : Nat × List Value} (h : M a = some (.inr o)) (hc : M c = some (.inl (k 1, 60, .inr (.inl f)))) : crM k M c f' a = some (.inr o) := (mu_ne (m_df hc h (by intro h; cases h))).trans h

set_option maxHeartbeats 4000000 in
set_option maxRecDepth 100000 in
theorem c_X3_step (l : Launch) (D : va_G) (k : Nat → ClassId) (z : Nat) (M : mM) (x bs vw mk cr fr bn vn : Nat) (gb gv : Nat → Option Nat) (Lb Lv : List NV) (fc : Nat → Int64) (op md : Int32) (hX : M x = some (.inr (3, [.ref bs, .ref vw, .ref mk, .ref cr, .ref fr, .int op, .int md]))) (hB : treeAt k M bs bn gb Lb) (hV : treeAt k M vw vn gv Lv) (hC : M cr = some (.inl (k 1, 60, .inr (.inl fc)))) (nd : Nat) (w : NV) (nm : Int32) (hN : nodeAt k M nd w) : mK l yX3_step wsX3_step ({ frames := 2, cells := 0, slots := 0, locals := 50 }) D k z [.ref x, .ref nd, .int nm] M (fun v M' => (w.2.1 = 0 ∧ v = some .null ∧ M' = M) ∨ (w.2.1 ≠ 0 ∧ v = some (va_rf (findA (ndc w nm) gv Lv)) ∧ M' = crM k M cr (lookF fc Lb w nm))) := by
  refine Met.ofW (cc := cX3_step) (maxL := 3) (ret := (some (.object "CommitTree$Node"))) (by decide) rfl ?_
  intro p e s m args below meth c s₁ B hml hv
  obtain ⟨rfl, hz, hcx, hm⟩ := hv
  have hx := B.exec
  have hb := B.bytes
  have hr := B.returns
  have hts := atoms_spec (ws := wsX3_step) B.pre
  have hown : s.vm.findClass RX3 = some m.cls := findClass_of_methodNamed B.named
  have hlocks := B.notSynchronized
  have hK := hcx.1
  have hS : va_S (AZ z) s.heap s.heap [] := va_S.rf
  have hA : ∀ q, s.heap.size ≤ q → AZ z q := fun q h => Nat.le_trans hz h
  have hl := lv_entry ([.ref x, .ref nd, .int nm]) (n := 3) (Nat.le_of_ble_eq_true rfl)
  rw [lg_entry_eq]
  generalize (lg_sl ([.ref x, .ref nd, .int nm]) ++ List.replicate (3 - (lg_sl ([.ref x, .ref nd, .int nm])).length) Slot.unset).toArray = ls at hl ⊢
  have hl : lv_has ls 3 [(0, .ref x), (1, .ref nd), (2, .int nm)] := hl
  have f37 := hts (.fieldLink RX3 37 "CommitTree$Transaction" "view" "LCommitTree$Tree;") (by decide +kernel)
  have f58 := hts (.fieldLink RX3 58 "CommitTree$Node" "directory" "Z") (by decide +kernel)
  have wX2 : ∀ w ∈ wsX20, w ∈ wsX3_step := by decide +kernel
  have wX3 : ∀ w ∈ wsX30, w ∈ wsX3_step := by decide +kernel
  obtain ⟨hdw, cw, hnw, hcw⟩ := And.intro hN.1 hN.2
  refine lv_aload_n hx hb dX3_step_0 rfl (lv_at hl 1 rfl) ?_
  refine lv_ifnull hx hb dX3_step_1 ?_
  refine lv_aload_n hx hb dX3_step_4 rfl (lv_at hl 1 rfl) ?_
  refine m_get (T := TX2) (N := 4) (ci := 2) (v := .int w.2.1) hx hb hts wX2 hown hK hm hnw rfl 1 (by decide) f58 (fun _ h9 => h9) rfl dX3_step_5 ?_
  refine lv_if_ne (tgt := 13) hx hb dX3_step_8 (by decide) (fun c1 => ?_) (fun c1 => ?_)
  · refine lv_aload_n hx hb dX3_step_13 rfl (lv_at hl 0 rfl) ?_
    refine lv_aload_n hx hb dX3_step_14 rfl (lv_at hl 1 rfl) ?_
    refine lv_iload_n hx hb dX3_step_15 rfl (lv_at hl 2 rfl) ?_
    refine m_kV (As := [.ref nd, .int nm]) (rest := []) (rm := { frames := 1, cells := 0, slots := 0, locals := 24 }) ⟨hx, hb, hml, hown, hts⟩ (c_X3_lookAtCell l D k z _ x bs vw mk cr fr bn nd gb Lb fc fc op md w hX hB hN nm hC) (cwV 2 hts gX3_step_X3_lookAtCell rfl rfl rfl (by decide +kernel) ⟨Nat.le_of_ble_eq_true rfl, Nat.le_of_ble_eq_true rfl⟩) (m_recv hK hm (q := (RX3, TX3, 7)) rfl hX) hz hcx hm hS rfl hl.1 rfl (Nat.le_of_ble_eq_true rfl) dX3_step_16 ⟨Nat.le_of_ble_eq_true rfl, Nat.le_of_ble_eq_true rfl⟩ (fun v M1 H locs hv hm hS => ?_)
    obtain ⟨rfl, hM1⟩ := hv
    rw [lookM_eq hC] at hM1
    rw [show mu M cr (.inl (k 1, 60, .inr (.inl (lookF fc Lb w nm)))) = crM k M cr (lookF fc Lb w nm) from rfl] at hM1
    rw [hM1] at hm
    have hX1 := obj_cr (f' := lookF fc Lb w nm) hX hC
    have hN1 := nodeAt_cr (f' := lookF fc Lb w nm) hN hC
    obtain ⟨hdw1, cw1, hnw1, hcw1⟩ := And.intro hN1.1 hN1.2
    have hV1 := treeAt_cr (f' := lookF fc Lb w nm) hV hC
    refine W.eq (g2 := F0 m 19 ls []) rfl ?_
    refine W.widen (k := 0) (n := 0) (Nat.le_of_ble_eq_true rfl) (Nat.le_of_ble_eq_true rfl) ?_
    have hm : mm D (AZ z) (crM k M cr (lookF fc Lb w nm)) H := hm
    refine lv_aload_n hx hb dX3_step_19 rfl (lv_at hl 0 rfl) ?_
    refine m_get (T := TX3) (N := 7) (ci := 3) (v := .ref vw) hx hb hts wX3 hown hK hm hX1 rfl 1 (by decide) f37 (fun _ h9 => h9) rfl dX3_step_20 ?_
    refine lv_aload_n hx hb dX3_step_23 rfl (lv_at hl 1 rfl) ?_
    refine lv_iload_n hx hb dX3_step_24 rfl (lv_at hl 2 rfl) ?_
    refine m_kV (As := [.int nm]) (rest := [.ref vw]) (rm := { frames := 0, cells := 0, slots := 0, locals := 0 }) ⟨hx, hb, hml, hown, hts⟩ (c_X2_cell l D k z _ nd cw1 (nlen w) w.1 w.2.1 w.2.2.1 nm w.2.2.2 (nlen31 w) hnw1 hcw1) (cwV 1 hts gX3_step_X2_cell rfl rfl rfl (by decide +kernel) ⟨Nat.le_of_ble_eq_true rfl, Nat.le_of_ble_eq_true rfl⟩) (m_recv hK hm (q := (RX2, TX2, 4)) rfl hnw1) hz hcx hm hS rfl hl.1 rfl (Nat.le_of_ble_eq_true rfl) dX3_step_25 ⟨Nat.le_of_ble_eq_true rfl, Nat.le_of_ble_eq_true rfl⟩ (fun v M1 H locs hv hm hS => ?_)
    obtain ⟨rfl, hM1⟩ := hv
    rw [hM1] at hm
    refine W.eq (g2 := F0 m 28 ls [.int (ndc w nm), .ref vw]) rfl ?_
    refine W.widen (k := 0) (n := 0) (Nat.le_of_ble_eq_true rfl) (Nat.le_of_ble_eq_true rfl) ?_
    have hm : mm D (AZ z) (crM k M cr (lookF fc Lb w nm)) H := hm
    refine m_kV (As := [.int (ndc w nm)]) (rest := []) (rm := { frames := 1, cells := 0, slots := 0, locals := 24 }) ⟨hx, hb, hml, hown, hts⟩ (c_X4_find l D k z _ vw vn gv Lv (ndc w nm) hV1) (cwV 1 hts gX3_step_X4_find rfl rfl rfl (by decide +kernel) ⟨Nat.le_of_ble_eq_true rfl, Nat.le_of_ble_eq_true rfl⟩) (m_recv hK hm (q := (RX4, TX4, 2)) rfl hV1.1) hz hcx hm hS rfl hl.1 rfl (Nat.le_of_ble_eq_true rfl) dX3_step_28 ⟨Nat.le_of_ble_eq_true rfl, Nat.le_of_ble_eq_true rfl⟩ (fun v M1 H locs hv hm hS => ?_)
    obtain ⟨rfl, hM1⟩ := hv
    rw [hM1] at hm
    refine W.eq (g2 := F0 m 31 ls [va_rf (findA (ndc w nm) gv Lv)]) rfl ?_
    refine W.widen (k := 0) (n := 0) (Nat.le_of_ble_eq_true rfl) (Nat.le_of_ble_eq_true rfl) ?_
    have hm : mm D (AZ z) (crM k M cr (lookF fc Lb w nm)) H := hm
    refine W.aret (v := va_rf (findA (ndc w nm) gv Lv)) hx hb hr (Or.inl ⟨_, rfl⟩) (va_rf_or _) (fun t ht hW => ⟨⟨some (va_rf (findA (ndc w nm) gv Lv)), _, rfl, ?_, by rw [ht]; exact hm⟩, hS.F ht⟩) hS.2.2 dX3_step_31
    exact Or.inr ⟨c1, rfl, rfl⟩
  · refine lv_null hx hb dX3_step_11 ?_
    refine W.aret (v := .null) hx hb hr (Or.inl ⟨_, rfl⟩) (Or.inl rfl) (fun t ht hW => ⟨⟨some (.null), _, rfl, ?_, by rw [ht]; exact hm⟩, hS.F ht⟩) hS.2.2 dX3_step_12
    exact Or.inl ⟨c1, rfl, rfl⟩
