theorem other_disk (k : Nat → ClassId) (fs : List Value) : other k (.inr (0, fs)) := ⟨fun _ h => (by cases h), fun _ _ h => (by cases h)⟩
theorem treeAt_disk {k : Nat → ClassId} {M : mM} {t na d : Nat} {g : Nat → Option Nat} {L : List NV} {fs fs' : List Value} (h : treeAt k M t na g L) (hd : M d = some (.inr (0, fs))) : treeAt k (mu M d (.inr (0, fs'))) t na g L :=
  treeAt_mu h hd (other_disk _ _) (m_df hd h.1 (by intro h; cases h)) (m_df hd h.2.1 (by intro h; cases h))

set_option maxHeartbeats 4000000 in
set_option maxRecDepth 100000 in
theorem c_X5_broughtHome (l : Launch) (D : va_G) (k : Nat → ClassId) (z : Nat) (M : mM) (o tr nx mg dk ts ou : Nat) (nn cm hm9 dn rc : Int32) (hO : M o = some (.inr (5, [.ref tr, .ref nx, .ref mg, .ref dk, .ref ts, .ref ou, .int nn, .int cm, .int hm9, .int dn, .int rc]))) (tn xn : Nat) (gr gx : Nat → Option Nat) (Lr Lx : List NV) (wr lf : Int32) (hd : M dk = some (.inr (0, [.int wr, .int lf]))) (hn1 : nx ≠ tr) (hn2 : xn ≠ tn) (hR : treeAt k M tr tn gr Lr) (hX : treeAt k M nx xn gx Lx) : mK l yX5_broughtHome wsX5_broughtHome ({ frames := 2, cells := 0, slots := 0, locals := 50 }) D k z [.ref o] M (fun v M' => ((dk_put wr lf (hm9 + 1)).2.2 = 0 ∧ v = some (.int 0) ∧ M' = (mu M dk (.inr (0, [.int (dk_put wr lf (hm9 + 1)).1, .int (dk_put wr lf (hm9 + 1)).2.1])))) ∨ (¬ (dk_put wr lf (hm9 + 1)).2.2 = 0 ∧ v = some (.int 1) ∧ M' = mu (copyM k (mu M dk (.inr (0, [.int (dk_put wr lf (hm9 + 1)).1, .int (dk_put wr lf (hm9 + 1)).2.1]))) tr tn gr gx Lx.length) o (.inr (5, [.ref tr, .ref nx, .ref mg, .ref dk, .ref ts, .ref ou, .int nn, .int cm, .int hm9, .int dn, .int 0])))) := by
  refine Met.ofW (cc := cX5_broughtHome) (maxL := 1) (ret := (some .boolean)) (by decide) rfl ?_
  intro p e s m args below meth c s₁ B hml hv
  obtain ⟨rfl, hz, hcx, hm⟩ := hv
  have hx := B.exec
  have hb := B.bytes
  have hr := B.returns
  have hts := atoms_spec (ws := wsX5_broughtHome) B.pre
  have hown : s.vm.findClass RX5 = some m.cls := findClass_of_methodNamed B.named
  have hlocks := B.notSynchronized
  have hK := hcx.1
  have hS : va_S (AZ z) s.heap s.heap [] := va_S.rf
  have hA : ∀ q, s.heap.size ≤ q → AZ z q := fun q h => Nat.le_trans hz h
  have hl := lv_entry ([.ref o]) (n := 1) (Nat.le_of_ble_eq_true rfl)
  rw [lg_entry_eq]
  generalize (lg_sl ([.ref o]) ++ List.replicate (1 - (lg_sl ([.ref o])).length) Slot.unset).toArray = ls at hl ⊢
  have hl : lv_has ls 1 [(0, .ref o)] := hl
  have f10 := hts (.fieldLink RX5 10 "CommitTree" "tree" "LCommitTree$Tree;") (by decide +kernel)
  have f26 := hts (.fieldLink RX5 26 "CommitTree" "next" "LCommitTree$Tree;") (by decide +kernel)
  have f39 := hts (.fieldLink RX5 39 "CommitTree" "disk" "LCommitTree$Disk;") (by decide +kernel)
  have f63 := hts (.fieldLink RX5 63 "CommitTree" "homeBlocks" "I") (by decide +kernel)
  have f70 := hts (.fieldLink RX5 70 "CommitTree" "recordCounts" "Z") (by decide +kernel)
  have wX5 : ∀ w ∈ wsX50, w ∈ wsX5_broughtHome := by decide +kernel
  refine lv_aload_n hx hb dX5_broughtHome_0 rfl (lv_at hl 0 rfl) ?_
  refine m_get (T := TX5) (N := 11) (ci := 5) (v := .ref dk) hx hb hts wX5 hown hK hm hO rfl 3 (by decide) f39 (fun _ h9 => h9) rfl dX5_broughtHome_1 ?_
  refine lv_aload_n hx hb dX5_broughtHome_4 rfl (lv_at hl 0 rfl) ?_
  refine m_get (T := TX5) (N := 11) (ci := 5) (v := .int hm9) hx hb hts wX5 hown hK hm hO rfl 8 (by decide) f63 (fun _ h9 => h9) rfl dX5_broughtHome_5 ?_
  refine lv_iconst (v := 1) hx hb dX5_broughtHome_8 (by decide) ?_
  refine lv_iadd hx hb dX5_broughtHome_9 ?_
  refine m_kV (As := [.int (hm9 + 1)]) (rest := []) (rm := { frames := 0, cells := 0, slots := 0, locals := 0 }) ⟨hx, hb, hml, hown, hts⟩ (c_X0_put l D k z _ dk (hm9 + 1) wr lf hd) (cwV 1 hts gX5_broughtHome_X0_put rfl rfl rfl (by decide +kernel) ⟨Nat.le_of_ble_eq_true rfl, Nat.le_of_ble_eq_true rfl⟩) (m_recv hK hm (q := (RX0, TX0, 2)) rfl hd) hz hcx hm hS rfl hl.1 rfl (Nat.le_of_ble_eq_true rfl) dX5_broughtHome_10 ⟨Nat.le_of_ble_eq_true rfl, Nat.le_of_ble_eq_true rfl⟩ (fun v M1 H locs hv hm hS => ?_)
  obtain ⟨rfl, hM1⟩ := hv
  rw [hM1] at hm
  have hO1 : (mu M dk (.inr (0, [.int (dk_put wr lf (hm9 + 1)).1, .int (dk_put wr lf (hm9 + 1)).2.1]))) o = some (.inr (5, [.ref tr, .ref nx, .ref mg, .ref dk, .ref ts, .ref ou, .int nn, .int cm, .int hm9, .int dn, .int rc])) := (mu_ne (m_df hd hO (by intro h; cases h))).trans hO
  have hR1 : treeAt k (mu M dk (.inr (0, [.int (dk_put wr lf (hm9 + 1)).1, .int (dk_put wr lf (hm9 + 1)).2.1]))) tr tn gr Lr := treeAt_disk hR hd
  have hX1 : treeAt k (mu M dk (.inr (0, [.int (dk_put wr lf (hm9 + 1)).1, .int (dk_put wr lf (hm9 + 1)).2.1]))) nx xn gx Lx := treeAt_disk hX hd
  refine W.eq (g2 := F0 m 13 ls [.int (dk_put wr lf (hm9 + 1)).2.2]) rfl ?_
  refine W.widen (k := 0) (n := 0) (Nat.le_of_ble_eq_true rfl) (Nat.le_of_ble_eq_true rfl) ?_
  have hm : mm D (AZ z) (mu M dk (.inr (0, [.int (dk_put wr lf (hm9 + 1)).1, .int (dk_put wr lf (hm9 + 1)).2.1]))) H := hm
  refine lv_if_ne (tgt := 18) hx hb dX5_broughtHome_13 (by decide) (fun c1 => ?_) (fun c1 => ?_)
  · refine lv_aload_n hx hb dX5_broughtHome_18 rfl (lv_at hl 0 rfl) ?_
    refine m_get (T := TX5) (N := 11) (ci := 5) (v := .ref tr) hx hb hts wX5 hown hK hm hO1 rfl 0 (by decide) f10 (fun _ h9 => h9) rfl dX5_broughtHome_19 ?_
    refine lv_aload_n hx hb dX5_broughtHome_22 rfl (lv_at hl 0 rfl) ?_
    refine m_get (T := TX5) (N := 11) (ci := 5) (v := .ref nx) hx hb hts wX5 hown hK hm hO1 rfl 1 (by decide) f26 (fun _ h9 => h9) rfl dX5_broughtHome_23 ?_
    refine m_kV (As := [.ref nx]) (rest := []) (rm := { frames := 1, cells := 0, slots := 0, locals := 24 }) ⟨hx, hb, hml, hown, hts⟩ (c_X4_copyFrom l D k z _ tr tn nx xn gr gx Lr Lx hn1 hn2 hR1 hX1) (cwV 1 hts gX5_broughtHome_X4_copyFrom rfl rfl rfl (by decide +kernel) ⟨Nat.le_of_ble_eq_true rfl, Nat.le_of_ble_eq_true rfl⟩) (m_recv hK hm (q := (RX4, TX4, 2)) rfl hR1.1) hz hcx hm hS rfl hl.1 rfl (Nat.le_of_ble_eq_true rfl) dX5_broughtHome_26 ⟨Nat.le_of_ble_eq_true rfl, Nat.le_of_ble_eq_true rfl⟩ (fun v M1 H locs hv hm hS => ?_)
    obtain ⟨rfl, hM2⟩ := hv
    rw [hM2] at hm
    have hO2 : (copyM k (mu M dk (.inr (0, [.int (dk_put wr lf (hm9 + 1)).1, .int (dk_put wr lf (hm9 + 1)).2.1]))) tr tn gr gx Lx.length) o = _ := obj_copy (by decide) hR1 hO1
    refine W.eq (g2 := F0 m 29 ls []) rfl ?_
    refine W.widen (k := 0) (n := 0) (Nat.le_of_ble_eq_true rfl) (Nat.le_of_ble_eq_true rfl) ?_
    have hm : mm D (AZ z) (copyM k (mu M dk (.inr (0, [.int (dk_put wr lf (hm9 + 1)).1, .int (dk_put wr lf (hm9 + 1)).2.1]))) tr tn gr gx Lx.length) H := hm
    refine lv_aload_n hx hb dX5_broughtHome_29 rfl (lv_at hl 0 rfl) ?_
    refine lv_iconst (v := 0) hx hb dX5_broughtHome_30 (by decide) ?_
    refine m_put (T := TX5) (N := 11) (ci := 5) (v := .int 0) (ty := .boolean) hx hb hts wX5 tyX5 tyX5_ok nmX5 hown hK hm hS hO2 rfl 10 (by decide) f70 (fun _ h9 => h9) rfl (by decide +kernel) rfl rfl (Nat.le_of_ble_eq_true rfl) dX5_broughtHome_31 (fun H locs hm hS => ?_)
    have hm : mm D (AZ z) (mu (copyM k (mu M dk (.inr (0, [.int (dk_put wr lf (hm9 + 1)).1, .int (dk_put wr lf (hm9 + 1)).2.1]))) tr tn gr gx Lx.length) o (.inr (5, [.ref tr, .ref nx, .ref mg, .ref dk, .ref ts, .ref ou, .int nn, .int cm, .int hm9, .int dn, .int 0]))) H := hm
    refine lv_iconst (v := 1) hx hb dX5_broughtHome_34 (by decide) ?_
    refine W.zret hx hb hr rfl (fun t ht hW => ⟨⟨some (.int 1), _, rfl, ?_, by rw [ht]; exact hm⟩, hS.F ht⟩) hS.2.2 dX5_broughtHome_35
    exact Or.inr ⟨c1, rfl, rfl⟩
  · refine lv_iconst (v := 0) hx hb dX5_broughtHome_16 (by decide) ?_
    refine W.zret hx hb hr rfl (fun t ht hW => ⟨⟨some (.int 0), _, rfl, ?_, by rw [ht]; exact hm⟩, hS.F ht⟩) hS.2.2 dX5_broughtHome_17
    first
      | exact Or.inl ⟨c1, rfl, rfl⟩
      | exact Or.inl ⟨Decidable.of_not_not c1, rfl, rfl⟩
