set_option maxHeartbeats 4000000 in
set_option maxRecDepth 100000 in
theorem c_X5_init (l : Launch) (D : va_G) (k : Nat → ClassId) (z : Nat) (M : mM) (o : Nat) (ho : M o = some (.inr (5, [.null, .null, .null, .null, .null, .null, .int 0, .int 0, .int 0, .int 0, .int 0]))) : mK l yX5_init wsX5_init ({ frames := 4, cells := 120, slots := 4000, locals := 120 }) D k z [.ref o] M (fun v M' => v = none ∧ kpx (fun a => a = o) M M' ∧ cFr k M' o) := by
  refine Met.ofW (cc := cX5_init) (maxL := 2) (ret := none) (by decide) rfl ?_
  intro p e s m args below meth c s₁ B hml hv
  obtain ⟨rfl, hz, hcx, hm⟩ := hv
  have hx := B.exec
  have hb := B.bytes
  have hr := B.returns
  have hts := atoms_spec (ws := wsX5_init) B.pre
  have hown : s.vm.findClass RX5 = some m.cls := findClass_of_methodNamed B.named
  have hlocks := B.notSynchronized
  have hK := hcx.1
  have hS : va_S (AZ z) s.heap s.heap [] := va_S.rf
  have hA : ∀ q, s.heap.size ≤ q → AZ z q := fun q h => Nat.le_trans hz h
  have hin : meth.name = "<init>" := (name_of_methodNamed B.named B.method).1
  have hl := lv_entry ([.ref o]) (n := 2) (Nat.le_of_ble_eq_true rfl)
  rw [lg_entry_eq]
  generalize (lg_sl ([.ref o]) ++ List.replicate (2 - (lg_sl ([.ref o])).length) Slot.unset).toArray = ls at hl ⊢
  have hl : lv_has ls 2 [(0, .ref o)] := hl
  have f10 := hts (.fieldLink RX5 10 "CommitTree" "tree" "LCommitTree$Tree;") (by decide +kernel)
  have f26 := hts (.fieldLink RX5 26 "CommitTree" "next" "LCommitTree$Tree;") (by decide +kernel)
  have f32 := hts (.fieldLink RX5 32 "CommitTree" "merge" "LCommitTree$Merge;") (by decide +kernel)
  have f39 := hts (.fieldLink RX5 39 "CommitTree" "disk" "LCommitTree$Disk;") (by decide +kernel)
  have f45 := hts (.fieldLink RX5 45 "CommitTree" "transactions" "[LCommitTree$Transaction;") (by decide +kernel)
  have f52 := hts (.fieldLink RX5 52 "CommitTree" "outside" "LCommitTree$Transaction;") (by decide +kernel)
  have f56 := hts (.fieldLink RX5 56 "CommitTree" "newestNode" "I") (by decide +kernel)
  have f60 := hts (.fieldLink RX5 60 "CommitTree" "committed" "I") (by decide +kernel)
  have f63 := hts (.fieldLink RX5 63 "CommitTree" "homeBlocks" "I") (by decide +kernel)
  have f66 := hts (.fieldLink RX5 66 "CommitTree" "down" "Z") (by decide +kernel)
  have f70 := hts (.fieldLink RX5 70 "CommitTree" "recordCounts" "Z") (by decide +kernel)
  have wX0 : ∀ w ∈ wsX00, w ∈ wsX5_init := by decide +kernel
  have wX1 : ∀ w ∈ wsX10, w ∈ wsX5_init := by decide +kernel
  have wX3 : ∀ w ∈ wsX30, w ∈ wsX5_init := by decide +kernel
  have wX4 : ∀ w ∈ wsX40, w ∈ wsX5_init := by decide +kernel
  have wX5 : ∀ w ∈ wsX50, w ∈ wsX5_init := by decide +kernel
  have hkp : kpx (fun a => a = o) M M := kpx.refl _ _
  refine lv_aload_n hx hb dX5_init_0 rfl (lv_at hl 0 rfl) ?_
  refine W.objInit hx hb hown (hts (.methodLink RX5 1 objectInit) (by decide +kernel)) (hts (.instanceMethod objectInit) (by decide +kernel)) (hts (.code objectInit ⟨#[0xb1]⟩ 1 none) (by decide +kernel)) rfl (by rw [hml]; exact hl.1) rfl dX5_init_1 (Nat.le_of_ble_eq_true rfl) (Nat.le_of_ble_eq_true rfl) ?_
  refine W.eq (g2 := F0 m 4 ls []) rfl ?_
  refine lv_aload_n hx hb dX5_init_4 rfl (lv_at hl 0 rfl) ?_
  refine m_new (T := TX4) (N := 2) (ci := 4) (fs := [.null, .int 0]) hx hb hts wX4 tyX4 tyX4_ok hown (hts (.classLink RX5 7 RX4) (by decide +kernel)) (hts (.instantiable RX4 2) (by decide +kernel)) (hts (.initialized RX4) (by decide +kernel)) hK hm hS hA rfl (fun j hj => by rcases (show j = 0 ∨ j = 1 by omega) with rfl | rfl <;> rfl) (Nat.le_of_ble_eq_true rfl) (Nat.le_of_ble_eq_true rfl) dX5_init_5 (fun tr H htr hm hS => ?_)
  refine W.widen (k := 1) (n := 2) (Nat.le_of_ble_eq_true rfl) (Nat.le_of_ble_eq_true rfl) ?_
  have hn_tr := (hkp).no (fun h9 => absurd h9.symm (m_fr htr ho)) htr
  have ne_o_tr : o ≠ tr := m_fr htr ho
  have ne_tr_o : tr ≠ o := Ne.symm ne_o_tr
  have hm : mm D (AZ z) (mu M tr (.inr (4, [.null, .int 0]))) H := hm
  have hkp : kpx (fun a => a = o) M (mu M tr (.inr (4, [.null, .int 0]))) := (hkp).new htr
  have hq9 : kq M (mu M tr (.inr (4, [.null, .int 0]))) := ((kq.refl _)).new htr
  refine lv_dup hx hb dX5_init_8 rfl ?_
  refine m_kIN (As := []) (rest := [.ref tr, .ref o]) (rm := { frames := 1, cells := 1, slots := 60, locals := 12 }) ⟨hx, hb, hml, hown, hts⟩ (c_X4_init l D k z _ tr (mu_self _ _ _)) ⟨va_cnB 0 hts ggX5_init_X4_init rfl rfl rfl (hcx.2.2.2.2.1 (.methodLinkNest RX5 9 yX4_init "CommitTree") (by decide +kernel)) (hts (.initialized RX4) (by decide +kernel)) (by decide +kernel) ⟨Nat.le_of_ble_eq_true rfl, Nat.le_of_ble_eq_true rfl⟩, rfl, hts (.instanceMethod yX4_init) (by decide +kernel)⟩ hz hcx hm hS rfl hl.1 rfl (Nat.le_of_ble_eq_true rfl) dX5_init_9 ⟨Nat.le_of_ble_eq_true rfl, Nat.le_of_ble_eq_true rfl⟩ (fun v M1 H locs hv hm hS => ?_)
  obtain ⟨trn, htrn, hv1, hM1⟩ := hv
  subst hv1
  rw [hM1] at hm
  have hn_trn := (hkp).no (fun h9 => absurd h9.symm (m_fr htrn ((mu_ne ne_o_tr).trans ho))) htrn
  have ne_o_trn : o ≠ trn := m_fr htrn ((mu_ne ne_o_tr).trans ho)
  have ne_trn_o : trn ≠ o := Ne.symm ne_o_trn
  have ne_tr_trn : tr ≠ trn := m_fr htrn (mu_self _ _ _)
  have ne_trn_tr : trn ≠ tr := Ne.symm ne_tr_trn
  have hm : mm D (AZ z) (mu (mu (mu M tr (.inr (4, [.null, .int 0]))) trn (.inl (k 3, 60, .inr (.inr (.inr (.inr (fun _ => none))))))) tr (.inr (4, [.ref trn, .int 0]))) H := hm
  have hkp : kpx (fun a => a = o) M (mu (mu (mu M tr (.inr (4, [.null, .int 0]))) trn (.inl (k 3, 60, .inr (.inr (.inr (.inr (fun _ => none))))))) tr (.inr (4, [.ref trn, .int 0]))) := ((hkp).new htrn).old hn_tr
  have hq9 : kq (mu M tr (.inr (4, [.null, .int 0]))) (mu (mu (mu M tr (.inr (4, [.null, .int 0]))) trn (.inl (k 3, 60, .inr (.inr (.inr (.inr (fun _ => none))))))) tr (.inr (4, [.ref trn, .int 0]))) := (((kq.refl _)).new htrn).upd ((mu_ne ne_tr_trn).trans (mu_self _ _ _)) (by first | exact bad5 | exact badN | exact bad6 | exact bad00)
  have hT_tr : treeAt k (mu (mu (mu M tr (.inr (4, [.null, .int 0]))) trn (.inl (k 3, 60, .inr (.inr (.inr (.inr (fun _ => none))))))) tr (.inr (4, [.ref trn, .int 0]))) tr trn (fun _ => none) [] := ⟨(mu_self _ _ _), ((mu_ne ne_trn_tr).trans (mu_self _ _ _)), Nat.zero_le _, fun j v hv => by simp at hv⟩
  refine W.eq (g2 := F0 m 12 ls [.ref tr, .ref o]) rfl ?_
  refine W.widen (k := 2) (n := 62) (Nat.le_of_ble_eq_true rfl) (Nat.le_of_ble_eq_true rfl) ?_
  have hm : mm D (AZ z) (mu (mu (mu M tr (.inr (4, [.null, .int 0]))) trn (.inl (k 3, 60, .inr (.inr (.inr (.inr (fun _ => none))))))) tr (.inr (4, [.ref trn, .int 0]))) H := hm
  refine m_putF (T := TX5) (N := 11) (ci := 5) (v := .ref tr) (ty := .object "CommitTree$Tree") hx hb hts wX5 tyX5 tyX5_ok nmX5 hown hK hm hS ((mu_ne ne_o_tr).trans ((mu_ne ne_o_trn).trans ((mu_ne ne_o_tr).trans ho))) rfl 0 (by decide) f10 (fun _ h9 => h9) rfl hin rfl (by decide +kernel) rfl rfl (Nat.le_of_ble_eq_true rfl) dX5_init_12 (fun H locs hm hS => ?_)
  have hm : mm D (AZ z) (mu (mu (mu (mu M tr (.inr (4, [.null, .int 0]))) trn (.inl (k 3, 60, .inr (.inr (.inr (.inr (fun _ => none))))))) tr (.inr (4, [.ref trn, .int 0]))) o (.inr (5, [.ref tr, .null, .null, .null, .null, .null, .int 0, .int 0, .int 0, .int 0, .int 0]))) H := hm
  have hkp : kpx (fun a => a = o) M (mu (mu (mu (mu M tr (.inr (4, [.null, .int 0]))) trn (.inl (k 3, 60, .inr (.inr (.inr (.inr (fun _ => none))))))) tr (.inr (4, [.ref trn, .int 0]))) o (.inr (5, [.ref tr, .null, .null, .null, .null, .null, .int 0, .int 0, .int 0, .int 0, .int 0]))) := (hkp).self rfl
  have hq9 : kq (mu (mu (mu M tr (.inr (4, [.null, .int 0]))) trn (.inl (k 3, 60, .inr (.inr (.inr (.inr (fun _ => none))))))) tr (.inr (4, [.ref trn, .int 0]))) (mu (mu (mu (mu M tr (.inr (4, [.null, .int 0]))) trn (.inl (k 3, 60, .inr (.inr (.inr (.inr (fun _ => none))))))) tr (.inr (4, [.ref trn, .int 0]))) o (.inr (5, [.ref tr, .null, .null, .null, .null, .null, .int 0, .int 0, .int 0, .int 0, .int 0]))) := ((kq.refl _)).upd ((mu_ne ne_o_tr).trans ((mu_ne ne_o_trn).trans ((mu_ne ne_o_tr).trans ho))) (by first | exact bad5 | exact badN | exact bad6 | exact bad00)
  have hT_tr := treeAt_kq hq9 hT_tr
  refine lv_aload_n hx hb dX5_init_15 rfl (lv_at hl 0 rfl) ?_
  refine m_get (T := TX5) (N := 11) (ci := 5) (v := .ref tr) hx hb hts wX5 hown hK hm (mu_self _ _ _) rfl 0 (by decide) f10 (fun _ h9 => h9) rfl dX5_init_16 ?_
  refine lv_iconst (v := 1) hx hb dX5_init_19 (by decide) ?_
  refine lv_iconst (v := 1) hx hb dX5_init_20 (by decide) ?_
  refine m_kS (As := [.int 1, .int 1]) (rest := [.ref tr]) (rm := { frames := 2, cells := 2, slots := 68, locals := 40 }) ⟨hx, hb, hml, hown, hts⟩ (c_X2_blank1 l D k z _ 1) (va_cwS 2 hts gX5_init_X2_blank rfl rfl rfl (by decide +kernel) ⟨Nat.le_of_ble_eq_true rfl, Nat.le_of_ble_eq_true rfl⟩) hz hcx hm hS rfl hl.1 rfl (Nat.le_of_ble_eq_true rfl) dX5_init_21 ⟨Nat.le_of_ble_eq_true rfl, Nat.le_of_ble_eq_true rfl⟩ (fun v M1 H locs hv hm hS => ?_)
  obtain ⟨qr, qra, hqr, hqra, hner, hv1, hM1⟩ := hv
  subst hv1
  rw [hM1] at hm
  have hn_qra := (hkp).no (fun h9 => absurd h9.symm (m_fr hqra (mu_self _ _ _))) hqra
  have ne_o_qra : o ≠ qra := m_fr hqra (mu_self _ _ _)
  have ne_qra_o : qra ≠ o := Ne.symm ne_o_qra
  have ne_tr_qra : tr ≠ qra := m_fr hqra hT_tr.1
  have ne_qra_tr : qra ≠ tr := Ne.symm ne_tr_qra
  have hkp : kpx (fun a => a = o) M (mu (mu (mu (mu (mu M tr (.inr (4, [.null, .int 0]))) trn (.inl (k 3, 60, .inr (.inr (.inr (.inr (fun _ => none))))))) tr (.inr (4, [.ref trn, .int 0]))) o (.inr (5, [.ref tr, .null, .null, .null, .null, .null, .int 0, .int 0, .int 0, .int 0, .int 0]))) qra (.inl (k 0, 16, .inl (fun _ => 0)))) := (hkp).new hqra
  have hq9 : kq (mu (mu (mu (mu M tr (.inr (4, [.null, .int 0]))) trn (.inl (k 3, 60, .inr (.inr (.inr (.inr (fun _ => none))))))) tr (.inr (4, [.ref trn, .int 0]))) o (.inr (5, [.ref tr, .null, .null, .null, .null, .null, .int 0, .int 0, .int 0, .int 0, .int 0]))) (mu (mu (mu (mu (mu M tr (.inr (4, [.null, .int 0]))) trn (.inl (k 3, 60, .inr (.inr (.inr (.inr (fun _ => none))))))) tr (.inr (4, [.ref trn, .int 0]))) o (.inr (5, [.ref tr, .null, .null, .null, .null, .null, .int 0, .int 0, .int 0, .int 0, .int 0]))) qra (.inl (k 0, 16, .inl (fun _ => 0)))) := ((kq.refl _)).new hqra
  have hT_tr := treeAt_kq hq9 hT_tr
  have hqr : (mu (mu (mu (mu (mu M tr (.inr (4, [.null, .int 0]))) trn (.inl (k 3, 60, .inr (.inr (.inr (.inr (fun _ => none))))))) tr (.inr (4, [.ref trn, .int 0]))) o (.inr (5, [.ref tr, .null, .null, .null, .null, .null, .int 0, .int 0, .int 0, .int 0, .int 0]))) qra (.inl (k 0, 16, .inl (fun _ => 0)))) qr = none := (mu_ne hner).trans hqr
  have hn_qr := (hkp).no (fun h9 => absurd h9.symm (m_fr hqr ((mu_ne ne_o_qra).trans (mu_self _ _ _)))) hqr
  have ne_o_qr : o ≠ qr := m_fr hqr ((mu_ne ne_o_qra).trans (mu_self _ _ _))
  have ne_qr_o : qr ≠ o := Ne.symm ne_o_qr
  have ne_tr_qr : tr ≠ qr := m_fr hqr hT_tr.1
  have ne_qr_tr : qr ≠ tr := Ne.symm ne_tr_qr
  have ne_qra_qr : qra ≠ qr := m_fr hqr (mu_self _ _ _)
  have ne_qr_qra : qr ≠ qra := Ne.symm ne_qra_qr
  have hm : mm D (AZ z) (mu (mu (mu (mu (mu (mu M tr (.inr (4, [.null, .int 0]))) trn (.inl (k 3, 60, .inr (.inr (.inr (.inr (fun _ => none))))))) tr (.inr (4, [.ref trn, .int 0]))) o (.inr (5, [.ref tr, .null, .null, .null, .null, .null, .int 0, .int 0, .int 0, .int 0, .int 0]))) qra (.inl (k 0, 16, .inl (fun _ => 0)))) qr (.inr (2, [.int 1, .int 1, .int 0, .ref qra]))) H := hm
  have hkp : kpx (fun a => a = o) M (mu (mu (mu (mu (mu (mu M tr (.inr (4, [.null, .int 0]))) trn (.inl (k 3, 60, .inr (.inr (.inr (.inr (fun _ => none))))))) tr (.inr (4, [.ref trn, .int 0]))) o (.inr (5, [.ref tr, .null, .null, .null, .null, .null, .int 0, .int 0, .int 0, .int 0, .int 0]))) qra (.inl (k 0, 16, .inl (fun _ => 0)))) qr (.inr (2, [.int 1, .int 1, .int 0, .ref qra]))) := (hkp).new hqr
  have hq9 : kq (mu (mu (mu (mu (mu M tr (.inr (4, [.null, .int 0]))) trn (.inl (k 3, 60, .inr (.inr (.inr (.inr (fun _ => none))))))) tr (.inr (4, [.ref trn, .int 0]))) o (.inr (5, [.ref tr, .null, .null, .null, .null, .null, .int 0, .int 0, .int 0, .int 0, .int 0]))) qra (.inl (k 0, 16, .inl (fun _ => 0)))) (mu (mu (mu (mu (mu (mu M tr (.inr (4, [.null, .int 0]))) trn (.inl (k 3, 60, .inr (.inr (.inr (.inr (fun _ => none))))))) tr (.inr (4, [.ref trn, .int 0]))) o (.inr (5, [.ref tr, .null, .null, .null, .null, .null, .int 0, .int 0, .int 0, .int 0, .int 0]))) qra (.inl (k 0, 16, .inl (fun _ => 0)))) qr (.inr (2, [.int 1, .int 1, .int 0, .ref qra]))) := ((kq.refl _)).new hqr
  have hT_tr := treeAt_kq hq9 hT_tr
  have hN_qr : nodeAt k (mu (mu (mu (mu (mu (mu M tr (.inr (4, [.null, .int 0]))) trn (.inl (k 3, 60, .inr (.inr (.inr (.inr (fun _ => none))))))) tr (.inr (4, [.ref trn, .int 0]))) o (.inr (5, [.ref tr, .null, .null, .null, .null, .null, .int 0, .int 0, .int 0, .int 0, .int 0]))) qra (.inl (k 0, 16, .inl (fun _ => 0)))) qr (.inr (2, [.int 1, .int 1, .int 0, .ref qra]))) qr rootV := nodeAt_made hner rootV (Or.inr rfl)
  refine W.eq (g2 := F0 m 24 ls [.ref qr, .ref tr]) rfl ?_
  refine W.widen (k := 4) (n := 130) (Nat.le_of_ble_eq_true rfl) (Nat.le_of_ble_eq_true rfl) ?_
  have hm : mm D (AZ z) (mu (mu (mu (mu (mu (mu M tr (.inr (4, [.null, .int 0]))) trn (.inl (k 3, 60, .inr (.inr (.inr (.inr (fun _ => none))))))) tr (.inr (4, [.ref trn, .int 0]))) o (.inr (5, [.ref tr, .null, .null, .null, .null, .null, .int 0, .int 0, .int 0, .int 0, .int 0]))) qra (.inl (k 0, 16, .inl (fun _ => 0)))) qr (.inr (2, [.int 1, .int 1, .int 0, .ref qra]))) H := hm
  refine m_kV (As := [.ref qr]) (rest := []) (rm := { frames := 0, cells := 0, slots := 0, locals := 0 }) ⟨hx, hb, hml, hown, hts⟩ (c_X4_add l D k z _ tr trn qr (fun _ => none) [] rootV hT_tr hN_qr) (cwV 1 hts gX5_init_X4_add rfl rfl rfl (by decide +kernel) ⟨Nat.le_of_ble_eq_true rfl, Nat.le_of_ble_eq_true rfl⟩) (m_recv hK hm (q := (RX4, TX4, 2)) rfl hT_tr.1) hz hcx hm hS rfl hl.1 rfl (Nat.le_of_ble_eq_true rfl) dX5_init_24 ⟨Nat.le_of_ble_eq_true rfl, Nat.le_of_ble_eq_true rfl⟩ (fun v M1 H locs hv hm hS => ?_)
  obtain ⟨hv1, hM1⟩ := hv
  subst hv1
  have hM1 : M1 = (addM k (mu (mu (mu (mu (mu (mu M tr (.inr (4, [.null, .int 0]))) trn (.inl (k 3, 60, .inr (.inr (.inr (.inr (fun _ => none))))))) tr (.inr (4, [.ref trn, .int 0]))) o (.inr (5, [.ref tr, .null, .null, .null, .null, .null, .int 0, .int 0, .int 0, .int 0, .int 0]))) qra (.inl (k 0, 16, .inl (fun _ => 0)))) qr (.inr (2, [.int 1, .int 1, .int 0, .ref qra]))) tr trn 0 (fun _ => none) qr) := hM1
  have ha9 : M1 = mu (mu (mu (mu (mu (mu (mu (mu M tr (.inr (4, [.null, .int 0]))) trn (.inl (k 3, 60, .inr (.inr (.inr (.inr (fun _ => none))))))) tr (.inr (4, [.ref trn, .int 0]))) o (.inr (5, [.ref tr, .null, .null, .null, .null, .null, .int 0, .int 0, .int 0, .int 0, .int 0]))) qra (.inl (k 0, 16, .inl (fun _ => 0)))) qr (.inr (2, [.int 1, .int 1, .int 0, .ref qra]))) trn (.inl (k 3, 60, .inr (.inr (.inr (.inr (va_up (fun _ => none) 0 (some qr)))))))) tr (.inr (4, [.ref trn, .int (nI (0 + 1))])) := hM1.trans (if_pos (by decide))
  have hkp : kpx (fun a => a = o) M M1 := by rw [ha9]; exact (hkp.old hn_trn).old hn_tr
  have k_o : M1 o = some (.inr (5, [.ref tr, .null, .null, .null, .null, .null, .int 0, .int 0, .int 0, .int 0, .int 0])) := by rw [ha9, mu_ne (m_df hT_tr.1 ((mu_ne ne_o_qr).trans ((mu_ne ne_o_qra).trans (mu_self _ _ _))) (by intro h; cases h)), mu_ne (m_df hT_tr.2.1 ((mu_ne ne_o_qr).trans ((mu_ne ne_o_qra).trans (mu_self _ _ _))) (by intro h; cases h))]; exact ((mu_ne ne_o_qr).trans ((mu_ne ne_o_qra).trans (mu_self _ _ _)))
  have hT_tr : treeAt k M1 tr trn (va_up (fun _ => none) 0 (some qr)) [rootV] := by rw [hM1]; exact treeAt_add hT_tr hN_qr (by decide)
  obtain ⟨Mc1, hMx⟩ : ∃ x : mM, x = M1 := ⟨M1, rfl⟩
  subst hMx
  refine W.eq (g2 := F0 m 27 ls []) rfl ?_
  refine W.widen (k := 4) (n := 130) (Nat.le_of_ble_eq_true rfl) (Nat.le_of_ble_eq_true rfl) ?_
  have hm : mm D (AZ z) Mc1 H := hm
  refine lv_aload_n hx hb dX5_init_27 rfl (lv_at hl 0 rfl) ?_
  refine m_new (T := TX4) (N := 2) (ci := 4) (fs := [.null, .int 0]) hx hb hts wX4 tyX4 tyX4_ok hown (hts (.classLink RX5 7 RX4) (by decide +kernel)) (hts (.instantiable RX4 2) (by decide +kernel)) (hts (.initialized RX4) (by decide +kernel)) hK hm hS hA rfl (fun j hj => by rcases (show j = 0 ∨ j = 1 by omega) with rfl | rfl <;> rfl) (Nat.le_of_ble_eq_true rfl) (Nat.le_of_ble_eq_true rfl) dX5_init_28 (fun nx H hnx hm hS => ?_)
  refine W.widen (k := 5) (n := 132) (Nat.le_of_ble_eq_true rfl) (Nat.le_of_ble_eq_true rfl) ?_
  have hn_nx := (hkp).no (fun h9 => absurd h9.symm (m_fr hnx k_o)) hnx
  have ne_o_nx : o ≠ nx := m_fr hnx k_o
  have ne_nx_o : nx ≠ o := Ne.symm ne_o_nx
  have ne_tr_nx : tr ≠ nx := m_fr hnx hT_tr.1
  have ne_nx_tr : nx ≠ tr := Ne.symm ne_tr_nx
  have hm : mm D (AZ z) (mu Mc1 nx (.inr (4, [.null, .int 0]))) H := hm
  have hkp : kpx (fun a => a = o) M (mu Mc1 nx (.inr (4, [.null, .int 0]))) := (hkp).new hnx
  have hq9 : kq Mc1 (mu Mc1 nx (.inr (4, [.null, .int 0]))) := ((kq.refl _)).new hnx
  have hT_tr := treeAt_kq hq9 hT_tr
  refine lv_dup hx hb dX5_init_31 rfl ?_
  refine m_kIN (As := []) (rest := [.ref nx, .ref o]) (rm := { frames := 1, cells := 1, slots := 60, locals := 12 }) ⟨hx, hb, hml, hown, hts⟩ (c_X4_init l D k z _ nx (mu_self _ _ _)) ⟨va_cnB 0 hts ggX5_init_X4_init rfl rfl rfl (hcx.2.2.2.2.1 (.methodLinkNest RX5 9 yX4_init "CommitTree") (by decide +kernel)) (hts (.initialized RX4) (by decide +kernel)) (by decide +kernel) ⟨Nat.le_of_ble_eq_true rfl, Nat.le_of_ble_eq_true rfl⟩, rfl, hts (.instanceMethod yX4_init) (by decide +kernel)⟩ hz hcx hm hS rfl hl.1 rfl (Nat.le_of_ble_eq_true rfl) dX5_init_32 ⟨Nat.le_of_ble_eq_true rfl, Nat.le_of_ble_eq_true rfl⟩ (fun v M1 H locs hv hm hS => ?_)
  obtain ⟨nxn, hnxn, hv1, hM1⟩ := hv
  subst hv1
  rw [hM1] at hm
  have hn_nxn := (hkp).no (fun h9 => absurd h9.symm (m_fr hnxn ((mu_ne ne_o_nx).trans k_o))) hnxn
  have ne_o_nxn : o ≠ nxn := m_fr hnxn ((mu_ne ne_o_nx).trans k_o)
  have ne_nxn_o : nxn ≠ o := Ne.symm ne_o_nxn
  have ne_tr_nxn : tr ≠ nxn := m_fr hnxn hT_tr.1
  have ne_nxn_tr : nxn ≠ tr := Ne.symm ne_tr_nxn
  have ne_nx_nxn : nx ≠ nxn := m_fr hnxn (mu_self _ _ _)
  have ne_nxn_nx : nxn ≠ nx := Ne.symm ne_nx_nxn
  have hm : mm D (AZ z) (mu (mu (mu Mc1 nx (.inr (4, [.null, .int 0]))) nxn (.inl (k 3, 60, .inr (.inr (.inr (.inr (fun _ => none))))))) nx (.inr (4, [.ref nxn, .int 0]))) H := hm
  have hkp : kpx (fun a => a = o) M (mu (mu (mu Mc1 nx (.inr (4, [.null, .int 0]))) nxn (.inl (k 3, 60, .inr (.inr (.inr (.inr (fun _ => none))))))) nx (.inr (4, [.ref nxn, .int 0]))) := ((hkp).new hnxn).old hn_nx
  have hq9 : kq (mu Mc1 nx (.inr (4, [.null, .int 0]))) (mu (mu (mu Mc1 nx (.inr (4, [.null, .int 0]))) nxn (.inl (k 3, 60, .inr (.inr (.inr (.inr (fun _ => none))))))) nx (.inr (4, [.ref nxn, .int 0]))) := (((kq.refl _)).new hnxn).upd ((mu_ne ne_nx_nxn).trans (mu_self _ _ _)) (by first | exact bad5 | exact badN | exact bad6 | exact bad00)
  have hT_tr := treeAt_kq hq9 hT_tr
  have hT_nx : treeAt k (mu (mu (mu Mc1 nx (.inr (4, [.null, .int 0]))) nxn (.inl (k 3, 60, .inr (.inr (.inr (.inr (fun _ => none))))))) nx (.inr (4, [.ref nxn, .int 0]))) nx nxn (fun _ => none) [] := ⟨(mu_self _ _ _), ((mu_ne ne_nxn_nx).trans (mu_self _ _ _)), Nat.zero_le _, fun j v hv => by simp at hv⟩
  refine W.eq (g2 := F0 m 35 ls [.ref nx, .ref o]) rfl ?_
  refine W.widen (k := 6) (n := 192) (Nat.le_of_ble_eq_true rfl) (Nat.le_of_ble_eq_true rfl) ?_
  have hm : mm D (AZ z) (mu (mu (mu Mc1 nx (.inr (4, [.null, .int 0]))) nxn (.inl (k 3, 60, .inr (.inr (.inr (.inr (fun _ => none))))))) nx (.inr (4, [.ref nxn, .int 0]))) H := hm
  refine m_putF (T := TX5) (N := 11) (ci := 5) (v := .ref nx) (ty := .object "CommitTree$Tree") hx hb hts wX5 tyX5 tyX5_ok nmX5 hown hK hm hS ((mu_ne ne_o_nx).trans ((mu_ne ne_o_nxn).trans ((mu_ne ne_o_nx).trans k_o))) rfl 1 (by decide) f26 (fun _ h9 => h9) rfl hin rfl (by decide +kernel) rfl rfl (Nat.le_of_ble_eq_true rfl) dX5_init_35 (fun H locs hm hS => ?_)
  have hm : mm D (AZ z) (mu (mu (mu (mu Mc1 nx (.inr (4, [.null, .int 0]))) nxn (.inl (k 3, 60, .inr (.inr (.inr (.inr (fun _ => none))))))) nx (.inr (4, [.ref nxn, .int 0]))) o (.inr (5, [.ref tr, .ref nx, .null, .null, .null, .null, .int 0, .int 0, .int 0, .int 0, .int 0]))) H := hm
  have hkp : kpx (fun a => a = o) M (mu (mu (mu (mu Mc1 nx (.inr (4, [.null, .int 0]))) nxn (.inl (k 3, 60, .inr (.inr (.inr (.inr (fun _ => none))))))) nx (.inr (4, [.ref nxn, .int 0]))) o (.inr (5, [.ref tr, .ref nx, .null, .null, .null, .null, .int 0, .int 0, .int 0, .int 0, .int 0]))) := (hkp).self rfl
  have hq9 : kq (mu (mu (mu Mc1 nx (.inr (4, [.null, .int 0]))) nxn (.inl (k 3, 60, .inr (.inr (.inr (.inr (fun _ => none))))))) nx (.inr (4, [.ref nxn, .int 0]))) (mu (mu (mu (mu Mc1 nx (.inr (4, [.null, .int 0]))) nxn (.inl (k 3, 60, .inr (.inr (.inr (.inr (fun _ => none))))))) nx (.inr (4, [.ref nxn, .int 0]))) o (.inr (5, [.ref tr, .ref nx, .null, .null, .null, .null, .int 0, .int 0, .int 0, .int 0, .int 0]))) := ((kq.refl _)).upd ((mu_ne ne_o_nx).trans ((mu_ne ne_o_nxn).trans ((mu_ne ne_o_nx).trans k_o))) (by first | exact bad5 | exact badN | exact bad6 | exact bad00)
  have hT_tr := treeAt_kq hq9 hT_tr
  have hT_nx := treeAt_kq hq9 hT_nx
  refine lv_aload_n hx hb dX5_init_38 rfl (lv_at hl 0 rfl) ?_
  refine m_new (T := TX1) (N := 6) (ci := 1) (fs := [.int 0, .int 0, .int 0, .int 0, .null, .null]) hx hb hts wX1 tyX1 tyX1_ok hown (hts (.classLink RX5 29 RX1) (by decide +kernel)) (hts (.instantiable RX1 6) (by decide +kernel)) (hts (.initialized RX1) (by decide +kernel)) hK hm hS hA rfl (fun j hj => by rcases (show j = 0 ∨ j = 1 ∨ j = 2 ∨ j = 3 ∨ j = 4 ∨ j = 5 by omega) with rfl | rfl | rfl | rfl | rfl | rfl <;> rfl) (Nat.le_of_ble_eq_true rfl) (Nat.le_of_ble_eq_true rfl) dX5_init_39 (fun mg H hmg hm hS => ?_)
  refine W.widen (k := 7) (n := 198) (Nat.le_of_ble_eq_true rfl) (Nat.le_of_ble_eq_true rfl) ?_
  have hn_mg := (hkp).no (fun h9 => absurd h9.symm (m_fr hmg (mu_self _ _ _))) hmg
  have ne_o_mg : o ≠ mg := m_fr hmg (mu_self _ _ _)
  have ne_mg_o : mg ≠ o := Ne.symm ne_o_mg
  have ne_tr_mg : tr ≠ mg := m_fr hmg hT_tr.1
  have ne_mg_tr : mg ≠ tr := Ne.symm ne_tr_mg
  have ne_nx_mg : nx ≠ mg := m_fr hmg hT_nx.1
  have ne_mg_nx : mg ≠ nx := Ne.symm ne_nx_mg
  have hm : mm D (AZ z) (mu (mu (mu (mu (mu Mc1 nx (.inr (4, [.null, .int 0]))) nxn (.inl (k 3, 60, .inr (.inr (.inr (.inr (fun _ => none))))))) nx (.inr (4, [.ref nxn, .int 0]))) o (.inr (5, [.ref tr, .ref nx, .null, .null, .null, .null, .int 0, .int 0, .int 0, .int 0, .int 0]))) mg (.inr (1, [.int 0, .int 0, .int 0, .int 0, .null, .null]))) H := hm
  have hkp : kpx (fun a => a = o) M (mu (mu (mu (mu (mu Mc1 nx (.inr (4, [.null, .int 0]))) nxn (.inl (k 3, 60, .inr (.inr (.inr (.inr (fun _ => none))))))) nx (.inr (4, [.ref nxn, .int 0]))) o (.inr (5, [.ref tr, .ref nx, .null, .null, .null, .null, .int 0, .int 0, .int 0, .int 0, .int 0]))) mg (.inr (1, [.int 0, .int 0, .int 0, .int 0, .null, .null]))) := (hkp).new hmg
  have hq9 : kq (mu (mu (mu (mu Mc1 nx (.inr (4, [.null, .int 0]))) nxn (.inl (k 3, 60, .inr (.inr (.inr (.inr (fun _ => none))))))) nx (.inr (4, [.ref nxn, .int 0]))) o (.inr (5, [.ref tr, .ref nx, .null, .null, .null, .null, .int 0, .int 0, .int 0, .int 0, .int 0]))) (mu (mu (mu (mu (mu Mc1 nx (.inr (4, [.null, .int 0]))) nxn (.inl (k 3, 60, .inr (.inr (.inr (.inr (fun _ => none))))))) nx (.inr (4, [.ref nxn, .int 0]))) o (.inr (5, [.ref tr, .ref nx, .null, .null, .null, .null, .int 0, .int 0, .int 0, .int 0, .int 0]))) mg (.inr (1, [.int 0, .int 0, .int 0, .int 0, .null, .null]))) := ((kq.refl _)).new hmg
  have hT_tr := treeAt_kq hq9 hT_tr
  have hT_nx := treeAt_kq hq9 hT_nx
  refine lv_dup hx hb dX5_init_42 rfl ?_
  refine m_kIN (As := []) (rest := [.ref mg, .ref o]) (rm := { frames := 3, cells := 4, slots := 136, locals := 70 }) ⟨hx, hb, hml, hown, hts⟩ (c_X1_init l D k z _ mg (mu_self _ _ _)) ⟨va_cnB 0 hts ggX5_init_X1_init rfl rfl rfl (hcx.2.2.2.2.1 (.methodLinkNest RX5 31 yX1_init "CommitTree") (by decide +kernel)) (hts (.initialized RX1) (by decide +kernel)) (by decide +kernel) ⟨Nat.le_of_ble_eq_true rfl, Nat.le_of_ble_eq_true rfl⟩, rfl, hts (.instanceMethod yX1_init) (by decide +kernel)⟩ hz hcx hm hS rfl hl.1 rfl (Nat.le_of_ble_eq_true rfl) dX5_init_43 ⟨Nat.le_of_ble_eq_true rfl, Nat.le_of_ble_eq_true rfl⟩ (fun v M1 H locs hv hm hS => ?_)
  obtain ⟨hv1, hk9, -⟩ := hv
  subst hv1
  have hq9 : kq (mu (mu (mu (mu (mu Mc1 nx (.inr (4, [.null, .int 0]))) nxn (.inl (k 3, 60, .inr (.inr (.inr (.inr (fun _ => none))))))) nx (.inr (4, [.ref nxn, .int 0]))) o (.inr (5, [.ref tr, .ref nx, .null, .null, .null, .null, .int 0, .int 0, .int 0, .int 0, .int 0]))) mg (.inr (1, [.int 0, .int 0, .int 0, .int 0, .null, .null]))) M1 := kq.made hk9 (mu_self _ _ _) (Or.inr (Or.inl rfl))
  have k_o : M1 o = some _ := hk9 _ _ ne_o_mg ((mu_ne ne_o_mg).trans (mu_self _ _ _))
  have hkp : kpx (fun a => a = o) M M1 := hkp.call hk9 hn_mg
  have hT_tr := treeAt_kq hq9 hT_tr
  have hT_nx := treeAt_kq hq9 hT_nx
  obtain ⟨Mc2, hMx⟩ : ∃ x : mM, x = M1 := ⟨M1, rfl⟩
  subst hMx
  refine W.eq (g2 := F0 m 46 ls [.ref mg, .ref o]) rfl ?_
  refine W.widen (k := 11) (n := 334) (Nat.le_of_ble_eq_true rfl) (Nat.le_of_ble_eq_true rfl) ?_
  have hm : mm D (AZ z) Mc2 H := hm
  refine m_putF (T := TX5) (N := 11) (ci := 5) (v := .ref mg) (ty := .object "CommitTree$Merge") hx hb hts wX5 tyX5 tyX5_ok nmX5 hown hK hm hS k_o rfl 2 (by decide) f32 (fun _ h9 => h9) rfl hin rfl (by decide +kernel) rfl rfl (Nat.le_of_ble_eq_true rfl) dX5_init_46 (fun H locs hm hS => ?_)
  have hm : mm D (AZ z) (mu Mc2 o (.inr (5, [.ref tr, .ref nx, .ref mg, .null, .null, .null, .int 0, .int 0, .int 0, .int 0, .int 0]))) H := hm
  have hkp : kpx (fun a => a = o) M (mu Mc2 o (.inr (5, [.ref tr, .ref nx, .ref mg, .null, .null, .null, .int 0, .int 0, .int 0, .int 0, .int 0]))) := (hkp).self rfl
  have hq9 : kq Mc2 (mu Mc2 o (.inr (5, [.ref tr, .ref nx, .ref mg, .null, .null, .null, .int 0, .int 0, .int 0, .int 0, .int 0]))) := ((kq.refl _)).upd k_o (by first | exact bad5 | exact badN | exact bad6 | exact bad00)
  have hT_tr := treeAt_kq hq9 hT_tr
  have hT_nx := treeAt_kq hq9 hT_nx
  refine lv_aload_n hx hb dX5_init_49 rfl (lv_at hl 0 rfl) ?_
  refine m_new (T := TX0) (N := 2) (ci := 0) (fs := [.int 0, .int 0]) hx hb hts wX0 tyX0 tyX0_ok hown (hts (.classLink RX5 36 RX0) (by decide +kernel)) (hts (.instantiable RX0 2) (by decide +kernel)) (hts (.initialized RX0) (by decide +kernel)) hK hm hS hA rfl (fun j hj => by rcases (show j = 0 ∨ j = 1 by omega) with rfl | rfl <;> rfl) (Nat.le_of_ble_eq_true rfl) (Nat.le_of_ble_eq_true rfl) dX5_init_50 (fun dk H hdk hm hS => ?_)
  refine W.widen (k := 12) (n := 336) (Nat.le_of_ble_eq_true rfl) (Nat.le_of_ble_eq_true rfl) ?_
  have hn_dk := (hkp).no (fun h9 => absurd h9.symm (m_fr hdk (mu_self _ _ _))) hdk
  have ne_o_dk : o ≠ dk := m_fr hdk (mu_self _ _ _)
  have ne_dk_o : dk ≠ o := Ne.symm ne_o_dk
  have ne_tr_dk : tr ≠ dk := m_fr hdk hT_tr.1
  have ne_dk_tr : dk ≠ tr := Ne.symm ne_tr_dk
  have hm : mm D (AZ z) (mu (mu Mc2 o (.inr (5, [.ref tr, .ref nx, .ref mg, .null, .null, .null, .int 0, .int 0, .int 0, .int 0, .int 0]))) dk (.inr (0, [.int 0, .int 0]))) H := hm
  have hkp : kpx (fun a => a = o) M (mu (mu Mc2 o (.inr (5, [.ref tr, .ref nx, .ref mg, .null, .null, .null, .int 0, .int 0, .int 0, .int 0, .int 0]))) dk (.inr (0, [.int 0, .int 0]))) := (hkp).new hdk
  have hq9 : kq (mu Mc2 o (.inr (5, [.ref tr, .ref nx, .ref mg, .null, .null, .null, .int 0, .int 0, .int 0, .int 0, .int 0]))) (mu (mu Mc2 o (.inr (5, [.ref tr, .ref nx, .ref mg, .null, .null, .null, .int 0, .int 0, .int 0, .int 0, .int 0]))) dk (.inr (0, [.int 0, .int 0]))) := ((kq.refl _)).new hdk
  have hT_tr := treeAt_kq hq9 hT_tr
  have hT_nx := treeAt_kq hq9 hT_nx
  refine lv_dup hx hb dX5_init_53 rfl ?_
  refine m_kIN (As := []) (rest := [.ref dk, .ref o]) (rm := { frames := 1, cells := 0, slots := 0, locals := 12 }) ⟨hx, hb, hml, hown, hts⟩ (c_X0_init l D k z _ dk (mu_self _ _ _)) ⟨va_cnB 0 hts ggX5_init_X0_init rfl rfl rfl (hcx.2.2.2.2.1 (.methodLinkNest RX5 38 yX0_init "CommitTree") (by decide +kernel)) (hts (.initialized RX0) (by decide +kernel)) (by decide +kernel) ⟨Nat.le_of_ble_eq_true rfl, Nat.le_of_ble_eq_true rfl⟩, rfl, hts (.instanceMethod yX0_init) (by decide +kernel)⟩ hz hcx hm hS rfl hl.1 rfl (Nat.le_of_ble_eq_true rfl) dX5_init_54 ⟨Nat.le_of_ble_eq_true rfl, Nat.le_of_ble_eq_true rfl⟩ (fun v M1 H locs hv hm hS => ?_)
  obtain ⟨hv1, hM1⟩ := hv
  subst hv1
  rw [hM1] at hm
  have hm : mm D (AZ z) (mu (mu (mu Mc2 o (.inr (5, [.ref tr, .ref nx, .ref mg, .null, .null, .null, .int 0, .int 0, .int 0, .int 0, .int 0]))) dk (.inr (0, [.int 0, .int 0]))) dk (.inr (0, [.int 0, .int (-1)]))) H := hm
  have hkp : kpx (fun a => a = o) M (mu (mu (mu Mc2 o (.inr (5, [.ref tr, .ref nx, .ref mg, .null, .null, .null, .int 0, .int 0, .int 0, .int 0, .int 0]))) dk (.inr (0, [.int 0, .int 0]))) dk (.inr (0, [.int 0, .int (-1)]))) := (hkp).old hn_dk
  have hq9 : kq (mu (mu Mc2 o (.inr (5, [.ref tr, .ref nx, .ref mg, .null, .null, .null, .int 0, .int 0, .int 0, .int 0, .int 0]))) dk (.inr (0, [.int 0, .int 0]))) (mu (mu (mu Mc2 o (.inr (5, [.ref tr, .ref nx, .ref mg, .null, .null, .null, .int 0, .int 0, .int 0, .int 0, .int 0]))) dk (.inr (0, [.int 0, .int 0]))) dk (.inr (0, [.int 0, .int (-1)]))) := ((kq.refl _)).upd (mu_self _ _ _) (by first | exact bad5 | exact badN | exact bad6 | exact bad00)
  have hT_tr := treeAt_kq hq9 hT_tr
  have hT_nx := treeAt_kq hq9 hT_nx
  have hD_dk : (mu (mu (mu Mc2 o (.inr (5, [.ref tr, .ref nx, .ref mg, .null, .null, .null, .int 0, .int 0, .int 0, .int 0, .int 0]))) dk (.inr (0, [.int 0, .int 0]))) dk (.inr (0, [.int 0, .int (-1)]))) dk = some (.inr (0, [.int 0, .int (-1)])) := (mu_self _ _ _)
  refine W.eq (g2 := F0 m 57 ls [.ref dk, .ref o]) rfl ?_
  refine W.widen (k := 12) (n := 336) (Nat.le_of_ble_eq_true rfl) (Nat.le_of_ble_eq_true rfl) ?_
  have hm : mm D (AZ z) (mu (mu (mu Mc2 o (.inr (5, [.ref tr, .ref nx, .ref mg, .null, .null, .null, .int 0, .int 0, .int 0, .int 0, .int 0]))) dk (.inr (0, [.int 0, .int 0]))) dk (.inr (0, [.int 0, .int (-1)]))) H := hm
  refine m_putF (T := TX5) (N := 11) (ci := 5) (v := .ref dk) (ty := .object "CommitTree$Disk") hx hb hts wX5 tyX5 tyX5_ok nmX5 hown hK hm hS ((mu_ne ne_o_dk).trans ((mu_ne ne_o_dk).trans (mu_self _ _ _))) rfl 3 (by decide) f39 (fun _ h9 => h9) rfl hin rfl (by decide +kernel) rfl rfl (Nat.le_of_ble_eq_true rfl) dX5_init_57 (fun H locs hm hS => ?_)
  have hm : mm D (AZ z) (mu (mu (mu (mu Mc2 o (.inr (5, [.ref tr, .ref nx, .ref mg, .null, .null, .null, .int 0, .int 0, .int 0, .int 0, .int 0]))) dk (.inr (0, [.int 0, .int 0]))) dk (.inr (0, [.int 0, .int (-1)]))) o (.inr (5, [.ref tr, .ref nx, .ref mg, .ref dk, .null, .null, .int 0, .int 0, .int 0, .int 0, .int 0]))) H := hm
  have hkp : kpx (fun a => a = o) M (mu (mu (mu (mu Mc2 o (.inr (5, [.ref tr, .ref nx, .ref mg, .null, .null, .null, .int 0, .int 0, .int 0, .int 0, .int 0]))) dk (.inr (0, [.int 0, .int 0]))) dk (.inr (0, [.int 0, .int (-1)]))) o (.inr (5, [.ref tr, .ref nx, .ref mg, .ref dk, .null, .null, .int 0, .int 0, .int 0, .int 0, .int 0]))) := (hkp).self rfl
  have hq9 : kq (mu (mu (mu Mc2 o (.inr (5, [.ref tr, .ref nx, .ref mg, .null, .null, .null, .int 0, .int 0, .int 0, .int 0, .int 0]))) dk (.inr (0, [.int 0, .int 0]))) dk (.inr (0, [.int 0, .int (-1)]))) (mu (mu (mu (mu Mc2 o (.inr (5, [.ref tr, .ref nx, .ref mg, .null, .null, .null, .int 0, .int 0, .int 0, .int 0, .int 0]))) dk (.inr (0, [.int 0, .int 0]))) dk (.inr (0, [.int 0, .int (-1)]))) o (.inr (5, [.ref tr, .ref nx, .ref mg, .ref dk, .null, .null, .int 0, .int 0, .int 0, .int 0, .int 0]))) := ((kq.refl _)).upd ((mu_ne ne_o_dk).trans ((mu_ne ne_o_dk).trans (mu_self _ _ _))) (by first | exact bad5 | exact badN | exact bad6 | exact bad00)
  have hT_tr := treeAt_kq hq9 hT_tr
  have hT_nx := treeAt_kq hq9 hT_nx
  have hD_dk := hq9 _ _ (by simp [bad]) hD_dk
  refine lv_aload_n hx hb dX5_init_60 rfl (lv_at hl 0 rfl) ?_
  refine lv_bipush (v := 6) hx hb dX5_init_61 (by decide) ?_
  refine m_newq hx hb hown (hts (.classLink RX5 43 RX3) (by decide +kernel)) hcx.2.2.2.1.1.2.1 hK 4 rfl hm hS hA (N' := 6) (by decide) rfl (by decide) (Nat.le_of_ble_eq_true rfl) (Nat.le_of_ble_eq_true rfl) dX5_init_63 (fun tz H htz hm hS => ?_)
  refine W.widen (k := 13) (n := 342) (Nat.le_of_ble_eq_true rfl) (Nat.le_of_ble_eq_true rfl) ?_
  have hn_tz := (hkp).no (fun h9 => absurd h9.symm (m_fr htz (mu_self _ _ _))) htz
  have ne_o_tz : o ≠ tz := m_fr htz (mu_self _ _ _)
  have ne_tz_o : tz ≠ o := Ne.symm ne_o_tz
  have ne_tr_tz : tr ≠ tz := m_fr htz hT_tr.1
  have ne_tz_tr : tz ≠ tr := Ne.symm ne_tr_tz
  have hm : mm D (AZ z) (mu (mu (mu (mu (mu Mc2 o (.inr (5, [.ref tr, .ref nx, .ref mg, .null, .null, .null, .int 0, .int 0, .int 0, .int 0, .int 0]))) dk (.inr (0, [.int 0, .int 0]))) dk (.inr (0, [.int 0, .int (-1)]))) o (.inr (5, [.ref tr, .ref nx, .ref mg, .ref dk, .null, .null, .int 0, .int 0, .int 0, .int 0, .int 0]))) tz (.inl (k 4, 6, .inr (.inr (.inr (.inr (fun _ => none))))))) H := hm
  have hkp : kpx (fun a => a = o) M (mu (mu (mu (mu (mu Mc2 o (.inr (5, [.ref tr, .ref nx, .ref mg, .null, .null, .null, .int 0, .int 0, .int 0, .int 0, .int 0]))) dk (.inr (0, [.int 0, .int 0]))) dk (.inr (0, [.int 0, .int (-1)]))) o (.inr (5, [.ref tr, .ref nx, .ref mg, .ref dk, .null, .null, .int 0, .int 0, .int 0, .int 0, .int 0]))) tz (.inl (k 4, 6, .inr (.inr (.inr (.inr (fun _ => none))))))) := (hkp).new htz
  have hq9 : kq (mu (mu (mu (mu Mc2 o (.inr (5, [.ref tr, .ref nx, .ref mg, .null, .null, .null, .int 0, .int 0, .int 0, .int 0, .int 0]))) dk (.inr (0, [.int 0, .int 0]))) dk (.inr (0, [.int 0, .int (-1)]))) o (.inr (5, [.ref tr, .ref nx, .ref mg, .ref dk, .null, .null, .int 0, .int 0, .int 0, .int 0, .int 0]))) (mu (mu (mu (mu (mu Mc2 o (.inr (5, [.ref tr, .ref nx, .ref mg, .null, .null, .null, .int 0, .int 0, .int 0, .int 0, .int 0]))) dk (.inr (0, [.int 0, .int 0]))) dk (.inr (0, [.int 0, .int (-1)]))) o (.inr (5, [.ref tr, .ref nx, .ref mg, .ref dk, .null, .null, .int 0, .int 0, .int 0, .int 0, .int 0]))) tz (.inl (k 4, 6, .inr (.inr (.inr (.inr (fun _ => none))))))) := ((kq.refl _)).new htz
  have hT_tr := treeAt_kq hq9 hT_tr
  have hT_nx := treeAt_kq hq9 hT_nx
  have hD_dk := hq9 _ _ (by simp [bad]) hD_dk
  refine m_putF (T := TX5) (N := 11) (ci := 5) (v := .ref tz) (ty := .array (.object "CommitTree$Transaction")) hx hb hts wX5 tyX5 tyX5_ok nmX5 hown hK hm hS ((mu_ne ne_o_tz).trans (mu_self _ _ _)) rfl 4 (by decide) f45 (fun _ h9 => h9) rfl hin rfl (by decide +kernel) rfl rfl (Nat.le_of_ble_eq_true rfl) dX5_init_66 (fun H locs hm hS => ?_)
  have hm : mm D (AZ z) (mu (mu (mu (mu (mu (mu Mc2 o (.inr (5, [.ref tr, .ref nx, .ref mg, .null, .null, .null, .int 0, .int 0, .int 0, .int 0, .int 0]))) dk (.inr (0, [.int 0, .int 0]))) dk (.inr (0, [.int 0, .int (-1)]))) o (.inr (5, [.ref tr, .ref nx, .ref mg, .ref dk, .null, .null, .int 0, .int 0, .int 0, .int 0, .int 0]))) tz (.inl (k 4, 6, .inr (.inr (.inr (.inr (fun _ => none))))))) o (.inr (5, [.ref tr, .ref nx, .ref mg, .ref dk, .ref tz, .null, .int 0, .int 0, .int 0, .int 0, .int 0]))) H := hm
  have hkp : kpx (fun a => a = o) M (mu (mu (mu (mu (mu (mu Mc2 o (.inr (5, [.ref tr, .ref nx, .ref mg, .null, .null, .null, .int 0, .int 0, .int 0, .int 0, .int 0]))) dk (.inr (0, [.int 0, .int 0]))) dk (.inr (0, [.int 0, .int (-1)]))) o (.inr (5, [.ref tr, .ref nx, .ref mg, .ref dk, .null, .null, .int 0, .int 0, .int 0, .int 0, .int 0]))) tz (.inl (k 4, 6, .inr (.inr (.inr (.inr (fun _ => none))))))) o (.inr (5, [.ref tr, .ref nx, .ref mg, .ref dk, .ref tz, .null, .int 0, .int 0, .int 0, .int 0, .int 0]))) := (hkp).self rfl
  have hq9 : kq (mu (mu (mu (mu (mu Mc2 o (.inr (5, [.ref tr, .ref nx, .ref mg, .null, .null, .null, .int 0, .int 0, .int 0, .int 0, .int 0]))) dk (.inr (0, [.int 0, .int 0]))) dk (.inr (0, [.int 0, .int (-1)]))) o (.inr (5, [.ref tr, .ref nx, .ref mg, .ref dk, .null, .null, .int 0, .int 0, .int 0, .int 0, .int 0]))) tz (.inl (k 4, 6, .inr (.inr (.inr (.inr (fun _ => none))))))) (mu (mu (mu (mu (mu (mu Mc2 o (.inr (5, [.ref tr, .ref nx, .ref mg, .null, .null, .null, .int 0, .int 0, .int 0, .int 0, .int 0]))) dk (.inr (0, [.int 0, .int 0]))) dk (.inr (0, [.int 0, .int (-1)]))) o (.inr (5, [.ref tr, .ref nx, .ref mg, .ref dk, .null, .null, .int 0, .int 0, .int 0, .int 0, .int 0]))) tz (.inl (k 4, 6, .inr (.inr (.inr (.inr (fun _ => none))))))) o (.inr (5, [.ref tr, .ref nx, .ref mg, .ref dk, .ref tz, .null, .int 0, .int 0, .int 0, .int 0, .int 0]))) := ((kq.refl _)).upd ((mu_ne ne_o_tz).trans (mu_self _ _ _)) (by first | exact bad5 | exact badN | exact bad6 | exact bad00)
  have hT_tr := treeAt_kq hq9 hT_tr
  have hT_nx := treeAt_kq hq9 hT_nx
  have hD_dk := hq9 _ _ (by simp [bad]) hD_dk
  refine lv_iconst (v := 0) hx hb dX5_init_69 (by decide) ?_
  refine lv_istore_n (lv' := [(1, .int 0), (0, .ref o)]) hx hb dX5_init_70 rfl hl (by decide) rfl (fun ls hl => ?_)
  refine lv_iload_n hx hb dX5_init_71 rfl (lv_at hl 0 rfl) ?_
  refine lv_aload_n hx hb dX5_init_72 rfl (lv_at hl 1 rfl) ?_
  refine m_get (T := TX5) (N := 11) (ci := 5) (v := .ref tz) hx hb hts wX5 hown hK hm (mu_self _ _ _) rfl 4 (by decide) f45 (fun _ h9 => h9) rfl dX5_init_73 ?_
  refine m_alen hx hb hK hm 4 ((mu_ne ne_tz_o).trans (mu_self _ _ _)) rfl (v := 6) rfl dX5_init_76 ?_
  refine lv_icmp_ge (tgt := 106) hx hb dX5_init_77 (by decide) (fun c6 => ?_) (fun c6 => ?_)
  · first | exact absurd c6 (by decide) | exact absurd (by decide) c6
  · refine lv_aload_n hx hb dX5_init_80 rfl (lv_at hl 1 rfl) ?_
    refine m_get (T := TX5) (N := 11) (ci := 5) (v := .ref tz) hx hb hts wX5 hown hK hm (mu_self _ _ _) rfl 4 (by decide) f45 (fun _ h9 => h9) rfl dX5_init_81 ?_
    refine lv_iload_n hx hb dX5_init_84 rfl (lv_at hl 0 rfl) ?_
    refine m_new (T := TX3) (N := 7) (ci := 3) (fs := [.null, .null, .null, .null, .null, .int 0, .int 0]) hx hb hts wX3 tyX3 tyX3_ok hown (hts (.classLink RX5 43 RX3) (by decide +kernel)) (hts (.instantiable RX3 7) (by decide +kernel)) (hts (.initialized RX3) (by decide +kernel)) hK hm hS hA rfl (fun j hj => by rcases (show j = 0 ∨ j = 1 ∨ j = 2 ∨ j = 3 ∨ j = 4 ∨ j = 5 ∨ j = 6 by omega) with rfl | rfl | rfl | rfl | rfl | rfl | rfl <;> rfl) (Nat.le_of_ble_eq_true rfl) (Nat.le_of_ble_eq_true rfl) dX5_init_85 (fun x100 H hx100 hm hS => ?_)
    refine W.widen (k := 14) (n := 349) (Nat.le_of_ble_eq_true rfl) (Nat.le_of_ble_eq_true rfl) ?_
    have hn_x100 := (hkp).no (fun h9 => absurd h9.symm (m_fr hx100 (mu_self _ _ _))) hx100
    have ne_o_x100 : o ≠ x100 := m_fr hx100 (mu_self _ _ _)
    have ne_x100_o : x100 ≠ o := Ne.symm ne_o_x100
    have ne_tr_x100 : tr ≠ x100 := m_fr hx100 hT_tr.1
    have ne_x100_tr : x100 ≠ tr := Ne.symm ne_tr_x100
    have ne_tz_x100 : tz ≠ x100 := m_fr hx100 ((mu_ne ne_tz_o).trans (mu_self _ _ _))
    have ne_x100_tz : x100 ≠ tz := Ne.symm ne_tz_x100
    have hm : mm D (AZ z) (mu (mu (mu (mu (mu (mu (mu Mc2 o (.inr (5, [.ref tr, .ref nx, .ref mg, .null, .null, .null, .int 0, .int 0, .int 0, .int 0, .int 0]))) dk (.inr (0, [.int 0, .int 0]))) dk (.inr (0, [.int 0, .int (-1)]))) o (.inr (5, [.ref tr, .ref nx, .ref mg, .ref dk, .null, .null, .int 0, .int 0, .int 0, .int 0, .int 0]))) tz (.inl (k 4, 6, .inr (.inr (.inr (.inr (fun _ => none))))))) o (.inr (5, [.ref tr, .ref nx, .ref mg, .ref dk, .ref tz, .null, .int 0, .int 0, .int 0, .int 0, .int 0]))) x100 (.inr (3, [.null, .null, .null, .null, .null, .int 0, .int 0]))) H := hm
    have hkp : kpx (fun a => a = o) M (mu (mu (mu (mu (mu (mu (mu Mc2 o (.inr (5, [.ref tr, .ref nx, .ref mg, .null, .null, .null, .int 0, .int 0, .int 0, .int 0, .int 0]))) dk (.inr (0, [.int 0, .int 0]))) dk (.inr (0, [.int 0, .int (-1)]))) o (.inr (5, [.ref tr, .ref nx, .ref mg, .ref dk, .null, .null, .int 0, .int 0, .int 0, .int 0, .int 0]))) tz (.inl (k 4, 6, .inr (.inr (.inr (.inr (fun _ => none))))))) o (.inr (5, [.ref tr, .ref nx, .ref mg, .ref dk, .ref tz, .null, .int 0, .int 0, .int 0, .int 0, .int 0]))) x100 (.inr (3, [.null, .null, .null, .null, .null, .int 0, .int 0]))) := (hkp).new hx100
    have hq9 : kq (mu (mu (mu (mu (mu (mu Mc2 o (.inr (5, [.ref tr, .ref nx, .ref mg, .null, .null, .null, .int 0, .int 0, .int 0, .int 0, .int 0]))) dk (.inr (0, [.int 0, .int 0]))) dk (.inr (0, [.int 0, .int (-1)]))) o (.inr (5, [.ref tr, .ref nx, .ref mg, .ref dk, .null, .null, .int 0, .int 0, .int 0, .int 0, .int 0]))) tz (.inl (k 4, 6, .inr (.inr (.inr (.inr (fun _ => none))))))) o (.inr (5, [.ref tr, .ref nx, .ref mg, .ref dk, .ref tz, .null, .int 0, .int 0, .int 0, .int 0, .int 0]))) (mu (mu (mu (mu (mu (mu (mu Mc2 o (.inr (5, [.ref tr, .ref nx, .ref mg, .null, .null, .null, .int 0, .int 0, .int 0, .int 0, .int 0]))) dk (.inr (0, [.int 0, .int 0]))) dk (.inr (0, [.int 0, .int (-1)]))) o (.inr (5, [.ref tr, .ref nx, .ref mg, .ref dk, .null, .null, .int 0, .int 0, .int 0, .int 0, .int 0]))) tz (.inl (k 4, 6, .inr (.inr (.inr (.inr (fun _ => none))))))) o (.inr (5, [.ref tr, .ref nx, .ref mg, .ref dk, .ref tz, .null, .int 0, .int 0, .int 0, .int 0, .int 0]))) x100 (.inr (3, [.null, .null, .null, .null, .null, .int 0, .int 0]))) := ((kq.refl _)).new hx100
    have hT_tr := treeAt_kq hq9 hT_tr
    have hT_nx := treeAt_kq hq9 hT_nx
    have hD_dk := hq9 _ _ (by simp [bad]) hD_dk
    refine lv_dup hx hb dX5_init_88 rfl ?_
    refine m_new (T := TX4) (N := 2) (ci := 4) (fs := [.null, .int 0]) hx hb hts wX4 tyX4 tyX4_ok hown (hts (.classLink RX5 7 RX4) (by decide +kernel)) (hts (.instantiable RX4 2) (by decide +kernel)) (hts (.initialized RX4) (by decide +kernel)) hK hm hS hA rfl (fun j hj => by rcases (show j = 0 ∨ j = 1 by omega) with rfl | rfl <;> rfl) (Nat.le_of_ble_eq_true rfl) (Nat.le_of_ble_eq_true rfl) dX5_init_89 (fun v100 H hv100 hm hS => ?_)
    refine W.widen (k := 15) (n := 351) (Nat.le_of_ble_eq_true rfl) (Nat.le_of_ble_eq_true rfl) ?_
    have hn_v100 := (hkp).no (fun h9 => absurd h9.symm (m_fr hv100 ((mu_ne ne_o_x100).trans (mu_self _ _ _)))) hv100
    have ne_o_v100 : o ≠ v100 := m_fr hv100 ((mu_ne ne_o_x100).trans (mu_self _ _ _))
    have ne_v100_o : v100 ≠ o := Ne.symm ne_o_v100
    have ne_tr_v100 : tr ≠ v100 := m_fr hv100 hT_tr.1
    have ne_v100_tr : v100 ≠ tr := Ne.symm ne_tr_v100
    have ne_tz_v100 : tz ≠ v100 := m_fr hv100 ((mu_ne ne_tz_x100).trans ((mu_ne ne_tz_o).trans (mu_self _ _ _)))
    have ne_v100_tz : v100 ≠ tz := Ne.symm ne_tz_v100
    have ne_x100_v100 : x100 ≠ v100 := m_fr hv100 (mu_self _ _ _)
    have ne_v100_x100 : v100 ≠ x100 := Ne.symm ne_x100_v100
    have hm : mm D (AZ z) (mu (mu (mu (mu (mu (mu (mu (mu Mc2 o (.inr (5, [.ref tr, .ref nx, .ref mg, .null, .null, .null, .int 0, .int 0, .int 0, .int 0, .int 0]))) dk (.inr (0, [.int 0, .int 0]))) dk (.inr (0, [.int 0, .int (-1)]))) o (.inr (5, [.ref tr, .ref nx, .ref mg, .ref dk, .null, .null, .int 0, .int 0, .int 0, .int 0, .int 0]))) tz (.inl (k 4, 6, .inr (.inr (.inr (.inr (fun _ => none))))))) o (.inr (5, [.ref tr, .ref nx, .ref mg, .ref dk, .ref tz, .null, .int 0, .int 0, .int 0, .int 0, .int 0]))) x100 (.inr (3, [.null, .null, .null, .null, .null, .int 0, .int 0]))) v100 (.inr (4, [.null, .int 0]))) H := hm
    have hkp : kpx (fun a => a = o) M (mu (mu (mu (mu (mu (mu (mu (mu Mc2 o (.inr (5, [.ref tr, .ref nx, .ref mg, .null, .null, .null, .int 0, .int 0, .int 0, .int 0, .int 0]))) dk (.inr (0, [.int 0, .int 0]))) dk (.inr (0, [.int 0, .int (-1)]))) o (.inr (5, [.ref tr, .ref nx, .ref mg, .ref dk, .null, .null, .int 0, .int 0, .int 0, .int 0, .int 0]))) tz (.inl (k 4, 6, .inr (.inr (.inr (.inr (fun _ => none))))))) o (.inr (5, [.ref tr, .ref nx, .ref mg, .ref dk, .ref tz, .null, .int 0, .int 0, .int 0, .int 0, .int 0]))) x100 (.inr (3, [.null, .null, .null, .null, .null, .int 0, .int 0]))) v100 (.inr (4, [.null, .int 0]))) := (hkp).new hv100
    have hq9 : kq (mu (mu (mu (mu (mu (mu (mu Mc2 o (.inr (5, [.ref tr, .ref nx, .ref mg, .null, .null, .null, .int 0, .int 0, .int 0, .int 0, .int 0]))) dk (.inr (0, [.int 0, .int 0]))) dk (.inr (0, [.int 0, .int (-1)]))) o (.inr (5, [.ref tr, .ref nx, .ref mg, .ref dk, .null, .null, .int 0, .int 0, .int 0, .int 0, .int 0]))) tz (.inl (k 4, 6, .inr (.inr (.inr (.inr (fun _ => none))))))) o (.inr (5, [.ref tr, .ref nx, .ref mg, .ref dk, .ref tz, .null, .int 0, .int 0, .int 0, .int 0, .int 0]))) x100 (.inr (3, [.null, .null, .null, .null, .null, .int 0, .int 0]))) (mu (mu (mu (mu (mu (mu (mu (mu Mc2 o (.inr (5, [.ref tr, .ref nx, .ref mg, .null, .null, .null, .int 0, .int 0, .int 0, .int 0, .int 0]))) dk (.inr (0, [.int 0, .int 0]))) dk (.inr (0, [.int 0, .int (-1)]))) o (.inr (5, [.ref tr, .ref nx, .ref mg, .ref dk, .null, .null, .int 0, .int 0, .int 0, .int 0, .int 0]))) tz (.inl (k 4, 6, .inr (.inr (.inr (.inr (fun _ => none))))))) o (.inr (5, [.ref tr, .ref nx, .ref mg, .ref dk, .ref tz, .null, .int 0, .int 0, .int 0, .int 0, .int 0]))) x100 (.inr (3, [.null, .null, .null, .null, .null, .int 0, .int 0]))) v100 (.inr (4, [.null, .int 0]))) := ((kq.refl _)).new hv100
    have hT_tr := treeAt_kq hq9 hT_tr
    have hT_nx := treeAt_kq hq9 hT_nx
    have hD_dk := hq9 _ _ (by simp [bad]) hD_dk
    refine lv_dup hx hb dX5_init_92 rfl ?_
    refine m_kIN (As := []) (rest := [.ref v100, .ref x100, .ref x100, .int 0, .ref tz]) (rm := { frames := 1, cells := 1, slots := 60, locals := 12 }) ⟨hx, hb, hml, hown, hts⟩ (c_X4_init l D k z _ v100 (mu_self _ _ _)) ⟨va_cnB 0 hts ggX5_init_X4_init rfl rfl rfl (hcx.2.2.2.2.1 (.methodLinkNest RX5 9 yX4_init "CommitTree") (by decide +kernel)) (hts (.initialized RX4) (by decide +kernel)) (by decide +kernel) ⟨Nat.le_of_ble_eq_true rfl, Nat.le_of_ble_eq_true rfl⟩, rfl, hts (.instanceMethod yX4_init) (by decide +kernel)⟩ hz hcx hm hS rfl hl.1 rfl (Nat.le_of_ble_eq_true rfl) dX5_init_93 ⟨Nat.le_of_ble_eq_true rfl, Nat.le_of_ble_eq_true rfl⟩ (fun v M1 H locs hv hm hS => ?_)
    have hT9 := hT_tr
    obtain ⟨v100n, hv100n, hv1, hM1⟩ := hv
    subst hv1
    rw [hM1] at hm
    have hn_v100n := (hkp).no (fun h9 => absurd h9.symm (m_fr hv100n ((mu_ne ne_o_v100).trans ((mu_ne ne_o_x100).trans (mu_self _ _ _))))) hv100n
    have ne_o_v100n : o ≠ v100n := m_fr hv100n ((mu_ne ne_o_v100).trans ((mu_ne ne_o_x100).trans (mu_self _ _ _)))
    have ne_v100n_o : v100n ≠ o := Ne.symm ne_o_v100n
    have ne_tr_v100n : tr ≠ v100n := m_fr hv100n hT_tr.1
    have ne_v100n_tr : v100n ≠ tr := Ne.symm ne_tr_v100n
    have ne_tz_v100n : tz ≠ v100n := m_fr hv100n ((mu_ne ne_tz_v100).trans ((mu_ne ne_tz_x100).trans ((mu_ne ne_tz_o).trans (mu_self _ _ _))))
    have ne_v100n_tz : v100n ≠ tz := Ne.symm ne_tz_v100n
    have ne_x100_v100n : x100 ≠ v100n := m_fr hv100n ((mu_ne ne_x100_v100).trans (mu_self _ _ _))
    have ne_v100n_x100 : v100n ≠ x100 := Ne.symm ne_x100_v100n
    have ne_v100_v100n : v100 ≠ v100n := m_fr hv100n (mu_self _ _ _)
    have ne_v100n_v100 : v100n ≠ v100 := Ne.symm ne_v100_v100n
    have hm : mm D (AZ z) (mu (mu (mu (mu (mu (mu (mu (mu (mu (mu Mc2 o (.inr (5, [.ref tr, .ref nx, .ref mg, .null, .null, .null, .int 0, .int 0, .int 0, .int 0, .int 0]))) dk (.inr (0, [.int 0, .int 0]))) dk (.inr (0, [.int 0, .int (-1)]))) o (.inr (5, [.ref tr, .ref nx, .ref mg, .ref dk, .null, .null, .int 0, .int 0, .int 0, .int 0, .int 0]))) tz (.inl (k 4, 6, .inr (.inr (.inr (.inr (fun _ => none))))))) o (.inr (5, [.ref tr, .ref nx, .ref mg, .ref dk, .ref tz, .null, .int 0, .int 0, .int 0, .int 0, .int 0]))) x100 (.inr (3, [.null, .null, .null, .null, .null, .int 0, .int 0]))) v100 (.inr (4, [.null, .int 0]))) v100n (.inl (k 3, 60, .inr (.inr (.inr (.inr (fun _ => none))))))) v100 (.inr (4, [.ref v100n, .int 0]))) H := hm
    have hkp : kpx (fun a => a = o) M (mu (mu (mu (mu (mu (mu (mu (mu (mu (mu Mc2 o (.inr (5, [.ref tr, .ref nx, .ref mg, .null, .null, .null, .int 0, .int 0, .int 0, .int 0, .int 0]))) dk (.inr (0, [.int 0, .int 0]))) dk (.inr (0, [.int 0, .int (-1)]))) o (.inr (5, [.ref tr, .ref nx, .ref mg, .ref dk, .null, .null, .int 0, .int 0, .int 0, .int 0, .int 0]))) tz (.inl (k 4, 6, .inr (.inr (.inr (.inr (fun _ => none))))))) o (.inr (5, [.ref tr, .ref nx, .ref mg, .ref dk, .ref tz, .null, .int 0, .int 0, .int 0, .int 0, .int 0]))) x100 (.inr (3, [.null, .null, .null, .null, .null, .int 0, .int 0]))) v100 (.inr (4, [.null, .int 0]))) v100n (.inl (k 3, 60, .inr (.inr (.inr (.inr (fun _ => none))))))) v100 (.inr (4, [.ref v100n, .int 0]))) := ((hkp).new hv100n).old hn_v100
    have hq9 : kq (mu (mu (mu (mu (mu (mu (mu (mu Mc2 o (.inr (5, [.ref tr, .ref nx, .ref mg, .null, .null, .null, .int 0, .int 0, .int 0, .int 0, .int 0]))) dk (.inr (0, [.int 0, .int 0]))) dk (.inr (0, [.int 0, .int (-1)]))) o (.inr (5, [.ref tr, .ref nx, .ref mg, .ref dk, .null, .null, .int 0, .int 0, .int 0, .int 0, .int 0]))) tz (.inl (k 4, 6, .inr (.inr (.inr (.inr (fun _ => none))))))) o (.inr (5, [.ref tr, .ref nx, .ref mg, .ref dk, .ref tz, .null, .int 0, .int 0, .int 0, .int 0, .int 0]))) x100 (.inr (3, [.null, .null, .null, .null, .null, .int 0, .int 0]))) v100 (.inr (4, [.null, .int 0]))) (mu (mu (mu (mu (mu (mu (mu (mu (mu (mu Mc2 o (.inr (5, [.ref tr, .ref nx, .ref mg, .null, .null, .null, .int 0, .int 0, .int 0, .int 0, .int 0]))) dk (.inr (0, [.int 0, .int 0]))) dk (.inr (0, [.int 0, .int (-1)]))) o (.inr (5, [.ref tr, .ref nx, .ref mg, .ref dk, .null, .null, .int 0, .int 0, .int 0, .int 0, .int 0]))) tz (.inl (k 4, 6, .inr (.inr (.inr (.inr (fun _ => none))))))) o (.inr (5, [.ref tr, .ref nx, .ref mg, .ref dk, .ref tz, .null, .int 0, .int 0, .int 0, .int 0, .int 0]))) x100 (.inr (3, [.null, .null, .null, .null, .null, .int 0, .int 0]))) v100 (.inr (4, [.null, .int 0]))) v100n (.inl (k 3, 60, .inr (.inr (.inr (.inr (fun _ => none))))))) v100 (.inr (4, [.ref v100n, .int 0]))) := (((kq.refl _)).new hv100n).upd ((mu_ne ne_v100_v100n).trans (mu_self _ _ _)) (by first | exact bad5 | exact badN | exact bad6 | exact bad00)
    have hT_tr := treeAt_kq hq9 hT_tr
    have hT_nx := treeAt_kq hq9 hT_nx
    have hD_dk := hq9 _ _ (by simp [bad]) hD_dk
    have hT_v100 : treeAt k (mu (mu (mu (mu (mu (mu (mu (mu (mu (mu Mc2 o (.inr (5, [.ref tr, .ref nx, .ref mg, .null, .null, .null, .int 0, .int 0, .int 0, .int 0, .int 0]))) dk (.inr (0, [.int 0, .int 0]))) dk (.inr (0, [.int 0, .int (-1)]))) o (.inr (5, [.ref tr, .ref nx, .ref mg, .ref dk, .null, .null, .int 0, .int 0, .int 0, .int 0, .int 0]))) tz (.inl (k 4, 6, .inr (.inr (.inr (.inr (fun _ => none))))))) o (.inr (5, [.ref tr, .ref nx, .ref mg, .ref dk, .ref tz, .null, .int 0, .int 0, .int 0, .int 0, .int 0]))) x100 (.inr (3, [.null, .null, .null, .null, .null, .int 0, .int 0]))) v100 (.inr (4, [.null, .int 0]))) v100n (.inl (k 3, 60, .inr (.inr (.inr (.inr (fun _ => none))))))) v100 (.inr (4, [.ref v100n, .int 0]))) v100 v100n (fun _ => none) [] := ⟨(mu_self _ _ _), ((mu_ne ne_v100n_v100).trans (mu_self _ _ _)), Nat.zero_le _, fun j v hv => by simp at hv⟩
    have ne_trn_v100 : trn ≠ v100n := m_fr hv100n hT9.2.1
    refine W.eq (g2 := F0 m 96 ls [.ref v100, .ref x100, .ref x100, .int 0, .ref tz]) rfl ?_
    refine W.widen (k := 16) (n := 411) (Nat.le_of_ble_eq_true rfl) (Nat.le_of_ble_eq_true rfl) ?_
    have hm : mm D (AZ z) (mu (mu (mu (mu (mu (mu (mu (mu (mu (mu Mc2 o (.inr (5, [.ref tr, .ref nx, .ref mg, .null, .null, .null, .int 0, .int 0, .int 0, .int 0, .int 0]))) dk (.inr (0, [.int 0, .int 0]))) dk (.inr (0, [.int 0, .int (-1)]))) o (.inr (5, [.ref tr, .ref nx, .ref mg, .ref dk, .null, .null, .int 0, .int 0, .int 0, .int 0, .int 0]))) tz (.inl (k 4, 6, .inr (.inr (.inr (.inr (fun _ => none))))))) o (.inr (5, [.ref tr, .ref nx, .ref mg, .ref dk, .ref tz, .null, .int 0, .int 0, .int 0, .int 0, .int 0]))) x100 (.inr (3, [.null, .null, .null, .null, .null, .int 0, .int 0]))) v100 (.inr (4, [.null, .int 0]))) v100n (.inl (k 3, 60, .inr (.inr (.inr (.inr (fun _ => none))))))) v100 (.inr (4, [.ref v100n, .int 0]))) H := hm
    refine m_kI (As := [.ref v100]) (rest := [.ref x100, .int 0, .ref tz]) (rm := { frames := 2, cells := 11, slots := 371, locals := 32 }) ⟨hx, hb, hml, hown, hts⟩ (c_X3_init l D k z _ x100 v100 ((mu_ne ne_x100_v100).trans ((mu_ne ne_x100_v100n).trans ((mu_ne ne_x100_v100).trans (mu_self _ _ _))))) (cwI 1 hts gX5_init_X3_init rfl rfl rfl (hts (.initialized RX3) (by decide +kernel)) (hts (.methodLink RX5 49 yX3_init) (by decide +kernel)) (hts (.instanceMethod yX3_init) (by decide +kernel)) rfl (by decide +kernel) ⟨Nat.le_of_ble_eq_true rfl, Nat.le_of_ble_eq_true rfl⟩) hz hcx hm hS rfl hl.1 rfl (Nat.le_of_ble_eq_true rfl) dX5_init_96 ⟨Nat.le_of_ble_eq_true rfl, Nat.le_of_ble_eq_true rfl⟩ (fun v M1 H locs hv hm hS => ?_)
    obtain ⟨hv1, hk9, hx9⟩ := hv
    subst hv1
    have hq9 : kq (mu (mu (mu (mu (mu (mu (mu (mu (mu (mu Mc2 o (.inr (5, [.ref tr, .ref nx, .ref mg, .null, .null, .null, .int 0, .int 0, .int 0, .int 0, .int 0]))) dk (.inr (0, [.int 0, .int 0]))) dk (.inr (0, [.int 0, .int (-1)]))) o (.inr (5, [.ref tr, .ref nx, .ref mg, .ref dk, .null, .null, .int 0, .int 0, .int 0, .int 0, .int 0]))) tz (.inl (k 4, 6, .inr (.inr (.inr (.inr (fun _ => none))))))) o (.inr (5, [.ref tr, .ref nx, .ref mg, .ref dk, .ref tz, .null, .int 0, .int 0, .int 0, .int 0, .int 0]))) x100 (.inr (3, [.null, .null, .null, .null, .null, .int 0, .int 0]))) v100 (.inr (4, [.null, .int 0]))) v100n (.inl (k 3, 60, .inr (.inr (.inr (.inr (fun _ => none))))))) v100 (.inr (4, [.ref v100n, .int 0]))) M1 := kq.made hk9 ((mu_ne ne_x100_v100).trans ((mu_ne ne_x100_v100n).trans ((mu_ne ne_x100_v100).trans (mu_self _ _ _)))) badN
    have k_o : M1 o = some _ := hk9 _ _ ne_o_x100 ((mu_ne ne_o_v100).trans ((mu_ne ne_o_v100n).trans ((mu_ne ne_o_v100).trans ((mu_ne ne_o_x100).trans (mu_self _ _ _)))))
    have k_tz : M1 tz = some _ := hk9 _ _ ne_tz_x100 ((mu_ne ne_tz_v100).trans ((mu_ne ne_tz_v100n).trans ((mu_ne ne_tz_v100).trans ((mu_ne ne_tz_x100).trans ((mu_ne ne_tz_o).trans (mu_self _ _ _))))))
    have hkp : kpx (fun a => a = o) M M1 := hkp.call hk9 hn_x100
    have hX_x100 := txF_of hT_tr hT_v100 ne_tr_v100 ne_trn_v100 hq9 hx9
    have hC_x100 := hx9
    obtain ⟨b9, bn9, mk9, cr9, fr9, -, hC_x100, -⟩ := hx9
    have hT_tr := treeAt_kq hq9 hT_tr
    have hT_nx := treeAt_kq hq9 hT_nx
    have hD_dk := hq9 _ _ (by simp [bad]) hD_dk
    obtain ⟨Mc3, hMx⟩ : ∃ x : mM, x = M1 := ⟨M1, rfl⟩
    subst hMx
    refine W.eq (g2 := F0 m 99 ls [.ref x100, .int 0, .ref tz]) rfl ?_
    refine W.widen (k := 27) (n := 782) (Nat.le_of_ble_eq_true rfl) (Nat.le_of_ble_eq_true rfl) ?_
    have hm : mm D (AZ z) Mc3 H := hm
    refine m_aast (r := (RX3, TX3, 7)) hx hb hK hm hS 4 3 k_tz rfl hC_x100 rfl (by unfold vp_in; decide) dX5_init_99 (fun H locs hm hS => ?_)
    have hm : mm D (AZ z) (mu Mc3 tz (.inl (k 4, 6, .inr (.inr (.inr (.inr (va_up (fun _ => none) (0 : Int32).toNatClampNeg (some x100)))))))) H := hm
    have hkp : kpx (fun a => a = o) M (mu Mc3 tz (.inl (k 4, 6, .inr (.inr (.inr (.inr (va_up (fun _ => none) (0 : Int32).toNatClampNeg (some x100)))))))) := (hkp).old hn_tz
    have hq9 : kq Mc3 (mu Mc3 tz (.inl (k 4, 6, .inr (.inr (.inr (.inr (va_up (fun _ => none) (0 : Int32).toNatClampNeg (some x100)))))))) := ((kq.refl _)).upd k_tz (by first | exact bad5 | exact badN | exact bad6 | exact bad00)
    have hT_tr := treeAt_kq hq9 hT_tr
    have hT_nx := treeAt_kq hq9 hT_nx
    have hD_dk := hq9 _ _ (by simp [bad]) hD_dk
    have hX_x100 := txF_kq hq9 hX_x100
    have hC_x100 := hq9 _ _ (by simp [bad]) hC_x100
    refine lv_iinc (v := 1) (lv' := [(1, .int 1), (0, .ref o)]) hx hb dX5_init_100 hl (k := 0) rfl rfl (by decide) rfl (fun ls hl => ?_)
    refine lv_goto (tgt := 71) hx hb dX5_init_103 (by decide) ?_
    refine lv_iload_n hx hb dX5_init_71 rfl (lv_at hl 0 rfl) ?_
    refine lv_aload_n hx hb dX5_init_72 rfl (lv_at hl 1 rfl) ?_
    refine m_get (T := TX5) (N := 11) (ci := 5) (v := .ref tz) hx hb hts wX5 hown hK hm ((mu_ne ne_o_tz).trans k_o) rfl 4 (by decide) f45 (fun _ h9 => h9) rfl dX5_init_73 ?_
    refine m_alen hx hb hK hm 4 (mu_self _ _ _) rfl (v := 6) rfl dX5_init_76 ?_
    refine lv_icmp_ge (tgt := 106) hx hb dX5_init_77 (by decide) (fun c9 => ?_) (fun c9 => ?_)
    · first | exact absurd c9 (by decide) | exact absurd (by decide) c9
    · refine lv_aload_n hx hb dX5_init_80 rfl (lv_at hl 1 rfl) ?_
      refine m_get (T := TX5) (N := 11) (ci := 5) (v := .ref tz) hx hb hts wX5 hown hK hm ((mu_ne ne_o_tz).trans k_o) rfl 4 (by decide) f45 (fun _ h9 => h9) rfl dX5_init_81 ?_
      refine lv_iload_n hx hb dX5_init_84 rfl (lv_at hl 0 rfl) ?_
      refine m_new (T := TX3) (N := 7) (ci := 3) (fs := [.null, .null, .null, .null, .null, .int 0, .int 0]) hx hb hts wX3 tyX3 tyX3_ok hown (hts (.classLink RX5 43 RX3) (by decide +kernel)) (hts (.instantiable RX3 7) (by decide +kernel)) (hts (.initialized RX3) (by decide +kernel)) hK hm hS hA rfl (fun j hj => by rcases (show j = 0 ∨ j = 1 ∨ j = 2 ∨ j = 3 ∨ j = 4 ∨ j = 5 ∨ j = 6 by omega) with rfl | rfl | rfl | rfl | rfl | rfl | rfl <;> rfl) (Nat.le_of_ble_eq_true rfl) (Nat.le_of_ble_eq_true rfl) dX5_init_85 (fun x101 H hx101 hm hS => ?_)
      refine W.widen (k := 28) (n := 789) (Nat.le_of_ble_eq_true rfl) (Nat.le_of_ble_eq_true rfl) ?_
      have hn_x101 := (hkp).no (fun h9 => absurd h9.symm (m_fr hx101 ((mu_ne ne_o_tz).trans k_o))) hx101
      have ne_o_x101 : o ≠ x101 := m_fr hx101 ((mu_ne ne_o_tz).trans k_o)
      have ne_x101_o : x101 ≠ o := Ne.symm ne_o_x101
      have ne_tz_x101 : tz ≠ x101 := m_fr hx101 (mu_self _ _ _)
      have ne_x101_tz : x101 ≠ tz := Ne.symm ne_tz_x101
      have ne_tr_x101 : tr ≠ x101 := m_fr hx101 hT_tr.1
      have ne_x101_tr : x101 ≠ tr := Ne.symm ne_tr_x101
      have hm : mm D (AZ z) (mu (mu Mc3 tz (.inl (k 4, 6, .inr (.inr (.inr (.inr (va_up (fun _ => none) (0 : Int32).toNatClampNeg (some x100)))))))) x101 (.inr (3, [.null, .null, .null, .null, .null, .int 0, .int 0]))) H := hm
      have hkp : kpx (fun a => a = o) M (mu (mu Mc3 tz (.inl (k 4, 6, .inr (.inr (.inr (.inr (va_up (fun _ => none) (0 : Int32).toNatClampNeg (some x100)))))))) x101 (.inr (3, [.null, .null, .null, .null, .null, .int 0, .int 0]))) := (hkp).new hx101
      have hq9 : kq (mu Mc3 tz (.inl (k 4, 6, .inr (.inr (.inr (.inr (va_up (fun _ => none) (0 : Int32).toNatClampNeg (some x100)))))))) (mu (mu Mc3 tz (.inl (k 4, 6, .inr (.inr (.inr (.inr (va_up (fun _ => none) (0 : Int32).toNatClampNeg (some x100)))))))) x101 (.inr (3, [.null, .null, .null, .null, .null, .int 0, .int 0]))) := ((kq.refl _)).new hx101
      have hT_tr := treeAt_kq hq9 hT_tr
      have hT_nx := treeAt_kq hq9 hT_nx
      have hD_dk := hq9 _ _ (by simp [bad]) hD_dk
      have hX_x100 := txF_kq hq9 hX_x100
      refine lv_dup hx hb dX5_init_88 rfl ?_
      refine m_new (T := TX4) (N := 2) (ci := 4) (fs := [.null, .int 0]) hx hb hts wX4 tyX4 tyX4_ok hown (hts (.classLink RX5 7 RX4) (by decide +kernel)) (hts (.instantiable RX4 2) (by decide +kernel)) (hts (.initialized RX4) (by decide +kernel)) hK hm hS hA rfl (fun j hj => by rcases (show j = 0 ∨ j = 1 by omega) with rfl | rfl <;> rfl) (Nat.le_of_ble_eq_true rfl) (Nat.le_of_ble_eq_true rfl) dX5_init_89 (fun v101 H hv101 hm hS => ?_)
      refine W.widen (k := 29) (n := 791) (Nat.le_of_ble_eq_true rfl) (Nat.le_of_ble_eq_true rfl) ?_
      have hn_v101 := (hkp).no (fun h9 => absurd h9.symm (m_fr hv101 ((mu_ne ne_o_x101).trans ((mu_ne ne_o_tz).trans k_o)))) hv101
      have ne_o_v101 : o ≠ v101 := m_fr hv101 ((mu_ne ne_o_x101).trans ((mu_ne ne_o_tz).trans k_o))
      have ne_v101_o : v101 ≠ o := Ne.symm ne_o_v101
      have ne_tz_v101 : tz ≠ v101 := m_fr hv101 ((mu_ne ne_tz_x101).trans (mu_self _ _ _))
      have ne_v101_tz : v101 ≠ tz := Ne.symm ne_tz_v101
      have ne_tr_v101 : tr ≠ v101 := m_fr hv101 hT_tr.1
      have ne_v101_tr : v101 ≠ tr := Ne.symm ne_tr_v101
      have ne_x101_v101 : x101 ≠ v101 := m_fr hv101 (mu_self _ _ _)
      have ne_v101_x101 : v101 ≠ x101 := Ne.symm ne_x101_v101
      have hm : mm D (AZ z) (mu (mu (mu Mc3 tz (.inl (k 4, 6, .inr (.inr (.inr (.inr (va_up (fun _ => none) (0 : Int32).toNatClampNeg (some x100)))))))) x101 (.inr (3, [.null, .null, .null, .null, .null, .int 0, .int 0]))) v101 (.inr (4, [.null, .int 0]))) H := hm
      have hkp : kpx (fun a => a = o) M (mu (mu (mu Mc3 tz (.inl (k 4, 6, .inr (.inr (.inr (.inr (va_up (fun _ => none) (0 : Int32).toNatClampNeg (some x100)))))))) x101 (.inr (3, [.null, .null, .null, .null, .null, .int 0, .int 0]))) v101 (.inr (4, [.null, .int 0]))) := (hkp).new hv101
      have hq9 : kq (mu (mu Mc3 tz (.inl (k 4, 6, .inr (.inr (.inr (.inr (va_up (fun _ => none) (0 : Int32).toNatClampNeg (some x100)))))))) x101 (.inr (3, [.null, .null, .null, .null, .null, .int 0, .int 0]))) (mu (mu (mu Mc3 tz (.inl (k 4, 6, .inr (.inr (.inr (.inr (va_up (fun _ => none) (0 : Int32).toNatClampNeg (some x100)))))))) x101 (.inr (3, [.null, .null, .null, .null, .null, .int 0, .int 0]))) v101 (.inr (4, [.null, .int 0]))) := ((kq.refl _)).new hv101
      have hT_tr := treeAt_kq hq9 hT_tr
      have hT_nx := treeAt_kq hq9 hT_nx
      have hD_dk := hq9 _ _ (by simp [bad]) hD_dk
      have hX_x100 := txF_kq hq9 hX_x100
      refine lv_dup hx hb dX5_init_92 rfl ?_
      refine m_kIN (As := []) (rest := [.ref v101, .ref x101, .ref x101, .int 1, .ref tz]) (rm := { frames := 1, cells := 1, slots := 60, locals := 12 }) ⟨hx, hb, hml, hown, hts⟩ (c_X4_init l D k z _ v101 (mu_self _ _ _)) ⟨va_cnB 0 hts ggX5_init_X4_init rfl rfl rfl (hcx.2.2.2.2.1 (.methodLinkNest RX5 9 yX4_init "CommitTree") (by decide +kernel)) (hts (.initialized RX4) (by decide +kernel)) (by decide +kernel) ⟨Nat.le_of_ble_eq_true rfl, Nat.le_of_ble_eq_true rfl⟩, rfl, hts (.instanceMethod yX4_init) (by decide +kernel)⟩ hz hcx hm hS rfl hl.1 rfl (Nat.le_of_ble_eq_true rfl) dX5_init_93 ⟨Nat.le_of_ble_eq_true rfl, Nat.le_of_ble_eq_true rfl⟩ (fun v M1 H locs hv hm hS => ?_)
      have hT9 := hT_tr
      obtain ⟨v101n, hv101n, hv1, hM1⟩ := hv
      subst hv1
      rw [hM1] at hm
      have hn_v101n := (hkp).no (fun h9 => absurd h9.symm (m_fr hv101n ((mu_ne ne_o_v101).trans ((mu_ne ne_o_x101).trans ((mu_ne ne_o_tz).trans k_o))))) hv101n
      have ne_o_v101n : o ≠ v101n := m_fr hv101n ((mu_ne ne_o_v101).trans ((mu_ne ne_o_x101).trans ((mu_ne ne_o_tz).trans k_o)))
      have ne_v101n_o : v101n ≠ o := Ne.symm ne_o_v101n
      have ne_tz_v101n : tz ≠ v101n := m_fr hv101n ((mu_ne ne_tz_v101).trans ((mu_ne ne_tz_x101).trans (mu_self _ _ _)))
      have ne_v101n_tz : v101n ≠ tz := Ne.symm ne_tz_v101n
      have ne_tr_v101n : tr ≠ v101n := m_fr hv101n hT_tr.1
      have ne_v101n_tr : v101n ≠ tr := Ne.symm ne_tr_v101n
      have ne_x101_v101n : x101 ≠ v101n := m_fr hv101n ((mu_ne ne_x101_v101).trans (mu_self _ _ _))
      have ne_v101n_x101 : v101n ≠ x101 := Ne.symm ne_x101_v101n
      have ne_v101_v101n : v101 ≠ v101n := m_fr hv101n (mu_self _ _ _)
      have ne_v101n_v101 : v101n ≠ v101 := Ne.symm ne_v101_v101n
      have hm : mm D (AZ z) (mu (mu (mu (mu (mu Mc3 tz (.inl (k 4, 6, .inr (.inr (.inr (.inr (va_up (fun _ => none) (0 : Int32).toNatClampNeg (some x100)))))))) x101 (.inr (3, [.null, .null, .null, .null, .null, .int 0, .int 0]))) v101 (.inr (4, [.null, .int 0]))) v101n (.inl (k 3, 60, .inr (.inr (.inr (.inr (fun _ => none))))))) v101 (.inr (4, [.ref v101n, .int 0]))) H := hm
      have hkp : kpx (fun a => a = o) M (mu (mu (mu (mu (mu Mc3 tz (.inl (k 4, 6, .inr (.inr (.inr (.inr (va_up (fun _ => none) (0 : Int32).toNatClampNeg (some x100)))))))) x101 (.inr (3, [.null, .null, .null, .null, .null, .int 0, .int 0]))) v101 (.inr (4, [.null, .int 0]))) v101n (.inl (k 3, 60, .inr (.inr (.inr (.inr (fun _ => none))))))) v101 (.inr (4, [.ref v101n, .int 0]))) := ((hkp).new hv101n).old hn_v101
      have hq9 : kq (mu (mu (mu Mc3 tz (.inl (k 4, 6, .inr (.inr (.inr (.inr (va_up (fun _ => none) (0 : Int32).toNatClampNeg (some x100)))))))) x101 (.inr (3, [.null, .null, .null, .null, .null, .int 0, .int 0]))) v101 (.inr (4, [.null, .int 0]))) (mu (mu (mu (mu (mu Mc3 tz (.inl (k 4, 6, .inr (.inr (.inr (.inr (va_up (fun _ => none) (0 : Int32).toNatClampNeg (some x100)))))))) x101 (.inr (3, [.null, .null, .null, .null, .null, .int 0, .int 0]))) v101 (.inr (4, [.null, .int 0]))) v101n (.inl (k 3, 60, .inr (.inr (.inr (.inr (fun _ => none))))))) v101 (.inr (4, [.ref v101n, .int 0]))) := (((kq.refl _)).new hv101n).upd ((mu_ne ne_v101_v101n).trans (mu_self _ _ _)) (by first | exact bad5 | exact badN | exact bad6 | exact bad00)
      have hT_tr := treeAt_kq hq9 hT_tr
      have hT_nx := treeAt_kq hq9 hT_nx
      have hD_dk := hq9 _ _ (by simp [bad]) hD_dk
      have hX_x100 := txF_kq hq9 hX_x100
      have hT_v101 : treeAt k (mu (mu (mu (mu (mu Mc3 tz (.inl (k 4, 6, .inr (.inr (.inr (.inr (va_up (fun _ => none) (0 : Int32).toNatClampNeg (some x100)))))))) x101 (.inr (3, [.null, .null, .null, .null, .null, .int 0, .int 0]))) v101 (.inr (4, [.null, .int 0]))) v101n (.inl (k 3, 60, .inr (.inr (.inr (.inr (fun _ => none))))))) v101 (.inr (4, [.ref v101n, .int 0]))) v101 v101n (fun _ => none) [] := ⟨(mu_self _ _ _), ((mu_ne ne_v101n_v101).trans (mu_self _ _ _)), Nat.zero_le _, fun j v hv => by simp at hv⟩
      have ne_trn_v101 : trn ≠ v101n := m_fr hv101n hT9.2.1
      refine W.eq (g2 := F0 m 96 ls [.ref v101, .ref x101, .ref x101, .int 1, .ref tz]) rfl ?_
      refine W.widen (k := 30) (n := 851) (Nat.le_of_ble_eq_true rfl) (Nat.le_of_ble_eq_true rfl) ?_
      have hm : mm D (AZ z) (mu (mu (mu (mu (mu Mc3 tz (.inl (k 4, 6, .inr (.inr (.inr (.inr (va_up (fun _ => none) (0 : Int32).toNatClampNeg (some x100)))))))) x101 (.inr (3, [.null, .null, .null, .null, .null, .int 0, .int 0]))) v101 (.inr (4, [.null, .int 0]))) v101n (.inl (k 3, 60, .inr (.inr (.inr (.inr (fun _ => none))))))) v101 (.inr (4, [.ref v101n, .int 0]))) H := hm
      refine m_kI (As := [.ref v101]) (rest := [.ref x101, .int 1, .ref tz]) (rm := { frames := 2, cells := 11, slots := 371, locals := 32 }) ⟨hx, hb, hml, hown, hts⟩ (c_X3_init l D k z _ x101 v101 ((mu_ne ne_x101_v101).trans ((mu_ne ne_x101_v101n).trans ((mu_ne ne_x101_v101).trans (mu_self _ _ _))))) (cwI 1 hts gX5_init_X3_init rfl rfl rfl (hts (.initialized RX3) (by decide +kernel)) (hts (.methodLink RX5 49 yX3_init) (by decide +kernel)) (hts (.instanceMethod yX3_init) (by decide +kernel)) rfl (by decide +kernel) ⟨Nat.le_of_ble_eq_true rfl, Nat.le_of_ble_eq_true rfl⟩) hz hcx hm hS rfl hl.1 rfl (Nat.le_of_ble_eq_true rfl) dX5_init_96 ⟨Nat.le_of_ble_eq_true rfl, Nat.le_of_ble_eq_true rfl⟩ (fun v M1 H locs hv hm hS => ?_)
      obtain ⟨hv1, hk9, hx9⟩ := hv
      subst hv1
      have hq9 : kq (mu (mu (mu (mu (mu Mc3 tz (.inl (k 4, 6, .inr (.inr (.inr (.inr (va_up (fun _ => none) (0 : Int32).toNatClampNeg (some x100)))))))) x101 (.inr (3, [.null, .null, .null, .null, .null, .int 0, .int 0]))) v101 (.inr (4, [.null, .int 0]))) v101n (.inl (k 3, 60, .inr (.inr (.inr (.inr (fun _ => none))))))) v101 (.inr (4, [.ref v101n, .int 0]))) M1 := kq.made hk9 ((mu_ne ne_x101_v101).trans ((mu_ne ne_x101_v101n).trans ((mu_ne ne_x101_v101).trans (mu_self _ _ _)))) badN
      have k_o : M1 o = some _ := hk9 _ _ ne_o_x101 ((mu_ne ne_o_v101).trans ((mu_ne ne_o_v101n).trans ((mu_ne ne_o_v101).trans ((mu_ne ne_o_x101).trans ((mu_ne ne_o_tz).trans k_o)))))
      have k_tz : M1 tz = some _ := hk9 _ _ ne_tz_x101 ((mu_ne ne_tz_v101).trans ((mu_ne ne_tz_v101n).trans ((mu_ne ne_tz_v101).trans ((mu_ne ne_tz_x101).trans (mu_self _ _ _)))))
      have hkp : kpx (fun a => a = o) M M1 := hkp.call hk9 hn_x101
      have hX_x101 := txF_of hT_tr hT_v101 ne_tr_v101 ne_trn_v101 hq9 hx9
      have hC_x101 := hx9
      obtain ⟨b9, bn9, mk9, cr9, fr9, -, hC_x101, -⟩ := hx9
      have hT_tr := treeAt_kq hq9 hT_tr
      have hT_nx := treeAt_kq hq9 hT_nx
      have hD_dk := hq9 _ _ (by simp [bad]) hD_dk
      have hX_x100 := txF_kq hq9 hX_x100
      obtain ⟨Mc4, hMx⟩ : ∃ x : mM, x = M1 := ⟨M1, rfl⟩
      subst hMx
      refine W.eq (g2 := F0 m 99 ls [.ref x101, .int 1, .ref tz]) rfl ?_
      refine W.widen (k := 41) (n := 1222) (Nat.le_of_ble_eq_true rfl) (Nat.le_of_ble_eq_true rfl) ?_
      have hm : mm D (AZ z) Mc4 H := hm
      refine m_aast (r := (RX3, TX3, 7)) hx hb hK hm hS 4 3 k_tz rfl hC_x101 rfl (by unfold vp_in; decide) dX5_init_99 (fun H locs hm hS => ?_)
      have hm : mm D (AZ z) (mu Mc4 tz (.inl (k 4, 6, .inr (.inr (.inr (.inr (va_up (va_up (fun _ => none) (0 : Int32).toNatClampNeg (some x100)) (1 : Int32).toNatClampNeg (some x101)))))))) H := hm
      have hkp : kpx (fun a => a = o) M (mu Mc4 tz (.inl (k 4, 6, .inr (.inr (.inr (.inr (va_up (va_up (fun _ => none) (0 : Int32).toNatClampNeg (some x100)) (1 : Int32).toNatClampNeg (some x101)))))))) := (hkp).old hn_tz
      have hq9 : kq Mc4 (mu Mc4 tz (.inl (k 4, 6, .inr (.inr (.inr (.inr (va_up (va_up (fun _ => none) (0 : Int32).toNatClampNeg (some x100)) (1 : Int32).toNatClampNeg (some x101)))))))) := ((kq.refl _)).upd k_tz (by first | exact bad5 | exact badN | exact bad6 | exact bad00)
      have hT_tr := treeAt_kq hq9 hT_tr
      have hT_nx := treeAt_kq hq9 hT_nx
      have hD_dk := hq9 _ _ (by simp [bad]) hD_dk
      have hX_x100 := txF_kq hq9 hX_x100
      have hX_x101 := txF_kq hq9 hX_x101
      have hC_x101 := hq9 _ _ (by simp [bad]) hC_x101
      refine lv_iinc (v := 2) (lv' := [(1, .int 2), (0, .ref o)]) hx hb dX5_init_100 hl (k := 0) rfl rfl (by decide) rfl (fun ls hl => ?_)
      refine lv_goto (tgt := 71) hx hb dX5_init_103 (by decide) ?_
      refine lv_iload_n hx hb dX5_init_71 rfl (lv_at hl 0 rfl) ?_
      refine lv_aload_n hx hb dX5_init_72 rfl (lv_at hl 1 rfl) ?_
      refine m_get (T := TX5) (N := 11) (ci := 5) (v := .ref tz) hx hb hts wX5 hown hK hm ((mu_ne ne_o_tz).trans k_o) rfl 4 (by decide) f45 (fun _ h9 => h9) rfl dX5_init_73 ?_
      refine m_alen hx hb hK hm 4 (mu_self _ _ _) rfl (v := 6) rfl dX5_init_76 ?_
      refine lv_icmp_ge (tgt := 106) hx hb dX5_init_77 (by decide) (fun c12 => ?_) (fun c12 => ?_)
      · first | exact absurd c12 (by decide) | exact absurd (by decide) c12
      · refine lv_aload_n hx hb dX5_init_80 rfl (lv_at hl 1 rfl) ?_
        refine m_get (T := TX5) (N := 11) (ci := 5) (v := .ref tz) hx hb hts wX5 hown hK hm ((mu_ne ne_o_tz).trans k_o) rfl 4 (by decide) f45 (fun _ h9 => h9) rfl dX5_init_81 ?_
        refine lv_iload_n hx hb dX5_init_84 rfl (lv_at hl 0 rfl) ?_
        refine m_new (T := TX3) (N := 7) (ci := 3) (fs := [.null, .null, .null, .null, .null, .int 0, .int 0]) hx hb hts wX3 tyX3 tyX3_ok hown (hts (.classLink RX5 43 RX3) (by decide +kernel)) (hts (.instantiable RX3 7) (by decide +kernel)) (hts (.initialized RX3) (by decide +kernel)) hK hm hS hA rfl (fun j hj => by rcases (show j = 0 ∨ j = 1 ∨ j = 2 ∨ j = 3 ∨ j = 4 ∨ j = 5 ∨ j = 6 by omega) with rfl | rfl | rfl | rfl | rfl | rfl | rfl <;> rfl) (Nat.le_of_ble_eq_true rfl) (Nat.le_of_ble_eq_true rfl) dX5_init_85 (fun x102 H hx102 hm hS => ?_)
        refine W.widen (k := 42) (n := 1229) (Nat.le_of_ble_eq_true rfl) (Nat.le_of_ble_eq_true rfl) ?_
        have hn_x102 := (hkp).no (fun h9 => absurd h9.symm (m_fr hx102 ((mu_ne ne_o_tz).trans k_o))) hx102
        have ne_o_x102 : o ≠ x102 := m_fr hx102 ((mu_ne ne_o_tz).trans k_o)
        have ne_x102_o : x102 ≠ o := Ne.symm ne_o_x102
        have ne_tz_x102 : tz ≠ x102 := m_fr hx102 (mu_self _ _ _)
        have ne_x102_tz : x102 ≠ tz := Ne.symm ne_tz_x102
        have ne_tr_x102 : tr ≠ x102 := m_fr hx102 hT_tr.1
        have ne_x102_tr : x102 ≠ tr := Ne.symm ne_tr_x102
        have hm : mm D (AZ z) (mu (mu Mc4 tz (.inl (k 4, 6, .inr (.inr (.inr (.inr (va_up (va_up (fun _ => none) (0 : Int32).toNatClampNeg (some x100)) (1 : Int32).toNatClampNeg (some x101)))))))) x102 (.inr (3, [.null, .null, .null, .null, .null, .int 0, .int 0]))) H := hm
        have hkp : kpx (fun a => a = o) M (mu (mu Mc4 tz (.inl (k 4, 6, .inr (.inr (.inr (.inr (va_up (va_up (fun _ => none) (0 : Int32).toNatClampNeg (some x100)) (1 : Int32).toNatClampNeg (some x101)))))))) x102 (.inr (3, [.null, .null, .null, .null, .null, .int 0, .int 0]))) := (hkp).new hx102
        have hq9 : kq (mu Mc4 tz (.inl (k 4, 6, .inr (.inr (.inr (.inr (va_up (va_up (fun _ => none) (0 : Int32).toNatClampNeg (some x100)) (1 : Int32).toNatClampNeg (some x101)))))))) (mu (mu Mc4 tz (.inl (k 4, 6, .inr (.inr (.inr (.inr (va_up (va_up (fun _ => none) (0 : Int32).toNatClampNeg (some x100)) (1 : Int32).toNatClampNeg (some x101)))))))) x102 (.inr (3, [.null, .null, .null, .null, .null, .int 0, .int 0]))) := ((kq.refl _)).new hx102
        have hT_tr := treeAt_kq hq9 hT_tr
        have hT_nx := treeAt_kq hq9 hT_nx
        have hD_dk := hq9 _ _ (by simp [bad]) hD_dk
        have hX_x100 := txF_kq hq9 hX_x100
        have hX_x101 := txF_kq hq9 hX_x101
        refine lv_dup hx hb dX5_init_88 rfl ?_
        refine m_new (T := TX4) (N := 2) (ci := 4) (fs := [.null, .int 0]) hx hb hts wX4 tyX4 tyX4_ok hown (hts (.classLink RX5 7 RX4) (by decide +kernel)) (hts (.instantiable RX4 2) (by decide +kernel)) (hts (.initialized RX4) (by decide +kernel)) hK hm hS hA rfl (fun j hj => by rcases (show j = 0 ∨ j = 1 by omega) with rfl | rfl <;> rfl) (Nat.le_of_ble_eq_true rfl) (Nat.le_of_ble_eq_true rfl) dX5_init_89 (fun v102 H hv102 hm hS => ?_)
        refine W.widen (k := 43) (n := 1231) (Nat.le_of_ble_eq_true rfl) (Nat.le_of_ble_eq_true rfl) ?_
        have hn_v102 := (hkp).no (fun h9 => absurd h9.symm (m_fr hv102 ((mu_ne ne_o_x102).trans ((mu_ne ne_o_tz).trans k_o)))) hv102
        have ne_o_v102 : o ≠ v102 := m_fr hv102 ((mu_ne ne_o_x102).trans ((mu_ne ne_o_tz).trans k_o))
        have ne_v102_o : v102 ≠ o := Ne.symm ne_o_v102
        have ne_tz_v102 : tz ≠ v102 := m_fr hv102 ((mu_ne ne_tz_x102).trans (mu_self _ _ _))
        have ne_v102_tz : v102 ≠ tz := Ne.symm ne_tz_v102
        have ne_tr_v102 : tr ≠ v102 := m_fr hv102 hT_tr.1
        have ne_v102_tr : v102 ≠ tr := Ne.symm ne_tr_v102
        have ne_x102_v102 : x102 ≠ v102 := m_fr hv102 (mu_self _ _ _)
        have ne_v102_x102 : v102 ≠ x102 := Ne.symm ne_x102_v102
        have hm : mm D (AZ z) (mu (mu (mu Mc4 tz (.inl (k 4, 6, .inr (.inr (.inr (.inr (va_up (va_up (fun _ => none) (0 : Int32).toNatClampNeg (some x100)) (1 : Int32).toNatClampNeg (some x101)))))))) x102 (.inr (3, [.null, .null, .null, .null, .null, .int 0, .int 0]))) v102 (.inr (4, [.null, .int 0]))) H := hm
        have hkp : kpx (fun a => a = o) M (mu (mu (mu Mc4 tz (.inl (k 4, 6, .inr (.inr (.inr (.inr (va_up (va_up (fun _ => none) (0 : Int32).toNatClampNeg (some x100)) (1 : Int32).toNatClampNeg (some x101)))))))) x102 (.inr (3, [.null, .null, .null, .null, .null, .int 0, .int 0]))) v102 (.inr (4, [.null, .int 0]))) := (hkp).new hv102
        have hq9 : kq (mu (mu Mc4 tz (.inl (k 4, 6, .inr (.inr (.inr (.inr (va_up (va_up (fun _ => none) (0 : Int32).toNatClampNeg (some x100)) (1 : Int32).toNatClampNeg (some x101)))))))) x102 (.inr (3, [.null, .null, .null, .null, .null, .int 0, .int 0]))) (mu (mu (mu Mc4 tz (.inl (k 4, 6, .inr (.inr (.inr (.inr (va_up (va_up (fun _ => none) (0 : Int32).toNatClampNeg (some x100)) (1 : Int32).toNatClampNeg (some x101)))))))) x102 (.inr (3, [.null, .null, .null, .null, .null, .int 0, .int 0]))) v102 (.inr (4, [.null, .int 0]))) := ((kq.refl _)).new hv102
        have hT_tr := treeAt_kq hq9 hT_tr
        have hT_nx := treeAt_kq hq9 hT_nx
        have hD_dk := hq9 _ _ (by simp [bad]) hD_dk
        have hX_x100 := txF_kq hq9 hX_x100
        have hX_x101 := txF_kq hq9 hX_x101
        refine lv_dup hx hb dX5_init_92 rfl ?_
        refine m_kIN (As := []) (rest := [.ref v102, .ref x102, .ref x102, .int 2, .ref tz]) (rm := { frames := 1, cells := 1, slots := 60, locals := 12 }) ⟨hx, hb, hml, hown, hts⟩ (c_X4_init l D k z _ v102 (mu_self _ _ _)) ⟨va_cnB 0 hts ggX5_init_X4_init rfl rfl rfl (hcx.2.2.2.2.1 (.methodLinkNest RX5 9 yX4_init "CommitTree") (by decide +kernel)) (hts (.initialized RX4) (by decide +kernel)) (by decide +kernel) ⟨Nat.le_of_ble_eq_true rfl, Nat.le_of_ble_eq_true rfl⟩, rfl, hts (.instanceMethod yX4_init) (by decide +kernel)⟩ hz hcx hm hS rfl hl.1 rfl (Nat.le_of_ble_eq_true rfl) dX5_init_93 ⟨Nat.le_of_ble_eq_true rfl, Nat.le_of_ble_eq_true rfl⟩ (fun v M1 H locs hv hm hS => ?_)
        have hT9 := hT_tr
        obtain ⟨v102n, hv102n, hv1, hM1⟩ := hv
        subst hv1
        rw [hM1] at hm
        have hn_v102n := (hkp).no (fun h9 => absurd h9.symm (m_fr hv102n ((mu_ne ne_o_v102).trans ((mu_ne ne_o_x102).trans ((mu_ne ne_o_tz).trans k_o))))) hv102n
        have ne_o_v102n : o ≠ v102n := m_fr hv102n ((mu_ne ne_o_v102).trans ((mu_ne ne_o_x102).trans ((mu_ne ne_o_tz).trans k_o)))
        have ne_v102n_o : v102n ≠ o := Ne.symm ne_o_v102n
        have ne_tz_v102n : tz ≠ v102n := m_fr hv102n ((mu_ne ne_tz_v102).trans ((mu_ne ne_tz_x102).trans (mu_self _ _ _)))
        have ne_v102n_tz : v102n ≠ tz := Ne.symm ne_tz_v102n
        have ne_tr_v102n : tr ≠ v102n := m_fr hv102n hT_tr.1
        have ne_v102n_tr : v102n ≠ tr := Ne.symm ne_tr_v102n
        have ne_x102_v102n : x102 ≠ v102n := m_fr hv102n ((mu_ne ne_x102_v102).trans (mu_self _ _ _))
        have ne_v102n_x102 : v102n ≠ x102 := Ne.symm ne_x102_v102n
        have ne_v102_v102n : v102 ≠ v102n := m_fr hv102n (mu_self _ _ _)
        have ne_v102n_v102 : v102n ≠ v102 := Ne.symm ne_v102_v102n
        have hm : mm D (AZ z) (mu (mu (mu (mu (mu Mc4 tz (.inl (k 4, 6, .inr (.inr (.inr (.inr (va_up (va_up (fun _ => none) (0 : Int32).toNatClampNeg (some x100)) (1 : Int32).toNatClampNeg (some x101)))))))) x102 (.inr (3, [.null, .null, .null, .null, .null, .int 0, .int 0]))) v102 (.inr (4, [.null, .int 0]))) v102n (.inl (k 3, 60, .inr (.inr (.inr (.inr (fun _ => none))))))) v102 (.inr (4, [.ref v102n, .int 0]))) H := hm
        have hkp : kpx (fun a => a = o) M (mu (mu (mu (mu (mu Mc4 tz (.inl (k 4, 6, .inr (.inr (.inr (.inr (va_up (va_up (fun _ => none) (0 : Int32).toNatClampNeg (some x100)) (1 : Int32).toNatClampNeg (some x101)))))))) x102 (.inr (3, [.null, .null, .null, .null, .null, .int 0, .int 0]))) v102 (.inr (4, [.null, .int 0]))) v102n (.inl (k 3, 60, .inr (.inr (.inr (.inr (fun _ => none))))))) v102 (.inr (4, [.ref v102n, .int 0]))) := ((hkp).new hv102n).old hn_v102
        have hq9 : kq (mu (mu (mu Mc4 tz (.inl (k 4, 6, .inr (.inr (.inr (.inr (va_up (va_up (fun _ => none) (0 : Int32).toNatClampNeg (some x100)) (1 : Int32).toNatClampNeg (some x101)))))))) x102 (.inr (3, [.null, .null, .null, .null, .null, .int 0, .int 0]))) v102 (.inr (4, [.null, .int 0]))) (mu (mu (mu (mu (mu Mc4 tz (.inl (k 4, 6, .inr (.inr (.inr (.inr (va_up (va_up (fun _ => none) (0 : Int32).toNatClampNeg (some x100)) (1 : Int32).toNatClampNeg (some x101)))))))) x102 (.inr (3, [.null, .null, .null, .null, .null, .int 0, .int 0]))) v102 (.inr (4, [.null, .int 0]))) v102n (.inl (k 3, 60, .inr (.inr (.inr (.inr (fun _ => none))))))) v102 (.inr (4, [.ref v102n, .int 0]))) := (((kq.refl _)).new hv102n).upd ((mu_ne ne_v102_v102n).trans (mu_self _ _ _)) (by first | exact bad5 | exact badN | exact bad6 | exact bad00)
        have hT_tr := treeAt_kq hq9 hT_tr
        have hT_nx := treeAt_kq hq9 hT_nx
        have hD_dk := hq9 _ _ (by simp [bad]) hD_dk
        have hX_x100 := txF_kq hq9 hX_x100
        have hX_x101 := txF_kq hq9 hX_x101
        have hT_v102 : treeAt k (mu (mu (mu (mu (mu Mc4 tz (.inl (k 4, 6, .inr (.inr (.inr (.inr (va_up (va_up (fun _ => none) (0 : Int32).toNatClampNeg (some x100)) (1 : Int32).toNatClampNeg (some x101)))))))) x102 (.inr (3, [.null, .null, .null, .null, .null, .int 0, .int 0]))) v102 (.inr (4, [.null, .int 0]))) v102n (.inl (k 3, 60, .inr (.inr (.inr (.inr (fun _ => none))))))) v102 (.inr (4, [.ref v102n, .int 0]))) v102 v102n (fun _ => none) [] := ⟨(mu_self _ _ _), ((mu_ne ne_v102n_v102).trans (mu_self _ _ _)), Nat.zero_le _, fun j v hv => by simp at hv⟩
        have ne_trn_v102 : trn ≠ v102n := m_fr hv102n hT9.2.1
        refine W.eq (g2 := F0 m 96 ls [.ref v102, .ref x102, .ref x102, .int 2, .ref tz]) rfl ?_
        refine W.widen (k := 44) (n := 1291) (Nat.le_of_ble_eq_true rfl) (Nat.le_of_ble_eq_true rfl) ?_
        have hm : mm D (AZ z) (mu (mu (mu (mu (mu Mc4 tz (.inl (k 4, 6, .inr (.inr (.inr (.inr (va_up (va_up (fun _ => none) (0 : Int32).toNatClampNeg (some x100)) (1 : Int32).toNatClampNeg (some x101)))))))) x102 (.inr (3, [.null, .null, .null, .null, .null, .int 0, .int 0]))) v102 (.inr (4, [.null, .int 0]))) v102n (.inl (k 3, 60, .inr (.inr (.inr (.inr (fun _ => none))))))) v102 (.inr (4, [.ref v102n, .int 0]))) H := hm
        refine m_kI (As := [.ref v102]) (rest := [.ref x102, .int 2, .ref tz]) (rm := { frames := 2, cells := 11, slots := 371, locals := 32 }) ⟨hx, hb, hml, hown, hts⟩ (c_X3_init l D k z _ x102 v102 ((mu_ne ne_x102_v102).trans ((mu_ne ne_x102_v102n).trans ((mu_ne ne_x102_v102).trans (mu_self _ _ _))))) (cwI 1 hts gX5_init_X3_init rfl rfl rfl (hts (.initialized RX3) (by decide +kernel)) (hts (.methodLink RX5 49 yX3_init) (by decide +kernel)) (hts (.instanceMethod yX3_init) (by decide +kernel)) rfl (by decide +kernel) ⟨Nat.le_of_ble_eq_true rfl, Nat.le_of_ble_eq_true rfl⟩) hz hcx hm hS rfl hl.1 rfl (Nat.le_of_ble_eq_true rfl) dX5_init_96 ⟨Nat.le_of_ble_eq_true rfl, Nat.le_of_ble_eq_true rfl⟩ (fun v M1 H locs hv hm hS => ?_)
        obtain ⟨hv1, hk9, hx9⟩ := hv
        subst hv1
        have hq9 : kq (mu (mu (mu (mu (mu Mc4 tz (.inl (k 4, 6, .inr (.inr (.inr (.inr (va_up (va_up (fun _ => none) (0 : Int32).toNatClampNeg (some x100)) (1 : Int32).toNatClampNeg (some x101)))))))) x102 (.inr (3, [.null, .null, .null, .null, .null, .int 0, .int 0]))) v102 (.inr (4, [.null, .int 0]))) v102n (.inl (k 3, 60, .inr (.inr (.inr (.inr (fun _ => none))))))) v102 (.inr (4, [.ref v102n, .int 0]))) M1 := kq.made hk9 ((mu_ne ne_x102_v102).trans ((mu_ne ne_x102_v102n).trans ((mu_ne ne_x102_v102).trans (mu_self _ _ _)))) badN
        have k_o : M1 o = some _ := hk9 _ _ ne_o_x102 ((mu_ne ne_o_v102).trans ((mu_ne ne_o_v102n).trans ((mu_ne ne_o_v102).trans ((mu_ne ne_o_x102).trans ((mu_ne ne_o_tz).trans k_o)))))
        have k_tz : M1 tz = some _ := hk9 _ _ ne_tz_x102 ((mu_ne ne_tz_v102).trans ((mu_ne ne_tz_v102n).trans ((mu_ne ne_tz_v102).trans ((mu_ne ne_tz_x102).trans (mu_self _ _ _)))))
        have hkp : kpx (fun a => a = o) M M1 := hkp.call hk9 hn_x102
        have hX_x102 := txF_of hT_tr hT_v102 ne_tr_v102 ne_trn_v102 hq9 hx9
        have hC_x102 := hx9
        obtain ⟨b9, bn9, mk9, cr9, fr9, -, hC_x102, -⟩ := hx9
        have hT_tr := treeAt_kq hq9 hT_tr
        have hT_nx := treeAt_kq hq9 hT_nx
        have hD_dk := hq9 _ _ (by simp [bad]) hD_dk
        have hX_x100 := txF_kq hq9 hX_x100
        have hX_x101 := txF_kq hq9 hX_x101
        obtain ⟨Mc5, hMx⟩ : ∃ x : mM, x = M1 := ⟨M1, rfl⟩
        subst hMx
        refine W.eq (g2 := F0 m 99 ls [.ref x102, .int 2, .ref tz]) rfl ?_
        refine W.widen (k := 55) (n := 1662) (Nat.le_of_ble_eq_true rfl) (Nat.le_of_ble_eq_true rfl) ?_
        have hm : mm D (AZ z) Mc5 H := hm
        refine m_aast (r := (RX3, TX3, 7)) hx hb hK hm hS 4 3 k_tz rfl hC_x102 rfl (by unfold vp_in; decide) dX5_init_99 (fun H locs hm hS => ?_)
        have hm : mm D (AZ z) (mu Mc5 tz (.inl (k 4, 6, .inr (.inr (.inr (.inr (va_up (va_up (va_up (fun _ => none) (0 : Int32).toNatClampNeg (some x100)) (1 : Int32).toNatClampNeg (some x101)) (2 : Int32).toNatClampNeg (some x102)))))))) H := hm
        have hkp : kpx (fun a => a = o) M (mu Mc5 tz (.inl (k 4, 6, .inr (.inr (.inr (.inr (va_up (va_up (va_up (fun _ => none) (0 : Int32).toNatClampNeg (some x100)) (1 : Int32).toNatClampNeg (some x101)) (2 : Int32).toNatClampNeg (some x102)))))))) := (hkp).old hn_tz
        have hq9 : kq Mc5 (mu Mc5 tz (.inl (k 4, 6, .inr (.inr (.inr (.inr (va_up (va_up (va_up (fun _ => none) (0 : Int32).toNatClampNeg (some x100)) (1 : Int32).toNatClampNeg (some x101)) (2 : Int32).toNatClampNeg (some x102)))))))) := ((kq.refl _)).upd k_tz (by first | exact bad5 | exact badN | exact bad6 | exact bad00)
        have hT_tr := treeAt_kq hq9 hT_tr
        have hT_nx := treeAt_kq hq9 hT_nx
        have hD_dk := hq9 _ _ (by simp [bad]) hD_dk
        have hX_x100 := txF_kq hq9 hX_x100
        have hX_x101 := txF_kq hq9 hX_x101
        have hX_x102 := txF_kq hq9 hX_x102
        have hC_x102 := hq9 _ _ (by simp [bad]) hC_x102
        refine lv_iinc (v := 3) (lv' := [(1, .int 3), (0, .ref o)]) hx hb dX5_init_100 hl (k := 0) rfl rfl (by decide) rfl (fun ls hl => ?_)
        refine lv_goto (tgt := 71) hx hb dX5_init_103 (by decide) ?_
        refine lv_iload_n hx hb dX5_init_71 rfl (lv_at hl 0 rfl) ?_
        refine lv_aload_n hx hb dX5_init_72 rfl (lv_at hl 1 rfl) ?_
        refine m_get (T := TX5) (N := 11) (ci := 5) (v := .ref tz) hx hb hts wX5 hown hK hm ((mu_ne ne_o_tz).trans k_o) rfl 4 (by decide) f45 (fun _ h9 => h9) rfl dX5_init_73 ?_
        refine m_alen hx hb hK hm 4 (mu_self _ _ _) rfl (v := 6) rfl dX5_init_76 ?_
        refine lv_icmp_ge (tgt := 106) hx hb dX5_init_77 (by decide) (fun c15 => ?_) (fun c15 => ?_)
        · first | exact absurd c15 (by decide) | exact absurd (by decide) c15
        · refine lv_aload_n hx hb dX5_init_80 rfl (lv_at hl 1 rfl) ?_
          refine m_get (T := TX5) (N := 11) (ci := 5) (v := .ref tz) hx hb hts wX5 hown hK hm ((mu_ne ne_o_tz).trans k_o) rfl 4 (by decide) f45 (fun _ h9 => h9) rfl dX5_init_81 ?_
          refine lv_iload_n hx hb dX5_init_84 rfl (lv_at hl 0 rfl) ?_
          refine m_new (T := TX3) (N := 7) (ci := 3) (fs := [.null, .null, .null, .null, .null, .int 0, .int 0]) hx hb hts wX3 tyX3 tyX3_ok hown (hts (.classLink RX5 43 RX3) (by decide +kernel)) (hts (.instantiable RX3 7) (by decide +kernel)) (hts (.initialized RX3) (by decide +kernel)) hK hm hS hA rfl (fun j hj => by rcases (show j = 0 ∨ j = 1 ∨ j = 2 ∨ j = 3 ∨ j = 4 ∨ j = 5 ∨ j = 6 by omega) with rfl | rfl | rfl | rfl | rfl | rfl | rfl <;> rfl) (Nat.le_of_ble_eq_true rfl) (Nat.le_of_ble_eq_true rfl) dX5_init_85 (fun x103 H hx103 hm hS => ?_)
          refine W.widen (k := 56) (n := 1669) (Nat.le_of_ble_eq_true rfl) (Nat.le_of_ble_eq_true rfl) ?_
          have hn_x103 := (hkp).no (fun h9 => absurd h9.symm (m_fr hx103 ((mu_ne ne_o_tz).trans k_o))) hx103
          have ne_o_x103 : o ≠ x103 := m_fr hx103 ((mu_ne ne_o_tz).trans k_o)
          have ne_x103_o : x103 ≠ o := Ne.symm ne_o_x103
          have ne_tz_x103 : tz ≠ x103 := m_fr hx103 (mu_self _ _ _)
          have ne_x103_tz : x103 ≠ tz := Ne.symm ne_tz_x103
          have ne_tr_x103 : tr ≠ x103 := m_fr hx103 hT_tr.1
          have ne_x103_tr : x103 ≠ tr := Ne.symm ne_tr_x103
          have hm : mm D (AZ z) (mu (mu Mc5 tz (.inl (k 4, 6, .inr (.inr (.inr (.inr (va_up (va_up (va_up (fun _ => none) (0 : Int32).toNatClampNeg (some x100)) (1 : Int32).toNatClampNeg (some x101)) (2 : Int32).toNatClampNeg (some x102)))))))) x103 (.inr (3, [.null, .null, .null, .null, .null, .int 0, .int 0]))) H := hm
          have hkp : kpx (fun a => a = o) M (mu (mu Mc5 tz (.inl (k 4, 6, .inr (.inr (.inr (.inr (va_up (va_up (va_up (fun _ => none) (0 : Int32).toNatClampNeg (some x100)) (1 : Int32).toNatClampNeg (some x101)) (2 : Int32).toNatClampNeg (some x102)))))))) x103 (.inr (3, [.null, .null, .null, .null, .null, .int 0, .int 0]))) := (hkp).new hx103
          have hq9 : kq (mu Mc5 tz (.inl (k 4, 6, .inr (.inr (.inr (.inr (va_up (va_up (va_up (fun _ => none) (0 : Int32).toNatClampNeg (some x100)) (1 : Int32).toNatClampNeg (some x101)) (2 : Int32).toNatClampNeg (some x102)))))))) (mu (mu Mc5 tz (.inl (k 4, 6, .inr (.inr (.inr (.inr (va_up (va_up (va_up (fun _ => none) (0 : Int32).toNatClampNeg (some x100)) (1 : Int32).toNatClampNeg (some x101)) (2 : Int32).toNatClampNeg (some x102)))))))) x103 (.inr (3, [.null, .null, .null, .null, .null, .int 0, .int 0]))) := ((kq.refl _)).new hx103
          have hT_tr := treeAt_kq hq9 hT_tr
          have hT_nx := treeAt_kq hq9 hT_nx
          have hD_dk := hq9 _ _ (by simp [bad]) hD_dk
          have hX_x100 := txF_kq hq9 hX_x100
          have hX_x101 := txF_kq hq9 hX_x101
          have hX_x102 := txF_kq hq9 hX_x102
          refine lv_dup hx hb dX5_init_88 rfl ?_
          refine m_new (T := TX4) (N := 2) (ci := 4) (fs := [.null, .int 0]) hx hb hts wX4 tyX4 tyX4_ok hown (hts (.classLink RX5 7 RX4) (by decide +kernel)) (hts (.instantiable RX4 2) (by decide +kernel)) (hts (.initialized RX4) (by decide +kernel)) hK hm hS hA rfl (fun j hj => by rcases (show j = 0 ∨ j = 1 by omega) with rfl | rfl <;> rfl) (Nat.le_of_ble_eq_true rfl) (Nat.le_of_ble_eq_true rfl) dX5_init_89 (fun v103 H hv103 hm hS => ?_)
          refine W.widen (k := 57) (n := 1671) (Nat.le_of_ble_eq_true rfl) (Nat.le_of_ble_eq_true rfl) ?_
          have hn_v103 := (hkp).no (fun h9 => absurd h9.symm (m_fr hv103 ((mu_ne ne_o_x103).trans ((mu_ne ne_o_tz).trans k_o)))) hv103
          have ne_o_v103 : o ≠ v103 := m_fr hv103 ((mu_ne ne_o_x103).trans ((mu_ne ne_o_tz).trans k_o))
          have ne_v103_o : v103 ≠ o := Ne.symm ne_o_v103
          have ne_tz_v103 : tz ≠ v103 := m_fr hv103 ((mu_ne ne_tz_x103).trans (mu_self _ _ _))
          have ne_v103_tz : v103 ≠ tz := Ne.symm ne_tz_v103
          have ne_tr_v103 : tr ≠ v103 := m_fr hv103 hT_tr.1
          have ne_v103_tr : v103 ≠ tr := Ne.symm ne_tr_v103
          have ne_x103_v103 : x103 ≠ v103 := m_fr hv103 (mu_self _ _ _)
          have ne_v103_x103 : v103 ≠ x103 := Ne.symm ne_x103_v103
          have hm : mm D (AZ z) (mu (mu (mu Mc5 tz (.inl (k 4, 6, .inr (.inr (.inr (.inr (va_up (va_up (va_up (fun _ => none) (0 : Int32).toNatClampNeg (some x100)) (1 : Int32).toNatClampNeg (some x101)) (2 : Int32).toNatClampNeg (some x102)))))))) x103 (.inr (3, [.null, .null, .null, .null, .null, .int 0, .int 0]))) v103 (.inr (4, [.null, .int 0]))) H := hm
          have hkp : kpx (fun a => a = o) M (mu (mu (mu Mc5 tz (.inl (k 4, 6, .inr (.inr (.inr (.inr (va_up (va_up (va_up (fun _ => none) (0 : Int32).toNatClampNeg (some x100)) (1 : Int32).toNatClampNeg (some x101)) (2 : Int32).toNatClampNeg (some x102)))))))) x103 (.inr (3, [.null, .null, .null, .null, .null, .int 0, .int 0]))) v103 (.inr (4, [.null, .int 0]))) := (hkp).new hv103
          have hq9 : kq (mu (mu Mc5 tz (.inl (k 4, 6, .inr (.inr (.inr (.inr (va_up (va_up (va_up (fun _ => none) (0 : Int32).toNatClampNeg (some x100)) (1 : Int32).toNatClampNeg (some x101)) (2 : Int32).toNatClampNeg (some x102)))))))) x103 (.inr (3, [.null, .null, .null, .null, .null, .int 0, .int 0]))) (mu (mu (mu Mc5 tz (.inl (k 4, 6, .inr (.inr (.inr (.inr (va_up (va_up (va_up (fun _ => none) (0 : Int32).toNatClampNeg (some x100)) (1 : Int32).toNatClampNeg (some x101)) (2 : Int32).toNatClampNeg (some x102)))))))) x103 (.inr (3, [.null, .null, .null, .null, .null, .int 0, .int 0]))) v103 (.inr (4, [.null, .int 0]))) := ((kq.refl _)).new hv103
          have hT_tr := treeAt_kq hq9 hT_tr
          have hT_nx := treeAt_kq hq9 hT_nx
          have hD_dk := hq9 _ _ (by simp [bad]) hD_dk
          have hX_x100 := txF_kq hq9 hX_x100
          have hX_x101 := txF_kq hq9 hX_x101
          have hX_x102 := txF_kq hq9 hX_x102
          refine lv_dup hx hb dX5_init_92 rfl ?_
          refine m_kIN (As := []) (rest := [.ref v103, .ref x103, .ref x103, .int 3, .ref tz]) (rm := { frames := 1, cells := 1, slots := 60, locals := 12 }) ⟨hx, hb, hml, hown, hts⟩ (c_X4_init l D k z _ v103 (mu_self _ _ _)) ⟨va_cnB 0 hts ggX5_init_X4_init rfl rfl rfl (hcx.2.2.2.2.1 (.methodLinkNest RX5 9 yX4_init "CommitTree") (by decide +kernel)) (hts (.initialized RX4) (by decide +kernel)) (by decide +kernel) ⟨Nat.le_of_ble_eq_true rfl, Nat.le_of_ble_eq_true rfl⟩, rfl, hts (.instanceMethod yX4_init) (by decide +kernel)⟩ hz hcx hm hS rfl hl.1 rfl (Nat.le_of_ble_eq_true rfl) dX5_init_93 ⟨Nat.le_of_ble_eq_true rfl, Nat.le_of_ble_eq_true rfl⟩ (fun v M1 H locs hv hm hS => ?_)
          have hT9 := hT_tr
          obtain ⟨v103n, hv103n, hv1, hM1⟩ := hv
          subst hv1
          rw [hM1] at hm
          have hn_v103n := (hkp).no (fun h9 => absurd h9.symm (m_fr hv103n ((mu_ne ne_o_v103).trans ((mu_ne ne_o_x103).trans ((mu_ne ne_o_tz).trans k_o))))) hv103n
          have ne_o_v103n : o ≠ v103n := m_fr hv103n ((mu_ne ne_o_v103).trans ((mu_ne ne_o_x103).trans ((mu_ne ne_o_tz).trans k_o)))
          have ne_v103n_o : v103n ≠ o := Ne.symm ne_o_v103n
          have ne_tz_v103n : tz ≠ v103n := m_fr hv103n ((mu_ne ne_tz_v103).trans ((mu_ne ne_tz_x103).trans (mu_self _ _ _)))
          have ne_v103n_tz : v103n ≠ tz := Ne.symm ne_tz_v103n
          have ne_tr_v103n : tr ≠ v103n := m_fr hv103n hT_tr.1
          have ne_v103n_tr : v103n ≠ tr := Ne.symm ne_tr_v103n
          have ne_x103_v103n : x103 ≠ v103n := m_fr hv103n ((mu_ne ne_x103_v103).trans (mu_self _ _ _))
          have ne_v103n_x103 : v103n ≠ x103 := Ne.symm ne_x103_v103n
          have ne_v103_v103n : v103 ≠ v103n := m_fr hv103n (mu_self _ _ _)
          have ne_v103n_v103 : v103n ≠ v103 := Ne.symm ne_v103_v103n
          have hm : mm D (AZ z) (mu (mu (mu (mu (mu Mc5 tz (.inl (k 4, 6, .inr (.inr (.inr (.inr (va_up (va_up (va_up (fun _ => none) (0 : Int32).toNatClampNeg (some x100)) (1 : Int32).toNatClampNeg (some x101)) (2 : Int32).toNatClampNeg (some x102)))))))) x103 (.inr (3, [.null, .null, .null, .null, .null, .int 0, .int 0]))) v103 (.inr (4, [.null, .int 0]))) v103n (.inl (k 3, 60, .inr (.inr (.inr (.inr (fun _ => none))))))) v103 (.inr (4, [.ref v103n, .int 0]))) H := hm
          have hkp : kpx (fun a => a = o) M (mu (mu (mu (mu (mu Mc5 tz (.inl (k 4, 6, .inr (.inr (.inr (.inr (va_up (va_up (va_up (fun _ => none) (0 : Int32).toNatClampNeg (some x100)) (1 : Int32).toNatClampNeg (some x101)) (2 : Int32).toNatClampNeg (some x102)))))))) x103 (.inr (3, [.null, .null, .null, .null, .null, .int 0, .int 0]))) v103 (.inr (4, [.null, .int 0]))) v103n (.inl (k 3, 60, .inr (.inr (.inr (.inr (fun _ => none))))))) v103 (.inr (4, [.ref v103n, .int 0]))) := ((hkp).new hv103n).old hn_v103
          have hq9 : kq (mu (mu (mu Mc5 tz (.inl (k 4, 6, .inr (.inr (.inr (.inr (va_up (va_up (va_up (fun _ => none) (0 : Int32).toNatClampNeg (some x100)) (1 : Int32).toNatClampNeg (some x101)) (2 : Int32).toNatClampNeg (some x102)))))))) x103 (.inr (3, [.null, .null, .null, .null, .null, .int 0, .int 0]))) v103 (.inr (4, [.null, .int 0]))) (mu (mu (mu (mu (mu Mc5 tz (.inl (k 4, 6, .inr (.inr (.inr (.inr (va_up (va_up (va_up (fun _ => none) (0 : Int32).toNatClampNeg (some x100)) (1 : Int32).toNatClampNeg (some x101)) (2 : Int32).toNatClampNeg (some x102)))))))) x103 (.inr (3, [.null, .null, .null, .null, .null, .int 0, .int 0]))) v103 (.inr (4, [.null, .int 0]))) v103n (.inl (k 3, 60, .inr (.inr (.inr (.inr (fun _ => none))))))) v103 (.inr (4, [.ref v103n, .int 0]))) := (((kq.refl _)).new hv103n).upd ((mu_ne ne_v103_v103n).trans (mu_self _ _ _)) (by first | exact bad5 | exact badN | exact bad6 | exact bad00)
          have hT_tr := treeAt_kq hq9 hT_tr
          have hT_nx := treeAt_kq hq9 hT_nx
          have hD_dk := hq9 _ _ (by simp [bad]) hD_dk
          have hX_x100 := txF_kq hq9 hX_x100
          have hX_x101 := txF_kq hq9 hX_x101
          have hX_x102 := txF_kq hq9 hX_x102
          have hT_v103 : treeAt k (mu (mu (mu (mu (mu Mc5 tz (.inl (k 4, 6, .inr (.inr (.inr (.inr (va_up (va_up (va_up (fun _ => none) (0 : Int32).toNatClampNeg (some x100)) (1 : Int32).toNatClampNeg (some x101)) (2 : Int32).toNatClampNeg (some x102)))))))) x103 (.inr (3, [.null, .null, .null, .null, .null, .int 0, .int 0]))) v103 (.inr (4, [.null, .int 0]))) v103n (.inl (k 3, 60, .inr (.inr (.inr (.inr (fun _ => none))))))) v103 (.inr (4, [.ref v103n, .int 0]))) v103 v103n (fun _ => none) [] := ⟨(mu_self _ _ _), ((mu_ne ne_v103n_v103).trans (mu_self _ _ _)), Nat.zero_le _, fun j v hv => by simp at hv⟩
          have ne_trn_v103 : trn ≠ v103n := m_fr hv103n hT9.2.1
          refine W.eq (g2 := F0 m 96 ls [.ref v103, .ref x103, .ref x103, .int 3, .ref tz]) rfl ?_
          refine W.widen (k := 58) (n := 1731) (Nat.le_of_ble_eq_true rfl) (Nat.le_of_ble_eq_true rfl) ?_
          have hm : mm D (AZ z) (mu (mu (mu (mu (mu Mc5 tz (.inl (k 4, 6, .inr (.inr (.inr (.inr (va_up (va_up (va_up (fun _ => none) (0 : Int32).toNatClampNeg (some x100)) (1 : Int32).toNatClampNeg (some x101)) (2 : Int32).toNatClampNeg (some x102)))))))) x103 (.inr (3, [.null, .null, .null, .null, .null, .int 0, .int 0]))) v103 (.inr (4, [.null, .int 0]))) v103n (.inl (k 3, 60, .inr (.inr (.inr (.inr (fun _ => none))))))) v103 (.inr (4, [.ref v103n, .int 0]))) H := hm
          refine m_kI (As := [.ref v103]) (rest := [.ref x103, .int 3, .ref tz]) (rm := { frames := 2, cells := 11, slots := 371, locals := 32 }) ⟨hx, hb, hml, hown, hts⟩ (c_X3_init l D k z _ x103 v103 ((mu_ne ne_x103_v103).trans ((mu_ne ne_x103_v103n).trans ((mu_ne ne_x103_v103).trans (mu_self _ _ _))))) (cwI 1 hts gX5_init_X3_init rfl rfl rfl (hts (.initialized RX3) (by decide +kernel)) (hts (.methodLink RX5 49 yX3_init) (by decide +kernel)) (hts (.instanceMethod yX3_init) (by decide +kernel)) rfl (by decide +kernel) ⟨Nat.le_of_ble_eq_true rfl, Nat.le_of_ble_eq_true rfl⟩) hz hcx hm hS rfl hl.1 rfl (Nat.le_of_ble_eq_true rfl) dX5_init_96 ⟨Nat.le_of_ble_eq_true rfl, Nat.le_of_ble_eq_true rfl⟩ (fun v M1 H locs hv hm hS => ?_)
          obtain ⟨hv1, hk9, hx9⟩ := hv
          subst hv1
          have hq9 : kq (mu (mu (mu (mu (mu Mc5 tz (.inl (k 4, 6, .inr (.inr (.inr (.inr (va_up (va_up (va_up (fun _ => none) (0 : Int32).toNatClampNeg (some x100)) (1 : Int32).toNatClampNeg (some x101)) (2 : Int32).toNatClampNeg (some x102)))))))) x103 (.inr (3, [.null, .null, .null, .null, .null, .int 0, .int 0]))) v103 (.inr (4, [.null, .int 0]))) v103n (.inl (k 3, 60, .inr (.inr (.inr (.inr (fun _ => none))))))) v103 (.inr (4, [.ref v103n, .int 0]))) M1 := kq.made hk9 ((mu_ne ne_x103_v103).trans ((mu_ne ne_x103_v103n).trans ((mu_ne ne_x103_v103).trans (mu_self _ _ _)))) badN
          have k_o : M1 o = some _ := hk9 _ _ ne_o_x103 ((mu_ne ne_o_v103).trans ((mu_ne ne_o_v103n).trans ((mu_ne ne_o_v103).trans ((mu_ne ne_o_x103).trans ((mu_ne ne_o_tz).trans k_o)))))
          have k_tz : M1 tz = some _ := hk9 _ _ ne_tz_x103 ((mu_ne ne_tz_v103).trans ((mu_ne ne_tz_v103n).trans ((mu_ne ne_tz_v103).trans ((mu_ne ne_tz_x103).trans (mu_self _ _ _)))))
          have hkp : kpx (fun a => a = o) M M1 := hkp.call hk9 hn_x103
          have hX_x103 := txF_of hT_tr hT_v103 ne_tr_v103 ne_trn_v103 hq9 hx9
          have hC_x103 := hx9
          obtain ⟨b9, bn9, mk9, cr9, fr9, -, hC_x103, -⟩ := hx9
          have hT_tr := treeAt_kq hq9 hT_tr
          have hT_nx := treeAt_kq hq9 hT_nx
          have hD_dk := hq9 _ _ (by simp [bad]) hD_dk
          have hX_x100 := txF_kq hq9 hX_x100
          have hX_x101 := txF_kq hq9 hX_x101
          have hX_x102 := txF_kq hq9 hX_x102
          obtain ⟨Mc6, hMx⟩ : ∃ x : mM, x = M1 := ⟨M1, rfl⟩
          subst hMx
          refine W.eq (g2 := F0 m 99 ls [.ref x103, .int 3, .ref tz]) rfl ?_
          refine W.widen (k := 69) (n := 2102) (Nat.le_of_ble_eq_true rfl) (Nat.le_of_ble_eq_true rfl) ?_
          have hm : mm D (AZ z) Mc6 H := hm
          refine m_aast (r := (RX3, TX3, 7)) hx hb hK hm hS 4 3 k_tz rfl hC_x103 rfl (by unfold vp_in; decide) dX5_init_99 (fun H locs hm hS => ?_)
          have hm : mm D (AZ z) (mu Mc6 tz (.inl (k 4, 6, .inr (.inr (.inr (.inr (va_up (va_up (va_up (va_up (fun _ => none) (0 : Int32).toNatClampNeg (some x100)) (1 : Int32).toNatClampNeg (some x101)) (2 : Int32).toNatClampNeg (some x102)) (3 : Int32).toNatClampNeg (some x103)))))))) H := hm
          have hkp : kpx (fun a => a = o) M (mu Mc6 tz (.inl (k 4, 6, .inr (.inr (.inr (.inr (va_up (va_up (va_up (va_up (fun _ => none) (0 : Int32).toNatClampNeg (some x100)) (1 : Int32).toNatClampNeg (some x101)) (2 : Int32).toNatClampNeg (some x102)) (3 : Int32).toNatClampNeg (some x103)))))))) := (hkp).old hn_tz
          have hq9 : kq Mc6 (mu Mc6 tz (.inl (k 4, 6, .inr (.inr (.inr (.inr (va_up (va_up (va_up (va_up (fun _ => none) (0 : Int32).toNatClampNeg (some x100)) (1 : Int32).toNatClampNeg (some x101)) (2 : Int32).toNatClampNeg (some x102)) (3 : Int32).toNatClampNeg (some x103)))))))) := ((kq.refl _)).upd k_tz (by first | exact bad5 | exact badN | exact bad6 | exact bad00)
          have hT_tr := treeAt_kq hq9 hT_tr
          have hT_nx := treeAt_kq hq9 hT_nx
          have hD_dk := hq9 _ _ (by simp [bad]) hD_dk
          have hX_x100 := txF_kq hq9 hX_x100
          have hX_x101 := txF_kq hq9 hX_x101
          have hX_x102 := txF_kq hq9 hX_x102
          have hX_x103 := txF_kq hq9 hX_x103
          have hC_x103 := hq9 _ _ (by simp [bad]) hC_x103
          refine lv_iinc (v := 4) (lv' := [(1, .int 4), (0, .ref o)]) hx hb dX5_init_100 hl (k := 0) rfl rfl (by decide) rfl (fun ls hl => ?_)
          refine lv_goto (tgt := 71) hx hb dX5_init_103 (by decide) ?_
          refine lv_iload_n hx hb dX5_init_71 rfl (lv_at hl 0 rfl) ?_
          refine lv_aload_n hx hb dX5_init_72 rfl (lv_at hl 1 rfl) ?_
          refine m_get (T := TX5) (N := 11) (ci := 5) (v := .ref tz) hx hb hts wX5 hown hK hm ((mu_ne ne_o_tz).trans k_o) rfl 4 (by decide) f45 (fun _ h9 => h9) rfl dX5_init_73 ?_
          refine m_alen hx hb hK hm 4 (mu_self _ _ _) rfl (v := 6) rfl dX5_init_76 ?_
          refine lv_icmp_ge (tgt := 106) hx hb dX5_init_77 (by decide) (fun c18 => ?_) (fun c18 => ?_)
          · first | exact absurd c18 (by decide) | exact absurd (by decide) c18
          · refine lv_aload_n hx hb dX5_init_80 rfl (lv_at hl 1 rfl) ?_
            refine m_get (T := TX5) (N := 11) (ci := 5) (v := .ref tz) hx hb hts wX5 hown hK hm ((mu_ne ne_o_tz).trans k_o) rfl 4 (by decide) f45 (fun _ h9 => h9) rfl dX5_init_81 ?_
            refine lv_iload_n hx hb dX5_init_84 rfl (lv_at hl 0 rfl) ?_
            refine m_new (T := TX3) (N := 7) (ci := 3) (fs := [.null, .null, .null, .null, .null, .int 0, .int 0]) hx hb hts wX3 tyX3 tyX3_ok hown (hts (.classLink RX5 43 RX3) (by decide +kernel)) (hts (.instantiable RX3 7) (by decide +kernel)) (hts (.initialized RX3) (by decide +kernel)) hK hm hS hA rfl (fun j hj => by rcases (show j = 0 ∨ j = 1 ∨ j = 2 ∨ j = 3 ∨ j = 4 ∨ j = 5 ∨ j = 6 by omega) with rfl | rfl | rfl | rfl | rfl | rfl | rfl <;> rfl) (Nat.le_of_ble_eq_true rfl) (Nat.le_of_ble_eq_true rfl) dX5_init_85 (fun x104 H hx104 hm hS => ?_)
            refine W.widen (k := 70) (n := 2109) (Nat.le_of_ble_eq_true rfl) (Nat.le_of_ble_eq_true rfl) ?_
            have hn_x104 := (hkp).no (fun h9 => absurd h9.symm (m_fr hx104 ((mu_ne ne_o_tz).trans k_o))) hx104
            have ne_o_x104 : o ≠ x104 := m_fr hx104 ((mu_ne ne_o_tz).trans k_o)
            have ne_x104_o : x104 ≠ o := Ne.symm ne_o_x104
            have ne_tz_x104 : tz ≠ x104 := m_fr hx104 (mu_self _ _ _)
            have ne_x104_tz : x104 ≠ tz := Ne.symm ne_tz_x104
            have ne_tr_x104 : tr ≠ x104 := m_fr hx104 hT_tr.1
            have ne_x104_tr : x104 ≠ tr := Ne.symm ne_tr_x104
            have hm : mm D (AZ z) (mu (mu Mc6 tz (.inl (k 4, 6, .inr (.inr (.inr (.inr (va_up (va_up (va_up (va_up (fun _ => none) (0 : Int32).toNatClampNeg (some x100)) (1 : Int32).toNatClampNeg (some x101)) (2 : Int32).toNatClampNeg (some x102)) (3 : Int32).toNatClampNeg (some x103)))))))) x104 (.inr (3, [.null, .null, .null, .null, .null, .int 0, .int 0]))) H := hm
            have hkp : kpx (fun a => a = o) M (mu (mu Mc6 tz (.inl (k 4, 6, .inr (.inr (.inr (.inr (va_up (va_up (va_up (va_up (fun _ => none) (0 : Int32).toNatClampNeg (some x100)) (1 : Int32).toNatClampNeg (some x101)) (2 : Int32).toNatClampNeg (some x102)) (3 : Int32).toNatClampNeg (some x103)))))))) x104 (.inr (3, [.null, .null, .null, .null, .null, .int 0, .int 0]))) := (hkp).new hx104
            have hq9 : kq (mu Mc6 tz (.inl (k 4, 6, .inr (.inr (.inr (.inr (va_up (va_up (va_up (va_up (fun _ => none) (0 : Int32).toNatClampNeg (some x100)) (1 : Int32).toNatClampNeg (some x101)) (2 : Int32).toNatClampNeg (some x102)) (3 : Int32).toNatClampNeg (some x103)))))))) (mu (mu Mc6 tz (.inl (k 4, 6, .inr (.inr (.inr (.inr (va_up (va_up (va_up (va_up (fun _ => none) (0 : Int32).toNatClampNeg (some x100)) (1 : Int32).toNatClampNeg (some x101)) (2 : Int32).toNatClampNeg (some x102)) (3 : Int32).toNatClampNeg (some x103)))))))) x104 (.inr (3, [.null, .null, .null, .null, .null, .int 0, .int 0]))) := ((kq.refl _)).new hx104
            have hT_tr := treeAt_kq hq9 hT_tr
            have hT_nx := treeAt_kq hq9 hT_nx
            have hD_dk := hq9 _ _ (by simp [bad]) hD_dk
            have hX_x100 := txF_kq hq9 hX_x100
            have hX_x101 := txF_kq hq9 hX_x101
            have hX_x102 := txF_kq hq9 hX_x102
            have hX_x103 := txF_kq hq9 hX_x103
            refine lv_dup hx hb dX5_init_88 rfl ?_
            refine m_new (T := TX4) (N := 2) (ci := 4) (fs := [.null, .int 0]) hx hb hts wX4 tyX4 tyX4_ok hown (hts (.classLink RX5 7 RX4) (by decide +kernel)) (hts (.instantiable RX4 2) (by decide +kernel)) (hts (.initialized RX4) (by decide +kernel)) hK hm hS hA rfl (fun j hj => by rcases (show j = 0 ∨ j = 1 by omega) with rfl | rfl <;> rfl) (Nat.le_of_ble_eq_true rfl) (Nat.le_of_ble_eq_true rfl) dX5_init_89 (fun v104 H hv104 hm hS => ?_)
            refine W.widen (k := 71) (n := 2111) (Nat.le_of_ble_eq_true rfl) (Nat.le_of_ble_eq_true rfl) ?_
            have hn_v104 := (hkp).no (fun h9 => absurd h9.symm (m_fr hv104 ((mu_ne ne_o_x104).trans ((mu_ne ne_o_tz).trans k_o)))) hv104
            have ne_o_v104 : o ≠ v104 := m_fr hv104 ((mu_ne ne_o_x104).trans ((mu_ne ne_o_tz).trans k_o))
            have ne_v104_o : v104 ≠ o := Ne.symm ne_o_v104
            have ne_tz_v104 : tz ≠ v104 := m_fr hv104 ((mu_ne ne_tz_x104).trans (mu_self _ _ _))
            have ne_v104_tz : v104 ≠ tz := Ne.symm ne_tz_v104
            have ne_tr_v104 : tr ≠ v104 := m_fr hv104 hT_tr.1
            have ne_v104_tr : v104 ≠ tr := Ne.symm ne_tr_v104
            have ne_x104_v104 : x104 ≠ v104 := m_fr hv104 (mu_self _ _ _)
            have ne_v104_x104 : v104 ≠ x104 := Ne.symm ne_x104_v104
            have hm : mm D (AZ z) (mu (mu (mu Mc6 tz (.inl (k 4, 6, .inr (.inr (.inr (.inr (va_up (va_up (va_up (va_up (fun _ => none) (0 : Int32).toNatClampNeg (some x100)) (1 : Int32).toNatClampNeg (some x101)) (2 : Int32).toNatClampNeg (some x102)) (3 : Int32).toNatClampNeg (some x103)))))))) x104 (.inr (3, [.null, .null, .null, .null, .null, .int 0, .int 0]))) v104 (.inr (4, [.null, .int 0]))) H := hm
            have hkp : kpx (fun a => a = o) M (mu (mu (mu Mc6 tz (.inl (k 4, 6, .inr (.inr (.inr (.inr (va_up (va_up (va_up (va_up (fun _ => none) (0 : Int32).toNatClampNeg (some x100)) (1 : Int32).toNatClampNeg (some x101)) (2 : Int32).toNatClampNeg (some x102)) (3 : Int32).toNatClampNeg (some x103)))))))) x104 (.inr (3, [.null, .null, .null, .null, .null, .int 0, .int 0]))) v104 (.inr (4, [.null, .int 0]))) := (hkp).new hv104
            have hq9 : kq (mu (mu Mc6 tz (.inl (k 4, 6, .inr (.inr (.inr (.inr (va_up (va_up (va_up (va_up (fun _ => none) (0 : Int32).toNatClampNeg (some x100)) (1 : Int32).toNatClampNeg (some x101)) (2 : Int32).toNatClampNeg (some x102)) (3 : Int32).toNatClampNeg (some x103)))))))) x104 (.inr (3, [.null, .null, .null, .null, .null, .int 0, .int 0]))) (mu (mu (mu Mc6 tz (.inl (k 4, 6, .inr (.inr (.inr (.inr (va_up (va_up (va_up (va_up (fun _ => none) (0 : Int32).toNatClampNeg (some x100)) (1 : Int32).toNatClampNeg (some x101)) (2 : Int32).toNatClampNeg (some x102)) (3 : Int32).toNatClampNeg (some x103)))))))) x104 (.inr (3, [.null, .null, .null, .null, .null, .int 0, .int 0]))) v104 (.inr (4, [.null, .int 0]))) := ((kq.refl _)).new hv104
            have hT_tr := treeAt_kq hq9 hT_tr
            have hT_nx := treeAt_kq hq9 hT_nx
            have hD_dk := hq9 _ _ (by simp [bad]) hD_dk
            have hX_x100 := txF_kq hq9 hX_x100
            have hX_x101 := txF_kq hq9 hX_x101
            have hX_x102 := txF_kq hq9 hX_x102
            have hX_x103 := txF_kq hq9 hX_x103
            refine lv_dup hx hb dX5_init_92 rfl ?_
            refine m_kIN (As := []) (rest := [.ref v104, .ref x104, .ref x104, .int 4, .ref tz]) (rm := { frames := 1, cells := 1, slots := 60, locals := 12 }) ⟨hx, hb, hml, hown, hts⟩ (c_X4_init l D k z _ v104 (mu_self _ _ _)) ⟨va_cnB 0 hts ggX5_init_X4_init rfl rfl rfl (hcx.2.2.2.2.1 (.methodLinkNest RX5 9 yX4_init "CommitTree") (by decide +kernel)) (hts (.initialized RX4) (by decide +kernel)) (by decide +kernel) ⟨Nat.le_of_ble_eq_true rfl, Nat.le_of_ble_eq_true rfl⟩, rfl, hts (.instanceMethod yX4_init) (by decide +kernel)⟩ hz hcx hm hS rfl hl.1 rfl (Nat.le_of_ble_eq_true rfl) dX5_init_93 ⟨Nat.le_of_ble_eq_true rfl, Nat.le_of_ble_eq_true rfl⟩ (fun v M1 H locs hv hm hS => ?_)
            have hT9 := hT_tr
            obtain ⟨v104n, hv104n, hv1, hM1⟩ := hv
            subst hv1
            rw [hM1] at hm
            have hn_v104n := (hkp).no (fun h9 => absurd h9.symm (m_fr hv104n ((mu_ne ne_o_v104).trans ((mu_ne ne_o_x104).trans ((mu_ne ne_o_tz).trans k_o))))) hv104n
            have ne_o_v104n : o ≠ v104n := m_fr hv104n ((mu_ne ne_o_v104).trans ((mu_ne ne_o_x104).trans ((mu_ne ne_o_tz).trans k_o)))
            have ne_v104n_o : v104n ≠ o := Ne.symm ne_o_v104n
            have ne_tz_v104n : tz ≠ v104n := m_fr hv104n ((mu_ne ne_tz_v104).trans ((mu_ne ne_tz_x104).trans (mu_self _ _ _)))
            have ne_v104n_tz : v104n ≠ tz := Ne.symm ne_tz_v104n
            have ne_tr_v104n : tr ≠ v104n := m_fr hv104n hT_tr.1
            have ne_v104n_tr : v104n ≠ tr := Ne.symm ne_tr_v104n
            have ne_x104_v104n : x104 ≠ v104n := m_fr hv104n ((mu_ne ne_x104_v104).trans (mu_self _ _ _))
            have ne_v104n_x104 : v104n ≠ x104 := Ne.symm ne_x104_v104n
            have ne_v104_v104n : v104 ≠ v104n := m_fr hv104n (mu_self _ _ _)
            have ne_v104n_v104 : v104n ≠ v104 := Ne.symm ne_v104_v104n
            have hm : mm D (AZ z) (mu (mu (mu (mu (mu Mc6 tz (.inl (k 4, 6, .inr (.inr (.inr (.inr (va_up (va_up (va_up (va_up (fun _ => none) (0 : Int32).toNatClampNeg (some x100)) (1 : Int32).toNatClampNeg (some x101)) (2 : Int32).toNatClampNeg (some x102)) (3 : Int32).toNatClampNeg (some x103)))))))) x104 (.inr (3, [.null, .null, .null, .null, .null, .int 0, .int 0]))) v104 (.inr (4, [.null, .int 0]))) v104n (.inl (k 3, 60, .inr (.inr (.inr (.inr (fun _ => none))))))) v104 (.inr (4, [.ref v104n, .int 0]))) H := hm
            have hkp : kpx (fun a => a = o) M (mu (mu (mu (mu (mu Mc6 tz (.inl (k 4, 6, .inr (.inr (.inr (.inr (va_up (va_up (va_up (va_up (fun _ => none) (0 : Int32).toNatClampNeg (some x100)) (1 : Int32).toNatClampNeg (some x101)) (2 : Int32).toNatClampNeg (some x102)) (3 : Int32).toNatClampNeg (some x103)))))))) x104 (.inr (3, [.null, .null, .null, .null, .null, .int 0, .int 0]))) v104 (.inr (4, [.null, .int 0]))) v104n (.inl (k 3, 60, .inr (.inr (.inr (.inr (fun _ => none))))))) v104 (.inr (4, [.ref v104n, .int 0]))) := ((hkp).new hv104n).old hn_v104
            have hq9 : kq (mu (mu (mu Mc6 tz (.inl (k 4, 6, .inr (.inr (.inr (.inr (va_up (va_up (va_up (va_up (fun _ => none) (0 : Int32).toNatClampNeg (some x100)) (1 : Int32).toNatClampNeg (some x101)) (2 : Int32).toNatClampNeg (some x102)) (3 : Int32).toNatClampNeg (some x103)))))))) x104 (.inr (3, [.null, .null, .null, .null, .null, .int 0, .int 0]))) v104 (.inr (4, [.null, .int 0]))) (mu (mu (mu (mu (mu Mc6 tz (.inl (k 4, 6, .inr (.inr (.inr (.inr (va_up (va_up (va_up (va_up (fun _ => none) (0 : Int32).toNatClampNeg (some x100)) (1 : Int32).toNatClampNeg (some x101)) (2 : Int32).toNatClampNeg (some x102)) (3 : Int32).toNatClampNeg (some x103)))))))) x104 (.inr (3, [.null, .null, .null, .null, .null, .int 0, .int 0]))) v104 (.inr (4, [.null, .int 0]))) v104n (.inl (k 3, 60, .inr (.inr (.inr (.inr (fun _ => none))))))) v104 (.inr (4, [.ref v104n, .int 0]))) := (((kq.refl _)).new hv104n).upd ((mu_ne ne_v104_v104n).trans (mu_self _ _ _)) (by first | exact bad5 | exact badN | exact bad6 | exact bad00)
            have hT_tr := treeAt_kq hq9 hT_tr
            have hT_nx := treeAt_kq hq9 hT_nx
            have hD_dk := hq9 _ _ (by simp [bad]) hD_dk
            have hX_x100 := txF_kq hq9 hX_x100
            have hX_x101 := txF_kq hq9 hX_x101
            have hX_x102 := txF_kq hq9 hX_x102
            have hX_x103 := txF_kq hq9 hX_x103
            have hT_v104 : treeAt k (mu (mu (mu (mu (mu Mc6 tz (.inl (k 4, 6, .inr (.inr (.inr (.inr (va_up (va_up (va_up (va_up (fun _ => none) (0 : Int32).toNatClampNeg (some x100)) (1 : Int32).toNatClampNeg (some x101)) (2 : Int32).toNatClampNeg (some x102)) (3 : Int32).toNatClampNeg (some x103)))))))) x104 (.inr (3, [.null, .null, .null, .null, .null, .int 0, .int 0]))) v104 (.inr (4, [.null, .int 0]))) v104n (.inl (k 3, 60, .inr (.inr (.inr (.inr (fun _ => none))))))) v104 (.inr (4, [.ref v104n, .int 0]))) v104 v104n (fun _ => none) [] := ⟨(mu_self _ _ _), ((mu_ne ne_v104n_v104).trans (mu_self _ _ _)), Nat.zero_le _, fun j v hv => by simp at hv⟩
            have ne_trn_v104 : trn ≠ v104n := m_fr hv104n hT9.2.1
            refine W.eq (g2 := F0 m 96 ls [.ref v104, .ref x104, .ref x104, .int 4, .ref tz]) rfl ?_
            refine W.widen (k := 72) (n := 2171) (Nat.le_of_ble_eq_true rfl) (Nat.le_of_ble_eq_true rfl) ?_
            have hm : mm D (AZ z) (mu (mu (mu (mu (mu Mc6 tz (.inl (k 4, 6, .inr (.inr (.inr (.inr (va_up (va_up (va_up (va_up (fun _ => none) (0 : Int32).toNatClampNeg (some x100)) (1 : Int32).toNatClampNeg (some x101)) (2 : Int32).toNatClampNeg (some x102)) (3 : Int32).toNatClampNeg (some x103)))))))) x104 (.inr (3, [.null, .null, .null, .null, .null, .int 0, .int 0]))) v104 (.inr (4, [.null, .int 0]))) v104n (.inl (k 3, 60, .inr (.inr (.inr (.inr (fun _ => none))))))) v104 (.inr (4, [.ref v104n, .int 0]))) H := hm
            refine m_kI (As := [.ref v104]) (rest := [.ref x104, .int 4, .ref tz]) (rm := { frames := 2, cells := 11, slots := 371, locals := 32 }) ⟨hx, hb, hml, hown, hts⟩ (c_X3_init l D k z _ x104 v104 ((mu_ne ne_x104_v104).trans ((mu_ne ne_x104_v104n).trans ((mu_ne ne_x104_v104).trans (mu_self _ _ _))))) (cwI 1 hts gX5_init_X3_init rfl rfl rfl (hts (.initialized RX3) (by decide +kernel)) (hts (.methodLink RX5 49 yX3_init) (by decide +kernel)) (hts (.instanceMethod yX3_init) (by decide +kernel)) rfl (by decide +kernel) ⟨Nat.le_of_ble_eq_true rfl, Nat.le_of_ble_eq_true rfl⟩) hz hcx hm hS rfl hl.1 rfl (Nat.le_of_ble_eq_true rfl) dX5_init_96 ⟨Nat.le_of_ble_eq_true rfl, Nat.le_of_ble_eq_true rfl⟩ (fun v M1 H locs hv hm hS => ?_)
            obtain ⟨hv1, hk9, hx9⟩ := hv
            subst hv1
            have hq9 : kq (mu (mu (mu (mu (mu Mc6 tz (.inl (k 4, 6, .inr (.inr (.inr (.inr (va_up (va_up (va_up (va_up (fun _ => none) (0 : Int32).toNatClampNeg (some x100)) (1 : Int32).toNatClampNeg (some x101)) (2 : Int32).toNatClampNeg (some x102)) (3 : Int32).toNatClampNeg (some x103)))))))) x104 (.inr (3, [.null, .null, .null, .null, .null, .int 0, .int 0]))) v104 (.inr (4, [.null, .int 0]))) v104n (.inl (k 3, 60, .inr (.inr (.inr (.inr (fun _ => none))))))) v104 (.inr (4, [.ref v104n, .int 0]))) M1 := kq.made hk9 ((mu_ne ne_x104_v104).trans ((mu_ne ne_x104_v104n).trans ((mu_ne ne_x104_v104).trans (mu_self _ _ _)))) badN
            have k_o : M1 o = some _ := hk9 _ _ ne_o_x104 ((mu_ne ne_o_v104).trans ((mu_ne ne_o_v104n).trans ((mu_ne ne_o_v104).trans ((mu_ne ne_o_x104).trans ((mu_ne ne_o_tz).trans k_o)))))
            have k_tz : M1 tz = some _ := hk9 _ _ ne_tz_x104 ((mu_ne ne_tz_v104).trans ((mu_ne ne_tz_v104n).trans ((mu_ne ne_tz_v104).trans ((mu_ne ne_tz_x104).trans (mu_self _ _ _)))))
            have hkp : kpx (fun a => a = o) M M1 := hkp.call hk9 hn_x104
            have hX_x104 := txF_of hT_tr hT_v104 ne_tr_v104 ne_trn_v104 hq9 hx9
            have hC_x104 := hx9
            obtain ⟨b9, bn9, mk9, cr9, fr9, -, hC_x104, -⟩ := hx9
            have hT_tr := treeAt_kq hq9 hT_tr
            have hT_nx := treeAt_kq hq9 hT_nx
            have hD_dk := hq9 _ _ (by simp [bad]) hD_dk
            have hX_x100 := txF_kq hq9 hX_x100
            have hX_x101 := txF_kq hq9 hX_x101
            have hX_x102 := txF_kq hq9 hX_x102
            have hX_x103 := txF_kq hq9 hX_x103
            obtain ⟨Mc7, hMx⟩ : ∃ x : mM, x = M1 := ⟨M1, rfl⟩
            subst hMx
            refine W.eq (g2 := F0 m 99 ls [.ref x104, .int 4, .ref tz]) rfl ?_
            refine W.widen (k := 83) (n := 2542) (Nat.le_of_ble_eq_true rfl) (Nat.le_of_ble_eq_true rfl) ?_
            have hm : mm D (AZ z) Mc7 H := hm
            refine m_aast (r := (RX3, TX3, 7)) hx hb hK hm hS 4 3 k_tz rfl hC_x104 rfl (by unfold vp_in; decide) dX5_init_99 (fun H locs hm hS => ?_)
            have hm : mm D (AZ z) (mu Mc7 tz (.inl (k 4, 6, .inr (.inr (.inr (.inr (va_up (va_up (va_up (va_up (va_up (fun _ => none) (0 : Int32).toNatClampNeg (some x100)) (1 : Int32).toNatClampNeg (some x101)) (2 : Int32).toNatClampNeg (some x102)) (3 : Int32).toNatClampNeg (some x103)) (4 : Int32).toNatClampNeg (some x104)))))))) H := hm
            have hkp : kpx (fun a => a = o) M (mu Mc7 tz (.inl (k 4, 6, .inr (.inr (.inr (.inr (va_up (va_up (va_up (va_up (va_up (fun _ => none) (0 : Int32).toNatClampNeg (some x100)) (1 : Int32).toNatClampNeg (some x101)) (2 : Int32).toNatClampNeg (some x102)) (3 : Int32).toNatClampNeg (some x103)) (4 : Int32).toNatClampNeg (some x104)))))))) := (hkp).old hn_tz
            have hq9 : kq Mc7 (mu Mc7 tz (.inl (k 4, 6, .inr (.inr (.inr (.inr (va_up (va_up (va_up (va_up (va_up (fun _ => none) (0 : Int32).toNatClampNeg (some x100)) (1 : Int32).toNatClampNeg (some x101)) (2 : Int32).toNatClampNeg (some x102)) (3 : Int32).toNatClampNeg (some x103)) (4 : Int32).toNatClampNeg (some x104)))))))) := ((kq.refl _)).upd k_tz (by first | exact bad5 | exact badN | exact bad6 | exact bad00)
            have hT_tr := treeAt_kq hq9 hT_tr
            have hT_nx := treeAt_kq hq9 hT_nx
            have hD_dk := hq9 _ _ (by simp [bad]) hD_dk
            have hX_x100 := txF_kq hq9 hX_x100
            have hX_x101 := txF_kq hq9 hX_x101
            have hX_x102 := txF_kq hq9 hX_x102
            have hX_x103 := txF_kq hq9 hX_x103
            have hX_x104 := txF_kq hq9 hX_x104
            have hC_x104 := hq9 _ _ (by simp [bad]) hC_x104
            refine lv_iinc (v := 5) (lv' := [(1, .int 5), (0, .ref o)]) hx hb dX5_init_100 hl (k := 0) rfl rfl (by decide) rfl (fun ls hl => ?_)
            refine lv_goto (tgt := 71) hx hb dX5_init_103 (by decide) ?_
            refine lv_iload_n hx hb dX5_init_71 rfl (lv_at hl 0 rfl) ?_
            refine lv_aload_n hx hb dX5_init_72 rfl (lv_at hl 1 rfl) ?_
            refine m_get (T := TX5) (N := 11) (ci := 5) (v := .ref tz) hx hb hts wX5 hown hK hm ((mu_ne ne_o_tz).trans k_o) rfl 4 (by decide) f45 (fun _ h9 => h9) rfl dX5_init_73 ?_
            refine m_alen hx hb hK hm 4 (mu_self _ _ _) rfl (v := 6) rfl dX5_init_76 ?_
            refine lv_icmp_ge (tgt := 106) hx hb dX5_init_77 (by decide) (fun c21 => ?_) (fun c21 => ?_)
            · first | exact absurd c21 (by decide) | exact absurd (by decide) c21
            · refine lv_aload_n hx hb dX5_init_80 rfl (lv_at hl 1 rfl) ?_
              refine m_get (T := TX5) (N := 11) (ci := 5) (v := .ref tz) hx hb hts wX5 hown hK hm ((mu_ne ne_o_tz).trans k_o) rfl 4 (by decide) f45 (fun _ h9 => h9) rfl dX5_init_81 ?_
              refine lv_iload_n hx hb dX5_init_84 rfl (lv_at hl 0 rfl) ?_
              refine m_new (T := TX3) (N := 7) (ci := 3) (fs := [.null, .null, .null, .null, .null, .int 0, .int 0]) hx hb hts wX3 tyX3 tyX3_ok hown (hts (.classLink RX5 43 RX3) (by decide +kernel)) (hts (.instantiable RX3 7) (by decide +kernel)) (hts (.initialized RX3) (by decide +kernel)) hK hm hS hA rfl (fun j hj => by rcases (show j = 0 ∨ j = 1 ∨ j = 2 ∨ j = 3 ∨ j = 4 ∨ j = 5 ∨ j = 6 by omega) with rfl | rfl | rfl | rfl | rfl | rfl | rfl <;> rfl) (Nat.le_of_ble_eq_true rfl) (Nat.le_of_ble_eq_true rfl) dX5_init_85 (fun x105 H hx105 hm hS => ?_)
              refine W.widen (k := 84) (n := 2549) (Nat.le_of_ble_eq_true rfl) (Nat.le_of_ble_eq_true rfl) ?_
              have hn_x105 := (hkp).no (fun h9 => absurd h9.symm (m_fr hx105 ((mu_ne ne_o_tz).trans k_o))) hx105
              have ne_o_x105 : o ≠ x105 := m_fr hx105 ((mu_ne ne_o_tz).trans k_o)
              have ne_x105_o : x105 ≠ o := Ne.symm ne_o_x105
              have ne_tz_x105 : tz ≠ x105 := m_fr hx105 (mu_self _ _ _)
              have ne_x105_tz : x105 ≠ tz := Ne.symm ne_tz_x105
              have ne_tr_x105 : tr ≠ x105 := m_fr hx105 hT_tr.1
              have ne_x105_tr : x105 ≠ tr := Ne.symm ne_tr_x105
              have hm : mm D (AZ z) (mu (mu Mc7 tz (.inl (k 4, 6, .inr (.inr (.inr (.inr (va_up (va_up (va_up (va_up (va_up (fun _ => none) (0 : Int32).toNatClampNeg (some x100)) (1 : Int32).toNatClampNeg (some x101)) (2 : Int32).toNatClampNeg (some x102)) (3 : Int32).toNatClampNeg (some x103)) (4 : Int32).toNatClampNeg (some x104)))))))) x105 (.inr (3, [.null, .null, .null, .null, .null, .int 0, .int 0]))) H := hm
              have hkp : kpx (fun a => a = o) M (mu (mu Mc7 tz (.inl (k 4, 6, .inr (.inr (.inr (.inr (va_up (va_up (va_up (va_up (va_up (fun _ => none) (0 : Int32).toNatClampNeg (some x100)) (1 : Int32).toNatClampNeg (some x101)) (2 : Int32).toNatClampNeg (some x102)) (3 : Int32).toNatClampNeg (some x103)) (4 : Int32).toNatClampNeg (some x104)))))))) x105 (.inr (3, [.null, .null, .null, .null, .null, .int 0, .int 0]))) := (hkp).new hx105
              have hq9 : kq (mu Mc7 tz (.inl (k 4, 6, .inr (.inr (.inr (.inr (va_up (va_up (va_up (va_up (va_up (fun _ => none) (0 : Int32).toNatClampNeg (some x100)) (1 : Int32).toNatClampNeg (some x101)) (2 : Int32).toNatClampNeg (some x102)) (3 : Int32).toNatClampNeg (some x103)) (4 : Int32).toNatClampNeg (some x104)))))))) (mu (mu Mc7 tz (.inl (k 4, 6, .inr (.inr (.inr (.inr (va_up (va_up (va_up (va_up (va_up (fun _ => none) (0 : Int32).toNatClampNeg (some x100)) (1 : Int32).toNatClampNeg (some x101)) (2 : Int32).toNatClampNeg (some x102)) (3 : Int32).toNatClampNeg (some x103)) (4 : Int32).toNatClampNeg (some x104)))))))) x105 (.inr (3, [.null, .null, .null, .null, .null, .int 0, .int 0]))) := ((kq.refl _)).new hx105
              have hT_tr := treeAt_kq hq9 hT_tr
              have hT_nx := treeAt_kq hq9 hT_nx
              have hD_dk := hq9 _ _ (by simp [bad]) hD_dk
              have hX_x100 := txF_kq hq9 hX_x100
              have hX_x101 := txF_kq hq9 hX_x101
              have hX_x102 := txF_kq hq9 hX_x102
              have hX_x103 := txF_kq hq9 hX_x103
              have hX_x104 := txF_kq hq9 hX_x104
              refine lv_dup hx hb dX5_init_88 rfl ?_
              refine m_new (T := TX4) (N := 2) (ci := 4) (fs := [.null, .int 0]) hx hb hts wX4 tyX4 tyX4_ok hown (hts (.classLink RX5 7 RX4) (by decide +kernel)) (hts (.instantiable RX4 2) (by decide +kernel)) (hts (.initialized RX4) (by decide +kernel)) hK hm hS hA rfl (fun j hj => by rcases (show j = 0 ∨ j = 1 by omega) with rfl | rfl <;> rfl) (Nat.le_of_ble_eq_true rfl) (Nat.le_of_ble_eq_true rfl) dX5_init_89 (fun v105 H hv105 hm hS => ?_)
              refine W.widen (k := 85) (n := 2551) (Nat.le_of_ble_eq_true rfl) (Nat.le_of_ble_eq_true rfl) ?_
              have hn_v105 := (hkp).no (fun h9 => absurd h9.symm (m_fr hv105 ((mu_ne ne_o_x105).trans ((mu_ne ne_o_tz).trans k_o)))) hv105
              have ne_o_v105 : o ≠ v105 := m_fr hv105 ((mu_ne ne_o_x105).trans ((mu_ne ne_o_tz).trans k_o))
              have ne_v105_o : v105 ≠ o := Ne.symm ne_o_v105
              have ne_tz_v105 : tz ≠ v105 := m_fr hv105 ((mu_ne ne_tz_x105).trans (mu_self _ _ _))
              have ne_v105_tz : v105 ≠ tz := Ne.symm ne_tz_v105
              have ne_tr_v105 : tr ≠ v105 := m_fr hv105 hT_tr.1
              have ne_v105_tr : v105 ≠ tr := Ne.symm ne_tr_v105
              have ne_x105_v105 : x105 ≠ v105 := m_fr hv105 (mu_self _ _ _)
              have ne_v105_x105 : v105 ≠ x105 := Ne.symm ne_x105_v105
              have hm : mm D (AZ z) (mu (mu (mu Mc7 tz (.inl (k 4, 6, .inr (.inr (.inr (.inr (va_up (va_up (va_up (va_up (va_up (fun _ => none) (0 : Int32).toNatClampNeg (some x100)) (1 : Int32).toNatClampNeg (some x101)) (2 : Int32).toNatClampNeg (some x102)) (3 : Int32).toNatClampNeg (some x103)) (4 : Int32).toNatClampNeg (some x104)))))))) x105 (.inr (3, [.null, .null, .null, .null, .null, .int 0, .int 0]))) v105 (.inr (4, [.null, .int 0]))) H := hm
              have hkp : kpx (fun a => a = o) M (mu (mu (mu Mc7 tz (.inl (k 4, 6, .inr (.inr (.inr (.inr (va_up (va_up (va_up (va_up (va_up (fun _ => none) (0 : Int32).toNatClampNeg (some x100)) (1 : Int32).toNatClampNeg (some x101)) (2 : Int32).toNatClampNeg (some x102)) (3 : Int32).toNatClampNeg (some x103)) (4 : Int32).toNatClampNeg (some x104)))))))) x105 (.inr (3, [.null, .null, .null, .null, .null, .int 0, .int 0]))) v105 (.inr (4, [.null, .int 0]))) := (hkp).new hv105
              have hq9 : kq (mu (mu Mc7 tz (.inl (k 4, 6, .inr (.inr (.inr (.inr (va_up (va_up (va_up (va_up (va_up (fun _ => none) (0 : Int32).toNatClampNeg (some x100)) (1 : Int32).toNatClampNeg (some x101)) (2 : Int32).toNatClampNeg (some x102)) (3 : Int32).toNatClampNeg (some x103)) (4 : Int32).toNatClampNeg (some x104)))))))) x105 (.inr (3, [.null, .null, .null, .null, .null, .int 0, .int 0]))) (mu (mu (mu Mc7 tz (.inl (k 4, 6, .inr (.inr (.inr (.inr (va_up (va_up (va_up (va_up (va_up (fun _ => none) (0 : Int32).toNatClampNeg (some x100)) (1 : Int32).toNatClampNeg (some x101)) (2 : Int32).toNatClampNeg (some x102)) (3 : Int32).toNatClampNeg (some x103)) (4 : Int32).toNatClampNeg (some x104)))))))) x105 (.inr (3, [.null, .null, .null, .null, .null, .int 0, .int 0]))) v105 (.inr (4, [.null, .int 0]))) := ((kq.refl _)).new hv105
              have hT_tr := treeAt_kq hq9 hT_tr
              have hT_nx := treeAt_kq hq9 hT_nx
              have hD_dk := hq9 _ _ (by simp [bad]) hD_dk
              have hX_x100 := txF_kq hq9 hX_x100
              have hX_x101 := txF_kq hq9 hX_x101
              have hX_x102 := txF_kq hq9 hX_x102
              have hX_x103 := txF_kq hq9 hX_x103
              have hX_x104 := txF_kq hq9 hX_x104
              refine lv_dup hx hb dX5_init_92 rfl ?_
              refine m_kIN (As := []) (rest := [.ref v105, .ref x105, .ref x105, .int 5, .ref tz]) (rm := { frames := 1, cells := 1, slots := 60, locals := 12 }) ⟨hx, hb, hml, hown, hts⟩ (c_X4_init l D k z _ v105 (mu_self _ _ _)) ⟨va_cnB 0 hts ggX5_init_X4_init rfl rfl rfl (hcx.2.2.2.2.1 (.methodLinkNest RX5 9 yX4_init "CommitTree") (by decide +kernel)) (hts (.initialized RX4) (by decide +kernel)) (by decide +kernel) ⟨Nat.le_of_ble_eq_true rfl, Nat.le_of_ble_eq_true rfl⟩, rfl, hts (.instanceMethod yX4_init) (by decide +kernel)⟩ hz hcx hm hS rfl hl.1 rfl (Nat.le_of_ble_eq_true rfl) dX5_init_93 ⟨Nat.le_of_ble_eq_true rfl, Nat.le_of_ble_eq_true rfl⟩ (fun v M1 H locs hv hm hS => ?_)
              have hT9 := hT_tr
              obtain ⟨v105n, hv105n, hv1, hM1⟩ := hv
              subst hv1
              rw [hM1] at hm
              have hn_v105n := (hkp).no (fun h9 => absurd h9.symm (m_fr hv105n ((mu_ne ne_o_v105).trans ((mu_ne ne_o_x105).trans ((mu_ne ne_o_tz).trans k_o))))) hv105n
              have ne_o_v105n : o ≠ v105n := m_fr hv105n ((mu_ne ne_o_v105).trans ((mu_ne ne_o_x105).trans ((mu_ne ne_o_tz).trans k_o)))
              have ne_v105n_o : v105n ≠ o := Ne.symm ne_o_v105n
              have ne_tz_v105n : tz ≠ v105n := m_fr hv105n ((mu_ne ne_tz_v105).trans ((mu_ne ne_tz_x105).trans (mu_self _ _ _)))
              have ne_v105n_tz : v105n ≠ tz := Ne.symm ne_tz_v105n
              have ne_tr_v105n : tr ≠ v105n := m_fr hv105n hT_tr.1
              have ne_v105n_tr : v105n ≠ tr := Ne.symm ne_tr_v105n
              have ne_x105_v105n : x105 ≠ v105n := m_fr hv105n ((mu_ne ne_x105_v105).trans (mu_self _ _ _))
              have ne_v105n_x105 : v105n ≠ x105 := Ne.symm ne_x105_v105n
              have ne_v105_v105n : v105 ≠ v105n := m_fr hv105n (mu_self _ _ _)
              have ne_v105n_v105 : v105n ≠ v105 := Ne.symm ne_v105_v105n
              have hm : mm D (AZ z) (mu (mu (mu (mu (mu Mc7 tz (.inl (k 4, 6, .inr (.inr (.inr (.inr (va_up (va_up (va_up (va_up (va_up (fun _ => none) (0 : Int32).toNatClampNeg (some x100)) (1 : Int32).toNatClampNeg (some x101)) (2 : Int32).toNatClampNeg (some x102)) (3 : Int32).toNatClampNeg (some x103)) (4 : Int32).toNatClampNeg (some x104)))))))) x105 (.inr (3, [.null, .null, .null, .null, .null, .int 0, .int 0]))) v105 (.inr (4, [.null, .int 0]))) v105n (.inl (k 3, 60, .inr (.inr (.inr (.inr (fun _ => none))))))) v105 (.inr (4, [.ref v105n, .int 0]))) H := hm
              have hkp : kpx (fun a => a = o) M (mu (mu (mu (mu (mu Mc7 tz (.inl (k 4, 6, .inr (.inr (.inr (.inr (va_up (va_up (va_up (va_up (va_up (fun _ => none) (0 : Int32).toNatClampNeg (some x100)) (1 : Int32).toNatClampNeg (some x101)) (2 : Int32).toNatClampNeg (some x102)) (3 : Int32).toNatClampNeg (some x103)) (4 : Int32).toNatClampNeg (some x104)))))))) x105 (.inr (3, [.null, .null, .null, .null, .null, .int 0, .int 0]))) v105 (.inr (4, [.null, .int 0]))) v105n (.inl (k 3, 60, .inr (.inr (.inr (.inr (fun _ => none))))))) v105 (.inr (4, [.ref v105n, .int 0]))) := ((hkp).new hv105n).old hn_v105
              have hq9 : kq (mu (mu (mu Mc7 tz (.inl (k 4, 6, .inr (.inr (.inr (.inr (va_up (va_up (va_up (va_up (va_up (fun _ => none) (0 : Int32).toNatClampNeg (some x100)) (1 : Int32).toNatClampNeg (some x101)) (2 : Int32).toNatClampNeg (some x102)) (3 : Int32).toNatClampNeg (some x103)) (4 : Int32).toNatClampNeg (some x104)))))))) x105 (.inr (3, [.null, .null, .null, .null, .null, .int 0, .int 0]))) v105 (.inr (4, [.null, .int 0]))) (mu (mu (mu (mu (mu Mc7 tz (.inl (k 4, 6, .inr (.inr (.inr (.inr (va_up (va_up (va_up (va_up (va_up (fun _ => none) (0 : Int32).toNatClampNeg (some x100)) (1 : Int32).toNatClampNeg (some x101)) (2 : Int32).toNatClampNeg (some x102)) (3 : Int32).toNatClampNeg (some x103)) (4 : Int32).toNatClampNeg (some x104)))))))) x105 (.inr (3, [.null, .null, .null, .null, .null, .int 0, .int 0]))) v105 (.inr (4, [.null, .int 0]))) v105n (.inl (k 3, 60, .inr (.inr (.inr (.inr (fun _ => none))))))) v105 (.inr (4, [.ref v105n, .int 0]))) := (((kq.refl _)).new hv105n).upd ((mu_ne ne_v105_v105n).trans (mu_self _ _ _)) (by first | exact bad5 | exact badN | exact bad6 | exact bad00)
              have hT_tr := treeAt_kq hq9 hT_tr
              have hT_nx := treeAt_kq hq9 hT_nx
              have hD_dk := hq9 _ _ (by simp [bad]) hD_dk
              have hX_x100 := txF_kq hq9 hX_x100
              have hX_x101 := txF_kq hq9 hX_x101
              have hX_x102 := txF_kq hq9 hX_x102
              have hX_x103 := txF_kq hq9 hX_x103
              have hX_x104 := txF_kq hq9 hX_x104
              have hT_v105 : treeAt k (mu (mu (mu (mu (mu Mc7 tz (.inl (k 4, 6, .inr (.inr (.inr (.inr (va_up (va_up (va_up (va_up (va_up (fun _ => none) (0 : Int32).toNatClampNeg (some x100)) (1 : Int32).toNatClampNeg (some x101)) (2 : Int32).toNatClampNeg (some x102)) (3 : Int32).toNatClampNeg (some x103)) (4 : Int32).toNatClampNeg (some x104)))))))) x105 (.inr (3, [.null, .null, .null, .null, .null, .int 0, .int 0]))) v105 (.inr (4, [.null, .int 0]))) v105n (.inl (k 3, 60, .inr (.inr (.inr (.inr (fun _ => none))))))) v105 (.inr (4, [.ref v105n, .int 0]))) v105 v105n (fun _ => none) [] := ⟨(mu_self _ _ _), ((mu_ne ne_v105n_v105).trans (mu_self _ _ _)), Nat.zero_le _, fun j v hv => by simp at hv⟩
              have ne_trn_v105 : trn ≠ v105n := m_fr hv105n hT9.2.1
              refine W.eq (g2 := F0 m 96 ls [.ref v105, .ref x105, .ref x105, .int 5, .ref tz]) rfl ?_
              refine W.widen (k := 86) (n := 2611) (Nat.le_of_ble_eq_true rfl) (Nat.le_of_ble_eq_true rfl) ?_
              have hm : mm D (AZ z) (mu (mu (mu (mu (mu Mc7 tz (.inl (k 4, 6, .inr (.inr (.inr (.inr (va_up (va_up (va_up (va_up (va_up (fun _ => none) (0 : Int32).toNatClampNeg (some x100)) (1 : Int32).toNatClampNeg (some x101)) (2 : Int32).toNatClampNeg (some x102)) (3 : Int32).toNatClampNeg (some x103)) (4 : Int32).toNatClampNeg (some x104)))))))) x105 (.inr (3, [.null, .null, .null, .null, .null, .int 0, .int 0]))) v105 (.inr (4, [.null, .int 0]))) v105n (.inl (k 3, 60, .inr (.inr (.inr (.inr (fun _ => none))))))) v105 (.inr (4, [.ref v105n, .int 0]))) H := hm
              refine m_kI (As := [.ref v105]) (rest := [.ref x105, .int 5, .ref tz]) (rm := { frames := 2, cells := 11, slots := 371, locals := 32 }) ⟨hx, hb, hml, hown, hts⟩ (c_X3_init l D k z _ x105 v105 ((mu_ne ne_x105_v105).trans ((mu_ne ne_x105_v105n).trans ((mu_ne ne_x105_v105).trans (mu_self _ _ _))))) (cwI 1 hts gX5_init_X3_init rfl rfl rfl (hts (.initialized RX3) (by decide +kernel)) (hts (.methodLink RX5 49 yX3_init) (by decide +kernel)) (hts (.instanceMethod yX3_init) (by decide +kernel)) rfl (by decide +kernel) ⟨Nat.le_of_ble_eq_true rfl, Nat.le_of_ble_eq_true rfl⟩) hz hcx hm hS rfl hl.1 rfl (Nat.le_of_ble_eq_true rfl) dX5_init_96 ⟨Nat.le_of_ble_eq_true rfl, Nat.le_of_ble_eq_true rfl⟩ (fun v M1 H locs hv hm hS => ?_)
              obtain ⟨hv1, hk9, hx9⟩ := hv
              subst hv1
              have hq9 : kq (mu (mu (mu (mu (mu Mc7 tz (.inl (k 4, 6, .inr (.inr (.inr (.inr (va_up (va_up (va_up (va_up (va_up (fun _ => none) (0 : Int32).toNatClampNeg (some x100)) (1 : Int32).toNatClampNeg (some x101)) (2 : Int32).toNatClampNeg (some x102)) (3 : Int32).toNatClampNeg (some x103)) (4 : Int32).toNatClampNeg (some x104)))))))) x105 (.inr (3, [.null, .null, .null, .null, .null, .int 0, .int 0]))) v105 (.inr (4, [.null, .int 0]))) v105n (.inl (k 3, 60, .inr (.inr (.inr (.inr (fun _ => none))))))) v105 (.inr (4, [.ref v105n, .int 0]))) M1 := kq.made hk9 ((mu_ne ne_x105_v105).trans ((mu_ne ne_x105_v105n).trans ((mu_ne ne_x105_v105).trans (mu_self _ _ _)))) badN
              have k_o : M1 o = some _ := hk9 _ _ ne_o_x105 ((mu_ne ne_o_v105).trans ((mu_ne ne_o_v105n).trans ((mu_ne ne_o_v105).trans ((mu_ne ne_o_x105).trans ((mu_ne ne_o_tz).trans k_o)))))
              have k_tz : M1 tz = some _ := hk9 _ _ ne_tz_x105 ((mu_ne ne_tz_v105).trans ((mu_ne ne_tz_v105n).trans ((mu_ne ne_tz_v105).trans ((mu_ne ne_tz_x105).trans (mu_self _ _ _)))))
              have hkp : kpx (fun a => a = o) M M1 := hkp.call hk9 hn_x105
              have hX_x105 := txF_of hT_tr hT_v105 ne_tr_v105 ne_trn_v105 hq9 hx9
              have hC_x105 := hx9
              obtain ⟨b9, bn9, mk9, cr9, fr9, -, hC_x105, -⟩ := hx9
              have hT_tr := treeAt_kq hq9 hT_tr
              have hT_nx := treeAt_kq hq9 hT_nx
              have hD_dk := hq9 _ _ (by simp [bad]) hD_dk
              have hX_x100 := txF_kq hq9 hX_x100
              have hX_x101 := txF_kq hq9 hX_x101
              have hX_x102 := txF_kq hq9 hX_x102
              have hX_x103 := txF_kq hq9 hX_x103
              have hX_x104 := txF_kq hq9 hX_x104
              obtain ⟨Mc8, hMx⟩ : ∃ x : mM, x = M1 := ⟨M1, rfl⟩
              subst hMx
              refine W.eq (g2 := F0 m 99 ls [.ref x105, .int 5, .ref tz]) rfl ?_
              refine W.widen (k := 97) (n := 2982) (Nat.le_of_ble_eq_true rfl) (Nat.le_of_ble_eq_true rfl) ?_
              have hm : mm D (AZ z) Mc8 H := hm
              refine m_aast (r := (RX3, TX3, 7)) hx hb hK hm hS 4 3 k_tz rfl hC_x105 rfl (by unfold vp_in; decide) dX5_init_99 (fun H locs hm hS => ?_)
              have hm : mm D (AZ z) (mu Mc8 tz (.inl (k 4, 6, .inr (.inr (.inr (.inr (va_up (va_up (va_up (va_up (va_up (va_up (fun _ => none) (0 : Int32).toNatClampNeg (some x100)) (1 : Int32).toNatClampNeg (some x101)) (2 : Int32).toNatClampNeg (some x102)) (3 : Int32).toNatClampNeg (some x103)) (4 : Int32).toNatClampNeg (some x104)) (5 : Int32).toNatClampNeg (some x105)))))))) H := hm
              have hkp : kpx (fun a => a = o) M (mu Mc8 tz (.inl (k 4, 6, .inr (.inr (.inr (.inr (va_up (va_up (va_up (va_up (va_up (va_up (fun _ => none) (0 : Int32).toNatClampNeg (some x100)) (1 : Int32).toNatClampNeg (some x101)) (2 : Int32).toNatClampNeg (some x102)) (3 : Int32).toNatClampNeg (some x103)) (4 : Int32).toNatClampNeg (some x104)) (5 : Int32).toNatClampNeg (some x105)))))))) := (hkp).old hn_tz
              have hq9 : kq Mc8 (mu Mc8 tz (.inl (k 4, 6, .inr (.inr (.inr (.inr (va_up (va_up (va_up (va_up (va_up (va_up (fun _ => none) (0 : Int32).toNatClampNeg (some x100)) (1 : Int32).toNatClampNeg (some x101)) (2 : Int32).toNatClampNeg (some x102)) (3 : Int32).toNatClampNeg (some x103)) (4 : Int32).toNatClampNeg (some x104)) (5 : Int32).toNatClampNeg (some x105)))))))) := ((kq.refl _)).upd k_tz (by first | exact bad5 | exact badN | exact bad6 | exact bad00)
              have hT_tr := treeAt_kq hq9 hT_tr
              have hT_nx := treeAt_kq hq9 hT_nx
              have hD_dk := hq9 _ _ (by simp [bad]) hD_dk
              have hX_x100 := txF_kq hq9 hX_x100
              have hX_x101 := txF_kq hq9 hX_x101
              have hX_x102 := txF_kq hq9 hX_x102
              have hX_x103 := txF_kq hq9 hX_x103
              have hX_x104 := txF_kq hq9 hX_x104
              have hX_x105 := txF_kq hq9 hX_x105
              have hC_x105 := hq9 _ _ (by simp [bad]) hC_x105
              refine lv_iinc (v := 6) (lv' := [(1, .int 6), (0, .ref o)]) hx hb dX5_init_100 hl (k := 0) rfl rfl (by decide) rfl (fun ls hl => ?_)
              refine lv_goto (tgt := 71) hx hb dX5_init_103 (by decide) ?_
              refine lv_iload_n hx hb dX5_init_71 rfl (lv_at hl 0 rfl) ?_
              refine lv_aload_n hx hb dX5_init_72 rfl (lv_at hl 1 rfl) ?_
              refine m_get (T := TX5) (N := 11) (ci := 5) (v := .ref tz) hx hb hts wX5 hown hK hm ((mu_ne ne_o_tz).trans k_o) rfl 4 (by decide) f45 (fun _ h9 => h9) rfl dX5_init_73 ?_
              refine m_alen hx hb hK hm 4 (mu_self _ _ _) rfl (v := 6) rfl dX5_init_76 ?_
              refine lv_icmp_ge (tgt := 106) hx hb dX5_init_77 (by decide) (fun c24 => ?_) (fun c24 => ?_)
              · refine lv_aload_n hx hb dX5_init_106 rfl (lv_at hl 1 rfl) ?_
                refine m_new (T := TX3) (N := 7) (ci := 3) (fs := [.null, .null, .null, .null, .null, .int 0, .int 0]) hx hb hts wX3 tyX3 tyX3_ok hown (hts (.classLink RX5 43 RX3) (by decide +kernel)) (hts (.instantiable RX3 7) (by decide +kernel)) (hts (.initialized RX3) (by decide +kernel)) hK hm hS hA rfl (fun j hj => by rcases (show j = 0 ∨ j = 1 ∨ j = 2 ∨ j = 3 ∨ j = 4 ∨ j = 5 ∨ j = 6 by omega) with rfl | rfl | rfl | rfl | rfl | rfl | rfl <;> rfl) (Nat.le_of_ble_eq_true rfl) (Nat.le_of_ble_eq_true rfl) dX5_init_107 (fun ou H hou hm hS => ?_)
                refine W.widen (k := 98) (n := 2989) (Nat.le_of_ble_eq_true rfl) (Nat.le_of_ble_eq_true rfl) ?_
                have hn_ou := (hkp).no (fun h9 => absurd h9.symm (m_fr hou ((mu_ne ne_o_tz).trans k_o))) hou
                have ne_o_ou : o ≠ ou := m_fr hou ((mu_ne ne_o_tz).trans k_o)
                have ne_ou_o : ou ≠ o := Ne.symm ne_o_ou
                have ne_tz_ou : tz ≠ ou := m_fr hou (mu_self _ _ _)
                have ne_ou_tz : ou ≠ tz := Ne.symm ne_tz_ou
                have ne_tr_ou : tr ≠ ou := m_fr hou hT_tr.1
                have ne_ou_tr : ou ≠ tr := Ne.symm ne_tr_ou
                have ne_x105_ou : x105 ≠ ou := m_fr hou hC_x105
                have ne_ou_x105 : ou ≠ x105 := Ne.symm ne_x105_ou
                have hm : mm D (AZ z) (mu (mu Mc8 tz (.inl (k 4, 6, .inr (.inr (.inr (.inr (va_up (va_up (va_up (va_up (va_up (va_up (fun _ => none) (0 : Int32).toNatClampNeg (some x100)) (1 : Int32).toNatClampNeg (some x101)) (2 : Int32).toNatClampNeg (some x102)) (3 : Int32).toNatClampNeg (some x103)) (4 : Int32).toNatClampNeg (some x104)) (5 : Int32).toNatClampNeg (some x105)))))))) ou (.inr (3, [.null, .null, .null, .null, .null, .int 0, .int 0]))) H := hm
                have hkp : kpx (fun a => a = o) M (mu (mu Mc8 tz (.inl (k 4, 6, .inr (.inr (.inr (.inr (va_up (va_up (va_up (va_up (va_up (va_up (fun _ => none) (0 : Int32).toNatClampNeg (some x100)) (1 : Int32).toNatClampNeg (some x101)) (2 : Int32).toNatClampNeg (some x102)) (3 : Int32).toNatClampNeg (some x103)) (4 : Int32).toNatClampNeg (some x104)) (5 : Int32).toNatClampNeg (some x105)))))))) ou (.inr (3, [.null, .null, .null, .null, .null, .int 0, .int 0]))) := (hkp).new hou
                have hq9 : kq (mu Mc8 tz (.inl (k 4, 6, .inr (.inr (.inr (.inr (va_up (va_up (va_up (va_up (va_up (va_up (fun _ => none) (0 : Int32).toNatClampNeg (some x100)) (1 : Int32).toNatClampNeg (some x101)) (2 : Int32).toNatClampNeg (some x102)) (3 : Int32).toNatClampNeg (some x103)) (4 : Int32).toNatClampNeg (some x104)) (5 : Int32).toNatClampNeg (some x105)))))))) (mu (mu Mc8 tz (.inl (k 4, 6, .inr (.inr (.inr (.inr (va_up (va_up (va_up (va_up (va_up (va_up (fun _ => none) (0 : Int32).toNatClampNeg (some x100)) (1 : Int32).toNatClampNeg (some x101)) (2 : Int32).toNatClampNeg (some x102)) (3 : Int32).toNatClampNeg (some x103)) (4 : Int32).toNatClampNeg (some x104)) (5 : Int32).toNatClampNeg (some x105)))))))) ou (.inr (3, [.null, .null, .null, .null, .null, .int 0, .int 0]))) := ((kq.refl _)).new hou
                have hT_tr := treeAt_kq hq9 hT_tr
                have hT_nx := treeAt_kq hq9 hT_nx
                have hD_dk := hq9 _ _ (by simp [bad]) hD_dk
                have hX_x100 := txF_kq hq9 hX_x100
                have hX_x101 := txF_kq hq9 hX_x101
                have hX_x102 := txF_kq hq9 hX_x102
                have hX_x103 := txF_kq hq9 hX_x103
                have hX_x104 := txF_kq hq9 hX_x104
                have hX_x105 := txF_kq hq9 hX_x105
                have hC_x105 := hq9 _ _ (by simp [bad]) hC_x105
                refine lv_dup hx hb dX5_init_110 rfl ?_
                refine lv_aload_n hx hb dX5_init_111 rfl (lv_at hl 1 rfl) ?_
                refine m_get (T := TX5) (N := 11) (ci := 5) (v := .ref tr) hx hb hts wX5 hown hK hm ((mu_ne ne_o_ou).trans ((mu_ne ne_o_tz).trans k_o)) rfl 0 (by decide) f10 (fun _ h9 => h9) rfl dX5_init_112 ?_
                refine m_kI (As := [.ref tr]) (rest := [.ref ou, .ref o]) (rm := { frames := 2, cells := 11, slots := 371, locals := 32 }) ⟨hx, hb, hml, hown, hts⟩ (c_X3_init l D k z _ ou tr (mu_self _ _ _)) (cwI 1 hts gX5_init_X3_init rfl rfl rfl (hts (.initialized RX3) (by decide +kernel)) (hts (.methodLink RX5 49 yX3_init) (by decide +kernel)) (hts (.instanceMethod yX3_init) (by decide +kernel)) rfl (by decide +kernel) ⟨Nat.le_of_ble_eq_true rfl, Nat.le_of_ble_eq_true rfl⟩) hz hcx hm hS rfl hl.1 rfl (Nat.le_of_ble_eq_true rfl) dX5_init_115 ⟨Nat.le_of_ble_eq_true rfl, Nat.le_of_ble_eq_true rfl⟩ (fun v M1 H locs hv hm hS => ?_)
                obtain ⟨hv1, hk9, hx9⟩ := hv
                subst hv1
                have hq9 : kq (mu (mu Mc8 tz (.inl (k 4, 6, .inr (.inr (.inr (.inr (va_up (va_up (va_up (va_up (va_up (va_up (fun _ => none) (0 : Int32).toNatClampNeg (some x100)) (1 : Int32).toNatClampNeg (some x101)) (2 : Int32).toNatClampNeg (some x102)) (3 : Int32).toNatClampNeg (some x103)) (4 : Int32).toNatClampNeg (some x104)) (5 : Int32).toNatClampNeg (some x105)))))))) ou (.inr (3, [.null, .null, .null, .null, .null, .int 0, .int 0]))) M1 := kq.made hk9 (mu_self _ _ _) badN
                have k_o : M1 o = some _ := hk9 _ _ ne_o_ou ((mu_ne ne_o_ou).trans ((mu_ne ne_o_tz).trans k_o))
                have k_tz : M1 tz = some _ := hk9 _ _ ne_tz_ou ((mu_ne ne_tz_ou).trans (mu_self _ _ _))
                have hkp : kpx (fun a => a = o) M M1 := hkp.call hk9 hn_ou
                have hX_ou := txO_of hx9
                have hC_ou := hx9
                obtain ⟨b9, bn9, mk9, cr9, fr9, -, hC_ou, -⟩ := hx9
                have hT_tr := treeAt_kq hq9 hT_tr
                have hT_nx := treeAt_kq hq9 hT_nx
                have hD_dk := hq9 _ _ (by simp [bad]) hD_dk
                have hX_x100 := txF_kq hq9 hX_x100
                have hX_x101 := txF_kq hq9 hX_x101
                have hX_x102 := txF_kq hq9 hX_x102
                have hX_x103 := txF_kq hq9 hX_x103
                have hX_x104 := txF_kq hq9 hX_x104
                have hX_x105 := txF_kq hq9 hX_x105
                have hC_x105 := hq9 _ _ (by simp [bad]) hC_x105
                obtain ⟨Mc9, hMx⟩ : ∃ x : mM, x = M1 := ⟨M1, rfl⟩
                subst hMx
                refine W.eq (g2 := F0 m 118 ls [.ref ou, .ref o]) rfl ?_
                refine W.widen (k := 109) (n := 3360) (Nat.le_of_ble_eq_true rfl) (Nat.le_of_ble_eq_true rfl) ?_
                have hm : mm D (AZ z) Mc9 H := hm
                refine m_putF (T := TX5) (N := 11) (ci := 5) (v := .ref ou) (ty := .object "CommitTree$Transaction") hx hb hts wX5 tyX5 tyX5_ok nmX5 hown hK hm hS k_o rfl 5 (by decide) f52 (fun _ h9 => h9) rfl hin rfl (by decide +kernel) rfl rfl (Nat.le_of_ble_eq_true rfl) dX5_init_118 (fun H locs hm hS => ?_)
                have hm : mm D (AZ z) (mu Mc9 o (.inr (5, [.ref tr, .ref nx, .ref mg, .ref dk, .ref tz, .ref ou, .int 0, .int 0, .int 0, .int 0, .int 0]))) H := hm
                have hkp : kpx (fun a => a = o) M (mu Mc9 o (.inr (5, [.ref tr, .ref nx, .ref mg, .ref dk, .ref tz, .ref ou, .int 0, .int 0, .int 0, .int 0, .int 0]))) := (hkp).self rfl
                have hq9 : kq Mc9 (mu Mc9 o (.inr (5, [.ref tr, .ref nx, .ref mg, .ref dk, .ref tz, .ref ou, .int 0, .int 0, .int 0, .int 0, .int 0]))) := ((kq.refl _)).upd k_o (by first | exact bad5 | exact badN | exact bad6 | exact bad00)
                have hT_tr := treeAt_kq hq9 hT_tr
                have hT_nx := treeAt_kq hq9 hT_nx
                have hD_dk := hq9 _ _ (by simp [bad]) hD_dk
                have hX_x100 := txF_kq hq9 hX_x100
                have hX_x101 := txF_kq hq9 hX_x101
                have hX_x102 := txF_kq hq9 hX_x102
                have hX_x103 := txF_kq hq9 hX_x103
                have hX_x104 := txF_kq hq9 hX_x104
                have hX_x105 := txF_kq hq9 hX_x105
                have hC_x105 := hq9 _ _ (by simp [bad]) hC_x105
                have hX_ou := txO_kq hq9 hX_ou
                have hC_ou := hq9 _ _ (by simp [bad]) hC_ou
                refine lv_aload_n hx hb dX5_init_121 rfl (lv_at hl 1 rfl) ?_
                refine lv_iconst (v := 1) hx hb dX5_init_122 (by decide) ?_
                refine m_put (T := TX5) (N := 11) (ci := 5) (v := .int 1) (ty := .int) hx hb hts wX5 tyX5 tyX5_ok nmX5 hown hK hm hS (mu_self _ _ _) rfl 6 (by decide) f56 (fun _ h9 => h9) rfl (by decide +kernel) rfl rfl (Nat.le_of_ble_eq_true rfl) dX5_init_123 (fun H locs hm hS => ?_)
                have hm : mm D (AZ z) (mu (mu Mc9 o (.inr (5, [.ref tr, .ref nx, .ref mg, .ref dk, .ref tz, .ref ou, .int 0, .int 0, .int 0, .int 0, .int 0]))) o (.inr (5, [.ref tr, .ref nx, .ref mg, .ref dk, .ref tz, .ref ou, .int 1, .int 0, .int 0, .int 0, .int 0]))) H := hm
                have hkp : kpx (fun a => a = o) M (mu (mu Mc9 o (.inr (5, [.ref tr, .ref nx, .ref mg, .ref dk, .ref tz, .ref ou, .int 0, .int 0, .int 0, .int 0, .int 0]))) o (.inr (5, [.ref tr, .ref nx, .ref mg, .ref dk, .ref tz, .ref ou, .int 1, .int 0, .int 0, .int 0, .int 0]))) := (hkp).self rfl
                have hq9 : kq (mu Mc9 o (.inr (5, [.ref tr, .ref nx, .ref mg, .ref dk, .ref tz, .ref ou, .int 0, .int 0, .int 0, .int 0, .int 0]))) (mu (mu Mc9 o (.inr (5, [.ref tr, .ref nx, .ref mg, .ref dk, .ref tz, .ref ou, .int 0, .int 0, .int 0, .int 0, .int 0]))) o (.inr (5, [.ref tr, .ref nx, .ref mg, .ref dk, .ref tz, .ref ou, .int 1, .int 0, .int 0, .int 0, .int 0]))) := ((kq.refl _)).upd (mu_self _ _ _) (by first | exact bad5 | exact badN | exact bad6 | exact bad00)
                have hT_tr := treeAt_kq hq9 hT_tr
                have hT_nx := treeAt_kq hq9 hT_nx
                have hD_dk := hq9 _ _ (by simp [bad]) hD_dk
                have hX_x100 := txF_kq hq9 hX_x100
                have hX_x101 := txF_kq hq9 hX_x101
                have hX_x102 := txF_kq hq9 hX_x102
                have hX_x103 := txF_kq hq9 hX_x103
                have hX_x104 := txF_kq hq9 hX_x104
                have hX_x105 := txF_kq hq9 hX_x105
                have hC_x105 := hq9 _ _ (by simp [bad]) hC_x105
                have hX_ou := txO_kq hq9 hX_ou
                have hC_ou := hq9 _ _ (by simp [bad]) hC_ou
                refine lv_aload_n hx hb dX5_init_126 rfl (lv_at hl 1 rfl) ?_
                refine lv_iconst (v := 0) hx hb dX5_init_127 (by decide) ?_
                refine m_put (T := TX5) (N := 11) (ci := 5) (v := .int 0) (ty := .int) hx hb hts wX5 tyX5 tyX5_ok nmX5 hown hK hm hS (mu_self _ _ _) rfl 7 (by decide) f60 (fun _ h9 => h9) rfl (by decide +kernel) rfl rfl (Nat.le_of_ble_eq_true rfl) dX5_init_128 (fun H locs hm hS => ?_)
                have hm : mm D (AZ z) (mu (mu (mu Mc9 o (.inr (5, [.ref tr, .ref nx, .ref mg, .ref dk, .ref tz, .ref ou, .int 0, .int 0, .int 0, .int 0, .int 0]))) o (.inr (5, [.ref tr, .ref nx, .ref mg, .ref dk, .ref tz, .ref ou, .int 1, .int 0, .int 0, .int 0, .int 0]))) o (.inr (5, [.ref tr, .ref nx, .ref mg, .ref dk, .ref tz, .ref ou, .int 1, .int 0, .int 0, .int 0, .int 0]))) H := hm
                have hkp : kpx (fun a => a = o) M (mu (mu (mu Mc9 o (.inr (5, [.ref tr, .ref nx, .ref mg, .ref dk, .ref tz, .ref ou, .int 0, .int 0, .int 0, .int 0, .int 0]))) o (.inr (5, [.ref tr, .ref nx, .ref mg, .ref dk, .ref tz, .ref ou, .int 1, .int 0, .int 0, .int 0, .int 0]))) o (.inr (5, [.ref tr, .ref nx, .ref mg, .ref dk, .ref tz, .ref ou, .int 1, .int 0, .int 0, .int 0, .int 0]))) := (hkp).self rfl
                have hq9 : kq (mu (mu Mc9 o (.inr (5, [.ref tr, .ref nx, .ref mg, .ref dk, .ref tz, .ref ou, .int 0, .int 0, .int 0, .int 0, .int 0]))) o (.inr (5, [.ref tr, .ref nx, .ref mg, .ref dk, .ref tz, .ref ou, .int 1, .int 0, .int 0, .int 0, .int 0]))) (mu (mu (mu Mc9 o (.inr (5, [.ref tr, .ref nx, .ref mg, .ref dk, .ref tz, .ref ou, .int 0, .int 0, .int 0, .int 0, .int 0]))) o (.inr (5, [.ref tr, .ref nx, .ref mg, .ref dk, .ref tz, .ref ou, .int 1, .int 0, .int 0, .int 0, .int 0]))) o (.inr (5, [.ref tr, .ref nx, .ref mg, .ref dk, .ref tz, .ref ou, .int 1, .int 0, .int 0, .int 0, .int 0]))) := ((kq.refl _)).upd (mu_self _ _ _) (by first | exact bad5 | exact badN | exact bad6 | exact bad00)
                have hT_tr := treeAt_kq hq9 hT_tr
                have hT_nx := treeAt_kq hq9 hT_nx
                have hD_dk := hq9 _ _ (by simp [bad]) hD_dk
                have hX_x100 := txF_kq hq9 hX_x100
                have hX_x101 := txF_kq hq9 hX_x101
                have hX_x102 := txF_kq hq9 hX_x102
                have hX_x103 := txF_kq hq9 hX_x103
                have hX_x104 := txF_kq hq9 hX_x104
                have hX_x105 := txF_kq hq9 hX_x105
                have hC_x105 := hq9 _ _ (by simp [bad]) hC_x105
                have hX_ou := txO_kq hq9 hX_ou
                have hC_ou := hq9 _ _ (by simp [bad]) hC_ou
                refine lv_aload_n hx hb dX5_init_131 rfl (lv_at hl 1 rfl) ?_
                refine lv_iconst (v := 0) hx hb dX5_init_132 (by decide) ?_
                refine m_put (T := TX5) (N := 11) (ci := 5) (v := .int 0) (ty := .int) hx hb hts wX5 tyX5 tyX5_ok nmX5 hown hK hm hS (mu_self _ _ _) rfl 8 (by decide) f63 (fun _ h9 => h9) rfl (by decide +kernel) rfl rfl (Nat.le_of_ble_eq_true rfl) dX5_init_133 (fun H locs hm hS => ?_)
                have hm : mm D (AZ z) (mu (mu (mu (mu Mc9 o (.inr (5, [.ref tr, .ref nx, .ref mg, .ref dk, .ref tz, .ref ou, .int 0, .int 0, .int 0, .int 0, .int 0]))) o (.inr (5, [.ref tr, .ref nx, .ref mg, .ref dk, .ref tz, .ref ou, .int 1, .int 0, .int 0, .int 0, .int 0]))) o (.inr (5, [.ref tr, .ref nx, .ref mg, .ref dk, .ref tz, .ref ou, .int 1, .int 0, .int 0, .int 0, .int 0]))) o (.inr (5, [.ref tr, .ref nx, .ref mg, .ref dk, .ref tz, .ref ou, .int 1, .int 0, .int 0, .int 0, .int 0]))) H := hm
                have hkp : kpx (fun a => a = o) M (mu (mu (mu (mu Mc9 o (.inr (5, [.ref tr, .ref nx, .ref mg, .ref dk, .ref tz, .ref ou, .int 0, .int 0, .int 0, .int 0, .int 0]))) o (.inr (5, [.ref tr, .ref nx, .ref mg, .ref dk, .ref tz, .ref ou, .int 1, .int 0, .int 0, .int 0, .int 0]))) o (.inr (5, [.ref tr, .ref nx, .ref mg, .ref dk, .ref tz, .ref ou, .int 1, .int 0, .int 0, .int 0, .int 0]))) o (.inr (5, [.ref tr, .ref nx, .ref mg, .ref dk, .ref tz, .ref ou, .int 1, .int 0, .int 0, .int 0, .int 0]))) := (hkp).self rfl
                have hq9 : kq (mu (mu (mu Mc9 o (.inr (5, [.ref tr, .ref nx, .ref mg, .ref dk, .ref tz, .ref ou, .int 0, .int 0, .int 0, .int 0, .int 0]))) o (.inr (5, [.ref tr, .ref nx, .ref mg, .ref dk, .ref tz, .ref ou, .int 1, .int 0, .int 0, .int 0, .int 0]))) o (.inr (5, [.ref tr, .ref nx, .ref mg, .ref dk, .ref tz, .ref ou, .int 1, .int 0, .int 0, .int 0, .int 0]))) (mu (mu (mu (mu Mc9 o (.inr (5, [.ref tr, .ref nx, .ref mg, .ref dk, .ref tz, .ref ou, .int 0, .int 0, .int 0, .int 0, .int 0]))) o (.inr (5, [.ref tr, .ref nx, .ref mg, .ref dk, .ref tz, .ref ou, .int 1, .int 0, .int 0, .int 0, .int 0]))) o (.inr (5, [.ref tr, .ref nx, .ref mg, .ref dk, .ref tz, .ref ou, .int 1, .int 0, .int 0, .int 0, .int 0]))) o (.inr (5, [.ref tr, .ref nx, .ref mg, .ref dk, .ref tz, .ref ou, .int 1, .int 0, .int 0, .int 0, .int 0]))) := ((kq.refl _)).upd (mu_self _ _ _) (by first | exact bad5 | exact badN | exact bad6 | exact bad00)
                have hT_tr := treeAt_kq hq9 hT_tr
                have hT_nx := treeAt_kq hq9 hT_nx
                have hD_dk := hq9 _ _ (by simp [bad]) hD_dk
                have hX_x100 := txF_kq hq9 hX_x100
                have hX_x101 := txF_kq hq9 hX_x101
                have hX_x102 := txF_kq hq9 hX_x102
                have hX_x103 := txF_kq hq9 hX_x103
                have hX_x104 := txF_kq hq9 hX_x104
                have hX_x105 := txF_kq hq9 hX_x105
                have hC_x105 := hq9 _ _ (by simp [bad]) hC_x105
                have hX_ou := txO_kq hq9 hX_ou
                have hC_ou := hq9 _ _ (by simp [bad]) hC_ou
                refine lv_aload_n hx hb dX5_init_136 rfl (lv_at hl 1 rfl) ?_
                refine lv_iconst (v := 0) hx hb dX5_init_137 (by decide) ?_
                refine m_put (T := TX5) (N := 11) (ci := 5) (v := .int 0) (ty := .boolean) hx hb hts wX5 tyX5 tyX5_ok nmX5 hown hK hm hS (mu_self _ _ _) rfl 9 (by decide) f66 (fun _ h9 => h9) rfl (by decide +kernel) rfl rfl (Nat.le_of_ble_eq_true rfl) dX5_init_138 (fun H locs hm hS => ?_)
                have hm : mm D (AZ z) (mu (mu (mu (mu (mu Mc9 o (.inr (5, [.ref tr, .ref nx, .ref mg, .ref dk, .ref tz, .ref ou, .int 0, .int 0, .int 0, .int 0, .int 0]))) o (.inr (5, [.ref tr, .ref nx, .ref mg, .ref dk, .ref tz, .ref ou, .int 1, .int 0, .int 0, .int 0, .int 0]))) o (.inr (5, [.ref tr, .ref nx, .ref mg, .ref dk, .ref tz, .ref ou, .int 1, .int 0, .int 0, .int 0, .int 0]))) o (.inr (5, [.ref tr, .ref nx, .ref mg, .ref dk, .ref tz, .ref ou, .int 1, .int 0, .int 0, .int 0, .int 0]))) o (.inr (5, [.ref tr, .ref nx, .ref mg, .ref dk, .ref tz, .ref ou, .int 1, .int 0, .int 0, .int 0, .int 0]))) H := hm
                have hkp : kpx (fun a => a = o) M (mu (mu (mu (mu (mu Mc9 o (.inr (5, [.ref tr, .ref nx, .ref mg, .ref dk, .ref tz, .ref ou, .int 0, .int 0, .int 0, .int 0, .int 0]))) o (.inr (5, [.ref tr, .ref nx, .ref mg, .ref dk, .ref tz, .ref ou, .int 1, .int 0, .int 0, .int 0, .int 0]))) o (.inr (5, [.ref tr, .ref nx, .ref mg, .ref dk, .ref tz, .ref ou, .int 1, .int 0, .int 0, .int 0, .int 0]))) o (.inr (5, [.ref tr, .ref nx, .ref mg, .ref dk, .ref tz, .ref ou, .int 1, .int 0, .int 0, .int 0, .int 0]))) o (.inr (5, [.ref tr, .ref nx, .ref mg, .ref dk, .ref tz, .ref ou, .int 1, .int 0, .int 0, .int 0, .int 0]))) := (hkp).self rfl
                have hq9 : kq (mu (mu (mu (mu Mc9 o (.inr (5, [.ref tr, .ref nx, .ref mg, .ref dk, .ref tz, .ref ou, .int 0, .int 0, .int 0, .int 0, .int 0]))) o (.inr (5, [.ref tr, .ref nx, .ref mg, .ref dk, .ref tz, .ref ou, .int 1, .int 0, .int 0, .int 0, .int 0]))) o (.inr (5, [.ref tr, .ref nx, .ref mg, .ref dk, .ref tz, .ref ou, .int 1, .int 0, .int 0, .int 0, .int 0]))) o (.inr (5, [.ref tr, .ref nx, .ref mg, .ref dk, .ref tz, .ref ou, .int 1, .int 0, .int 0, .int 0, .int 0]))) (mu (mu (mu (mu (mu Mc9 o (.inr (5, [.ref tr, .ref nx, .ref mg, .ref dk, .ref tz, .ref ou, .int 0, .int 0, .int 0, .int 0, .int 0]))) o (.inr (5, [.ref tr, .ref nx, .ref mg, .ref dk, .ref tz, .ref ou, .int 1, .int 0, .int 0, .int 0, .int 0]))) o (.inr (5, [.ref tr, .ref nx, .ref mg, .ref dk, .ref tz, .ref ou, .int 1, .int 0, .int 0, .int 0, .int 0]))) o (.inr (5, [.ref tr, .ref nx, .ref mg, .ref dk, .ref tz, .ref ou, .int 1, .int 0, .int 0, .int 0, .int 0]))) o (.inr (5, [.ref tr, .ref nx, .ref mg, .ref dk, .ref tz, .ref ou, .int 1, .int 0, .int 0, .int 0, .int 0]))) := ((kq.refl _)).upd (mu_self _ _ _) (by first | exact bad5 | exact badN | exact bad6 | exact bad00)
                have hT_tr := treeAt_kq hq9 hT_tr
                have hT_nx := treeAt_kq hq9 hT_nx
                have hD_dk := hq9 _ _ (by simp [bad]) hD_dk
                have hX_x100 := txF_kq hq9 hX_x100
                have hX_x101 := txF_kq hq9 hX_x101
                have hX_x102 := txF_kq hq9 hX_x102
                have hX_x103 := txF_kq hq9 hX_x103
                have hX_x104 := txF_kq hq9 hX_x104
                have hX_x105 := txF_kq hq9 hX_x105
                have hC_x105 := hq9 _ _ (by simp [bad]) hC_x105
                have hX_ou := txO_kq hq9 hX_ou
                have hC_ou := hq9 _ _ (by simp [bad]) hC_ou
                refine lv_aload_n hx hb dX5_init_141 rfl (lv_at hl 1 rfl) ?_
                refine lv_iconst (v := 0) hx hb dX5_init_142 (by decide) ?_
                refine m_put (T := TX5) (N := 11) (ci := 5) (v := .int 0) (ty := .boolean) hx hb hts wX5 tyX5 tyX5_ok nmX5 hown hK hm hS (mu_self _ _ _) rfl 10 (by decide) f70 (fun _ h9 => h9) rfl (by decide +kernel) rfl rfl (Nat.le_of_ble_eq_true rfl) dX5_init_143 (fun H locs hm hS => ?_)
                have hm : mm D (AZ z) (mu (mu (mu (mu (mu (mu Mc9 o (.inr (5, [.ref tr, .ref nx, .ref mg, .ref dk, .ref tz, .ref ou, .int 0, .int 0, .int 0, .int 0, .int 0]))) o (.inr (5, [.ref tr, .ref nx, .ref mg, .ref dk, .ref tz, .ref ou, .int 1, .int 0, .int 0, .int 0, .int 0]))) o (.inr (5, [.ref tr, .ref nx, .ref mg, .ref dk, .ref tz, .ref ou, .int 1, .int 0, .int 0, .int 0, .int 0]))) o (.inr (5, [.ref tr, .ref nx, .ref mg, .ref dk, .ref tz, .ref ou, .int 1, .int 0, .int 0, .int 0, .int 0]))) o (.inr (5, [.ref tr, .ref nx, .ref mg, .ref dk, .ref tz, .ref ou, .int 1, .int 0, .int 0, .int 0, .int 0]))) o (.inr (5, [.ref tr, .ref nx, .ref mg, .ref dk, .ref tz, .ref ou, .int 1, .int 0, .int 0, .int 0, .int 0]))) H := hm
                have hkp : kpx (fun a => a = o) M (mu (mu (mu (mu (mu (mu Mc9 o (.inr (5, [.ref tr, .ref nx, .ref mg, .ref dk, .ref tz, .ref ou, .int 0, .int 0, .int 0, .int 0, .int 0]))) o (.inr (5, [.ref tr, .ref nx, .ref mg, .ref dk, .ref tz, .ref ou, .int 1, .int 0, .int 0, .int 0, .int 0]))) o (.inr (5, [.ref tr, .ref nx, .ref mg, .ref dk, .ref tz, .ref ou, .int 1, .int 0, .int 0, .int 0, .int 0]))) o (.inr (5, [.ref tr, .ref nx, .ref mg, .ref dk, .ref tz, .ref ou, .int 1, .int 0, .int 0, .int 0, .int 0]))) o (.inr (5, [.ref tr, .ref nx, .ref mg, .ref dk, .ref tz, .ref ou, .int 1, .int 0, .int 0, .int 0, .int 0]))) o (.inr (5, [.ref tr, .ref nx, .ref mg, .ref dk, .ref tz, .ref ou, .int 1, .int 0, .int 0, .int 0, .int 0]))) := (hkp).self rfl
                have hq9 : kq (mu (mu (mu (mu (mu Mc9 o (.inr (5, [.ref tr, .ref nx, .ref mg, .ref dk, .ref tz, .ref ou, .int 0, .int 0, .int 0, .int 0, .int 0]))) o (.inr (5, [.ref tr, .ref nx, .ref mg, .ref dk, .ref tz, .ref ou, .int 1, .int 0, .int 0, .int 0, .int 0]))) o (.inr (5, [.ref tr, .ref nx, .ref mg, .ref dk, .ref tz, .ref ou, .int 1, .int 0, .int 0, .int 0, .int 0]))) o (.inr (5, [.ref tr, .ref nx, .ref mg, .ref dk, .ref tz, .ref ou, .int 1, .int 0, .int 0, .int 0, .int 0]))) o (.inr (5, [.ref tr, .ref nx, .ref mg, .ref dk, .ref tz, .ref ou, .int 1, .int 0, .int 0, .int 0, .int 0]))) (mu (mu (mu (mu (mu (mu Mc9 o (.inr (5, [.ref tr, .ref nx, .ref mg, .ref dk, .ref tz, .ref ou, .int 0, .int 0, .int 0, .int 0, .int 0]))) o (.inr (5, [.ref tr, .ref nx, .ref mg, .ref dk, .ref tz, .ref ou, .int 1, .int 0, .int 0, .int 0, .int 0]))) o (.inr (5, [.ref tr, .ref nx, .ref mg, .ref dk, .ref tz, .ref ou, .int 1, .int 0, .int 0, .int 0, .int 0]))) o (.inr (5, [.ref tr, .ref nx, .ref mg, .ref dk, .ref tz, .ref ou, .int 1, .int 0, .int 0, .int 0, .int 0]))) o (.inr (5, [.ref tr, .ref nx, .ref mg, .ref dk, .ref tz, .ref ou, .int 1, .int 0, .int 0, .int 0, .int 0]))) o (.inr (5, [.ref tr, .ref nx, .ref mg, .ref dk, .ref tz, .ref ou, .int 1, .int 0, .int 0, .int 0, .int 0]))) := ((kq.refl _)).upd (mu_self _ _ _) (by first | exact bad5 | exact badN | exact bad6 | exact bad00)
                have hT_tr := treeAt_kq hq9 hT_tr
                have hT_nx := treeAt_kq hq9 hT_nx
                have hD_dk := hq9 _ _ (by simp [bad]) hD_dk
                have hX_x100 := txF_kq hq9 hX_x100
                have hX_x101 := txF_kq hq9 hX_x101
                have hX_x102 := txF_kq hq9 hX_x102
                have hX_x103 := txF_kq hq9 hX_x103
                have hX_x104 := txF_kq hq9 hX_x104
                have hX_x105 := txF_kq hq9 hX_x105
                have hC_x105 := hq9 _ _ (by simp [bad]) hC_x105
                have hX_ou := txO_kq hq9 hX_ou
                have hC_ou := hq9 _ _ (by simp [bad]) hC_ou
                refine W.widen (k := 120) (n := 4000) (by omega) (by omega) ?_
                refine W.vret hx hb hr (fun t ht hW => ⟨⟨none, _, rfl, ?_, by rw [ht]; exact hm⟩, hS.F ht⟩) hS.2.2 dX5_init_146
                exact ⟨rfl, hkp, tr, nx, mg, dk, tz, ou, trn, _, _, (mu_self _ _ _), hT_tr, hD_dk, ((mu_ne ne_tz_o).trans ((mu_ne ne_tz_o).trans ((mu_ne ne_tz_o).trans ((mu_ne ne_tz_o).trans ((mu_ne ne_tz_o).trans ((mu_ne ne_tz_o).trans k_tz)))))), fun j hj => by
                  rcases (show j = 0 ∨ j = 1 ∨ j = 2 ∨ j = 3 ∨ j = 4 ∨ j = 5 by omega) with rfl | rfl | rfl | rfl | rfl | rfl
                  · exact ⟨x100, rfl, hX_x100⟩
                  · exact ⟨x101, rfl, hX_x101⟩
                  · exact ⟨x102, rfl, hX_x102⟩
                  · exact ⟨x103, rfl, hX_x103⟩
                  · exact ⟨x104, rfl, hX_x104⟩
                  · exact ⟨x105, rfl, hX_x105⟩,
                  hX_ou⟩
              · first | exact absurd c24 (by decide) | exact absurd (by decide) c24
