set_option maxHeartbeats 4000000 in
set_option maxRecDepth 100000 in
theorem c_X6_thrown (l : Launch) (D : va_G) (k : Nat → ClassId) (z : Nat) (M : mM) (mo : Nat) (c9 : Int32) (fs : List Value) (hM : M mo = some (.inr (6, .int c9 :: fs))) : mK l yX6_thrown wsX6_thrown ({ frames := 0, cells := 0, slots := 0, locals := 0 }) D k z [.ref mo] M (fun v M' => v = some (.int c9) ∧ M' = M) := by
  refine Met.ofW (cc := cX6_thrown) (maxL := 1) (ret := (some .int)) (by decide) rfl ?_
  intro p e s m args below meth c s₁ B hml hv
  obtain ⟨rfl, hz, hcx, hm⟩ := hv
  have hx := B.exec
  have hb := B.bytes
  have hr := B.returns
  have hts := atoms_spec (ws := wsX6_thrown) B.pre
  have hown : s.vm.findClass RX6 = some m.cls := findClass_of_methodNamed B.named
  have hlocks := B.notSynchronized
  have hK := hcx.1
  have hS : va_S (AZ z) s.heap s.heap [] := va_S.rf
  have hA : ∀ q, s.heap.size ≤ q → AZ z q := fun q h => Nat.le_trans hz h
  have hl := lv_entry ([.ref mo]) (n := 1) (Nat.le_of_ble_eq_true rfl)
  rw [lg_entry_eq]
  generalize (lg_sl ([.ref mo]) ++ List.replicate (1 - (lg_sl ([.ref mo])).length) Slot.unset).toArray = ls at hl ⊢
  have hl : lv_has ls 1 [(0, .ref mo)] := hl
  have f67 := hts (.fieldLink RX6 67 "CommitTreeModel" "code" "I") (by decide +kernel)
  have wX6 : ∀ w ∈ wsX60, w ∈ wsX6_thrown := by decide +kernel
  refine lv_aload_n hx hb dX6_thrown_0 rfl (lv_at hl 0 rfl) ?_
  refine m_get (T := TX6) (N := 24) (ci := 6) (v := .int c9) hx hb hts wX6 hown hK hm hM rfl 0 (by decide) f67 (fun _ h9 => h9) rfl dX6_thrown_1 ?_
  refine W.iret (v := c9) hx hb hr (fun t ht hW => ⟨⟨some (.int c9), _, rfl, ?_, by rw [ht]; exact hm⟩, hS.F ht⟩) hS.2.2 dX6_thrown_4
  exact ⟨rfl, rfl⟩

/-- what fails answers -/
def fl (w : Int32) : Int32 := if w ≤ 0 then 0 else 1

set_option maxHeartbeats 4000000 in
set_option maxRecDepth 100000 in
theorem c_X6_fails (l : Launch) (D : va_G) (k : Nat → ClassId) (z : Nat) (M : mM) (mo : Nat) (c9 w : Int32) (hF : mFr k M mo c9) : mK l yX6_fails wsX6_fails ({ frames := 0, cells := 0, slots := 0, locals := 0 }) D k z [.ref mo, .int w] M (fun v M' => v = some (.int (fl w)) ∧ mFr k M' mo w) := by
  refine Met.ofW (cc := cX6_fails) (maxL := 2) (ret := (some .boolean)) (by decide) rfl ?_
  intro p e s m args below meth c s₁ B hml hv
  obtain ⟨rfl, hz, hcx, hm⟩ := hv
  have hx := B.exec
  have hb := B.bytes
  have hr := B.returns
  have hts := atoms_spec (ws := wsX6_fails) B.pre
  have hown : s.vm.findClass RX6 = some m.cls := findClass_of_methodNamed B.named
  have hlocks := B.notSynchronized
  have hK := hcx.1
  have hS : va_S (AZ z) s.heap s.heap [] := va_S.rf
  have hA : ∀ q, s.heap.size ≤ q → AZ z q := fun q h => Nat.le_trans hz h
  have hl := lv_entry ([.ref mo, .int w]) (n := 2) (Nat.le_of_ble_eq_true rfl)
  rw [lg_entry_eq]
  generalize (lg_sl ([.ref mo, .int w]) ++ List.replicate (2 - (lg_sl ([.ref mo, .int w])).length) Slot.unset).toArray = ls at hl ⊢
  have hl : lv_has ls 2 [(0, .ref mo), (1, .int w)] := hl
  have f67 := hts (.fieldLink RX6 67 "CommitTreeModel" "code" "I") (by decide +kernel)
  have wX6 : ∀ w ∈ wsX60, w ∈ wsX6_fails := by decide +kernel
  obtain ⟨cn, ia, dr, en, la, wo, op, mk, ir, se, ec, lc, wc, ol, al, hap, hM, hcn, hia, hdr, hen, hla, hwo, hop, hmk, hir⟩ := id hF
  have ne_mo_cn : mo ≠ cn := pw_ne hap 0 1 (by decide) (Nat.le_of_ble_eq_true rfl)
  have ne_cn_mo : cn ≠ mo := Ne.symm ne_mo_cn
  have ne_mo_ia : mo ≠ ia := pw_ne hap 0 2 (by decide) (Nat.le_of_ble_eq_true rfl)
  have ne_ia_mo : ia ≠ mo := Ne.symm ne_mo_ia
  have ne_mo_dr : mo ≠ dr := pw_ne hap 0 3 (by decide) (Nat.le_of_ble_eq_true rfl)
  have ne_dr_mo : dr ≠ mo := Ne.symm ne_mo_dr
  have ne_mo_en : mo ≠ en := pw_ne hap 0 4 (by decide) (Nat.le_of_ble_eq_true rfl)
  have ne_en_mo : en ≠ mo := Ne.symm ne_mo_en
  have ne_mo_la : mo ≠ la := pw_ne hap 0 5 (by decide) (Nat.le_of_ble_eq_true rfl)
  have ne_la_mo : la ≠ mo := Ne.symm ne_mo_la
  have ne_mo_wo : mo ≠ wo := pw_ne hap 0 6 (by decide) (Nat.le_of_ble_eq_true rfl)
  have ne_wo_mo : wo ≠ mo := Ne.symm ne_mo_wo
  have ne_mo_op : mo ≠ op := pw_ne hap 0 7 (by decide) (Nat.le_of_ble_eq_true rfl)
  have ne_op_mo : op ≠ mo := Ne.symm ne_mo_op
  have ne_mo_mk : mo ≠ mk := pw_ne hap 0 8 (by decide) (Nat.le_of_ble_eq_true rfl)
  have ne_mk_mo : mk ≠ mo := Ne.symm ne_mo_mk
  have ne_mo_ir : mo ≠ ir := pw_ne hap 0 9 (by decide) (Nat.le_of_ble_eq_true rfl)
  have ne_ir_mo : ir ≠ mo := Ne.symm ne_mo_ir
  refine lv_aload_n hx hb dX6_fails_0 rfl (lv_at hl 0 rfl) ?_
  refine lv_iload_n hx hb dX6_fails_1 rfl (lv_at hl 1 rfl) ?_
  refine m_put (T := TX6) (N := 24) (ci := 6) (v := .int w) (ty := .int) hx hb hts wX6 tyX6 tyX6_ok nmX6 hown hK hm hS hM rfl 0 (by decide) f67 (fun _ h9 => h9) rfl (by decide +kernel) rfl rfl (Nat.le_of_ble_eq_true rfl) dX6_fails_2 (fun H locs hm hS => ?_)
  have hm : mm D (AZ z) (mu M mo (.inr (6, [.int w, .ref cn, .ref ia, .ref dr, .ref en, .ref la, .ref wo, .int 2, .ref op, .ref mk, .ref ir, .int 0, .int 0, .int (-1), .int 0, .int 0, .ref se, .ref ec, .ref lc, .ref wc, .ref ol, .ref al, .int 0, .int 0]))) H := hm
  refine lv_iload_n hx hb dX6_fails_5 rfl (lv_at hl 1 rfl) ?_
  refine lv_if_le (tgt := 13) hx hb dX6_fails_6 (by decide) (fun c1 => ?_) (fun c1 => ?_)
  · refine lv_iconst (v := 0) hx hb dX6_fails_13 (by decide) ?_
    refine W.zret hx hb hr rfl (fun t ht hW => ⟨⟨some (.int 0), _, rfl, ?_, by rw [ht]; exact hm⟩, hS.F ht⟩) hS.2.2 dX6_fails_14
    exact ⟨by simp [fl, c1], cn, ia, dr, en, la, wo, op, mk, ir, se, ec, lc, wc, ol, al, hap, (mu_self _ _ _), ((mu_ne ne_cn_mo).trans hcn), ((mu_ne ne_ia_mo).trans hia), ((mu_ne ne_dr_mo).trans hdr), ((mu_ne ne_en_mo).trans hen), ((mu_ne ne_la_mo).trans hla), ((mu_ne ne_wo_mo).trans hwo), ((mu_ne ne_op_mo).trans hop), ((mu_ne ne_mk_mo).trans hmk), ((mu_ne ne_ir_mo).trans hir)⟩
  · refine lv_iconst (v := 1) hx hb dX6_fails_9 (by decide) ?_
    refine lv_goto (tgt := 14) hx hb dX6_fails_10 (by decide) ?_
    refine W.zret hx hb hr rfl (fun t ht hW => ⟨⟨some (.int 1), _, rfl, ?_, by rw [ht]; exact hm⟩, hS.F ht⟩) hS.2.2 dX6_fails_14
    exact ⟨by simp [fl, c1], cn, ia, dr, en, la, wo, op, mk, ir, se, ec, lc, wc, ol, al, hap, (mu_self _ _ _), ((mu_ne ne_cn_mo).trans hcn), ((mu_ne ne_ia_mo).trans hia), ((mu_ne ne_dr_mo).trans hdr), ((mu_ne ne_en_mo).trans hen), ((mu_ne ne_la_mo).trans hla), ((mu_ne ne_wo_mo).trans hwo), ((mu_ne ne_op_mo).trans hop), ((mu_ne ne_mk_mo).trans hmk), ((mu_ne ne_ir_mo).trans hir)⟩

set_option maxHeartbeats 4000000 in
set_option maxRecDepth 100000 in
theorem c_X6_isOpen (l : Launch) (D : va_G) (k : Nat → ClassId) (z : Nat) (M : mM) (mo : Nat) (c9 t : Int32) (hF : mFr k M mo c9) : mK l yX6_isOpen wsX6_isOpen ({ frames := 0, cells := 0, slots := 0, locals := 0 }) D k z [.ref mo, .int t] M (fun v M' => v = some (.int 0) ∧ M' = M) := by
  refine Met.ofW (cc := cX6_isOpen) (maxL := 2) (ret := (some .boolean)) (by decide) rfl ?_
  intro p e s m args below meth c s₁ B hml hv
  obtain ⟨rfl, hz, hcx, hm⟩ := hv
  have hx := B.exec
  have hb := B.bytes
  have hr := B.returns
  have hts := atoms_spec (ws := wsX6_isOpen) B.pre
  have hown : s.vm.findClass RX6 = some m.cls := findClass_of_methodNamed B.named
  have hlocks := B.notSynchronized
  have hK := hcx.1
  have hS : va_S (AZ z) s.heap s.heap [] := va_S.rf
  have hA : ∀ q, s.heap.size ≤ q → AZ z q := fun q h => Nat.le_trans hz h
  have hl := lv_entry ([.ref mo, .int t]) (n := 2) (Nat.le_of_ble_eq_true rfl)
  rw [lg_entry_eq]
  generalize (lg_sl ([.ref mo, .int t]) ++ List.replicate (2 - (lg_sl ([.ref mo, .int t])).length) Slot.unset).toArray = ls at hl ⊢
  have hl : lv_has ls 2 [(0, .ref mo), (1, .int t)] := hl
  have f35 := hts (.fieldLink RX6 35 "CommitTreeModel" "open" "[Z") (by decide +kernel)
  have f94 := hts (.fieldLink RX6 94 "CommitTreeModel" "down" "Z") (by decide +kernel)
  have wX6 : ∀ w ∈ wsX60, w ∈ wsX6_isOpen := by decide +kernel
  obtain ⟨cn, ia, dr, en, la, wo, op, mk, ir, se, ec, lc, wc, ol, al, hap, hM, hcn, hia, hdr, hen, hla, hwo, hop, hmk, hir⟩ := id hF
  refine lv_aload_n hx hb dX6_isOpen_0 rfl (lv_at hl 0 rfl) ?_
  refine m_get (T := TX6) (N := 24) (ci := 6) (v := .int 0) hx hb hts wX6 hown hK hm hM rfl 11 (by decide) f94 (fun _ h9 => h9) rfl dX6_isOpen_1 ?_
  refine lv_if_ne (tgt := 30) hx hb dX6_isOpen_4 (by decide) (fun c1 => ?_) (fun c1 => ?_)
  · exact absurd rfl c1
  · refine lv_iload_n hx hb dX6_isOpen_7 rfl (lv_at hl 1 rfl) ?_
    refine lv_if_lt (tgt := 30) hx hb dX6_isOpen_8 (by decide) (fun c2 => ?_) (fun c2 => ?_)
    · refine lv_iconst (v := 0) hx hb dX6_isOpen_30 (by decide) ?_
      refine W.zret hx hb hr rfl (fun t ht hW => ⟨⟨some (.int 0), _, rfl, ?_, by rw [ht]; exact hm⟩, hS.F ht⟩) hS.2.2 dX6_isOpen_31
      exact ⟨rfl, rfl⟩
    · refine lv_iload_n hx hb dX6_isOpen_11 rfl (lv_at hl 1 rfl) ?_
      refine lv_bipush (v := 6) hx hb dX6_isOpen_12 (by decide) ?_
      refine lv_icmp_ge (tgt := 30) hx hb dX6_isOpen_14 (by decide) (fun c3 => ?_) (fun c3 => ?_)
      · refine lv_iconst (v := 0) hx hb dX6_isOpen_30 (by decide) ?_
        refine W.zret hx hb hr rfl (fun t ht hW => ⟨⟨some (.int 0), _, rfl, ?_, by rw [ht]; exact hm⟩, hS.F ht⟩) hS.2.2 dX6_isOpen_31
        exact ⟨rfl, rfl⟩
      · refine lv_aload_n hx hb dX6_isOpen_17 rfl (lv_at hl 0 rfl) ?_
        refine m_get (T := TX6) (N := 24) (ci := 6) (v := .ref op) hx hb hts wX6 hown hK hm hM rfl 8 (by decide) f35 (fun _ h9 => h9) rfl dX6_isOpen_18 ?_
        refine lv_iload_n hx hb dX6_isOpen_21 rfl (lv_at hl 1 rfl) ?_
        refine m_zald hx hb hK hm 2 hop rfl (in_of c2 c3 (by decide)) dX6_isOpen_22 ?_
        refine lv_if_eq (tgt := 30) hx hb dX6_isOpen_23 (by decide) (fun c4 => ?_) (fun c4 => ?_)
        · refine lv_iconst (v := 0) hx hb dX6_isOpen_30 (by decide) ?_
          refine W.zret hx hb hr rfl (fun t ht hW => ⟨⟨some (.int 0), _, rfl, ?_, by rw [ht]; exact hm⟩, hS.F ht⟩) hS.2.2 dX6_isOpen_31
          exact ⟨rfl, rfl⟩
        · exact absurd rfl c4

set_option maxHeartbeats 4000000 in
set_option maxRecDepth 100000 in
theorem c_X6_mayLook (l : Launch) (D : va_G) (k : Nat → ClassId) (z : Nat) (M : mM) (mo : Nat) (c9 t : Int32) (hF : mFr k M mo c9) : mK l yX6_mayLook wsX6_mayLook ({ frames := 1, cells := 0, slots := 0, locals := 21 }) D k z [.ref mo, .int t] M (fun v M' => ((t = -1 ∧ v = some (.int 1)) ∨ (t ≠ -1 ∧ v = some (.int 0))) ∧ M' = M) := by
  refine Met.ofW (cc := cX6_mayLook) (maxL := 2) (ret := (some .boolean)) (by decide) rfl ?_
  intro p e s m args below meth c s₁ B hml hv
  obtain ⟨rfl, hz, hcx, hm⟩ := hv
  have hx := B.exec
  have hb := B.bytes
  have hr := B.returns
  have hts := atoms_spec (ws := wsX6_mayLook) B.pre
  have hown : s.vm.findClass RX6 = some m.cls := findClass_of_methodNamed B.named
  have hlocks := B.notSynchronized
  have hK := hcx.1
  have hS : va_S (AZ z) s.heap s.heap [] := va_S.rf
  have hA : ∀ q, s.heap.size ≤ q → AZ z q := fun q h => Nat.le_trans hz h
  have hl := lv_entry ([.ref mo, .int t]) (n := 2) (Nat.le_of_ble_eq_true rfl)
  rw [lg_entry_eq]
  generalize (lg_sl ([.ref mo, .int t]) ++ List.replicate (2 - (lg_sl ([.ref mo, .int t])).length) Slot.unset).toArray = ls at hl ⊢
  have hl : lv_has ls 2 [(0, .ref mo), (1, .int t)] := hl
  have f94 := hts (.fieldLink RX6 94 "CommitTreeModel" "down" "Z") (by decide +kernel)
  have wX6 : ∀ w ∈ wsX60, w ∈ wsX6_mayLook := by decide +kernel
  obtain ⟨cn, ia, dr, en, la, wo, op, mk, ir, se, ec, lc, wc, ol, al, hap, hM, hcn, hia, hdr, hen, hla, hwo, hop, hmk, hir⟩ := id hF
  refine lv_aload_n hx hb dX6_mayLook_0 rfl (lv_at hl 0 rfl) ?_
  refine lv_iload_n hx hb dX6_mayLook_1 rfl (lv_at hl 1 rfl) ?_
  refine m_kV (As := [.int t]) (rest := []) (rm := { frames := 0, cells := 0, slots := 0, locals := 0 }) ⟨hx, hb, hml, hown, hts⟩ (c_X6_isOpen l D k z _ mo c9 t hF) (cwV 1 hts gX6_mayLook_X6_isOpen rfl rfl rfl (by decide +kernel) ⟨Nat.le_of_ble_eq_true rfl, Nat.le_of_ble_eq_true rfl⟩) (m_recv hK hm (q := (RX6, TX6, 24)) rfl hM) hz hcx hm hS rfl hl.1 rfl (Nat.le_of_ble_eq_true rfl) dX6_mayLook_2 ⟨Nat.le_of_ble_eq_true rfl, Nat.le_of_ble_eq_true rfl⟩ (fun v M1 H locs hv hm hS => ?_)
  obtain ⟨hv1, hM1⟩ := hv
  subst hv1
  rw [hM1] at hm
  refine W.eq (g2 := F0 m 5 ls [.int 0]) rfl ?_
  refine W.widen (k := 0) (n := 0) (Nat.le_of_ble_eq_true rfl) (Nat.le_of_ble_eq_true rfl) ?_
  have hm : mm D (AZ z) M H := hm
  refine lv_if_ne (tgt := 20) hx hb dX6_mayLook_5 (by decide) (fun c1 => ?_) (fun c1 => ?_)
  · exact absurd rfl c1
  · refine lv_aload_n hx hb dX6_mayLook_8 rfl (lv_at hl 0 rfl) ?_
    refine m_get (T := TX6) (N := 24) (ci := 6) (v := .int 0) hx hb hts wX6 hown hK hm hM rfl 11 (by decide) f94 (fun _ h9 => h9) rfl dX6_mayLook_9 ?_
    refine lv_if_ne (tgt := 24) hx hb dX6_mayLook_12 (by decide) (fun c2 => ?_) (fun c2 => ?_)
    · exact absurd rfl c2
    · refine lv_iload_n hx hb dX6_mayLook_15 rfl (lv_at hl 1 rfl) ?_
      refine lv_iconst (v := (-1)) hx hb dX6_mayLook_16 (by decide) ?_
      refine lv_icmp_ne (tgt := 24) hx hb dX6_mayLook_17 (by decide) (fun c3 => ?_) (fun c3 => ?_)
      · refine lv_iconst (v := 0) hx hb dX6_mayLook_24 (by decide) ?_
        refine W.zret hx hb hr rfl (fun t ht hW => ⟨⟨some (.int 0), _, rfl, ?_, by rw [ht]; exact hm⟩, hS.F ht⟩) hS.2.2 dX6_mayLook_25
        first
          | exact ⟨Or.inl ⟨Classical.not_not.mp c3, rfl⟩, rfl⟩
          | exact ⟨Or.inr ⟨c3, rfl⟩, rfl⟩
          | exact ⟨Or.inl ⟨c3, rfl⟩, rfl⟩
      · refine lv_iconst (v := 1) hx hb dX6_mayLook_20 (by decide) ?_
        refine lv_goto (tgt := 25) hx hb dX6_mayLook_21 (by decide) ?_
        refine W.zret hx hb hr rfl (fun t ht hW => ⟨⟨some (.int 1), _, rfl, ?_, by rw [ht]; exact hm⟩, hS.F ht⟩) hS.2.2 dX6_mayLook_25
        first
          | exact ⟨Or.inl ⟨Classical.not_not.mp c3, rfl⟩, rfl⟩
          | exact ⟨Or.inr ⟨c3, rfl⟩, rfl⟩
          | exact ⟨Or.inl ⟨c3, rfl⟩, rfl⟩

set_option maxHeartbeats 4000000 in
set_option maxRecDepth 100000 in
theorem c_X6_tree (l : Launch) (D : va_G) (k : Nat → ClassId) (z : Nat) (M : mM) (mo : Nat) : mK l yX6_tree wsX6_tree ({ frames := 0, cells := 0, slots := 0, locals := 0 }) D k z [.ref mo, .int (-1)] M (fun v M' => v = some (.int 0) ∧ M' = M) := by
  refine Met.ofW (cc := cX6_tree) (maxL := 2) (ret := (some .int)) (by decide) rfl ?_
  intro p e s m args below meth c s₁ B hml hv
  obtain ⟨rfl, hz, hcx, hm⟩ := hv
  have hx := B.exec
  have hb := B.bytes
  have hr := B.returns
  have hts := atoms_spec (ws := wsX6_tree) B.pre
  have hown : s.vm.findClass RX6 = some m.cls := findClass_of_methodNamed B.named
  have hlocks := B.notSynchronized
  have hK := hcx.1
  have hS : va_S (AZ z) s.heap s.heap [] := va_S.rf
  have hA : ∀ q, s.heap.size ≤ q → AZ z q := fun q h => Nat.le_trans hz h
  have hl := lv_entry ([.ref mo, .int (-1)]) (n := 2) (Nat.le_of_ble_eq_true rfl)
  rw [lg_entry_eq]
  generalize (lg_sl ([.ref mo, .int (-1)]) ++ List.replicate (2 - (lg_sl ([.ref mo, .int (-1)])).length) Slot.unset).toArray = ls at hl ⊢
  have hl : lv_has ls 2 [(0, .ref mo), (1, .int (-1))] := hl
  refine lv_iload_n hx hb dX6_tree_0 rfl (lv_at hl 1 rfl) ?_
  refine lv_iconst (v := (-1)) hx hb dX6_tree_1 (by decide) ?_
  refine lv_icmp_ne (tgt := 9) hx hb dX6_tree_2 (by decide) (fun c1 => ?_) (fun c1 => ?_)
  · first | exact absurd c1 (by decide) | exact absurd (by decide) c1
  · refine lv_iconst (v := 0) hx hb dX6_tree_5 (by decide) ?_
    refine lv_goto (tgt := 14) hx hb dX6_tree_6 (by decide) ?_
    refine W.iret (v := 0) hx hb hr (fun t ht hW => ⟨⟨some (.int 0), _, rfl, ?_, by rw [ht]; exact hm⟩, hS.F ht⟩) hS.2.2 dX6_tree_14
    exact ⟨rfl, rfl⟩

set_option maxHeartbeats 4000000 in
set_option maxRecDepth 100000 in
theorem c_X6_lookAt (l : Launch) (D : va_G) (k : Nat → ClassId) (z : Nat) (M : mM) (mo : Nat) (nd cd : Int32) : mK l yX6_lookAt wsX6_lookAt ({ frames := 0, cells := 0, slots := 0, locals := 0 }) D k z [.ref mo, .int (-1), .int nd, .int cd] M (fun v M' => v = none ∧ M' = M) := by
  refine Met.ofW (cc := cX6_lookAt) (maxL := 5) (ret := none) (by decide) rfl ?_
  intro p e s m args below meth c s₁ B hml hv
  obtain ⟨rfl, hz, hcx, hm⟩ := hv
  have hx := B.exec
  have hb := B.bytes
  have hr := B.returns
  have hts := atoms_spec (ws := wsX6_lookAt) B.pre
  have hown : s.vm.findClass RX6 = some m.cls := findClass_of_methodNamed B.named
  have hlocks := B.notSynchronized
  have hK := hcx.1
  have hS : va_S (AZ z) s.heap s.heap [] := va_S.rf
  have hA : ∀ q, s.heap.size ≤ q → AZ z q := fun q h => Nat.le_trans hz h
  have hl := lv_entry ([.ref mo, .int (-1), .int nd, .int cd]) (n := 5) (Nat.le_of_ble_eq_true rfl)
  rw [lg_entry_eq]
  generalize (lg_sl ([.ref mo, .int (-1), .int nd, .int cd]) ++ List.replicate (5 - (lg_sl ([.ref mo, .int (-1), .int nd, .int cd])).length) Slot.unset).toArray = ls at hl ⊢
  have hl : lv_has ls 5 [(0, .ref mo), (1, .int (-1)), (2, .int nd), (3, .int cd)] := hl
  have f13 := hts (.fieldLink RX6 13 "CommitTreeModel" "ids" "[I") (by decide +kernel)
  have f42 := hts (.fieldLink RX6 42 "CommitTreeModel" "isRead" "[Z") (by decide +kernel)
  have wX6 : ∀ w ∈ wsX60, w ∈ wsX6_lookAt := by decide +kernel
  refine lv_iload_n hx hb dX6_lookAt_0 rfl (lv_at hl 1 rfl) ?_
  refine lv_iconst (v := (-1)) hx hb dX6_lookAt_1 (by decide) ?_
  refine lv_icmp_ne (tgt := 6) hx hb dX6_lookAt_2 (by decide) (fun c1 => ?_) (fun c1 => ?_)
  · first | exact absurd c1 (by decide) | exact absurd (by decide) c1
  · refine W.vret hx hb hr (fun t ht hW => ⟨⟨none, _, rfl, ?_, by rw [ht]; exact hm⟩, hS.F ht⟩) hS.2.2 dX6_lookAt_5
    exact ⟨rfl, rfl⟩
