set_option maxHeartbeats 4000000 in
set_option maxRecDepth 100000 in
theorem cL_X6_copyNode100 (l : Launch) (D : va_G) (k : Nat → ClassId) (z : Nat) (M : mM) (mo : Nat) (cd9 : Int32) (hF : mWk k M mo cd9) : mK l yX6_copyNode wsX6_copyNode ({ frames := 0, cells := 0, slots := 0, locals := 0 }) D k z [.ref mo, .int 100, .int 0] M (fun v M' => v = none ∧ mWk k M' mo cd9 ∧ kL k M M') := by
  refine Met.ofW (cc := cX6_copyNode) (maxL := 4) (ret := none) (by decide) rfl ?_
  intro p e s m args below meth c s₁ B hml hv
  obtain ⟨rfl, hz, hcx, hm⟩ := hv
  have hx := B.exec
  have hb := B.bytes
  have hr := B.returns
  have hts := atoms_spec (ws := wsX6_copyNode) B.pre
  have hown : s.vm.findClass RX6 = some m.cls := findClass_of_methodNamed B.named
  have hlocks := B.notSynchronized
  have hK := hcx.1
  have hS : va_S (AZ z) s.heap s.heap [] := va_S.rf
  have hA : ∀ q, s.heap.size ≤ q → AZ z q := fun q h => Nat.le_trans hz h
  have hl := lv_entry ([.ref mo, .int 100, .int 0]) (n := 4) (Nat.le_of_ble_eq_true rfl)
  rw [lg_entry_eq]
  generalize (lg_sl ([.ref mo, .int 100, .int 0]) ++ List.replicate (4 - (lg_sl ([.ref mo, .int 100, .int 0])).length) Slot.unset).toArray = ls at hl ⊢
  have hl : lv_has ls 4 [(0, .ref mo), (1, .int 100), (2, .int 0)] := hl
  have f13 := hts (.fieldLink RX6 13 "CommitTreeModel" "ids" "[I") (by decide +kernel)
  have f16 := hts (.fieldLink RX6 16 "CommitTreeModel" "dirs" "[Z") (by decide +kernel)
  have f21 := hts (.fieldLink RX6 21 "CommitTreeModel" "entries" "[I") (by decide +kernel)
  have f24 := hts (.fieldLink RX6 24 "CommitTreeModel" "lengths" "[I") (by decide +kernel)
  have f28 := hts (.fieldLink RX6 28 "CommitTreeModel" "words" "[I") (by decide +kernel)
  have wX6 : ∀ w ∈ wsX60, w ∈ wsX6_copyNode := by decide +kernel
  obtain ⟨cn, ia, dr, en, la, wo, op, mk, ir, se, ec, lc, wc, ol, al, fcn, fia, fdr, fen, fla, fwo, fop, fmk, fir, hap, hc0, hM, hcn, hia, hdr, hen, hla, hwo, hop, hmk, hir⟩ := id hF
  have ne_mo_cn : mo ≠ cn := pw_ne hap 0 1 (by decide) (Nat.le_of_ble_eq_true rfl)
  have ne_cn_mo : cn ≠ mo := Ne.symm ne_mo_cn
  have ne_mo_ia : mo ≠ ia := pw_ne hap 0 2 (by decide) (Nat.le_of_ble_eq_true rfl)
  have ne_ia_mo : ia ≠ mo := Ne.symm ne_mo_ia
  have ne_mo_dr : mo ≠ dr := pw_ne hap 0 3 (by decide) (Nat.le_of_ble_eq_true rfl)
  have ne_dr_mo : dr ≠ mo := Ne.symm ne_mo_dr
  have ne_mo_en : mo ≠ en := pw_ne hap 0 4 (by decide) (Nat.le_of_ble_eq_true rfl)
  have ne_en_mo : en ≠ mo := Ne.symm ne_mo_en
  have ne_mo_la : mo ≠ la := pw_ne hap 0 5 (by decide) (Nat.le_of_ble_eq_true rfl)
  have ne_la_mo : la ≠ mo := Ne.symm ne_mo_la
  have ne_mo_wo : mo ≠ wo := pw_ne hap 0 6 (by decide) (Nat.le_of_ble_eq_true rfl)
  have ne_wo_mo : wo ≠ mo := Ne.symm ne_mo_wo
  have ne_mo_op : mo ≠ op := pw_ne hap 0 7 (by decide) (Nat.le_of_ble_eq_true rfl)
  have ne_op_mo : op ≠ mo := Ne.symm ne_mo_op
  have ne_mo_mk : mo ≠ mk := pw_ne hap 0 8 (by decide) (Nat.le_of_ble_eq_true rfl)
  have ne_mk_mo : mk ≠ mo := Ne.symm ne_mo_mk
  have ne_mo_ir : mo ≠ ir := pw_ne hap 0 9 (by decide) (Nat.le_of_ble_eq_true rfl)
  have ne_ir_mo : ir ≠ mo := Ne.symm ne_mo_ir
  have ne_cn_ia : cn ≠ ia := pw_ne hap 1 2 (by decide) (Nat.le_of_ble_eq_true rfl)
  have ne_ia_cn : ia ≠ cn := Ne.symm ne_cn_ia
  have ne_cn_dr : cn ≠ dr := pw_ne hap 1 3 (by decide) (Nat.le_of_ble_eq_true rfl)
  have ne_dr_cn : dr ≠ cn := Ne.symm ne_cn_dr
  have ne_cn_en : cn ≠ en := pw_ne hap 1 4 (by decide) (Nat.le_of_ble_eq_true rfl)
  have ne_en_cn : en ≠ cn := Ne.symm ne_cn_en
  have ne_cn_la : cn ≠ la := pw_ne hap 1 5 (by decide) (Nat.le_of_ble_eq_true rfl)
  have ne_la_cn : la ≠ cn := Ne.symm ne_cn_la
  have ne_cn_wo : cn ≠ wo := pw_ne hap 1 6 (by decide) (Nat.le_of_ble_eq_true rfl)
  have ne_wo_cn : wo ≠ cn := Ne.symm ne_cn_wo
  have ne_cn_op : cn ≠ op := pw_ne hap 1 7 (by decide) (Nat.le_of_ble_eq_true rfl)
  have ne_op_cn : op ≠ cn := Ne.symm ne_cn_op
  have ne_cn_mk : cn ≠ mk := pw_ne hap 1 8 (by decide) (Nat.le_of_ble_eq_true rfl)
  have ne_mk_cn : mk ≠ cn := Ne.symm ne_cn_mk
  have ne_cn_ir : cn ≠ ir := pw_ne hap 1 9 (by decide) (Nat.le_of_ble_eq_true rfl)
  have ne_ir_cn : ir ≠ cn := Ne.symm ne_cn_ir
  have ne_ia_dr : ia ≠ dr := pw_ne hap 2 3 (by decide) (Nat.le_of_ble_eq_true rfl)
  have ne_dr_ia : dr ≠ ia := Ne.symm ne_ia_dr
  have ne_ia_en : ia ≠ en := pw_ne hap 2 4 (by decide) (Nat.le_of_ble_eq_true rfl)
  have ne_en_ia : en ≠ ia := Ne.symm ne_ia_en
  have ne_ia_la : ia ≠ la := pw_ne hap 2 5 (by decide) (Nat.le_of_ble_eq_true rfl)
  have ne_la_ia : la ≠ ia := Ne.symm ne_ia_la
  have ne_ia_wo : ia ≠ wo := pw_ne hap 2 6 (by decide) (Nat.le_of_ble_eq_true rfl)
  have ne_wo_ia : wo ≠ ia := Ne.symm ne_ia_wo
  have ne_ia_op : ia ≠ op := pw_ne hap 2 7 (by decide) (Nat.le_of_ble_eq_true rfl)
  have ne_op_ia : op ≠ ia := Ne.symm ne_ia_op
  have ne_ia_mk : ia ≠ mk := pw_ne hap 2 8 (by decide) (Nat.le_of_ble_eq_true rfl)
  have ne_mk_ia : mk ≠ ia := Ne.symm ne_ia_mk
  have ne_ia_ir : ia ≠ ir := pw_ne hap 2 9 (by decide) (Nat.le_of_ble_eq_true rfl)
  have ne_ir_ia : ir ≠ ia := Ne.symm ne_ia_ir
  have ne_dr_en : dr ≠ en := pw_ne hap 3 4 (by decide) (Nat.le_of_ble_eq_true rfl)
  have ne_en_dr : en ≠ dr := Ne.symm ne_dr_en
  have ne_dr_la : dr ≠ la := pw_ne hap 3 5 (by decide) (Nat.le_of_ble_eq_true rfl)
  have ne_la_dr : la ≠ dr := Ne.symm ne_dr_la
  have ne_dr_wo : dr ≠ wo := pw_ne hap 3 6 (by decide) (Nat.le_of_ble_eq_true rfl)
  have ne_wo_dr : wo ≠ dr := Ne.symm ne_dr_wo
  have ne_dr_op : dr ≠ op := pw_ne hap 3 7 (by decide) (Nat.le_of_ble_eq_true rfl)
  have ne_op_dr : op ≠ dr := Ne.symm ne_dr_op
  have ne_dr_mk : dr ≠ mk := pw_ne hap 3 8 (by decide) (Nat.le_of_ble_eq_true rfl)
  have ne_mk_dr : mk ≠ dr := Ne.symm ne_dr_mk
  have ne_dr_ir : dr ≠ ir := pw_ne hap 3 9 (by decide) (Nat.le_of_ble_eq_true rfl)
  have ne_ir_dr : ir ≠ dr := Ne.symm ne_dr_ir
  have ne_en_la : en ≠ la := pw_ne hap 4 5 (by decide) (Nat.le_of_ble_eq_true rfl)
  have ne_la_en : la ≠ en := Ne.symm ne_en_la
  have ne_en_wo : en ≠ wo := pw_ne hap 4 6 (by decide) (Nat.le_of_ble_eq_true rfl)
  have ne_wo_en : wo ≠ en := Ne.symm ne_en_wo
  have ne_en_op : en ≠ op := pw_ne hap 4 7 (by decide) (Nat.le_of_ble_eq_true rfl)
  have ne_op_en : op ≠ en := Ne.symm ne_en_op
  have ne_en_mk : en ≠ mk := pw_ne hap 4 8 (by decide) (Nat.le_of_ble_eq_true rfl)
  have ne_mk_en : mk ≠ en := Ne.symm ne_en_mk
  have ne_en_ir : en ≠ ir := pw_ne hap 4 9 (by decide) (Nat.le_of_ble_eq_true rfl)
  have ne_ir_en : ir ≠ en := Ne.symm ne_en_ir
  have ne_la_wo : la ≠ wo := pw_ne hap 5 6 (by decide) (Nat.le_of_ble_eq_true rfl)
  have ne_wo_la : wo ≠ la := Ne.symm ne_la_wo
  have ne_la_op : la ≠ op := pw_ne hap 5 7 (by decide) (Nat.le_of_ble_eq_true rfl)
  have ne_op_la : op ≠ la := Ne.symm ne_la_op
  have ne_la_mk : la ≠ mk := pw_ne hap 5 8 (by decide) (Nat.le_of_ble_eq_true rfl)
  have ne_mk_la : mk ≠ la := Ne.symm ne_la_mk
  have ne_la_ir : la ≠ ir := pw_ne hap 5 9 (by decide) (Nat.le_of_ble_eq_true rfl)
  have ne_ir_la : ir ≠ la := Ne.symm ne_la_ir
  have ne_wo_op : wo ≠ op := pw_ne hap 6 7 (by decide) (Nat.le_of_ble_eq_true rfl)
  have ne_op_wo : op ≠ wo := Ne.symm ne_wo_op
  have ne_wo_mk : wo ≠ mk := pw_ne hap 6 8 (by decide) (Nat.le_of_ble_eq_true rfl)
  have ne_mk_wo : mk ≠ wo := Ne.symm ne_wo_mk
  have ne_wo_ir : wo ≠ ir := pw_ne hap 6 9 (by decide) (Nat.le_of_ble_eq_true rfl)
  have ne_ir_wo : ir ≠ wo := Ne.symm ne_wo_ir
  have ne_op_mk : op ≠ mk := pw_ne hap 7 8 (by decide) (Nat.le_of_ble_eq_true rfl)
  have ne_mk_op : mk ≠ op := Ne.symm ne_op_mk
  have ne_op_ir : op ≠ ir := pw_ne hap 7 9 (by decide) (Nat.le_of_ble_eq_true rfl)
  have ne_ir_op : ir ≠ op := Ne.symm ne_op_ir
  have ne_mk_ir : mk ≠ ir := pw_ne hap 8 9 (by decide) (Nat.le_of_ble_eq_true rfl)
  have ne_ir_mk : ir ≠ mk := Ne.symm ne_mk_ir
  have hkp : kL k M M := kL.refl _
  refine lv_aload_n hx hb dX6_copyNode_0 rfl (lv_at hl 0 rfl) ?_
  refine m_get (T := TX6) (N := 24) (ci := 6) (v := .ref ia) hx hb hts wX6 hown hK hm hM rfl 2 (by decide) f13 (fun _ h9 => h9) rfl dX6_copyNode_1 ?_
  refine lv_iload_n hx hb dX6_copyNode_4 rfl (lv_at hl 1 rfl) ?_
  refine lv_aload_n hx hb dX6_copyNode_5 rfl (lv_at hl 0 rfl) ?_
  refine m_get (T := TX6) (N := 24) (ci := 6) (v := .ref ia) hx hb hts wX6 hown hK hm hM rfl 2 (by decide) f13 (fun _ h9 => h9) rfl dX6_copyNode_6 ?_
  refine lv_iload_n hx hb dX6_copyNode_9 rfl (lv_at hl 2 rfl) ?_
  refine m_iald hx hb hK hm 0 hia rfl (by unfold vp_in; decide) dX6_copyNode_10 ?_
  refine m_iast hx hb hK hm hS 0 hia rfl (by unfold vp_in; decide) dX6_copyNode_11 (fun H locs hm hS => ?_)
  have hm : mm D (AZ z) (mu M ia (.inl (k 0, 3200, .inl (upd fia (100 : Int32).toNatClampNeg (fia (0 : Int32).toNatClampNeg))))) H := hm
  have hkp : kL k M (mu M ia (.inl (k 0, 3200, .inl (upd fia (100 : Int32).toNatClampNeg (fia (0 : Int32).toNatClampNeg))))) := (hkp).upd hia nlI
  refine lv_aload_n hx hb dX6_copyNode_12 rfl (lv_at hl 0 rfl) ?_
  refine m_get (T := TX6) (N := 24) (ci := 6) (v := .ref dr) hx hb hts wX6 hown hK hm ((mu_ne ne_mo_ia).trans hM) rfl 3 (by decide) f16 (fun _ h9 => h9) rfl dX6_copyNode_13 ?_
  refine lv_iload_n hx hb dX6_copyNode_16 rfl (lv_at hl 1 rfl) ?_
  refine lv_aload_n hx hb dX6_copyNode_17 rfl (lv_at hl 0 rfl) ?_
  refine m_get (T := TX6) (N := 24) (ci := 6) (v := .ref dr) hx hb hts wX6 hown hK hm ((mu_ne ne_mo_ia).trans hM) rfl 3 (by decide) f16 (fun _ h9 => h9) rfl dX6_copyNode_18 ?_
  refine lv_iload_n hx hb dX6_copyNode_21 rfl (lv_at hl 2 rfl) ?_
  refine m_zald hx hb hK hm 2 ((mu_ne ne_dr_ia).trans hdr) rfl (by unfold vp_in; decide) dX6_copyNode_22 ?_
  refine m_zast hx hb hK hm hS 2 ((mu_ne ne_dr_ia).trans hdr) rfl (by unfold vp_in; decide) dX6_copyNode_23 (fun H locs hm hS => ?_)
  have hm : mm D (AZ z) (mu (mu M ia (.inl (k 0, 3200, .inl (upd fia (100 : Int32).toNatClampNeg (fia (0 : Int32).toNatClampNeg))))) dr (.inl (k 2, 3200, .inl (upd fdr (100 : Int32).toNatClampNeg (vp_nar .boolean (fdr (0 : Int32).toNatClampNeg)))))) H := hm
  have hkp : kL k M (mu (mu M ia (.inl (k 0, 3200, .inl (upd fia (100 : Int32).toNatClampNeg (fia (0 : Int32).toNatClampNeg))))) dr (.inl (k 2, 3200, .inl (upd fdr (100 : Int32).toNatClampNeg (vp_nar .boolean (fdr (0 : Int32).toNatClampNeg)))))) := (hkp).upd ((mu_ne ne_dr_ia).trans hdr) nlI
  refine lv_aload_n hx hb dX6_copyNode_24 rfl (lv_at hl 0 rfl) ?_
  refine m_get (T := TX6) (N := 24) (ci := 6) (v := .ref la) hx hb hts wX6 hown hK hm ((mu_ne ne_mo_dr).trans ((mu_ne ne_mo_ia).trans hM)) rfl 5 (by decide) f24 (fun _ h9 => h9) rfl dX6_copyNode_25 ?_
  refine lv_iload_n hx hb dX6_copyNode_28 rfl (lv_at hl 1 rfl) ?_
  refine lv_aload_n hx hb dX6_copyNode_29 rfl (lv_at hl 0 rfl) ?_
  refine m_get (T := TX6) (N := 24) (ci := 6) (v := .ref la) hx hb hts wX6 hown hK hm ((mu_ne ne_mo_dr).trans ((mu_ne ne_mo_ia).trans hM)) rfl 5 (by decide) f24 (fun _ h9 => h9) rfl dX6_copyNode_30 ?_
  refine lv_iload_n hx hb dX6_copyNode_33 rfl (lv_at hl 2 rfl) ?_
  refine m_iald hx hb hK hm 0 ((mu_ne ne_la_dr).trans ((mu_ne ne_la_ia).trans hla)) rfl (by unfold vp_in; decide) dX6_copyNode_34 ?_
  refine m_iast hx hb hK hm hS 0 ((mu_ne ne_la_dr).trans ((mu_ne ne_la_ia).trans hla)) rfl (by unfold vp_in; decide) dX6_copyNode_35 (fun H locs hm hS => ?_)
  have hm : mm D (AZ z) (mu (mu (mu M ia (.inl (k 0, 3200, .inl (upd fia (100 : Int32).toNatClampNeg (fia (0 : Int32).toNatClampNeg))))) dr (.inl (k 2, 3200, .inl (upd fdr (100 : Int32).toNatClampNeg (vp_nar .boolean (fdr (0 : Int32).toNatClampNeg)))))) la (.inl (k 0, 3200, .inl (upd fla (100 : Int32).toNatClampNeg (fla (0 : Int32).toNatClampNeg))))) H := hm
  have hkp : kL k M (mu (mu (mu M ia (.inl (k 0, 3200, .inl (upd fia (100 : Int32).toNatClampNeg (fia (0 : Int32).toNatClampNeg))))) dr (.inl (k 2, 3200, .inl (upd fdr (100 : Int32).toNatClampNeg (vp_nar .boolean (fdr (0 : Int32).toNatClampNeg)))))) la (.inl (k 0, 3200, .inl (upd fla (100 : Int32).toNatClampNeg (fla (0 : Int32).toNatClampNeg))))) := (hkp).upd ((mu_ne ne_la_dr).trans ((mu_ne ne_la_ia).trans hla)) nlI
  refine lv_iconst (v := 0) hx hb dX6_copyNode_36 (by decide) ?_
  refine lv_istore_n (lv' := [(3, .int 0), (0, .ref mo), (1, .int 100), (2, .int 0)]) hx hb dX6_copyNode_37 rfl hl (by decide) rfl (fun ls hl => ?_)
  have hW0 : mWk k (mu (mu (mu M ia (.inl (k 0, 3200, .inl (upd fia (100 : Int32).toNatClampNeg (fia (0 : Int32).toNatClampNeg))))) dr (.inl (k 2, 3200, .inl (upd fdr (100 : Int32).toNatClampNeg (vp_nar .boolean (fdr (0 : Int32).toNatClampNeg)))))) la (.inl (k 0, 3200, .inl (upd fla (100 : Int32).toNatClampNeg (fla (0 : Int32).toNatClampNeg))))) mo cd9 := ⟨cn, ia, dr, en, la, wo, op, mk, ir, se, ec, lc, wc, ol, al, fcn, (upd fia (100 : Int32).toNatClampNeg (fia (0 : Int32).toNatClampNeg)), (upd fdr (100 : Int32).toNatClampNeg (vp_nar .boolean (fdr (0 : Int32).toNatClampNeg))), fen, (upd fla (100 : Int32).toNatClampNeg (fla (0 : Int32).toNatClampNeg)), fwo, fop, fmk, fir, hap, hc0, ((mu_ne ne_mo_la).trans ((mu_ne ne_mo_dr).trans ((mu_ne ne_mo_ia).trans hM))), ((mu_ne ne_cn_la).trans ((mu_ne ne_cn_dr).trans ((mu_ne ne_cn_ia).trans hcn))), ((mu_ne ne_ia_la).trans ((mu_ne ne_ia_dr).trans (mu_self _ _ _))), ((mu_ne ne_dr_la).trans (mu_self _ _ _)), ((mu_ne ne_en_la).trans ((mu_ne ne_en_dr).trans ((mu_ne ne_en_ia).trans hen))), (mu_self _ _ _), ((mu_ne ne_wo_la).trans ((mu_ne ne_wo_dr).trans ((mu_ne ne_wo_ia).trans hwo))), ((mu_ne ne_op_la).trans ((mu_ne ne_op_dr).trans ((mu_ne ne_op_ia).trans hop))), ((mu_ne ne_mk_la).trans ((mu_ne ne_mk_dr).trans ((mu_ne ne_mk_ia).trans hmk))), ((mu_ne ne_ir_la).trans ((mu_ne ne_ir_dr).trans ((mu_ne ne_ir_ia).trans hir)))⟩
  refine W_loop (σ := Nat × mM) (fun ⟨j, Mj⟩ H locs ls => (j ≤ 16) ∧ mWk k Mj mo cd9 ∧ kL k M Mj ∧ mm D (AZ z) Mj H ∧ va_S (AZ z) s.heap H locs ∧ lv_has ls 4 [(3, .int (nI j)), (0, .ref mo), (1, .int 100), (2, .int 0)]) (fun ⟨j, Mj⟩ => 16 - j) (fun _ => 0) (fun _ => 0) ?_ (0, (mu (mu (mu M ia (.inl (k 0, 3200, .inl (upd fia (100 : Int32).toNatClampNeg (fia (0 : Int32).toNatClampNeg))))) dr (.inl (k 2, 3200, .inl (upd fdr (100 : Int32).toNatClampNeg (vp_nar .boolean (fdr (0 : Int32).toNatClampNeg)))))) la (.inl (k 0, 3200, .inl (upd fla (100 : Int32).toNatClampNeg (fla (0 : Int32).toNatClampNeg)))))) _ _ _ ⟨Nat.zero_le _, hW0, hkp, hm, hS, lv_sub hl [0, 1, 2, 3] rfl⟩
  intro ⟨j, Mj⟩ H locs ls hI ih38
  obtain ⟨hj, hWk, hkp, hm, hS, hl⟩ := hI
  try dsimp only at hm hl ih38 ⊢
  obtain ⟨cn, ia, dr, en, la, wo, op, mk, ir, se, ec, lc, wc, ol, al, fcn, fia, fdr, fen, fla, fwo, fop, fmk, fir, hap, hc0, hM, hcn, hia, hdr, hen, hla, hwo, hop, hmk, hir⟩ := id hWk
  have ne_mo_cn : mo ≠ cn := pw_ne hap 0 1 (by decide) (Nat.le_of_ble_eq_true rfl)
  have ne_cn_mo : cn ≠ mo := Ne.symm ne_mo_cn
  have ne_mo_ia : mo ≠ ia := pw_ne hap 0 2 (by decide) (Nat.le_of_ble_eq_true rfl)
  have ne_ia_mo : ia ≠ mo := Ne.symm ne_mo_ia
  have ne_mo_dr : mo ≠ dr := pw_ne hap 0 3 (by decide) (Nat.le_of_ble_eq_true rfl)
  have ne_dr_mo : dr ≠ mo := Ne.symm ne_mo_dr
  have ne_mo_en : mo ≠ en := pw_ne hap 0 4 (by decide) (Nat.le_of_ble_eq_true rfl)
  have ne_en_mo : en ≠ mo := Ne.symm ne_mo_en
  have ne_mo_la : mo ≠ la := pw_ne hap 0 5 (by decide) (Nat.le_of_ble_eq_true rfl)
  have ne_la_mo : la ≠ mo := Ne.symm ne_mo_la
  have ne_mo_wo : mo ≠ wo := pw_ne hap 0 6 (by decide) (Nat.le_of_ble_eq_true rfl)
  have ne_wo_mo : wo ≠ mo := Ne.symm ne_mo_wo
  have ne_mo_op : mo ≠ op := pw_ne hap 0 7 (by decide) (Nat.le_of_ble_eq_true rfl)
  have ne_op_mo : op ≠ mo := Ne.symm ne_mo_op
  have ne_mo_mk : mo ≠ mk := pw_ne hap 0 8 (by decide) (Nat.le_of_ble_eq_true rfl)
  have ne_mk_mo : mk ≠ mo := Ne.symm ne_mo_mk
  have ne_mo_ir : mo ≠ ir := pw_ne hap 0 9 (by decide) (Nat.le_of_ble_eq_true rfl)
  have ne_ir_mo : ir ≠ mo := Ne.symm ne_mo_ir
  have ne_cn_ia : cn ≠ ia := pw_ne hap 1 2 (by decide) (Nat.le_of_ble_eq_true rfl)
  have ne_ia_cn : ia ≠ cn := Ne.symm ne_cn_ia
  have ne_cn_dr : cn ≠ dr := pw_ne hap 1 3 (by decide) (Nat.le_of_ble_eq_true rfl)
  have ne_dr_cn : dr ≠ cn := Ne.symm ne_cn_dr
  have ne_cn_en : cn ≠ en := pw_ne hap 1 4 (by decide) (Nat.le_of_ble_eq_true rfl)
  have ne_en_cn : en ≠ cn := Ne.symm ne_cn_en
  have ne_cn_la : cn ≠ la := pw_ne hap 1 5 (by decide) (Nat.le_of_ble_eq_true rfl)
  have ne_la_cn : la ≠ cn := Ne.symm ne_cn_la
  have ne_cn_wo : cn ≠ wo := pw_ne hap 1 6 (by decide) (Nat.le_of_ble_eq_true rfl)
  have ne_wo_cn : wo ≠ cn := Ne.symm ne_cn_wo
  have ne_cn_op : cn ≠ op := pw_ne hap 1 7 (by decide) (Nat.le_of_ble_eq_true rfl)
  have ne_op_cn : op ≠ cn := Ne.symm ne_cn_op
  have ne_cn_mk : cn ≠ mk := pw_ne hap 1 8 (by decide) (Nat.le_of_ble_eq_true rfl)
  have ne_mk_cn : mk ≠ cn := Ne.symm ne_cn_mk
  have ne_cn_ir : cn ≠ ir := pw_ne hap 1 9 (by decide) (Nat.le_of_ble_eq_true rfl)
  have ne_ir_cn : ir ≠ cn := Ne.symm ne_cn_ir
  have ne_ia_dr : ia ≠ dr := pw_ne hap 2 3 (by decide) (Nat.le_of_ble_eq_true rfl)
  have ne_dr_ia : dr ≠ ia := Ne.symm ne_ia_dr
  have ne_ia_en : ia ≠ en := pw_ne hap 2 4 (by decide) (Nat.le_of_ble_eq_true rfl)
  have ne_en_ia : en ≠ ia := Ne.symm ne_ia_en
  have ne_ia_la : ia ≠ la := pw_ne hap 2 5 (by decide) (Nat.le_of_ble_eq_true rfl)
  have ne_la_ia : la ≠ ia := Ne.symm ne_ia_la
  have ne_ia_wo : ia ≠ wo := pw_ne hap 2 6 (by decide) (Nat.le_of_ble_eq_true rfl)
  have ne_wo_ia : wo ≠ ia := Ne.symm ne_ia_wo
  have ne_ia_op : ia ≠ op := pw_ne hap 2 7 (by decide) (Nat.le_of_ble_eq_true rfl)
  have ne_op_ia : op ≠ ia := Ne.symm ne_ia_op
  have ne_ia_mk : ia ≠ mk := pw_ne hap 2 8 (by decide) (Nat.le_of_ble_eq_true rfl)
  have ne_mk_ia : mk ≠ ia := Ne.symm ne_ia_mk
  have ne_ia_ir : ia ≠ ir := pw_ne hap 2 9 (by decide) (Nat.le_of_ble_eq_true rfl)
  have ne_ir_ia : ir ≠ ia := Ne.symm ne_ia_ir
  have ne_dr_en : dr ≠ en := pw_ne hap 3 4 (by decide) (Nat.le_of_ble_eq_true rfl)
  have ne_en_dr : en ≠ dr := Ne.symm ne_dr_en
  have ne_dr_la : dr ≠ la := pw_ne hap 3 5 (by decide) (Nat.le_of_ble_eq_true rfl)
  have ne_la_dr : la ≠ dr := Ne.symm ne_dr_la
  have ne_dr_wo : dr ≠ wo := pw_ne hap 3 6 (by decide) (Nat.le_of_ble_eq_true rfl)
  have ne_wo_dr : wo ≠ dr := Ne.symm ne_dr_wo
  have ne_dr_op : dr ≠ op := pw_ne hap 3 7 (by decide) (Nat.le_of_ble_eq_true rfl)
  have ne_op_dr : op ≠ dr := Ne.symm ne_dr_op
  have ne_dr_mk : dr ≠ mk := pw_ne hap 3 8 (by decide) (Nat.le_of_ble_eq_true rfl)
  have ne_mk_dr : mk ≠ dr := Ne.symm ne_dr_mk
  have ne_dr_ir : dr ≠ ir := pw_ne hap 3 9 (by decide) (Nat.le_of_ble_eq_true rfl)
  have ne_ir_dr : ir ≠ dr := Ne.symm ne_dr_ir
  have ne_en_la : en ≠ la := pw_ne hap 4 5 (by decide) (Nat.le_of_ble_eq_true rfl)
  have ne_la_en : la ≠ en := Ne.symm ne_en_la
  have ne_en_wo : en ≠ wo := pw_ne hap 4 6 (by decide) (Nat.le_of_ble_eq_true rfl)
  have ne_wo_en : wo ≠ en := Ne.symm ne_en_wo
  have ne_en_op : en ≠ op := pw_ne hap 4 7 (by decide) (Nat.le_of_ble_eq_true rfl)
  have ne_op_en : op ≠ en := Ne.symm ne_en_op
  have ne_en_mk : en ≠ mk := pw_ne hap 4 8 (by decide) (Nat.le_of_ble_eq_true rfl)
  have ne_mk_en : mk ≠ en := Ne.symm ne_en_mk
  have ne_en_ir : en ≠ ir := pw_ne hap 4 9 (by decide) (Nat.le_of_ble_eq_true rfl)
  have ne_ir_en : ir ≠ en := Ne.symm ne_en_ir
  have ne_la_wo : la ≠ wo := pw_ne hap 5 6 (by decide) (Nat.le_of_ble_eq_true rfl)
  have ne_wo_la : wo ≠ la := Ne.symm ne_la_wo
  have ne_la_op : la ≠ op := pw_ne hap 5 7 (by decide) (Nat.le_of_ble_eq_true rfl)
  have ne_op_la : op ≠ la := Ne.symm ne_la_op
  have ne_la_mk : la ≠ mk := pw_ne hap 5 8 (by decide) (Nat.le_of_ble_eq_true rfl)
  have ne_mk_la : mk ≠ la := Ne.symm ne_la_mk
  have ne_la_ir : la ≠ ir := pw_ne hap 5 9 (by decide) (Nat.le_of_ble_eq_true rfl)
  have ne_ir_la : ir ≠ la := Ne.symm ne_la_ir
  have ne_wo_op : wo ≠ op := pw_ne hap 6 7 (by decide) (Nat.le_of_ble_eq_true rfl)
  have ne_op_wo : op ≠ wo := Ne.symm ne_wo_op
  have ne_wo_mk : wo ≠ mk := pw_ne hap 6 8 (by decide) (Nat.le_of_ble_eq_true rfl)
  have ne_mk_wo : mk ≠ wo := Ne.symm ne_wo_mk
  have ne_wo_ir : wo ≠ ir := pw_ne hap 6 9 (by decide) (Nat.le_of_ble_eq_true rfl)
  have ne_ir_wo : ir ≠ wo := Ne.symm ne_wo_ir
  have ne_op_mk : op ≠ mk := pw_ne hap 7 8 (by decide) (Nat.le_of_ble_eq_true rfl)
  have ne_mk_op : mk ≠ op := Ne.symm ne_op_mk
  have ne_op_ir : op ≠ ir := pw_ne hap 7 9 (by decide) (Nat.le_of_ble_eq_true rfl)
  have ne_ir_op : ir ≠ op := Ne.symm ne_op_ir
  have ne_mk_ir : mk ≠ ir := pw_ne hap 8 9 (by decide) (Nat.le_of_ble_eq_true rfl)
  have ne_ir_mk : ir ≠ mk := Ne.symm ne_mk_ir
  refine lv_iload_n hx hb dX6_copyNode_38 rfl (lv_at hl 0 rfl) ?_
  refine lv_bipush (v := 16) hx hb dX6_copyNode_39 (by decide) ?_
  refine lv_icmp_ge (tgt := 72) hx hb dX6_copyNode_41 (by decide) (fun c1 => ?_) (fun c1 => ?_)
  · refine lv_iconst (v := 0) hx hb dX6_copyNode_72 (by decide) ?_
    refine lv_istore_n (lv' := [(3, .int 0), (0, .ref mo), (1, .int 100), (2, .int 0)]) hx hb dX6_copyNode_73 rfl hl (by decide) rfl (fun ls hl => ?_)
    have hW0 : mWk k Mj mo cd9 := ⟨cn, ia, dr, en, la, wo, op, mk, ir, se, ec, lc, wc, ol, al, fcn, fia, fdr, fen, fla, fwo, fop, fmk, fir, hap, hc0, hM, hcn, hia, hdr, hen, hla, hwo, hop, hmk, hir⟩
    refine W_loop (σ := Nat × mM) (fun ⟨j2, Mk⟩ H locs ls => (j2 ≤ 64) ∧ mWk k Mk mo cd9 ∧ kL k M Mk ∧ mm D (AZ z) Mk H ∧ va_S (AZ z) s.heap H locs ∧ lv_has ls 4 [(3, .int (nI j2)), (0, .ref mo), (1, .int 100), (2, .int 0)]) (fun ⟨j2, Mk⟩ => 64 - j2) (fun _ => 0) (fun _ => 0) ?_ (0, Mj) _ _ _ ⟨Nat.zero_le _, hW0, hkp, hm, hS, lv_sub hl [0, 1, 2, 3] rfl⟩
    intro ⟨j2, Mk⟩ H locs ls hI ih74
    obtain ⟨hj, hWk, hkp, hm, hS, hl⟩ := hI
    try dsimp only at hm hl ih74 ⊢
    obtain ⟨cn, ia, dr, en, la, wo, op, mk, ir, se, ec, lc, wc, ol, al, fcn, fia, fdr, fen, fla, fwo, fop, fmk, fir, hap, hc0, hM, hcn, hia, hdr, hen, hla, hwo, hop, hmk, hir⟩ := id hWk
    have ne_mo_cn : mo ≠ cn := pw_ne hap 0 1 (by decide) (Nat.le_of_ble_eq_true rfl)
    have ne_cn_mo : cn ≠ mo := Ne.symm ne_mo_cn
    have ne_mo_ia : mo ≠ ia := pw_ne hap 0 2 (by decide) (Nat.le_of_ble_eq_true rfl)
    have ne_ia_mo : ia ≠ mo := Ne.symm ne_mo_ia
    have ne_mo_dr : mo ≠ dr := pw_ne hap 0 3 (by decide) (Nat.le_of_ble_eq_true rfl)
    have ne_dr_mo : dr ≠ mo := Ne.symm ne_mo_dr
    have ne_mo_en : mo ≠ en := pw_ne hap 0 4 (by decide) (Nat.le_of_ble_eq_true rfl)
    have ne_en_mo : en ≠ mo := Ne.symm ne_mo_en
    have ne_mo_la : mo ≠ la := pw_ne hap 0 5 (by decide) (Nat.le_of_ble_eq_true rfl)
    have ne_la_mo : la ≠ mo := Ne.symm ne_mo_la
    have ne_mo_wo : mo ≠ wo := pw_ne hap 0 6 (by decide) (Nat.le_of_ble_eq_true rfl)
    have ne_wo_mo : wo ≠ mo := Ne.symm ne_mo_wo
    have ne_mo_op : mo ≠ op := pw_ne hap 0 7 (by decide) (Nat.le_of_ble_eq_true rfl)
    have ne_op_mo : op ≠ mo := Ne.symm ne_mo_op
    have ne_mo_mk : mo ≠ mk := pw_ne hap 0 8 (by decide) (Nat.le_of_ble_eq_true rfl)
    have ne_mk_mo : mk ≠ mo := Ne.symm ne_mo_mk
    have ne_mo_ir : mo ≠ ir := pw_ne hap 0 9 (by decide) (Nat.le_of_ble_eq_true rfl)
    have ne_ir_mo : ir ≠ mo := Ne.symm ne_mo_ir
    have ne_cn_ia : cn ≠ ia := pw_ne hap 1 2 (by decide) (Nat.le_of_ble_eq_true rfl)
    have ne_ia_cn : ia ≠ cn := Ne.symm ne_cn_ia
    have ne_cn_dr : cn ≠ dr := pw_ne hap 1 3 (by decide) (Nat.le_of_ble_eq_true rfl)
    have ne_dr_cn : dr ≠ cn := Ne.symm ne_cn_dr
    have ne_cn_en : cn ≠ en := pw_ne hap 1 4 (by decide) (Nat.le_of_ble_eq_true rfl)
    have ne_en_cn : en ≠ cn := Ne.symm ne_cn_en
    have ne_cn_la : cn ≠ la := pw_ne hap 1 5 (by decide) (Nat.le_of_ble_eq_true rfl)
    have ne_la_cn : la ≠ cn := Ne.symm ne_cn_la
    have ne_cn_wo : cn ≠ wo := pw_ne hap 1 6 (by decide) (Nat.le_of_ble_eq_true rfl)
    have ne_wo_cn : wo ≠ cn := Ne.symm ne_cn_wo
    have ne_cn_op : cn ≠ op := pw_ne hap 1 7 (by decide) (Nat.le_of_ble_eq_true rfl)
    have ne_op_cn : op ≠ cn := Ne.symm ne_cn_op
    have ne_cn_mk : cn ≠ mk := pw_ne hap 1 8 (by decide) (Nat.le_of_ble_eq_true rfl)
    have ne_mk_cn : mk ≠ cn := Ne.symm ne_cn_mk
    have ne_cn_ir : cn ≠ ir := pw_ne hap 1 9 (by decide) (Nat.le_of_ble_eq_true rfl)
    have ne_ir_cn : ir ≠ cn := Ne.symm ne_cn_ir
    have ne_ia_dr : ia ≠ dr := pw_ne hap 2 3 (by decide) (Nat.le_of_ble_eq_true rfl)
    have ne_dr_ia : dr ≠ ia := Ne.symm ne_ia_dr
    have ne_ia_en : ia ≠ en := pw_ne hap 2 4 (by decide) (Nat.le_of_ble_eq_true rfl)
    have ne_en_ia : en ≠ ia := Ne.symm ne_ia_en
    have ne_ia_la : ia ≠ la := pw_ne hap 2 5 (by decide) (Nat.le_of_ble_eq_true rfl)
    have ne_la_ia : la ≠ ia := Ne.symm ne_ia_la
    have ne_ia_wo : ia ≠ wo := pw_ne hap 2 6 (by decide) (Nat.le_of_ble_eq_true rfl)
    have ne_wo_ia : wo ≠ ia := Ne.symm ne_ia_wo
    have ne_ia_op : ia ≠ op := pw_ne hap 2 7 (by decide) (Nat.le_of_ble_eq_true rfl)
    have ne_op_ia : op ≠ ia := Ne.symm ne_ia_op
    have ne_ia_mk : ia ≠ mk := pw_ne hap 2 8 (by decide) (Nat.le_of_ble_eq_true rfl)
    have ne_mk_ia : mk ≠ ia := Ne.symm ne_ia_mk
    have ne_ia_ir : ia ≠ ir := pw_ne hap 2 9 (by decide) (Nat.le_of_ble_eq_true rfl)
    have ne_ir_ia : ir ≠ ia := Ne.symm ne_ia_ir
    have ne_dr_en : dr ≠ en := pw_ne hap 3 4 (by decide) (Nat.le_of_ble_eq_true rfl)
    have ne_en_dr : en ≠ dr := Ne.symm ne_dr_en
    have ne_dr_la : dr ≠ la := pw_ne hap 3 5 (by decide) (Nat.le_of_ble_eq_true rfl)
    have ne_la_dr : la ≠ dr := Ne.symm ne_dr_la
    have ne_dr_wo : dr ≠ wo := pw_ne hap 3 6 (by decide) (Nat.le_of_ble_eq_true rfl)
    have ne_wo_dr : wo ≠ dr := Ne.symm ne_dr_wo
    have ne_dr_op : dr ≠ op := pw_ne hap 3 7 (by decide) (Nat.le_of_ble_eq_true rfl)
    have ne_op_dr : op ≠ dr := Ne.symm ne_dr_op
    have ne_dr_mk : dr ≠ mk := pw_ne hap 3 8 (by decide) (Nat.le_of_ble_eq_true rfl)
    have ne_mk_dr : mk ≠ dr := Ne.symm ne_dr_mk
    have ne_dr_ir : dr ≠ ir := pw_ne hap 3 9 (by decide) (Nat.le_of_ble_eq_true rfl)
    have ne_ir_dr : ir ≠ dr := Ne.symm ne_dr_ir
    have ne_en_la : en ≠ la := pw_ne hap 4 5 (by decide) (Nat.le_of_ble_eq_true rfl)
    have ne_la_en : la ≠ en := Ne.symm ne_en_la
    have ne_en_wo : en ≠ wo := pw_ne hap 4 6 (by decide) (Nat.le_of_ble_eq_true rfl)
    have ne_wo_en : wo ≠ en := Ne.symm ne_en_wo
    have ne_en_op : en ≠ op := pw_ne hap 4 7 (by decide) (Nat.le_of_ble_eq_true rfl)
    have ne_op_en : op ≠ en := Ne.symm ne_en_op
    have ne_en_mk : en ≠ mk := pw_ne hap 4 8 (by decide) (Nat.le_of_ble_eq_true rfl)
    have ne_mk_en : mk ≠ en := Ne.symm ne_en_mk
    have ne_en_ir : en ≠ ir := pw_ne hap 4 9 (by decide) (Nat.le_of_ble_eq_true rfl)
    have ne_ir_en : ir ≠ en := Ne.symm ne_en_ir
    have ne_la_wo : la ≠ wo := pw_ne hap 5 6 (by decide) (Nat.le_of_ble_eq_true rfl)
    have ne_wo_la : wo ≠ la := Ne.symm ne_la_wo
    have ne_la_op : la ≠ op := pw_ne hap 5 7 (by decide) (Nat.le_of_ble_eq_true rfl)
    have ne_op_la : op ≠ la := Ne.symm ne_la_op
    have ne_la_mk : la ≠ mk := pw_ne hap 5 8 (by decide) (Nat.le_of_ble_eq_true rfl)
    have ne_mk_la : mk ≠ la := Ne.symm ne_la_mk
    have ne_la_ir : la ≠ ir := pw_ne hap 5 9 (by decide) (Nat.le_of_ble_eq_true rfl)
    have ne_ir_la : ir ≠ la := Ne.symm ne_la_ir
    have ne_wo_op : wo ≠ op := pw_ne hap 6 7 (by decide) (Nat.le_of_ble_eq_true rfl)
    have ne_op_wo : op ≠ wo := Ne.symm ne_wo_op
    have ne_wo_mk : wo ≠ mk := pw_ne hap 6 8 (by decide) (Nat.le_of_ble_eq_true rfl)
    have ne_mk_wo : mk ≠ wo := Ne.symm ne_wo_mk
    have ne_wo_ir : wo ≠ ir := pw_ne hap 6 9 (by decide) (Nat.le_of_ble_eq_true rfl)
    have ne_ir_wo : ir ≠ wo := Ne.symm ne_wo_ir
    have ne_op_mk : op ≠ mk := pw_ne hap 7 8 (by decide) (Nat.le_of_ble_eq_true rfl)
    have ne_mk_op : mk ≠ op := Ne.symm ne_op_mk
    have ne_op_ir : op ≠ ir := pw_ne hap 7 9 (by decide) (Nat.le_of_ble_eq_true rfl)
    have ne_ir_op : ir ≠ op := Ne.symm ne_op_ir
    have ne_mk_ir : mk ≠ ir := pw_ne hap 8 9 (by decide) (Nat.le_of_ble_eq_true rfl)
    have ne_ir_mk : ir ≠ mk := Ne.symm ne_mk_ir
    refine lv_iload_n hx hb dX6_copyNode_74 rfl (lv_at hl 0 rfl) ?_
    refine lv_bipush (v := 64) hx hb dX6_copyNode_75 (by decide) ?_
    refine lv_icmp_ge (tgt := 108) hx hb dX6_copyNode_77 (by decide) (fun c2 => ?_) (fun c2 => ?_)
    · refine W.vret hx hb hr (fun t ht hW => ⟨⟨none, _, rfl, ?_, by rw [ht]; exact hm⟩, hS.F ht⟩) hS.2.2 dX6_copyNode_108
      exact ⟨rfl, hWk, hkp⟩
    · have hlt9 : j2 < 64 := Nat.lt_of_not_le fun q => c2 (nI_le (a := 64) q (by omega))
      refine lv_aload_n hx hb dX6_copyNode_80 rfl (lv_at hl 1 rfl) ?_
      refine m_get (T := TX6) (N := 24) (ci := 6) (v := .ref wo) hx hb hts wX6 hown hK hm hM rfl 6 (by decide) f28 (fun _ h9 => h9) rfl dX6_copyNode_81 ?_
      refine lv_bipush (v := 64) hx hb dX6_copyNode_84 (by decide) ?_
      refine lv_iload_n hx hb dX6_copyNode_86 rfl (lv_at hl 2 rfl) ?_
      refine lv_imul hx hb dX6_copyNode_87 ?_
      refine W.eq (g2 := F0 m 88 ls [.int 6400, .ref wo]) (by first | rfl | decide) ?_
      refine lv_iload_n hx hb dX6_copyNode_88 rfl (lv_at hl 0 rfl) ?_
      refine lv_iadd hx hb dX6_copyNode_89 ?_
      refine lv_aload_n hx hb dX6_copyNode_90 rfl (lv_at hl 1 rfl) ?_
      refine m_get (T := TX6) (N := 24) (ci := 6) (v := .ref wo) hx hb hts wX6 hown hK hm hM rfl 6 (by decide) f28 (fun _ h9 => h9) rfl dX6_copyNode_91 ?_
      refine lv_bipush (v := 64) hx hb dX6_copyNode_94 (by decide) ?_
      refine lv_iload_n hx hb dX6_copyNode_96 rfl (lv_at hl 3 rfl) ?_
      refine lv_imul hx hb dX6_copyNode_97 ?_
      refine W.eq (g2 := F0 m 98 ls [.int 0, .ref wo, .int (6400 + (nI j2)), .ref wo]) (by first | rfl | decide) ?_
      refine lv_iload_n hx hb dX6_copyNode_98 rfl (lv_at hl 0 rfl) ?_
      refine lv_iadd hx hb dX6_copyNode_99 ?_
      refine m_iald hx hb hK hm 0 hwo rfl (in_add (a := 0) (by omega) (by decide)) dX6_copyNode_100 ?_
      refine m_iast hx hb hK hm hS 0 hwo rfl (in_add (a := 6400) (by omega) (by decide)) dX6_copyNode_101 (fun H locs hm hS => ?_)
      have hm : mm D (AZ z) (mu Mk wo (.inl (k 0, 204800, .inl (upd fwo ((6400 + (nI j2))).toNatClampNeg (fwo ((0 + (nI j2))).toNatClampNeg))))) H := hm
      have hkp : kL k M (mu Mk wo (.inl (k 0, 204800, .inl (upd fwo ((6400 + (nI j2))).toNatClampNeg (fwo ((0 + (nI j2))).toNatClampNeg))))) := (hkp).upd hwo nlI
      refine lv_iinc (v := ((nI j2) + 1)) (lv' := [(3, .int ((nI j2) + 1)), (0, .ref mo), (1, .int 100), (2, .int 0)]) hx hb dX6_copyNode_102 hl (k := 0) rfl rfl (by decide) rfl (fun ls hl => ?_)
      refine lv_goto (tgt := 74) hx hb dX6_copyNode_105 (by decide) ?_
      rw [nI_1] at hl
      exact ih74 (j2 + 1, (mu Mk wo (.inl (k 0, 204800, .inl (upd fwo ((6400 + (nI j2))).toNatClampNeg (fwo ((0 + (nI j2))).toNatClampNeg)))))) _ _ _ ⟨by omega, ⟨cn, ia, dr, en, la, wo, op, mk, ir, se, ec, lc, wc, ol, al, fcn, fia, fdr, fen, fla, (upd fwo ((6400 + (nI j2))).toNatClampNeg (fwo ((0 + (nI j2))).toNatClampNeg)), fop, fmk, fir, hap, hc0, ((mu_ne ne_mo_wo).trans hM), ((mu_ne ne_cn_wo).trans hcn), ((mu_ne ne_ia_wo).trans hia), ((mu_ne ne_dr_wo).trans hdr), ((mu_ne ne_en_wo).trans hen), ((mu_ne ne_la_wo).trans hla), (mu_self _ _ _), ((mu_ne ne_op_wo).trans hop), ((mu_ne ne_mk_wo).trans hmk), ((mu_ne ne_ir_wo).trans hir)⟩, hkp, hm, hS, lv_sub hl [0, 1, 2, 3] rfl⟩ (by show 64 - (j2 + 1) < 64 - j2; omega)
  · have hlt9 : j < 16 := Nat.lt_of_not_le fun q => c1 (nI_le (a := 16) q (by omega))
    refine lv_aload_n hx hb dX6_copyNode_44 rfl (lv_at hl 1 rfl) ?_
    refine m_get (T := TX6) (N := 24) (ci := 6) (v := .ref en) hx hb hts wX6 hown hK hm hM rfl 4 (by decide) f21 (fun _ h9 => h9) rfl dX6_copyNode_45 ?_
    refine lv_bipush (v := 16) hx hb dX6_copyNode_48 (by decide) ?_
    refine lv_iload_n hx hb dX6_copyNode_50 rfl (lv_at hl 2 rfl) ?_
    refine lv_imul hx hb dX6_copyNode_51 ?_
    refine W.eq (g2 := F0 m 52 ls [.int 1600, .ref en]) (by first | rfl | decide) ?_
    refine lv_iload_n hx hb dX6_copyNode_52 rfl (lv_at hl 0 rfl) ?_
    refine lv_iadd hx hb dX6_copyNode_53 ?_
    refine lv_aload_n hx hb dX6_copyNode_54 rfl (lv_at hl 1 rfl) ?_
    refine m_get (T := TX6) (N := 24) (ci := 6) (v := .ref en) hx hb hts wX6 hown hK hm hM rfl 4 (by decide) f21 (fun _ h9 => h9) rfl dX6_copyNode_55 ?_
    refine lv_bipush (v := 16) hx hb dX6_copyNode_58 (by decide) ?_
    refine lv_iload_n hx hb dX6_copyNode_60 rfl (lv_at hl 3 rfl) ?_
    refine lv_imul hx hb dX6_copyNode_61 ?_
    refine W.eq (g2 := F0 m 62 ls [.int 0, .ref en, .int (1600 + (nI j)), .ref en]) (by first | rfl | decide) ?_
    refine lv_iload_n hx hb dX6_copyNode_62 rfl (lv_at hl 0 rfl) ?_
    refine lv_iadd hx hb dX6_copyNode_63 ?_
    refine m_iald hx hb hK hm 0 hen rfl (in_add (a := 0) (by omega) (by decide)) dX6_copyNode_64 ?_
    refine m_iast hx hb hK hm hS 0 hen rfl (in_add (a := 1600) (by omega) (by decide)) dX6_copyNode_65 (fun H locs hm hS => ?_)
    have hm : mm D (AZ z) (mu Mj en (.inl (k 0, 51200, .inl (upd fen ((1600 + (nI j))).toNatClampNeg (fen ((0 + (nI j))).toNatClampNeg))))) H := hm
    have hkp : kL k M (mu Mj en (.inl (k 0, 51200, .inl (upd fen ((1600 + (nI j))).toNatClampNeg (fen ((0 + (nI j))).toNatClampNeg))))) := (hkp).upd hen nlI
    refine lv_iinc (v := ((nI j) + 1)) (lv' := [(3, .int ((nI j) + 1)), (0, .ref mo), (1, .int 100), (2, .int 0)]) hx hb dX6_copyNode_66 hl (k := 0) rfl rfl (by decide) rfl (fun ls hl => ?_)
    refine lv_goto (tgt := 38) hx hb dX6_copyNode_69 (by decide) ?_
    rw [nI_1] at hl
    exact ih38 (j + 1, (mu Mj en (.inl (k 0, 51200, .inl (upd fen ((1600 + (nI j))).toNatClampNeg (fen ((0 + (nI j))).toNatClampNeg)))))) _ _ _ ⟨by omega, ⟨cn, ia, dr, en, la, wo, op, mk, ir, se, ec, lc, wc, ol, al, fcn, fia, fdr, (upd fen ((1600 + (nI j))).toNatClampNeg (fen ((0 + (nI j))).toNatClampNeg)), fla, fwo, fop, fmk, fir, hap, hc0, ((mu_ne ne_mo_en).trans hM), ((mu_ne ne_cn_en).trans hcn), ((mu_ne ne_ia_en).trans hia), ((mu_ne ne_dr_en).trans hdr), (mu_self _ _ _), ((mu_ne ne_la_en).trans hla), ((mu_ne ne_wo_en).trans hwo), ((mu_ne ne_op_en).trans hop), ((mu_ne ne_mk_en).trans hmk), ((mu_ne ne_ir_en).trans hir)⟩, hkp, hm, hS, lv_sub hl [0, 1, 2, 3] rfl⟩ (by show 16 - (j + 1) < 16 - j; omega)

set_option maxHeartbeats 4000000 in
set_option maxRecDepth 100000 in
theorem cL_X6_copyTree1 (l : Launch) (D : va_G) (k : Nat → ClassId) (z : Nat) (M : mM) (mo : Nat) (cd9 : Int32) (hF : mWk k M mo cd9) : mK l yX6_copyTree wsX6_copyTree ({ frames := 1, cells := 0, slots := 0, locals := 23 }) D k z [.ref mo, .int 1, .int 0] M (fun v M' => v = none ∧ mWk k M' mo cd9 ∧ kL k M M') := by
  refine Met.ofW (cc := cX6_copyTree) (maxL := 4) (ret := none) (by decide) rfl ?_
  intro p e s m args below meth c s₁ B hml hv
  obtain ⟨rfl, hz, hcx, hm⟩ := hv
  have hx := B.exec
  have hb := B.bytes
  have hr := B.returns
  have hts := atoms_spec (ws := wsX6_copyTree) B.pre
  have hown : s.vm.findClass RX6 = some m.cls := findClass_of_methodNamed B.named
  have hlocks := B.notSynchronized
  have hK := hcx.1
  have hS : va_S (AZ z) s.heap s.heap [] := va_S.rf
  have hA : ∀ q, s.heap.size ≤ q → AZ z q := fun q h => Nat.le_trans hz h
  have hl := lv_entry ([.ref mo, .int 1, .int 0]) (n := 4) (Nat.le_of_ble_eq_true rfl)
  rw [lg_entry_eq]
  generalize (lg_sl ([.ref mo, .int 1, .int 0]) ++ List.replicate (4 - (lg_sl ([.ref mo, .int 1, .int 0])).length) Slot.unset).toArray = ls at hl ⊢
  have hl : lv_has ls 4 [(0, .ref mo), (1, .int 1), (2, .int 0)] := hl
  have f7 := hts (.fieldLink RX6 7 "CommitTreeModel" "counts" "[I") (by decide +kernel)
  have wX6 : ∀ w ∈ wsX60, w ∈ wsX6_copyTree := by decide +kernel
  obtain ⟨cn, ia, dr, en, la, wo, op, mk, ir, se, ec, lc, wc, ol, al, fcn, fia, fdr, fen, fla, fwo, fop, fmk, fir, hap, hc0, hM, hcn, hia, hdr, hen, hla, hwo, hop, hmk, hir⟩ := id hF
  have ne_mo_cn : mo ≠ cn := pw_ne hap 0 1 (by decide) (Nat.le_of_ble_eq_true rfl)
  have ne_cn_mo : cn ≠ mo := Ne.symm ne_mo_cn
  have ne_mo_ia : mo ≠ ia := pw_ne hap 0 2 (by decide) (Nat.le_of_ble_eq_true rfl)
  have ne_ia_mo : ia ≠ mo := Ne.symm ne_mo_ia
  have ne_mo_dr : mo ≠ dr := pw_ne hap 0 3 (by decide) (Nat.le_of_ble_eq_true rfl)
  have ne_dr_mo : dr ≠ mo := Ne.symm ne_mo_dr
  have ne_mo_en : mo ≠ en := pw_ne hap 0 4 (by decide) (Nat.le_of_ble_eq_true rfl)
  have ne_en_mo : en ≠ mo := Ne.symm ne_mo_en
  have ne_mo_la : mo ≠ la := pw_ne hap 0 5 (by decide) (Nat.le_of_ble_eq_true rfl)
  have ne_la_mo : la ≠ mo := Ne.symm ne_mo_la
  have ne_mo_wo : mo ≠ wo := pw_ne hap 0 6 (by decide) (Nat.le_of_ble_eq_true rfl)
  have ne_wo_mo : wo ≠ mo := Ne.symm ne_mo_wo
  have ne_mo_op : mo ≠ op := pw_ne hap 0 7 (by decide) (Nat.le_of_ble_eq_true rfl)
  have ne_op_mo : op ≠ mo := Ne.symm ne_mo_op
  have ne_mo_mk : mo ≠ mk := pw_ne hap 0 8 (by decide) (Nat.le_of_ble_eq_true rfl)
  have ne_mk_mo : mk ≠ mo := Ne.symm ne_mo_mk
  have ne_mo_ir : mo ≠ ir := pw_ne hap 0 9 (by decide) (Nat.le_of_ble_eq_true rfl)
  have ne_ir_mo : ir ≠ mo := Ne.symm ne_mo_ir
  have ne_cn_ia : cn ≠ ia := pw_ne hap 1 2 (by decide) (Nat.le_of_ble_eq_true rfl)
  have ne_ia_cn : ia ≠ cn := Ne.symm ne_cn_ia
  have ne_cn_dr : cn ≠ dr := pw_ne hap 1 3 (by decide) (Nat.le_of_ble_eq_true rfl)
  have ne_dr_cn : dr ≠ cn := Ne.symm ne_cn_dr
  have ne_cn_en : cn ≠ en := pw_ne hap 1 4 (by decide) (Nat.le_of_ble_eq_true rfl)
  have ne_en_cn : en ≠ cn := Ne.symm ne_cn_en
  have ne_cn_la : cn ≠ la := pw_ne hap 1 5 (by decide) (Nat.le_of_ble_eq_true rfl)
  have ne_la_cn : la ≠ cn := Ne.symm ne_cn_la
  have ne_cn_wo : cn ≠ wo := pw_ne hap 1 6 (by decide) (Nat.le_of_ble_eq_true rfl)
  have ne_wo_cn : wo ≠ cn := Ne.symm ne_cn_wo
  have ne_cn_op : cn ≠ op := pw_ne hap 1 7 (by decide) (Nat.le_of_ble_eq_true rfl)
  have ne_op_cn : op ≠ cn := Ne.symm ne_cn_op
  have ne_cn_mk : cn ≠ mk := pw_ne hap 1 8 (by decide) (Nat.le_of_ble_eq_true rfl)
  have ne_mk_cn : mk ≠ cn := Ne.symm ne_cn_mk
  have ne_cn_ir : cn ≠ ir := pw_ne hap 1 9 (by decide) (Nat.le_of_ble_eq_true rfl)
  have ne_ir_cn : ir ≠ cn := Ne.symm ne_cn_ir
  have ne_ia_dr : ia ≠ dr := pw_ne hap 2 3 (by decide) (Nat.le_of_ble_eq_true rfl)
  have ne_dr_ia : dr ≠ ia := Ne.symm ne_ia_dr
  have ne_ia_en : ia ≠ en := pw_ne hap 2 4 (by decide) (Nat.le_of_ble_eq_true rfl)
  have ne_en_ia : en ≠ ia := Ne.symm ne_ia_en
  have ne_ia_la : ia ≠ la := pw_ne hap 2 5 (by decide) (Nat.le_of_ble_eq_true rfl)
  have ne_la_ia : la ≠ ia := Ne.symm ne_ia_la
  have ne_ia_wo : ia ≠ wo := pw_ne hap 2 6 (by decide) (Nat.le_of_ble_eq_true rfl)
  have ne_wo_ia : wo ≠ ia := Ne.symm ne_ia_wo
  have ne_ia_op : ia ≠ op := pw_ne hap 2 7 (by decide) (Nat.le_of_ble_eq_true rfl)
  have ne_op_ia : op ≠ ia := Ne.symm ne_ia_op
  have ne_ia_mk : ia ≠ mk := pw_ne hap 2 8 (by decide) (Nat.le_of_ble_eq_true rfl)
  have ne_mk_ia : mk ≠ ia := Ne.symm ne_ia_mk
  have ne_ia_ir : ia ≠ ir := pw_ne hap 2 9 (by decide) (Nat.le_of_ble_eq_true rfl)
  have ne_ir_ia : ir ≠ ia := Ne.symm ne_ia_ir
  have ne_dr_en : dr ≠ en := pw_ne hap 3 4 (by decide) (Nat.le_of_ble_eq_true rfl)
  have ne_en_dr : en ≠ dr := Ne.symm ne_dr_en
  have ne_dr_la : dr ≠ la := pw_ne hap 3 5 (by decide) (Nat.le_of_ble_eq_true rfl)
  have ne_la_dr : la ≠ dr := Ne.symm ne_dr_la
  have ne_dr_wo : dr ≠ wo := pw_ne hap 3 6 (by decide) (Nat.le_of_ble_eq_true rfl)
  have ne_wo_dr : wo ≠ dr := Ne.symm ne_dr_wo
  have ne_dr_op : dr ≠ op := pw_ne hap 3 7 (by decide) (Nat.le_of_ble_eq_true rfl)
  have ne_op_dr : op ≠ dr := Ne.symm ne_dr_op
  have ne_dr_mk : dr ≠ mk := pw_ne hap 3 8 (by decide) (Nat.le_of_ble_eq_true rfl)
  have ne_mk_dr : mk ≠ dr := Ne.symm ne_dr_mk
  have ne_dr_ir : dr ≠ ir := pw_ne hap 3 9 (by decide) (Nat.le_of_ble_eq_true rfl)
  have ne_ir_dr : ir ≠ dr := Ne.symm ne_dr_ir
  have ne_en_la : en ≠ la := pw_ne hap 4 5 (by decide) (Nat.le_of_ble_eq_true rfl)
  have ne_la_en : la ≠ en := Ne.symm ne_en_la
  have ne_en_wo : en ≠ wo := pw_ne hap 4 6 (by decide) (Nat.le_of_ble_eq_true rfl)
  have ne_wo_en : wo ≠ en := Ne.symm ne_en_wo
  have ne_en_op : en ≠ op := pw_ne hap 4 7 (by decide) (Nat.le_of_ble_eq_true rfl)
  have ne_op_en : op ≠ en := Ne.symm ne_en_op
  have ne_en_mk : en ≠ mk := pw_ne hap 4 8 (by decide) (Nat.le_of_ble_eq_true rfl)
  have ne_mk_en : mk ≠ en := Ne.symm ne_en_mk
  have ne_en_ir : en ≠ ir := pw_ne hap 4 9 (by decide) (Nat.le_of_ble_eq_true rfl)
  have ne_ir_en : ir ≠ en := Ne.symm ne_en_ir
  have ne_la_wo : la ≠ wo := pw_ne hap 5 6 (by decide) (Nat.le_of_ble_eq_true rfl)
  have ne_wo_la : wo ≠ la := Ne.symm ne_la_wo
  have ne_la_op : la ≠ op := pw_ne hap 5 7 (by decide) (Nat.le_of_ble_eq_true rfl)
  have ne_op_la : op ≠ la := Ne.symm ne_la_op
  have ne_la_mk : la ≠ mk := pw_ne hap 5 8 (by decide) (Nat.le_of_ble_eq_true rfl)
  have ne_mk_la : mk ≠ la := Ne.symm ne_la_mk
  have ne_la_ir : la ≠ ir := pw_ne hap 5 9 (by decide) (Nat.le_of_ble_eq_true rfl)
  have ne_ir_la : ir ≠ la := Ne.symm ne_la_ir
  have ne_wo_op : wo ≠ op := pw_ne hap 6 7 (by decide) (Nat.le_of_ble_eq_true rfl)
  have ne_op_wo : op ≠ wo := Ne.symm ne_wo_op
  have ne_wo_mk : wo ≠ mk := pw_ne hap 6 8 (by decide) (Nat.le_of_ble_eq_true rfl)
  have ne_mk_wo : mk ≠ wo := Ne.symm ne_wo_mk
  have ne_wo_ir : wo ≠ ir := pw_ne hap 6 9 (by decide) (Nat.le_of_ble_eq_true rfl)
  have ne_ir_wo : ir ≠ wo := Ne.symm ne_wo_ir
  have ne_op_mk : op ≠ mk := pw_ne hap 7 8 (by decide) (Nat.le_of_ble_eq_true rfl)
  have ne_mk_op : mk ≠ op := Ne.symm ne_op_mk
  have ne_op_ir : op ≠ ir := pw_ne hap 7 9 (by decide) (Nat.le_of_ble_eq_true rfl)
  have ne_ir_op : ir ≠ op := Ne.symm ne_op_ir
  have ne_mk_ir : mk ≠ ir := pw_ne hap 8 9 (by decide) (Nat.le_of_ble_eq_true rfl)
  have ne_ir_mk : ir ≠ mk := Ne.symm ne_mk_ir
  have hkp : kL k M M := kL.refl _
  refine lv_aload_n hx hb dX6_copyTree_0 rfl (lv_at hl 0 rfl) ?_
  refine m_get (T := TX6) (N := 24) (ci := 6) (v := .ref cn) hx hb hts wX6 hown hK hm hM rfl 1 (by decide) f7 (fun _ h9 => h9) rfl dX6_copyTree_1 ?_
  refine lv_iload_n hx hb dX6_copyTree_4 rfl (lv_at hl 1 rfl) ?_
  refine lv_aload_n hx hb dX6_copyTree_5 rfl (lv_at hl 0 rfl) ?_
  refine m_get (T := TX6) (N := 24) (ci := 6) (v := .ref cn) hx hb hts wX6 hown hK hm hM rfl 1 (by decide) f7 (fun _ h9 => h9) rfl dX6_copyTree_6 ?_
  refine lv_iload_n hx hb dX6_copyTree_9 rfl (lv_at hl 2 rfl) ?_
  refine m_iald hx hb hK hm 0 hcn rfl (by unfold vp_in; decide) dX6_copyTree_10 ?_
  refine m_iast hx hb hK hm hS 0 hcn rfl (by unfold vp_in; decide) dX6_copyTree_11 (fun H locs hm hS => ?_)
  have hm : mm D (AZ z) (mu M cn (.inl (k 0, 32, .inl (upd fcn (1 : Int32).toNatClampNeg (fcn (0 : Int32).toNatClampNeg))))) H := hm
  have hkp : kL k M (mu M cn (.inl (k 0, 32, .inl (upd fcn (1 : Int32).toNatClampNeg (fcn (0 : Int32).toNatClampNeg))))) := (hkp).upd hcn nlI
  refine lv_iconst (v := 0) hx hb dX6_copyTree_12 (by decide) ?_
  refine lv_istore_n (lv' := [(3, .int 0), (0, .ref mo), (1, .int 1), (2, .int 0)]) hx hb dX6_copyTree_13 rfl hl (by decide) rfl (fun ls hl => ?_)
  refine lv_iload_n hx hb dX6_copyTree_14 rfl (lv_at hl 0 rfl) ?_
  refine lv_aload_n hx hb dX6_copyTree_15 rfl (lv_at hl 1 rfl) ?_
  refine m_get (T := TX6) (N := 24) (ci := 6) (v := .ref cn) hx hb hts wX6 hown hK hm ((mu_ne ne_mo_cn).trans hM) rfl 1 (by decide) f7 (fun _ h9 => h9) rfl dX6_copyTree_16 ?_
  refine lv_iload_n hx hb dX6_copyTree_19 rfl (lv_at hl 3 rfl) ?_
  refine m_iald hx hb hK hm 0 (mu_self _ _ _) rfl (by unfold vp_in; decide) dX6_copyTree_20 ?_
  have hc1 : ((upd fcn (1 : Int32).toNatClampNeg (fcn (0 : Int32).toNatClampNeg)) (0 : Int32).toNatClampNeg) = 1 := hc0
  refine W.eq (g2 := F0 m 21 ls [.int 1, .int 0]) (by rw [hc1]) ?_
  refine lv_icmp_ge (tgt := 46) hx hb dX6_copyTree_21 (by decide) (fun c1 => ?_) (fun c1 => ?_)
  · first | exact absurd c1 (by decide) | exact absurd (by decide) c1
  · refine lv_aload_n hx hb dX6_copyTree_24 rfl (lv_at hl 1 rfl) ?_
    refine lv_bipush (v := 100) hx hb dX6_copyTree_25 (by decide) ?_
    refine lv_iload_n hx hb dX6_copyTree_27 rfl (lv_at hl 2 rfl) ?_
    refine lv_imul hx hb dX6_copyTree_28 ?_
    refine W.eq (g2 := F0 m 29 ls [.int 100, .ref mo]) (by first | rfl | decide) ?_
    refine lv_iload_n hx hb dX6_copyTree_29 rfl (lv_at hl 0 rfl) ?_
    refine lv_iadd hx hb dX6_copyTree_30 ?_
    refine W.eq (g2 := F0 m 31 ls [.int 100, .ref mo]) (by first | rfl | decide) ?_
    refine lv_bipush (v := 100) hx hb dX6_copyTree_31 (by decide) ?_
    refine lv_iload_n hx hb dX6_copyTree_33 rfl (lv_at hl 3 rfl) ?_
    refine lv_imul hx hb dX6_copyTree_34 ?_
    refine W.eq (g2 := F0 m 35 ls [.int 0, .int 100, .ref mo]) (by first | rfl | decide) ?_
    refine lv_iload_n hx hb dX6_copyTree_35 rfl (lv_at hl 0 rfl) ?_
    refine lv_iadd hx hb dX6_copyTree_36 ?_
    refine W.eq (g2 := F0 m 37 ls [.int 0, .int 100, .ref mo]) (by first | rfl | decide) ?_
    have hW0 : mWk k (mu M cn (.inl (k 0, 32, .inl (upd fcn (1 : Int32).toNatClampNeg (fcn (0 : Int32).toNatClampNeg))))) mo cd9 := ⟨cn, ia, dr, en, la, wo, op, mk, ir, se, ec, lc, wc, ol, al, (upd fcn (1 : Int32).toNatClampNeg (fcn (0 : Int32).toNatClampNeg)), fia, fdr, fen, fla, fwo, fop, fmk, fir, hap, hc0, ((mu_ne ne_mo_cn).trans hM), (mu_self _ _ _), ((mu_ne ne_ia_cn).trans hia), ((mu_ne ne_dr_cn).trans hdr), ((mu_ne ne_en_cn).trans hen), ((mu_ne ne_la_cn).trans hla), ((mu_ne ne_wo_cn).trans hwo), ((mu_ne ne_op_cn).trans hop), ((mu_ne ne_mk_cn).trans hmk), ((mu_ne ne_ir_cn).trans hir)⟩
    refine m_kV (As := [.int 100, .int 0]) (rest := []) (rm := { frames := 0, cells := 0, slots := 0, locals := 0 }) ⟨hx, hb, hml, hown, hts⟩ (cL_X6_copyNode100 l D k z _ mo cd9 hW0) (cwV 2 hts gX6_copyTree_X6_copyNode rfl rfl rfl (by decide +kernel) ⟨Nat.le_of_ble_eq_true rfl, Nat.le_of_ble_eq_true rfl⟩) (m_recv hK hm (q := (RX6, TX6, 24)) rfl ((mu_ne ne_mo_cn).trans hM)) hz hcx hm hS rfl hl.1 rfl (Nat.le_of_ble_eq_true rfl) dX6_copyTree_37 ⟨Nat.le_of_ble_eq_true rfl, Nat.le_of_ble_eq_true rfl⟩ (fun v M1 H locs hv hm hS => ?_)
    obtain ⟨hv1, hWk, hL9⟩ := hv
    subst hv1
    have hkp := hkp.trans hL9
    obtain ⟨Mc1, hMx⟩ : ∃ x : mM, x = M1 := ⟨M1, rfl⟩
    subst hMx
    obtain ⟨cn, ia, dr, en, la, wo, op, mk, ir, se, ec, lc, wc, ol, al, fcn, fia, fdr, fen, fla, fwo, fop, fmk, fir, hap, hc0, hM, hcn, hia, hdr, hen, hla, hwo, hop, hmk, hir⟩ := id hWk
    have ne_mo_cn : mo ≠ cn := pw_ne hap 0 1 (by decide) (Nat.le_of_ble_eq_true rfl)
    have ne_cn_mo : cn ≠ mo := Ne.symm ne_mo_cn
    have ne_mo_ia : mo ≠ ia := pw_ne hap 0 2 (by decide) (Nat.le_of_ble_eq_true rfl)
    have ne_ia_mo : ia ≠ mo := Ne.symm ne_mo_ia
    have ne_mo_dr : mo ≠ dr := pw_ne hap 0 3 (by decide) (Nat.le_of_ble_eq_true rfl)
    have ne_dr_mo : dr ≠ mo := Ne.symm ne_mo_dr
    have ne_mo_en : mo ≠ en := pw_ne hap 0 4 (by decide) (Nat.le_of_ble_eq_true rfl)
    have ne_en_mo : en ≠ mo := Ne.symm ne_mo_en
    have ne_mo_la : mo ≠ la := pw_ne hap 0 5 (by decide) (Nat.le_of_ble_eq_true rfl)
    have ne_la_mo : la ≠ mo := Ne.symm ne_mo_la
    have ne_mo_wo : mo ≠ wo := pw_ne hap 0 6 (by decide) (Nat.le_of_ble_eq_true rfl)
    have ne_wo_mo : wo ≠ mo := Ne.symm ne_mo_wo
    have ne_mo_op : mo ≠ op := pw_ne hap 0 7 (by decide) (Nat.le_of_ble_eq_true rfl)
    have ne_op_mo : op ≠ mo := Ne.symm ne_mo_op
    have ne_mo_mk : mo ≠ mk := pw_ne hap 0 8 (by decide) (Nat.le_of_ble_eq_true rfl)
    have ne_mk_mo : mk ≠ mo := Ne.symm ne_mo_mk
    have ne_mo_ir : mo ≠ ir := pw_ne hap 0 9 (by decide) (Nat.le_of_ble_eq_true rfl)
    have ne_ir_mo : ir ≠ mo := Ne.symm ne_mo_ir
    have ne_cn_ia : cn ≠ ia := pw_ne hap 1 2 (by decide) (Nat.le_of_ble_eq_true rfl)
    have ne_ia_cn : ia ≠ cn := Ne.symm ne_cn_ia
    have ne_cn_dr : cn ≠ dr := pw_ne hap 1 3 (by decide) (Nat.le_of_ble_eq_true rfl)
    have ne_dr_cn : dr ≠ cn := Ne.symm ne_cn_dr
    have ne_cn_en : cn ≠ en := pw_ne hap 1 4 (by decide) (Nat.le_of_ble_eq_true rfl)
    have ne_en_cn : en ≠ cn := Ne.symm ne_cn_en
    have ne_cn_la : cn ≠ la := pw_ne hap 1 5 (by decide) (Nat.le_of_ble_eq_true rfl)
    have ne_la_cn : la ≠ cn := Ne.symm ne_cn_la
    have ne_cn_wo : cn ≠ wo := pw_ne hap 1 6 (by decide) (Nat.le_of_ble_eq_true rfl)
    have ne_wo_cn : wo ≠ cn := Ne.symm ne_cn_wo
    have ne_cn_op : cn ≠ op := pw_ne hap 1 7 (by decide) (Nat.le_of_ble_eq_true rfl)
    have ne_op_cn : op ≠ cn := Ne.symm ne_cn_op
    have ne_cn_mk : cn ≠ mk := pw_ne hap 1 8 (by decide) (Nat.le_of_ble_eq_true rfl)
    have ne_mk_cn : mk ≠ cn := Ne.symm ne_cn_mk
    have ne_cn_ir : cn ≠ ir := pw_ne hap 1 9 (by decide) (Nat.le_of_ble_eq_true rfl)
    have ne_ir_cn : ir ≠ cn := Ne.symm ne_cn_ir
    have ne_ia_dr : ia ≠ dr := pw_ne hap 2 3 (by decide) (Nat.le_of_ble_eq_true rfl)
    have ne_dr_ia : dr ≠ ia := Ne.symm ne_ia_dr
    have ne_ia_en : ia ≠ en := pw_ne hap 2 4 (by decide) (Nat.le_of_ble_eq_true rfl)
    have ne_en_ia : en ≠ ia := Ne.symm ne_ia_en
    have ne_ia_la : ia ≠ la := pw_ne hap 2 5 (by decide) (Nat.le_of_ble_eq_true rfl)
    have ne_la_ia : la ≠ ia := Ne.symm ne_ia_la
    have ne_ia_wo : ia ≠ wo := pw_ne hap 2 6 (by decide) (Nat.le_of_ble_eq_true rfl)
    have ne_wo_ia : wo ≠ ia := Ne.symm ne_ia_wo
    have ne_ia_op : ia ≠ op := pw_ne hap 2 7 (by decide) (Nat.le_of_ble_eq_true rfl)
    have ne_op_ia : op ≠ ia := Ne.symm ne_ia_op
    have ne_ia_mk : ia ≠ mk := pw_ne hap 2 8 (by decide) (Nat.le_of_ble_eq_true rfl)
    have ne_mk_ia : mk ≠ ia := Ne.symm ne_ia_mk
    have ne_ia_ir : ia ≠ ir := pw_ne hap 2 9 (by decide) (Nat.le_of_ble_eq_true rfl)
    have ne_ir_ia : ir ≠ ia := Ne.symm ne_ia_ir
    have ne_dr_en : dr ≠ en := pw_ne hap 3 4 (by decide) (Nat.le_of_ble_eq_true rfl)
    have ne_en_dr : en ≠ dr := Ne.symm ne_dr_en
    have ne_dr_la : dr ≠ la := pw_ne hap 3 5 (by decide) (Nat.le_of_ble_eq_true rfl)
    have ne_la_dr : la ≠ dr := Ne.symm ne_dr_la
    have ne_dr_wo : dr ≠ wo := pw_ne hap 3 6 (by decide) (Nat.le_of_ble_eq_true rfl)
    have ne_wo_dr : wo ≠ dr := Ne.symm ne_dr_wo
    have ne_dr_op : dr ≠ op := pw_ne hap 3 7 (by decide) (Nat.le_of_ble_eq_true rfl)
    have ne_op_dr : op ≠ dr := Ne.symm ne_dr_op
    have ne_dr_mk : dr ≠ mk := pw_ne hap 3 8 (by decide) (Nat.le_of_ble_eq_true rfl)
    have ne_mk_dr : mk ≠ dr := Ne.symm ne_dr_mk
    have ne_dr_ir : dr ≠ ir := pw_ne hap 3 9 (by decide) (Nat.le_of_ble_eq_true rfl)
    have ne_ir_dr : ir ≠ dr := Ne.symm ne_dr_ir
    have ne_en_la : en ≠ la := pw_ne hap 4 5 (by decide) (Nat.le_of_ble_eq_true rfl)
    have ne_la_en : la ≠ en := Ne.symm ne_en_la
    have ne_en_wo : en ≠ wo := pw_ne hap 4 6 (by decide) (Nat.le_of_ble_eq_true rfl)
    have ne_wo_en : wo ≠ en := Ne.symm ne_en_wo
    have ne_en_op : en ≠ op := pw_ne hap 4 7 (by decide) (Nat.le_of_ble_eq_true rfl)
    have ne_op_en : op ≠ en := Ne.symm ne_en_op
    have ne_en_mk : en ≠ mk := pw_ne hap 4 8 (by decide) (Nat.le_of_ble_eq_true rfl)
    have ne_mk_en : mk ≠ en := Ne.symm ne_en_mk
    have ne_en_ir : en ≠ ir := pw_ne hap 4 9 (by decide) (Nat.le_of_ble_eq_true rfl)
    have ne_ir_en : ir ≠ en := Ne.symm ne_en_ir
    have ne_la_wo : la ≠ wo := pw_ne hap 5 6 (by decide) (Nat.le_of_ble_eq_true rfl)
    have ne_wo_la : wo ≠ la := Ne.symm ne_la_wo
    have ne_la_op : la ≠ op := pw_ne hap 5 7 (by decide) (Nat.le_of_ble_eq_true rfl)
    have ne_op_la : op ≠ la := Ne.symm ne_la_op
    have ne_la_mk : la ≠ mk := pw_ne hap 5 8 (by decide) (Nat.le_of_ble_eq_true rfl)
    have ne_mk_la : mk ≠ la := Ne.symm ne_la_mk
    have ne_la_ir : la ≠ ir := pw_ne hap 5 9 (by decide) (Nat.le_of_ble_eq_true rfl)
    have ne_ir_la : ir ≠ la := Ne.symm ne_la_ir
    have ne_wo_op : wo ≠ op := pw_ne hap 6 7 (by decide) (Nat.le_of_ble_eq_true rfl)
    have ne_op_wo : op ≠ wo := Ne.symm ne_wo_op
    have ne_wo_mk : wo ≠ mk := pw_ne hap 6 8 (by decide) (Nat.le_of_ble_eq_true rfl)
    have ne_mk_wo : mk ≠ wo := Ne.symm ne_wo_mk
    have ne_wo_ir : wo ≠ ir := pw_ne hap 6 9 (by decide) (Nat.le_of_ble_eq_true rfl)
    have ne_ir_wo : ir ≠ wo := Ne.symm ne_wo_ir
    have ne_op_mk : op ≠ mk := pw_ne hap 7 8 (by decide) (Nat.le_of_ble_eq_true rfl)
    have ne_mk_op : mk ≠ op := Ne.symm ne_op_mk
    have ne_op_ir : op ≠ ir := pw_ne hap 7 9 (by decide) (Nat.le_of_ble_eq_true rfl)
    have ne_ir_op : ir ≠ op := Ne.symm ne_op_ir
    have ne_mk_ir : mk ≠ ir := pw_ne hap 8 9 (by decide) (Nat.le_of_ble_eq_true rfl)
    have ne_ir_mk : ir ≠ mk := Ne.symm ne_mk_ir
    refine W.eq (g2 := F0 m 40 ls []) rfl ?_
    refine W.widen (k := 0) (n := 0) (Nat.le_of_ble_eq_true rfl) (Nat.le_of_ble_eq_true rfl) ?_
    have hm : mm D (AZ z) Mc1 H := hm
    refine lv_iinc (v := 1) (lv' := [(3, .int 1), (0, .ref mo), (1, .int 1), (2, .int 0)]) hx hb dX6_copyTree_40 hl (k := 0) rfl rfl (by decide) rfl (fun ls hl => ?_)
    refine lv_goto (tgt := 14) hx hb dX6_copyTree_43 (by decide) ?_
    refine lv_iload_n hx hb dX6_copyTree_14 rfl (lv_at hl 0 rfl) ?_
    refine lv_aload_n hx hb dX6_copyTree_15 rfl (lv_at hl 1 rfl) ?_
    refine m_get (T := TX6) (N := 24) (ci := 6) (v := .ref cn) hx hb hts wX6 hown hK hm hM rfl 1 (by decide) f7 (fun _ h9 => h9) rfl dX6_copyTree_16 ?_
    refine lv_iload_n hx hb dX6_copyTree_19 rfl (lv_at hl 3 rfl) ?_
    refine m_iald hx hb hK hm 0 hcn rfl (by unfold vp_in; decide) dX6_copyTree_20 ?_
    have hc1 : (fcn (0 : Int32).toNatClampNeg) = 1 := hc0
    refine W.eq (g2 := F0 m 21 ls [.int 1, .int 1]) (by rw [hc1]) ?_
    refine lv_icmp_ge (tgt := 46) hx hb dX6_copyTree_21 (by decide) (fun c2 => ?_) (fun c2 => ?_)
    · refine W.vret hx hb hr (fun t ht hW => ⟨⟨none, _, rfl, ?_, by rw [ht]; exact hm⟩, hS.F ht⟩) hS.2.2 dX6_copyTree_46
      exact ⟨rfl, hWk, hkp⟩
    · first | exact absurd c2 (by decide) | exact absurd (by decide) c2

set_option maxHeartbeats 4000000 in
set_option maxRecDepth 100000 in
theorem cL_X6_copyNode200 (l : Launch) (D : va_G) (k : Nat → ClassId) (z : Nat) (M : mM) (mo : Nat) (cd9 : Int32) (hF : mWk k M mo cd9) : mK l yX6_copyNode wsX6_copyNode ({ frames := 0, cells := 0, slots := 0, locals := 0 }) D k z [.ref mo, .int 200, .int 0] M (fun v M' => v = none ∧ mWk k M' mo cd9 ∧ kL k M M') := by
  refine Met.ofW (cc := cX6_copyNode) (maxL := 4) (ret := none) (by decide) rfl ?_
  intro p e s m args below meth c s₁ B hml hv
  obtain ⟨rfl, hz, hcx, hm⟩ := hv
  have hx := B.exec
  have hb := B.bytes
  have hr := B.returns
  have hts := atoms_spec (ws := wsX6_copyNode) B.pre
  have hown : s.vm.findClass RX6 = some m.cls := findClass_of_methodNamed B.named
  have hlocks := B.notSynchronized
  have hK := hcx.1
  have hS : va_S (AZ z) s.heap s.heap [] := va_S.rf
  have hA : ∀ q, s.heap.size ≤ q → AZ z q := fun q h => Nat.le_trans hz h
  have hl := lv_entry ([.ref mo, .int 200, .int 0]) (n := 4) (Nat.le_of_ble_eq_true rfl)
  rw [lg_entry_eq]
  generalize (lg_sl ([.ref mo, .int 200, .int 0]) ++ List.replicate (4 - (lg_sl ([.ref mo, .int 200, .int 0])).length) Slot.unset).toArray = ls at hl ⊢
  have hl : lv_has ls 4 [(0, .ref mo), (1, .int 200), (2, .int 0)] := hl
  have f13 := hts (.fieldLink RX6 13 "CommitTreeModel" "ids" "[I") (by decide +kernel)
  have f16 := hts (.fieldLink RX6 16 "CommitTreeModel" "dirs" "[Z") (by decide +kernel)
  have f21 := hts (.fieldLink RX6 21 "CommitTreeModel" "entries" "[I") (by decide +kernel)
  have f24 := hts (.fieldLink RX6 24 "CommitTreeModel" "lengths" "[I") (by decide +kernel)
  have f28 := hts (.fieldLink RX6 28 "CommitTreeModel" "words" "[I") (by decide +kernel)
  have wX6 : ∀ w ∈ wsX60, w ∈ wsX6_copyNode := by decide +kernel
  obtain ⟨cn, ia, dr, en, la, wo, op, mk, ir, se, ec, lc, wc, ol, al, fcn, fia, fdr, fen, fla, fwo, fop, fmk, fir, hap, hc0, hM, hcn, hia, hdr, hen, hla, hwo, hop, hmk, hir⟩ := id hF
  have ne_mo_cn : mo ≠ cn := pw_ne hap 0 1 (by decide) (Nat.le_of_ble_eq_true rfl)
  have ne_cn_mo : cn ≠ mo := Ne.symm ne_mo_cn
  have ne_mo_ia : mo ≠ ia := pw_ne hap 0 2 (by decide) (Nat.le_of_ble_eq_true rfl)
  have ne_ia_mo : ia ≠ mo := Ne.symm ne_mo_ia
  have ne_mo_dr : mo ≠ dr := pw_ne hap 0 3 (by decide) (Nat.le_of_ble_eq_true rfl)
  have ne_dr_mo : dr ≠ mo := Ne.symm ne_mo_dr
  have ne_mo_en : mo ≠ en := pw_ne hap 0 4 (by decide) (Nat.le_of_ble_eq_true rfl)
  have ne_en_mo : en ≠ mo := Ne.symm ne_mo_en
  have ne_mo_la : mo ≠ la := pw_ne hap 0 5 (by decide) (Nat.le_of_ble_eq_true rfl)
  have ne_la_mo : la ≠ mo := Ne.symm ne_mo_la
  have ne_mo_wo : mo ≠ wo := pw_ne hap 0 6 (by decide) (Nat.le_of_ble_eq_true rfl)
  have ne_wo_mo : wo ≠ mo := Ne.symm ne_mo_wo
  have ne_mo_op : mo ≠ op := pw_ne hap 0 7 (by decide) (Nat.le_of_ble_eq_true rfl)
  have ne_op_mo : op ≠ mo := Ne.symm ne_mo_op
  have ne_mo_mk : mo ≠ mk := pw_ne hap 0 8 (by decide) (Nat.le_of_ble_eq_true rfl)
  have ne_mk_mo : mk ≠ mo := Ne.symm ne_mo_mk
  have ne_mo_ir : mo ≠ ir := pw_ne hap 0 9 (by decide) (Nat.le_of_ble_eq_true rfl)
  have ne_ir_mo : ir ≠ mo := Ne.symm ne_mo_ir
  have ne_cn_ia : cn ≠ ia := pw_ne hap 1 2 (by decide) (Nat.le_of_ble_eq_true rfl)
  have ne_ia_cn : ia ≠ cn := Ne.symm ne_cn_ia
  have ne_cn_dr : cn ≠ dr := pw_ne hap 1 3 (by decide) (Nat.le_of_ble_eq_true rfl)
  have ne_dr_cn : dr ≠ cn := Ne.symm ne_cn_dr
  have ne_cn_en : cn ≠ en := pw_ne hap 1 4 (by decide) (Nat.le_of_ble_eq_true rfl)
  have ne_en_cn : en ≠ cn := Ne.symm ne_cn_en
  have ne_cn_la : cn ≠ la := pw_ne hap 1 5 (by decide) (Nat.le_of_ble_eq_true rfl)
  have ne_la_cn : la ≠ cn := Ne.symm ne_cn_la
  have ne_cn_wo : cn ≠ wo := pw_ne hap 1 6 (by decide) (Nat.le_of_ble_eq_true rfl)
  have ne_wo_cn : wo ≠ cn := Ne.symm ne_cn_wo
  have ne_cn_op : cn ≠ op := pw_ne hap 1 7 (by decide) (Nat.le_of_ble_eq_true rfl)
  have ne_op_cn : op ≠ cn := Ne.symm ne_cn_op
  have ne_cn_mk : cn ≠ mk := pw_ne hap 1 8 (by decide) (Nat.le_of_ble_eq_true rfl)
  have ne_mk_cn : mk ≠ cn := Ne.symm ne_cn_mk
  have ne_cn_ir : cn ≠ ir := pw_ne hap 1 9 (by decide) (Nat.le_of_ble_eq_true rfl)
  have ne_ir_cn : ir ≠ cn := Ne.symm ne_cn_ir
  have ne_ia_dr : ia ≠ dr := pw_ne hap 2 3 (by decide) (Nat.le_of_ble_eq_true rfl)
  have ne_dr_ia : dr ≠ ia := Ne.symm ne_ia_dr
  have ne_ia_en : ia ≠ en := pw_ne hap 2 4 (by decide) (Nat.le_of_ble_eq_true rfl)
  have ne_en_ia : en ≠ ia := Ne.symm ne_ia_en
  have ne_ia_la : ia ≠ la := pw_ne hap 2 5 (by decide) (Nat.le_of_ble_eq_true rfl)
  have ne_la_ia : la ≠ ia := Ne.symm ne_ia_la
  have ne_ia_wo : ia ≠ wo := pw_ne hap 2 6 (by decide) (Nat.le_of_ble_eq_true rfl)
  have ne_wo_ia : wo ≠ ia := Ne.symm ne_ia_wo
  have ne_ia_op : ia ≠ op := pw_ne hap 2 7 (by decide) (Nat.le_of_ble_eq_true rfl)
  have ne_op_ia : op ≠ ia := Ne.symm ne_ia_op
  have ne_ia_mk : ia ≠ mk := pw_ne hap 2 8 (by decide) (Nat.le_of_ble_eq_true rfl)
  have ne_mk_ia : mk ≠ ia := Ne.symm ne_ia_mk
  have ne_ia_ir : ia ≠ ir := pw_ne hap 2 9 (by decide) (Nat.le_of_ble_eq_true rfl)
  have ne_ir_ia : ir ≠ ia := Ne.symm ne_ia_ir
  have ne_dr_en : dr ≠ en := pw_ne hap 3 4 (by decide) (Nat.le_of_ble_eq_true rfl)
  have ne_en_dr : en ≠ dr := Ne.symm ne_dr_en
  have ne_dr_la : dr ≠ la := pw_ne hap 3 5 (by decide) (Nat.le_of_ble_eq_true rfl)
  have ne_la_dr : la ≠ dr := Ne.symm ne_dr_la
  have ne_dr_wo : dr ≠ wo := pw_ne hap 3 6 (by decide) (Nat.le_of_ble_eq_true rfl)
  have ne_wo_dr : wo ≠ dr := Ne.symm ne_dr_wo
  have ne_dr_op : dr ≠ op := pw_ne hap 3 7 (by decide) (Nat.le_of_ble_eq_true rfl)
  have ne_op_dr : op ≠ dr := Ne.symm ne_dr_op
  have ne_dr_mk : dr ≠ mk := pw_ne hap 3 8 (by decide) (Nat.le_of_ble_eq_true rfl)
  have ne_mk_dr : mk ≠ dr := Ne.symm ne_dr_mk
  have ne_dr_ir : dr ≠ ir := pw_ne hap 3 9 (by decide) (Nat.le_of_ble_eq_true rfl)
  have ne_ir_dr : ir ≠ dr := Ne.symm ne_dr_ir
  have ne_en_la : en ≠ la := pw_ne hap 4 5 (by decide) (Nat.le_of_ble_eq_true rfl)
  have ne_la_en : la ≠ en := Ne.symm ne_en_la
  have ne_en_wo : en ≠ wo := pw_ne hap 4 6 (by decide) (Nat.le_of_ble_eq_true rfl)
  have ne_wo_en : wo ≠ en := Ne.symm ne_en_wo
  have ne_en_op : en ≠ op := pw_ne hap 4 7 (by decide) (Nat.le_of_ble_eq_true rfl)
  have ne_op_en : op ≠ en := Ne.symm ne_en_op
  have ne_en_mk : en ≠ mk := pw_ne hap 4 8 (by decide) (Nat.le_of_ble_eq_true rfl)
  have ne_mk_en : mk ≠ en := Ne.symm ne_en_mk
  have ne_en_ir : en ≠ ir := pw_ne hap 4 9 (by decide) (Nat.le_of_ble_eq_true rfl)
  have ne_ir_en : ir ≠ en := Ne.symm ne_en_ir
  have ne_la_wo : la ≠ wo := pw_ne hap 5 6 (by decide) (Nat.le_of_ble_eq_true rfl)
  have ne_wo_la : wo ≠ la := Ne.symm ne_la_wo
  have ne_la_op : la ≠ op := pw_ne hap 5 7 (by decide) (Nat.le_of_ble_eq_true rfl)
  have ne_op_la : op ≠ la := Ne.symm ne_la_op
  have ne_la_mk : la ≠ mk := pw_ne hap 5 8 (by decide) (Nat.le_of_ble_eq_true rfl)
  have ne_mk_la : mk ≠ la := Ne.symm ne_la_mk
  have ne_la_ir : la ≠ ir := pw_ne hap 5 9 (by decide) (Nat.le_of_ble_eq_true rfl)
  have ne_ir_la : ir ≠ la := Ne.symm ne_la_ir
  have ne_wo_op : wo ≠ op := pw_ne hap 6 7 (by decide) (Nat.le_of_ble_eq_true rfl)
  have ne_op_wo : op ≠ wo := Ne.symm ne_wo_op
  have ne_wo_mk : wo ≠ mk := pw_ne hap 6 8 (by decide) (Nat.le_of_ble_eq_true rfl)
  have ne_mk_wo : mk ≠ wo := Ne.symm ne_wo_mk
  have ne_wo_ir : wo ≠ ir := pw_ne hap 6 9 (by decide) (Nat.le_of_ble_eq_true rfl)
  have ne_ir_wo : ir ≠ wo := Ne.symm ne_wo_ir
  have ne_op_mk : op ≠ mk := pw_ne hap 7 8 (by decide) (Nat.le_of_ble_eq_true rfl)
  have ne_mk_op : mk ≠ op := Ne.symm ne_op_mk
  have ne_op_ir : op ≠ ir := pw_ne hap 7 9 (by decide) (Nat.le_of_ble_eq_true rfl)
  have ne_ir_op : ir ≠ op := Ne.symm ne_op_ir
  have ne_mk_ir : mk ≠ ir := pw_ne hap 8 9 (by decide) (Nat.le_of_ble_eq_true rfl)
  have ne_ir_mk : ir ≠ mk := Ne.symm ne_mk_ir
  have hkp : kL k M M := kL.refl _
  refine lv_aload_n hx hb dX6_copyNode_0 rfl (lv_at hl 0 rfl) ?_
  refine m_get (T := TX6) (N := 24) (ci := 6) (v := .ref ia) hx hb hts wX6 hown hK hm hM rfl 2 (by decide) f13 (fun _ h9 => h9) rfl dX6_copyNode_1 ?_
  refine lv_iload_n hx hb dX6_copyNode_4 rfl (lv_at hl 1 rfl) ?_
  refine lv_aload_n hx hb dX6_copyNode_5 rfl (lv_at hl 0 rfl) ?_
  refine m_get (T := TX6) (N := 24) (ci := 6) (v := .ref ia) hx hb hts wX6 hown hK hm hM rfl 2 (by decide) f13 (fun _ h9 => h9) rfl dX6_copyNode_6 ?_
  refine lv_iload_n hx hb dX6_copyNode_9 rfl (lv_at hl 2 rfl) ?_
  refine m_iald hx hb hK hm 0 hia rfl (by unfold vp_in; decide) dX6_copyNode_10 ?_
  refine m_iast hx hb hK hm hS 0 hia rfl (by unfold vp_in; decide) dX6_copyNode_11 (fun H locs hm hS => ?_)
  have hm : mm D (AZ z) (mu M ia (.inl (k 0, 3200, .inl (upd fia (200 : Int32).toNatClampNeg (fia (0 : Int32).toNatClampNeg))))) H := hm
  have hkp : kL k M (mu M ia (.inl (k 0, 3200, .inl (upd fia (200 : Int32).toNatClampNeg (fia (0 : Int32).toNatClampNeg))))) := (hkp).upd hia nlI
  refine lv_aload_n hx hb dX6_copyNode_12 rfl (lv_at hl 0 rfl) ?_
  refine m_get (T := TX6) (N := 24) (ci := 6) (v := .ref dr) hx hb hts wX6 hown hK hm ((mu_ne ne_mo_ia).trans hM) rfl 3 (by decide) f16 (fun _ h9 => h9) rfl dX6_copyNode_13 ?_
  refine lv_iload_n hx hb dX6_copyNode_16 rfl (lv_at hl 1 rfl) ?_
  refine lv_aload_n hx hb dX6_copyNode_17 rfl (lv_at hl 0 rfl) ?_
  refine m_get (T := TX6) (N := 24) (ci := 6) (v := .ref dr) hx hb hts wX6 hown hK hm ((mu_ne ne_mo_ia).trans hM) rfl 3 (by decide) f16 (fun _ h9 => h9) rfl dX6_copyNode_18 ?_
  refine lv_iload_n hx hb dX6_copyNode_21 rfl (lv_at hl 2 rfl) ?_
  refine m_zald hx hb hK hm 2 ((mu_ne ne_dr_ia).trans hdr) rfl (by unfold vp_in; decide) dX6_copyNode_22 ?_
  refine m_zast hx hb hK hm hS 2 ((mu_ne ne_dr_ia).trans hdr) rfl (by unfold vp_in; decide) dX6_copyNode_23 (fun H locs hm hS => ?_)
  have hm : mm D (AZ z) (mu (mu M ia (.inl (k 0, 3200, .inl (upd fia (200 : Int32).toNatClampNeg (fia (0 : Int32).toNatClampNeg))))) dr (.inl (k 2, 3200, .inl (upd fdr (200 : Int32).toNatClampNeg (vp_nar .boolean (fdr (0 : Int32).toNatClampNeg)))))) H := hm
  have hkp : kL k M (mu (mu M ia (.inl (k 0, 3200, .inl (upd fia (200 : Int32).toNatClampNeg (fia (0 : Int32).toNatClampNeg))))) dr (.inl (k 2, 3200, .inl (upd fdr (200 : Int32).toNatClampNeg (vp_nar .boolean (fdr (0 : Int32).toNatClampNeg)))))) := (hkp).upd ((mu_ne ne_dr_ia).trans hdr) nlI
  refine lv_aload_n hx hb dX6_copyNode_24 rfl (lv_at hl 0 rfl) ?_
  refine m_get (T := TX6) (N := 24) (ci := 6) (v := .ref la) hx hb hts wX6 hown hK hm ((mu_ne ne_mo_dr).trans ((mu_ne ne_mo_ia).trans hM)) rfl 5 (by decide) f24 (fun _ h9 => h9) rfl dX6_copyNode_25 ?_
  refine lv_iload_n hx hb dX6_copyNode_28 rfl (lv_at hl 1 rfl) ?_
  refine lv_aload_n hx hb dX6_copyNode_29 rfl (lv_at hl 0 rfl) ?_
  refine m_get (T := TX6) (N := 24) (ci := 6) (v := .ref la) hx hb hts wX6 hown hK hm ((mu_ne ne_mo_dr).trans ((mu_ne ne_mo_ia).trans hM)) rfl 5 (by decide) f24 (fun _ h9 => h9) rfl dX6_copyNode_30 ?_
  refine lv_iload_n hx hb dX6_copyNode_33 rfl (lv_at hl 2 rfl) ?_
  refine m_iald hx hb hK hm 0 ((mu_ne ne_la_dr).trans ((mu_ne ne_la_ia).trans hla)) rfl (by unfold vp_in; decide) dX6_copyNode_34 ?_
  refine m_iast hx hb hK hm hS 0 ((mu_ne ne_la_dr).trans ((mu_ne ne_la_ia).trans hla)) rfl (by unfold vp_in; decide) dX6_copyNode_35 (fun H locs hm hS => ?_)
  have hm : mm D (AZ z) (mu (mu (mu M ia (.inl (k 0, 3200, .inl (upd fia (200 : Int32).toNatClampNeg (fia (0 : Int32).toNatClampNeg))))) dr (.inl (k 2, 3200, .inl (upd fdr (200 : Int32).toNatClampNeg (vp_nar .boolean (fdr (0 : Int32).toNatClampNeg)))))) la (.inl (k 0, 3200, .inl (upd fla (200 : Int32).toNatClampNeg (fla (0 : Int32).toNatClampNeg))))) H := hm
  have hkp : kL k M (mu (mu (mu M ia (.inl (k 0, 3200, .inl (upd fia (200 : Int32).toNatClampNeg (fia (0 : Int32).toNatClampNeg))))) dr (.inl (k 2, 3200, .inl (upd fdr (200 : Int32).toNatClampNeg (vp_nar .boolean (fdr (0 : Int32).toNatClampNeg)))))) la (.inl (k 0, 3200, .inl (upd fla (200 : Int32).toNatClampNeg (fla (0 : Int32).toNatClampNeg))))) := (hkp).upd ((mu_ne ne_la_dr).trans ((mu_ne ne_la_ia).trans hla)) nlI
  refine lv_iconst (v := 0) hx hb dX6_copyNode_36 (by decide) ?_
  refine lv_istore_n (lv' := [(3, .int 0), (0, .ref mo), (1, .int 200), (2, .int 0)]) hx hb dX6_copyNode_37 rfl hl (by decide) rfl (fun ls hl => ?_)
  have hW0 : mWk k (mu (mu (mu M ia (.inl (k 0, 3200, .inl (upd fia (200 : Int32).toNatClampNeg (fia (0 : Int32).toNatClampNeg))))) dr (.inl (k 2, 3200, .inl (upd fdr (200 : Int32).toNatClampNeg (vp_nar .boolean (fdr (0 : Int32).toNatClampNeg)))))) la (.inl (k 0, 3200, .inl (upd fla (200 : Int32).toNatClampNeg (fla (0 : Int32).toNatClampNeg))))) mo cd9 := ⟨cn, ia, dr, en, la, wo, op, mk, ir, se, ec, lc, wc, ol, al, fcn, (upd fia (200 : Int32).toNatClampNeg (fia (0 : Int32).toNatClampNeg)), (upd fdr (200 : Int32).toNatClampNeg (vp_nar .boolean (fdr (0 : Int32).toNatClampNeg))), fen, (upd fla (200 : Int32).toNatClampNeg (fla (0 : Int32).toNatClampNeg)), fwo, fop, fmk, fir, hap, hc0, ((mu_ne ne_mo_la).trans ((mu_ne ne_mo_dr).trans ((mu_ne ne_mo_ia).trans hM))), ((mu_ne ne_cn_la).trans ((mu_ne ne_cn_dr).trans ((mu_ne ne_cn_ia).trans hcn))), ((mu_ne ne_ia_la).trans ((mu_ne ne_ia_dr).trans (mu_self _ _ _))), ((mu_ne ne_dr_la).trans (mu_self _ _ _)), ((mu_ne ne_en_la).trans ((mu_ne ne_en_dr).trans ((mu_ne ne_en_ia).trans hen))), (mu_self _ _ _), ((mu_ne ne_wo_la).trans ((mu_ne ne_wo_dr).trans ((mu_ne ne_wo_ia).trans hwo))), ((mu_ne ne_op_la).trans ((mu_ne ne_op_dr).trans ((mu_ne ne_op_ia).trans hop))), ((mu_ne ne_mk_la).trans ((mu_ne ne_mk_dr).trans ((mu_ne ne_mk_ia).trans hmk))), ((mu_ne ne_ir_la).trans ((mu_ne ne_ir_dr).trans ((mu_ne ne_ir_ia).trans hir)))⟩
  refine W_loop (σ := Nat × mM) (fun ⟨j, Mj⟩ H locs ls => (j ≤ 16) ∧ mWk k Mj mo cd9 ∧ kL k M Mj ∧ mm D (AZ z) Mj H ∧ va_S (AZ z) s.heap H locs ∧ lv_has ls 4 [(3, .int (nI j)), (0, .ref mo), (1, .int 200), (2, .int 0)]) (fun ⟨j, Mj⟩ => 16 - j) (fun _ => 0) (fun _ => 0) ?_ (0, (mu (mu (mu M ia (.inl (k 0, 3200, .inl (upd fia (200 : Int32).toNatClampNeg (fia (0 : Int32).toNatClampNeg))))) dr (.inl (k 2, 3200, .inl (upd fdr (200 : Int32).toNatClampNeg (vp_nar .boolean (fdr (0 : Int32).toNatClampNeg)))))) la (.inl (k 0, 3200, .inl (upd fla (200 : Int32).toNatClampNeg (fla (0 : Int32).toNatClampNeg)))))) _ _ _ ⟨Nat.zero_le _, hW0, hkp, hm, hS, lv_sub hl [0, 1, 2, 3] rfl⟩
  intro ⟨j, Mj⟩ H locs ls hI ih38
  obtain ⟨hj, hWk, hkp, hm, hS, hl⟩ := hI
  try dsimp only at hm hl ih38 ⊢
  obtain ⟨cn, ia, dr, en, la, wo, op, mk, ir, se, ec, lc, wc, ol, al, fcn, fia, fdr, fen, fla, fwo, fop, fmk, fir, hap, hc0, hM, hcn, hia, hdr, hen, hla, hwo, hop, hmk, hir⟩ := id hWk
  have ne_mo_cn : mo ≠ cn := pw_ne hap 0 1 (by decide) (Nat.le_of_ble_eq_true rfl)
  have ne_cn_mo : cn ≠ mo := Ne.symm ne_mo_cn
  have ne_mo_ia : mo ≠ ia := pw_ne hap 0 2 (by decide) (Nat.le_of_ble_eq_true rfl)
  have ne_ia_mo : ia ≠ mo := Ne.symm ne_mo_ia
  have ne_mo_dr : mo ≠ dr := pw_ne hap 0 3 (by decide) (Nat.le_of_ble_eq_true rfl)
  have ne_dr_mo : dr ≠ mo := Ne.symm ne_mo_dr
  have ne_mo_en : mo ≠ en := pw_ne hap 0 4 (by decide) (Nat.le_of_ble_eq_true rfl)
  have ne_en_mo : en ≠ mo := Ne.symm ne_mo_en
  have ne_mo_la : mo ≠ la := pw_ne hap 0 5 (by decide) (Nat.le_of_ble_eq_true rfl)
  have ne_la_mo : la ≠ mo := Ne.symm ne_mo_la
  have ne_mo_wo : mo ≠ wo := pw_ne hap 0 6 (by decide) (Nat.le_of_ble_eq_true rfl)
  have ne_wo_mo : wo ≠ mo := Ne.symm ne_mo_wo
  have ne_mo_op : mo ≠ op := pw_ne hap 0 7 (by decide) (Nat.le_of_ble_eq_true rfl)
  have ne_op_mo : op ≠ mo := Ne.symm ne_mo_op
  have ne_mo_mk : mo ≠ mk := pw_ne hap 0 8 (by decide) (Nat.le_of_ble_eq_true rfl)
  have ne_mk_mo : mk ≠ mo := Ne.symm ne_mo_mk
  have ne_mo_ir : mo ≠ ir := pw_ne hap 0 9 (by decide) (Nat.le_of_ble_eq_true rfl)
  have ne_ir_mo : ir ≠ mo := Ne.symm ne_mo_ir
  have ne_cn_ia : cn ≠ ia := pw_ne hap 1 2 (by decide) (Nat.le_of_ble_eq_true rfl)
  have ne_ia_cn : ia ≠ cn := Ne.symm ne_cn_ia
  have ne_cn_dr : cn ≠ dr := pw_ne hap 1 3 (by decide) (Nat.le_of_ble_eq_true rfl)
  have ne_dr_cn : dr ≠ cn := Ne.symm ne_cn_dr
  have ne_cn_en : cn ≠ en := pw_ne hap 1 4 (by decide) (Nat.le_of_ble_eq_true rfl)
  have ne_en_cn : en ≠ cn := Ne.symm ne_cn_en
  have ne_cn_la : cn ≠ la := pw_ne hap 1 5 (by decide) (Nat.le_of_ble_eq_true rfl)
  have ne_la_cn : la ≠ cn := Ne.symm ne_cn_la
  have ne_cn_wo : cn ≠ wo := pw_ne hap 1 6 (by decide) (Nat.le_of_ble_eq_true rfl)
  have ne_wo_cn : wo ≠ cn := Ne.symm ne_cn_wo
  have ne_cn_op : cn ≠ op := pw_ne hap 1 7 (by decide) (Nat.le_of_ble_eq_true rfl)
  have ne_op_cn : op ≠ cn := Ne.symm ne_cn_op
  have ne_cn_mk : cn ≠ mk := pw_ne hap 1 8 (by decide) (Nat.le_of_ble_eq_true rfl)
  have ne_mk_cn : mk ≠ cn := Ne.symm ne_cn_mk
  have ne_cn_ir : cn ≠ ir := pw_ne hap 1 9 (by decide) (Nat.le_of_ble_eq_true rfl)
  have ne_ir_cn : ir ≠ cn := Ne.symm ne_cn_ir
  have ne_ia_dr : ia ≠ dr := pw_ne hap 2 3 (by decide) (Nat.le_of_ble_eq_true rfl)
  have ne_dr_ia : dr ≠ ia := Ne.symm ne_ia_dr
  have ne_ia_en : ia ≠ en := pw_ne hap 2 4 (by decide) (Nat.le_of_ble_eq_true rfl)
  have ne_en_ia : en ≠ ia := Ne.symm ne_ia_en
  have ne_ia_la : ia ≠ la := pw_ne hap 2 5 (by decide) (Nat.le_of_ble_eq_true rfl)
  have ne_la_ia : la ≠ ia := Ne.symm ne_ia_la
  have ne_ia_wo : ia ≠ wo := pw_ne hap 2 6 (by decide) (Nat.le_of_ble_eq_true rfl)
  have ne_wo_ia : wo ≠ ia := Ne.symm ne_ia_wo
  have ne_ia_op : ia ≠ op := pw_ne hap 2 7 (by decide) (Nat.le_of_ble_eq_true rfl)
  have ne_op_ia : op ≠ ia := Ne.symm ne_ia_op
  have ne_ia_mk : ia ≠ mk := pw_ne hap 2 8 (by decide) (Nat.le_of_ble_eq_true rfl)
  have ne_mk_ia : mk ≠ ia := Ne.symm ne_ia_mk
  have ne_ia_ir : ia ≠ ir := pw_ne hap 2 9 (by decide) (Nat.le_of_ble_eq_true rfl)
  have ne_ir_ia : ir ≠ ia := Ne.symm ne_ia_ir
  have ne_dr_en : dr ≠ en := pw_ne hap 3 4 (by decide) (Nat.le_of_ble_eq_true rfl)
  have ne_en_dr : en ≠ dr := Ne.symm ne_dr_en
  have ne_dr_la : dr ≠ la := pw_ne hap 3 5 (by decide) (Nat.le_of_ble_eq_true rfl)
  have ne_la_dr : la ≠ dr := Ne.symm ne_dr_la
  have ne_dr_wo : dr ≠ wo := pw_ne hap 3 6 (by decide) (Nat.le_of_ble_eq_true rfl)
  have ne_wo_dr : wo ≠ dr := Ne.symm ne_dr_wo
  have ne_dr_op : dr ≠ op := pw_ne hap 3 7 (by decide) (Nat.le_of_ble_eq_true rfl)
  have ne_op_dr : op ≠ dr := Ne.symm ne_dr_op
  have ne_dr_mk : dr ≠ mk := pw_ne hap 3 8 (by decide) (Nat.le_of_ble_eq_true rfl)
  have ne_mk_dr : mk ≠ dr := Ne.symm ne_dr_mk
  have ne_dr_ir : dr ≠ ir := pw_ne hap 3 9 (by decide) (Nat.le_of_ble_eq_true rfl)
  have ne_ir_dr : ir ≠ dr := Ne.symm ne_dr_ir
  have ne_en_la : en ≠ la := pw_ne hap 4 5 (by decide) (Nat.le_of_ble_eq_true rfl)
  have ne_la_en : la ≠ en := Ne.symm ne_en_la
  have ne_en_wo : en ≠ wo := pw_ne hap 4 6 (by decide) (Nat.le_of_ble_eq_true rfl)
  have ne_wo_en : wo ≠ en := Ne.symm ne_en_wo
  have ne_en_op : en ≠ op := pw_ne hap 4 7 (by decide) (Nat.le_of_ble_eq_true rfl)
  have ne_op_en : op ≠ en := Ne.symm ne_en_op
  have ne_en_mk : en ≠ mk := pw_ne hap 4 8 (by decide) (Nat.le_of_ble_eq_true rfl)
  have ne_mk_en : mk ≠ en := Ne.symm ne_en_mk
  have ne_en_ir : en ≠ ir := pw_ne hap 4 9 (by decide) (Nat.le_of_ble_eq_true rfl)
  have ne_ir_en : ir ≠ en := Ne.symm ne_en_ir
  have ne_la_wo : la ≠ wo := pw_ne hap 5 6 (by decide) (Nat.le_of_ble_eq_true rfl)
  have ne_wo_la : wo ≠ la := Ne.symm ne_la_wo
  have ne_la_op : la ≠ op := pw_ne hap 5 7 (by decide) (Nat.le_of_ble_eq_true rfl)
  have ne_op_la : op ≠ la := Ne.symm ne_la_op
  have ne_la_mk : la ≠ mk := pw_ne hap 5 8 (by decide) (Nat.le_of_ble_eq_true rfl)
  have ne_mk_la : mk ≠ la := Ne.symm ne_la_mk
  have ne_la_ir : la ≠ ir := pw_ne hap 5 9 (by decide) (Nat.le_of_ble_eq_true rfl)
  have ne_ir_la : ir ≠ la := Ne.symm ne_la_ir
  have ne_wo_op : wo ≠ op := pw_ne hap 6 7 (by decide) (Nat.le_of_ble_eq_true rfl)
  have ne_op_wo : op ≠ wo := Ne.symm ne_wo_op
  have ne_wo_mk : wo ≠ mk := pw_ne hap 6 8 (by decide) (Nat.le_of_ble_eq_true rfl)
  have ne_mk_wo : mk ≠ wo := Ne.symm ne_wo_mk
  have ne_wo_ir : wo ≠ ir := pw_ne hap 6 9 (by decide) (Nat.le_of_ble_eq_true rfl)
  have ne_ir_wo : ir ≠ wo := Ne.symm ne_wo_ir
  have ne_op_mk : op ≠ mk := pw_ne hap 7 8 (by decide) (Nat.le_of_ble_eq_true rfl)
  have ne_mk_op : mk ≠ op := Ne.symm ne_op_mk
  have ne_op_ir : op ≠ ir := pw_ne hap 7 9 (by decide) (Nat.le_of_ble_eq_true rfl)
  have ne_ir_op : ir ≠ op := Ne.symm ne_op_ir
  have ne_mk_ir : mk ≠ ir := pw_ne hap 8 9 (by decide) (Nat.le_of_ble_eq_true rfl)
  have ne_ir_mk : ir ≠ mk := Ne.symm ne_mk_ir
  refine lv_iload_n hx hb dX6_copyNode_38 rfl (lv_at hl 0 rfl) ?_
  refine lv_bipush (v := 16) hx hb dX6_copyNode_39 (by decide) ?_
  refine lv_icmp_ge (tgt := 72) hx hb dX6_copyNode_41 (by decide) (fun c1 => ?_) (fun c1 => ?_)
  · refine lv_iconst (v := 0) hx hb dX6_copyNode_72 (by decide) ?_
    refine lv_istore_n (lv' := [(3, .int 0), (0, .ref mo), (1, .int 200), (2, .int 0)]) hx hb dX6_copyNode_73 rfl hl (by decide) rfl (fun ls hl => ?_)
    have hW0 : mWk k Mj mo cd9 := ⟨cn, ia, dr, en, la, wo, op, mk, ir, se, ec, lc, wc, ol, al, fcn, fia, fdr, fen, fla, fwo, fop, fmk, fir, hap, hc0, hM, hcn, hia, hdr, hen, hla, hwo, hop, hmk, hir⟩
    refine W_loop (σ := Nat × mM) (fun ⟨j2, Mk⟩ H locs ls => (j2 ≤ 64) ∧ mWk k Mk mo cd9 ∧ kL k M Mk ∧ mm D (AZ z) Mk H ∧ va_S (AZ z) s.heap H locs ∧ lv_has ls 4 [(3, .int (nI j2)), (0, .ref mo), (1, .int 200), (2, .int 0)]) (fun ⟨j2, Mk⟩ => 64 - j2) (fun _ => 0) (fun _ => 0) ?_ (0, Mj) _ _ _ ⟨Nat.zero_le _, hW0, hkp, hm, hS, lv_sub hl [0, 1, 2, 3] rfl⟩
    intro ⟨j2, Mk⟩ H locs ls hI ih74
    obtain ⟨hj, hWk, hkp, hm, hS, hl⟩ := hI
    try dsimp only at hm hl ih74 ⊢
    obtain ⟨cn, ia, dr, en, la, wo, op, mk, ir, se, ec, lc, wc, ol, al, fcn, fia, fdr, fen, fla, fwo, fop, fmk, fir, hap, hc0, hM, hcn, hia, hdr, hen, hla, hwo, hop, hmk, hir⟩ := id hWk
    have ne_mo_cn : mo ≠ cn := pw_ne hap 0 1 (by decide) (Nat.le_of_ble_eq_true rfl)
    have ne_cn_mo : cn ≠ mo := Ne.symm ne_mo_cn
    have ne_mo_ia : mo ≠ ia := pw_ne hap 0 2 (by decide) (Nat.le_of_ble_eq_true rfl)
    have ne_ia_mo : ia ≠ mo := Ne.symm ne_mo_ia
    have ne_mo_dr : mo ≠ dr := pw_ne hap 0 3 (by decide) (Nat.le_of_ble_eq_true rfl)
    have ne_dr_mo : dr ≠ mo := Ne.symm ne_mo_dr
    have ne_mo_en : mo ≠ en := pw_ne hap 0 4 (by decide) (Nat.le_of_ble_eq_true rfl)
    have ne_en_mo : en ≠ mo := Ne.symm ne_mo_en
    have ne_mo_la : mo ≠ la := pw_ne hap 0 5 (by decide) (Nat.le_of_ble_eq_true rfl)
    have ne_la_mo : la ≠ mo := Ne.symm ne_mo_la
    have ne_mo_wo : mo ≠ wo := pw_ne hap 0 6 (by decide) (Nat.le_of_ble_eq_true rfl)
    have ne_wo_mo : wo ≠ mo := Ne.symm ne_mo_wo
    have ne_mo_op : mo ≠ op := pw_ne hap 0 7 (by decide) (Nat.le_of_ble_eq_true rfl)
    have ne_op_mo : op ≠ mo := Ne.symm ne_mo_op
    have ne_mo_mk : mo ≠ mk := pw_ne hap 0 8 (by decide) (Nat.le_of_ble_eq_true rfl)
    have ne_mk_mo : mk ≠ mo := Ne.symm ne_mo_mk
    have ne_mo_ir : mo ≠ ir := pw_ne hap 0 9 (by decide) (Nat.le_of_ble_eq_true rfl)
    have ne_ir_mo : ir ≠ mo := Ne.symm ne_mo_ir
    have ne_cn_ia : cn ≠ ia := pw_ne hap 1 2 (by decide) (Nat.le_of_ble_eq_true rfl)
    have ne_ia_cn : ia ≠ cn := Ne.symm ne_cn_ia
    have ne_cn_dr : cn ≠ dr := pw_ne hap 1 3 (by decide) (Nat.le_of_ble_eq_true rfl)
    have ne_dr_cn : dr ≠ cn := Ne.symm ne_cn_dr
    have ne_cn_en : cn ≠ en := pw_ne hap 1 4 (by decide) (Nat.le_of_ble_eq_true rfl)
    have ne_en_cn : en ≠ cn := Ne.symm ne_cn_en
    have ne_cn_la : cn ≠ la := pw_ne hap 1 5 (by decide) (Nat.le_of_ble_eq_true rfl)
    have ne_la_cn : la ≠ cn := Ne.symm ne_cn_la
    have ne_cn_wo : cn ≠ wo := pw_ne hap 1 6 (by decide) (Nat.le_of_ble_eq_true rfl)
    have ne_wo_cn : wo ≠ cn := Ne.symm ne_cn_wo
    have ne_cn_op : cn ≠ op := pw_ne hap 1 7 (by decide) (Nat.le_of_ble_eq_true rfl)
    have ne_op_cn : op ≠ cn := Ne.symm ne_cn_op
    have ne_cn_mk : cn ≠ mk := pw_ne hap 1 8 (by decide) (Nat.le_of_ble_eq_true rfl)
    have ne_mk_cn : mk ≠ cn := Ne.symm ne_cn_mk
    have ne_cn_ir : cn ≠ ir := pw_ne hap 1 9 (by decide) (Nat.le_of_ble_eq_true rfl)
    have ne_ir_cn : ir ≠ cn := Ne.symm ne_cn_ir
    have ne_ia_dr : ia ≠ dr := pw_ne hap 2 3 (by decide) (Nat.le_of_ble_eq_true rfl)
    have ne_dr_ia : dr ≠ ia := Ne.symm ne_ia_dr
    have ne_ia_en : ia ≠ en := pw_ne hap 2 4 (by decide) (Nat.le_of_ble_eq_true rfl)
    have ne_en_ia : en ≠ ia := Ne.symm ne_ia_en
    have ne_ia_la : ia ≠ la := pw_ne hap 2 5 (by decide) (Nat.le_of_ble_eq_true rfl)
    have ne_la_ia : la ≠ ia := Ne.symm ne_ia_la
    have ne_ia_wo : ia ≠ wo := pw_ne hap 2 6 (by decide) (Nat.le_of_ble_eq_true rfl)
    have ne_wo_ia : wo ≠ ia := Ne.symm ne_ia_wo
    have ne_ia_op : ia ≠ op := pw_ne hap 2 7 (by decide) (Nat.le_of_ble_eq_true rfl)
    have ne_op_ia : op ≠ ia := Ne.symm ne_ia_op
    have ne_ia_mk : ia ≠ mk := pw_ne hap 2 8 (by decide) (Nat.le_of_ble_eq_true rfl)
    have ne_mk_ia : mk ≠ ia := Ne.symm ne_ia_mk
    have ne_ia_ir : ia ≠ ir := pw_ne hap 2 9 (by decide) (Nat.le_of_ble_eq_true rfl)
    have ne_ir_ia : ir ≠ ia := Ne.symm ne_ia_ir
    have ne_dr_en : dr ≠ en := pw_ne hap 3 4 (by decide) (Nat.le_of_ble_eq_true rfl)
    have ne_en_dr : en ≠ dr := Ne.symm ne_dr_en
    have ne_dr_la : dr ≠ la := pw_ne hap 3 5 (by decide) (Nat.le_of_ble_eq_true rfl)
    have ne_la_dr : la ≠ dr := Ne.symm ne_dr_la
    have ne_dr_wo : dr ≠ wo := pw_ne hap 3 6 (by decide) (Nat.le_of_ble_eq_true rfl)
    have ne_wo_dr : wo ≠ dr := Ne.symm ne_dr_wo
    have ne_dr_op : dr ≠ op := pw_ne hap 3 7 (by decide) (Nat.le_of_ble_eq_true rfl)
    have ne_op_dr : op ≠ dr := Ne.symm ne_dr_op
    have ne_dr_mk : dr ≠ mk := pw_ne hap 3 8 (by decide) (Nat.le_of_ble_eq_true rfl)
    have ne_mk_dr : mk ≠ dr := Ne.symm ne_dr_mk
    have ne_dr_ir : dr ≠ ir := pw_ne hap 3 9 (by decide) (Nat.le_of_ble_eq_true rfl)
    have ne_ir_dr : ir ≠ dr := Ne.symm ne_dr_ir
    have ne_en_la : en ≠ la := pw_ne hap 4 5 (by decide) (Nat.le_of_ble_eq_true rfl)
    have ne_la_en : la ≠ en := Ne.symm ne_en_la
    have ne_en_wo : en ≠ wo := pw_ne hap 4 6 (by decide) (Nat.le_of_ble_eq_true rfl)
    have ne_wo_en : wo ≠ en := Ne.symm ne_en_wo
    have ne_en_op : en ≠ op := pw_ne hap 4 7 (by decide) (Nat.le_of_ble_eq_true rfl)
    have ne_op_en : op ≠ en := Ne.symm ne_en_op
    have ne_en_mk : en ≠ mk := pw_ne hap 4 8 (by decide) (Nat.le_of_ble_eq_true rfl)
    have ne_mk_en : mk ≠ en := Ne.symm ne_en_mk
    have ne_en_ir : en ≠ ir := pw_ne hap 4 9 (by decide) (Nat.le_of_ble_eq_true rfl)
    have ne_ir_en : ir ≠ en := Ne.symm ne_en_ir
    have ne_la_wo : la ≠ wo := pw_ne hap 5 6 (by decide) (Nat.le_of_ble_eq_true rfl)
    have ne_wo_la : wo ≠ la := Ne.symm ne_la_wo
    have ne_la_op : la ≠ op := pw_ne hap 5 7 (by decide) (Nat.le_of_ble_eq_true rfl)
    have ne_op_la : op ≠ la := Ne.symm ne_la_op
    have ne_la_mk : la ≠ mk := pw_ne hap 5 8 (by decide) (Nat.le_of_ble_eq_true rfl)
    have ne_mk_la : mk ≠ la := Ne.symm ne_la_mk
    have ne_la_ir : la ≠ ir := pw_ne hap 5 9 (by decide) (Nat.le_of_ble_eq_true rfl)
    have ne_ir_la : ir ≠ la := Ne.symm ne_la_ir
    have ne_wo_op : wo ≠ op := pw_ne hap 6 7 (by decide) (Nat.le_of_ble_eq_true rfl)
    have ne_op_wo : op ≠ wo := Ne.symm ne_wo_op
    have ne_wo_mk : wo ≠ mk := pw_ne hap 6 8 (by decide) (Nat.le_of_ble_eq_true rfl)
    have ne_mk_wo : mk ≠ wo := Ne.symm ne_wo_mk
    have ne_wo_ir : wo ≠ ir := pw_ne hap 6 9 (by decide) (Nat.le_of_ble_eq_true rfl)
    have ne_ir_wo : ir ≠ wo := Ne.symm ne_wo_ir
    have ne_op_mk : op ≠ mk := pw_ne hap 7 8 (by decide) (Nat.le_of_ble_eq_true rfl)
    have ne_mk_op : mk ≠ op := Ne.symm ne_op_mk
    have ne_op_ir : op ≠ ir := pw_ne hap 7 9 (by decide) (Nat.le_of_ble_eq_true rfl)
    have ne_ir_op : ir ≠ op := Ne.symm ne_op_ir
    have ne_mk_ir : mk ≠ ir := pw_ne hap 8 9 (by decide) (Nat.le_of_ble_eq_true rfl)
    have ne_ir_mk : ir ≠ mk := Ne.symm ne_mk_ir
    refine lv_iload_n hx hb dX6_copyNode_74 rfl (lv_at hl 0 rfl) ?_
    refine lv_bipush (v := 64) hx hb dX6_copyNode_75 (by decide) ?_
    refine lv_icmp_ge (tgt := 108) hx hb dX6_copyNode_77 (by decide) (fun c2 => ?_) (fun c2 => ?_)
    · refine W.vret hx hb hr (fun t ht hW => ⟨⟨none, _, rfl, ?_, by rw [ht]; exact hm⟩, hS.F ht⟩) hS.2.2 dX6_copyNode_108
      exact ⟨rfl, hWk, hkp⟩
    · have hlt9 : j2 < 64 := Nat.lt_of_not_le fun q => c2 (nI_le (a := 64) q (by omega))
      refine lv_aload_n hx hb dX6_copyNode_80 rfl (lv_at hl 1 rfl) ?_
      refine m_get (T := TX6) (N := 24) (ci := 6) (v := .ref wo) hx hb hts wX6 hown hK hm hM rfl 6 (by decide) f28 (fun _ h9 => h9) rfl dX6_copyNode_81 ?_
      refine lv_bipush (v := 64) hx hb dX6_copyNode_84 (by decide) ?_
      refine lv_iload_n hx hb dX6_copyNode_86 rfl (lv_at hl 2 rfl) ?_
      refine lv_imul hx hb dX6_copyNode_87 ?_
      refine W.eq (g2 := F0 m 88 ls [.int 12800, .ref wo]) (by first | rfl | decide) ?_
      refine lv_iload_n hx hb dX6_copyNode_88 rfl (lv_at hl 0 rfl) ?_
      refine lv_iadd hx hb dX6_copyNode_89 ?_
      refine lv_aload_n hx hb dX6_copyNode_90 rfl (lv_at hl 1 rfl) ?_
      refine m_get (T := TX6) (N := 24) (ci := 6) (v := .ref wo) hx hb hts wX6 hown hK hm hM rfl 6 (by decide) f28 (fun _ h9 => h9) rfl dX6_copyNode_91 ?_
      refine lv_bipush (v := 64) hx hb dX6_copyNode_94 (by decide) ?_
      refine lv_iload_n hx hb dX6_copyNode_96 rfl (lv_at hl 3 rfl) ?_
      refine lv_imul hx hb dX6_copyNode_97 ?_
      refine W.eq (g2 := F0 m 98 ls [.int 0, .ref wo, .int (12800 + (nI j2)), .ref wo]) (by first | rfl | decide) ?_
      refine lv_iload_n hx hb dX6_copyNode_98 rfl (lv_at hl 0 rfl) ?_
      refine lv_iadd hx hb dX6_copyNode_99 ?_
      refine m_iald hx hb hK hm 0 hwo rfl (in_add (a := 0) (by omega) (by decide)) dX6_copyNode_100 ?_
      refine m_iast hx hb hK hm hS 0 hwo rfl (in_add (a := 12800) (by omega) (by decide)) dX6_copyNode_101 (fun H locs hm hS => ?_)
      have hm : mm D (AZ z) (mu Mk wo (.inl (k 0, 204800, .inl (upd fwo ((12800 + (nI j2))).toNatClampNeg (fwo ((0 + (nI j2))).toNatClampNeg))))) H := hm
      have hkp : kL k M (mu Mk wo (.inl (k 0, 204800, .inl (upd fwo ((12800 + (nI j2))).toNatClampNeg (fwo ((0 + (nI j2))).toNatClampNeg))))) := (hkp).upd hwo nlI
      refine lv_iinc (v := ((nI j2) + 1)) (lv' := [(3, .int ((nI j2) + 1)), (0, .ref mo), (1, .int 200), (2, .int 0)]) hx hb dX6_copyNode_102 hl (k := 0) rfl rfl (by decide) rfl (fun ls hl => ?_)
      refine lv_goto (tgt := 74) hx hb dX6_copyNode_105 (by decide) ?_
      rw [nI_1] at hl
      exact ih74 (j2 + 1, (mu Mk wo (.inl (k 0, 204800, .inl (upd fwo ((12800 + (nI j2))).toNatClampNeg (fwo ((0 + (nI j2))).toNatClampNeg)))))) _ _ _ ⟨by omega, ⟨cn, ia, dr, en, la, wo, op, mk, ir, se, ec, lc, wc, ol, al, fcn, fia, fdr, fen, fla, (upd fwo ((12800 + (nI j2))).toNatClampNeg (fwo ((0 + (nI j2))).toNatClampNeg)), fop, fmk, fir, hap, hc0, ((mu_ne ne_mo_wo).trans hM), ((mu_ne ne_cn_wo).trans hcn), ((mu_ne ne_ia_wo).trans hia), ((mu_ne ne_dr_wo).trans hdr), ((mu_ne ne_en_wo).trans hen), ((mu_ne ne_la_wo).trans hla), (mu_self _ _ _), ((mu_ne ne_op_wo).trans hop), ((mu_ne ne_mk_wo).trans hmk), ((mu_ne ne_ir_wo).trans hir)⟩, hkp, hm, hS, lv_sub hl [0, 1, 2, 3] rfl⟩ (by show 64 - (j2 + 1) < 64 - j2; omega)
  · have hlt9 : j < 16 := Nat.lt_of_not_le fun q => c1 (nI_le (a := 16) q (by omega))
    refine lv_aload_n hx hb dX6_copyNode_44 rfl (lv_at hl 1 rfl) ?_
    refine m_get (T := TX6) (N := 24) (ci := 6) (v := .ref en) hx hb hts wX6 hown hK hm hM rfl 4 (by decide) f21 (fun _ h9 => h9) rfl dX6_copyNode_45 ?_
    refine lv_bipush (v := 16) hx hb dX6_copyNode_48 (by decide) ?_
    refine lv_iload_n hx hb dX6_copyNode_50 rfl (lv_at hl 2 rfl) ?_
    refine lv_imul hx hb dX6_copyNode_51 ?_
    refine W.eq (g2 := F0 m 52 ls [.int 3200, .ref en]) (by first | rfl | decide) ?_
    refine lv_iload_n hx hb dX6_copyNode_52 rfl (lv_at hl 0 rfl) ?_
    refine lv_iadd hx hb dX6_copyNode_53 ?_
    refine lv_aload_n hx hb dX6_copyNode_54 rfl (lv_at hl 1 rfl) ?_
    refine m_get (T := TX6) (N := 24) (ci := 6) (v := .ref en) hx hb hts wX6 hown hK hm hM rfl 4 (by decide) f21 (fun _ h9 => h9) rfl dX6_copyNode_55 ?_
    refine lv_bipush (v := 16) hx hb dX6_copyNode_58 (by decide) ?_
    refine lv_iload_n hx hb dX6_copyNode_60 rfl (lv_at hl 3 rfl) ?_
    refine lv_imul hx hb dX6_copyNode_61 ?_
    refine W.eq (g2 := F0 m 62 ls [.int 0, .ref en, .int (3200 + (nI j)), .ref en]) (by first | rfl | decide) ?_
    refine lv_iload_n hx hb dX6_copyNode_62 rfl (lv_at hl 0 rfl) ?_
    refine lv_iadd hx hb dX6_copyNode_63 ?_
    refine m_iald hx hb hK hm 0 hen rfl (in_add (a := 0) (by omega) (by decide)) dX6_copyNode_64 ?_
    refine m_iast hx hb hK hm hS 0 hen rfl (in_add (a := 3200) (by omega) (by decide)) dX6_copyNode_65 (fun H locs hm hS => ?_)
    have hm : mm D (AZ z) (mu Mj en (.inl (k 0, 51200, .inl (upd fen ((3200 + (nI j))).toNatClampNeg (fen ((0 + (nI j))).toNatClampNeg))))) H := hm
    have hkp : kL k M (mu Mj en (.inl (k 0, 51200, .inl (upd fen ((3200 + (nI j))).toNatClampNeg (fen ((0 + (nI j))).toNatClampNeg))))) := (hkp).upd hen nlI
    refine lv_iinc (v := ((nI j) + 1)) (lv' := [(3, .int ((nI j) + 1)), (0, .ref mo), (1, .int 200), (2, .int 0)]) hx hb dX6_copyNode_66 hl (k := 0) rfl rfl (by decide) rfl (fun ls hl => ?_)
    refine lv_goto (tgt := 38) hx hb dX6_copyNode_69 (by decide) ?_
    rw [nI_1] at hl
    exact ih38 (j + 1, (mu Mj en (.inl (k 0, 51200, .inl (upd fen ((3200 + (nI j))).toNatClampNeg (fen ((0 + (nI j))).toNatClampNeg)))))) _ _ _ ⟨by omega, ⟨cn, ia, dr, en, la, wo, op, mk, ir, se, ec, lc, wc, ol, al, fcn, fia, fdr, (upd fen ((3200 + (nI j))).toNatClampNeg (fen ((0 + (nI j))).toNatClampNeg)), fla, fwo, fop, fmk, fir, hap, hc0, ((mu_ne ne_mo_en).trans hM), ((mu_ne ne_cn_en).trans hcn), ((mu_ne ne_ia_en).trans hia), ((mu_ne ne_dr_en).trans hdr), (mu_self _ _ _), ((mu_ne ne_la_en).trans hla), ((mu_ne ne_wo_en).trans hwo), ((mu_ne ne_op_en).trans hop), ((mu_ne ne_mk_en).trans hmk), ((mu_ne ne_ir_en).trans hir)⟩, hkp, hm, hS, lv_sub hl [0, 1, 2, 3] rfl⟩ (by show 16 - (j + 1) < 16 - j; omega)

set_option maxHeartbeats 4000000 in
set_option maxRecDepth 100000 in
theorem cL_X6_copyTree2 (l : Launch) (D : va_G) (k : Nat → ClassId) (z : Nat) (M : mM) (mo : Nat) (cd9 : Int32) (hF : mWk k M mo cd9) : mK l yX6_copyTree wsX6_copyTree ({ frames := 1, cells := 0, slots := 0, locals := 23 }) D k z [.ref mo, .int 2, .int 0] M (fun v M' => v = none ∧ mWk k M' mo cd9 ∧ kL k M M') := by
  refine Met.ofW (cc := cX6_copyTree) (maxL := 4) (ret := none) (by decide) rfl ?_
  intro p e s m args below meth c s₁ B hml hv
  obtain ⟨rfl, hz, hcx, hm⟩ := hv
  have hx := B.exec
  have hb := B.bytes
  have hr := B.returns
  have hts := atoms_spec (ws := wsX6_copyTree) B.pre
  have hown : s.vm.findClass RX6 = some m.cls := findClass_of_methodNamed B.named
  have hlocks := B.notSynchronized
  have hK := hcx.1
  have hS : va_S (AZ z) s.heap s.heap [] := va_S.rf
  have hA : ∀ q, s.heap.size ≤ q → AZ z q := fun q h => Nat.le_trans hz h
  have hl := lv_entry ([.ref mo, .int 2, .int 0]) (n := 4) (Nat.le_of_ble_eq_true rfl)
  rw [lg_entry_eq]
  generalize (lg_sl ([.ref mo, .int 2, .int 0]) ++ List.replicate (4 - (lg_sl ([.ref mo, .int 2, .int 0])).length) Slot.unset).toArray = ls at hl ⊢
  have hl : lv_has ls 4 [(0, .ref mo), (1, .int 2), (2, .int 0)] := hl
  have f7 := hts (.fieldLink RX6 7 "CommitTreeModel" "counts" "[I") (by decide +kernel)
  have wX6 : ∀ w ∈ wsX60, w ∈ wsX6_copyTree := by decide +kernel
  obtain ⟨cn, ia, dr, en, la, wo, op, mk, ir, se, ec, lc, wc, ol, al, fcn, fia, fdr, fen, fla, fwo, fop, fmk, fir, hap, hc0, hM, hcn, hia, hdr, hen, hla, hwo, hop, hmk, hir⟩ := id hF
  have ne_mo_cn : mo ≠ cn := pw_ne hap 0 1 (by decide) (Nat.le_of_ble_eq_true rfl)
  have ne_cn_mo : cn ≠ mo := Ne.symm ne_mo_cn
  have ne_mo_ia : mo ≠ ia := pw_ne hap 0 2 (by decide) (Nat.le_of_ble_eq_true rfl)
  have ne_ia_mo : ia ≠ mo := Ne.symm ne_mo_ia
  have ne_mo_dr : mo ≠ dr := pw_ne hap 0 3 (by decide) (Nat.le_of_ble_eq_true rfl)
  have ne_dr_mo : dr ≠ mo := Ne.symm ne_mo_dr
  have ne_mo_en : mo ≠ en := pw_ne hap 0 4 (by decide) (Nat.le_of_ble_eq_true rfl)
  have ne_en_mo : en ≠ mo := Ne.symm ne_mo_en
  have ne_mo_la : mo ≠ la := pw_ne hap 0 5 (by decide) (Nat.le_of_ble_eq_true rfl)
  have ne_la_mo : la ≠ mo := Ne.symm ne_mo_la
  have ne_mo_wo : mo ≠ wo := pw_ne hap 0 6 (by decide) (Nat.le_of_ble_eq_true rfl)
  have ne_wo_mo : wo ≠ mo := Ne.symm ne_mo_wo
  have ne_mo_op : mo ≠ op := pw_ne hap 0 7 (by decide) (Nat.le_of_ble_eq_true rfl)
  have ne_op_mo : op ≠ mo := Ne.symm ne_mo_op
  have ne_mo_mk : mo ≠ mk := pw_ne hap 0 8 (by decide) (Nat.le_of_ble_eq_true rfl)
  have ne_mk_mo : mk ≠ mo := Ne.symm ne_mo_mk
  have ne_mo_ir : mo ≠ ir := pw_ne hap 0 9 (by decide) (Nat.le_of_ble_eq_true rfl)
  have ne_ir_mo : ir ≠ mo := Ne.symm ne_mo_ir
  have ne_cn_ia : cn ≠ ia := pw_ne hap 1 2 (by decide) (Nat.le_of_ble_eq_true rfl)
  have ne_ia_cn : ia ≠ cn := Ne.symm ne_cn_ia
  have ne_cn_dr : cn ≠ dr := pw_ne hap 1 3 (by decide) (Nat.le_of_ble_eq_true rfl)
  have ne_dr_cn : dr ≠ cn := Ne.symm ne_cn_dr
  have ne_cn_en : cn ≠ en := pw_ne hap 1 4 (by decide) (Nat.le_of_ble_eq_true rfl)
  have ne_en_cn : en ≠ cn := Ne.symm ne_cn_en
  have ne_cn_la : cn ≠ la := pw_ne hap 1 5 (by decide) (Nat.le_of_ble_eq_true rfl)
  have ne_la_cn : la ≠ cn := Ne.symm ne_cn_la
  have ne_cn_wo : cn ≠ wo := pw_ne hap 1 6 (by decide) (Nat.le_of_ble_eq_true rfl)
  have ne_wo_cn : wo ≠ cn := Ne.symm ne_cn_wo
  have ne_cn_op : cn ≠ op := pw_ne hap 1 7 (by decide) (Nat.le_of_ble_eq_true rfl)
  have ne_op_cn : op ≠ cn := Ne.symm ne_cn_op
  have ne_cn_mk : cn ≠ mk := pw_ne hap 1 8 (by decide) (Nat.le_of_ble_eq_true rfl)
  have ne_mk_cn : mk ≠ cn := Ne.symm ne_cn_mk
  have ne_cn_ir : cn ≠ ir := pw_ne hap 1 9 (by decide) (Nat.le_of_ble_eq_true rfl)
  have ne_ir_cn : ir ≠ cn := Ne.symm ne_cn_ir
  have ne_ia_dr : ia ≠ dr := pw_ne hap 2 3 (by decide) (Nat.le_of_ble_eq_true rfl)
  have ne_dr_ia : dr ≠ ia := Ne.symm ne_ia_dr
  have ne_ia_en : ia ≠ en := pw_ne hap 2 4 (by decide) (Nat.le_of_ble_eq_true rfl)
  have ne_en_ia : en ≠ ia := Ne.symm ne_ia_en
  have ne_ia_la : ia ≠ la := pw_ne hap 2 5 (by decide) (Nat.le_of_ble_eq_true rfl)
  have ne_la_ia : la ≠ ia := Ne.symm ne_ia_la
  have ne_ia_wo : ia ≠ wo := pw_ne hap 2 6 (by decide) (Nat.le_of_ble_eq_true rfl)
  have ne_wo_ia : wo ≠ ia := Ne.symm ne_ia_wo
  have ne_ia_op : ia ≠ op := pw_ne hap 2 7 (by decide) (Nat.le_of_ble_eq_true rfl)
  have ne_op_ia : op ≠ ia := Ne.symm ne_ia_op
  have ne_ia_mk : ia ≠ mk := pw_ne hap 2 8 (by decide) (Nat.le_of_ble_eq_true rfl)
  have ne_mk_ia : mk ≠ ia := Ne.symm ne_ia_mk
  have ne_ia_ir : ia ≠ ir := pw_ne hap 2 9 (by decide) (Nat.le_of_ble_eq_true rfl)
  have ne_ir_ia : ir ≠ ia := Ne.symm ne_ia_ir
  have ne_dr_en : dr ≠ en := pw_ne hap 3 4 (by decide) (Nat.le_of_ble_eq_true rfl)
  have ne_en_dr : en ≠ dr := Ne.symm ne_dr_en
  have ne_dr_la : dr ≠ la := pw_ne hap 3 5 (by decide) (Nat.le_of_ble_eq_true rfl)
  have ne_la_dr : la ≠ dr := Ne.symm ne_dr_la
  have ne_dr_wo : dr ≠ wo := pw_ne hap 3 6 (by decide) (Nat.le_of_ble_eq_true rfl)
  have ne_wo_dr : wo ≠ dr := Ne.symm ne_dr_wo
  have ne_dr_op : dr ≠ op := pw_ne hap 3 7 (by decide) (Nat.le_of_ble_eq_true rfl)
  have ne_op_dr : op ≠ dr := Ne.symm ne_dr_op
  have ne_dr_mk : dr ≠ mk := pw_ne hap 3 8 (by decide) (Nat.le_of_ble_eq_true rfl)
  have ne_mk_dr : mk ≠ dr := Ne.symm ne_dr_mk
  have ne_dr_ir : dr ≠ ir := pw_ne hap 3 9 (by decide) (Nat.le_of_ble_eq_true rfl)
  have ne_ir_dr : ir ≠ dr := Ne.symm ne_dr_ir
  have ne_en_la : en ≠ la := pw_ne hap 4 5 (by decide) (Nat.le_of_ble_eq_true rfl)
  have ne_la_en : la ≠ en := Ne.symm ne_en_la
  have ne_en_wo : en ≠ wo := pw_ne hap 4 6 (by decide) (Nat.le_of_ble_eq_true rfl)
  have ne_wo_en : wo ≠ en := Ne.symm ne_en_wo
  have ne_en_op : en ≠ op := pw_ne hap 4 7 (by decide) (Nat.le_of_ble_eq_true rfl)
  have ne_op_en : op ≠ en := Ne.symm ne_en_op
  have ne_en_mk : en ≠ mk := pw_ne hap 4 8 (by decide) (Nat.le_of_ble_eq_true rfl)
  have ne_mk_en : mk ≠ en := Ne.symm ne_en_mk
  have ne_en_ir : en ≠ ir := pw_ne hap 4 9 (by decide) (Nat.le_of_ble_eq_true rfl)
  have ne_ir_en : ir ≠ en := Ne.symm ne_en_ir
  have ne_la_wo : la ≠ wo := pw_ne hap 5 6 (by decide) (Nat.le_of_ble_eq_true rfl)
  have ne_wo_la : wo ≠ la := Ne.symm ne_la_wo
  have ne_la_op : la ≠ op := pw_ne hap 5 7 (by decide) (Nat.le_of_ble_eq_true rfl)
  have ne_op_la : op ≠ la := Ne.symm ne_la_op
  have ne_la_mk : la ≠ mk := pw_ne hap 5 8 (by decide) (Nat.le_of_ble_eq_true rfl)
  have ne_mk_la : mk ≠ la := Ne.symm ne_la_mk
  have ne_la_ir : la ≠ ir := pw_ne hap 5 9 (by decide) (Nat.le_of_ble_eq_true rfl)
  have ne_ir_la : ir ≠ la := Ne.symm ne_la_ir
  have ne_wo_op : wo ≠ op := pw_ne hap 6 7 (by decide) (Nat.le_of_ble_eq_true rfl)
  have ne_op_wo : op ≠ wo := Ne.symm ne_wo_op
  have ne_wo_mk : wo ≠ mk := pw_ne hap 6 8 (by decide) (Nat.le_of_ble_eq_true rfl)
  have ne_mk_wo : mk ≠ wo := Ne.symm ne_wo_mk
  have ne_wo_ir : wo ≠ ir := pw_ne hap 6 9 (by decide) (Nat.le_of_ble_eq_true rfl)
  have ne_ir_wo : ir ≠ wo := Ne.symm ne_wo_ir
  have ne_op_mk : op ≠ mk := pw_ne hap 7 8 (by decide) (Nat.le_of_ble_eq_true rfl)
  have ne_mk_op : mk ≠ op := Ne.symm ne_op_mk
  have ne_op_ir : op ≠ ir := pw_ne hap 7 9 (by decide) (Nat.le_of_ble_eq_true rfl)
  have ne_ir_op : ir ≠ op := Ne.symm ne_op_ir
  have ne_mk_ir : mk ≠ ir := pw_ne hap 8 9 (by decide) (Nat.le_of_ble_eq_true rfl)
  have ne_ir_mk : ir ≠ mk := Ne.symm ne_mk_ir
  have hkp : kL k M M := kL.refl _
  refine lv_aload_n hx hb dX6_copyTree_0 rfl (lv_at hl 0 rfl) ?_
  refine m_get (T := TX6) (N := 24) (ci := 6) (v := .ref cn) hx hb hts wX6 hown hK hm hM rfl 1 (by decide) f7 (fun _ h9 => h9) rfl dX6_copyTree_1 ?_
  refine lv_iload_n hx hb dX6_copyTree_4 rfl (lv_at hl 1 rfl) ?_
  refine lv_aload_n hx hb dX6_copyTree_5 rfl (lv_at hl 0 rfl) ?_
  refine m_get (T := TX6) (N := 24) (ci := 6) (v := .ref cn) hx hb hts wX6 hown hK hm hM rfl 1 (by decide) f7 (fun _ h9 => h9) rfl dX6_copyTree_6 ?_
  refine lv_iload_n hx hb dX6_copyTree_9 rfl (lv_at hl 2 rfl) ?_
  refine m_iald hx hb hK hm 0 hcn rfl (by unfold vp_in; decide) dX6_copyTree_10 ?_
  refine m_iast hx hb hK hm hS 0 hcn rfl (by unfold vp_in; decide) dX6_copyTree_11 (fun H locs hm hS => ?_)
  have hm : mm D (AZ z) (mu M cn (.inl (k 0, 32, .inl (upd fcn (2 : Int32).toNatClampNeg (fcn (0 : Int32).toNatClampNeg))))) H := hm
  have hkp : kL k M (mu M cn (.inl (k 0, 32, .inl (upd fcn (2 : Int32).toNatClampNeg (fcn (0 : Int32).toNatClampNeg))))) := (hkp).upd hcn nlI
  refine lv_iconst (v := 0) hx hb dX6_copyTree_12 (by decide) ?_
  refine lv_istore_n (lv' := [(3, .int 0), (0, .ref mo), (1, .int 2), (2, .int 0)]) hx hb dX6_copyTree_13 rfl hl (by decide) rfl (fun ls hl => ?_)
  refine lv_iload_n hx hb dX6_copyTree_14 rfl (lv_at hl 0 rfl) ?_
  refine lv_aload_n hx hb dX6_copyTree_15 rfl (lv_at hl 1 rfl) ?_
  refine m_get (T := TX6) (N := 24) (ci := 6) (v := .ref cn) hx hb hts wX6 hown hK hm ((mu_ne ne_mo_cn).trans hM) rfl 1 (by decide) f7 (fun _ h9 => h9) rfl dX6_copyTree_16 ?_
  refine lv_iload_n hx hb dX6_copyTree_19 rfl (lv_at hl 3 rfl) ?_
  refine m_iald hx hb hK hm 0 (mu_self _ _ _) rfl (by unfold vp_in; decide) dX6_copyTree_20 ?_
  have hc1 : ((upd fcn (2 : Int32).toNatClampNeg (fcn (0 : Int32).toNatClampNeg)) (0 : Int32).toNatClampNeg) = 1 := hc0
  refine W.eq (g2 := F0 m 21 ls [.int 1, .int 0]) (by rw [hc1]) ?_
  refine lv_icmp_ge (tgt := 46) hx hb dX6_copyTree_21 (by decide) (fun c1 => ?_) (fun c1 => ?_)
  · first | exact absurd c1 (by decide) | exact absurd (by decide) c1
  · refine lv_aload_n hx hb dX6_copyTree_24 rfl (lv_at hl 1 rfl) ?_
    refine lv_bipush (v := 100) hx hb dX6_copyTree_25 (by decide) ?_
    refine lv_iload_n hx hb dX6_copyTree_27 rfl (lv_at hl 2 rfl) ?_
    refine lv_imul hx hb dX6_copyTree_28 ?_
    refine W.eq (g2 := F0 m 29 ls [.int 200, .ref mo]) (by first | rfl | decide) ?_
    refine lv_iload_n hx hb dX6_copyTree_29 rfl (lv_at hl 0 rfl) ?_
    refine lv_iadd hx hb dX6_copyTree_30 ?_
    refine W.eq (g2 := F0 m 31 ls [.int 200, .ref mo]) (by first | rfl | decide) ?_
    refine lv_bipush (v := 100) hx hb dX6_copyTree_31 (by decide) ?_
    refine lv_iload_n hx hb dX6_copyTree_33 rfl (lv_at hl 3 rfl) ?_
    refine lv_imul hx hb dX6_copyTree_34 ?_
    refine W.eq (g2 := F0 m 35 ls [.int 0, .int 200, .ref mo]) (by first | rfl | decide) ?_
    refine lv_iload_n hx hb dX6_copyTree_35 rfl (lv_at hl 0 rfl) ?_
    refine lv_iadd hx hb dX6_copyTree_36 ?_
    refine W.eq (g2 := F0 m 37 ls [.int 0, .int 200, .ref mo]) (by first | rfl | decide) ?_
    have hW0 : mWk k (mu M cn (.inl (k 0, 32, .inl (upd fcn (2 : Int32).toNatClampNeg (fcn (0 : Int32).toNatClampNeg))))) mo cd9 := ⟨cn, ia, dr, en, la, wo, op, mk, ir, se, ec, lc, wc, ol, al, (upd fcn (2 : Int32).toNatClampNeg (fcn (0 : Int32).toNatClampNeg)), fia, fdr, fen, fla, fwo, fop, fmk, fir, hap, hc0, ((mu_ne ne_mo_cn).trans hM), (mu_self _ _ _), ((mu_ne ne_ia_cn).trans hia), ((mu_ne ne_dr_cn).trans hdr), ((mu_ne ne_en_cn).trans hen), ((mu_ne ne_la_cn).trans hla), ((mu_ne ne_wo_cn).trans hwo), ((mu_ne ne_op_cn).trans hop), ((mu_ne ne_mk_cn).trans hmk), ((mu_ne ne_ir_cn).trans hir)⟩
    refine m_kV (As := [.int 200, .int 0]) (rest := []) (rm := { frames := 0, cells := 0, slots := 0, locals := 0 }) ⟨hx, hb, hml, hown, hts⟩ (cL_X6_copyNode200 l D k z _ mo cd9 hW0) (cwV 2 hts gX6_copyTree_X6_copyNode rfl rfl rfl (by decide +kernel) ⟨Nat.le_of_ble_eq_true rfl, Nat.le_of_ble_eq_true rfl⟩) (m_recv hK hm (q := (RX6, TX6, 24)) rfl ((mu_ne ne_mo_cn).trans hM)) hz hcx hm hS rfl hl.1 rfl (Nat.le_of_ble_eq_true rfl) dX6_copyTree_37 ⟨Nat.le_of_ble_eq_true rfl, Nat.le_of_ble_eq_true rfl⟩ (fun v M1 H locs hv hm hS => ?_)
    obtain ⟨hv1, hWk, hL9⟩ := hv
    subst hv1
    have hkp := hkp.trans hL9
    obtain ⟨Mc1, hMx⟩ : ∃ x : mM, x = M1 := ⟨M1, rfl⟩
    subst hMx
    obtain ⟨cn, ia, dr, en, la, wo, op, mk, ir, se, ec, lc, wc, ol, al, fcn, fia, fdr, fen, fla, fwo, fop, fmk, fir, hap, hc0, hM, hcn, hia, hdr, hen, hla, hwo, hop, hmk, hir⟩ := id hWk
    have ne_mo_cn : mo ≠ cn := pw_ne hap 0 1 (by decide) (Nat.le_of_ble_eq_true rfl)
    have ne_cn_mo : cn ≠ mo := Ne.symm ne_mo_cn
    have ne_mo_ia : mo ≠ ia := pw_ne hap 0 2 (by decide) (Nat.le_of_ble_eq_true rfl)
    have ne_ia_mo : ia ≠ mo := Ne.symm ne_mo_ia
    have ne_mo_dr : mo ≠ dr := pw_ne hap 0 3 (by decide) (Nat.le_of_ble_eq_true rfl)
    have ne_dr_mo : dr ≠ mo := Ne.symm ne_mo_dr
    have ne_mo_en : mo ≠ en := pw_ne hap 0 4 (by decide) (Nat.le_of_ble_eq_true rfl)
    have ne_en_mo : en ≠ mo := Ne.symm ne_mo_en
    have ne_mo_la : mo ≠ la := pw_ne hap 0 5 (by decide) (Nat.le_of_ble_eq_true rfl)
    have ne_la_mo : la ≠ mo := Ne.symm ne_mo_la
    have ne_mo_wo : mo ≠ wo := pw_ne hap 0 6 (by decide) (Nat.le_of_ble_eq_true rfl)
    have ne_wo_mo : wo ≠ mo := Ne.symm ne_mo_wo
    have ne_mo_op : mo ≠ op := pw_ne hap 0 7 (by decide) (Nat.le_of_ble_eq_true rfl)
    have ne_op_mo : op ≠ mo := Ne.symm ne_mo_op
    have ne_mo_mk : mo ≠ mk := pw_ne hap 0 8 (by decide) (Nat.le_of_ble_eq_true rfl)
    have ne_mk_mo : mk ≠ mo := Ne.symm ne_mo_mk
    have ne_mo_ir : mo ≠ ir := pw_ne hap 0 9 (by decide) (Nat.le_of_ble_eq_true rfl)
    have ne_ir_mo : ir ≠ mo := Ne.symm ne_mo_ir
    have ne_cn_ia : cn ≠ ia := pw_ne hap 1 2 (by decide) (Nat.le_of_ble_eq_true rfl)
    have ne_ia_cn : ia ≠ cn := Ne.symm ne_cn_ia
    have ne_cn_dr : cn ≠ dr := pw_ne hap 1 3 (by decide) (Nat.le_of_ble_eq_true rfl)
    have ne_dr_cn : dr ≠ cn := Ne.symm ne_cn_dr
    have ne_cn_en : cn ≠ en := pw_ne hap 1 4 (by decide) (Nat.le_of_ble_eq_true rfl)
    have ne_en_cn : en ≠ cn := Ne.symm ne_cn_en
    have ne_cn_la : cn ≠ la := pw_ne hap 1 5 (by decide) (Nat.le_of_ble_eq_true rfl)
    have ne_la_cn : la ≠ cn := Ne.symm ne_cn_la
    have ne_cn_wo : cn ≠ wo := pw_ne hap 1 6 (by decide) (Nat.le_of_ble_eq_true rfl)
    have ne_wo_cn : wo ≠ cn := Ne.symm ne_cn_wo
    have ne_cn_op : cn ≠ op := pw_ne hap 1 7 (by decide) (Nat.le_of_ble_eq_true rfl)
    have ne_op_cn : op ≠ cn := Ne.symm ne_cn_op
    have ne_cn_mk : cn ≠ mk := pw_ne hap 1 8 (by decide) (Nat.le_of_ble_eq_true rfl)
    have ne_mk_cn : mk ≠ cn := Ne.symm ne_cn_mk
    have ne_cn_ir : cn ≠ ir := pw_ne hap 1 9 (by decide) (Nat.le_of_ble_eq_true rfl)
    have ne_ir_cn : ir ≠ cn := Ne.symm ne_cn_ir
    have ne_ia_dr : ia ≠ dr := pw_ne hap 2 3 (by decide) (Nat.le_of_ble_eq_true rfl)
    have ne_dr_ia : dr ≠ ia := Ne.symm ne_ia_dr
    have ne_ia_en : ia ≠ en := pw_ne hap 2 4 (by decide) (Nat.le_of_ble_eq_true rfl)
    have ne_en_ia : en ≠ ia := Ne.symm ne_ia_en
    have ne_ia_la : ia ≠ la := pw_ne hap 2 5 (by decide) (Nat.le_of_ble_eq_true rfl)
    have ne_la_ia : la ≠ ia := Ne.symm ne_ia_la
    have ne_ia_wo : ia ≠ wo := pw_ne hap 2 6 (by decide) (Nat.le_of_ble_eq_true rfl)
    have ne_wo_ia : wo ≠ ia := Ne.symm ne_ia_wo
    have ne_ia_op : ia ≠ op := pw_ne hap 2 7 (by decide) (Nat.le_of_ble_eq_true rfl)
    have ne_op_ia : op ≠ ia := Ne.symm ne_ia_op
    have ne_ia_mk : ia ≠ mk := pw_ne hap 2 8 (by decide) (Nat.le_of_ble_eq_true rfl)
    have ne_mk_ia : mk ≠ ia := Ne.symm ne_ia_mk
    have ne_ia_ir : ia ≠ ir := pw_ne hap 2 9 (by decide) (Nat.le_of_ble_eq_true rfl)
    have ne_ir_ia : ir ≠ ia := Ne.symm ne_ia_ir
    have ne_dr_en : dr ≠ en := pw_ne hap 3 4 (by decide) (Nat.le_of_ble_eq_true rfl)
    have ne_en_dr : en ≠ dr := Ne.symm ne_dr_en
    have ne_dr_la : dr ≠ la := pw_ne hap 3 5 (by decide) (Nat.le_of_ble_eq_true rfl)
    have ne_la_dr : la ≠ dr := Ne.symm ne_dr_la
    have ne_dr_wo : dr ≠ wo := pw_ne hap 3 6 (by decide) (Nat.le_of_ble_eq_true rfl)
    have ne_wo_dr : wo ≠ dr := Ne.symm ne_dr_wo
    have ne_dr_op : dr ≠ op := pw_ne hap 3 7 (by decide) (Nat.le_of_ble_eq_true rfl)
    have ne_op_dr : op ≠ dr := Ne.symm ne_dr_op
    have ne_dr_mk : dr ≠ mk := pw_ne hap 3 8 (by decide) (Nat.le_of_ble_eq_true rfl)
    have ne_mk_dr : mk ≠ dr := Ne.symm ne_dr_mk
    have ne_dr_ir : dr ≠ ir := pw_ne hap 3 9 (by decide) (Nat.le_of_ble_eq_true rfl)
    have ne_ir_dr : ir ≠ dr := Ne.symm ne_dr_ir
    have ne_en_la : en ≠ la := pw_ne hap 4 5 (by decide) (Nat.le_of_ble_eq_true rfl)
    have ne_la_en : la ≠ en := Ne.symm ne_en_la
    have ne_en_wo : en ≠ wo := pw_ne hap 4 6 (by decide) (Nat.le_of_ble_eq_true rfl)
    have ne_wo_en : wo ≠ en := Ne.symm ne_en_wo
    have ne_en_op : en ≠ op := pw_ne hap 4 7 (by decide) (Nat.le_of_ble_eq_true rfl)
    have ne_op_en : op ≠ en := Ne.symm ne_en_op
    have ne_en_mk : en ≠ mk := pw_ne hap 4 8 (by decide) (Nat.le_of_ble_eq_true rfl)
    have ne_mk_en : mk ≠ en := Ne.symm ne_en_mk
    have ne_en_ir : en ≠ ir := pw_ne hap 4 9 (by decide) (Nat.le_of_ble_eq_true rfl)
    have ne_ir_en : ir ≠ en := Ne.symm ne_en_ir
    have ne_la_wo : la ≠ wo := pw_ne hap 5 6 (by decide) (Nat.le_of_ble_eq_true rfl)
    have ne_wo_la : wo ≠ la := Ne.symm ne_la_wo
    have ne_la_op : la ≠ op := pw_ne hap 5 7 (by decide) (Nat.le_of_ble_eq_true rfl)
    have ne_op_la : op ≠ la := Ne.symm ne_la_op
    have ne_la_mk : la ≠ mk := pw_ne hap 5 8 (by decide) (Nat.le_of_ble_eq_true rfl)
    have ne_mk_la : mk ≠ la := Ne.symm ne_la_mk
    have ne_la_ir : la ≠ ir := pw_ne hap 5 9 (by decide) (Nat.le_of_ble_eq_true rfl)
    have ne_ir_la : ir ≠ la := Ne.symm ne_la_ir
    have ne_wo_op : wo ≠ op := pw_ne hap 6 7 (by decide) (Nat.le_of_ble_eq_true rfl)
    have ne_op_wo : op ≠ wo := Ne.symm ne_wo_op
    have ne_wo_mk : wo ≠ mk := pw_ne hap 6 8 (by decide) (Nat.le_of_ble_eq_true rfl)
    have ne_mk_wo : mk ≠ wo := Ne.symm ne_wo_mk
    have ne_wo_ir : wo ≠ ir := pw_ne hap 6 9 (by decide) (Nat.le_of_ble_eq_true rfl)
    have ne_ir_wo : ir ≠ wo := Ne.symm ne_wo_ir
    have ne_op_mk : op ≠ mk := pw_ne hap 7 8 (by decide) (Nat.le_of_ble_eq_true rfl)
    have ne_mk_op : mk ≠ op := Ne.symm ne_op_mk
    have ne_op_ir : op ≠ ir := pw_ne hap 7 9 (by decide) (Nat.le_of_ble_eq_true rfl)
    have ne_ir_op : ir ≠ op := Ne.symm ne_op_ir
    have ne_mk_ir : mk ≠ ir := pw_ne hap 8 9 (by decide) (Nat.le_of_ble_eq_true rfl)
    have ne_ir_mk : ir ≠ mk := Ne.symm ne_mk_ir
    refine W.eq (g2 := F0 m 40 ls []) rfl ?_
    refine W.widen (k := 0) (n := 0) (Nat.le_of_ble_eq_true rfl) (Nat.le_of_ble_eq_true rfl) ?_
    have hm : mm D (AZ z) Mc1 H := hm
    refine lv_iinc (v := 1) (lv' := [(3, .int 1), (0, .ref mo), (1, .int 2), (2, .int 0)]) hx hb dX6_copyTree_40 hl (k := 0) rfl rfl (by decide) rfl (fun ls hl => ?_)
    refine lv_goto (tgt := 14) hx hb dX6_copyTree_43 (by decide) ?_
    refine lv_iload_n hx hb dX6_copyTree_14 rfl (lv_at hl 0 rfl) ?_
    refine lv_aload_n hx hb dX6_copyTree_15 rfl (lv_at hl 1 rfl) ?_
    refine m_get (T := TX6) (N := 24) (ci := 6) (v := .ref cn) hx hb hts wX6 hown hK hm hM rfl 1 (by decide) f7 (fun _ h9 => h9) rfl dX6_copyTree_16 ?_
    refine lv_iload_n hx hb dX6_copyTree_19 rfl (lv_at hl 3 rfl) ?_
    refine m_iald hx hb hK hm 0 hcn rfl (by unfold vp_in; decide) dX6_copyTree_20 ?_
    have hc1 : (fcn (0 : Int32).toNatClampNeg) = 1 := hc0
    refine W.eq (g2 := F0 m 21 ls [.int 1, .int 1]) (by rw [hc1]) ?_
    refine lv_icmp_ge (tgt := 46) hx hb dX6_copyTree_21 (by decide) (fun c2 => ?_) (fun c2 => ?_)
    · refine W.vret hx hb hr (fun t ht hW => ⟨⟨none, _, rfl, ?_, by rw [ht]; exact hm⟩, hS.F ht⟩) hS.2.2 dX6_copyTree_46
      exact ⟨rfl, hWk, hkp⟩
    · first | exact absurd c2 (by decide) | exact absurd (by decide) c2
