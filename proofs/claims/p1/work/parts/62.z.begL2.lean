set_option maxHeartbeats 4000000 in
set_option maxRecDepth 100000 in
theorem cL_X6_begin (l : Launch) (D : va_G) (k : Nat → ClassId) (z : Nat) (M : mM) (mo : Nat) (hF : mFr k M mo 0) : mK l yX6_begin wsX6_begin ({ frames := 2, cells := 0, slots := 0, locals := 46 }) D k z [.ref mo] M (fun v M' => v = some (.int 0) ∧ codeIs M' mo 0 ∧ kL k M M') := by
  refine Met.ofW (cc := cX6_begin) (maxL := 3) (ret := (some .int)) (by decide) rfl ?_
  intro p e s m args below meth c s₁ B hml hv
  obtain ⟨rfl, hz, hcx, hm⟩ := hv
  have hx := B.exec
  have hb := B.bytes
  have hr := B.returns
  have hts := atoms_spec (ws := wsX6_begin) B.pre
  have hown : s.vm.findClass RX6 = some m.cls := findClass_of_methodNamed B.named
  have hlocks := B.notSynchronized
  have hK := hcx.1
  have hS : va_S (AZ z) s.heap s.heap [] := va_S.rf
  have hA : ∀ q, s.heap.size ≤ q → AZ z q := fun q h => Nat.le_trans hz h
  have hl := lv_entry ([.ref mo]) (n := 3) (Nat.le_of_ble_eq_true rfl)
  rw [lg_entry_eq]
  generalize (lg_sl ([.ref mo]) ++ List.replicate (3 - (lg_sl ([.ref mo])).length) Slot.unset).toArray = ls at hl ⊢
  have hl : lv_has ls 3 [(0, .ref mo)] := hl
  have f35 := hts (.fieldLink RX6 35 "CommitTreeModel" "open" "[Z") (by decide +kernel)
  have f38 := hts (.fieldLink RX6 38 "CommitTreeModel" "marks" "[I") (by decide +kernel)
  have f42 := hts (.fieldLink RX6 42 "CommitTreeModel" "isRead" "[Z") (by decide +kernel)
  have f94 := hts (.fieldLink RX6 94 "CommitTreeModel" "down" "Z") (by decide +kernel)
  have wX6 : ∀ w ∈ wsX60, w ∈ wsX6_begin := by decide +kernel
  obtain ⟨cn, ia, dr, en, la, wo, op, mk, ir, se, ec, lc, wc, ol, al, hap, hM, hcn, hia, hdr, hen, hla, hwo, hop, hmk, hir⟩ := id hF
  have ne_mo_cn : mo ≠ cn := pw_ne hap 0 1 (by decide) (Nat.le_of_ble_eq_true rfl)
  have ne_cn_mo : cn ≠ mo := Ne.symm ne_mo_cn
  have ne_mo_ia : mo ≠ ia := pw_ne hap 0 2 (by decide) (Nat.le_of_ble_eq_true rfl)
  have ne_ia_mo : ia ≠ mo := Ne.symm ne_mo_ia
  have ne_mo_dr : mo ≠ dr := pw_ne hap 0 3 (by decide) (Nat.le_of_ble_eq_true rfl)
  have ne_dr_mo : dr ≠ mo := Ne.symm ne_mo_dr
  have ne_mo_en : mo ≠ en := pw_ne hap 0 4 (by decide) (Nat.le_of_ble_eq_true rfl)
  have ne_en_mo : en ≠ mo := Ne.symm ne_mo_en
  have ne_mo_la : mo ≠ la := pw_ne hap 0 5 (by decide) (Nat.le_of_ble_eq_true rfl)
  have ne_la_mo : la ≠ mo := Ne.symm ne_mo_la
  have ne_mo_wo : mo ≠ wo := pw_ne hap 0 6 (by decide) (Nat.le_of_ble_eq_true rfl)
  have ne_wo_mo : wo ≠ mo := Ne.symm ne_mo_wo
  have ne_mo_op : mo ≠ op := pw_ne hap 0 7 (by decide) (Nat.le_of_ble_eq_true rfl)
  have ne_op_mo : op ≠ mo := Ne.symm ne_mo_op
  have ne_mo_mk : mo ≠ mk := pw_ne hap 0 8 (by decide) (Nat.le_of_ble_eq_true rfl)
  have ne_mk_mo : mk ≠ mo := Ne.symm ne_mo_mk
  have ne_mo_ir : mo ≠ ir := pw_ne hap 0 9 (by decide) (Nat.le_of_ble_eq_true rfl)
  have ne_ir_mo : ir ≠ mo := Ne.symm ne_mo_ir
  have ne_cn_ia : cn ≠ ia := pw_ne hap 1 2 (by decide) (Nat.le_of_ble_eq_true rfl)
  have ne_ia_cn : ia ≠ cn := Ne.symm ne_cn_ia
  have ne_cn_dr : cn ≠ dr := pw_ne hap 1 3 (by decide) (Nat.le_of_ble_eq_true rfl)
  have ne_dr_cn : dr ≠ cn := Ne.symm ne_cn_dr
  have ne_cn_en : cn ≠ en := pw_ne hap 1 4 (by decide) (Nat.le_of_ble_eq_true rfl)
  have ne_en_cn : en ≠ cn := Ne.symm ne_cn_en
  have ne_cn_la : cn ≠ la := pw_ne hap 1 5 (by decide) (Nat.le_of_ble_eq_true rfl)
  have ne_la_cn : la ≠ cn := Ne.symm ne_cn_la
  have ne_cn_wo : cn ≠ wo := pw_ne hap 1 6 (by decide) (Nat.le_of_ble_eq_true rfl)
  have ne_wo_cn : wo ≠ cn := Ne.symm ne_cn_wo
  have ne_cn_op : cn ≠ op := pw_ne hap 1 7 (by decide) (Nat.le_of_ble_eq_true rfl)
  have ne_op_cn : op ≠ cn := Ne.symm ne_cn_op
  have ne_cn_mk : cn ≠ mk := pw_ne hap 1 8 (by decide) (Nat.le_of_ble_eq_true rfl)
  have ne_mk_cn : mk ≠ cn := Ne.symm ne_cn_mk
  have ne_cn_ir : cn ≠ ir := pw_ne hap 1 9 (by decide) (Nat.le_of_ble_eq_true rfl)
  have ne_ir_cn : ir ≠ cn := Ne.symm ne_cn_ir
  have ne_ia_dr : ia ≠ dr := pw_ne hap 2 3 (by decide) (Nat.le_of_ble_eq_true rfl)
  have ne_dr_ia : dr ≠ ia := Ne.symm ne_ia_dr
  have ne_ia_en : ia ≠ en := pw_ne hap 2 4 (by decide) (Nat.le_of_ble_eq_true rfl)
  have ne_en_ia : en ≠ ia := Ne.symm ne_ia_en
  have ne_ia_la : ia ≠ la := pw_ne hap 2 5 (by decide) (Nat.le_of_ble_eq_true rfl)
  have ne_la_ia : la ≠ ia := Ne.symm ne_ia_la
  have ne_ia_wo : ia ≠ wo := pw_ne hap 2 6 (by decide) (Nat.le_of_ble_eq_true rfl)
  have ne_wo_ia : wo ≠ ia := Ne.symm ne_ia_wo
  have ne_ia_op : ia ≠ op := pw_ne hap 2 7 (by decide) (Nat.le_of_ble_eq_true rfl)
  have ne_op_ia : op ≠ ia := Ne.symm ne_ia_op
  have ne_ia_mk : ia ≠ mk := pw_ne hap 2 8 (by decide) (Nat.le_of_ble_eq_true rfl)
  have ne_mk_ia : mk ≠ ia := Ne.symm ne_ia_mk
  have ne_ia_ir : ia ≠ ir := pw_ne hap 2 9 (by decide) (Nat.le_of_ble_eq_true rfl)
  have ne_ir_ia : ir ≠ ia := Ne.symm ne_ia_ir
  have ne_dr_en : dr ≠ en := pw_ne hap 3 4 (by decide) (Nat.le_of_ble_eq_true rfl)
  have ne_en_dr : en ≠ dr := Ne.symm ne_dr_en
  have ne_dr_la : dr ≠ la := pw_ne hap 3 5 (by decide) (Nat.le_of_ble_eq_true rfl)
  have ne_la_dr : la ≠ dr := Ne.symm ne_dr_la
  have ne_dr_wo : dr ≠ wo := pw_ne hap 3 6 (by decide) (Nat.le_of_ble_eq_true rfl)
  have ne_wo_dr : wo ≠ dr := Ne.symm ne_dr_wo
  have ne_dr_op : dr ≠ op := pw_ne hap 3 7 (by decide) (Nat.le_of_ble_eq_true rfl)
  have ne_op_dr : op ≠ dr := Ne.symm ne_dr_op
  have ne_dr_mk : dr ≠ mk := pw_ne hap 3 8 (by decide) (Nat.le_of_ble_eq_true rfl)
  have ne_mk_dr : mk ≠ dr := Ne.symm ne_dr_mk
  have ne_dr_ir : dr ≠ ir := pw_ne hap 3 9 (by decide) (Nat.le_of_ble_eq_true rfl)
  have ne_ir_dr : ir ≠ dr := Ne.symm ne_dr_ir
  have ne_en_la : en ≠ la := pw_ne hap 4 5 (by decide) (Nat.le_of_ble_eq_true rfl)
  have ne_la_en : la ≠ en := Ne.symm ne_en_la
  have ne_en_wo : en ≠ wo := pw_ne hap 4 6 (by decide) (Nat.le_of_ble_eq_true rfl)
  have ne_wo_en : wo ≠ en := Ne.symm ne_en_wo
  have ne_en_op : en ≠ op := pw_ne hap 4 7 (by decide) (Nat.le_of_ble_eq_true rfl)
  have ne_op_en : op ≠ en := Ne.symm ne_en_op
  have ne_en_mk : en ≠ mk := pw_ne hap 4 8 (by decide) (Nat.le_of_ble_eq_true rfl)
  have ne_mk_en : mk ≠ en := Ne.symm ne_en_mk
  have ne_en_ir : en ≠ ir := pw_ne hap 4 9 (by decide) (Nat.le_of_ble_eq_true rfl)
  have ne_ir_en : ir ≠ en := Ne.symm ne_en_ir
  have ne_la_wo : la ≠ wo := pw_ne hap 5 6 (by decide) (Nat.le_of_ble_eq_true rfl)
  have ne_wo_la : wo ≠ la := Ne.symm ne_la_wo
  have ne_la_op : la ≠ op := pw_ne hap 5 7 (by decide) (Nat.le_of_ble_eq_true rfl)
  have ne_op_la : op ≠ la := Ne.symm ne_la_op
  have ne_la_mk : la ≠ mk := pw_ne hap 5 8 (by decide) (Nat.le_of_ble_eq_true rfl)
  have ne_mk_la : mk ≠ la := Ne.symm ne_la_mk
  have ne_la_ir : la ≠ ir := pw_ne hap 5 9 (by decide) (Nat.le_of_ble_eq_true rfl)
  have ne_ir_la : ir ≠ la := Ne.symm ne_la_ir
  have ne_wo_op : wo ≠ op := pw_ne hap 6 7 (by decide) (Nat.le_of_ble_eq_true rfl)
  have ne_op_wo : op ≠ wo := Ne.symm ne_wo_op
  have ne_wo_mk : wo ≠ mk := pw_ne hap 6 8 (by decide) (Nat.le_of_ble_eq_true rfl)
  have ne_mk_wo : mk ≠ wo := Ne.symm ne_wo_mk
  have ne_wo_ir : wo ≠ ir := pw_ne hap 6 9 (by decide) (Nat.le_of_ble_eq_true rfl)
  have ne_ir_wo : ir ≠ wo := Ne.symm ne_wo_ir
  have ne_op_mk : op ≠ mk := pw_ne hap 7 8 (by decide) (Nat.le_of_ble_eq_true rfl)
  have ne_mk_op : mk ≠ op := Ne.symm ne_op_mk
  have ne_op_ir : op ≠ ir := pw_ne hap 7 9 (by decide) (Nat.le_of_ble_eq_true rfl)
  have ne_ir_op : ir ≠ op := Ne.symm ne_op_ir
  have ne_mk_ir : mk ≠ ir := pw_ne hap 8 9 (by decide) (Nat.le_of_ble_eq_true rfl)
  have ne_ir_mk : ir ≠ mk := Ne.symm ne_mk_ir
  have hkp : kL k M M := kL.refl _
  refine lv_iconst (v := 0) hx hb dX6_begin_0 (by decide) ?_
  refine lv_istore_n (lv' := [(1, .int 0), (0, .ref mo)]) hx hb dX6_begin_1 rfl hl (by decide) rfl (fun ls hl => ?_)
  refine lv_iload_n hx hb dX6_begin_2 rfl (lv_at hl 0 rfl) ?_
  refine lv_bipush (v := 6) hx hb dX6_begin_3 (by decide) ?_
  refine lv_icmp_ge (tgt := 23) hx hb dX6_begin_5 (by decide) (fun c1 => ?_) (fun c1 => ?_)
  · first | exact absurd c1 (by decide) | exact absurd (by decide) c1
  · refine lv_aload_n hx hb dX6_begin_8 rfl (lv_at hl 1 rfl) ?_
    refine m_get (T := TX6) (N := 24) (ci := 6) (v := .ref op) hx hb hts wX6 hown hK hm hM rfl 8 (by decide) f35 (fun _ h9 => h9) rfl dX6_begin_9 ?_
    refine lv_iload_n hx hb dX6_begin_12 rfl (lv_at hl 0 rfl) ?_
    refine m_zald hx hb hK hm 2 hop rfl (by unfold vp_in; decide) dX6_begin_13 ?_
    refine lv_if_eq (tgt := 23) hx hb dX6_begin_14 (by decide) (fun c2 => ?_) (fun c2 => ?_)
    · refine lv_aload_n hx hb dX6_begin_23 rfl (lv_at hl 1 rfl) ?_
      refine lv_aload_n hx hb dX6_begin_24 rfl (lv_at hl 1 rfl) ?_
      refine m_get (T := TX6) (N := 24) (ci := 6) (v := .int 0) hx hb hts wX6 hown hK hm hM rfl 11 (by decide) f94 (fun _ h9 => h9) rfl dX6_begin_25 ?_
      refine lv_if_eq (tgt := 35) hx hb dX6_begin_28 (by decide) (fun c3 => ?_) (fun c3 => ?_)
      · refine lv_iload_n hx hb dX6_begin_35 rfl (lv_at hl 0 rfl) ?_
        refine lv_bipush (v := 6) hx hb dX6_begin_36 (by decide) ?_
        refine lv_icmp_ne (tgt := 45) hx hb dX6_begin_38 (by decide) (fun c4 => ?_) (fun c4 => ?_)
        · refine lv_iconst (v := 0) hx hb dX6_begin_45 (by decide) ?_
          refine m_kV (As := [.int 0]) (rest := []) (rm := { frames := 0, cells := 0, slots := 0, locals := 0 }) ⟨hx, hb, hml, hown, hts⟩ (cL_X6_fails l D k z _ mo 0 0 hF) (cwV 1 hts gX6_begin_X6_fails rfl rfl rfl (by decide +kernel) ⟨Nat.le_of_ble_eq_true rfl, Nat.le_of_ble_eq_true rfl⟩) (m_recv hK hm (q := (RX6, TX6, 24)) rfl hM) hz hcx hm hS rfl hl.1 rfl (Nat.le_of_ble_eq_true rfl) dX6_begin_46 ⟨Nat.le_of_ble_eq_true rfl, Nat.le_of_ble_eq_true rfl⟩ (fun v M1 H locs hv hm hS => ?_)
          obtain ⟨hv1, hF, hL9⟩ := hv
          have hv1 : v = some (.int 0) := hv1.trans (by decide)
          subst hv1
          have hkp := hkp.trans hL9
          obtain ⟨Mc1, hMx⟩ : ∃ x : mM, x = M1 := ⟨M1, rfl⟩
          subst hMx
          obtain ⟨cn, ia, dr, en, la, wo, op, mk, ir, se, ec, lc, wc, ol, al, hap, hM, hcn, hia, hdr, hen, hla, hwo, hop, hmk, hir⟩ := id hF
          have ne_mo_cn : mo ≠ cn := pw_ne hap 0 1 (by decide) (Nat.le_of_ble_eq_true rfl)
          have ne_cn_mo : cn ≠ mo := Ne.symm ne_mo_cn
          have ne_mo_ia : mo ≠ ia := pw_ne hap 0 2 (by decide) (Nat.le_of_ble_eq_true rfl)
          have ne_ia_mo : ia ≠ mo := Ne.symm ne_mo_ia
          have ne_mo_dr : mo ≠ dr := pw_ne hap 0 3 (by decide) (Nat.le_of_ble_eq_true rfl)
          have ne_dr_mo : dr ≠ mo := Ne.symm ne_mo_dr
          have ne_mo_en : mo ≠ en := pw_ne hap 0 4 (by decide) (Nat.le_of_ble_eq_true rfl)
          have ne_en_mo : en ≠ mo := Ne.symm ne_mo_en
          have ne_mo_la : mo ≠ la := pw_ne hap 0 5 (by decide) (Nat.le_of_ble_eq_true rfl)
          have ne_la_mo : la ≠ mo := Ne.symm ne_mo_la
          have ne_mo_wo : mo ≠ wo := pw_ne hap 0 6 (by decide) (Nat.le_of_ble_eq_true rfl)
          have ne_wo_mo : wo ≠ mo := Ne.symm ne_mo_wo
          have ne_mo_op : mo ≠ op := pw_ne hap 0 7 (by decide) (Nat.le_of_ble_eq_true rfl)
          have ne_op_mo : op ≠ mo := Ne.symm ne_mo_op
          have ne_mo_mk : mo ≠ mk := pw_ne hap 0 8 (by decide) (Nat.le_of_ble_eq_true rfl)
          have ne_mk_mo : mk ≠ mo := Ne.symm ne_mo_mk
          have ne_mo_ir : mo ≠ ir := pw_ne hap 0 9 (by decide) (Nat.le_of_ble_eq_true rfl)
          have ne_ir_mo : ir ≠ mo := Ne.symm ne_mo_ir
          have ne_cn_ia : cn ≠ ia := pw_ne hap 1 2 (by decide) (Nat.le_of_ble_eq_true rfl)
          have ne_ia_cn : ia ≠ cn := Ne.symm ne_cn_ia
          have ne_cn_dr : cn ≠ dr := pw_ne hap 1 3 (by decide) (Nat.le_of_ble_eq_true rfl)
          have ne_dr_cn : dr ≠ cn := Ne.symm ne_cn_dr
          have ne_cn_en : cn ≠ en := pw_ne hap 1 4 (by decide) (Nat.le_of_ble_eq_true rfl)
          have ne_en_cn : en ≠ cn := Ne.symm ne_cn_en
          have ne_cn_la : cn ≠ la := pw_ne hap 1 5 (by decide) (Nat.le_of_ble_eq_true rfl)
          have ne_la_cn : la ≠ cn := Ne.symm ne_cn_la
          have ne_cn_wo : cn ≠ wo := pw_ne hap 1 6 (by decide) (Nat.le_of_ble_eq_true rfl)
          have ne_wo_cn : wo ≠ cn := Ne.symm ne_cn_wo
          have ne_cn_op : cn ≠ op := pw_ne hap 1 7 (by decide) (Nat.le_of_ble_eq_true rfl)
          have ne_op_cn : op ≠ cn := Ne.symm ne_cn_op
          have ne_cn_mk : cn ≠ mk := pw_ne hap 1 8 (by decide) (Nat.le_of_ble_eq_true rfl)
          have ne_mk_cn : mk ≠ cn := Ne.symm ne_cn_mk
          have ne_cn_ir : cn ≠ ir := pw_ne hap 1 9 (by decide) (Nat.le_of_ble_eq_true rfl)
          have ne_ir_cn : ir ≠ cn := Ne.symm ne_cn_ir
          have ne_ia_dr : ia ≠ dr := pw_ne hap 2 3 (by decide) (Nat.le_of_ble_eq_true rfl)
          have ne_dr_ia : dr ≠ ia := Ne.symm ne_ia_dr
          have ne_ia_en : ia ≠ en := pw_ne hap 2 4 (by decide) (Nat.le_of_ble_eq_true rfl)
          have ne_en_ia : en ≠ ia := Ne.symm ne_ia_en
          have ne_ia_la : ia ≠ la := pw_ne hap 2 5 (by decide) (Nat.le_of_ble_eq_true rfl)
          have ne_la_ia : la ≠ ia := Ne.symm ne_ia_la
          have ne_ia_wo : ia ≠ wo := pw_ne hap 2 6 (by decide) (Nat.le_of_ble_eq_true rfl)
          have ne_wo_ia : wo ≠ ia := Ne.symm ne_ia_wo
          have ne_ia_op : ia ≠ op := pw_ne hap 2 7 (by decide) (Nat.le_of_ble_eq_true rfl)
          have ne_op_ia : op ≠ ia := Ne.symm ne_ia_op
          have ne_ia_mk : ia ≠ mk := pw_ne hap 2 8 (by decide) (Nat.le_of_ble_eq_true rfl)
          have ne_mk_ia : mk ≠ ia := Ne.symm ne_ia_mk
          have ne_ia_ir : ia ≠ ir := pw_ne hap 2 9 (by decide) (Nat.le_of_ble_eq_true rfl)
          have ne_ir_ia : ir ≠ ia := Ne.symm ne_ia_ir
          have ne_dr_en : dr ≠ en := pw_ne hap 3 4 (by decide) (Nat.le_of_ble_eq_true rfl)
          have ne_en_dr : en ≠ dr := Ne.symm ne_dr_en
          have ne_dr_la : dr ≠ la := pw_ne hap 3 5 (by decide) (Nat.le_of_ble_eq_true rfl)
          have ne_la_dr : la ≠ dr := Ne.symm ne_dr_la
          have ne_dr_wo : dr ≠ wo := pw_ne hap 3 6 (by decide) (Nat.le_of_ble_eq_true rfl)
          have ne_wo_dr : wo ≠ dr := Ne.symm ne_dr_wo
          have ne_dr_op : dr ≠ op := pw_ne hap 3 7 (by decide) (Nat.le_of_ble_eq_true rfl)
          have ne_op_dr : op ≠ dr := Ne.symm ne_dr_op
          have ne_dr_mk : dr ≠ mk := pw_ne hap 3 8 (by decide) (Nat.le_of_ble_eq_true rfl)
          have ne_mk_dr : mk ≠ dr := Ne.symm ne_dr_mk
          have ne_dr_ir : dr ≠ ir := pw_ne hap 3 9 (by decide) (Nat.le_of_ble_eq_true rfl)
          have ne_ir_dr : ir ≠ dr := Ne.symm ne_dr_ir
          have ne_en_la : en ≠ la := pw_ne hap 4 5 (by decide) (Nat.le_of_ble_eq_true rfl)
          have ne_la_en : la ≠ en := Ne.symm ne_en_la
          have ne_en_wo : en ≠ wo := pw_ne hap 4 6 (by decide) (Nat.le_of_ble_eq_true rfl)
          have ne_wo_en : wo ≠ en := Ne.symm ne_en_wo
          have ne_en_op : en ≠ op := pw_ne hap 4 7 (by decide) (Nat.le_of_ble_eq_true rfl)
          have ne_op_en : op ≠ en := Ne.symm ne_en_op
          have ne_en_mk : en ≠ mk := pw_ne hap 4 8 (by decide) (Nat.le_of_ble_eq_true rfl)
          have ne_mk_en : mk ≠ en := Ne.symm ne_en_mk
          have ne_en_ir : en ≠ ir := pw_ne hap 4 9 (by decide) (Nat.le_of_ble_eq_true rfl)
          have ne_ir_en : ir ≠ en := Ne.symm ne_en_ir
          have ne_la_wo : la ≠ wo := pw_ne hap 5 6 (by decide) (Nat.le_of_ble_eq_true rfl)
          have ne_wo_la : wo ≠ la := Ne.symm ne_la_wo
          have ne_la_op : la ≠ op := pw_ne hap 5 7 (by decide) (Nat.le_of_ble_eq_true rfl)
          have ne_op_la : op ≠ la := Ne.symm ne_la_op
          have ne_la_mk : la ≠ mk := pw_ne hap 5 8 (by decide) (Nat.le_of_ble_eq_true rfl)
          have ne_mk_la : mk ≠ la := Ne.symm ne_la_mk
          have ne_la_ir : la ≠ ir := pw_ne hap 5 9 (by decide) (Nat.le_of_ble_eq_true rfl)
          have ne_ir_la : ir ≠ la := Ne.symm ne_la_ir
          have ne_wo_op : wo ≠ op := pw_ne hap 6 7 (by decide) (Nat.le_of_ble_eq_true rfl)
          have ne_op_wo : op ≠ wo := Ne.symm ne_wo_op
          have ne_wo_mk : wo ≠ mk := pw_ne hap 6 8 (by decide) (Nat.le_of_ble_eq_true rfl)
          have ne_mk_wo : mk ≠ wo := Ne.symm ne_wo_mk
          have ne_wo_ir : wo ≠ ir := pw_ne hap 6 9 (by decide) (Nat.le_of_ble_eq_true rfl)
          have ne_ir_wo : ir ≠ wo := Ne.symm ne_wo_ir
          have ne_op_mk : op ≠ mk := pw_ne hap 7 8 (by decide) (Nat.le_of_ble_eq_true rfl)
          have ne_mk_op : mk ≠ op := Ne.symm ne_op_mk
          have ne_op_ir : op ≠ ir := pw_ne hap 7 9 (by decide) (Nat.le_of_ble_eq_true rfl)
          have ne_ir_op : ir ≠ op := Ne.symm ne_op_ir
          have ne_mk_ir : mk ≠ ir := pw_ne hap 8 9 (by decide) (Nat.le_of_ble_eq_true rfl)
          have ne_ir_mk : ir ≠ mk := Ne.symm ne_mk_ir
          have ne_mo_cn : mo ≠ cn := pw_ne hap 0 1 (by decide) (Nat.le_of_ble_eq_true rfl)
          have ne_cn_mo : cn ≠ mo := Ne.symm ne_mo_cn
          have ne_mo_ia : mo ≠ ia := pw_ne hap 0 2 (by decide) (Nat.le_of_ble_eq_true rfl)
          have ne_ia_mo : ia ≠ mo := Ne.symm ne_mo_ia
          have ne_mo_dr : mo ≠ dr := pw_ne hap 0 3 (by decide) (Nat.le_of_ble_eq_true rfl)
          have ne_dr_mo : dr ≠ mo := Ne.symm ne_mo_dr
          have ne_mo_en : mo ≠ en := pw_ne hap 0 4 (by decide) (Nat.le_of_ble_eq_true rfl)
          have ne_en_mo : en ≠ mo := Ne.symm ne_mo_en
          have ne_mo_la : mo ≠ la := pw_ne hap 0 5 (by decide) (Nat.le_of_ble_eq_true rfl)
          have ne_la_mo : la ≠ mo := Ne.symm ne_mo_la
          have ne_mo_wo : mo ≠ wo := pw_ne hap 0 6 (by decide) (Nat.le_of_ble_eq_true rfl)
          have ne_wo_mo : wo ≠ mo := Ne.symm ne_mo_wo
          have ne_mo_op : mo ≠ op := pw_ne hap 0 7 (by decide) (Nat.le_of_ble_eq_true rfl)
          have ne_op_mo : op ≠ mo := Ne.symm ne_mo_op
          have ne_mo_mk : mo ≠ mk := pw_ne hap 0 8 (by decide) (Nat.le_of_ble_eq_true rfl)
          have ne_mk_mo : mk ≠ mo := Ne.symm ne_mo_mk
          have ne_mo_ir : mo ≠ ir := pw_ne hap 0 9 (by decide) (Nat.le_of_ble_eq_true rfl)
          have ne_ir_mo : ir ≠ mo := Ne.symm ne_mo_ir
          have ne_cn_ia : cn ≠ ia := pw_ne hap 1 2 (by decide) (Nat.le_of_ble_eq_true rfl)
          have ne_ia_cn : ia ≠ cn := Ne.symm ne_cn_ia
          have ne_cn_dr : cn ≠ dr := pw_ne hap 1 3 (by decide) (Nat.le_of_ble_eq_true rfl)
          have ne_dr_cn : dr ≠ cn := Ne.symm ne_cn_dr
          have ne_cn_en : cn ≠ en := pw_ne hap 1 4 (by decide) (Nat.le_of_ble_eq_true rfl)
          have ne_en_cn : en ≠ cn := Ne.symm ne_cn_en
          have ne_cn_la : cn ≠ la := pw_ne hap 1 5 (by decide) (Nat.le_of_ble_eq_true rfl)
          have ne_la_cn : la ≠ cn := Ne.symm ne_cn_la
          have ne_cn_wo : cn ≠ wo := pw_ne hap 1 6 (by decide) (Nat.le_of_ble_eq_true rfl)
          have ne_wo_cn : wo ≠ cn := Ne.symm ne_cn_wo
          have ne_cn_op : cn ≠ op := pw_ne hap 1 7 (by decide) (Nat.le_of_ble_eq_true rfl)
          have ne_op_cn : op ≠ cn := Ne.symm ne_cn_op
          have ne_cn_mk : cn ≠ mk := pw_ne hap 1 8 (by decide) (Nat.le_of_ble_eq_true rfl)
          have ne_mk_cn : mk ≠ cn := Ne.symm ne_cn_mk
          have ne_cn_ir : cn ≠ ir := pw_ne hap 1 9 (by decide) (Nat.le_of_ble_eq_true rfl)
          have ne_ir_cn : ir ≠ cn := Ne.symm ne_cn_ir
          have ne_ia_dr : ia ≠ dr := pw_ne hap 2 3 (by decide) (Nat.le_of_ble_eq_true rfl)
          have ne_dr_ia : dr ≠ ia := Ne.symm ne_ia_dr
          have ne_ia_en : ia ≠ en := pw_ne hap 2 4 (by decide) (Nat.le_of_ble_eq_true rfl)
          have ne_en_ia : en ≠ ia := Ne.symm ne_ia_en
          have ne_ia_la : ia ≠ la := pw_ne hap 2 5 (by decide) (Nat.le_of_ble_eq_true rfl)
          have ne_la_ia : la ≠ ia := Ne.symm ne_ia_la
          have ne_ia_wo : ia ≠ wo := pw_ne hap 2 6 (by decide) (Nat.le_of_ble_eq_true rfl)
          have ne_wo_ia : wo ≠ ia := Ne.symm ne_ia_wo
          have ne_ia_op : ia ≠ op := pw_ne hap 2 7 (by decide) (Nat.le_of_ble_eq_true rfl)
          have ne_op_ia : op ≠ ia := Ne.symm ne_ia_op
          have ne_ia_mk : ia ≠ mk := pw_ne hap 2 8 (by decide) (Nat.le_of_ble_eq_true rfl)
          have ne_mk_ia : mk ≠ ia := Ne.symm ne_ia_mk
          have ne_ia_ir : ia ≠ ir := pw_ne hap 2 9 (by decide) (Nat.le_of_ble_eq_true rfl)
          have ne_ir_ia : ir ≠ ia := Ne.symm ne_ia_ir
          have ne_dr_en : dr ≠ en := pw_ne hap 3 4 (by decide) (Nat.le_of_ble_eq_true rfl)
          have ne_en_dr : en ≠ dr := Ne.symm ne_dr_en
          have ne_dr_la : dr ≠ la := pw_ne hap 3 5 (by decide) (Nat.le_of_ble_eq_true rfl)
          have ne_la_dr : la ≠ dr := Ne.symm ne_dr_la
          have ne_dr_wo : dr ≠ wo := pw_ne hap 3 6 (by decide) (Nat.le_of_ble_eq_true rfl)
          have ne_wo_dr : wo ≠ dr := Ne.symm ne_dr_wo
          have ne_dr_op : dr ≠ op := pw_ne hap 3 7 (by decide) (Nat.le_of_ble_eq_true rfl)
          have ne_op_dr : op ≠ dr := Ne.symm ne_dr_op
          have ne_dr_mk : dr ≠ mk := pw_ne hap 3 8 (by decide) (Nat.le_of_ble_eq_true rfl)
          have ne_mk_dr : mk ≠ dr := Ne.symm ne_dr_mk
          have ne_dr_ir : dr ≠ ir := pw_ne hap 3 9 (by decide) (Nat.le_of_ble_eq_true rfl)
          have ne_ir_dr : ir ≠ dr := Ne.symm ne_dr_ir
          have ne_en_la : en ≠ la := pw_ne hap 4 5 (by decide) (Nat.le_of_ble_eq_true rfl)
          have ne_la_en : la ≠ en := Ne.symm ne_en_la
          have ne_en_wo : en ≠ wo := pw_ne hap 4 6 (by decide) (Nat.le_of_ble_eq_true rfl)
          have ne_wo_en : wo ≠ en := Ne.symm ne_en_wo
          have ne_en_op : en ≠ op := pw_ne hap 4 7 (by decide) (Nat.le_of_ble_eq_true rfl)
          have ne_op_en : op ≠ en := Ne.symm ne_en_op
          have ne_en_mk : en ≠ mk := pw_ne hap 4 8 (by decide) (Nat.le_of_ble_eq_true rfl)
          have ne_mk_en : mk ≠ en := Ne.symm ne_en_mk
          have ne_en_ir : en ≠ ir := pw_ne hap 4 9 (by decide) (Nat.le_of_ble_eq_true rfl)
          have ne_ir_en : ir ≠ en := Ne.symm ne_en_ir
          have ne_la_wo : la ≠ wo := pw_ne hap 5 6 (by decide) (Nat.le_of_ble_eq_true rfl)
          have ne_wo_la : wo ≠ la := Ne.symm ne_la_wo
          have ne_la_op : la ≠ op := pw_ne hap 5 7 (by decide) (Nat.le_of_ble_eq_true rfl)
          have ne_op_la : op ≠ la := Ne.symm ne_la_op
          have ne_la_mk : la ≠ mk := pw_ne hap 5 8 (by decide) (Nat.le_of_ble_eq_true rfl)
          have ne_mk_la : mk ≠ la := Ne.symm ne_la_mk
          have ne_la_ir : la ≠ ir := pw_ne hap 5 9 (by decide) (Nat.le_of_ble_eq_true rfl)
          have ne_ir_la : ir ≠ la := Ne.symm ne_la_ir
          have ne_wo_op : wo ≠ op := pw_ne hap 6 7 (by decide) (Nat.le_of_ble_eq_true rfl)
          have ne_op_wo : op ≠ wo := Ne.symm ne_wo_op
          have ne_wo_mk : wo ≠ mk := pw_ne hap 6 8 (by decide) (Nat.le_of_ble_eq_true rfl)
          have ne_mk_wo : mk ≠ wo := Ne.symm ne_wo_mk
          have ne_wo_ir : wo ≠ ir := pw_ne hap 6 9 (by decide) (Nat.le_of_ble_eq_true rfl)
          have ne_ir_wo : ir ≠ wo := Ne.symm ne_wo_ir
          have ne_op_mk : op ≠ mk := pw_ne hap 7 8 (by decide) (Nat.le_of_ble_eq_true rfl)
          have ne_mk_op : mk ≠ op := Ne.symm ne_op_mk
          have ne_op_ir : op ≠ ir := pw_ne hap 7 9 (by decide) (Nat.le_of_ble_eq_true rfl)
          have ne_ir_op : ir ≠ op := Ne.symm ne_op_ir
          have ne_mk_ir : mk ≠ ir := pw_ne hap 8 9 (by decide) (Nat.le_of_ble_eq_true rfl)
          have ne_ir_mk : ir ≠ mk := Ne.symm ne_mk_ir
          refine W.eq (g2 := F0 m 49 ls [.int 0]) rfl ?_
          refine W.widen (k := 0) (n := 0) (Nat.le_of_ble_eq_true rfl) (Nat.le_of_ble_eq_true rfl) ?_
          have hm : mm D (AZ z) Mc1 H := hm
          refine lv_if_eq (tgt := 54) hx hb dX6_begin_49 (by decide) (fun c5 => ?_) (fun c5 => ?_)
          · refine lv_aload_n hx hb dX6_begin_54 rfl (lv_at hl 1 rfl) ?_
            refine m_get (T := TX6) (N := 24) (ci := 6) (v := .ref op) hx hb hts wX6 hown hK hm hM rfl 8 (by decide) f35 (fun _ h9 => h9) rfl dX6_begin_55 ?_
            refine lv_iload_n hx hb dX6_begin_58 rfl (lv_at hl 0 rfl) ?_
            refine lv_iconst (v := 1) hx hb dX6_begin_59 (by decide) ?_
            refine m_zast hx hb hK hm hS 2 hop rfl (by unfold vp_in; decide) dX6_begin_60 (fun H locs hm hS => ?_)
            have hm : mm D (AZ z) (mu Mc1 op (.inl (k 2, 6, .inl (upd (fun _ => 0) (0 : Int32).toNatClampNeg (vp_nar .boolean 1))))) H := hm
            have hkp : kL k M (mu Mc1 op (.inl (k 2, 6, .inl (upd (fun _ => 0) (0 : Int32).toNatClampNeg (vp_nar .boolean 1))))) := (hkp).upd hop nlI
            refine lv_aload_n hx hb dX6_begin_61 rfl (lv_at hl 1 rfl) ?_
            refine m_get (T := TX6) (N := 24) (ci := 6) (v := .ref mk) hx hb hts wX6 hown hK hm ((mu_ne ne_mo_op).trans hM) rfl 9 (by decide) f38 (fun _ h9 => h9) rfl dX6_begin_62 ?_
            refine lv_iload_n hx hb dX6_begin_65 rfl (lv_at hl 0 rfl) ?_
            refine lv_iconst (v := 0) hx hb dX6_begin_66 (by decide) ?_
            refine m_iast hx hb hK hm hS 0 ((mu_ne ne_mk_op).trans hmk) rfl (by unfold vp_in; decide) dX6_begin_67 (fun H locs hm hS => ?_)
            have hm : mm D (AZ z) (mu (mu Mc1 op (.inl (k 2, 6, .inl (upd (fun _ => 0) (0 : Int32).toNatClampNeg (vp_nar .boolean 1))))) mk (.inl (k 0, 6, .inl (upd (fun _ => 0) (0 : Int32).toNatClampNeg 0)))) H := hm
            have hkp : kL k M (mu (mu Mc1 op (.inl (k 2, 6, .inl (upd (fun _ => 0) (0 : Int32).toNatClampNeg (vp_nar .boolean 1))))) mk (.inl (k 0, 6, .inl (upd (fun _ => 0) (0 : Int32).toNatClampNeg 0)))) := (hkp).upd ((mu_ne ne_mk_op).trans hmk) nlI
            refine lv_aload_n hx hb dX6_begin_68 rfl (lv_at hl 1 rfl) ?_
            refine lv_iconst (v := 1) hx hb dX6_begin_69 (by decide) ?_
            refine lv_iconst (v := 5) hx hb dX6_begin_70 (by decide) ?_
            refine lv_iload_n hx hb dX6_begin_71 rfl (lv_at hl 0 rfl) ?_
            refine lv_imul hx hb dX6_begin_72 ?_
            refine W.eq (g2 := F0 m 73 ls [.int 0, .int 1, .ref mo]) (by first | rfl | decide) ?_
            refine lv_iadd hx hb dX6_begin_73 ?_
            refine W.eq (g2 := F0 m 74 ls [.int 1, .ref mo]) (by first | rfl | decide) ?_
            refine lv_iconst (v := 0) hx hb dX6_begin_74 (by decide) ?_
            have hW0 : mWk k (mu (mu Mc1 op (.inl (k 2, 6, .inl (upd (fun _ => 0) (0 : Int32).toNatClampNeg (vp_nar .boolean 1))))) mk (.inl (k 0, 6, .inl (upd (fun _ => 0) (0 : Int32).toNatClampNeg 0)))) mo 0 := ⟨cn, ia, dr, en, la, wo, op, mk, ir, se, ec, lc, wc, ol, al, f1, f1, f1, (fun _ => 0), (fun _ => 0), (fun _ => 0), (upd (fun _ => 0) (0 : Int32).toNatClampNeg (vp_nar .boolean 1)), (upd (fun _ => 0) (0 : Int32).toNatClampNeg 0), (fun _ => 0), hap, rfl, ((mu_ne ne_mo_mk).trans ((mu_ne ne_mo_op).trans hM)), ((mu_ne ne_cn_mk).trans ((mu_ne ne_cn_op).trans hcn)), ((mu_ne ne_ia_mk).trans ((mu_ne ne_ia_op).trans hia)), ((mu_ne ne_dr_mk).trans ((mu_ne ne_dr_op).trans hdr)), ((mu_ne ne_en_mk).trans ((mu_ne ne_en_op).trans hen)), ((mu_ne ne_la_mk).trans ((mu_ne ne_la_op).trans hla)), ((mu_ne ne_wo_mk).trans ((mu_ne ne_wo_op).trans hwo)), ((mu_ne ne_op_mk).trans (mu_self _ _ _)), (mu_self _ _ _), ((mu_ne ne_ir_mk).trans ((mu_ne ne_ir_op).trans hir))⟩
            refine m_kV (As := [.int 1, .int 0]) (rest := []) (rm := { frames := 1, cells := 0, slots := 0, locals := 23 }) ⟨hx, hb, hml, hown, hts⟩ (cL_X6_copyTree1 l D k z _ mo 0 hW0) (cwV 2 hts gX6_begin_X6_copyTree rfl rfl rfl (by decide +kernel) ⟨Nat.le_of_ble_eq_true rfl, Nat.le_of_ble_eq_true rfl⟩) (m_recv hK hm (q := (RX6, TX6, 24)) rfl ((mu_ne ne_mo_mk).trans ((mu_ne ne_mo_op).trans hM))) hz hcx hm hS rfl hl.1 rfl (Nat.le_of_ble_eq_true rfl) dX6_begin_75 ⟨Nat.le_of_ble_eq_true rfl, Nat.le_of_ble_eq_true rfl⟩ (fun v M1 H locs hv hm hS => ?_)
            obtain ⟨hv1, hWk, hL9⟩ := hv
            subst hv1
            have hkp := hkp.trans hL9
            obtain ⟨Mc2, hMx⟩ : ∃ x : mM, x = M1 := ⟨M1, rfl⟩
            subst hMx
            obtain ⟨cn, ia, dr, en, la, wo, op, mk, ir, se, ec, lc, wc, ol, al, fcn, fia, fdr, fen, fla, fwo, fop, fmk, fir, hap, hc0, hM, hcn, hia, hdr, hen, hla, hwo, hop, hmk, hir⟩ := id hWk
            have ne_mo_cn : mo ≠ cn := pw_ne hap 0 1 (by decide) (Nat.le_of_ble_eq_true rfl)
            have ne_cn_mo : cn ≠ mo := Ne.symm ne_mo_cn
            have ne_mo_ia : mo ≠ ia := pw_ne hap 0 2 (by decide) (Nat.le_of_ble_eq_true rfl)
            have ne_ia_mo : ia ≠ mo := Ne.symm ne_mo_ia
            have ne_mo_dr : mo ≠ dr := pw_ne hap 0 3 (by decide) (Nat.le_of_ble_eq_true rfl)
            have ne_dr_mo : dr ≠ mo := Ne.symm ne_mo_dr
            have ne_mo_en : mo ≠ en := pw_ne hap 0 4 (by decide) (Nat.le_of_ble_eq_true rfl)
            have ne_en_mo : en ≠ mo := Ne.symm ne_mo_en
            have ne_mo_la : mo ≠ la := pw_ne hap 0 5 (by decide) (Nat.le_of_ble_eq_true rfl)
            have ne_la_mo : la ≠ mo := Ne.symm ne_mo_la
            have ne_mo_wo : mo ≠ wo := pw_ne hap 0 6 (by decide) (Nat.le_of_ble_eq_true rfl)
            have ne_wo_mo : wo ≠ mo := Ne.symm ne_mo_wo
            have ne_mo_op : mo ≠ op := pw_ne hap 0 7 (by decide) (Nat.le_of_ble_eq_true rfl)
            have ne_op_mo : op ≠ mo := Ne.symm ne_mo_op
            have ne_mo_mk : mo ≠ mk := pw_ne hap 0 8 (by decide) (Nat.le_of_ble_eq_true rfl)
            have ne_mk_mo : mk ≠ mo := Ne.symm ne_mo_mk
            have ne_mo_ir : mo ≠ ir := pw_ne hap 0 9 (by decide) (Nat.le_of_ble_eq_true rfl)
            have ne_ir_mo : ir ≠ mo := Ne.symm ne_mo_ir
            have ne_cn_ia : cn ≠ ia := pw_ne hap 1 2 (by decide) (Nat.le_of_ble_eq_true rfl)
            have ne_ia_cn : ia ≠ cn := Ne.symm ne_cn_ia
            have ne_cn_dr : cn ≠ dr := pw_ne hap 1 3 (by decide) (Nat.le_of_ble_eq_true rfl)
            have ne_dr_cn : dr ≠ cn := Ne.symm ne_cn_dr
            have ne_cn_en : cn ≠ en := pw_ne hap 1 4 (by decide) (Nat.le_of_ble_eq_true rfl)
            have ne_en_cn : en ≠ cn := Ne.symm ne_cn_en
            have ne_cn_la : cn ≠ la := pw_ne hap 1 5 (by decide) (Nat.le_of_ble_eq_true rfl)
            have ne_la_cn : la ≠ cn := Ne.symm ne_cn_la
            have ne_cn_wo : cn ≠ wo := pw_ne hap 1 6 (by decide) (Nat.le_of_ble_eq_true rfl)
            have ne_wo_cn : wo ≠ cn := Ne.symm ne_cn_wo
            have ne_cn_op : cn ≠ op := pw_ne hap 1 7 (by decide) (Nat.le_of_ble_eq_true rfl)
            have ne_op_cn : op ≠ cn := Ne.symm ne_cn_op
            have ne_cn_mk : cn ≠ mk := pw_ne hap 1 8 (by decide) (Nat.le_of_ble_eq_true rfl)
            have ne_mk_cn : mk ≠ cn := Ne.symm ne_cn_mk
            have ne_cn_ir : cn ≠ ir := pw_ne hap 1 9 (by decide) (Nat.le_of_ble_eq_true rfl)
            have ne_ir_cn : ir ≠ cn := Ne.symm ne_cn_ir
            have ne_ia_dr : ia ≠ dr := pw_ne hap 2 3 (by decide) (Nat.le_of_ble_eq_true rfl)
            have ne_dr_ia : dr ≠ ia := Ne.symm ne_ia_dr
            have ne_ia_en : ia ≠ en := pw_ne hap 2 4 (by decide) (Nat.le_of_ble_eq_true rfl)
            have ne_en_ia : en ≠ ia := Ne.symm ne_ia_en
            have ne_ia_la : ia ≠ la := pw_ne hap 2 5 (by decide) (Nat.le_of_ble_eq_true rfl)
            have ne_la_ia : la ≠ ia := Ne.symm ne_ia_la
            have ne_ia_wo : ia ≠ wo := pw_ne hap 2 6 (by decide) (Nat.le_of_ble_eq_true rfl)
            have ne_wo_ia : wo ≠ ia := Ne.symm ne_ia_wo
            have ne_ia_op : ia ≠ op := pw_ne hap 2 7 (by decide) (Nat.le_of_ble_eq_true rfl)
            have ne_op_ia : op ≠ ia := Ne.symm ne_ia_op
            have ne_ia_mk : ia ≠ mk := pw_ne hap 2 8 (by decide) (Nat.le_of_ble_eq_true rfl)
            have ne_mk_ia : mk ≠ ia := Ne.symm ne_ia_mk
            have ne_ia_ir : ia ≠ ir := pw_ne hap 2 9 (by decide) (Nat.le_of_ble_eq_true rfl)
            have ne_ir_ia : ir ≠ ia := Ne.symm ne_ia_ir
            have ne_dr_en : dr ≠ en := pw_ne hap 3 4 (by decide) (Nat.le_of_ble_eq_true rfl)
            have ne_en_dr : en ≠ dr := Ne.symm ne_dr_en
            have ne_dr_la : dr ≠ la := pw_ne hap 3 5 (by decide) (Nat.le_of_ble_eq_true rfl)
            have ne_la_dr : la ≠ dr := Ne.symm ne_dr_la
            have ne_dr_wo : dr ≠ wo := pw_ne hap 3 6 (by decide) (Nat.le_of_ble_eq_true rfl)
            have ne_wo_dr : wo ≠ dr := Ne.symm ne_dr_wo
            have ne_dr_op : dr ≠ op := pw_ne hap 3 7 (by decide) (Nat.le_of_ble_eq_true rfl)
            have ne_op_dr : op ≠ dr := Ne.symm ne_dr_op
            have ne_dr_mk : dr ≠ mk := pw_ne hap 3 8 (by decide) (Nat.le_of_ble_eq_true rfl)
            have ne_mk_dr : mk ≠ dr := Ne.symm ne_dr_mk
            have ne_dr_ir : dr ≠ ir := pw_ne hap 3 9 (by decide) (Nat.le_of_ble_eq_true rfl)
            have ne_ir_dr : ir ≠ dr := Ne.symm ne_dr_ir
            have ne_en_la : en ≠ la := pw_ne hap 4 5 (by decide) (Nat.le_of_ble_eq_true rfl)
            have ne_la_en : la ≠ en := Ne.symm ne_en_la
            have ne_en_wo : en ≠ wo := pw_ne hap 4 6 (by decide) (Nat.le_of_ble_eq_true rfl)
            have ne_wo_en : wo ≠ en := Ne.symm ne_en_wo
            have ne_en_op : en ≠ op := pw_ne hap 4 7 (by decide) (Nat.le_of_ble_eq_true rfl)
            have ne_op_en : op ≠ en := Ne.symm ne_en_op
            have ne_en_mk : en ≠ mk := pw_ne hap 4 8 (by decide) (Nat.le_of_ble_eq_true rfl)
            have ne_mk_en : mk ≠ en := Ne.symm ne_en_mk
            have ne_en_ir : en ≠ ir := pw_ne hap 4 9 (by decide) (Nat.le_of_ble_eq_true rfl)
            have ne_ir_en : ir ≠ en := Ne.symm ne_en_ir
            have ne_la_wo : la ≠ wo := pw_ne hap 5 6 (by decide) (Nat.le_of_ble_eq_true rfl)
            have ne_wo_la : wo ≠ la := Ne.symm ne_la_wo
            have ne_la_op : la ≠ op := pw_ne hap 5 7 (by decide) (Nat.le_of_ble_eq_true rfl)
            have ne_op_la : op ≠ la := Ne.symm ne_la_op
            have ne_la_mk : la ≠ mk := pw_ne hap 5 8 (by decide) (Nat.le_of_ble_eq_true rfl)
            have ne_mk_la : mk ≠ la := Ne.symm ne_la_mk
            have ne_la_ir : la ≠ ir := pw_ne hap 5 9 (by decide) (Nat.le_of_ble_eq_true rfl)
            have ne_ir_la : ir ≠ la := Ne.symm ne_la_ir
            have ne_wo_op : wo ≠ op := pw_ne hap 6 7 (by decide) (Nat.le_of_ble_eq_true rfl)
            have ne_op_wo : op ≠ wo := Ne.symm ne_wo_op
            have ne_wo_mk : wo ≠ mk := pw_ne hap 6 8 (by decide) (Nat.le_of_ble_eq_true rfl)
            have ne_mk_wo : mk ≠ wo := Ne.symm ne_wo_mk
            have ne_wo_ir : wo ≠ ir := pw_ne hap 6 9 (by decide) (Nat.le_of_ble_eq_true rfl)
            have ne_ir_wo : ir ≠ wo := Ne.symm ne_wo_ir
            have ne_op_mk : op ≠ mk := pw_ne hap 7 8 (by decide) (Nat.le_of_ble_eq_true rfl)
            have ne_mk_op : mk ≠ op := Ne.symm ne_op_mk
            have ne_op_ir : op ≠ ir := pw_ne hap 7 9 (by decide) (Nat.le_of_ble_eq_true rfl)
            have ne_ir_op : ir ≠ op := Ne.symm ne_op_ir
            have ne_mk_ir : mk ≠ ir := pw_ne hap 8 9 (by decide) (Nat.le_of_ble_eq_true rfl)
            have ne_ir_mk : ir ≠ mk := Ne.symm ne_mk_ir
            refine W.eq (g2 := F0 m 78 ls []) rfl ?_
            refine W.widen (k := 0) (n := 0) (Nat.le_of_ble_eq_true rfl) (Nat.le_of_ble_eq_true rfl) ?_
            have hm : mm D (AZ z) Mc2 H := hm
            refine lv_aload_n hx hb dX6_begin_78 rfl (lv_at hl 1 rfl) ?_
            refine lv_iconst (v := 2) hx hb dX6_begin_79 (by decide) ?_
            refine lv_iconst (v := 5) hx hb dX6_begin_80 (by decide) ?_
            refine lv_iload_n hx hb dX6_begin_81 rfl (lv_at hl 0 rfl) ?_
            refine lv_imul hx hb dX6_begin_82 ?_
            refine W.eq (g2 := F0 m 83 ls [.int 0, .int 2, .ref mo]) (by first | rfl | decide) ?_
            refine lv_iadd hx hb dX6_begin_83 ?_
            refine W.eq (g2 := F0 m 84 ls [.int 2, .ref mo]) (by first | rfl | decide) ?_
            refine lv_iconst (v := 0) hx hb dX6_begin_84 (by decide) ?_
            have hW0 : mWk k Mc2 mo 0 := ⟨cn, ia, dr, en, la, wo, op, mk, ir, se, ec, lc, wc, ol, al, fcn, fia, fdr, fen, fla, fwo, fop, fmk, fir, hap, hc0, hM, hcn, hia, hdr, hen, hla, hwo, hop, hmk, hir⟩
            refine m_kV (As := [.int 2, .int 0]) (rest := []) (rm := { frames := 1, cells := 0, slots := 0, locals := 23 }) ⟨hx, hb, hml, hown, hts⟩ (cL_X6_copyTree2 l D k z _ mo 0 hW0) (cwV 2 hts gX6_begin_X6_copyTree rfl rfl rfl (by decide +kernel) ⟨Nat.le_of_ble_eq_true rfl, Nat.le_of_ble_eq_true rfl⟩) (m_recv hK hm (q := (RX6, TX6, 24)) rfl hM) hz hcx hm hS rfl hl.1 rfl (Nat.le_of_ble_eq_true rfl) dX6_begin_85 ⟨Nat.le_of_ble_eq_true rfl, Nat.le_of_ble_eq_true rfl⟩ (fun v M1 H locs hv hm hS => ?_)
            obtain ⟨hv1, hWk, hL9⟩ := hv
            subst hv1
            have hkp := hkp.trans hL9
            obtain ⟨Mc3, hMx⟩ : ∃ x : mM, x = M1 := ⟨M1, rfl⟩
            subst hMx
            obtain ⟨cn, ia, dr, en, la, wo, op, mk, ir, se, ec, lc, wc, ol, al, fcn, fia, fdr, fen, fla, fwo, fop, fmk, fir, hap, hc0, hM, hcn, hia, hdr, hen, hla, hwo, hop, hmk, hir⟩ := id hWk
            have ne_mo_cn : mo ≠ cn := pw_ne hap 0 1 (by decide) (Nat.le_of_ble_eq_true rfl)
            have ne_cn_mo : cn ≠ mo := Ne.symm ne_mo_cn
            have ne_mo_ia : mo ≠ ia := pw_ne hap 0 2 (by decide) (Nat.le_of_ble_eq_true rfl)
            have ne_ia_mo : ia ≠ mo := Ne.symm ne_mo_ia
            have ne_mo_dr : mo ≠ dr := pw_ne hap 0 3 (by decide) (Nat.le_of_ble_eq_true rfl)
            have ne_dr_mo : dr ≠ mo := Ne.symm ne_mo_dr
            have ne_mo_en : mo ≠ en := pw_ne hap 0 4 (by decide) (Nat.le_of_ble_eq_true rfl)
            have ne_en_mo : en ≠ mo := Ne.symm ne_mo_en
            have ne_mo_la : mo ≠ la := pw_ne hap 0 5 (by decide) (Nat.le_of_ble_eq_true rfl)
            have ne_la_mo : la ≠ mo := Ne.symm ne_mo_la
            have ne_mo_wo : mo ≠ wo := pw_ne hap 0 6 (by decide) (Nat.le_of_ble_eq_true rfl)
            have ne_wo_mo : wo ≠ mo := Ne.symm ne_mo_wo
            have ne_mo_op : mo ≠ op := pw_ne hap 0 7 (by decide) (Nat.le_of_ble_eq_true rfl)
            have ne_op_mo : op ≠ mo := Ne.symm ne_mo_op
            have ne_mo_mk : mo ≠ mk := pw_ne hap 0 8 (by decide) (Nat.le_of_ble_eq_true rfl)
            have ne_mk_mo : mk ≠ mo := Ne.symm ne_mo_mk
            have ne_mo_ir : mo ≠ ir := pw_ne hap 0 9 (by decide) (Nat.le_of_ble_eq_true rfl)
            have ne_ir_mo : ir ≠ mo := Ne.symm ne_mo_ir
            have ne_cn_ia : cn ≠ ia := pw_ne hap 1 2 (by decide) (Nat.le_of_ble_eq_true rfl)
            have ne_ia_cn : ia ≠ cn := Ne.symm ne_cn_ia
            have ne_cn_dr : cn ≠ dr := pw_ne hap 1 3 (by decide) (Nat.le_of_ble_eq_true rfl)
            have ne_dr_cn : dr ≠ cn := Ne.symm ne_cn_dr
            have ne_cn_en : cn ≠ en := pw_ne hap 1 4 (by decide) (Nat.le_of_ble_eq_true rfl)
            have ne_en_cn : en ≠ cn := Ne.symm ne_cn_en
            have ne_cn_la : cn ≠ la := pw_ne hap 1 5 (by decide) (Nat.le_of_ble_eq_true rfl)
            have ne_la_cn : la ≠ cn := Ne.symm ne_cn_la
            have ne_cn_wo : cn ≠ wo := pw_ne hap 1 6 (by decide) (Nat.le_of_ble_eq_true rfl)
            have ne_wo_cn : wo ≠ cn := Ne.symm ne_cn_wo
            have ne_cn_op : cn ≠ op := pw_ne hap 1 7 (by decide) (Nat.le_of_ble_eq_true rfl)
            have ne_op_cn : op ≠ cn := Ne.symm ne_cn_op
            have ne_cn_mk : cn ≠ mk := pw_ne hap 1 8 (by decide) (Nat.le_of_ble_eq_true rfl)
            have ne_mk_cn : mk ≠ cn := Ne.symm ne_cn_mk
            have ne_cn_ir : cn ≠ ir := pw_ne hap 1 9 (by decide) (Nat.le_of_ble_eq_true rfl)
            have ne_ir_cn : ir ≠ cn := Ne.symm ne_cn_ir
            have ne_ia_dr : ia ≠ dr := pw_ne hap 2 3 (by decide) (Nat.le_of_ble_eq_true rfl)
            have ne_dr_ia : dr ≠ ia := Ne.symm ne_ia_dr
            have ne_ia_en : ia ≠ en := pw_ne hap 2 4 (by decide) (Nat.le_of_ble_eq_true rfl)
            have ne_en_ia : en ≠ ia := Ne.symm ne_ia_en
            have ne_ia_la : ia ≠ la := pw_ne hap 2 5 (by decide) (Nat.le_of_ble_eq_true rfl)
            have ne_la_ia : la ≠ ia := Ne.symm ne_ia_la
            have ne_ia_wo : ia ≠ wo := pw_ne hap 2 6 (by decide) (Nat.le_of_ble_eq_true rfl)
            have ne_wo_ia : wo ≠ ia := Ne.symm ne_ia_wo
            have ne_ia_op : ia ≠ op := pw_ne hap 2 7 (by decide) (Nat.le_of_ble_eq_true rfl)
            have ne_op_ia : op ≠ ia := Ne.symm ne_ia_op
            have ne_ia_mk : ia ≠ mk := pw_ne hap 2 8 (by decide) (Nat.le_of_ble_eq_true rfl)
            have ne_mk_ia : mk ≠ ia := Ne.symm ne_ia_mk
            have ne_ia_ir : ia ≠ ir := pw_ne hap 2 9 (by decide) (Nat.le_of_ble_eq_true rfl)
            have ne_ir_ia : ir ≠ ia := Ne.symm ne_ia_ir
            have ne_dr_en : dr ≠ en := pw_ne hap 3 4 (by decide) (Nat.le_of_ble_eq_true rfl)
            have ne_en_dr : en ≠ dr := Ne.symm ne_dr_en
            have ne_dr_la : dr ≠ la := pw_ne hap 3 5 (by decide) (Nat.le_of_ble_eq_true rfl)
            have ne_la_dr : la ≠ dr := Ne.symm ne_dr_la
            have ne_dr_wo : dr ≠ wo := pw_ne hap 3 6 (by decide) (Nat.le_of_ble_eq_true rfl)
            have ne_wo_dr : wo ≠ dr := Ne.symm ne_dr_wo
            have ne_dr_op : dr ≠ op := pw_ne hap 3 7 (by decide) (Nat.le_of_ble_eq_true rfl)
            have ne_op_dr : op ≠ dr := Ne.symm ne_dr_op
            have ne_dr_mk : dr ≠ mk := pw_ne hap 3 8 (by decide) (Nat.le_of_ble_eq_true rfl)
            have ne_mk_dr : mk ≠ dr := Ne.symm ne_dr_mk
            have ne_dr_ir : dr ≠ ir := pw_ne hap 3 9 (by decide) (Nat.le_of_ble_eq_true rfl)
            have ne_ir_dr : ir ≠ dr := Ne.symm ne_dr_ir
            have ne_en_la : en ≠ la := pw_ne hap 4 5 (by decide) (Nat.le_of_ble_eq_true rfl)
            have ne_la_en : la ≠ en := Ne.symm ne_en_la
            have ne_en_wo : en ≠ wo := pw_ne hap 4 6 (by decide) (Nat.le_of_ble_eq_true rfl)
            have ne_wo_en : wo ≠ en := Ne.symm ne_en_wo
            have ne_en_op : en ≠ op := pw_ne hap 4 7 (by decide) (Nat.le_of_ble_eq_true rfl)
            have ne_op_en : op ≠ en := Ne.symm ne_en_op
            have ne_en_mk : en ≠ mk := pw_ne hap 4 8 (by decide) (Nat.le_of_ble_eq_true rfl)
            have ne_mk_en : mk ≠ en := Ne.symm ne_en_mk
            have ne_en_ir : en ≠ ir := pw_ne hap 4 9 (by decide) (Nat.le_of_ble_eq_true rfl)
            have ne_ir_en : ir ≠ en := Ne.symm ne_en_ir
            have ne_la_wo : la ≠ wo := pw_ne hap 5 6 (by decide) (Nat.le_of_ble_eq_true rfl)
            have ne_wo_la : wo ≠ la := Ne.symm ne_la_wo
            have ne_la_op : la ≠ op := pw_ne hap 5 7 (by decide) (Nat.le_of_ble_eq_true rfl)
            have ne_op_la : op ≠ la := Ne.symm ne_la_op
            have ne_la_mk : la ≠ mk := pw_ne hap 5 8 (by decide) (Nat.le_of_ble_eq_true rfl)
            have ne_mk_la : mk ≠ la := Ne.symm ne_la_mk
            have ne_la_ir : la ≠ ir := pw_ne hap 5 9 (by decide) (Nat.le_of_ble_eq_true rfl)
            have ne_ir_la : ir ≠ la := Ne.symm ne_la_ir
            have ne_wo_op : wo ≠ op := pw_ne hap 6 7 (by decide) (Nat.le_of_ble_eq_true rfl)
            have ne_op_wo : op ≠ wo := Ne.symm ne_wo_op
            have ne_wo_mk : wo ≠ mk := pw_ne hap 6 8 (by decide) (Nat.le_of_ble_eq_true rfl)
            have ne_mk_wo : mk ≠ wo := Ne.symm ne_wo_mk
            have ne_wo_ir : wo ≠ ir := pw_ne hap 6 9 (by decide) (Nat.le_of_ble_eq_true rfl)
            have ne_ir_wo : ir ≠ wo := Ne.symm ne_wo_ir
            have ne_op_mk : op ≠ mk := pw_ne hap 7 8 (by decide) (Nat.le_of_ble_eq_true rfl)
            have ne_mk_op : mk ≠ op := Ne.symm ne_op_mk
            have ne_op_ir : op ≠ ir := pw_ne hap 7 9 (by decide) (Nat.le_of_ble_eq_true rfl)
            have ne_ir_op : ir ≠ op := Ne.symm ne_op_ir
            have ne_mk_ir : mk ≠ ir := pw_ne hap 8 9 (by decide) (Nat.le_of_ble_eq_true rfl)
            have ne_ir_mk : ir ≠ mk := Ne.symm ne_mk_ir
            refine W.eq (g2 := F0 m 88 ls []) rfl ?_
            refine W.widen (k := 0) (n := 0) (Nat.le_of_ble_eq_true rfl) (Nat.le_of_ble_eq_true rfl) ?_
            have hm : mm D (AZ z) Mc3 H := hm
            refine lv_iconst (v := 0) hx hb dX6_begin_88 (by decide) ?_
            refine lv_istore_n (lv' := [(2, .int 0), (1, .int 0), (0, .ref mo)]) hx hb dX6_begin_89 rfl hl (by decide) rfl (fun ls hl => ?_)
            have hW0 : mWk k Mc3 mo 0 := ⟨cn, ia, dr, en, la, wo, op, mk, ir, se, ec, lc, wc, ol, al, fcn, fia, fdr, fen, fla, fwo, fop, fmk, fir, hap, hc0, hM, hcn, hia, hdr, hen, hla, hwo, hop, hmk, hir⟩
            refine W_loop (σ := Nat × mM) (fun ⟨j, Mj⟩ H locs ls => (j ≤ 9500) ∧ mWk k Mj mo 0 ∧ kL k M Mj ∧ mm D (AZ z) Mj H ∧ va_S (AZ z) s.heap H locs ∧ lv_has ls 3 [(2, .int (nI j)), (0, .ref mo), (1, .int 0)]) (fun ⟨j, Mj⟩ => 9500 - j) (fun _ => 0) (fun _ => 0) ?_ (0, Mc3) _ _ _ ⟨Nat.zero_le _, hW0, hkp, hm, hS, lv_sub hl [0, 2, 1] rfl⟩
            intro ⟨j, Mj⟩ H locs ls hI ih90
            obtain ⟨hj, hWk, hkp, hm, hS, hl⟩ := hI
            try dsimp only at hm hl ih90 ⊢
            obtain ⟨cn, ia, dr, en, la, wo, op, mk, ir, se, ec, lc, wc, ol, al, fcn, fia, fdr, fen, fla, fwo, fop, fmk, fir, hap, hc0, hM, hcn, hia, hdr, hen, hla, hwo, hop, hmk, hir⟩ := id hWk
            have ne_mo_cn : mo ≠ cn := pw_ne hap 0 1 (by decide) (Nat.le_of_ble_eq_true rfl)
            have ne_cn_mo : cn ≠ mo := Ne.symm ne_mo_cn
            have ne_mo_ia : mo ≠ ia := pw_ne hap 0 2 (by decide) (Nat.le_of_ble_eq_true rfl)
            have ne_ia_mo : ia ≠ mo := Ne.symm ne_mo_ia
            have ne_mo_dr : mo ≠ dr := pw_ne hap 0 3 (by decide) (Nat.le_of_ble_eq_true rfl)
            have ne_dr_mo : dr ≠ mo := Ne.symm ne_mo_dr
            have ne_mo_en : mo ≠ en := pw_ne hap 0 4 (by decide) (Nat.le_of_ble_eq_true rfl)
            have ne_en_mo : en ≠ mo := Ne.symm ne_mo_en
            have ne_mo_la : mo ≠ la := pw_ne hap 0 5 (by decide) (Nat.le_of_ble_eq_true rfl)
            have ne_la_mo : la ≠ mo := Ne.symm ne_mo_la
            have ne_mo_wo : mo ≠ wo := pw_ne hap 0 6 (by decide) (Nat.le_of_ble_eq_true rfl)
            have ne_wo_mo : wo ≠ mo := Ne.symm ne_mo_wo
            have ne_mo_op : mo ≠ op := pw_ne hap 0 7 (by decide) (Nat.le_of_ble_eq_true rfl)
            have ne_op_mo : op ≠ mo := Ne.symm ne_mo_op
            have ne_mo_mk : mo ≠ mk := pw_ne hap 0 8 (by decide) (Nat.le_of_ble_eq_true rfl)
            have ne_mk_mo : mk ≠ mo := Ne.symm ne_mo_mk
            have ne_mo_ir : mo ≠ ir := pw_ne hap 0 9 (by decide) (Nat.le_of_ble_eq_true rfl)
            have ne_ir_mo : ir ≠ mo := Ne.symm ne_mo_ir
            have ne_cn_ia : cn ≠ ia := pw_ne hap 1 2 (by decide) (Nat.le_of_ble_eq_true rfl)
            have ne_ia_cn : ia ≠ cn := Ne.symm ne_cn_ia
            have ne_cn_dr : cn ≠ dr := pw_ne hap 1 3 (by decide) (Nat.le_of_ble_eq_true rfl)
            have ne_dr_cn : dr ≠ cn := Ne.symm ne_cn_dr
            have ne_cn_en : cn ≠ en := pw_ne hap 1 4 (by decide) (Nat.le_of_ble_eq_true rfl)
            have ne_en_cn : en ≠ cn := Ne.symm ne_cn_en
            have ne_cn_la : cn ≠ la := pw_ne hap 1 5 (by decide) (Nat.le_of_ble_eq_true rfl)
            have ne_la_cn : la ≠ cn := Ne.symm ne_cn_la
            have ne_cn_wo : cn ≠ wo := pw_ne hap 1 6 (by decide) (Nat.le_of_ble_eq_true rfl)
            have ne_wo_cn : wo ≠ cn := Ne.symm ne_cn_wo
            have ne_cn_op : cn ≠ op := pw_ne hap 1 7 (by decide) (Nat.le_of_ble_eq_true rfl)
            have ne_op_cn : op ≠ cn := Ne.symm ne_cn_op
            have ne_cn_mk : cn ≠ mk := pw_ne hap 1 8 (by decide) (Nat.le_of_ble_eq_true rfl)
            have ne_mk_cn : mk ≠ cn := Ne.symm ne_cn_mk
            have ne_cn_ir : cn ≠ ir := pw_ne hap 1 9 (by decide) (Nat.le_of_ble_eq_true rfl)
            have ne_ir_cn : ir ≠ cn := Ne.symm ne_cn_ir
            have ne_ia_dr : ia ≠ dr := pw_ne hap 2 3 (by decide) (Nat.le_of_ble_eq_true rfl)
            have ne_dr_ia : dr ≠ ia := Ne.symm ne_ia_dr
            have ne_ia_en : ia ≠ en := pw_ne hap 2 4 (by decide) (Nat.le_of_ble_eq_true rfl)
            have ne_en_ia : en ≠ ia := Ne.symm ne_ia_en
            have ne_ia_la : ia ≠ la := pw_ne hap 2 5 (by decide) (Nat.le_of_ble_eq_true rfl)
            have ne_la_ia : la ≠ ia := Ne.symm ne_ia_la
            have ne_ia_wo : ia ≠ wo := pw_ne hap 2 6 (by decide) (Nat.le_of_ble_eq_true rfl)
            have ne_wo_ia : wo ≠ ia := Ne.symm ne_ia_wo
            have ne_ia_op : ia ≠ op := pw_ne hap 2 7 (by decide) (Nat.le_of_ble_eq_true rfl)
            have ne_op_ia : op ≠ ia := Ne.symm ne_ia_op
            have ne_ia_mk : ia ≠ mk := pw_ne hap 2 8 (by decide) (Nat.le_of_ble_eq_true rfl)
            have ne_mk_ia : mk ≠ ia := Ne.symm ne_ia_mk
            have ne_ia_ir : ia ≠ ir := pw_ne hap 2 9 (by decide) (Nat.le_of_ble_eq_true rfl)
            have ne_ir_ia : ir ≠ ia := Ne.symm ne_ia_ir
            have ne_dr_en : dr ≠ en := pw_ne hap 3 4 (by decide) (Nat.le_of_ble_eq_true rfl)
            have ne_en_dr : en ≠ dr := Ne.symm ne_dr_en
            have ne_dr_la : dr ≠ la := pw_ne hap 3 5 (by decide) (Nat.le_of_ble_eq_true rfl)
            have ne_la_dr : la ≠ dr := Ne.symm ne_dr_la
            have ne_dr_wo : dr ≠ wo := pw_ne hap 3 6 (by decide) (Nat.le_of_ble_eq_true rfl)
            have ne_wo_dr : wo ≠ dr := Ne.symm ne_dr_wo
            have ne_dr_op : dr ≠ op := pw_ne hap 3 7 (by decide) (Nat.le_of_ble_eq_true rfl)
            have ne_op_dr : op ≠ dr := Ne.symm ne_dr_op
            have ne_dr_mk : dr ≠ mk := pw_ne hap 3 8 (by decide) (Nat.le_of_ble_eq_true rfl)
            have ne_mk_dr : mk ≠ dr := Ne.symm ne_dr_mk
            have ne_dr_ir : dr ≠ ir := pw_ne hap 3 9 (by decide) (Nat.le_of_ble_eq_true rfl)
            have ne_ir_dr : ir ≠ dr := Ne.symm ne_dr_ir
            have ne_en_la : en ≠ la := pw_ne hap 4 5 (by decide) (Nat.le_of_ble_eq_true rfl)
            have ne_la_en : la ≠ en := Ne.symm ne_en_la
            have ne_en_wo : en ≠ wo := pw_ne hap 4 6 (by decide) (Nat.le_of_ble_eq_true rfl)
            have ne_wo_en : wo ≠ en := Ne.symm ne_en_wo
            have ne_en_op : en ≠ op := pw_ne hap 4 7 (by decide) (Nat.le_of_ble_eq_true rfl)
            have ne_op_en : op ≠ en := Ne.symm ne_en_op
            have ne_en_mk : en ≠ mk := pw_ne hap 4 8 (by decide) (Nat.le_of_ble_eq_true rfl)
            have ne_mk_en : mk ≠ en := Ne.symm ne_en_mk
            have ne_en_ir : en ≠ ir := pw_ne hap 4 9 (by decide) (Nat.le_of_ble_eq_true rfl)
            have ne_ir_en : ir ≠ en := Ne.symm ne_en_ir
            have ne_la_wo : la ≠ wo := pw_ne hap 5 6 (by decide) (Nat.le_of_ble_eq_true rfl)
            have ne_wo_la : wo ≠ la := Ne.symm ne_la_wo
            have ne_la_op : la ≠ op := pw_ne hap 5 7 (by decide) (Nat.le_of_ble_eq_true rfl)
            have ne_op_la : op ≠ la := Ne.symm ne_la_op
            have ne_la_mk : la ≠ mk := pw_ne hap 5 8 (by decide) (Nat.le_of_ble_eq_true rfl)
            have ne_mk_la : mk ≠ la := Ne.symm ne_la_mk
            have ne_la_ir : la ≠ ir := pw_ne hap 5 9 (by decide) (Nat.le_of_ble_eq_true rfl)
            have ne_ir_la : ir ≠ la := Ne.symm ne_la_ir
            have ne_wo_op : wo ≠ op := pw_ne hap 6 7 (by decide) (Nat.le_of_ble_eq_true rfl)
            have ne_op_wo : op ≠ wo := Ne.symm ne_wo_op
            have ne_wo_mk : wo ≠ mk := pw_ne hap 6 8 (by decide) (Nat.le_of_ble_eq_true rfl)
            have ne_mk_wo : mk ≠ wo := Ne.symm ne_wo_mk
            have ne_wo_ir : wo ≠ ir := pw_ne hap 6 9 (by decide) (Nat.le_of_ble_eq_true rfl)
            have ne_ir_wo : ir ≠ wo := Ne.symm ne_wo_ir
            have ne_op_mk : op ≠ mk := pw_ne hap 7 8 (by decide) (Nat.le_of_ble_eq_true rfl)
            have ne_mk_op : mk ≠ op := Ne.symm ne_op_mk
            have ne_op_ir : op ≠ ir := pw_ne hap 7 9 (by decide) (Nat.le_of_ble_eq_true rfl)
            have ne_ir_op : ir ≠ op := Ne.symm ne_op_ir
            have ne_mk_ir : mk ≠ ir := pw_ne hap 8 9 (by decide) (Nat.le_of_ble_eq_true rfl)
            have ne_ir_mk : ir ≠ mk := Ne.symm ne_mk_ir
            refine lv_iload_n hx hb dX6_begin_90 rfl (lv_at hl 0 rfl) ?_
            refine lv_sipush (v := 9500) hx hb dX6_begin_91 (by decide) ?_
            refine lv_icmp_ge (tgt := 116) hx hb dX6_begin_94 (by decide) (fun c6 => ?_) (fun c6 => ?_)
            · refine lv_iload_n hx hb dX6_begin_116 rfl (lv_at hl 2 rfl) ?_
              refine W.iret (v := 0) hx hb hr (fun t ht hW => ⟨⟨some (.int 0), _, rfl, ?_, by rw [ht]; exact hm⟩, hS.F ht⟩) hS.2.2 dX6_begin_117
              exact ⟨rfl, hWk.code, hkp⟩
            · have hlt9 : j < 9500 := Nat.lt_of_not_le fun q => c6 (nI_le (a := 9500) q (by omega))
              refine lv_aload_n hx hb dX6_begin_97 rfl (lv_at hl 1 rfl) ?_
              refine m_get (T := TX6) (N := 24) (ci := 6) (v := .ref ir) hx hb hts wX6 hown hK hm hM rfl 10 (by decide) f42 (fun _ h9 => h9) rfl dX6_begin_98 ?_
              refine lv_sipush (v := 9500) hx hb dX6_begin_101 (by decide) ?_
              refine lv_iload_n hx hb dX6_begin_104 rfl (lv_at hl 2 rfl) ?_
              refine lv_imul hx hb dX6_begin_105 ?_
              refine W.eq (g2 := F0 m 106 ls [.int 0, .ref ir]) (by first | rfl | decide) ?_
              refine lv_iload_n hx hb dX6_begin_106 rfl (lv_at hl 0 rfl) ?_
              refine lv_iadd hx hb dX6_begin_107 ?_
              refine lv_iconst (v := 0) hx hb dX6_begin_108 (by decide) ?_
              refine m_zast hx hb hK hm hS 2 hir rfl (in_add (a := 0) (by omega) (by decide)) dX6_begin_109 (fun H locs hm hS => ?_)
              have hm : mm D (AZ z) (mu Mj ir (.inl (k 2, 57000, .inl (upd fir ((0 + (nI j))).toNatClampNeg (vp_nar .boolean 0))))) H := hm
              have hkp : kL k M (mu Mj ir (.inl (k 2, 57000, .inl (upd fir ((0 + (nI j))).toNatClampNeg (vp_nar .boolean 0))))) := (hkp).upd hir nlI
              refine lv_iinc (v := ((nI j) + 1)) (lv' := [(2, .int ((nI j) + 1)), (0, .ref mo), (1, .int 0)]) hx hb dX6_begin_110 hl (k := 0) rfl rfl (by decide) rfl (fun ls hl => ?_)
              refine lv_goto (tgt := 90) hx hb dX6_begin_113 (by decide) ?_
              rw [nI_1] at hl
              exact ih90 (j + 1, (mu Mj ir (.inl (k 2, 57000, .inl (upd fir ((0 + (nI j))).toNatClampNeg (vp_nar .boolean 0)))))) _ _ _ ⟨by omega, ⟨cn, ia, dr, en, la, wo, op, mk, ir, se, ec, lc, wc, ol, al, fcn, fia, fdr, fen, fla, fwo, fop, fmk, (upd fir ((0 + (nI j))).toNatClampNeg (vp_nar .boolean 0)), hap, hc0, ((mu_ne ne_mo_ir).trans hM), ((mu_ne ne_cn_ir).trans hcn), ((mu_ne ne_ia_ir).trans hia), ((mu_ne ne_dr_ir).trans hdr), ((mu_ne ne_en_ir).trans hen), ((mu_ne ne_la_ir).trans hla), ((mu_ne ne_wo_ir).trans hwo), ((mu_ne ne_op_ir).trans hop), ((mu_ne ne_mk_ir).trans hmk), (mu_self _ _ _)⟩, hkp, hm, hS, lv_sub hl [0, 1, 2] rfl⟩ (by show 9500 - (j + 1) < 9500 - j; omega)
          · first | exact absurd c5 (by decide) | exact absurd (by decide) c5
        · first | exact absurd c4 (by decide) | exact absurd (by decide) c4
      · first | exact absurd c3 (by decide) | exact absurd (by decide) c3
    · exact absurd rfl c2
