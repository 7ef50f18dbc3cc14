/-- what file answers to NONE: the code -/
def fiC (path c : Int32) : Prop := (¬ isP path ∧ c = 2) ∨ (isP path ∧ path ≠ 0 ∧ c = 3) ∨ (isP path ∧ path = 0 ∧ c = 4)

set_option maxHeartbeats 4000000 in
set_option maxRecDepth 100000 in
theorem c_X6_file0 (l : Launch) (D : va_G) (k : Nat → ClassId) (z : Nat) (M : mM) (mo : Nat) (t path ft : Int32) (hF : mFr k M mo 0) : mK l yX6_file wsX6_file ({ frames := 1, cells := 0, slots := 0, locals := 21 }) D k z [.ref mo, .int t, .int path, .int 0, .int ft] M (fun v M' => v = some (.int (-1)) ∧ codeIs M' mo 1) := by
  refine Met.ofW (cc := cX6_file) (maxL := 6) (ret := (some .int)) (by decide) rfl ?_
  intro p e s m args below meth c s₁ B hml hv
  obtain ⟨rfl, hz, hcx, hm⟩ := hv
  have hx := B.exec
  have hb := B.bytes
  have hr := B.returns
  have hts := atoms_spec (ws := wsX6_file) B.pre
  have hown : s.vm.findClass RX6 = some m.cls := findClass_of_methodNamed B.named
  have hlocks := B.notSynchronized
  have hK := hcx.1
  have hS : va_S (AZ z) s.heap s.heap [] := va_S.rf
  have hA : ∀ q, s.heap.size ≤ q → AZ z q := fun q h => Nat.le_trans hz h
  have hl := lv_entry ([.ref mo, .int t, .int path, .int 0, .int ft]) (n := 6) (Nat.le_of_ble_eq_true rfl)
  rw [lg_entry_eq]
  generalize (lg_sl ([.ref mo, .int t, .int path, .int 0, .int ft]) ++ List.replicate (6 - (lg_sl ([.ref mo, .int t, .int path, .int 0, .int ft])).length) Slot.unset).toArray = ls at hl ⊢
  have hl : lv_has ls 6 [(0, .ref mo), (1, .int t), (2, .int path), (3, .int 0), (4, .int ft)] := hl
  have f16 := hts (.fieldLink RX6 16 "CommitTreeModel" "dirs" "[Z") (by decide +kernel)
  have wX6 : ∀ w ∈ wsX60, w ∈ wsX6_file := by decide +kernel
  obtain ⟨cn, ia, dr, en, la, wo, op, mk, ir, se, ec, lc, wc, ol, al, hap, hM, hcn, hia, hdr, hen, hla, hwo, hop, hmk, hir⟩ := id hF
  have ne_mo_cn : mo ≠ cn := pw_ne hap 0 1 (by decide) (Nat.le_of_ble_eq_true rfl)
  have ne_cn_mo : cn ≠ mo := Ne.symm ne_mo_cn
  have ne_mo_ia : mo ≠ ia := pw_ne hap 0 2 (by decide) (Nat.le_of_ble_eq_true rfl)
  have ne_ia_mo : ia ≠ mo := Ne.symm ne_mo_ia
  have ne_mo_dr : mo ≠ dr := pw_ne hap 0 3 (by decide) (Nat.le_of_ble_eq_true rfl)
  have ne_dr_mo : dr ≠ mo := Ne.symm ne_mo_dr
  have ne_mo_en : mo ≠ en := pw_ne hap 0 4 (by decide) (Nat.le_of_ble_eq_true rfl)
  have ne_en_mo : en ≠ mo := Ne.symm ne_mo_en
  have ne_mo_la : mo ≠ la := pw_ne hap 0 5 (by decide) (Nat.le_of_ble_eq_true rfl)
  have ne_la_mo : la ≠ mo := Ne.symm ne_mo_la
  have ne_mo_wo : mo ≠ wo := pw_ne hap 0 6 (by decide) (Nat.le_of_ble_eq_true rfl)
  have ne_wo_mo : wo ≠ mo := Ne.symm ne_mo_wo
  have ne_mo_op : mo ≠ op := pw_ne hap 0 7 (by decide) (Nat.le_of_ble_eq_true rfl)
  have ne_op_mo : op ≠ mo := Ne.symm ne_mo_op
  have ne_mo_mk : mo ≠ mk := pw_ne hap 0 8 (by decide) (Nat.le_of_ble_eq_true rfl)
  have ne_mk_mo : mk ≠ mo := Ne.symm ne_mo_mk
  have ne_mo_ir : mo ≠ ir := pw_ne hap 0 9 (by decide) (Nat.le_of_ble_eq_true rfl)
  have ne_ir_mo : ir ≠ mo := Ne.symm ne_mo_ir
  refine lv_aload_n hx hb dX6_file_0 rfl (lv_at hl 0 rfl) ?_
  refine lv_iload_n hx hb dX6_file_1 rfl (lv_at hl 3 rfl) ?_
  refine lv_if_ne (tgt := 9) hx hb dX6_file_2 (by decide) (fun c1 => ?_) (fun c1 => ?_)
  · first | exact absurd c1 (by decide) | exact absurd (by decide) c1
  · refine lv_iconst (v := 1) hx hb dX6_file_5 (by decide) ?_
    refine lv_goto (tgt := 26) hx hb dX6_file_6 (by decide) ?_
    refine m_kV (As := [.int 1]) (rest := []) (rm := { frames := 0, cells := 0, slots := 0, locals := 0 }) ⟨hx, hb, hml, hown, hts⟩ (c_X6_fails l D k z _ mo 0 1 hF) (cwV 1 hts gX6_file_X6_fails rfl rfl rfl (by decide +kernel) ⟨Nat.le_of_ble_eq_true rfl, Nat.le_of_ble_eq_true rfl⟩) (m_recv hK hm (q := (RX6, TX6, 24)) rfl hM) hz hcx hm hS rfl hl.1 rfl (Nat.le_of_ble_eq_true rfl) dX6_file_26 ⟨Nat.le_of_ble_eq_true rfl, Nat.le_of_ble_eq_true rfl⟩ (fun v M1 H locs hv hm hS => ?_)
    obtain ⟨hv1, hF⟩ := hv
    have hv1 : v = some (.int 1) := hv1.trans (by decide)
    subst hv1
    obtain ⟨Mc1, hMx⟩ : ∃ x : mM, x = M1 := ⟨M1, rfl⟩
    subst hMx
    obtain ⟨cn, ia, dr, en, la, wo, op, mk, ir, se, ec, lc, wc, ol, al, hap, hM, hcn, hia, hdr, hen, hla, hwo, hop, hmk, hir⟩ := id hF
    have ne_mo_cn : mo ≠ cn := pw_ne hap 0 1 (by decide) (Nat.le_of_ble_eq_true rfl)
    have ne_cn_mo : cn ≠ mo := Ne.symm ne_mo_cn
    have ne_mo_ia : mo ≠ ia := pw_ne hap 0 2 (by decide) (Nat.le_of_ble_eq_true rfl)
    have ne_ia_mo : ia ≠ mo := Ne.symm ne_mo_ia
    have ne_mo_dr : mo ≠ dr := pw_ne hap 0 3 (by decide) (Nat.le_of_ble_eq_true rfl)
    have ne_dr_mo : dr ≠ mo := Ne.symm ne_mo_dr
    have ne_mo_en : mo ≠ en := pw_ne hap 0 4 (by decide) (Nat.le_of_ble_eq_true rfl)
    have ne_en_mo : en ≠ mo := Ne.symm ne_mo_en
    have ne_mo_la : mo ≠ la := pw_ne hap 0 5 (by decide) (Nat.le_of_ble_eq_true rfl)
    have ne_la_mo : la ≠ mo := Ne.symm ne_mo_la
    have ne_mo_wo : mo ≠ wo := pw_ne hap 0 6 (by decide) (Nat.le_of_ble_eq_true rfl)
    have ne_wo_mo : wo ≠ mo := Ne.symm ne_mo_wo
    have ne_mo_op : mo ≠ op := pw_ne hap 0 7 (by decide) (Nat.le_of_ble_eq_true rfl)
    have ne_op_mo : op ≠ mo := Ne.symm ne_mo_op
    have ne_mo_mk : mo ≠ mk := pw_ne hap 0 8 (by decide) (Nat.le_of_ble_eq_true rfl)
    have ne_mk_mo : mk ≠ mo := Ne.symm ne_mo_mk
    have ne_mo_ir : mo ≠ ir := pw_ne hap 0 9 (by decide) (Nat.le_of_ble_eq_true rfl)
    have ne_ir_mo : ir ≠ mo := Ne.symm ne_mo_ir
    refine W.eq (g2 := F0 m 29 ls [.int 1]) rfl ?_
    refine W.widen (k := 0) (n := 0) (Nat.le_of_ble_eq_true rfl) (Nat.le_of_ble_eq_true rfl) ?_
    have hm : mm D (AZ z) Mc1 H := hm
    refine lv_if_eq (tgt := 34) hx hb dX6_file_29 (by decide) (fun c2 => ?_) (fun c2 => ?_)
    · first | exact absurd c2 (by decide) | exact absurd (by decide) c2
    · refine lv_iconst (v := (-1)) hx hb dX6_file_32 (by decide) ?_
      refine W.iret (v := (-1)) hx hb hr (fun t ht hW => ⟨⟨some (.int (-1)), _, rfl, ?_, by rw [ht]; exact hm⟩, hS.F ht⟩) hS.2.2 dX6_file_33
      exact ⟨rfl, hF.code⟩

set_option maxHeartbeats 4000000 in
set_option maxRecDepth 100000 in
theorem c_X6_file1 (l : Launch) (D : va_G) (k : Nat → ClassId) (z : Nat) (M : mM) (mo : Nat) (path : Int32) (hF : mFr k M mo 0) : mK l yX6_file wsX6_file ({ frames := 3, cells := 0, slots := 0, locals := 73 }) D k z [.ref mo, .int (-1), .int path, .int 1, .int 1] M (fun v M' => v = some (.int (-1)) ∧ ∃ c, fiC path c ∧ codeIs M' mo c) := by
  refine Met.ofW (cc := cX6_file) (maxL := 6) (ret := (some .int)) (by decide) rfl ?_
  intro p e s m args below meth c s₁ B hml hv
  obtain ⟨rfl, hz, hcx, hm⟩ := hv
  have hx := B.exec
  have hb := B.bytes
  have hr := B.returns
  have hts := atoms_spec (ws := wsX6_file) B.pre
  have hown : s.vm.findClass RX6 = some m.cls := findClass_of_methodNamed B.named
  have hlocks := B.notSynchronized
  have hK := hcx.1
  have hS : va_S (AZ z) s.heap s.heap [] := va_S.rf
  have hA : ∀ q, s.heap.size ≤ q → AZ z q := fun q h => Nat.le_trans hz h
  have hl := lv_entry ([.ref mo, .int (-1), .int path, .int 1, .int 1]) (n := 6) (Nat.le_of_ble_eq_true rfl)
  rw [lg_entry_eq]
  generalize (lg_sl ([.ref mo, .int (-1), .int path, .int 1, .int 1]) ++ List.replicate (6 - (lg_sl ([.ref mo, .int (-1), .int path, .int 1, .int 1])).length) Slot.unset).toArray = ls at hl ⊢
  have hl : lv_has ls 6 [(0, .ref mo), (1, .int (-1)), (2, .int path), (3, .int 1), (4, .int 1)] := hl
  have f16 := hts (.fieldLink RX6 16 "CommitTreeModel" "dirs" "[Z") (by decide +kernel)
  have wX6 : ∀ w ∈ wsX60, w ∈ wsX6_file := by decide +kernel
  obtain ⟨cn, ia, dr, en, la, wo, op, mk, ir, se, ec, lc, wc, ol, al, hap, hM, hcn, hia, hdr, hen, hla, hwo, hop, hmk, hir⟩ := id hF
  have ne_mo_cn : mo ≠ cn := pw_ne hap 0 1 (by decide) (Nat.le_of_ble_eq_true rfl)
  have ne_cn_mo : cn ≠ mo := Ne.symm ne_mo_cn
  have ne_mo_ia : mo ≠ ia := pw_ne hap 0 2 (by decide) (Nat.le_of_ble_eq_true rfl)
  have ne_ia_mo : ia ≠ mo := Ne.symm ne_mo_ia
  have ne_mo_dr : mo ≠ dr := pw_ne hap 0 3 (by decide) (Nat.le_of_ble_eq_true rfl)
  have ne_dr_mo : dr ≠ mo := Ne.symm ne_mo_dr
  have ne_mo_en : mo ≠ en := pw_ne hap 0 4 (by decide) (Nat.le_of_ble_eq_true rfl)
  have ne_en_mo : en ≠ mo := Ne.symm ne_mo_en
  have ne_mo_la : mo ≠ la := pw_ne hap 0 5 (by decide) (Nat.le_of_ble_eq_true rfl)
  have ne_la_mo : la ≠ mo := Ne.symm ne_mo_la
  have ne_mo_wo : mo ≠ wo := pw_ne hap 0 6 (by decide) (Nat.le_of_ble_eq_true rfl)
  have ne_wo_mo : wo ≠ mo := Ne.symm ne_mo_wo
  have ne_mo_op : mo ≠ op := pw_ne hap 0 7 (by decide) (Nat.le_of_ble_eq_true rfl)
  have ne_op_mo : op ≠ mo := Ne.symm ne_mo_op
  have ne_mo_mk : mo ≠ mk := pw_ne hap 0 8 (by decide) (Nat.le_of_ble_eq_true rfl)
  have ne_mk_mo : mk ≠ mo := Ne.symm ne_mo_mk
  have ne_mo_ir : mo ≠ ir := pw_ne hap 0 9 (by decide) (Nat.le_of_ble_eq_true rfl)
  have ne_ir_mo : ir ≠ mo := Ne.symm ne_mo_ir
  refine lv_aload_n hx hb dX6_file_0 rfl (lv_at hl 0 rfl) ?_
  refine lv_iload_n hx hb dX6_file_1 rfl (lv_at hl 3 rfl) ?_
  refine lv_if_ne (tgt := 9) hx hb dX6_file_2 (by decide) (fun c1 => ?_) (fun c1 => ?_)
  · refine lv_iload_n hx hb dX6_file_9 rfl (lv_at hl 2 rfl) ?_
    refine m_kS (As := [.int path]) (rest := [.ref mo]) (rm := { frames := 0, cells := 0, slots := 0, locals := 0 }) ⟨hx, hb, hml, hown, hts⟩ (c_X6_isPath l D k z _ path) (cwS 1 hts gX6_file_X6_isPath rfl rfl rfl (by decide +kernel) ⟨Nat.le_of_ble_eq_true rfl, Nat.le_of_ble_eq_true rfl⟩) hz hcx hm hS rfl hl.1 rfl (Nat.le_of_ble_eq_true rfl) dX6_file_10 ⟨Nat.le_of_ble_eq_true rfl, Nat.le_of_ble_eq_true rfl⟩ (fun v M1 H locs hv hm hS => ?_)
    obtain ⟨hv2, hM1⟩ := hv
    rw [hM1] at hm
    rcases hv2 with ⟨hp9, hv1⟩ | ⟨hp9, hv1⟩
    · subst hv1
      refine W.eq (g2 := F0 m 13 ls [.int 1, .ref mo]) rfl ?_
      refine W.widen (k := 0) (n := 0) (Nat.le_of_ble_eq_true rfl) (Nat.le_of_ble_eq_true rfl) ?_
      have hm : mm D (AZ z) M H := hm
      refine lv_if_eq (tgt := 21) hx hb dX6_file_13 (by decide) (fun c2 => ?_) (fun c2 => ?_)
      · first | exact absurd c2 (by decide) | exact absurd (by decide) c2
      · refine lv_iload hx hb dX6_file_16 (lv_at hl 4 rfl) ?_
        refine lv_if_ne (tgt := 25) hx hb dX6_file_18 (by decide) (fun c3 => ?_) (fun c3 => ?_)
        · refine lv_iconst (v := 0) hx hb dX6_file_25 (by decide) ?_
          refine m_kV (As := [.int 0]) (rest := []) (rm := { frames := 0, cells := 0, slots := 0, locals := 0 }) ⟨hx, hb, hml, hown, hts⟩ (c_X6_fails l D k z _ mo 0 0 hF) (cwV 1 hts gX6_file_X6_fails rfl rfl rfl (by decide +kernel) ⟨Nat.le_of_ble_eq_true rfl, Nat.le_of_ble_eq_true rfl⟩) (m_recv hK hm (q := (RX6, TX6, 24)) rfl hM) hz hcx hm hS rfl hl.1 rfl (Nat.le_of_ble_eq_true rfl) dX6_file_26 ⟨Nat.le_of_ble_eq_true rfl, Nat.le_of_ble_eq_true rfl⟩ (fun v M1 H locs hv hm hS => ?_)
          obtain ⟨hv1, hF⟩ := hv
          have hv1 : v = some (.int 0) := hv1.trans (by decide)
          subst hv1
          obtain ⟨Mc1, hMx⟩ : ∃ x : mM, x = M1 := ⟨M1, rfl⟩
          subst hMx
          obtain ⟨cn, ia, dr, en, la, wo, op, mk, ir, se, ec, lc, wc, ol, al, hap, hM, hcn, hia, hdr, hen, hla, hwo, hop, hmk, hir⟩ := id hF
          have ne_mo_cn : mo ≠ cn := pw_ne hap 0 1 (by decide) (Nat.le_of_ble_eq_true rfl)
          have ne_cn_mo : cn ≠ mo := Ne.symm ne_mo_cn
          have ne_mo_ia : mo ≠ ia := pw_ne hap 0 2 (by decide) (Nat.le_of_ble_eq_true rfl)
          have ne_ia_mo : ia ≠ mo := Ne.symm ne_mo_ia
          have ne_mo_dr : mo ≠ dr := pw_ne hap 0 3 (by decide) (Nat.le_of_ble_eq_true rfl)
          have ne_dr_mo : dr ≠ mo := Ne.symm ne_mo_dr
          have ne_mo_en : mo ≠ en := pw_ne hap 0 4 (by decide) (Nat.le_of_ble_eq_true rfl)
          have ne_en_mo : en ≠ mo := Ne.symm ne_mo_en
          have ne_mo_la : mo ≠ la := pw_ne hap 0 5 (by decide) (Nat.le_of_ble_eq_true rfl)
          have ne_la_mo : la ≠ mo := Ne.symm ne_mo_la
          have ne_mo_wo : mo ≠ wo := pw_ne hap 0 6 (by decide) (Nat.le_of_ble_eq_true rfl)
          have ne_wo_mo : wo ≠ mo := Ne.symm ne_mo_wo
          have ne_mo_op : mo ≠ op := pw_ne hap 0 7 (by decide) (Nat.le_of_ble_eq_true rfl)
          have ne_op_mo : op ≠ mo := Ne.symm ne_mo_op
          have ne_mo_mk : mo ≠ mk := pw_ne hap 0 8 (by decide) (Nat.le_of_ble_eq_true rfl)
          have ne_mk_mo : mk ≠ mo := Ne.symm ne_mo_mk
          have ne_mo_ir : mo ≠ ir := pw_ne hap 0 9 (by decide) (Nat.le_of_ble_eq_true rfl)
          have ne_ir_mo : ir ≠ mo := Ne.symm ne_mo_ir
          refine W.eq (g2 := F0 m 29 ls [.int 0]) rfl ?_
          refine W.widen (k := 0) (n := 0) (Nat.le_of_ble_eq_true rfl) (Nat.le_of_ble_eq_true rfl) ?_
          have hm : mm D (AZ z) Mc1 H := hm
          refine lv_if_eq (tgt := 34) hx hb dX6_file_29 (by decide) (fun c4 => ?_) (fun c4 => ?_)
          · refine lv_aload_n hx hb dX6_file_34 rfl (lv_at hl 0 rfl) ?_
            refine lv_iload_n hx hb dX6_file_35 rfl (lv_at hl 1 rfl) ?_
            refine lv_iload_n hx hb dX6_file_36 rfl (lv_at hl 2 rfl) ?_
            refine m_kV (As := [.int (-1), .int path]) (rest := []) (rm := { frames := 2, cells := 0, slots := 0, locals := 48 }) ⟨hx, hb, hml, hown, hts⟩ (c_X6_lookUp l D k z _ mo path 0 hp9 hF) (cwV 2 hts gX6_file_X6_lookUp rfl rfl rfl (by decide +kernel) ⟨Nat.le_of_ble_eq_true rfl, Nat.le_of_ble_eq_true rfl⟩) (m_recv hK hm (q := (RX6, TX6, 24)) rfl hM) hz hcx hm hS rfl hl.1 rfl (Nat.le_of_ble_eq_true rfl) dX6_file_37 ⟨Nat.le_of_ble_eq_true rfl, Nat.le_of_ble_eq_true rfl⟩ (fun v M1 H locs hv hm hS => ?_)
            obtain ⟨hv2, hM1⟩ := hv
            rw [hM1] at hm
            rcases hv2 with ⟨h09, hv1⟩ | ⟨h09, hv1⟩
            · subst hv1
              refine W.eq (g2 := F0 m 40 ls [.int 0]) rfl ?_
              refine W.widen (k := 0) (n := 0) (Nat.le_of_ble_eq_true rfl) (Nat.le_of_ble_eq_true rfl) ?_
              have hm : mm D (AZ z) Mc1 H := hm
              refine lv_istore (lv' := [(5, .int 0), (0, .ref mo), (1, .int (-1)), (2, .int path), (3, .int 1), (4, .int 1)]) hx hb dX6_file_40 hl (by decide) rfl (fun ls hl => ?_)
              refine lv_aload_n hx hb dX6_file_42 rfl (lv_at hl 1 rfl) ?_
              refine lv_iload hx hb dX6_file_43 (lv_at hl 0 rfl) ?_
              refine lv_if_ge (tgt := 52) hx hb dX6_file_45 (by decide) (fun c5 => ?_) (fun c5 => ?_)
              · refine lv_aload_n hx hb dX6_file_52 rfl (lv_at hl 1 rfl) ?_
                refine m_get (T := TX6) (N := 24) (ci := 6) (v := .ref dr) hx hb hts wX6 hown hK hm hM rfl 3 (by decide) f16 (fun _ h9 => h9) rfl dX6_file_53 ?_
                refine lv_iload hx hb dX6_file_56 (lv_at hl 0 rfl) ?_
                refine m_zald hx hb hK hm 2 hdr rfl (by unfold vp_in; decide) dX6_file_58 ?_
                refine lv_if_eq (tgt := 66) hx hb dX6_file_59 (by decide) (fun c6 => ?_) (fun c6 => ?_)
                · exact absurd c6 (by decide)
                · refine lv_iconst (v := 4) hx hb dX6_file_62 (by decide) ?_
                  refine lv_goto (tgt := 67) hx hb dX6_file_63 (by decide) ?_
                  refine m_kV (As := [.int 4]) (rest := []) (rm := { frames := 0, cells := 0, slots := 0, locals := 0 }) ⟨hx, hb, hml, hown, hts⟩ (c_X6_fails l D k z _ mo 0 4 hF) (cwV 1 hts gX6_file_X6_fails rfl rfl rfl (by decide +kernel) ⟨Nat.le_of_ble_eq_true rfl, Nat.le_of_ble_eq_true rfl⟩) (m_recv hK hm (q := (RX6, TX6, 24)) rfl hM) hz hcx hm hS rfl hl.1 rfl (Nat.le_of_ble_eq_true rfl) dX6_file_67 ⟨Nat.le_of_ble_eq_true rfl, Nat.le_of_ble_eq_true rfl⟩ (fun v M1 H locs hv hm hS => ?_)
                  obtain ⟨hv1, hF⟩ := hv
                  have hv1 : v = some (.int 1) := hv1.trans (by decide)
                  subst hv1
                  obtain ⟨Mc2, hMx⟩ : ∃ x : mM, x = M1 := ⟨M1, rfl⟩
                  subst hMx
                  obtain ⟨cn, ia, dr, en, la, wo, op, mk, ir, se, ec, lc, wc, ol, al, hap, hM, hcn, hia, hdr, hen, hla, hwo, hop, hmk, hir⟩ := id hF
                  have ne_mo_cn : mo ≠ cn := pw_ne hap 0 1 (by decide) (Nat.le_of_ble_eq_true rfl)
                  have ne_cn_mo : cn ≠ mo := Ne.symm ne_mo_cn
                  have ne_mo_ia : mo ≠ ia := pw_ne hap 0 2 (by decide) (Nat.le_of_ble_eq_true rfl)
                  have ne_ia_mo : ia ≠ mo := Ne.symm ne_mo_ia
                  have ne_mo_dr : mo ≠ dr := pw_ne hap 0 3 (by decide) (Nat.le_of_ble_eq_true rfl)
                  have ne_dr_mo : dr ≠ mo := Ne.symm ne_mo_dr
                  have ne_mo_en : mo ≠ en := pw_ne hap 0 4 (by decide) (Nat.le_of_ble_eq_true rfl)
                  have ne_en_mo : en ≠ mo := Ne.symm ne_mo_en
                  have ne_mo_la : mo ≠ la := pw_ne hap 0 5 (by decide) (Nat.le_of_ble_eq_true rfl)
                  have ne_la_mo : la ≠ mo := Ne.symm ne_mo_la
                  have ne_mo_wo : mo ≠ wo := pw_ne hap 0 6 (by decide) (Nat.le_of_ble_eq_true rfl)
                  have ne_wo_mo : wo ≠ mo := Ne.symm ne_mo_wo
                  have ne_mo_op : mo ≠ op := pw_ne hap 0 7 (by decide) (Nat.le_of_ble_eq_true rfl)
                  have ne_op_mo : op ≠ mo := Ne.symm ne_mo_op
                  have ne_mo_mk : mo ≠ mk := pw_ne hap 0 8 (by decide) (Nat.le_of_ble_eq_true rfl)
                  have ne_mk_mo : mk ≠ mo := Ne.symm ne_mo_mk
                  have ne_mo_ir : mo ≠ ir := pw_ne hap 0 9 (by decide) (Nat.le_of_ble_eq_true rfl)
                  have ne_ir_mo : ir ≠ mo := Ne.symm ne_mo_ir
                  refine W.eq (g2 := F0 m 70 ls [.int 1]) rfl ?_
                  refine W.widen (k := 0) (n := 0) (Nat.le_of_ble_eq_true rfl) (Nat.le_of_ble_eq_true rfl) ?_
                  have hm : mm D (AZ z) Mc2 H := hm
                  refine lv_if_eq (tgt := 75) hx hb dX6_file_70 (by decide) (fun c7 => ?_) (fun c7 => ?_)
                  · first | exact absurd c7 (by decide) | exact absurd (by decide) c7
                  · refine lv_iconst (v := (-1)) hx hb dX6_file_73 (by decide) ?_
                    refine W.iret (v := (-1)) hx hb hr (fun t ht hW => ⟨⟨some (.int (-1)), _, rfl, ?_, by rw [ht]; exact hm⟩, hS.F ht⟩) hS.2.2 dX6_file_74
                    first
                      | exact ⟨rfl, 3, Or.inr (Or.inl ⟨hp9, h09, rfl⟩), hF.code⟩
                      | exact ⟨rfl, 4, Or.inr (Or.inr ⟨hp9, h09, rfl⟩), hF.code⟩
              · first | exact absurd c5 (by decide) | exact absurd (by decide) c5
            · subst hv1
              refine W.eq (g2 := F0 m 40 ls [.int (-1)]) rfl ?_
              refine W.widen (k := 0) (n := 0) (Nat.le_of_ble_eq_true rfl) (Nat.le_of_ble_eq_true rfl) ?_
              have hm : mm D (AZ z) Mc1 H := hm
              refine lv_istore (lv' := [(5, .int (-1)), (0, .ref mo), (1, .int (-1)), (2, .int path), (3, .int 1), (4, .int 1)]) hx hb dX6_file_40 hl (by decide) rfl (fun ls hl => ?_)
              refine lv_aload_n hx hb dX6_file_42 rfl (lv_at hl 1 rfl) ?_
              refine lv_iload hx hb dX6_file_43 (lv_at hl 0 rfl) ?_
              refine lv_if_ge (tgt := 52) hx hb dX6_file_45 (by decide) (fun c8 => ?_) (fun c8 => ?_)
              · first | exact absurd c8 (by decide) | exact absurd (by decide) c8
              · refine lv_iconst (v := 3) hx hb dX6_file_48 (by decide) ?_
                refine lv_goto (tgt := 67) hx hb dX6_file_49 (by decide) ?_
                refine m_kV (As := [.int 3]) (rest := []) (rm := { frames := 0, cells := 0, slots := 0, locals := 0 }) ⟨hx, hb, hml, hown, hts⟩ (c_X6_fails l D k z _ mo 0 3 hF) (cwV 1 hts gX6_file_X6_fails rfl rfl rfl (by decide +kernel) ⟨Nat.le_of_ble_eq_true rfl, Nat.le_of_ble_eq_true rfl⟩) (m_recv hK hm (q := (RX6, TX6, 24)) rfl hM) hz hcx hm hS rfl hl.1 rfl (Nat.le_of_ble_eq_true rfl) dX6_file_67 ⟨Nat.le_of_ble_eq_true rfl, Nat.le_of_ble_eq_true rfl⟩ (fun v M1 H locs hv hm hS => ?_)
                obtain ⟨hv1, hF⟩ := hv
                have hv1 : v = some (.int 1) := hv1.trans (by decide)
                subst hv1
                obtain ⟨Mc3, hMx⟩ : ∃ x : mM, x = M1 := ⟨M1, rfl⟩
                subst hMx
                obtain ⟨cn, ia, dr, en, la, wo, op, mk, ir, se, ec, lc, wc, ol, al, hap, hM, hcn, hia, hdr, hen, hla, hwo, hop, hmk, hir⟩ := id hF
                have ne_mo_cn : mo ≠ cn := pw_ne hap 0 1 (by decide) (Nat.le_of_ble_eq_true rfl)
                have ne_cn_mo : cn ≠ mo := Ne.symm ne_mo_cn
                have ne_mo_ia : mo ≠ ia := pw_ne hap 0 2 (by decide) (Nat.le_of_ble_eq_true rfl)
                have ne_ia_mo : ia ≠ mo := Ne.symm ne_mo_ia
                have ne_mo_dr : mo ≠ dr := pw_ne hap 0 3 (by decide) (Nat.le_of_ble_eq_true rfl)
                have ne_dr_mo : dr ≠ mo := Ne.symm ne_mo_dr
                have ne_mo_en : mo ≠ en := pw_ne hap 0 4 (by decide) (Nat.le_of_ble_eq_true rfl)
                have ne_en_mo : en ≠ mo := Ne.symm ne_mo_en
                have ne_mo_la : mo ≠ la := pw_ne hap 0 5 (by decide) (Nat.le_of_ble_eq_true rfl)
                have ne_la_mo : la ≠ mo := Ne.symm ne_mo_la
                have ne_mo_wo : mo ≠ wo := pw_ne hap 0 6 (by decide) (Nat.le_of_ble_eq_true rfl)
                have ne_wo_mo : wo ≠ mo := Ne.symm ne_mo_wo
                have ne_mo_op : mo ≠ op := pw_ne hap 0 7 (by decide) (Nat.le_of_ble_eq_true rfl)
                have ne_op_mo : op ≠ mo := Ne.symm ne_mo_op
                have ne_mo_mk : mo ≠ mk := pw_ne hap 0 8 (by decide) (Nat.le_of_ble_eq_true rfl)
                have ne_mk_mo : mk ≠ mo := Ne.symm ne_mo_mk
                have ne_mo_ir : mo ≠ ir := pw_ne hap 0 9 (by decide) (Nat.le_of_ble_eq_true rfl)
                have ne_ir_mo : ir ≠ mo := Ne.symm ne_mo_ir
                refine W.eq (g2 := F0 m 70 ls [.int 1]) rfl ?_
                refine W.widen (k := 0) (n := 0) (Nat.le_of_ble_eq_true rfl) (Nat.le_of_ble_eq_true rfl) ?_
                have hm : mm D (AZ z) Mc3 H := hm
                refine lv_if_eq (tgt := 75) hx hb dX6_file_70 (by decide) (fun c9 => ?_) (fun c9 => ?_)
                · first | exact absurd c9 (by decide) | exact absurd (by decide) c9
                · refine lv_iconst (v := (-1)) hx hb dX6_file_73 (by decide) ?_
                  refine W.iret (v := (-1)) hx hb hr (fun t ht hW => ⟨⟨some (.int (-1)), _, rfl, ?_, by rw [ht]; exact hm⟩, hS.F ht⟩) hS.2.2 dX6_file_74
                  first
                    | exact ⟨rfl, 3, Or.inr (Or.inl ⟨hp9, h09, rfl⟩), hF.code⟩
                    | exact ⟨rfl, 4, Or.inr (Or.inr ⟨hp9, h09, rfl⟩), hF.code⟩
          · first | exact absurd c4 (by decide) | exact absurd (by decide) c4
        · first | exact absurd c3 (by decide) | exact absurd (by decide) c3
    · subst hv1
      refine W.eq (g2 := F0 m 13 ls [.int 0, .ref mo]) rfl ?_
      refine W.widen (k := 0) (n := 0) (Nat.le_of_ble_eq_true rfl) (Nat.le_of_ble_eq_true rfl) ?_
      have hm : mm D (AZ z) M H := hm
      refine lv_if_eq (tgt := 21) hx hb dX6_file_13 (by decide) (fun c10 => ?_) (fun c10 => ?_)
      · refine lv_iconst (v := 2) hx hb dX6_file_21 (by decide) ?_
        refine lv_goto (tgt := 26) hx hb dX6_file_22 (by decide) ?_
        refine m_kV (As := [.int 2]) (rest := []) (rm := { frames := 0, cells := 0, slots := 0, locals := 0 }) ⟨hx, hb, hml, hown, hts⟩ (c_X6_fails l D k z _ mo 0 2 hF) (cwV 1 hts gX6_file_X6_fails rfl rfl rfl (by decide +kernel) ⟨Nat.le_of_ble_eq_true rfl, Nat.le_of_ble_eq_true rfl⟩) (m_recv hK hm (q := (RX6, TX6, 24)) rfl hM) hz hcx hm hS rfl hl.1 rfl (Nat.le_of_ble_eq_true rfl) dX6_file_26 ⟨Nat.le_of_ble_eq_true rfl, Nat.le_of_ble_eq_true rfl⟩ (fun v M1 H locs hv hm hS => ?_)
        obtain ⟨hv1, hF⟩ := hv
        have hv1 : v = some (.int 1) := hv1.trans (by decide)
        subst hv1
        obtain ⟨Mc4, hMx⟩ : ∃ x : mM, x = M1 := ⟨M1, rfl⟩
        subst hMx
        obtain ⟨cn, ia, dr, en, la, wo, op, mk, ir, se, ec, lc, wc, ol, al, hap, hM, hcn, hia, hdr, hen, hla, hwo, hop, hmk, hir⟩ := id hF
        have ne_mo_cn : mo ≠ cn := pw_ne hap 0 1 (by decide) (Nat.le_of_ble_eq_true rfl)
        have ne_cn_mo : cn ≠ mo := Ne.symm ne_mo_cn
        have ne_mo_ia : mo ≠ ia := pw_ne hap 0 2 (by decide) (Nat.le_of_ble_eq_true rfl)
        have ne_ia_mo : ia ≠ mo := Ne.symm ne_mo_ia
        have ne_mo_dr : mo ≠ dr := pw_ne hap 0 3 (by decide) (Nat.le_of_ble_eq_true rfl)
        have ne_dr_mo : dr ≠ mo := Ne.symm ne_mo_dr
        have ne_mo_en : mo ≠ en := pw_ne hap 0 4 (by decide) (Nat.le_of_ble_eq_true rfl)
        have ne_en_mo : en ≠ mo := Ne.symm ne_mo_en
        have ne_mo_la : mo ≠ la := pw_ne hap 0 5 (by decide) (Nat.le_of_ble_eq_true rfl)
        have ne_la_mo : la ≠ mo := Ne.symm ne_mo_la
        have ne_mo_wo : mo ≠ wo := pw_ne hap 0 6 (by decide) (Nat.le_of_ble_eq_true rfl)
        have ne_wo_mo : wo ≠ mo := Ne.symm ne_mo_wo
        have ne_mo_op : mo ≠ op := pw_ne hap 0 7 (by decide) (Nat.le_of_ble_eq_true rfl)
        have ne_op_mo : op ≠ mo := Ne.symm ne_mo_op
        have ne_mo_mk : mo ≠ mk := pw_ne hap 0 8 (by decide) (Nat.le_of_ble_eq_true rfl)
        have ne_mk_mo : mk ≠ mo := Ne.symm ne_mo_mk
        have ne_mo_ir : mo ≠ ir := pw_ne hap 0 9 (by decide) (Nat.le_of_ble_eq_true rfl)
        have ne_ir_mo : ir ≠ mo := Ne.symm ne_mo_ir
        refine W.eq (g2 := F0 m 29 ls [.int 1]) rfl ?_
        refine W.widen (k := 0) (n := 0) (Nat.le_of_ble_eq_true rfl) (Nat.le_of_ble_eq_true rfl) ?_
        have hm : mm D (AZ z) Mc4 H := hm
        refine lv_if_eq (tgt := 34) hx hb dX6_file_29 (by decide) (fun c11 => ?_) (fun c11 => ?_)
        · first | exact absurd c11 (by decide) | exact absurd (by decide) c11
        · refine lv_iconst (v := (-1)) hx hb dX6_file_32 (by decide) ?_
          refine W.iret (v := (-1)) hx hb hr (fun t ht hW => ⟨⟨some (.int (-1)), _, rfl, ?_, by rw [ht]; exact hm⟩, hS.F ht⟩) hS.2.2 dX6_file_33
          exact ⟨rfl, 2, Or.inl ⟨hp9, rfl⟩, hF.code⟩
      · first | exact absurd c10 (by decide) | exact absurd (by decide) c10
  · first | exact absurd c1 (by decide) | exact absurd (by decide) c1

set_option maxHeartbeats 4000000 in
set_option maxRecDepth 100000 in
theorem c_X6_write (l : Launch) (D : va_G) (k : Nat → ClassId) (z : Nat) (M : mM) (mo : Nat) (t path i w : Int32) (hF : mFr k M mo 0) : mK l yX6_write wsX6_write ({ frames := 2, cells := 0, slots := 0, locals := 46 }) D k z [.ref mo, .int t, .int path, .int i, .int w] M (fun v M' => v = some (.int 0) ∧ codeIs M' mo 1) := by
  refine Met.ofW (cc := cX6_write) (maxL := 6) (ret := (some .int)) (by decide) rfl ?_
  intro p e s m args below meth c s₁ B hml hv
  obtain ⟨rfl, hz, hcx, hm⟩ := hv
  have hx := B.exec
  have hb := B.bytes
  have hr := B.returns
  have hts := atoms_spec (ws := wsX6_write) B.pre
  have hown : s.vm.findClass RX6 = some m.cls := findClass_of_methodNamed B.named
  have hlocks := B.notSynchronized
  have hK := hcx.1
  have hS : va_S (AZ z) s.heap s.heap [] := va_S.rf
  have hA : ∀ q, s.heap.size ≤ q → AZ z q := fun q h => Nat.le_trans hz h
  have hl := lv_entry ([.ref mo, .int t, .int path, .int i, .int w]) (n := 6) (Nat.le_of_ble_eq_true rfl)
  rw [lg_entry_eq]
  generalize (lg_sl ([.ref mo, .int t, .int path, .int i, .int w]) ++ List.replicate (6 - (lg_sl ([.ref mo, .int t, .int path, .int i, .int w])).length) Slot.unset).toArray = ls at hl ⊢
  have hl : lv_has ls 6 [(0, .ref mo), (1, .int t), (2, .int path), (3, .int i), (4, .int w)] := hl
  have f24 := hts (.fieldLink RX6 24 "CommitTreeModel" "lengths" "[I") (by decide +kernel)
  have f28 := hts (.fieldLink RX6 28 "CommitTreeModel" "words" "[I") (by decide +kernel)
  have wX6 : ∀ w ∈ wsX60, w ∈ wsX6_write := by decide +kernel
  obtain ⟨cn, ia, dr, en, la, wo, op, mk, ir, se, ec, lc, wc, ol, al, hap, hM, hcn, hia, hdr, hen, hla, hwo, hop, hmk, hir⟩ := id hF
  have ne_mo_cn : mo ≠ cn := pw_ne hap 0 1 (by decide) (Nat.le_of_ble_eq_true rfl)
  have ne_cn_mo : cn ≠ mo := Ne.symm ne_mo_cn
  have ne_mo_ia : mo ≠ ia := pw_ne hap 0 2 (by decide) (Nat.le_of_ble_eq_true rfl)
  have ne_ia_mo : ia ≠ mo := Ne.symm ne_mo_ia
  have ne_mo_dr : mo ≠ dr := pw_ne hap 0 3 (by decide) (Nat.le_of_ble_eq_true rfl)
  have ne_dr_mo : dr ≠ mo := Ne.symm ne_mo_dr
  have ne_mo_en : mo ≠ en := pw_ne hap 0 4 (by decide) (Nat.le_of_ble_eq_true rfl)
  have ne_en_mo : en ≠ mo := Ne.symm ne_mo_en
  have ne_mo_la : mo ≠ la := pw_ne hap 0 5 (by decide) (Nat.le_of_ble_eq_true rfl)
  have ne_la_mo : la ≠ mo := Ne.symm ne_mo_la
  have ne_mo_wo : mo ≠ wo := pw_ne hap 0 6 (by decide) (Nat.le_of_ble_eq_true rfl)
  have ne_wo_mo : wo ≠ mo := Ne.symm ne_mo_wo
  have ne_mo_op : mo ≠ op := pw_ne hap 0 7 (by decide) (Nat.le_of_ble_eq_true rfl)
  have ne_op_mo : op ≠ mo := Ne.symm ne_mo_op
  have ne_mo_mk : mo ≠ mk := pw_ne hap 0 8 (by decide) (Nat.le_of_ble_eq_true rfl)
  have ne_mk_mo : mk ≠ mo := Ne.symm ne_mo_mk
  have ne_mo_ir : mo ≠ ir := pw_ne hap 0 9 (by decide) (Nat.le_of_ble_eq_true rfl)
  have ne_ir_mo : ir ≠ mo := Ne.symm ne_mo_ir
  refine lv_aload_n hx hb dX6_write_0 rfl (lv_at hl 0 rfl) ?_
  refine lv_iload_n hx hb dX6_write_1 rfl (lv_at hl 1 rfl) ?_
  refine lv_iload_n hx hb dX6_write_2 rfl (lv_at hl 2 rfl) ?_
  refine lv_aload_n hx hb dX6_write_3 rfl (lv_at hl 0 rfl) ?_
  refine lv_iload_n hx hb dX6_write_4 rfl (lv_at hl 1 rfl) ?_
  refine m_kV (As := [.int t]) (rest := [.int path, .int t, .ref mo]) (rm := { frames := 0, cells := 0, slots := 0, locals := 0 }) ⟨hx, hb, hml, hown, hts⟩ (c_X6_isOpen l D k z _ mo 0 t hF) (cwV 1 hts gX6_write_X6_isOpen rfl rfl rfl (by decide +kernel) ⟨Nat.le_of_ble_eq_true rfl, Nat.le_of_ble_eq_true rfl⟩) (m_recv hK hm (q := (RX6, TX6, 24)) rfl hM) hz hcx hm hS rfl hl.1 rfl (Nat.le_of_ble_eq_true rfl) dX6_write_5 ⟨Nat.le_of_ble_eq_true rfl, Nat.le_of_ble_eq_true rfl⟩ (fun v M1 H locs hv hm hS => ?_)
  obtain ⟨hv1, hM1⟩ := hv
  subst hv1
  rw [hM1] at hm
  refine W.eq (g2 := F0 m 8 ls [.int 0, .int path, .int t, .ref mo]) rfl ?_
  refine W.widen (k := 0) (n := 0) (Nat.le_of_ble_eq_true rfl) (Nat.le_of_ble_eq_true rfl) ?_
  have hm : mm D (AZ z) M H := hm
  refine lv_iconst (v := 1) hx hb dX6_write_8 (by decide) ?_
  refine m_kV (As := [.int t, .int path, .int 0, .int 1]) (rest := []) (rm := { frames := 1, cells := 0, slots := 0, locals := 21 }) ⟨hx, hb, hml, hown, hts⟩ (c_X6_file0 l D k z _ mo t path 1 hF) (cwV 4 hts gX6_write_X6_file rfl rfl rfl (by decide +kernel) ⟨Nat.le_of_ble_eq_true rfl, Nat.le_of_ble_eq_true rfl⟩) (m_recv hK hm (q := (RX6, TX6, 24)) rfl hM) hz hcx hm hS rfl hl.1 rfl (Nat.le_of_ble_eq_true rfl) dX6_write_9 ⟨Nat.le_of_ble_eq_true rfl, Nat.le_of_ble_eq_true rfl⟩ (fun v M1 H locs hv hm hS => ?_)
  obtain ⟨hv1, hC9⟩ := hv
  subst hv1
  obtain ⟨Mc1, hMx⟩ : ∃ x : mM, x = M1 := ⟨M1, rfl⟩
  subst hMx
  refine W.eq (g2 := F0 m 12 ls [.int (-1)]) rfl ?_
  refine W.widen (k := 0) (n := 0) (Nat.le_of_ble_eq_true rfl) (Nat.le_of_ble_eq_true rfl) ?_
  have hm : mm D (AZ z) Mc1 H := hm
  refine lv_istore (lv' := [(5, .int (-1)), (0, .ref mo), (1, .int t), (2, .int path), (3, .int i), (4, .int w)]) hx hb dX6_write_12 hl (by decide) rfl (fun ls hl => ?_)
  refine lv_iload hx hb dX6_write_14 (lv_at hl 0 rfl) ?_
  refine lv_if_lt (tgt := 46) hx hb dX6_write_16 (by decide) (fun c1 => ?_) (fun c1 => ?_)
  · refine lv_iconst (v := 0) hx hb dX6_write_46 (by decide) ?_
    refine W.iret (v := 0) hx hb hr (fun t ht hW => ⟨⟨some (.int 0), _, rfl, ?_, by rw [ht]; exact hm⟩, hS.F ht⟩) hS.2.2 dX6_write_47
    exact ⟨rfl, hC9⟩
  · first | exact absurd c1 (by decide) | exact absurd (by decide) c1

set_option maxHeartbeats 4000000 in
set_option maxRecDepth 100000 in
theorem c_X6_append (l : Launch) (D : va_G) (k : Nat → ClassId) (z : Nat) (M : mM) (mo : Nat) (t path w : Int32) (hF : mFr k M mo 0) : mK l yX6_append wsX6_append ({ frames := 2, cells := 0, slots := 0, locals := 46 }) D k z [.ref mo, .int t, .int path, .int w] M (fun v M' => v = some (.int 0) ∧ codeIs M' mo 1) := by
  refine Met.ofW (cc := cX6_append) (maxL := 5) (ret := (some .int)) (by decide) rfl ?_
  intro p e s m args below meth c s₁ B hml hv
  obtain ⟨rfl, hz, hcx, hm⟩ := hv
  have hx := B.exec
  have hb := B.bytes
  have hr := B.returns
  have hts := atoms_spec (ws := wsX6_append) B.pre
  have hown : s.vm.findClass RX6 = some m.cls := findClass_of_methodNamed B.named
  have hlocks := B.notSynchronized
  have hK := hcx.1
  have hS : va_S (AZ z) s.heap s.heap [] := va_S.rf
  have hA : ∀ q, s.heap.size ≤ q → AZ z q := fun q h => Nat.le_trans hz h
  have hl := lv_entry ([.ref mo, .int t, .int path, .int w]) (n := 5) (Nat.le_of_ble_eq_true rfl)
  rw [lg_entry_eq]
  generalize (lg_sl ([.ref mo, .int t, .int path, .int w]) ++ List.replicate (5 - (lg_sl ([.ref mo, .int t, .int path, .int w])).length) Slot.unset).toArray = ls at hl ⊢
  have hl : lv_has ls 5 [(0, .ref mo), (1, .int t), (2, .int path), (3, .int w)] := hl
  have f24 := hts (.fieldLink RX6 24 "CommitTreeModel" "lengths" "[I") (by decide +kernel)
  have f28 := hts (.fieldLink RX6 28 "CommitTreeModel" "words" "[I") (by decide +kernel)
  have wX6 : ∀ w ∈ wsX60, w ∈ wsX6_append := by decide +kernel
  obtain ⟨cn, ia, dr, en, la, wo, op, mk, ir, se, ec, lc, wc, ol, al, hap, hM, hcn, hia, hdr, hen, hla, hwo, hop, hmk, hir⟩ := id hF
  have ne_mo_cn : mo ≠ cn := pw_ne hap 0 1 (by decide) (Nat.le_of_ble_eq_true rfl)
  have ne_cn_mo : cn ≠ mo := Ne.symm ne_mo_cn
  have ne_mo_ia : mo ≠ ia := pw_ne hap 0 2 (by decide) (Nat.le_of_ble_eq_true rfl)
  have ne_ia_mo : ia ≠ mo := Ne.symm ne_mo_ia
  have ne_mo_dr : mo ≠ dr := pw_ne hap 0 3 (by decide) (Nat.le_of_ble_eq_true rfl)
  have ne_dr_mo : dr ≠ mo := Ne.symm ne_mo_dr
  have ne_mo_en : mo ≠ en := pw_ne hap 0 4 (by decide) (Nat.le_of_ble_eq_true rfl)
  have ne_en_mo : en ≠ mo := Ne.symm ne_mo_en
  have ne_mo_la : mo ≠ la := pw_ne hap 0 5 (by decide) (Nat.le_of_ble_eq_true rfl)
  have ne_la_mo : la ≠ mo := Ne.symm ne_mo_la
  have ne_mo_wo : mo ≠ wo := pw_ne hap 0 6 (by decide) (Nat.le_of_ble_eq_true rfl)
  have ne_wo_mo : wo ≠ mo := Ne.symm ne_mo_wo
  have ne_mo_op : mo ≠ op := pw_ne hap 0 7 (by decide) (Nat.le_of_ble_eq_true rfl)
  have ne_op_mo : op ≠ mo := Ne.symm ne_mo_op
  have ne_mo_mk : mo ≠ mk := pw_ne hap 0 8 (by decide) (Nat.le_of_ble_eq_true rfl)
  have ne_mk_mo : mk ≠ mo := Ne.symm ne_mo_mk
  have ne_mo_ir : mo ≠ ir := pw_ne hap 0 9 (by decide) (Nat.le_of_ble_eq_true rfl)
  have ne_ir_mo : ir ≠ mo := Ne.symm ne_mo_ir
  refine lv_aload_n hx hb dX6_append_0 rfl (lv_at hl 0 rfl) ?_
  refine lv_iload_n hx hb dX6_append_1 rfl (lv_at hl 1 rfl) ?_
  refine lv_iload_n hx hb dX6_append_2 rfl (lv_at hl 2 rfl) ?_
  refine lv_aload_n hx hb dX6_append_3 rfl (lv_at hl 0 rfl) ?_
  refine lv_iload_n hx hb dX6_append_4 rfl (lv_at hl 1 rfl) ?_
  refine m_kV (As := [.int t]) (rest := [.int path, .int t, .ref mo]) (rm := { frames := 0, cells := 0, slots := 0, locals := 0 }) ⟨hx, hb, hml, hown, hts⟩ (c_X6_isOpen l D k z _ mo 0 t hF) (cwV 1 hts gX6_append_X6_isOpen rfl rfl rfl (by decide +kernel) ⟨Nat.le_of_ble_eq_true rfl, Nat.le_of_ble_eq_true rfl⟩) (m_recv hK hm (q := (RX6, TX6, 24)) rfl hM) hz hcx hm hS rfl hl.1 rfl (Nat.le_of_ble_eq_true rfl) dX6_append_5 ⟨Nat.le_of_ble_eq_true rfl, Nat.le_of_ble_eq_true rfl⟩ (fun v M1 H locs hv hm hS => ?_)
  obtain ⟨hv1, hM1⟩ := hv
  subst hv1
  rw [hM1] at hm
  refine W.eq (g2 := F0 m 8 ls [.int 0, .int path, .int t, .ref mo]) rfl ?_
  refine W.widen (k := 0) (n := 0) (Nat.le_of_ble_eq_true rfl) (Nat.le_of_ble_eq_true rfl) ?_
  have hm : mm D (AZ z) M H := hm
  refine lv_iconst (v := 1) hx hb dX6_append_8 (by decide) ?_
  refine m_kV (As := [.int t, .int path, .int 0, .int 1]) (rest := []) (rm := { frames := 1, cells := 0, slots := 0, locals := 21 }) ⟨hx, hb, hml, hown, hts⟩ (c_X6_file0 l D k z _ mo t path 1 hF) (cwV 4 hts gX6_append_X6_file rfl rfl rfl (by decide +kernel) ⟨Nat.le_of_ble_eq_true rfl, Nat.le_of_ble_eq_true rfl⟩) (m_recv hK hm (q := (RX6, TX6, 24)) rfl hM) hz hcx hm hS rfl hl.1 rfl (Nat.le_of_ble_eq_true rfl) dX6_append_9 ⟨Nat.le_of_ble_eq_true rfl, Nat.le_of_ble_eq_true rfl⟩ (fun v M1 H locs hv hm hS => ?_)
  obtain ⟨hv1, hC9⟩ := hv
  subst hv1
  obtain ⟨Mc1, hMx⟩ : ∃ x : mM, x = M1 := ⟨M1, rfl⟩
  subst hMx
  refine W.eq (g2 := F0 m 12 ls [.int (-1)]) rfl ?_
  refine W.widen (k := 0) (n := 0) (Nat.le_of_ble_eq_true rfl) (Nat.le_of_ble_eq_true rfl) ?_
  have hm : mm D (AZ z) Mc1 H := hm
  refine lv_istore (lv' := [(4, .int (-1)), (0, .ref mo), (1, .int t), (2, .int path), (3, .int w)]) hx hb dX6_append_12 hl (by decide) rfl (fun ls hl => ?_)
  refine lv_iload hx hb dX6_append_14 (lv_at hl 0 rfl) ?_
  refine lv_if_lt (tgt := 43) hx hb dX6_append_16 (by decide) (fun c1 => ?_) (fun c1 => ?_)
  · refine lv_iconst (v := 0) hx hb dX6_append_43 (by decide) ?_
    refine W.iret (v := 0) hx hb hr (fun t ht hW => ⟨⟨some (.int 0), _, rfl, ?_, by rw [ht]; exact hm⟩, hS.F ht⟩) hS.2.2 dX6_append_44
    exact ⟨rfl, hC9⟩
  · first | exact absurd c1 (by decide) | exact absurd (by decide) c1

set_option maxHeartbeats 4000000 in
set_option maxRecDepth 100000 in
theorem c_X6_cut (l : Launch) (D : va_G) (k : Nat → ClassId) (z : Nat) (M : mM) (mo : Nat) (t path n : Int32) (hF : mFr k M mo 0) : mK l yX6_cut wsX6_cut ({ frames := 2, cells := 0, slots := 0, locals := 46 }) D k z [.ref mo, .int t, .int path, .int n] M (fun v M' => v = some (.int 0) ∧ codeIs M' mo 1) := by
  refine Met.ofW (cc := cX6_cut) (maxL := 7) (ret := (some .int)) (by decide) rfl ?_
  intro p e s m args below meth c s₁ B hml hv
  obtain ⟨rfl, hz, hcx, hm⟩ := hv
  have hx := B.exec
  have hb := B.bytes
  have hr := B.returns
  have hts := atoms_spec (ws := wsX6_cut) B.pre
  have hown : s.vm.findClass RX6 = some m.cls := findClass_of_methodNamed B.named
  have hlocks := B.notSynchronized
  have hK := hcx.1
  have hS : va_S (AZ z) s.heap s.heap [] := va_S.rf
  have hA : ∀ q, s.heap.size ≤ q → AZ z q := fun q h => Nat.le_trans hz h
  have hl := lv_entry ([.ref mo, .int t, .int path, .int n]) (n := 7) (Nat.le_of_ble_eq_true rfl)
  rw [lg_entry_eq]
  generalize (lg_sl ([.ref mo, .int t, .int path, .int n]) ++ List.replicate (7 - (lg_sl ([.ref mo, .int t, .int path, .int n])).length) Slot.unset).toArray = ls at hl ⊢
  have hl : lv_has ls 7 [(0, .ref mo), (1, .int t), (2, .int path), (3, .int n)] := hl
  have f24 := hts (.fieldLink RX6 24 "CommitTreeModel" "lengths" "[I") (by decide +kernel)
  have f28 := hts (.fieldLink RX6 28 "CommitTreeModel" "words" "[I") (by decide +kernel)
  have wX6 : ∀ w ∈ wsX60, w ∈ wsX6_cut := by decide +kernel
  obtain ⟨cn, ia, dr, en, la, wo, op, mk, ir, se, ec, lc, wc, ol, al, hap, hM, hcn, hia, hdr, hen, hla, hwo, hop, hmk, hir⟩ := id hF
  have ne_mo_cn : mo ≠ cn := pw_ne hap 0 1 (by decide) (Nat.le_of_ble_eq_true rfl)
  have ne_cn_mo : cn ≠ mo := Ne.symm ne_mo_cn
  have ne_mo_ia : mo ≠ ia := pw_ne hap 0 2 (by decide) (Nat.le_of_ble_eq_true rfl)
  have ne_ia_mo : ia ≠ mo := Ne.symm ne_mo_ia
  have ne_mo_dr : mo ≠ dr := pw_ne hap 0 3 (by decide) (Nat.le_of_ble_eq_true rfl)
  have ne_dr_mo : dr ≠ mo := Ne.symm ne_mo_dr
  have ne_mo_en : mo ≠ en := pw_ne hap 0 4 (by decide) (Nat.le_of_ble_eq_true rfl)
  have ne_en_mo : en ≠ mo := Ne.symm ne_mo_en
  have ne_mo_la : mo ≠ la := pw_ne hap 0 5 (by decide) (Nat.le_of_ble_eq_true rfl)
  have ne_la_mo : la ≠ mo := Ne.symm ne_mo_la
  have ne_mo_wo : mo ≠ wo := pw_ne hap 0 6 (by decide) (Nat.le_of_ble_eq_true rfl)
  have ne_wo_mo : wo ≠ mo := Ne.symm ne_mo_wo
  have ne_mo_op : mo ≠ op := pw_ne hap 0 7 (by decide) (Nat.le_of_ble_eq_true rfl)
  have ne_op_mo : op ≠ mo := Ne.symm ne_mo_op
  have ne_mo_mk : mo ≠ mk := pw_ne hap 0 8 (by decide) (Nat.le_of_ble_eq_true rfl)
  have ne_mk_mo : mk ≠ mo := Ne.symm ne_mo_mk
  have ne_mo_ir : mo ≠ ir := pw_ne hap 0 9 (by decide) (Nat.le_of_ble_eq_true rfl)
  have ne_ir_mo : ir ≠ mo := Ne.symm ne_mo_ir
  refine lv_aload_n hx hb dX6_cut_0 rfl (lv_at hl 0 rfl) ?_
  refine lv_iload_n hx hb dX6_cut_1 rfl (lv_at hl 1 rfl) ?_
  refine lv_iload_n hx hb dX6_cut_2 rfl (lv_at hl 2 rfl) ?_
  refine lv_aload_n hx hb dX6_cut_3 rfl (lv_at hl 0 rfl) ?_
  refine lv_iload_n hx hb dX6_cut_4 rfl (lv_at hl 1 rfl) ?_
  refine m_kV (As := [.int t]) (rest := [.int path, .int t, .ref mo]) (rm := { frames := 0, cells := 0, slots := 0, locals := 0 }) ⟨hx, hb, hml, hown, hts⟩ (c_X6_isOpen l D k z _ mo 0 t hF) (cwV 1 hts gX6_cut_X6_isOpen rfl rfl rfl (by decide +kernel) ⟨Nat.le_of_ble_eq_true rfl, Nat.le_of_ble_eq_true rfl⟩) (m_recv hK hm (q := (RX6, TX6, 24)) rfl hM) hz hcx hm hS rfl hl.1 rfl (Nat.le_of_ble_eq_true rfl) dX6_cut_5 ⟨Nat.le_of_ble_eq_true rfl, Nat.le_of_ble_eq_true rfl⟩ (fun v M1 H locs hv hm hS => ?_)
  obtain ⟨hv1, hM1⟩ := hv
  subst hv1
  rw [hM1] at hm
  refine W.eq (g2 := F0 m 8 ls [.int 0, .int path, .int t, .ref mo]) rfl ?_
  refine W.widen (k := 0) (n := 0) (Nat.le_of_ble_eq_true rfl) (Nat.le_of_ble_eq_true rfl) ?_
  have hm : mm D (AZ z) M H := hm
  refine lv_iload_n hx hb dX6_cut_8 rfl (lv_at hl 3 rfl) ?_
  refine lv_if_lt (tgt := 22) hx hb dX6_cut_9 (by decide) (fun c1 => ?_) (fun c1 => ?_)
  · refine lv_iconst (v := 0) hx hb dX6_cut_22 (by decide) ?_
    refine m_kV (As := [.int t, .int path, .int 0, .int 0]) (rest := []) (rm := { frames := 1, cells := 0, slots := 0, locals := 21 }) ⟨hx, hb, hml, hown, hts⟩ (c_X6_file0 l D k z _ mo t path 0 hF) (cwV 4 hts gX6_cut_X6_file rfl rfl rfl (by decide +kernel) ⟨Nat.le_of_ble_eq_true rfl, Nat.le_of_ble_eq_true rfl⟩) (m_recv hK hm (q := (RX6, TX6, 24)) rfl hM) hz hcx hm hS rfl hl.1 rfl (Nat.le_of_ble_eq_true rfl) dX6_cut_23 ⟨Nat.le_of_ble_eq_true rfl, Nat.le_of_ble_eq_true rfl⟩ (fun v M1 H locs hv hm hS => ?_)
    obtain ⟨hv1, hC9⟩ := hv
    subst hv1
    obtain ⟨Mc1, hMx⟩ : ∃ x : mM, x = M1 := ⟨M1, rfl⟩
    subst hMx
    refine W.eq (g2 := F0 m 26 ls [.int (-1)]) rfl ?_
    refine W.widen (k := 0) (n := 0) (Nat.le_of_ble_eq_true rfl) (Nat.le_of_ble_eq_true rfl) ?_
    have hm : mm D (AZ z) Mc1 H := hm
    refine lv_istore (lv' := [(4, .int (-1)), (0, .ref mo), (1, .int t), (2, .int path), (3, .int n)]) hx hb dX6_cut_26 hl (by decide) rfl (fun ls hl => ?_)
    refine lv_iload hx hb dX6_cut_28 (lv_at hl 0 rfl) ?_
    refine lv_if_lt (tgt := 56) hx hb dX6_cut_30 (by decide) (fun c2 => ?_) (fun c2 => ?_)
    · refine lv_iconst (v := 0) hx hb dX6_cut_56 (by decide) ?_
      refine W.iret (v := 0) hx hb hr (fun t ht hW => ⟨⟨some (.int 0), _, rfl, ?_, by rw [ht]; exact hm⟩, hS.F ht⟩) hS.2.2 dX6_cut_57
      exact ⟨rfl, hC9⟩
    · first | exact absurd c2 (by decide) | exact absurd (by decide) c2
  · refine lv_iload_n hx hb dX6_cut_12 rfl (lv_at hl 3 rfl) ?_
    refine lv_bipush (v := 64) hx hb dX6_cut_13 (by decide) ?_
    refine lv_icmp_gt (tgt := 22) hx hb dX6_cut_15 (by decide) (fun c3 => ?_) (fun c3 => ?_)
    · refine lv_iconst (v := 0) hx hb dX6_cut_22 (by decide) ?_
      refine m_kV (As := [.int t, .int path, .int 0, .int 0]) (rest := []) (rm := { frames := 1, cells := 0, slots := 0, locals := 21 }) ⟨hx, hb, hml, hown, hts⟩ (c_X6_file0 l D k z _ mo t path 0 hF) (cwV 4 hts gX6_cut_X6_file rfl rfl rfl (by decide +kernel) ⟨Nat.le_of_ble_eq_true rfl, Nat.le_of_ble_eq_true rfl⟩) (m_recv hK hm (q := (RX6, TX6, 24)) rfl hM) hz hcx hm hS rfl hl.1 rfl (Nat.le_of_ble_eq_true rfl) dX6_cut_23 ⟨Nat.le_of_ble_eq_true rfl, Nat.le_of_ble_eq_true rfl⟩ (fun v M1 H locs hv hm hS => ?_)
      obtain ⟨hv1, hC9⟩ := hv
      subst hv1
      obtain ⟨Mc2, hMx⟩ : ∃ x : mM, x = M1 := ⟨M1, rfl⟩
      subst hMx
      refine W.eq (g2 := F0 m 26 ls [.int (-1)]) rfl ?_
      refine W.widen (k := 0) (n := 0) (Nat.le_of_ble_eq_true rfl) (Nat.le_of_ble_eq_true rfl) ?_
      have hm : mm D (AZ z) Mc2 H := hm
      refine lv_istore (lv' := [(4, .int (-1)), (0, .ref mo), (1, .int t), (2, .int path), (3, .int n)]) hx hb dX6_cut_26 hl (by decide) rfl (fun ls hl => ?_)
      refine lv_iload hx hb dX6_cut_28 (lv_at hl 0 rfl) ?_
      refine lv_if_lt (tgt := 56) hx hb dX6_cut_30 (by decide) (fun c4 => ?_) (fun c4 => ?_)
      · refine lv_iconst (v := 0) hx hb dX6_cut_56 (by decide) ?_
        refine W.iret (v := 0) hx hb hr (fun t ht hW => ⟨⟨some (.int 0), _, rfl, ?_, by rw [ht]; exact hm⟩, hS.F ht⟩) hS.2.2 dX6_cut_57
        exact ⟨rfl, hC9⟩
      · first | exact absurd c4 (by decide) | exact absurd (by decide) c4
    · refine lv_iconst (v := 1) hx hb dX6_cut_18 (by decide) ?_
      refine lv_goto (tgt := 23) hx hb dX6_cut_19 (by decide) ?_
      refine m_kV (As := [.int t, .int path, .int 0, .int 1]) (rest := []) (rm := { frames := 1, cells := 0, slots := 0, locals := 21 }) ⟨hx, hb, hml, hown, hts⟩ (c_X6_file0 l D k z _ mo t path 1 hF) (cwV 4 hts gX6_cut_X6_file rfl rfl rfl (by decide +kernel) ⟨Nat.le_of_ble_eq_true rfl, Nat.le_of_ble_eq_true rfl⟩) (m_recv hK hm (q := (RX6, TX6, 24)) rfl hM) hz hcx hm hS rfl hl.1 rfl (Nat.le_of_ble_eq_true rfl) dX6_cut_23 ⟨Nat.le_of_ble_eq_true rfl, Nat.le_of_ble_eq_true rfl⟩ (fun v M1 H locs hv hm hS => ?_)
      obtain ⟨hv1, hC9⟩ := hv
      subst hv1
      obtain ⟨Mc3, hMx⟩ : ∃ x : mM, x = M1 := ⟨M1, rfl⟩
      subst hMx
      refine W.eq (g2 := F0 m 26 ls [.int (-1)]) rfl ?_
      refine W.widen (k := 0) (n := 0) (Nat.le_of_ble_eq_true rfl) (Nat.le_of_ble_eq_true rfl) ?_
      have hm : mm D (AZ z) Mc3 H := hm
      refine lv_istore (lv' := [(4, .int (-1)), (0, .ref mo), (1, .int t), (2, .int path), (3, .int n)]) hx hb dX6_cut_26 hl (by decide) rfl (fun ls hl => ?_)
      refine lv_iload hx hb dX6_cut_28 (lv_at hl 0 rfl) ?_
      refine lv_if_lt (tgt := 56) hx hb dX6_cut_30 (by decide) (fun c5 => ?_) (fun c5 => ?_)
      · refine lv_iconst (v := 0) hx hb dX6_cut_56 (by decide) ?_
        refine W.iret (v := 0) hx hb hr (fun t ht hW => ⟨⟨some (.int 0), _, rfl, ?_, by rw [ht]; exact hm⟩, hS.F ht⟩) hS.2.2 dX6_cut_57
        exact ⟨rfl, hC9⟩
      · first | exact absurd c5 (by decide) | exact absurd (by decide) c5

set_option maxHeartbeats 4000000 in
set_option maxRecDepth 100000 in
theorem c_X6_read (l : Launch) (D : va_G) (k : Nat → ClassId) (z : Nat) (M : mM) (mo : Nat) (t path i : Int32) (hF : mFr k M mo 0) : mK l yX6_read wsX6_read ({ frames := 4, cells := 0, slots := 0, locals := 98 }) D k z [.ref mo, .int t, .int path, .int i] M (fun v M' => v = some (.int 0) ∧ ((t ≠ -1 ∧ codeIs M' mo 1) ∨ (t = -1 ∧ ∃ c, fiC path c ∧ codeIs M' mo c))) := by
  refine Met.ofW (cc := cX6_read) (maxL := 5) (ret := (some .int)) (by decide) rfl ?_
  intro p e s m args below meth c s₁ B hml hv
  obtain ⟨rfl, hz, hcx, hm⟩ := hv
  have hx := B.exec
  have hb := B.bytes
  have hr := B.returns
  have hts := atoms_spec (ws := wsX6_read) B.pre
  have hown : s.vm.findClass RX6 = some m.cls := findClass_of_methodNamed B.named
  have hlocks := B.notSynchronized
  have hK := hcx.1
  have hS : va_S (AZ z) s.heap s.heap [] := va_S.rf
  have hA : ∀ q, s.heap.size ≤ q → AZ z q := fun q h => Nat.le_trans hz h
  have hl := lv_entry ([.ref mo, .int t, .int path, .int i]) (n := 5) (Nat.le_of_ble_eq_true rfl)
  rw [lg_entry_eq]
  generalize (lg_sl ([.ref mo, .int t, .int path, .int i]) ++ List.replicate (5 - (lg_sl ([.ref mo, .int t, .int path, .int i])).length) Slot.unset).toArray = ls at hl ⊢
  have hl : lv_has ls 5 [(0, .ref mo), (1, .int t), (2, .int path), (3, .int i)] := hl
  have f24 := hts (.fieldLink RX6 24 "CommitTreeModel" "lengths" "[I") (by decide +kernel)
  have f28 := hts (.fieldLink RX6 28 "CommitTreeModel" "words" "[I") (by decide +kernel)
  have wX6 : ∀ w ∈ wsX60, w ∈ wsX6_read := by decide +kernel
  obtain ⟨cn, ia, dr, en, la, wo, op, mk, ir, se, ec, lc, wc, ol, al, hap, hM, hcn, hia, hdr, hen, hla, hwo, hop, hmk, hir⟩ := id hF
  have ne_mo_cn : mo ≠ cn := pw_ne hap 0 1 (by decide) (Nat.le_of_ble_eq_true rfl)
  have ne_cn_mo : cn ≠ mo := Ne.symm ne_mo_cn
  have ne_mo_ia : mo ≠ ia := pw_ne hap 0 2 (by decide) (Nat.le_of_ble_eq_true rfl)
  have ne_ia_mo : ia ≠ mo := Ne.symm ne_mo_ia
  have ne_mo_dr : mo ≠ dr := pw_ne hap 0 3 (by decide) (Nat.le_of_ble_eq_true rfl)
  have ne_dr_mo : dr ≠ mo := Ne.symm ne_mo_dr
  have ne_mo_en : mo ≠ en := pw_ne hap 0 4 (by decide) (Nat.le_of_ble_eq_true rfl)
  have ne_en_mo : en ≠ mo := Ne.symm ne_mo_en
  have ne_mo_la : mo ≠ la := pw_ne hap 0 5 (by decide) (Nat.le_of_ble_eq_true rfl)
  have ne_la_mo : la ≠ mo := Ne.symm ne_mo_la
  have ne_mo_wo : mo ≠ wo := pw_ne hap 0 6 (by decide) (Nat.le_of_ble_eq_true rfl)
  have ne_wo_mo : wo ≠ mo := Ne.symm ne_mo_wo
  have ne_mo_op : mo ≠ op := pw_ne hap 0 7 (by decide) (Nat.le_of_ble_eq_true rfl)
  have ne_op_mo : op ≠ mo := Ne.symm ne_mo_op
  have ne_mo_mk : mo ≠ mk := pw_ne hap 0 8 (by decide) (Nat.le_of_ble_eq_true rfl)
  have ne_mk_mo : mk ≠ mo := Ne.symm ne_mo_mk
  have ne_mo_ir : mo ≠ ir := pw_ne hap 0 9 (by decide) (Nat.le_of_ble_eq_true rfl)
  have ne_ir_mo : ir ≠ mo := Ne.symm ne_mo_ir
  refine lv_aload_n hx hb dX6_read_0 rfl (lv_at hl 0 rfl) ?_
  refine lv_iload_n hx hb dX6_read_1 rfl (lv_at hl 1 rfl) ?_
  refine lv_iload_n hx hb dX6_read_2 rfl (lv_at hl 2 rfl) ?_
  refine lv_aload_n hx hb dX6_read_3 rfl (lv_at hl 0 rfl) ?_
  refine lv_iload_n hx hb dX6_read_4 rfl (lv_at hl 1 rfl) ?_
  refine m_kV (As := [.int t]) (rest := [.int path, .int t, .ref mo]) (rm := { frames := 1, cells := 0, slots := 0, locals := 21 }) ⟨hx, hb, hml, hown, hts⟩ (c_X6_mayLook l D k z _ mo 0 t hF) (cwV 1 hts gX6_read_X6_mayLook rfl rfl rfl (by decide +kernel) ⟨Nat.le_of_ble_eq_true rfl, Nat.le_of_ble_eq_true rfl⟩) (m_recv hK hm (q := (RX6, TX6, 24)) rfl hM) hz hcx hm hS rfl hl.1 rfl (Nat.le_of_ble_eq_true rfl) dX6_read_5 ⟨Nat.le_of_ble_eq_true rfl, Nat.le_of_ble_eq_true rfl⟩ (fun v M1 H locs hv hm hS => ?_)
  obtain ⟨hv2, hM1⟩ := hv
  rw [hM1] at hm
  rcases hv2 with ⟨ht9, hv1⟩ | ⟨ht9, hv1⟩
  · subst hv1
    subst ht9
    refine W.eq (g2 := F0 m 8 ls [.int 1, .int path, .int (-1), .ref mo]) rfl ?_
    refine W.widen (k := 0) (n := 0) (Nat.le_of_ble_eq_true rfl) (Nat.le_of_ble_eq_true rfl) ?_
    have hm : mm D (AZ z) M H := hm
    refine lv_iconst (v := 1) hx hb dX6_read_8 (by decide) ?_
    refine m_kV (As := [.int (-1), .int path, .int 1, .int 1]) (rest := []) (rm := { frames := 3, cells := 0, slots := 0, locals := 73 }) ⟨hx, hb, hml, hown, hts⟩ (c_X6_file1 l D k z _ mo path hF) (cwV 4 hts gX6_read_X6_file rfl rfl rfl (by decide +kernel) ⟨Nat.le_of_ble_eq_true rfl, Nat.le_of_ble_eq_true rfl⟩) (m_recv hK hm (q := (RX6, TX6, 24)) rfl hM) hz hcx hm hS rfl hl.1 rfl (Nat.le_of_ble_eq_true rfl) dX6_read_9 ⟨Nat.le_of_ble_eq_true rfl, Nat.le_of_ble_eq_true rfl⟩ (fun v M1 H locs hv hm hS => ?_)
    obtain ⟨hv1, hC9⟩ := hv
    subst hv1
    obtain ⟨Mc1, hMx⟩ : ∃ x : mM, x = M1 := ⟨M1, rfl⟩
    subst hMx
    refine W.eq (g2 := F0 m 12 ls [.int (-1)]) rfl ?_
    refine W.widen (k := 0) (n := 0) (Nat.le_of_ble_eq_true rfl) (Nat.le_of_ble_eq_true rfl) ?_
    have hm : mm D (AZ z) Mc1 H := hm
    refine lv_istore (lv' := [(4, .int (-1)), (0, .ref mo), (1, .int (-1)), (2, .int path), (3, .int i)]) hx hb dX6_read_12 hl (by decide) rfl (fun ls hl => ?_)
    refine lv_iload hx hb dX6_read_14 (lv_at hl 0 rfl) ?_
    refine lv_if_lt (tgt := 46) hx hb dX6_read_16 (by decide) (fun c1 => ?_) (fun c1 => ?_)
    · refine lv_iconst (v := 0) hx hb dX6_read_46 (by decide) ?_
      refine W.iret (v := 0) hx hb hr (fun t ht hW => ⟨⟨some (.int 0), _, rfl, ?_, by rw [ht]; exact hm⟩, hS.F ht⟩) hS.2.2 dX6_read_47
      first
        | exact ⟨rfl, Or.inr ⟨rfl, hC9⟩⟩
        | exact ⟨rfl, Or.inl ⟨ht9, hC9⟩⟩
    · first | exact absurd c1 (by decide) | exact absurd (by decide) c1
  · subst hv1
    refine W.eq (g2 := F0 m 8 ls [.int 0, .int path, .int t, .ref mo]) rfl ?_
    refine W.widen (k := 0) (n := 0) (Nat.le_of_ble_eq_true rfl) (Nat.le_of_ble_eq_true rfl) ?_
    have hm : mm D (AZ z) M H := hm
    refine lv_iconst (v := 1) hx hb dX6_read_8 (by decide) ?_
    refine m_kV (As := [.int t, .int path, .int 0, .int 1]) (rest := []) (rm := { frames := 1, cells := 0, slots := 0, locals := 21 }) ⟨hx, hb, hml, hown, hts⟩ (c_X6_file0 l D k z _ mo t path 1 hF) (cwV 4 hts gX6_read_X6_file rfl rfl rfl (by decide +kernel) ⟨Nat.le_of_ble_eq_true rfl, Nat.le_of_ble_eq_true rfl⟩) (m_recv hK hm (q := (RX6, TX6, 24)) rfl hM) hz hcx hm hS rfl hl.1 rfl (Nat.le_of_ble_eq_true rfl) dX6_read_9 ⟨Nat.le_of_ble_eq_true rfl, Nat.le_of_ble_eq_true rfl⟩ (fun v M1 H locs hv hm hS => ?_)
    obtain ⟨hv1, hC9⟩ := hv
    subst hv1
    obtain ⟨Mc2, hMx⟩ : ∃ x : mM, x = M1 := ⟨M1, rfl⟩
    subst hMx
    refine W.eq (g2 := F0 m 12 ls [.int (-1)]) rfl ?_
    refine W.widen (k := 0) (n := 0) (Nat.le_of_ble_eq_true rfl) (Nat.le_of_ble_eq_true rfl) ?_
    have hm : mm D (AZ z) Mc2 H := hm
    refine lv_istore (lv' := [(4, .int (-1)), (0, .ref mo), (1, .int t), (2, .int path), (3, .int i)]) hx hb dX6_read_12 hl (by decide) rfl (fun ls hl => ?_)
    refine lv_iload hx hb dX6_read_14 (lv_at hl 0 rfl) ?_
    refine lv_if_lt (tgt := 46) hx hb dX6_read_16 (by decide) (fun c2 => ?_) (fun c2 => ?_)
    · refine lv_iconst (v := 0) hx hb dX6_read_46 (by decide) ?_
      refine W.iret (v := 0) hx hb hr (fun t ht hW => ⟨⟨some (.int 0), _, rfl, ?_, by rw [ht]; exact hm⟩, hS.F ht⟩) hS.2.2 dX6_read_47
      first
        | exact ⟨rfl, Or.inr ⟨rfl, hC9⟩⟩
        | exact ⟨rfl, Or.inl ⟨ht9, hC9⟩⟩
    · first | exact absurd c2 (by decide) | exact absurd (by decide) c2

set_option maxHeartbeats 4000000 in
set_option maxRecDepth 100000 in
theorem c_X6_length (l : Launch) (D : va_G) (k : Nat → ClassId) (z : Nat) (M : mM) (mo : Nat) (t path : Int32) (hF : mFr k M mo 0) : mK l yX6_length wsX6_length ({ frames := 4, cells := 0, slots := 0, locals := 98 }) D k z [.ref mo, .int t, .int path] M (fun v M' => v = some (.int 0) ∧ ((t ≠ -1 ∧ codeIs M' mo 1) ∨ (t = -1 ∧ ∃ c, fiC path c ∧ codeIs M' mo c))) := by
  refine Met.ofW (cc := cX6_length) (maxL := 4) (ret := (some .int)) (by decide) rfl ?_
  intro p e s m args below meth c s₁ B hml hv
  obtain ⟨rfl, hz, hcx, hm⟩ := hv
  have hx := B.exec
  have hb := B.bytes
  have hr := B.returns
  have hts := atoms_spec (ws := wsX6_length) B.pre
  have hown : s.vm.findClass RX6 = some m.cls := findClass_of_methodNamed B.named
  have hlocks := B.notSynchronized
  have hK := hcx.1
  have hS : va_S (AZ z) s.heap s.heap [] := va_S.rf
  have hA : ∀ q, s.heap.size ≤ q → AZ z q := fun q h => Nat.le_trans hz h
  have hl := lv_entry ([.ref mo, .int t, .int path]) (n := 4) (Nat.le_of_ble_eq_true rfl)
  rw [lg_entry_eq]
  generalize (lg_sl ([.ref mo, .int t, .int path]) ++ List.replicate (4 - (lg_sl ([.ref mo, .int t, .int path])).length) Slot.unset).toArray = ls at hl ⊢
  have hl : lv_has ls 4 [(0, .ref mo), (1, .int t), (2, .int path)] := hl
  have f24 := hts (.fieldLink RX6 24 "CommitTreeModel" "lengths" "[I") (by decide +kernel)
  have wX6 : ∀ w ∈ wsX60, w ∈ wsX6_length := by decide +kernel
  obtain ⟨cn, ia, dr, en, la, wo, op, mk, ir, se, ec, lc, wc, ol, al, hap, hM, hcn, hia, hdr, hen, hla, hwo, hop, hmk, hir⟩ := id hF
  have ne_mo_cn : mo ≠ cn := pw_ne hap 0 1 (by decide) (Nat.le_of_ble_eq_true rfl)
  have ne_cn_mo : cn ≠ mo := Ne.symm ne_mo_cn
  have ne_mo_ia : mo ≠ ia := pw_ne hap 0 2 (by decide) (Nat.le_of_ble_eq_true rfl)
  have ne_ia_mo : ia ≠ mo := Ne.symm ne_mo_ia
  have ne_mo_dr : mo ≠ dr := pw_ne hap 0 3 (by decide) (Nat.le_of_ble_eq_true rfl)
  have ne_dr_mo : dr ≠ mo := Ne.symm ne_mo_dr
  have ne_mo_en : mo ≠ en := pw_ne hap 0 4 (by decide) (Nat.le_of_ble_eq_true rfl)
  have ne_en_mo : en ≠ mo := Ne.symm ne_mo_en
  have ne_mo_la : mo ≠ la := pw_ne hap 0 5 (by decide) (Nat.le_of_ble_eq_true rfl)
  have ne_la_mo : la ≠ mo := Ne.symm ne_mo_la
  have ne_mo_wo : mo ≠ wo := pw_ne hap 0 6 (by decide) (Nat.le_of_ble_eq_true rfl)
  have ne_wo_mo : wo ≠ mo := Ne.symm ne_mo_wo
  have ne_mo_op : mo ≠ op := pw_ne hap 0 7 (by decide) (Nat.le_of_ble_eq_true rfl)
  have ne_op_mo : op ≠ mo := Ne.symm ne_mo_op
  have ne_mo_mk : mo ≠ mk := pw_ne hap 0 8 (by decide) (Nat.le_of_ble_eq_true rfl)
  have ne_mk_mo : mk ≠ mo := Ne.symm ne_mo_mk
  have ne_mo_ir : mo ≠ ir := pw_ne hap 0 9 (by decide) (Nat.le_of_ble_eq_true rfl)
  have ne_ir_mo : ir ≠ mo := Ne.symm ne_mo_ir
  refine lv_aload_n hx hb dX6_length_0 rfl (lv_at hl 0 rfl) ?_
  refine lv_iload_n hx hb dX6_length_1 rfl (lv_at hl 1 rfl) ?_
  refine lv_iload_n hx hb dX6_length_2 rfl (lv_at hl 2 rfl) ?_
  refine lv_aload_n hx hb dX6_length_3 rfl (lv_at hl 0 rfl) ?_
  refine lv_iload_n hx hb dX6_length_4 rfl (lv_at hl 1 rfl) ?_
  refine m_kV (As := [.int t]) (rest := [.int path, .int t, .ref mo]) (rm := { frames := 1, cells := 0, slots := 0, locals := 21 }) ⟨hx, hb, hml, hown, hts⟩ (c_X6_mayLook l D k z _ mo 0 t hF) (cwV 1 hts gX6_length_X6_mayLook rfl rfl rfl (by decide +kernel) ⟨Nat.le_of_ble_eq_true rfl, Nat.le_of_ble_eq_true rfl⟩) (m_recv hK hm (q := (RX6, TX6, 24)) rfl hM) hz hcx hm hS rfl hl.1 rfl (Nat.le_of_ble_eq_true rfl) dX6_length_5 ⟨Nat.le_of_ble_eq_true rfl, Nat.le_of_ble_eq_true rfl⟩ (fun v M1 H locs hv hm hS => ?_)
  obtain ⟨hv2, hM1⟩ := hv
  rw [hM1] at hm
  rcases hv2 with ⟨ht9, hv1⟩ | ⟨ht9, hv1⟩
  · subst hv1
    subst ht9
    refine W.eq (g2 := F0 m 8 ls [.int 1, .int path, .int (-1), .ref mo]) rfl ?_
    refine W.widen (k := 0) (n := 0) (Nat.le_of_ble_eq_true rfl) (Nat.le_of_ble_eq_true rfl) ?_
    have hm : mm D (AZ z) M H := hm
    refine lv_iconst (v := 1) hx hb dX6_length_8 (by decide) ?_
    refine m_kV (As := [.int (-1), .int path, .int 1, .int 1]) (rest := []) (rm := { frames := 3, cells := 0, slots := 0, locals := 73 }) ⟨hx, hb, hml, hown, hts⟩ (c_X6_file1 l D k z _ mo path hF) (cwV 4 hts gX6_length_X6_file rfl rfl rfl (by decide +kernel) ⟨Nat.le_of_ble_eq_true rfl, Nat.le_of_ble_eq_true rfl⟩) (m_recv hK hm (q := (RX6, TX6, 24)) rfl hM) hz hcx hm hS rfl hl.1 rfl (Nat.le_of_ble_eq_true rfl) dX6_length_9 ⟨Nat.le_of_ble_eq_true rfl, Nat.le_of_ble_eq_true rfl⟩ (fun v M1 H locs hv hm hS => ?_)
    obtain ⟨hv1, hC9⟩ := hv
    subst hv1
    obtain ⟨Mc1, hMx⟩ : ∃ x : mM, x = M1 := ⟨M1, rfl⟩
    subst hMx
    refine W.eq (g2 := F0 m 12 ls [.int (-1)]) rfl ?_
    refine W.widen (k := 0) (n := 0) (Nat.le_of_ble_eq_true rfl) (Nat.le_of_ble_eq_true rfl) ?_
    have hm : mm D (AZ z) Mc1 H := hm
    refine lv_istore_n (lv' := [(3, .int (-1)), (0, .ref mo), (1, .int (-1)), (2, .int path)]) hx hb dX6_length_12 rfl hl (by decide) rfl (fun ls hl => ?_)
    refine lv_iload_n hx hb dX6_length_13 rfl (lv_at hl 0 rfl) ?_
    refine lv_if_ge (tgt := 21) hx hb dX6_length_14 (by decide) (fun c1 => ?_) (fun c1 => ?_)
    · first | exact absurd c1 (by decide) | exact absurd (by decide) c1
    · refine lv_iconst (v := 0) hx hb dX6_length_17 (by decide) ?_
      refine lv_goto (tgt := 27) hx hb dX6_length_18 (by decide) ?_
      refine W.iret (v := 0) hx hb hr (fun t ht hW => ⟨⟨some (.int 0), _, rfl, ?_, by rw [ht]; exact hm⟩, hS.F ht⟩) hS.2.2 dX6_length_27
      first
        | exact ⟨rfl, Or.inr ⟨rfl, hC9⟩⟩
        | exact ⟨rfl, Or.inl ⟨ht9, hC9⟩⟩
  · subst hv1
    refine W.eq (g2 := F0 m 8 ls [.int 0, .int path, .int t, .ref mo]) rfl ?_
    refine W.widen (k := 0) (n := 0) (Nat.le_of_ble_eq_true rfl) (Nat.le_of_ble_eq_true rfl) ?_
    have hm : mm D (AZ z) M H := hm
    refine lv_iconst (v := 1) hx hb dX6_length_8 (by decide) ?_
    refine m_kV (As := [.int t, .int path, .int 0, .int 1]) (rest := []) (rm := { frames := 1, cells := 0, slots := 0, locals := 21 }) ⟨hx, hb, hml, hown, hts⟩ (c_X6_file0 l D k z _ mo t path 1 hF) (cwV 4 hts gX6_length_X6_file rfl rfl rfl (by decide +kernel) ⟨Nat.le_of_ble_eq_true rfl, Nat.le_of_ble_eq_true rfl⟩) (m_recv hK hm (q := (RX6, TX6, 24)) rfl hM) hz hcx hm hS rfl hl.1 rfl (Nat.le_of_ble_eq_true rfl) dX6_length_9 ⟨Nat.le_of_ble_eq_true rfl, Nat.le_of_ble_eq_true rfl⟩ (fun v M1 H locs hv hm hS => ?_)
    obtain ⟨hv1, hC9⟩ := hv
    subst hv1
    obtain ⟨Mc2, hMx⟩ : ∃ x : mM, x = M1 := ⟨M1, rfl⟩
    subst hMx
    refine W.eq (g2 := F0 m 12 ls [.int (-1)]) rfl ?_
    refine W.widen (k := 0) (n := 0) (Nat.le_of_ble_eq_true rfl) (Nat.le_of_ble_eq_true rfl) ?_
    have hm : mm D (AZ z) Mc2 H := hm
    refine lv_istore_n (lv' := [(3, .int (-1)), (0, .ref mo), (1, .int t), (2, .int path)]) hx hb dX6_length_12 rfl hl (by decide) rfl (fun ls hl => ?_)
    refine lv_iload_n hx hb dX6_length_13 rfl (lv_at hl 0 rfl) ?_
    refine lv_if_ge (tgt := 21) hx hb dX6_length_14 (by decide) (fun c2 => ?_) (fun c2 => ?_)
    · first | exact absurd c2 (by decide) | exact absurd (by decide) c2
    · refine lv_iconst (v := 0) hx hb dX6_length_17 (by decide) ?_
      refine lv_goto (tgt := 27) hx hb dX6_length_18 (by decide) ?_
      refine W.iret (v := 0) hx hb hr (fun t ht hW => ⟨⟨some (.int 0), _, rfl, ?_, by rw [ht]; exact hm⟩, hS.F ht⟩) hS.2.2 dX6_length_27
      first
        | exact ⟨rfl, Or.inr ⟨rfl, hC9⟩⟩
        | exact ⟨rfl, Or.inl ⟨ht9, hC9⟩⟩

set_option maxHeartbeats 4000000 in
set_option maxRecDepth 100000 in
theorem c_X6_kind (l : Launch) (D : va_G) (k : Nat → ClassId) (z : Nat) (M : mM) (mo : Nat) (t path : Int32) (hF : mFr k M mo 0) : mK l yX6_kind wsX6_kind ({ frames := 3, cells := 0, slots := 0, locals := 73 }) D k z [.ref mo, .int t, .int path] M (fun v M' => (t ≠ -1 ∧ v = some (.int 0) ∧ codeIs M' mo 1) ∨ (t = -1 ∧ ((¬ isP path ∧ v = some (.int 0) ∧ codeIs M' mo 2) ∨ (isP path ∧ path = 0 ∧ v = some (.int 1) ∧ codeIs M' mo 0) ∨ (isP path ∧ path ≠ 0 ∧ v = some (.int 0) ∧ codeIs M' mo 0)))) := by
  refine Met.ofW (cc := cX6_kind) (maxL := 4) (ret := (some .int)) (by decide) rfl ?_
  intro p e s m args below meth c s₁ B hml hv
  obtain ⟨rfl, hz, hcx, hm⟩ := hv
  have hx := B.exec
  have hb := B.bytes
  have hr := B.returns
  have hts := atoms_spec (ws := wsX6_kind) B.pre
  have hown : s.vm.findClass RX6 = some m.cls := findClass_of_methodNamed B.named
  have hlocks := B.notSynchronized
  have hK := hcx.1
  have hS : va_S (AZ z) s.heap s.heap [] := va_S.rf
  have hA : ∀ q, s.heap.size ≤ q → AZ z q := fun q h => Nat.le_trans hz h
  have hl := lv_entry ([.ref mo, .int t, .int path]) (n := 4) (Nat.le_of_ble_eq_true rfl)
  rw [lg_entry_eq]
  generalize (lg_sl ([.ref mo, .int t, .int path]) ++ List.replicate (4 - (lg_sl ([.ref mo, .int t, .int path])).length) Slot.unset).toArray = ls at hl ⊢
  have hl : lv_has ls 4 [(0, .ref mo), (1, .int t), (2, .int path)] := hl
  have f16 := hts (.fieldLink RX6 16 "CommitTreeModel" "dirs" "[Z") (by decide +kernel)
  have wX6 : ∀ w ∈ wsX60, w ∈ wsX6_kind := by decide +kernel
  obtain ⟨cn, ia, dr, en, la, wo, op, mk, ir, se, ec, lc, wc, ol, al, hap, hM, hcn, hia, hdr, hen, hla, hwo, hop, hmk, hir⟩ := id hF
  have ne_mo_cn : mo ≠ cn := pw_ne hap 0 1 (by decide) (Nat.le_of_ble_eq_true rfl)
  have ne_cn_mo : cn ≠ mo := Ne.symm ne_mo_cn
  have ne_mo_ia : mo ≠ ia := pw_ne hap 0 2 (by decide) (Nat.le_of_ble_eq_true rfl)
  have ne_ia_mo : ia ≠ mo := Ne.symm ne_mo_ia
  have ne_mo_dr : mo ≠ dr := pw_ne hap 0 3 (by decide) (Nat.le_of_ble_eq_true rfl)
  have ne_dr_mo : dr ≠ mo := Ne.symm ne_mo_dr
  have ne_mo_en : mo ≠ en := pw_ne hap 0 4 (by decide) (Nat.le_of_ble_eq_true rfl)
  have ne_en_mo : en ≠ mo := Ne.symm ne_mo_en
  have ne_mo_la : mo ≠ la := pw_ne hap 0 5 (by decide) (Nat.le_of_ble_eq_true rfl)
  have ne_la_mo : la ≠ mo := Ne.symm ne_mo_la
  have ne_mo_wo : mo ≠ wo := pw_ne hap 0 6 (by decide) (Nat.le_of_ble_eq_true rfl)
  have ne_wo_mo : wo ≠ mo := Ne.symm ne_mo_wo
  have ne_mo_op : mo ≠ op := pw_ne hap 0 7 (by decide) (Nat.le_of_ble_eq_true rfl)
  have ne_op_mo : op ≠ mo := Ne.symm ne_mo_op
  have ne_mo_mk : mo ≠ mk := pw_ne hap 0 8 (by decide) (Nat.le_of_ble_eq_true rfl)
  have ne_mk_mo : mk ≠ mo := Ne.symm ne_mo_mk
  have ne_mo_ir : mo ≠ ir := pw_ne hap 0 9 (by decide) (Nat.le_of_ble_eq_true rfl)
  have ne_ir_mo : ir ≠ mo := Ne.symm ne_mo_ir
  refine lv_aload_n hx hb dX6_kind_0 rfl (lv_at hl 0 rfl) ?_
  refine lv_aload_n hx hb dX6_kind_1 rfl (lv_at hl 0 rfl) ?_
  refine lv_iload_n hx hb dX6_kind_2 rfl (lv_at hl 1 rfl) ?_
  refine m_kV (As := [.int t]) (rest := [.ref mo]) (rm := { frames := 1, cells := 0, slots := 0, locals := 21 }) ⟨hx, hb, hml, hown, hts⟩ (c_X6_mayLook l D k z _ mo 0 t hF) (cwV 1 hts gX6_kind_X6_mayLook rfl rfl rfl (by decide +kernel) ⟨Nat.le_of_ble_eq_true rfl, Nat.le_of_ble_eq_true rfl⟩) (m_recv hK hm (q := (RX6, TX6, 24)) rfl hM) hz hcx hm hS rfl hl.1 rfl (Nat.le_of_ble_eq_true rfl) dX6_kind_3 ⟨Nat.le_of_ble_eq_true rfl, Nat.le_of_ble_eq_true rfl⟩ (fun v M1 H locs hv hm hS => ?_)
  obtain ⟨hv2, hM1⟩ := hv
  rw [hM1] at hm
  rcases hv2 with ⟨ht9, hv1⟩ | ⟨ht9, hv1⟩
  · subst hv1
    subst ht9
    refine W.eq (g2 := F0 m 6 ls [.int 1, .ref mo]) rfl ?_
    refine W.widen (k := 0) (n := 0) (Nat.le_of_ble_eq_true rfl) (Nat.le_of_ble_eq_true rfl) ?_
    have hm : mm D (AZ z) M H := hm
    refine lv_if_ne (tgt := 13) hx hb dX6_kind_6 (by decide) (fun c1 => ?_) (fun c1 => ?_)
    · refine lv_iload_n hx hb dX6_kind_13 rfl (lv_at hl 2 rfl) ?_
      refine m_kS (As := [.int path]) (rest := [.ref mo]) (rm := { frames := 0, cells := 0, slots := 0, locals := 0 }) ⟨hx, hb, hml, hown, hts⟩ (c_X6_isPath l D k z _ path) (cwS 1 hts gX6_kind_X6_isPath rfl rfl rfl (by decide +kernel) ⟨Nat.le_of_ble_eq_true rfl, Nat.le_of_ble_eq_true rfl⟩) hz hcx hm hS rfl hl.1 rfl (Nat.le_of_ble_eq_true rfl) dX6_kind_14 ⟨Nat.le_of_ble_eq_true rfl, Nat.le_of_ble_eq_true rfl⟩ (fun v M1 H locs hv hm hS => ?_)
      obtain ⟨hv2, hM1⟩ := hv
      rw [hM1] at hm
      rcases hv2 with ⟨hp9, hv1⟩ | ⟨hp9, hv1⟩
      · subst hv1
        refine W.eq (g2 := F0 m 17 ls [.int 1, .ref mo]) rfl ?_
        refine W.widen (k := 0) (n := 0) (Nat.le_of_ble_eq_true rfl) (Nat.le_of_ble_eq_true rfl) ?_
        have hm : mm D (AZ z) M H := hm
        refine lv_if_ne (tgt := 24) hx hb dX6_kind_17 (by decide) (fun c2 => ?_) (fun c2 => ?_)
        · refine lv_iconst (v := 0) hx hb dX6_kind_24 (by decide) ?_
          refine m_kV (As := [.int 0]) (rest := []) (rm := { frames := 0, cells := 0, slots := 0, locals := 0 }) ⟨hx, hb, hml, hown, hts⟩ (c_X6_fails l D k z _ mo 0 0 hF) (cwV 1 hts gX6_kind_X6_fails rfl rfl rfl (by decide +kernel) ⟨Nat.le_of_ble_eq_true rfl, Nat.le_of_ble_eq_true rfl⟩) (m_recv hK hm (q := (RX6, TX6, 24)) rfl hM) hz hcx hm hS rfl hl.1 rfl (Nat.le_of_ble_eq_true rfl) dX6_kind_25 ⟨Nat.le_of_ble_eq_true rfl, Nat.le_of_ble_eq_true rfl⟩ (fun v M1 H locs hv hm hS => ?_)
          obtain ⟨hv1, hF⟩ := hv
          have hv1 : v = some (.int 0) := hv1.trans (by decide)
          subst hv1
          obtain ⟨Mc1, hMx⟩ : ∃ x : mM, x = M1 := ⟨M1, rfl⟩
          subst hMx
          obtain ⟨cn, ia, dr, en, la, wo, op, mk, ir, se, ec, lc, wc, ol, al, hap, hM, hcn, hia, hdr, hen, hla, hwo, hop, hmk, hir⟩ := id hF
          have ne_mo_cn : mo ≠ cn := pw_ne hap 0 1 (by decide) (Nat.le_of_ble_eq_true rfl)
          have ne_cn_mo : cn ≠ mo := Ne.symm ne_mo_cn
          have ne_mo_ia : mo ≠ ia := pw_ne hap 0 2 (by decide) (Nat.le_of_ble_eq_true rfl)
          have ne_ia_mo : ia ≠ mo := Ne.symm ne_mo_ia
          have ne_mo_dr : mo ≠ dr := pw_ne hap 0 3 (by decide) (Nat.le_of_ble_eq_true rfl)
          have ne_dr_mo : dr ≠ mo := Ne.symm ne_mo_dr
          have ne_mo_en : mo ≠ en := pw_ne hap 0 4 (by decide) (Nat.le_of_ble_eq_true rfl)
          have ne_en_mo : en ≠ mo := Ne.symm ne_mo_en
          have ne_mo_la : mo ≠ la := pw_ne hap 0 5 (by decide) (Nat.le_of_ble_eq_true rfl)
          have ne_la_mo : la ≠ mo := Ne.symm ne_mo_la
          have ne_mo_wo : mo ≠ wo := pw_ne hap 0 6 (by decide) (Nat.le_of_ble_eq_true rfl)
          have ne_wo_mo : wo ≠ mo := Ne.symm ne_mo_wo
          have ne_mo_op : mo ≠ op := pw_ne hap 0 7 (by decide) (Nat.le_of_ble_eq_true rfl)
          have ne_op_mo : op ≠ mo := Ne.symm ne_mo_op
          have ne_mo_mk : mo ≠ mk := pw_ne hap 0 8 (by decide) (Nat.le_of_ble_eq_true rfl)
          have ne_mk_mo : mk ≠ mo := Ne.symm ne_mo_mk
          have ne_mo_ir : mo ≠ ir := pw_ne hap 0 9 (by decide) (Nat.le_of_ble_eq_true rfl)
          have ne_ir_mo : ir ≠ mo := Ne.symm ne_mo_ir
          refine W.eq (g2 := F0 m 28 ls [.int 0]) rfl ?_
          refine W.widen (k := 0) (n := 0) (Nat.le_of_ble_eq_true rfl) (Nat.le_of_ble_eq_true rfl) ?_
          have hm : mm D (AZ z) Mc1 H := hm
          refine lv_if_eq (tgt := 33) hx hb dX6_kind_28 (by decide) (fun c3 => ?_) (fun c3 => ?_)
          · refine lv_aload_n hx hb dX6_kind_33 rfl (lv_at hl 0 rfl) ?_
            refine lv_iload_n hx hb dX6_kind_34 rfl (lv_at hl 1 rfl) ?_
            refine lv_iload_n hx hb dX6_kind_35 rfl (lv_at hl 2 rfl) ?_
            refine m_kV (As := [.int (-1), .int path]) (rest := []) (rm := { frames := 2, cells := 0, slots := 0, locals := 48 }) ⟨hx, hb, hml, hown, hts⟩ (c_X6_lookUp l D k z _ mo path 0 hp9 hF) (cwV 2 hts gX6_kind_X6_lookUp rfl rfl rfl (by decide +kernel) ⟨Nat.le_of_ble_eq_true rfl, Nat.le_of_ble_eq_true rfl⟩) (m_recv hK hm (q := (RX6, TX6, 24)) rfl hM) hz hcx hm hS rfl hl.1 rfl (Nat.le_of_ble_eq_true rfl) dX6_kind_36 ⟨Nat.le_of_ble_eq_true rfl, Nat.le_of_ble_eq_true rfl⟩ (fun v M1 H locs hv hm hS => ?_)
            obtain ⟨hv2, hM1⟩ := hv
            rw [hM1] at hm
            rcases hv2 with ⟨h09, hv1⟩ | ⟨h09, hv1⟩
            · subst hv1
              refine W.eq (g2 := F0 m 39 ls [.int 0]) rfl ?_
              refine W.widen (k := 0) (n := 0) (Nat.le_of_ble_eq_true rfl) (Nat.le_of_ble_eq_true rfl) ?_
              have hm : mm D (AZ z) Mc1 H := hm
              refine lv_istore_n (lv' := [(3, .int 0), (0, .ref mo), (1, .int (-1)), (2, .int path)]) hx hb dX6_kind_39 rfl hl (by decide) rfl (fun ls hl => ?_)
              refine lv_iload_n hx hb dX6_kind_40 rfl (lv_at hl 0 rfl) ?_
              refine lv_if_ge (tgt := 48) hx hb dX6_kind_41 (by decide) (fun c4 => ?_) (fun c4 => ?_)
              · refine lv_aload_n hx hb dX6_kind_48 rfl (lv_at hl 1 rfl) ?_
                refine m_get (T := TX6) (N := 24) (ci := 6) (v := .ref dr) hx hb hts wX6 hown hK hm hM rfl 3 (by decide) f16 (fun _ h9 => h9) rfl dX6_kind_49 ?_
                refine lv_iload_n hx hb dX6_kind_52 rfl (lv_at hl 0 rfl) ?_
                refine m_zald hx hb hK hm 2 hdr rfl (by unfold vp_in; decide) dX6_kind_53 ?_
                refine lv_if_eq (tgt := 61) hx hb dX6_kind_54 (by decide) (fun c5 => ?_) (fun c5 => ?_)
                · exact absurd c5 (by decide)
                · refine lv_iconst (v := 1) hx hb dX6_kind_57 (by decide) ?_
                  refine lv_goto (tgt := 62) hx hb dX6_kind_58 (by decide) ?_
                  refine W.iret (v := 1) hx hb hr (fun t ht hW => ⟨⟨some (.int 1), _, rfl, ?_, by rw [ht]; exact hm⟩, hS.F ht⟩) hS.2.2 dX6_kind_62
                  first
                    | exact Or.inr ⟨rfl, Or.inr (Or.inl ⟨hp9, h09, rfl, hF.code⟩)⟩
                    | exact Or.inr ⟨rfl, Or.inr (Or.inr ⟨hp9, h09, rfl, hF.code⟩)⟩
              · first | exact absurd c4 (by decide) | exact absurd (by decide) c4
            · subst hv1
              refine W.eq (g2 := F0 m 39 ls [.int (-1)]) rfl ?_
              refine W.widen (k := 0) (n := 0) (Nat.le_of_ble_eq_true rfl) (Nat.le_of_ble_eq_true rfl) ?_
              have hm : mm D (AZ z) Mc1 H := hm
              refine lv_istore_n (lv' := [(3, .int (-1)), (0, .ref mo), (1, .int (-1)), (2, .int path)]) hx hb dX6_kind_39 rfl hl (by decide) rfl (fun ls hl => ?_)
              refine lv_iload_n hx hb dX6_kind_40 rfl (lv_at hl 0 rfl) ?_
              refine lv_if_ge (tgt := 48) hx hb dX6_kind_41 (by decide) (fun c6 => ?_) (fun c6 => ?_)
              · first | exact absurd c6 (by decide) | exact absurd (by decide) c6
              · refine lv_iconst (v := 0) hx hb dX6_kind_44 (by decide) ?_
                refine lv_goto (tgt := 62) hx hb dX6_kind_45 (by decide) ?_
                refine W.iret (v := 0) hx hb hr (fun t ht hW => ⟨⟨some (.int 0), _, rfl, ?_, by rw [ht]; exact hm⟩, hS.F ht⟩) hS.2.2 dX6_kind_62
                first
                  | exact Or.inr ⟨rfl, Or.inr (Or.inl ⟨hp9, h09, rfl, hF.code⟩)⟩
                  | exact Or.inr ⟨rfl, Or.inr (Or.inr ⟨hp9, h09, rfl, hF.code⟩)⟩
          · first | exact absurd c3 (by decide) | exact absurd (by decide) c3
        · first | exact absurd c2 (by decide) | exact absurd (by decide) c2
      · subst hv1
        refine W.eq (g2 := F0 m 17 ls [.int 0, .ref mo]) rfl ?_
        refine W.widen (k := 0) (n := 0) (Nat.le_of_ble_eq_true rfl) (Nat.le_of_ble_eq_true rfl) ?_
        have hm : mm D (AZ z) M H := hm
        refine lv_if_ne (tgt := 24) hx hb dX6_kind_17 (by decide) (fun c7 => ?_) (fun c7 => ?_)
        · first | exact absurd c7 (by decide) | exact absurd (by decide) c7
        · refine lv_iconst (v := 2) hx hb dX6_kind_20 (by decide) ?_
          refine lv_goto (tgt := 25) hx hb dX6_kind_21 (by decide) ?_
          refine m_kV (As := [.int 2]) (rest := []) (rm := { frames := 0, cells := 0, slots := 0, locals := 0 }) ⟨hx, hb, hml, hown, hts⟩ (c_X6_fails l D k z _ mo 0 2 hF) (cwV 1 hts gX6_kind_X6_fails rfl rfl rfl (by decide +kernel) ⟨Nat.le_of_ble_eq_true rfl, Nat.le_of_ble_eq_true rfl⟩) (m_recv hK hm (q := (RX6, TX6, 24)) rfl hM) hz hcx hm hS rfl hl.1 rfl (Nat.le_of_ble_eq_true rfl) dX6_kind_25 ⟨Nat.le_of_ble_eq_true rfl, Nat.le_of_ble_eq_true rfl⟩ (fun v M1 H locs hv hm hS => ?_)
          obtain ⟨hv1, hF⟩ := hv
          have hv1 : v = some (.int 1) := hv1.trans (by decide)
          subst hv1
          obtain ⟨Mc2, hMx⟩ : ∃ x : mM, x = M1 := ⟨M1, rfl⟩
          subst hMx
          obtain ⟨cn, ia, dr, en, la, wo, op, mk, ir, se, ec, lc, wc, ol, al, hap, hM, hcn, hia, hdr, hen, hla, hwo, hop, hmk, hir⟩ := id hF
          have ne_mo_cn : mo ≠ cn := pw_ne hap 0 1 (by decide) (Nat.le_of_ble_eq_true rfl)
          have ne_cn_mo : cn ≠ mo := Ne.symm ne_mo_cn
          have ne_mo_ia : mo ≠ ia := pw_ne hap 0 2 (by decide) (Nat.le_of_ble_eq_true rfl)
          have ne_ia_mo : ia ≠ mo := Ne.symm ne_mo_ia
          have ne_mo_dr : mo ≠ dr := pw_ne hap 0 3 (by decide) (Nat.le_of_ble_eq_true rfl)
          have ne_dr_mo : dr ≠ mo := Ne.symm ne_mo_dr
          have ne_mo_en : mo ≠ en := pw_ne hap 0 4 (by decide) (Nat.le_of_ble_eq_true rfl)
          have ne_en_mo : en ≠ mo := Ne.symm ne_mo_en
          have ne_mo_la : mo ≠ la := pw_ne hap 0 5 (by decide) (Nat.le_of_ble_eq_true rfl)
          have ne_la_mo : la ≠ mo := Ne.symm ne_mo_la
          have ne_mo_wo : mo ≠ wo := pw_ne hap 0 6 (by decide) (Nat.le_of_ble_eq_true rfl)
          have ne_wo_mo : wo ≠ mo := Ne.symm ne_mo_wo
          have ne_mo_op : mo ≠ op := pw_ne hap 0 7 (by decide) (Nat.le_of_ble_eq_true rfl)
          have ne_op_mo : op ≠ mo := Ne.symm ne_mo_op
          have ne_mo_mk : mo ≠ mk := pw_ne hap 0 8 (by decide) (Nat.le_of_ble_eq_true rfl)
          have ne_mk_mo : mk ≠ mo := Ne.symm ne_mo_mk
          have ne_mo_ir : mo ≠ ir := pw_ne hap 0 9 (by decide) (Nat.le_of_ble_eq_true rfl)
          have ne_ir_mo : ir ≠ mo := Ne.symm ne_mo_ir
          refine W.eq (g2 := F0 m 28 ls [.int 1]) rfl ?_
          refine W.widen (k := 0) (n := 0) (Nat.le_of_ble_eq_true rfl) (Nat.le_of_ble_eq_true rfl) ?_
          have hm : mm D (AZ z) Mc2 H := hm
          refine lv_if_eq (tgt := 33) hx hb dX6_kind_28 (by decide) (fun c8 => ?_) (fun c8 => ?_)
          · first | exact absurd c8 (by decide) | exact absurd (by decide) c8
          · refine lv_iconst (v := 0) hx hb dX6_kind_31 (by decide) ?_
            refine W.iret (v := 0) hx hb hr (fun t ht hW => ⟨⟨some (.int 0), _, rfl, ?_, by rw [ht]; exact hm⟩, hS.F ht⟩) hS.2.2 dX6_kind_32
            first
              | exact Or.inl ⟨ht9, rfl, hF.code⟩
              | exact Or.inr ⟨rfl, Or.inl ⟨hp9, rfl, hF.code⟩⟩
    · first | exact absurd c1 (by decide) | exact absurd (by decide) c1
  · subst hv1
    refine W.eq (g2 := F0 m 6 ls [.int 0, .ref mo]) rfl ?_
    refine W.widen (k := 0) (n := 0) (Nat.le_of_ble_eq_true rfl) (Nat.le_of_ble_eq_true rfl) ?_
    have hm : mm D (AZ z) M H := hm
    refine lv_if_ne (tgt := 13) hx hb dX6_kind_6 (by decide) (fun c9 => ?_) (fun c9 => ?_)
    · first | exact absurd c9 (by decide) | exact absurd (by decide) c9
    · refine lv_iconst (v := 1) hx hb dX6_kind_9 (by decide) ?_
      refine lv_goto (tgt := 25) hx hb dX6_kind_10 (by decide) ?_
      refine m_kV (As := [.int 1]) (rest := []) (rm := { frames := 0, cells := 0, slots := 0, locals := 0 }) ⟨hx, hb, hml, hown, hts⟩ (c_X6_fails l D k z _ mo 0 1 hF) (cwV 1 hts gX6_kind_X6_fails rfl rfl rfl (by decide +kernel) ⟨Nat.le_of_ble_eq_true rfl, Nat.le_of_ble_eq_true rfl⟩) (m_recv hK hm (q := (RX6, TX6, 24)) rfl hM) hz hcx hm hS rfl hl.1 rfl (Nat.le_of_ble_eq_true rfl) dX6_kind_25 ⟨Nat.le_of_ble_eq_true rfl, Nat.le_of_ble_eq_true rfl⟩ (fun v M1 H locs hv hm hS => ?_)
      obtain ⟨hv1, hF⟩ := hv
      have hv1 : v = some (.int 1) := hv1.trans (by decide)
      subst hv1
      obtain ⟨Mc3, hMx⟩ : ∃ x : mM, x = M1 := ⟨M1, rfl⟩
      subst hMx
      obtain ⟨cn, ia, dr, en, la, wo, op, mk, ir, se, ec, lc, wc, ol, al, hap, hM, hcn, hia, hdr, hen, hla, hwo, hop, hmk, hir⟩ := id hF
      have ne_mo_cn : mo ≠ cn := pw_ne hap 0 1 (by decide) (Nat.le_of_ble_eq_true rfl)
      have ne_cn_mo : cn ≠ mo := Ne.symm ne_mo_cn
      have ne_mo_ia : mo ≠ ia := pw_ne hap 0 2 (by decide) (Nat.le_of_ble_eq_true rfl)
      have ne_ia_mo : ia ≠ mo := Ne.symm ne_mo_ia
      have ne_mo_dr : mo ≠ dr := pw_ne hap 0 3 (by decide) (Nat.le_of_ble_eq_true rfl)
      have ne_dr_mo : dr ≠ mo := Ne.symm ne_mo_dr
      have ne_mo_en : mo ≠ en := pw_ne hap 0 4 (by decide) (Nat.le_of_ble_eq_true rfl)
      have ne_en_mo : en ≠ mo := Ne.symm ne_mo_en
      have ne_mo_la : mo ≠ la := pw_ne hap 0 5 (by decide) (Nat.le_of_ble_eq_true rfl)
      have ne_la_mo : la ≠ mo := Ne.symm ne_mo_la
      have ne_mo_wo : mo ≠ wo := pw_ne hap 0 6 (by decide) (Nat.le_of_ble_eq_true rfl)
      have ne_wo_mo : wo ≠ mo := Ne.symm ne_mo_wo
      have ne_mo_op : mo ≠ op := pw_ne hap 0 7 (by decide) (Nat.le_of_ble_eq_true rfl)
      have ne_op_mo : op ≠ mo := Ne.symm ne_mo_op
      have ne_mo_mk : mo ≠ mk := pw_ne hap 0 8 (by decide) (Nat.le_of_ble_eq_true rfl)
      have ne_mk_mo : mk ≠ mo := Ne.symm ne_mo_mk
      have ne_mo_ir : mo ≠ ir := pw_ne hap 0 9 (by decide) (Nat.le_of_ble_eq_true rfl)
      have ne_ir_mo : ir ≠ mo := Ne.symm ne_mo_ir
      refine W.eq (g2 := F0 m 28 ls [.int 1]) rfl ?_
      refine W.widen (k := 0) (n := 0) (Nat.le_of_ble_eq_true rfl) (Nat.le_of_ble_eq_true rfl) ?_
      have hm : mm D (AZ z) Mc3 H := hm
      refine lv_if_eq (tgt := 33) hx hb dX6_kind_28 (by decide) (fun c10 => ?_) (fun c10 => ?_)
      · first | exact absurd c10 (by decide) | exact absurd (by decide) c10
      · refine lv_iconst (v := 0) hx hb dX6_kind_31 (by decide) ?_
        refine W.iret (v := 0) hx hb hr (fun t ht hW => ⟨⟨some (.int 0), _, rfl, ?_, by rw [ht]; exact hm⟩, hS.F ht⟩) hS.2.2 dX6_kind_32
        first
          | exact Or.inl ⟨ht9, rfl, hF.code⟩
          | exact Or.inr ⟨rfl, Or.inl ⟨hp9, rfl, hF.code⟩⟩

set_option maxHeartbeats 4000000 in
set_option maxRecDepth 100000 in
theorem c_X6_list (l : Launch) (D : va_G) (k : Nat → ClassId) (z : Nat) (M : mM) (mo : Nat) (t path : Int32) (hF : mFr k M mo 0) : mK l yX6_list wsX6_list ({ frames := 3, cells := 0, slots := 0, locals := 73 }) D k z [.ref mo, .int t, .int path] M (fun v M' => (t ≠ -1 ∧ v = some (.int 0) ∧ codeIs M' mo 1) ∨ (t = -1 ∧ ((¬ isP path ∧ v = some (.int 0) ∧ codeIs M' mo 2) ∨ (isP path ∧ path ≠ 0 ∧ v = some (.int 0) ∧ codeIs M' mo 3) ∨ (isP path ∧ path = 0 ∧ v = some (.int 0) ∧ codeIs M' mo 0)))) := by
  refine Met.ofW (cc := cX6_list) (maxL := 4) (ret := (some .int)) (by decide) rfl ?_
  intro p e s m args below meth c s₁ B hml hv
  obtain ⟨rfl, hz, hcx, hm⟩ := hv
  have hx := B.exec
  have hb := B.bytes
  have hr := B.returns
  have hts := atoms_spec (ws := wsX6_list) B.pre
  have hown : s.vm.findClass RX6 = some m.cls := findClass_of_methodNamed B.named
  have hlocks := B.notSynchronized
  have hK := hcx.1
  have hS : va_S (AZ z) s.heap s.heap [] := va_S.rf
  have hA : ∀ q, s.heap.size ≤ q → AZ z q := fun q h => Nat.le_trans hz h
  have hl := lv_entry ([.ref mo, .int t, .int path]) (n := 4) (Nat.le_of_ble_eq_true rfl)
  rw [lg_entry_eq]
  generalize (lg_sl ([.ref mo, .int t, .int path]) ++ List.replicate (4 - (lg_sl ([.ref mo, .int t, .int path])).length) Slot.unset).toArray = ls at hl ⊢
  have hl : lv_has ls 4 [(0, .ref mo), (1, .int t), (2, .int path)] := hl
  have f16 := hts (.fieldLink RX6 16 "CommitTreeModel" "dirs" "[Z") (by decide +kernel)
  have wX6 : ∀ w ∈ wsX60, w ∈ wsX6_list := by decide +kernel
  obtain ⟨cn, ia, dr, en, la, wo, op, mk, ir, se, ec, lc, wc, ol, al, hap, hM, hcn, hia, hdr, hen, hla, hwo, hop, hmk, hir⟩ := id hF
  have ne_mo_cn : mo ≠ cn := pw_ne hap 0 1 (by decide) (Nat.le_of_ble_eq_true rfl)
  have ne_cn_mo : cn ≠ mo := Ne.symm ne_mo_cn
  have ne_mo_ia : mo ≠ ia := pw_ne hap 0 2 (by decide) (Nat.le_of_ble_eq_true rfl)
  have ne_ia_mo : ia ≠ mo := Ne.symm ne_mo_ia
  have ne_mo_dr : mo ≠ dr := pw_ne hap 0 3 (by decide) (Nat.le_of_ble_eq_true rfl)
  have ne_dr_mo : dr ≠ mo := Ne.symm ne_mo_dr
  have ne_mo_en : mo ≠ en := pw_ne hap 0 4 (by decide) (Nat.le_of_ble_eq_true rfl)
  have ne_en_mo : en ≠ mo := Ne.symm ne_mo_en
  have ne_mo_la : mo ≠ la := pw_ne hap 0 5 (by decide) (Nat.le_of_ble_eq_true rfl)
  have ne_la_mo : la ≠ mo := Ne.symm ne_mo_la
  have ne_mo_wo : mo ≠ wo := pw_ne hap 0 6 (by decide) (Nat.le_of_ble_eq_true rfl)
  have ne_wo_mo : wo ≠ mo := Ne.symm ne_mo_wo
  have ne_mo_op : mo ≠ op := pw_ne hap 0 7 (by decide) (Nat.le_of_ble_eq_true rfl)
  have ne_op_mo : op ≠ mo := Ne.symm ne_mo_op
  have ne_mo_mk : mo ≠ mk := pw_ne hap 0 8 (by decide) (Nat.le_of_ble_eq_true rfl)
  have ne_mk_mo : mk ≠ mo := Ne.symm ne_mo_mk
  have ne_mo_ir : mo ≠ ir := pw_ne hap 0 9 (by decide) (Nat.le_of_ble_eq_true rfl)
  have ne_ir_mo : ir ≠ mo := Ne.symm ne_mo_ir
  refine lv_aload_n hx hb dX6_list_0 rfl (lv_at hl 0 rfl) ?_
  refine lv_aload_n hx hb dX6_list_1 rfl (lv_at hl 0 rfl) ?_
  refine lv_iload_n hx hb dX6_list_2 rfl (lv_at hl 1 rfl) ?_
  refine m_kV (As := [.int t]) (rest := [.ref mo]) (rm := { frames := 1, cells := 0, slots := 0, locals := 21 }) ⟨hx, hb, hml, hown, hts⟩ (c_X6_mayLook l D k z _ mo 0 t hF) (cwV 1 hts gX6_list_X6_mayLook rfl rfl rfl (by decide +kernel) ⟨Nat.le_of_ble_eq_true rfl, Nat.le_of_ble_eq_true rfl⟩) (m_recv hK hm (q := (RX6, TX6, 24)) rfl hM) hz hcx hm hS rfl hl.1 rfl (Nat.le_of_ble_eq_true rfl) dX6_list_3 ⟨Nat.le_of_ble_eq_true rfl, Nat.le_of_ble_eq_true rfl⟩ (fun v M1 H locs hv hm hS => ?_)
  obtain ⟨hv2, hM1⟩ := hv
  rw [hM1] at hm
  rcases hv2 with ⟨ht9, hv1⟩ | ⟨ht9, hv1⟩
  · subst hv1
    subst ht9
    refine W.eq (g2 := F0 m 6 ls [.int 1, .ref mo]) rfl ?_
    refine W.widen (k := 0) (n := 0) (Nat.le_of_ble_eq_true rfl) (Nat.le_of_ble_eq_true rfl) ?_
    have hm : mm D (AZ z) M H := hm
    refine lv_if_ne (tgt := 13) hx hb dX6_list_6 (by decide) (fun c1 => ?_) (fun c1 => ?_)
    · refine lv_iload_n hx hb dX6_list_13 rfl (lv_at hl 2 rfl) ?_
      refine m_kS (As := [.int path]) (rest := [.ref mo]) (rm := { frames := 0, cells := 0, slots := 0, locals := 0 }) ⟨hx, hb, hml, hown, hts⟩ (c_X6_isPath l D k z _ path) (cwS 1 hts gX6_list_X6_isPath rfl rfl rfl (by decide +kernel) ⟨Nat.le_of_ble_eq_true rfl, Nat.le_of_ble_eq_true rfl⟩) hz hcx hm hS rfl hl.1 rfl (Nat.le_of_ble_eq_true rfl) dX6_list_14 ⟨Nat.le_of_ble_eq_true rfl, Nat.le_of_ble_eq_true rfl⟩ (fun v M1 H locs hv hm hS => ?_)
      obtain ⟨hv2, hM1⟩ := hv
      rw [hM1] at hm
      rcases hv2 with ⟨hp9, hv1⟩ | ⟨hp9, hv1⟩
      · subst hv1
        refine W.eq (g2 := F0 m 17 ls [.int 1, .ref mo]) rfl ?_
        refine W.widen (k := 0) (n := 0) (Nat.le_of_ble_eq_true rfl) (Nat.le_of_ble_eq_true rfl) ?_
        have hm : mm D (AZ z) M H := hm
        refine lv_if_ne (tgt := 24) hx hb dX6_list_17 (by decide) (fun c2 => ?_) (fun c2 => ?_)
        · refine lv_iconst (v := 0) hx hb dX6_list_24 (by decide) ?_
          refine m_kV (As := [.int 0]) (rest := []) (rm := { frames := 0, cells := 0, slots := 0, locals := 0 }) ⟨hx, hb, hml, hown, hts⟩ (c_X6_fails l D k z _ mo 0 0 hF) (cwV 1 hts gX6_list_X6_fails rfl rfl rfl (by decide +kernel) ⟨Nat.le_of_ble_eq_true rfl, Nat.le_of_ble_eq_true rfl⟩) (m_recv hK hm (q := (RX6, TX6, 24)) rfl hM) hz hcx hm hS rfl hl.1 rfl (Nat.le_of_ble_eq_true rfl) dX6_list_25 ⟨Nat.le_of_ble_eq_true rfl, Nat.le_of_ble_eq_true rfl⟩ (fun v M1 H locs hv hm hS => ?_)
          obtain ⟨hv1, hF⟩ := hv
          have hv1 : v = some (.int 0) := hv1.trans (by decide)
          subst hv1
          obtain ⟨Mc1, hMx⟩ : ∃ x : mM, x = M1 := ⟨M1, rfl⟩
          subst hMx
          obtain ⟨cn, ia, dr, en, la, wo, op, mk, ir, se, ec, lc, wc, ol, al, hap, hM, hcn, hia, hdr, hen, hla, hwo, hop, hmk, hir⟩ := id hF
          have ne_mo_cn : mo ≠ cn := pw_ne hap 0 1 (by decide) (Nat.le_of_ble_eq_true rfl)
          have ne_cn_mo : cn ≠ mo := Ne.symm ne_mo_cn
          have ne_mo_ia : mo ≠ ia := pw_ne hap 0 2 (by decide) (Nat.le_of_ble_eq_true rfl)
          have ne_ia_mo : ia ≠ mo := Ne.symm ne_mo_ia
          have ne_mo_dr : mo ≠ dr := pw_ne hap 0 3 (by decide) (Nat.le_of_ble_eq_true rfl)
          have ne_dr_mo : dr ≠ mo := Ne.symm ne_mo_dr
          have ne_mo_en : mo ≠ en := pw_ne hap 0 4 (by decide) (Nat.le_of_ble_eq_true rfl)
          have ne_en_mo : en ≠ mo := Ne.symm ne_mo_en
          have ne_mo_la : mo ≠ la := pw_ne hap 0 5 (by decide) (Nat.le_of_ble_eq_true rfl)
          have ne_la_mo : la ≠ mo := Ne.symm ne_mo_la
          have ne_mo_wo : mo ≠ wo := pw_ne hap 0 6 (by decide) (Nat.le_of_ble_eq_true rfl)
          have ne_wo_mo : wo ≠ mo := Ne.symm ne_mo_wo
          have ne_mo_op : mo ≠ op := pw_ne hap 0 7 (by decide) (Nat.le_of_ble_eq_true rfl)
          have ne_op_mo : op ≠ mo := Ne.symm ne_mo_op
          have ne_mo_mk : mo ≠ mk := pw_ne hap 0 8 (by decide) (Nat.le_of_ble_eq_true rfl)
          have ne_mk_mo : mk ≠ mo := Ne.symm ne_mo_mk
          have ne_mo_ir : mo ≠ ir := pw_ne hap 0 9 (by decide) (Nat.le_of_ble_eq_true rfl)
          have ne_ir_mo : ir ≠ mo := Ne.symm ne_mo_ir
          refine W.eq (g2 := F0 m 28 ls [.int 0]) rfl ?_
          refine W.widen (k := 0) (n := 0) (Nat.le_of_ble_eq_true rfl) (Nat.le_of_ble_eq_true rfl) ?_
          have hm : mm D (AZ z) Mc1 H := hm
          refine lv_if_eq (tgt := 33) hx hb dX6_list_28 (by decide) (fun c3 => ?_) (fun c3 => ?_)
          · refine lv_aload_n hx hb dX6_list_33 rfl (lv_at hl 0 rfl) ?_
            refine lv_iload_n hx hb dX6_list_34 rfl (lv_at hl 1 rfl) ?_
            refine lv_iload_n hx hb dX6_list_35 rfl (lv_at hl 2 rfl) ?_
            refine m_kV (As := [.int (-1), .int path]) (rest := []) (rm := { frames := 2, cells := 0, slots := 0, locals := 48 }) ⟨hx, hb, hml, hown, hts⟩ (c_X6_lookUp l D k z _ mo path 0 hp9 hF) (cwV 2 hts gX6_list_X6_lookUp rfl rfl rfl (by decide +kernel) ⟨Nat.le_of_ble_eq_true rfl, Nat.le_of_ble_eq_true rfl⟩) (m_recv hK hm (q := (RX6, TX6, 24)) rfl hM) hz hcx hm hS rfl hl.1 rfl (Nat.le_of_ble_eq_true rfl) dX6_list_36 ⟨Nat.le_of_ble_eq_true rfl, Nat.le_of_ble_eq_true rfl⟩ (fun v M1 H locs hv hm hS => ?_)
            obtain ⟨hv2, hM1⟩ := hv
            rw [hM1] at hm
            rcases hv2 with ⟨h09, hv1⟩ | ⟨h09, hv1⟩
            · subst hv1
              refine W.eq (g2 := F0 m 39 ls [.int 0]) rfl ?_
              refine W.widen (k := 0) (n := 0) (Nat.le_of_ble_eq_true rfl) (Nat.le_of_ble_eq_true rfl) ?_
              have hm : mm D (AZ z) Mc1 H := hm
              refine lv_istore_n (lv' := [(3, .int 0), (0, .ref mo), (1, .int (-1)), (2, .int path)]) hx hb dX6_list_39 rfl hl (by decide) rfl (fun ls hl => ?_)
              refine lv_aload_n hx hb dX6_list_40 rfl (lv_at hl 1 rfl) ?_
              refine lv_iload_n hx hb dX6_list_41 rfl (lv_at hl 0 rfl) ?_
              refine lv_if_ge (tgt := 49) hx hb dX6_list_42 (by decide) (fun c4 => ?_) (fun c4 => ?_)
              · refine lv_aload_n hx hb dX6_list_49 rfl (lv_at hl 1 rfl) ?_
                refine m_get (T := TX6) (N := 24) (ci := 6) (v := .ref dr) hx hb hts wX6 hown hK hm hM rfl 3 (by decide) f16 (fun _ h9 => h9) rfl dX6_list_50 ?_
                refine lv_iload_n hx hb dX6_list_53 rfl (lv_at hl 0 rfl) ?_
                refine m_zald hx hb hK hm 2 hdr rfl (by unfold vp_in; decide) dX6_list_54 ?_
                refine lv_if_ne (tgt := 62) hx hb dX6_list_55 (by decide) (fun c5 => ?_) (fun c5 => ?_)
                · refine lv_iconst (v := 0) hx hb dX6_list_62 (by decide) ?_
                  refine m_kV (As := [.int 0]) (rest := []) (rm := { frames := 0, cells := 0, slots := 0, locals := 0 }) ⟨hx, hb, hml, hown, hts⟩ (c_X6_fails l D k z _ mo 0 0 hF) (cwV 1 hts gX6_list_X6_fails rfl rfl rfl (by decide +kernel) ⟨Nat.le_of_ble_eq_true rfl, Nat.le_of_ble_eq_true rfl⟩) (m_recv hK hm (q := (RX6, TX6, 24)) rfl hM) hz hcx hm hS rfl hl.1 rfl (Nat.le_of_ble_eq_true rfl) dX6_list_63 ⟨Nat.le_of_ble_eq_true rfl, Nat.le_of_ble_eq_true rfl⟩ (fun v M1 H locs hv hm hS => ?_)
                  obtain ⟨hv1, hF⟩ := hv
                  have hv1 : v = some (.int 0) := hv1.trans (by decide)
                  subst hv1
                  obtain ⟨Mc2, hMx⟩ : ∃ x : mM, x = M1 := ⟨M1, rfl⟩
                  subst hMx
                  obtain ⟨cn, ia, dr, en, la, wo, op, mk, ir, se, ec, lc, wc, ol, al, hap, hM, hcn, hia, hdr, hen, hla, hwo, hop, hmk, hir⟩ := id hF
                  have ne_mo_cn : mo ≠ cn := pw_ne hap 0 1 (by decide) (Nat.le_of_ble_eq_true rfl)
                  have ne_cn_mo : cn ≠ mo := Ne.symm ne_mo_cn
                  have ne_mo_ia : mo ≠ ia := pw_ne hap 0 2 (by decide) (Nat.le_of_ble_eq_true rfl)
                  have ne_ia_mo : ia ≠ mo := Ne.symm ne_mo_ia
                  have ne_mo_dr : mo ≠ dr := pw_ne hap 0 3 (by decide) (Nat.le_of_ble_eq_true rfl)
                  have ne_dr_mo : dr ≠ mo := Ne.symm ne_mo_dr
                  have ne_mo_en : mo ≠ en := pw_ne hap 0 4 (by decide) (Nat.le_of_ble_eq_true rfl)
                  have ne_en_mo : en ≠ mo := Ne.symm ne_mo_en
                  have ne_mo_la : mo ≠ la := pw_ne hap 0 5 (by decide) (Nat.le_of_ble_eq_true rfl)
                  have ne_la_mo : la ≠ mo := Ne.symm ne_mo_la
                  have ne_mo_wo : mo ≠ wo := pw_ne hap 0 6 (by decide) (Nat.le_of_ble_eq_true rfl)
                  have ne_wo_mo : wo ≠ mo := Ne.symm ne_mo_wo
                  have ne_mo_op : mo ≠ op := pw_ne hap 0 7 (by decide) (Nat.le_of_ble_eq_true rfl)
                  have ne_op_mo : op ≠ mo := Ne.symm ne_mo_op
                  have ne_mo_mk : mo ≠ mk := pw_ne hap 0 8 (by decide) (Nat.le_of_ble_eq_true rfl)
                  have ne_mk_mo : mk ≠ mo := Ne.symm ne_mo_mk
                  have ne_mo_ir : mo ≠ ir := pw_ne hap 0 9 (by decide) (Nat.le_of_ble_eq_true rfl)
                  have ne_ir_mo : ir ≠ mo := Ne.symm ne_mo_ir
                  refine W.eq (g2 := F0 m 66 ls [.int 0]) rfl ?_
                  refine W.widen (k := 0) (n := 0) (Nat.le_of_ble_eq_true rfl) (Nat.le_of_ble_eq_true rfl) ?_
                  have hm : mm D (AZ z) Mc2 H := hm
                  refine lv_if_eq (tgt := 71) hx hb dX6_list_66 (by decide) (fun c6 => ?_) (fun c6 => ?_)
                  · refine lv_aload_n hx hb dX6_list_71 rfl (lv_at hl 1 rfl) ?_
                    refine lv_iload_n hx hb dX6_list_72 rfl (lv_at hl 2 rfl) ?_
                    refine lv_iload_n hx hb dX6_list_73 rfl (lv_at hl 0 rfl) ?_
                    refine m_kV (As := [.int (-1), .int 0]) (rest := []) (rm := { frames := 1, cells := 0, slots := 0, locals := 24 }) ⟨hx, hb, hml, hown, hts⟩ (c_X6_lookAtAll l D k z _ mo 0 hF) (cwV 2 hts gX6_list_X6_lookAtAll rfl rfl rfl (by decide +kernel) ⟨Nat.le_of_ble_eq_true rfl, Nat.le_of_ble_eq_true rfl⟩) (m_recv hK hm (q := (RX6, TX6, 24)) rfl hM) hz hcx hm hS rfl hl.1 rfl (Nat.le_of_ble_eq_true rfl) dX6_list_74 ⟨Nat.le_of_ble_eq_true rfl, Nat.le_of_ble_eq_true rfl⟩ (fun v M1 H locs hv hm hS => ?_)
                    obtain ⟨hv1, hM1⟩ := hv
                    subst hv1
                    rw [hM1] at hm
                    refine W.eq (g2 := F0 m 77 ls []) rfl ?_
                    refine W.widen (k := 0) (n := 0) (Nat.le_of_ble_eq_true rfl) (Nat.le_of_ble_eq_true rfl) ?_
                    have hm : mm D (AZ z) Mc2 H := hm
                    refine lv_aload_n hx hb dX6_list_77 rfl (lv_at hl 1 rfl) ?_
                    refine lv_iload_n hx hb dX6_list_78 rfl (lv_at hl 0 rfl) ?_
                    refine m_kV (As := [.int 0]) (rest := []) (rm := { frames := 0, cells := 0, slots := 0, locals := 0 }) ⟨hx, hb, hml, hown, hts⟩ (c_X6_namesOf l D k z _ mo 0 hF) (cwV 1 hts gX6_list_X6_namesOf rfl rfl rfl (by decide +kernel) ⟨Nat.le_of_ble_eq_true rfl, Nat.le_of_ble_eq_true rfl⟩) (m_recv hK hm (q := (RX6, TX6, 24)) rfl hM) hz hcx hm hS rfl hl.1 rfl (Nat.le_of_ble_eq_true rfl) dX6_list_79 ⟨Nat.le_of_ble_eq_true rfl, Nat.le_of_ble_eq_true rfl⟩ (fun v M1 H locs hv hm hS => ?_)
                    obtain ⟨hv1, hM1⟩ := hv
                    subst hv1
                    rw [hM1] at hm
                    refine W.eq (g2 := F0 m 82 ls [.int 0]) rfl ?_
                    refine W.widen (k := 0) (n := 0) (Nat.le_of_ble_eq_true rfl) (Nat.le_of_ble_eq_true rfl) ?_
                    have hm : mm D (AZ z) Mc2 H := hm
                    refine W.iret (v := 0) hx hb hr (fun t ht hW => ⟨⟨some (.int 0), _, rfl, ?_, by rw [ht]; exact hm⟩, hS.F ht⟩) hS.2.2 dX6_list_82
                    exact Or.inr ⟨rfl, Or.inr (Or.inr ⟨hp9, h09, rfl, hF.code⟩)⟩
                  · first | exact absurd c6 (by decide) | exact absurd (by decide) c6
                · exact absurd c5 (by decide)
              · first | exact absurd c4 (by decide) | exact absurd (by decide) c4
            · subst hv1
              refine W.eq (g2 := F0 m 39 ls [.int (-1)]) rfl ?_
              refine W.widen (k := 0) (n := 0) (Nat.le_of_ble_eq_true rfl) (Nat.le_of_ble_eq_true rfl) ?_
              have hm : mm D (AZ z) Mc1 H := hm
              refine lv_istore_n (lv' := [(3, .int (-1)), (0, .ref mo), (1, .int (-1)), (2, .int path)]) hx hb dX6_list_39 rfl hl (by decide) rfl (fun ls hl => ?_)
              refine lv_aload_n hx hb dX6_list_40 rfl (lv_at hl 1 rfl) ?_
              refine lv_iload_n hx hb dX6_list_41 rfl (lv_at hl 0 rfl) ?_
              refine lv_if_ge (tgt := 49) hx hb dX6_list_42 (by decide) (fun c7 => ?_) (fun c7 => ?_)
              · first | exact absurd c7 (by decide) | exact absurd (by decide) c7
              · refine lv_iconst (v := 3) hx hb dX6_list_45 (by decide) ?_
                refine lv_goto (tgt := 63) hx hb dX6_list_46 (by decide) ?_
                refine m_kV (As := [.int 3]) (rest := []) (rm := { frames := 0, cells := 0, slots := 0, locals := 0 }) ⟨hx, hb, hml, hown, hts⟩ (c_X6_fails l D k z _ mo 0 3 hF) (cwV 1 hts gX6_list_X6_fails rfl rfl rfl (by decide +kernel) ⟨Nat.le_of_ble_eq_true rfl, Nat.le_of_ble_eq_true rfl⟩) (m_recv hK hm (q := (RX6, TX6, 24)) rfl hM) hz hcx hm hS rfl hl.1 rfl (Nat.le_of_ble_eq_true rfl) dX6_list_63 ⟨Nat.le_of_ble_eq_true rfl, Nat.le_of_ble_eq_true rfl⟩ (fun v M1 H locs hv hm hS => ?_)
                obtain ⟨hv1, hF⟩ := hv
                have hv1 : v = some (.int 1) := hv1.trans (by decide)
                subst hv1
                obtain ⟨Mc3, hMx⟩ : ∃ x : mM, x = M1 := ⟨M1, rfl⟩
                subst hMx
                obtain ⟨cn, ia, dr, en, la, wo, op, mk, ir, se, ec, lc, wc, ol, al, hap, hM, hcn, hia, hdr, hen, hla, hwo, hop, hmk, hir⟩ := id hF
                have ne_mo_cn : mo ≠ cn := pw_ne hap 0 1 (by decide) (Nat.le_of_ble_eq_true rfl)
                have ne_cn_mo : cn ≠ mo := Ne.symm ne_mo_cn
                have ne_mo_ia : mo ≠ ia := pw_ne hap 0 2 (by decide) (Nat.le_of_ble_eq_true rfl)
                have ne_ia_mo : ia ≠ mo := Ne.symm ne_mo_ia
                have ne_mo_dr : mo ≠ dr := pw_ne hap 0 3 (by decide) (Nat.le_of_ble_eq_true rfl)
                have ne_dr_mo : dr ≠ mo := Ne.symm ne_mo_dr
                have ne_mo_en : mo ≠ en := pw_ne hap 0 4 (by decide) (Nat.le_of_ble_eq_true rfl)
                have ne_en_mo : en ≠ mo := Ne.symm ne_mo_en
                have ne_mo_la : mo ≠ la := pw_ne hap 0 5 (by decide) (Nat.le_of_ble_eq_true rfl)
                have ne_la_mo : la ≠ mo := Ne.symm ne_mo_la
                have ne_mo_wo : mo ≠ wo := pw_ne hap 0 6 (by decide) (Nat.le_of_ble_eq_true rfl)
                have ne_wo_mo : wo ≠ mo := Ne.symm ne_mo_wo
                have ne_mo_op : mo ≠ op := pw_ne hap 0 7 (by decide) (Nat.le_of_ble_eq_true rfl)
                have ne_op_mo : op ≠ mo := Ne.symm ne_mo_op
                have ne_mo_mk : mo ≠ mk := pw_ne hap 0 8 (by decide) (Nat.le_of_ble_eq_true rfl)
                have ne_mk_mo : mk ≠ mo := Ne.symm ne_mo_mk
                have ne_mo_ir : mo ≠ ir := pw_ne hap 0 9 (by decide) (Nat.le_of_ble_eq_true rfl)
                have ne_ir_mo : ir ≠ mo := Ne.symm ne_mo_ir
                refine W.eq (g2 := F0 m 66 ls [.int 1]) rfl ?_
                refine W.widen (k := 0) (n := 0) (Nat.le_of_ble_eq_true rfl) (Nat.le_of_ble_eq_true rfl) ?_
                have hm : mm D (AZ z) Mc3 H := hm
                refine lv_if_eq (tgt := 71) hx hb dX6_list_66 (by decide) (fun c8 => ?_) (fun c8 => ?_)
                · first | exact absurd c8 (by decide) | exact absurd (by decide) c8
                · refine lv_iconst (v := 0) hx hb dX6_list_69 (by decide) ?_
                  refine W.iret (v := 0) hx hb hr (fun t ht hW => ⟨⟨some (.int 0), _, rfl, ?_, by rw [ht]; exact hm⟩, hS.F ht⟩) hS.2.2 dX6_list_70
                  exact Or.inr ⟨rfl, Or.inr (Or.inl ⟨hp9, h09, rfl, hF.code⟩)⟩
          · first | exact absurd c3 (by decide) | exact absurd (by decide) c3
        · first | exact absurd c2 (by decide) | exact absurd (by decide) c2
      · subst hv1
        refine W.eq (g2 := F0 m 17 ls [.int 0, .ref mo]) rfl ?_
        refine W.widen (k := 0) (n := 0) (Nat.le_of_ble_eq_true rfl) (Nat.le_of_ble_eq_true rfl) ?_
        have hm : mm D (AZ z) M H := hm
        refine lv_if_ne (tgt := 24) hx hb dX6_list_17 (by decide) (fun c9 => ?_) (fun c9 => ?_)
        · first | exact absurd c9 (by decide) | exact absurd (by decide) c9
        · refine lv_iconst (v := 2) hx hb dX6_list_20 (by decide) ?_
          refine lv_goto (tgt := 25) hx hb dX6_list_21 (by decide) ?_
          refine m_kV (As := [.int 2]) (rest := []) (rm := { frames := 0, cells := 0, slots := 0, locals := 0 }) ⟨hx, hb, hml, hown, hts⟩ (c_X6_fails l D k z _ mo 0 2 hF) (cwV 1 hts gX6_list_X6_fails rfl rfl rfl (by decide +kernel) ⟨Nat.le_of_ble_eq_true rfl, Nat.le_of_ble_eq_true rfl⟩) (m_recv hK hm (q := (RX6, TX6, 24)) rfl hM) hz hcx hm hS rfl hl.1 rfl (Nat.le_of_ble_eq_true rfl) dX6_list_25 ⟨Nat.le_of_ble_eq_true rfl, Nat.le_of_ble_eq_true rfl⟩ (fun v M1 H locs hv hm hS => ?_)
          obtain ⟨hv1, hF⟩ := hv
          have hv1 : v = some (.int 1) := hv1.trans (by decide)
          subst hv1
          obtain ⟨Mc4, hMx⟩ : ∃ x : mM, x = M1 := ⟨M1, rfl⟩
          subst hMx
          obtain ⟨cn, ia, dr, en, la, wo, op, mk, ir, se, ec, lc, wc, ol, al, hap, hM, hcn, hia, hdr, hen, hla, hwo, hop, hmk, hir⟩ := id hF
          have ne_mo_cn : mo ≠ cn := pw_ne hap 0 1 (by decide) (Nat.le_of_ble_eq_true rfl)
          have ne_cn_mo : cn ≠ mo := Ne.symm ne_mo_cn
          have ne_mo_ia : mo ≠ ia := pw_ne hap 0 2 (by decide) (Nat.le_of_ble_eq_true rfl)
          have ne_ia_mo : ia ≠ mo := Ne.symm ne_mo_ia
          have ne_mo_dr : mo ≠ dr := pw_ne hap 0 3 (by decide) (Nat.le_of_ble_eq_true rfl)
          have ne_dr_mo : dr ≠ mo := Ne.symm ne_mo_dr
          have ne_mo_en : mo ≠ en := pw_ne hap 0 4 (by decide) (Nat.le_of_ble_eq_true rfl)
          have ne_en_mo : en ≠ mo := Ne.symm ne_mo_en
          have ne_mo_la : mo ≠ la := pw_ne hap 0 5 (by decide) (Nat.le_of_ble_eq_true rfl)
          have ne_la_mo : la ≠ mo := Ne.symm ne_mo_la
          have ne_mo_wo : mo ≠ wo := pw_ne hap 0 6 (by decide) (Nat.le_of_ble_eq_true rfl)
          have ne_wo_mo : wo ≠ mo := Ne.symm ne_mo_wo
          have ne_mo_op : mo ≠ op := pw_ne hap 0 7 (by decide) (Nat.le_of_ble_eq_true rfl)
          have ne_op_mo : op ≠ mo := Ne.symm ne_mo_op
          have ne_mo_mk : mo ≠ mk := pw_ne hap 0 8 (by decide) (Nat.le_of_ble_eq_true rfl)
          have ne_mk_mo : mk ≠ mo := Ne.symm ne_mo_mk
          have ne_mo_ir : mo ≠ ir := pw_ne hap 0 9 (by decide) (Nat.le_of_ble_eq_true rfl)
          have ne_ir_mo : ir ≠ mo := Ne.symm ne_mo_ir
          refine W.eq (g2 := F0 m 28 ls [.int 1]) rfl ?_
          refine W.widen (k := 0) (n := 0) (Nat.le_of_ble_eq_true rfl) (Nat.le_of_ble_eq_true rfl) ?_
          have hm : mm D (AZ z) Mc4 H := hm
          refine lv_if_eq (tgt := 33) hx hb dX6_list_28 (by decide) (fun c10 => ?_) (fun c10 => ?_)
          · first | exact absurd c10 (by decide) | exact absurd (by decide) c10
          · refine lv_iconst (v := 0) hx hb dX6_list_31 (by decide) ?_
            refine W.iret (v := 0) hx hb hr (fun t ht hW => ⟨⟨some (.int 0), _, rfl, ?_, by rw [ht]; exact hm⟩, hS.F ht⟩) hS.2.2 dX6_list_32
            first
              | exact Or.inl ⟨ht9, rfl, hF.code⟩
              | exact Or.inr ⟨rfl, Or.inl ⟨hp9, rfl, hF.code⟩⟩
    · first | exact absurd c1 (by decide) | exact absurd (by decide) c1
  · subst hv1
    refine W.eq (g2 := F0 m 6 ls [.int 0, .ref mo]) rfl ?_
    refine W.widen (k := 0) (n := 0) (Nat.le_of_ble_eq_true rfl) (Nat.le_of_ble_eq_true rfl) ?_
    have hm : mm D (AZ z) M H := hm
    refine lv_if_ne (tgt := 13) hx hb dX6_list_6 (by decide) (fun c11 => ?_) (fun c11 => ?_)
    · first | exact absurd c11 (by decide) | exact absurd (by decide) c11
    · refine lv_iconst (v := 1) hx hb dX6_list_9 (by decide) ?_
      refine lv_goto (tgt := 25) hx hb dX6_list_10 (by decide) ?_
      refine m_kV (As := [.int 1]) (rest := []) (rm := { frames := 0, cells := 0, slots := 0, locals := 0 }) ⟨hx, hb, hml, hown, hts⟩ (c_X6_fails l D k z _ mo 0 1 hF) (cwV 1 hts gX6_list_X6_fails rfl rfl rfl (by decide +kernel) ⟨Nat.le_of_ble_eq_true rfl, Nat.le_of_ble_eq_true rfl⟩) (m_recv hK hm (q := (RX6, TX6, 24)) rfl hM) hz hcx hm hS rfl hl.1 rfl (Nat.le_of_ble_eq_true rfl) dX6_list_25 ⟨Nat.le_of_ble_eq_true rfl, Nat.le_of_ble_eq_true rfl⟩ (fun v M1 H locs hv hm hS => ?_)
      obtain ⟨hv1, hF⟩ := hv
      have hv1 : v = some (.int 1) := hv1.trans (by decide)
      subst hv1
      obtain ⟨Mc5, hMx⟩ : ∃ x : mM, x = M1 := ⟨M1, rfl⟩
      subst hMx
      obtain ⟨cn, ia, dr, en, la, wo, op, mk, ir, se, ec, lc, wc, ol, al, hap, hM, hcn, hia, hdr, hen, hla, hwo, hop, hmk, hir⟩ := id hF
      have ne_mo_cn : mo ≠ cn := pw_ne hap 0 1 (by decide) (Nat.le_of_ble_eq_true rfl)
      have ne_cn_mo : cn ≠ mo := Ne.symm ne_mo_cn
      have ne_mo_ia : mo ≠ ia := pw_ne hap 0 2 (by decide) (Nat.le_of_ble_eq_true rfl)
      have ne_ia_mo : ia ≠ mo := Ne.symm ne_mo_ia
      have ne_mo_dr : mo ≠ dr := pw_ne hap 0 3 (by decide) (Nat.le_of_ble_eq_true rfl)
      have ne_dr_mo : dr ≠ mo := Ne.symm ne_mo_dr
      have ne_mo_en : mo ≠ en := pw_ne hap 0 4 (by decide) (Nat.le_of_ble_eq_true rfl)
      have ne_en_mo : en ≠ mo := Ne.symm ne_mo_en
      have ne_mo_la : mo ≠ la := pw_ne hap 0 5 (by decide) (Nat.le_of_ble_eq_true rfl)
      have ne_la_mo : la ≠ mo := Ne.symm ne_mo_la
      have ne_mo_wo : mo ≠ wo := pw_ne hap 0 6 (by decide) (Nat.le_of_ble_eq_true rfl)
      have ne_wo_mo : wo ≠ mo := Ne.symm ne_mo_wo
      have ne_mo_op : mo ≠ op := pw_ne hap 0 7 (by decide) (Nat.le_of_ble_eq_true rfl)
      have ne_op_mo : op ≠ mo := Ne.symm ne_mo_op
      have ne_mo_mk : mo ≠ mk := pw_ne hap 0 8 (by decide) (Nat.le_of_ble_eq_true rfl)
      have ne_mk_mo : mk ≠ mo := Ne.symm ne_mo_mk
      have ne_mo_ir : mo ≠ ir := pw_ne hap 0 9 (by decide) (Nat.le_of_ble_eq_true rfl)
      have ne_ir_mo : ir ≠ mo := Ne.symm ne_mo_ir
      refine W.eq (g2 := F0 m 28 ls [.int 1]) rfl ?_
      refine W.widen (k := 0) (n := 0) (Nat.le_of_ble_eq_true rfl) (Nat.le_of_ble_eq_true rfl) ?_
      have hm : mm D (AZ z) Mc5 H := hm
      refine lv_if_eq (tgt := 33) hx hb dX6_list_28 (by decide) (fun c12 => ?_) (fun c12 => ?_)
      · first | exact absurd c12 (by decide) | exact absurd (by decide) c12
      · refine lv_iconst (v := 0) hx hb dX6_list_31 (by decide) ?_
        refine W.iret (v := 0) hx hb hr (fun t ht hW => ⟨⟨some (.int 0), _, rfl, ?_, by rw [ht]; exact hm⟩, hS.F ht⟩) hS.2.2 dX6_list_32
        first
          | exact Or.inl ⟨ht9, rfl, hF.code⟩
          | exact Or.inr ⟨rfl, Or.inl ⟨hp9, rfl, hF.code⟩⟩
