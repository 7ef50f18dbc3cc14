set_option maxHeartbeats 4000000 in
set_option maxRecDepth 100000 in
theorem c_X6_enter (l : Launch) (D : va_G) (k : Nat → ClassId) (z : Nat) (M : mM) (mo : Nat) (cd9 : Int32) (e9 : Nat) (he9 : e9 < 16) (hF : mFr k M mo cd9) : mK l yX6_enter wsX6_enter ({ frames := 1, cells := 0, slots := 0, locals := 24 }) D k z [.ref mo, .int (-1), .int 0, .int (nI e9)] M (fun v M' => v = some (.int (-1)) ∧ M' = M) := by
  refine Met.ofW (cc := cX6_enter) (maxL := 5) (ret := (some .int)) (by decide) rfl ?_
  intro p e s m args below meth c s₁ B hml hv
  obtain ⟨rfl, hz, hcx, hm⟩ := hv
  have hx := B.exec
  have hb := B.bytes
  have hr := B.returns
  have hts := atoms_spec (ws := wsX6_enter) B.pre
  have hown : s.vm.findClass RX6 = some m.cls := findClass_of_methodNamed B.named
  have hlocks := B.notSynchronized
  have hK := hcx.1
  have hS : va_S (AZ z) s.heap s.heap [] := va_S.rf
  have hA : ∀ q, s.heap.size ≤ q → AZ z q := fun q h => Nat.le_trans hz h
  have hl := lv_entry ([.ref mo, .int (-1), .int 0, .int (nI e9)]) (n := 5) (Nat.le_of_ble_eq_true rfl)
  rw [lg_entry_eq]
  generalize (lg_sl ([.ref mo, .int (-1), .int 0, .int (nI e9)]) ++ List.replicate (5 - (lg_sl ([.ref mo, .int (-1), .int 0, .int (nI e9)])).length) Slot.unset).toArray = ls at hl ⊢
  have hl : lv_has ls 5 [(0, .ref mo), (1, .int (-1)), (2, .int 0), (3, .int (nI e9))] := hl
  have f21 := hts (.fieldLink RX6 21 "CommitTreeModel" "entries" "[I") (by decide +kernel)
  have wX6 : ∀ w ∈ wsX60, w ∈ wsX6_enter := by decide +kernel
  obtain ⟨cn, ia, dr, en, la, wo, op, mk, ir, se, ec, lc, wc, ol, al, hap, hM, hcn, hia, hdr, hen, hla, hwo, hop, hmk, hir⟩ := id hF
  have ne_mo_cn : mo ≠ cn := pw_ne hap 0 1 (by decide) (Nat.le_of_ble_eq_true rfl)
  have ne_cn_mo : cn ≠ mo := Ne.symm ne_mo_cn
  have ne_mo_ia : mo ≠ ia := pw_ne hap 0 2 (by decide) (Nat.le_of_ble_eq_true rfl)
  have ne_ia_mo : ia ≠ mo := Ne.symm ne_mo_ia
  have ne_mo_dr : mo ≠ dr := pw_ne hap 0 3 (by decide) (Nat.le_of_ble_eq_true rfl)
  have ne_dr_mo : dr ≠ mo := Ne.symm ne_mo_dr
  have ne_mo_en : mo ≠ en := pw_ne hap 0 4 (by decide) (Nat.le_of_ble_eq_true rfl)
  have ne_en_mo : en ≠ mo := Ne.symm ne_mo_en
  have ne_mo_la : mo ≠ la := pw_ne hap 0 5 (by decide) (Nat.le_of_ble_eq_true rfl)
  have ne_la_mo : la ≠ mo := Ne.symm ne_mo_la
  have ne_mo_wo : mo ≠ wo := pw_ne hap 0 6 (by decide) (Nat.le_of_ble_eq_true rfl)
  have ne_wo_mo : wo ≠ mo := Ne.symm ne_mo_wo
  have ne_mo_op : mo ≠ op := pw_ne hap 0 7 (by decide) (Nat.le_of_ble_eq_true rfl)
  have ne_op_mo : op ≠ mo := Ne.symm ne_mo_op
  have ne_mo_mk : mo ≠ mk := pw_ne hap 0 8 (by decide) (Nat.le_of_ble_eq_true rfl)
  have ne_mk_mo : mk ≠ mo := Ne.symm ne_mo_mk
  have ne_mo_ir : mo ≠ ir := pw_ne hap 0 9 (by decide) (Nat.le_of_ble_eq_true rfl)
  have ne_ir_mo : ir ≠ mo := Ne.symm ne_mo_ir
  refine lv_aload_n hx hb dX6_enter_0 rfl (lv_at hl 0 rfl) ?_
  refine lv_iload_n hx hb dX6_enter_1 rfl (lv_at hl 1 rfl) ?_
  refine lv_iload_n hx hb dX6_enter_2 rfl (lv_at hl 2 rfl) ?_
  refine lv_iload_n hx hb dX6_enter_3 rfl (lv_at hl 3 rfl) ?_
  refine lv_iconst (v := 1) hx hb dX6_enter_4 (by decide) ?_
  refine lv_isub hx hb dX6_enter_5 ?_
  refine m_kV (As := [.int (-1), .int 0, .int ((nI e9) - 1)]) (rest := []) (rm := { frames := 0, cells := 0, slots := 0, locals := 0 }) ⟨hx, hb, hml, hown, hts⟩ (c_X6_lookAt l D k z _ mo 0 (((nI e9) - 1))) (cwV 3 hts gX6_enter_X6_lookAt rfl rfl rfl (by decide +kernel) ⟨Nat.le_of_ble_eq_true rfl, Nat.le_of_ble_eq_true rfl⟩) (m_recv hK hm (q := (RX6, TX6, 24)) rfl hM) hz hcx hm hS rfl hl.1 rfl (Nat.le_of_ble_eq_true rfl) dX6_enter_6 ⟨Nat.le_of_ble_eq_true rfl, Nat.le_of_ble_eq_true rfl⟩ (fun v M1 H locs hv hm hS => ?_)
  obtain ⟨hv1, hM1⟩ := hv
  subst hv1
  rw [hM1] at hm
  refine W.eq (g2 := F0 m 9 ls []) rfl ?_
  refine W.widen (k := 0) (n := 0) (Nat.le_of_ble_eq_true rfl) (Nat.le_of_ble_eq_true rfl) ?_
  have hm : mm D (AZ z) M H := hm
  refine lv_aload_n hx hb dX6_enter_9 rfl (lv_at hl 0 rfl) ?_
  refine m_get (T := TX6) (N := 24) (ci := 6) (v := .ref en) hx hb hts wX6 hown hK hm hM rfl 4 (by decide) f21 (fun _ h9 => h9) rfl dX6_enter_10 ?_
  refine lv_bipush (v := 16) hx hb dX6_enter_13 (by decide) ?_
  refine lv_iload_n hx hb dX6_enter_15 rfl (lv_at hl 2 rfl) ?_
  refine lv_imul hx hb dX6_enter_16 ?_
  refine W.eq (g2 := F0 m 17 ls [.int 0, .ref en]) (by first | rfl | decide) ?_
  refine lv_iload_n hx hb dX6_enter_17 rfl (lv_at hl 3 rfl) ?_
  refine lv_iadd hx hb dX6_enter_18 ?_
  refine m_iald hx hb hK hm 0 hen rfl (by rw [show (0 : Int32) + nI e9 = nI e9 from Int32.zero_add _]; exact vp_in_nI (by omega) (by decide)) dX6_enter_19 ?_
  refine lv_istore (lv' := [(4, .int ((fun _ => 0) ((0 + (nI e9))).toNatClampNeg)), (0, .ref mo), (1, .int (-1)), (2, .int 0), (3, .int (nI e9))]) hx hb dX6_enter_20 hl (by decide) rfl (fun ls hl => ?_)
  refine lv_iload hx hb dX6_enter_22 (lv_at hl 0 rfl) ?_
  refine lv_if_ne (tgt := 31) hx hb dX6_enter_24 (by decide) (fun c1 => ?_) (fun c1 => ?_)
  · exact absurd rfl c1
  · refine lv_iconst (v := (-1)) hx hb dX6_enter_27 (by decide) ?_
    refine lv_goto (tgt := 42) hx hb dX6_enter_28 (by decide) ?_
    refine W.iret (v := (-1)) hx hb hr (fun t ht hW => ⟨⟨some (.int (-1)), _, rfl, ?_, by rw [ht]; exact hm⟩, hS.F ht⟩) hS.2.2 dX6_enter_42
    exact ⟨rfl, rfl⟩

set_option maxHeartbeats 4000000 in
set_option maxRecDepth 100000 in
theorem c_X6_lookUp (l : Launch) (D : va_G) (k : Nat → ClassId) (z : Nat) (M : mM) (mo : Nat) (path : Int32) (cd9 : Int32) (hp : isP path) (hF : mFr k M mo cd9) : mK l yX6_lookUp wsX6_lookUp ({ frames := 2, cells := 0, slots := 0, locals := 48 }) D k z [.ref mo, .int (-1), .int path] M (fun v M' => ((path = 0 ∧ v = some (.int 0)) ∨ (path ≠ 0 ∧ v = some (.int (-1)))) ∧ M' = M) := by
  refine Met.ofW (cc := cX6_lookUp) (maxL := 6) (ret := (some .int)) (by decide) rfl ?_
  intro p e s m args below meth c s₁ B hml hv
  obtain ⟨rfl, hz, hcx, hm⟩ := hv
  have hx := B.exec
  have hb := B.bytes
  have hr := B.returns
  have hts := atoms_spec (ws := wsX6_lookUp) B.pre
  have hown : s.vm.findClass RX6 = some m.cls := findClass_of_methodNamed B.named
  have hlocks := B.notSynchronized
  have hK := hcx.1
  have hS : va_S (AZ z) s.heap s.heap [] := va_S.rf
  have hA : ∀ q, s.heap.size ≤ q → AZ z q := fun q h => Nat.le_trans hz h
  have hl := lv_entry ([.ref mo, .int (-1), .int path]) (n := 6) (Nat.le_of_ble_eq_true rfl)
  rw [lg_entry_eq]
  generalize (lg_sl ([.ref mo, .int (-1), .int path]) ++ List.replicate (6 - (lg_sl ([.ref mo, .int (-1), .int path])).length) Slot.unset).toArray = ls at hl ⊢
  have hl : lv_has ls 6 [(0, .ref mo), (1, .int (-1)), (2, .int path)] := hl
  have f16 := hts (.fieldLink RX6 16 "CommitTreeModel" "dirs" "[Z") (by decide +kernel)
  have wX6 : ∀ w ∈ wsX60, w ∈ wsX6_lookUp := by decide +kernel
  obtain ⟨cn, ia, dr, en, la, wo, op, mk, ir, se, ec, lc, wc, ol, al, hap, hM, hcn, hia, hdr, hen, hla, hwo, hop, hmk, hir⟩ := id hF
  have ne_mo_cn : mo ≠ cn := pw_ne hap 0 1 (by decide) (Nat.le_of_ble_eq_true rfl)
  have ne_cn_mo : cn ≠ mo := Ne.symm ne_mo_cn
  have ne_mo_ia : mo ≠ ia := pw_ne hap 0 2 (by decide) (Nat.le_of_ble_eq_true rfl)
  have ne_ia_mo : ia ≠ mo := Ne.symm ne_mo_ia
  have ne_mo_dr : mo ≠ dr := pw_ne hap 0 3 (by decide) (Nat.le_of_ble_eq_true rfl)
  have ne_dr_mo : dr ≠ mo := Ne.symm ne_mo_dr
  have ne_mo_en : mo ≠ en := pw_ne hap 0 4 (by decide) (Nat.le_of_ble_eq_true rfl)
  have ne_en_mo : en ≠ mo := Ne.symm ne_mo_en
  have ne_mo_la : mo ≠ la := pw_ne hap 0 5 (by decide) (Nat.le_of_ble_eq_true rfl)
  have ne_la_mo : la ≠ mo := Ne.symm ne_mo_la
  have ne_mo_wo : mo ≠ wo := pw_ne hap 0 6 (by decide) (Nat.le_of_ble_eq_true rfl)
  have ne_wo_mo : wo ≠ mo := Ne.symm ne_mo_wo
  have ne_mo_op : mo ≠ op := pw_ne hap 0 7 (by decide) (Nat.le_of_ble_eq_true rfl)
  have ne_op_mo : op ≠ mo := Ne.symm ne_mo_op
  have ne_mo_mk : mo ≠ mk := pw_ne hap 0 8 (by decide) (Nat.le_of_ble_eq_true rfl)
  have ne_mk_mo : mk ≠ mo := Ne.symm ne_mo_mk
  have ne_mo_ir : mo ≠ ir := pw_ne hap 0 9 (by decide) (Nat.le_of_ble_eq_true rfl)
  have ne_ir_mo : ir ≠ mo := Ne.symm ne_mo_ir
  refine lv_bipush (v := 100) hx hb dX6_lookUp_0 (by decide) ?_
  refine lv_aload_n hx hb dX6_lookUp_2 rfl (lv_at hl 0 rfl) ?_
  refine lv_iload_n hx hb dX6_lookUp_3 rfl (lv_at hl 1 rfl) ?_
  refine m_kV (As := [.int (-1)]) (rest := [.int 100]) (rm := { frames := 0, cells := 0, slots := 0, locals := 0 }) ⟨hx, hb, hml, hown, hts⟩ (c_X6_tree l D k z _ mo) (cwV 1 hts gX6_lookUp_X6_tree rfl rfl rfl (by decide +kernel) ⟨Nat.le_of_ble_eq_true rfl, Nat.le_of_ble_eq_true rfl⟩) (m_recv hK hm (q := (RX6, TX6, 24)) rfl hM) hz hcx hm hS rfl hl.1 rfl (Nat.le_of_ble_eq_true rfl) dX6_lookUp_4 ⟨Nat.le_of_ble_eq_true rfl, Nat.le_of_ble_eq_true rfl⟩ (fun v M1 H locs hv hm hS => ?_)
  obtain ⟨hv1, hM1⟩ := hv
  subst hv1
  rw [hM1] at hm
  refine W.eq (g2 := F0 m 7 ls [.int 0, .int 100]) rfl ?_
  refine W.widen (k := 0) (n := 0) (Nat.le_of_ble_eq_true rfl) (Nat.le_of_ble_eq_true rfl) ?_
  have hm : mm D (AZ z) M H := hm
  refine lv_imul hx hb dX6_lookUp_7 ?_
  refine W.eq (g2 := F0 m 8 ls [.int 0]) (by first | rfl | decide) ?_
  refine lv_istore_n (lv' := [(3, .int 0), (0, .ref mo), (1, .int (-1)), (2, .int path)]) hx hb dX6_lookUp_8 rfl hl (by decide) rfl (fun ls hl => ?_)
  refine lv_bipush (v := 24) hx hb dX6_lookUp_9 (by decide) ?_
  refine lv_istore (lv' := [(4, .int 24), (3, .int 0), (0, .ref mo), (1, .int (-1)), (2, .int path)]) hx hb dX6_lookUp_11 hl (by decide) rfl (fun ls hl => ?_)
  refine lv_iload hx hb dX6_lookUp_13 (lv_at hl 0 rfl) ?_
  refine lv_if_lt (tgt := 64) hx hb dX6_lookUp_15 (by decide) (fun c1 => ?_) (fun c1 => ?_)
  · first | exact absurd c1 (by decide) | exact absurd (by decide) c1
  · refine lv_iload_n hx hb dX6_lookUp_18 rfl (lv_at hl 1 rfl) ?_
    refine lv_if_lt (tgt := 64) hx hb dX6_lookUp_19 (by decide) (fun c2 => ?_) (fun c2 => ?_)
    · first | exact absurd c2 (by decide) | exact absurd (by decide) c2
    · refine lv_iload_n hx hb dX6_lookUp_22 rfl (lv_at hl 4 rfl) ?_
      refine lv_iload hx hb dX6_lookUp_23 (lv_at hl 0 rfl) ?_
      refine lv_ishr hx hb dX6_lookUp_25 ?_
      refine lv_bipush (v := 15) hx hb dX6_lookUp_26 (by decide) ?_
      refine lv_iand hx hb dX6_lookUp_28 ?_
      refine lv_istore (lv' := [(5, .int ((path >>> (24 &&& 31)) &&& 15)), (4, .int 24), (3, .int 0), (0, .ref mo), (1, .int (-1)), (2, .int path)]) hx hb dX6_lookUp_29 hl (by decide) rfl (fun ls hl => ?_)
      refine lv_iload hx hb dX6_lookUp_31 (lv_at hl 0 rfl) ?_
      refine lv_if_le (tgt := 58) hx hb dX6_lookUp_33 (by decide) (fun c3 => ?_) (fun c3 => ?_)
      · refine lv_iinc (v := 20) (lv' := [(4, .int 20), (5, .int ((path >>> (24 &&& 31)) &&& 15)), (3, .int 0), (0, .ref mo), (1, .int (-1)), (2, .int path)]) hx hb dX6_lookUp_58 hl (k := 1) rfl rfl (by decide) rfl (fun ls hl => ?_)
        refine lv_goto (tgt := 13) hx hb dX6_lookUp_61 (by decide) ?_
        refine lv_iload hx hb dX6_lookUp_13 (lv_at hl 0 rfl) ?_
        refine lv_if_lt (tgt := 64) hx hb dX6_lookUp_15 (by decide) (fun c4 => ?_) (fun c4 => ?_)
        · first | exact absurd c4 (by decide) | exact absurd (by decide) c4
        · refine lv_iload_n hx hb dX6_lookUp_18 rfl (lv_at hl 2 rfl) ?_
          refine lv_if_lt (tgt := 64) hx hb dX6_lookUp_19 (by decide) (fun c5 => ?_) (fun c5 => ?_)
          · first | exact absurd c5 (by decide) | exact absurd (by decide) c5
          · refine lv_iload_n hx hb dX6_lookUp_22 rfl (lv_at hl 5 rfl) ?_
            refine lv_iload hx hb dX6_lookUp_23 (lv_at hl 0 rfl) ?_
            refine lv_ishr hx hb dX6_lookUp_25 ?_
            refine lv_bipush (v := 15) hx hb dX6_lookUp_26 (by decide) ?_
            refine lv_iand hx hb dX6_lookUp_28 ?_
            refine lv_istore (lv' := [(5, .int ((path >>> (20 &&& 31)) &&& 15)), (4, .int 20), (3, .int 0), (0, .ref mo), (1, .int (-1)), (2, .int path)]) hx hb dX6_lookUp_29 hl (by decide) rfl (fun ls hl => ?_)
            refine lv_iload hx hb dX6_lookUp_31 (lv_at hl 0 rfl) ?_
            refine lv_if_le (tgt := 58) hx hb dX6_lookUp_33 (by decide) (fun c6 => ?_) (fun c6 => ?_)
            · refine lv_iinc (v := 16) (lv' := [(4, .int 16), (5, .int ((path >>> (20 &&& 31)) &&& 15)), (3, .int 0), (0, .ref mo), (1, .int (-1)), (2, .int path)]) hx hb dX6_lookUp_58 hl (k := 1) rfl rfl (by decide) rfl (fun ls hl => ?_)
              refine lv_goto (tgt := 13) hx hb dX6_lookUp_61 (by decide) ?_
              refine lv_iload hx hb dX6_lookUp_13 (lv_at hl 0 rfl) ?_
              refine lv_if_lt (tgt := 64) hx hb dX6_lookUp_15 (by decide) (fun c7 => ?_) (fun c7 => ?_)
              · first | exact absurd c7 (by decide) | exact absurd (by decide) c7
              · refine lv_iload_n hx hb dX6_lookUp_18 rfl (lv_at hl 2 rfl) ?_
                refine lv_if_lt (tgt := 64) hx hb dX6_lookUp_19 (by decide) (fun c8 => ?_) (fun c8 => ?_)
                · first | exact absurd c8 (by decide) | exact absurd (by decide) c8
                · refine lv_iload_n hx hb dX6_lookUp_22 rfl (lv_at hl 5 rfl) ?_
                  refine lv_iload hx hb dX6_lookUp_23 (lv_at hl 0 rfl) ?_
                  refine lv_ishr hx hb dX6_lookUp_25 ?_
                  refine lv_bipush (v := 15) hx hb dX6_lookUp_26 (by decide) ?_
                  refine lv_iand hx hb dX6_lookUp_28 ?_
                  refine lv_istore (lv' := [(5, .int ((path >>> (16 &&& 31)) &&& 15)), (4, .int 16), (3, .int 0), (0, .ref mo), (1, .int (-1)), (2, .int path)]) hx hb dX6_lookUp_29 hl (by decide) rfl (fun ls hl => ?_)
                  refine lv_iload hx hb dX6_lookUp_31 (lv_at hl 0 rfl) ?_
                  refine lv_if_le (tgt := 58) hx hb dX6_lookUp_33 (by decide) (fun c9 => ?_) (fun c9 => ?_)
                  · refine lv_iinc (v := 12) (lv' := [(4, .int 12), (5, .int ((path >>> (16 &&& 31)) &&& 15)), (3, .int 0), (0, .ref mo), (1, .int (-1)), (2, .int path)]) hx hb dX6_lookUp_58 hl (k := 1) rfl rfl (by decide) rfl (fun ls hl => ?_)
                    refine lv_goto (tgt := 13) hx hb dX6_lookUp_61 (by decide) ?_
                    refine lv_iload hx hb dX6_lookUp_13 (lv_at hl 0 rfl) ?_
                    refine lv_if_lt (tgt := 64) hx hb dX6_lookUp_15 (by decide) (fun c10 => ?_) (fun c10 => ?_)
                    · first | exact absurd c10 (by decide) | exact absurd (by decide) c10
                    · refine lv_iload_n hx hb dX6_lookUp_18 rfl (lv_at hl 2 rfl) ?_
                      refine lv_if_lt (tgt := 64) hx hb dX6_lookUp_19 (by decide) (fun c11 => ?_) (fun c11 => ?_)
                      · first | exact absurd c11 (by decide) | exact absurd (by decide) c11
                      · refine lv_iload_n hx hb dX6_lookUp_22 rfl (lv_at hl 5 rfl) ?_
                        refine lv_iload hx hb dX6_lookUp_23 (lv_at hl 0 rfl) ?_
                        refine lv_ishr hx hb dX6_lookUp_25 ?_
                        refine lv_bipush (v := 15) hx hb dX6_lookUp_26 (by decide) ?_
                        refine lv_iand hx hb dX6_lookUp_28 ?_
                        refine lv_istore (lv' := [(5, .int ((path >>> (12 &&& 31)) &&& 15)), (4, .int 12), (3, .int 0), (0, .ref mo), (1, .int (-1)), (2, .int path)]) hx hb dX6_lookUp_29 hl (by decide) rfl (fun ls hl => ?_)
                        refine lv_iload hx hb dX6_lookUp_31 (lv_at hl 0 rfl) ?_
                        refine lv_if_le (tgt := 58) hx hb dX6_lookUp_33 (by decide) (fun c12 => ?_) (fun c12 => ?_)
                        · refine lv_iinc (v := 8) (lv' := [(4, .int 8), (5, .int ((path >>> (12 &&& 31)) &&& 15)), (3, .int 0), (0, .ref mo), (1, .int (-1)), (2, .int path)]) hx hb dX6_lookUp_58 hl (k := 1) rfl rfl (by decide) rfl (fun ls hl => ?_)
                          refine lv_goto (tgt := 13) hx hb dX6_lookUp_61 (by decide) ?_
                          refine lv_iload hx hb dX6_lookUp_13 (lv_at hl 0 rfl) ?_
                          refine lv_if_lt (tgt := 64) hx hb dX6_lookUp_15 (by decide) (fun c13 => ?_) (fun c13 => ?_)
                          · first | exact absurd c13 (by decide) | exact absurd (by decide) c13
                          · refine lv_iload_n hx hb dX6_lookUp_18 rfl (lv_at hl 2 rfl) ?_
                            refine lv_if_lt (tgt := 64) hx hb dX6_lookUp_19 (by decide) (fun c14 => ?_) (fun c14 => ?_)
                            · first | exact absurd c14 (by decide) | exact absurd (by decide) c14
                            · refine lv_iload_n hx hb dX6_lookUp_22 rfl (lv_at hl 5 rfl) ?_
                              refine lv_iload hx hb dX6_lookUp_23 (lv_at hl 0 rfl) ?_
                              refine lv_ishr hx hb dX6_lookUp_25 ?_
                              refine lv_bipush (v := 15) hx hb dX6_lookUp_26 (by decide) ?_
                              refine lv_iand hx hb dX6_lookUp_28 ?_
                              refine lv_istore (lv' := [(5, .int ((path >>> (8 &&& 31)) &&& 15)), (4, .int 8), (3, .int 0), (0, .ref mo), (1, .int (-1)), (2, .int path)]) hx hb dX6_lookUp_29 hl (by decide) rfl (fun ls hl => ?_)
                              refine lv_iload hx hb dX6_lookUp_31 (lv_at hl 0 rfl) ?_
                              refine lv_if_le (tgt := 58) hx hb dX6_lookUp_33 (by decide) (fun c15 => ?_) (fun c15 => ?_)
                              · refine lv_iinc (v := 4) (lv' := [(4, .int 4), (5, .int ((path >>> (8 &&& 31)) &&& 15)), (3, .int 0), (0, .ref mo), (1, .int (-1)), (2, .int path)]) hx hb dX6_lookUp_58 hl (k := 1) rfl rfl (by decide) rfl (fun ls hl => ?_)
                                refine lv_goto (tgt := 13) hx hb dX6_lookUp_61 (by decide) ?_
                                refine lv_iload hx hb dX6_lookUp_13 (lv_at hl 0 rfl) ?_
                                refine lv_if_lt (tgt := 64) hx hb dX6_lookUp_15 (by decide) (fun c16 => ?_) (fun c16 => ?_)
                                · first | exact absurd c16 (by decide) | exact absurd (by decide) c16
                                · refine lv_iload_n hx hb dX6_lookUp_18 rfl (lv_at hl 2 rfl) ?_
                                  refine lv_if_lt (tgt := 64) hx hb dX6_lookUp_19 (by decide) (fun c17 => ?_) (fun c17 => ?_)
                                  · first | exact absurd c17 (by decide) | exact absurd (by decide) c17
                                  · refine lv_iload_n hx hb dX6_lookUp_22 rfl (lv_at hl 5 rfl) ?_
                                    refine lv_iload hx hb dX6_lookUp_23 (lv_at hl 0 rfl) ?_
                                    refine lv_ishr hx hb dX6_lookUp_25 ?_
                                    refine lv_bipush (v := 15) hx hb dX6_lookUp_26 (by decide) ?_
                                    refine lv_iand hx hb dX6_lookUp_28 ?_
                                    refine lv_istore (lv' := [(5, .int ((path >>> (4 &&& 31)) &&& 15)), (4, .int 4), (3, .int 0), (0, .ref mo), (1, .int (-1)), (2, .int path)]) hx hb dX6_lookUp_29 hl (by decide) rfl (fun ls hl => ?_)
                                    refine lv_iload hx hb dX6_lookUp_31 (lv_at hl 0 rfl) ?_
                                    refine lv_if_le (tgt := 58) hx hb dX6_lookUp_33 (by decide) (fun c18 => ?_) (fun c18 => ?_)
                                    · refine lv_iinc (v := 0) (lv' := [(4, .int 0), (5, .int ((path >>> (4 &&& 31)) &&& 15)), (3, .int 0), (0, .ref mo), (1, .int (-1)), (2, .int path)]) hx hb dX6_lookUp_58 hl (k := 1) rfl rfl (by decide) rfl (fun ls hl => ?_)
                                      refine lv_goto (tgt := 13) hx hb dX6_lookUp_61 (by decide) ?_
                                      refine lv_iload hx hb dX6_lookUp_13 (lv_at hl 0 rfl) ?_
                                      refine lv_if_lt (tgt := 64) hx hb dX6_lookUp_15 (by decide) (fun c19 => ?_) (fun c19 => ?_)
                                      · first | exact absurd c19 (by decide) | exact absurd (by decide) c19
                                      · refine lv_iload_n hx hb dX6_lookUp_18 rfl (lv_at hl 2 rfl) ?_
                                        refine lv_if_lt (tgt := 64) hx hb dX6_lookUp_19 (by decide) (fun c20 => ?_) (fun c20 => ?_)
                                        · first | exact absurd c20 (by decide) | exact absurd (by decide) c20
                                        · refine lv_iload_n hx hb dX6_lookUp_22 rfl (lv_at hl 5 rfl) ?_
                                          refine lv_iload hx hb dX6_lookUp_23 (lv_at hl 0 rfl) ?_
                                          refine lv_ishr hx hb dX6_lookUp_25 ?_
                                          refine lv_bipush (v := 15) hx hb dX6_lookUp_26 (by decide) ?_
                                          refine lv_iand hx hb dX6_lookUp_28 ?_
                                          refine lv_istore (lv' := [(5, .int ((path >>> (0 &&& 31)) &&& 15)), (4, .int 0), (3, .int 0), (0, .ref mo), (1, .int (-1)), (2, .int path)]) hx hb dX6_lookUp_29 hl (by decide) rfl (fun ls hl => ?_)
                                          refine lv_iload hx hb dX6_lookUp_31 (lv_at hl 0 rfl) ?_
                                          refine lv_if_le (tgt := 58) hx hb dX6_lookUp_33 (by decide) (fun c21 => ?_) (fun c21 => ?_)
                                          · refine lv_iinc (v := (-4)) (lv' := [(4, .int (-4)), (5, .int ((path >>> (0 &&& 31)) &&& 15)), (3, .int 0), (0, .ref mo), (1, .int (-1)), (2, .int path)]) hx hb dX6_lookUp_58 hl (k := 1) rfl rfl (by decide) rfl (fun ls hl => ?_)
                                            refine lv_goto (tgt := 13) hx hb dX6_lookUp_61 (by decide) ?_
                                            refine lv_iload hx hb dX6_lookUp_13 (lv_at hl 0 rfl) ?_
                                            refine lv_if_lt (tgt := 64) hx hb dX6_lookUp_15 (by decide) (fun c22 => ?_) (fun c22 => ?_)
                                            · refine lv_iload_n hx hb dX6_lookUp_64 rfl (lv_at hl 2 rfl) ?_
                                              refine W.iret (v := 0) hx hb hr (fun t ht hW => ⟨⟨some (.int 0), _, rfl, ?_, by rw [ht]; exact hm⟩, hS.F ht⟩) hS.2.2 dX6_lookUp_65
                                              refine ⟨Or.inl ⟨Classical.byContradiction fun h9 => ?_, rfl⟩, rfl⟩
                                              rcases d15_pos (x := path >>> ((0 : Int32) &&& 31)) with ⟨h8, -, -⟩ | ⟨-, h8, -⟩
                                              · exact dg_last hp h9 h8
                                              · exact h8 c21
                                            · first | exact absurd c22 (by decide) | exact absurd (by decide) c22
                                          · refine lv_aload_n hx hb dX6_lookUp_36 rfl (lv_at hl 3 rfl) ?_
                                            refine m_get (T := TX6) (N := 24) (ci := 6) (v := .ref dr) hx hb hts wX6 hown hK hm hM rfl 3 (by decide) f16 (fun _ h9 => h9) rfl dX6_lookUp_37 ?_
                                            refine lv_iload_n hx hb dX6_lookUp_40 rfl (lv_at hl 2 rfl) ?_
                                            refine m_zald hx hb hK hm 2 hdr rfl (by unfold vp_in; decide) dX6_lookUp_41 ?_
                                            refine lv_if_eq (tgt := 56) hx hb dX6_lookUp_42 (by decide) (fun c23 => ?_) (fun c23 => ?_)
                                            · exact absurd c23 (by decide)
                                            · refine lv_aload_n hx hb dX6_lookUp_45 rfl (lv_at hl 3 rfl) ?_
                                              refine lv_iload_n hx hb dX6_lookUp_46 rfl (lv_at hl 4 rfl) ?_
                                              refine lv_iload_n hx hb dX6_lookUp_47 rfl (lv_at hl 2 rfl) ?_
                                              refine lv_iload hx hb dX6_lookUp_48 (lv_at hl 0 rfl) ?_
                                              obtain ⟨e9, he9, hde⟩ := pk_andE ((path >>> (0 &&& 31))) (m := 15) 4 (by decide)
                                              refine W.eq (g2 := F0 m 50 ls [.int (nI e9), .int 0, .int (-1), .ref mo]) (by rw [hde]) ?_
                                              refine m_kV (As := [.int (-1), .int 0, .int (nI e9)]) (rest := []) (rm := { frames := 1, cells := 0, slots := 0, locals := 24 }) ⟨hx, hb, hml, hown, hts⟩ (c_X6_enter l D k z _ mo cd9 e9 he9 hF) (cwV 3 hts gX6_lookUp_X6_enter rfl rfl rfl (by decide +kernel) ⟨Nat.le_of_ble_eq_true rfl, Nat.le_of_ble_eq_true rfl⟩) (m_recv hK hm (q := (RX6, TX6, 24)) rfl hM) hz hcx hm hS rfl hl.1 rfl (Nat.le_of_ble_eq_true rfl) dX6_lookUp_50 ⟨Nat.le_of_ble_eq_true rfl, Nat.le_of_ble_eq_true rfl⟩ (fun v M1 H locs hv hm hS => ?_)
                                              obtain ⟨hv1, hM1⟩ := hv
                                              subst hv1
                                              rw [hM1] at hm
                                              refine W.eq (g2 := F0 m 53 ls [.int (-1)]) rfl ?_
                                              refine W.widen (k := 0) (n := 0) (Nat.le_of_ble_eq_true rfl) (Nat.le_of_ble_eq_true rfl) ?_
                                              have hm : mm D (AZ z) M H := hm
                                              refine lv_goto (tgt := 57) hx hb dX6_lookUp_53 (by decide) ?_
                                              refine lv_istore_n (lv' := [(3, .int (-1)), (5, .int ((path >>> (0 &&& 31)) &&& 15)), (4, .int 0), (0, .ref mo), (1, .int (-1)), (2, .int path)]) hx hb dX6_lookUp_57 rfl hl (by decide) rfl (fun ls hl => ?_)
                                              refine lv_iinc (v := (-4)) (lv' := [(4, .int (-4)), (3, .int (-1)), (5, .int ((path >>> (0 &&& 31)) &&& 15)), (0, .ref mo), (1, .int (-1)), (2, .int path)]) hx hb dX6_lookUp_58 hl (k := 2) rfl rfl (by decide) rfl (fun ls hl => ?_)
                                              refine lv_goto (tgt := 13) hx hb dX6_lookUp_61 (by decide) ?_
                                              refine lv_iload hx hb dX6_lookUp_13 (lv_at hl 0 rfl) ?_
                                              refine lv_if_lt (tgt := 64) hx hb dX6_lookUp_15 (by decide) (fun c24 => ?_) (fun c24 => ?_)
                                              · refine lv_iload_n hx hb dX6_lookUp_64 rfl (lv_at hl 1 rfl) ?_
                                                refine W.iret (v := (-1)) hx hb hr (fun t ht hW => ⟨⟨some (.int (-1)), _, rfl, ?_, by rw [ht]; exact hm⟩, hS.F ht⟩) hS.2.2 dX6_lookUp_65
                                                exact ⟨Or.inr ⟨fun h9 => c21 (by subst h9; decide), rfl⟩, rfl⟩
                                              · first | exact absurd c24 (by decide) | exact absurd (by decide) c24
                                    · refine lv_aload_n hx hb dX6_lookUp_36 rfl (lv_at hl 3 rfl) ?_
                                      refine m_get (T := TX6) (N := 24) (ci := 6) (v := .ref dr) hx hb hts wX6 hown hK hm hM rfl 3 (by decide) f16 (fun _ h9 => h9) rfl dX6_lookUp_37 ?_
                                      refine lv_iload_n hx hb dX6_lookUp_40 rfl (lv_at hl 2 rfl) ?_
                                      refine m_zald hx hb hK hm 2 hdr rfl (by unfold vp_in; decide) dX6_lookUp_41 ?_
                                      refine lv_if_eq (tgt := 56) hx hb dX6_lookUp_42 (by decide) (fun c25 => ?_) (fun c25 => ?_)
                                      · exact absurd c25 (by decide)
                                      · refine lv_aload_n hx hb dX6_lookUp_45 rfl (lv_at hl 3 rfl) ?_
                                        refine lv_iload_n hx hb dX6_lookUp_46 rfl (lv_at hl 4 rfl) ?_
                                        refine lv_iload_n hx hb dX6_lookUp_47 rfl (lv_at hl 2 rfl) ?_
                                        refine lv_iload hx hb dX6_lookUp_48 (lv_at hl 0 rfl) ?_
                                        obtain ⟨e9, he9, hde⟩ := pk_andE ((path >>> (4 &&& 31))) (m := 15) 4 (by decide)
                                        refine W.eq (g2 := F0 m 50 ls [.int (nI e9), .int 0, .int (-1), .ref mo]) (by rw [hde]) ?_
                                        refine m_kV (As := [.int (-1), .int 0, .int (nI e9)]) (rest := []) (rm := { frames := 1, cells := 0, slots := 0, locals := 24 }) ⟨hx, hb, hml, hown, hts⟩ (c_X6_enter l D k z _ mo cd9 e9 he9 hF) (cwV 3 hts gX6_lookUp_X6_enter rfl rfl rfl (by decide +kernel) ⟨Nat.le_of_ble_eq_true rfl, Nat.le_of_ble_eq_true rfl⟩) (m_recv hK hm (q := (RX6, TX6, 24)) rfl hM) hz hcx hm hS rfl hl.1 rfl (Nat.le_of_ble_eq_true rfl) dX6_lookUp_50 ⟨Nat.le_of_ble_eq_true rfl, Nat.le_of_ble_eq_true rfl⟩ (fun v M1 H locs hv hm hS => ?_)
                                        obtain ⟨hv1, hM1⟩ := hv
                                        subst hv1
                                        rw [hM1] at hm
                                        refine W.eq (g2 := F0 m 53 ls [.int (-1)]) rfl ?_
                                        refine W.widen (k := 0) (n := 0) (Nat.le_of_ble_eq_true rfl) (Nat.le_of_ble_eq_true rfl) ?_
                                        have hm : mm D (AZ z) M H := hm
                                        refine lv_goto (tgt := 57) hx hb dX6_lookUp_53 (by decide) ?_
                                        refine lv_istore_n (lv' := [(3, .int (-1)), (5, .int ((path >>> (4 &&& 31)) &&& 15)), (4, .int 4), (0, .ref mo), (1, .int (-1)), (2, .int path)]) hx hb dX6_lookUp_57 rfl hl (by decide) rfl (fun ls hl => ?_)
                                        refine lv_iinc (v := 0) (lv' := [(4, .int 0), (3, .int (-1)), (5, .int ((path >>> (4 &&& 31)) &&& 15)), (0, .ref mo), (1, .int (-1)), (2, .int path)]) hx hb dX6_lookUp_58 hl (k := 2) rfl rfl (by decide) rfl (fun ls hl => ?_)
                                        refine lv_goto (tgt := 13) hx hb dX6_lookUp_61 (by decide) ?_
                                        refine lv_iload hx hb dX6_lookUp_13 (lv_at hl 0 rfl) ?_
                                        refine lv_if_lt (tgt := 64) hx hb dX6_lookUp_15 (by decide) (fun c26 => ?_) (fun c26 => ?_)
                                        · first | exact absurd c26 (by decide) | exact absurd (by decide) c26
                                        · refine lv_iload_n hx hb dX6_lookUp_18 rfl (lv_at hl 1 rfl) ?_
                                          refine lv_if_lt (tgt := 64) hx hb dX6_lookUp_19 (by decide) (fun c27 => ?_) (fun c27 => ?_)
                                          · refine lv_iload_n hx hb dX6_lookUp_64 rfl (lv_at hl 1 rfl) ?_
                                            refine W.iret (v := (-1)) hx hb hr (fun t ht hW => ⟨⟨some (.int (-1)), _, rfl, ?_, by rw [ht]; exact hm⟩, hS.F ht⟩) hS.2.2 dX6_lookUp_65
                                            exact ⟨Or.inr ⟨fun h9 => c18 (by subst h9; decide), rfl⟩, rfl⟩
                                          · first | exact absurd c27 (by decide) | exact absurd (by decide) c27
                              · refine lv_aload_n hx hb dX6_lookUp_36 rfl (lv_at hl 3 rfl) ?_
                                refine m_get (T := TX6) (N := 24) (ci := 6) (v := .ref dr) hx hb hts wX6 hown hK hm hM rfl 3 (by decide) f16 (fun _ h9 => h9) rfl dX6_lookUp_37 ?_
                                refine lv_iload_n hx hb dX6_lookUp_40 rfl (lv_at hl 2 rfl) ?_
                                refine m_zald hx hb hK hm 2 hdr rfl (by unfold vp_in; decide) dX6_lookUp_41 ?_
                                refine lv_if_eq (tgt := 56) hx hb dX6_lookUp_42 (by decide) (fun c28 => ?_) (fun c28 => ?_)
                                · exact absurd c28 (by decide)
                                · refine lv_aload_n hx hb dX6_lookUp_45 rfl (lv_at hl 3 rfl) ?_
                                  refine lv_iload_n hx hb dX6_lookUp_46 rfl (lv_at hl 4 rfl) ?_
                                  refine lv_iload_n hx hb dX6_lookUp_47 rfl (lv_at hl 2 rfl) ?_
                                  refine lv_iload hx hb dX6_lookUp_48 (lv_at hl 0 rfl) ?_
                                  obtain ⟨e9, he9, hde⟩ := pk_andE ((path >>> (8 &&& 31))) (m := 15) 4 (by decide)
                                  refine W.eq (g2 := F0 m 50 ls [.int (nI e9), .int 0, .int (-1), .ref mo]) (by rw [hde]) ?_
                                  refine m_kV (As := [.int (-1), .int 0, .int (nI e9)]) (rest := []) (rm := { frames := 1, cells := 0, slots := 0, locals := 24 }) ⟨hx, hb, hml, hown, hts⟩ (c_X6_enter l D k z _ mo cd9 e9 he9 hF) (cwV 3 hts gX6_lookUp_X6_enter rfl rfl rfl (by decide +kernel) ⟨Nat.le_of_ble_eq_true rfl, Nat.le_of_ble_eq_true rfl⟩) (m_recv hK hm (q := (RX6, TX6, 24)) rfl hM) hz hcx hm hS rfl hl.1 rfl (Nat.le_of_ble_eq_true rfl) dX6_lookUp_50 ⟨Nat.le_of_ble_eq_true rfl, Nat.le_of_ble_eq_true rfl⟩ (fun v M1 H locs hv hm hS => ?_)
                                  obtain ⟨hv1, hM1⟩ := hv
                                  subst hv1
                                  rw [hM1] at hm
                                  refine W.eq (g2 := F0 m 53 ls [.int (-1)]) rfl ?_
                                  refine W.widen (k := 0) (n := 0) (Nat.le_of_ble_eq_true rfl) (Nat.le_of_ble_eq_true rfl) ?_
                                  have hm : mm D (AZ z) M H := hm
                                  refine lv_goto (tgt := 57) hx hb dX6_lookUp_53 (by decide) ?_
                                  refine lv_istore_n (lv' := [(3, .int (-1)), (5, .int ((path >>> (8 &&& 31)) &&& 15)), (4, .int 8), (0, .ref mo), (1, .int (-1)), (2, .int path)]) hx hb dX6_lookUp_57 rfl hl (by decide) rfl (fun ls hl => ?_)
                                  refine lv_iinc (v := 4) (lv' := [(4, .int 4), (3, .int (-1)), (5, .int ((path >>> (8 &&& 31)) &&& 15)), (0, .ref mo), (1, .int (-1)), (2, .int path)]) hx hb dX6_lookUp_58 hl (k := 2) rfl rfl (by decide) rfl (fun ls hl => ?_)
                                  refine lv_goto (tgt := 13) hx hb dX6_lookUp_61 (by decide) ?_
                                  refine lv_iload hx hb dX6_lookUp_13 (lv_at hl 0 rfl) ?_
                                  refine lv_if_lt (tgt := 64) hx hb dX6_lookUp_15 (by decide) (fun c29 => ?_) (fun c29 => ?_)
                                  · first | exact absurd c29 (by decide) | exact absurd (by decide) c29
                                  · refine lv_iload_n hx hb dX6_lookUp_18 rfl (lv_at hl 1 rfl) ?_
                                    refine lv_if_lt (tgt := 64) hx hb dX6_lookUp_19 (by decide) (fun c30 => ?_) (fun c30 => ?_)
                                    · refine lv_iload_n hx hb dX6_lookUp_64 rfl (lv_at hl 1 rfl) ?_
                                      refine W.iret (v := (-1)) hx hb hr (fun t ht hW => ⟨⟨some (.int (-1)), _, rfl, ?_, by rw [ht]; exact hm⟩, hS.F ht⟩) hS.2.2 dX6_lookUp_65
                                      exact ⟨Or.inr ⟨fun h9 => c15 (by subst h9; decide), rfl⟩, rfl⟩
                                    · first | exact absurd c30 (by decide) | exact absurd (by decide) c30
                        · refine lv_aload_n hx hb dX6_lookUp_36 rfl (lv_at hl 3 rfl) ?_
                          refine m_get (T := TX6) (N := 24) (ci := 6) (v := .ref dr) hx hb hts wX6 hown hK hm hM rfl 3 (by decide) f16 (fun _ h9 => h9) rfl dX6_lookUp_37 ?_
                          refine lv_iload_n hx hb dX6_lookUp_40 rfl (lv_at hl 2 rfl) ?_
                          refine m_zald hx hb hK hm 2 hdr rfl (by unfold vp_in; decide) dX6_lookUp_41 ?_
                          refine lv_if_eq (tgt := 56) hx hb dX6_lookUp_42 (by decide) (fun c31 => ?_) (fun c31 => ?_)
                          · exact absurd c31 (by decide)
                          · refine lv_aload_n hx hb dX6_lookUp_45 rfl (lv_at hl 3 rfl) ?_
                            refine lv_iload_n hx hb dX6_lookUp_46 rfl (lv_at hl 4 rfl) ?_
                            refine lv_iload_n hx hb dX6_lookUp_47 rfl (lv_at hl 2 rfl) ?_
                            refine lv_iload hx hb dX6_lookUp_48 (lv_at hl 0 rfl) ?_
                            obtain ⟨e9, he9, hde⟩ := pk_andE ((path >>> (12 &&& 31))) (m := 15) 4 (by decide)
                            refine W.eq (g2 := F0 m 50 ls [.int (nI e9), .int 0, .int (-1), .ref mo]) (by rw [hde]) ?_
                            refine m_kV (As := [.int (-1), .int 0, .int (nI e9)]) (rest := []) (rm := { frames := 1, cells := 0, slots := 0, locals := 24 }) ⟨hx, hb, hml, hown, hts⟩ (c_X6_enter l D k z _ mo cd9 e9 he9 hF) (cwV 3 hts gX6_lookUp_X6_enter rfl rfl rfl (by decide +kernel) ⟨Nat.le_of_ble_eq_true rfl, Nat.le_of_ble_eq_true rfl⟩) (m_recv hK hm (q := (RX6, TX6, 24)) rfl hM) hz hcx hm hS rfl hl.1 rfl (Nat.le_of_ble_eq_true rfl) dX6_lookUp_50 ⟨Nat.le_of_ble_eq_true rfl, Nat.le_of_ble_eq_true rfl⟩ (fun v M1 H locs hv hm hS => ?_)
                            obtain ⟨hv1, hM1⟩ := hv
                            subst hv1
                            rw [hM1] at hm
                            refine W.eq (g2 := F0 m 53 ls [.int (-1)]) rfl ?_
                            refine W.widen (k := 0) (n := 0) (Nat.le_of_ble_eq_true rfl) (Nat.le_of_ble_eq_true rfl) ?_
                            have hm : mm D (AZ z) M H := hm
                            refine lv_goto (tgt := 57) hx hb dX6_lookUp_53 (by decide) ?_
                            refine lv_istore_n (lv' := [(3, .int (-1)), (5, .int ((path >>> (12 &&& 31)) &&& 15)), (4, .int 12), (0, .ref mo), (1, .int (-1)), (2, .int path)]) hx hb dX6_lookUp_57 rfl hl (by decide) rfl (fun ls hl => ?_)
                            refine lv_iinc (v := 8) (lv' := [(4, .int 8), (3, .int (-1)), (5, .int ((path >>> (12 &&& 31)) &&& 15)), (0, .ref mo), (1, .int (-1)), (2, .int path)]) hx hb dX6_lookUp_58 hl (k := 2) rfl rfl (by decide) rfl (fun ls hl => ?_)
                            refine lv_goto (tgt := 13) hx hb dX6_lookUp_61 (by decide) ?_
                            refine lv_iload hx hb dX6_lookUp_13 (lv_at hl 0 rfl) ?_
                            refine lv_if_lt (tgt := 64) hx hb dX6_lookUp_15 (by decide) (fun c32 => ?_) (fun c32 => ?_)
                            · first | exact absurd c32 (by decide) | exact absurd (by decide) c32
                            · refine lv_iload_n hx hb dX6_lookUp_18 rfl (lv_at hl 1 rfl) ?_
                              refine lv_if_lt (tgt := 64) hx hb dX6_lookUp_19 (by decide) (fun c33 => ?_) (fun c33 => ?_)
                              · refine lv_iload_n hx hb dX6_lookUp_64 rfl (lv_at hl 1 rfl) ?_
                                refine W.iret (v := (-1)) hx hb hr (fun t ht hW => ⟨⟨some (.int (-1)), _, rfl, ?_, by rw [ht]; exact hm⟩, hS.F ht⟩) hS.2.2 dX6_lookUp_65
                                exact ⟨Or.inr ⟨fun h9 => c12 (by subst h9; decide), rfl⟩, rfl⟩
                              · first | exact absurd c33 (by decide) | exact absurd (by decide) c33
                  · refine lv_aload_n hx hb dX6_lookUp_36 rfl (lv_at hl 3 rfl) ?_
                    refine m_get (T := TX6) (N := 24) (ci := 6) (v := .ref dr) hx hb hts wX6 hown hK hm hM rfl 3 (by decide) f16 (fun _ h9 => h9) rfl dX6_lookUp_37 ?_
                    refine lv_iload_n hx hb dX6_lookUp_40 rfl (lv_at hl 2 rfl) ?_
                    refine m_zald hx hb hK hm 2 hdr rfl (by unfold vp_in; decide) dX6_lookUp_41 ?_
                    refine lv_if_eq (tgt := 56) hx hb dX6_lookUp_42 (by decide) (fun c34 => ?_) (fun c34 => ?_)
                    · exact absurd c34 (by decide)
                    · refine lv_aload_n hx hb dX6_lookUp_45 rfl (lv_at hl 3 rfl) ?_
                      refine lv_iload_n hx hb dX6_lookUp_46 rfl (lv_at hl 4 rfl) ?_
                      refine lv_iload_n hx hb dX6_lookUp_47 rfl (lv_at hl 2 rfl) ?_
                      refine lv_iload hx hb dX6_lookUp_48 (lv_at hl 0 rfl) ?_
                      obtain ⟨e9, he9, hde⟩ := pk_andE ((path >>> (16 &&& 31))) (m := 15) 4 (by decide)
                      refine W.eq (g2 := F0 m 50 ls [.int (nI e9), .int 0, .int (-1), .ref mo]) (by rw [hde]) ?_
                      refine m_kV (As := [.int (-1), .int 0, .int (nI e9)]) (rest := []) (rm := { frames := 1, cells := 0, slots := 0, locals := 24 }) ⟨hx, hb, hml, hown, hts⟩ (c_X6_enter l D k z _ mo cd9 e9 he9 hF) (cwV 3 hts gX6_lookUp_X6_enter rfl rfl rfl (by decide +kernel) ⟨Nat.le_of_ble_eq_true rfl, Nat.le_of_ble_eq_true rfl⟩) (m_recv hK hm (q := (RX6, TX6, 24)) rfl hM) hz hcx hm hS rfl hl.1 rfl (Nat.le_of_ble_eq_true rfl) dX6_lookUp_50 ⟨Nat.le_of_ble_eq_true rfl, Nat.le_of_ble_eq_true rfl⟩ (fun v M1 H locs hv hm hS => ?_)
                      obtain ⟨hv1, hM1⟩ := hv
                      subst hv1
                      rw [hM1] at hm
                      refine W.eq (g2 := F0 m 53 ls [.int (-1)]) rfl ?_
                      refine W.widen (k := 0) (n := 0) (Nat.le_of_ble_eq_true rfl) (Nat.le_of_ble_eq_true rfl) ?_
                      have hm : mm D (AZ z) M H := hm
                      refine lv_goto (tgt := 57) hx hb dX6_lookUp_53 (by decide) ?_
                      refine lv_istore_n (lv' := [(3, .int (-1)), (5, .int ((path >>> (16 &&& 31)) &&& 15)), (4, .int 16), (0, .ref mo), (1, .int (-1)), (2, .int path)]) hx hb dX6_lookUp_57 rfl hl (by decide) rfl (fun ls hl => ?_)
                      refine lv_iinc (v := 12) (lv' := [(4, .int 12), (3, .int (-1)), (5, .int ((path >>> (16 &&& 31)) &&& 15)), (0, .ref mo), (1, .int (-1)), (2, .int path)]) hx hb dX6_lookUp_58 hl (k := 2) rfl rfl (by decide) rfl (fun ls hl => ?_)
                      refine lv_goto (tgt := 13) hx hb dX6_lookUp_61 (by decide) ?_
                      refine lv_iload hx hb dX6_lookUp_13 (lv_at hl 0 rfl) ?_
                      refine lv_if_lt (tgt := 64) hx hb dX6_lookUp_15 (by decide) (fun c35 => ?_) (fun c35 => ?_)
                      · first | exact absurd c35 (by decide) | exact absurd (by decide) c35
                      · refine lv_iload_n hx hb dX6_lookUp_18 rfl (lv_at hl 1 rfl) ?_
                        refine lv_if_lt (tgt := 64) hx hb dX6_lookUp_19 (by decide) (fun c36 => ?_) (fun c36 => ?_)
                        · refine lv_iload_n hx hb dX6_lookUp_64 rfl (lv_at hl 1 rfl) ?_
                          refine W.iret (v := (-1)) hx hb hr (fun t ht hW => ⟨⟨some (.int (-1)), _, rfl, ?_, by rw [ht]; exact hm⟩, hS.F ht⟩) hS.2.2 dX6_lookUp_65
                          exact ⟨Or.inr ⟨fun h9 => c9 (by subst h9; decide), rfl⟩, rfl⟩
                        · first | exact absurd c36 (by decide) | exact absurd (by decide) c36
            · refine lv_aload_n hx hb dX6_lookUp_36 rfl (lv_at hl 3 rfl) ?_
              refine m_get (T := TX6) (N := 24) (ci := 6) (v := .ref dr) hx hb hts wX6 hown hK hm hM rfl 3 (by decide) f16 (fun _ h9 => h9) rfl dX6_lookUp_37 ?_
              refine lv_iload_n hx hb dX6_lookUp_40 rfl (lv_at hl 2 rfl) ?_
              refine m_zald hx hb hK hm 2 hdr rfl (by unfold vp_in; decide) dX6_lookUp_41 ?_
              refine lv_if_eq (tgt := 56) hx hb dX6_lookUp_42 (by decide) (fun c37 => ?_) (fun c37 => ?_)
              · exact absurd c37 (by decide)
              · refine lv_aload_n hx hb dX6_lookUp_45 rfl (lv_at hl 3 rfl) ?_
                refine lv_iload_n hx hb dX6_lookUp_46 rfl (lv_at hl 4 rfl) ?_
                refine lv_iload_n hx hb dX6_lookUp_47 rfl (lv_at hl 2 rfl) ?_
                refine lv_iload hx hb dX6_lookUp_48 (lv_at hl 0 rfl) ?_
                obtain ⟨e9, he9, hde⟩ := pk_andE ((path >>> (20 &&& 31))) (m := 15) 4 (by decide)
                refine W.eq (g2 := F0 m 50 ls [.int (nI e9), .int 0, .int (-1), .ref mo]) (by rw [hde]) ?_
                refine m_kV (As := [.int (-1), .int 0, .int (nI e9)]) (rest := []) (rm := { frames := 1, cells := 0, slots := 0, locals := 24 }) ⟨hx, hb, hml, hown, hts⟩ (c_X6_enter l D k z _ mo cd9 e9 he9 hF) (cwV 3 hts gX6_lookUp_X6_enter rfl rfl rfl (by decide +kernel) ⟨Nat.le_of_ble_eq_true rfl, Nat.le_of_ble_eq_true rfl⟩) (m_recv hK hm (q := (RX6, TX6, 24)) rfl hM) hz hcx hm hS rfl hl.1 rfl (Nat.le_of_ble_eq_true rfl) dX6_lookUp_50 ⟨Nat.le_of_ble_eq_true rfl, Nat.le_of_ble_eq_true rfl⟩ (fun v M1 H locs hv hm hS => ?_)
                obtain ⟨hv1, hM1⟩ := hv
                subst hv1
                rw [hM1] at hm
                refine W.eq (g2 := F0 m 53 ls [.int (-1)]) rfl ?_
                refine W.widen (k := 0) (n := 0) (Nat.le_of_ble_eq_true rfl) (Nat.le_of_ble_eq_true rfl) ?_
                have hm : mm D (AZ z) M H := hm
                refine lv_goto (tgt := 57) hx hb dX6_lookUp_53 (by decide) ?_
                refine lv_istore_n (lv' := [(3, .int (-1)), (5, .int ((path >>> (20 &&& 31)) &&& 15)), (4, .int 20), (0, .ref mo), (1, .int (-1)), (2, .int path)]) hx hb dX6_lookUp_57 rfl hl (by decide) rfl (fun ls hl => ?_)
                refine lv_iinc (v := 16) (lv' := [(4, .int 16), (3, .int (-1)), (5, .int ((path >>> (20 &&& 31)) &&& 15)), (0, .ref mo), (1, .int (-1)), (2, .int path)]) hx hb dX6_lookUp_58 hl (k := 2) rfl rfl (by decide) rfl (fun ls hl => ?_)
                refine lv_goto (tgt := 13) hx hb dX6_lookUp_61 (by decide) ?_
                refine lv_iload hx hb dX6_lookUp_13 (lv_at hl 0 rfl) ?_
                refine lv_if_lt (tgt := 64) hx hb dX6_lookUp_15 (by decide) (fun c38 => ?_) (fun c38 => ?_)
                · first | exact absurd c38 (by decide) | exact absurd (by decide) c38
                · refine lv_iload_n hx hb dX6_lookUp_18 rfl (lv_at hl 1 rfl) ?_
                  refine lv_if_lt (tgt := 64) hx hb dX6_lookUp_19 (by decide) (fun c39 => ?_) (fun c39 => ?_)
                  · refine lv_iload_n hx hb dX6_lookUp_64 rfl (lv_at hl 1 rfl) ?_
                    refine W.iret (v := (-1)) hx hb hr (fun t ht hW => ⟨⟨some (.int (-1)), _, rfl, ?_, by rw [ht]; exact hm⟩, hS.F ht⟩) hS.2.2 dX6_lookUp_65
                    exact ⟨Or.inr ⟨fun h9 => c6 (by subst h9; decide), rfl⟩, rfl⟩
                  · first | exact absurd c39 (by decide) | exact absurd (by decide) c39
      · refine lv_aload_n hx hb dX6_lookUp_36 rfl (lv_at hl 3 rfl) ?_
        refine m_get (T := TX6) (N := 24) (ci := 6) (v := .ref dr) hx hb hts wX6 hown hK hm hM rfl 3 (by decide) f16 (fun _ h9 => h9) rfl dX6_lookUp_37 ?_
        refine lv_iload_n hx hb dX6_lookUp_40 rfl (lv_at hl 2 rfl) ?_
        refine m_zald hx hb hK hm 2 hdr rfl (by unfold vp_in; decide) dX6_lookUp_41 ?_
        refine lv_if_eq (tgt := 56) hx hb dX6_lookUp_42 (by decide) (fun c40 => ?_) (fun c40 => ?_)
        · exact absurd c40 (by decide)
        · refine lv_aload_n hx hb dX6_lookUp_45 rfl (lv_at hl 3 rfl) ?_
          refine lv_iload_n hx hb dX6_lookUp_46 rfl (lv_at hl 4 rfl) ?_
          refine lv_iload_n hx hb dX6_lookUp_47 rfl (lv_at hl 2 rfl) ?_
          refine lv_iload hx hb dX6_lookUp_48 (lv_at hl 0 rfl) ?_
          obtain ⟨e9, he9, hde⟩ := pk_andE ((path >>> (24 &&& 31))) (m := 15) 4 (by decide)
          refine W.eq (g2 := F0 m 50 ls [.int (nI e9), .int 0, .int (-1), .ref mo]) (by rw [hde]) ?_
          refine m_kV (As := [.int (-1), .int 0, .int (nI e9)]) (rest := []) (rm := { frames := 1, cells := 0, slots := 0, locals := 24 }) ⟨hx, hb, hml, hown, hts⟩ (c_X6_enter l D k z _ mo cd9 e9 he9 hF) (cwV 3 hts gX6_lookUp_X6_enter rfl rfl rfl (by decide +kernel) ⟨Nat.le_of_ble_eq_true rfl, Nat.le_of_ble_eq_true rfl⟩) (m_recv hK hm (q := (RX6, TX6, 24)) rfl hM) hz hcx hm hS rfl hl.1 rfl (Nat.le_of_ble_eq_true rfl) dX6_lookUp_50 ⟨Nat.le_of_ble_eq_true rfl, Nat.le_of_ble_eq_true rfl⟩ (fun v M1 H locs hv hm hS => ?_)
          obtain ⟨hv1, hM1⟩ := hv
          subst hv1
          rw [hM1] at hm
          refine W.eq (g2 := F0 m 53 ls [.int (-1)]) rfl ?_
          refine W.widen (k := 0) (n := 0) (Nat.le_of_ble_eq_true rfl) (Nat.le_of_ble_eq_true rfl) ?_
          have hm : mm D (AZ z) M H := hm
          refine lv_goto (tgt := 57) hx hb dX6_lookUp_53 (by decide) ?_
          refine lv_istore_n (lv' := [(3, .int (-1)), (5, .int ((path >>> (24 &&& 31)) &&& 15)), (4, .int 24), (0, .ref mo), (1, .int (-1)), (2, .int path)]) hx hb dX6_lookUp_57 rfl hl (by decide) rfl (fun ls hl => ?_)
          refine lv_iinc (v := 20) (lv' := [(4, .int 20), (3, .int (-1)), (5, .int ((path >>> (24 &&& 31)) &&& 15)), (0, .ref mo), (1, .int (-1)), (2, .int path)]) hx hb dX6_lookUp_58 hl (k := 2) rfl rfl (by decide) rfl (fun ls hl => ?_)
          refine lv_goto (tgt := 13) hx hb dX6_lookUp_61 (by decide) ?_
          refine lv_iload hx hb dX6_lookUp_13 (lv_at hl 0 rfl) ?_
          refine lv_if_lt (tgt := 64) hx hb dX6_lookUp_15 (by decide) (fun c41 => ?_) (fun c41 => ?_)
          · first | exact absurd c41 (by decide) | exact absurd (by decide) c41
          · refine lv_iload_n hx hb dX6_lookUp_18 rfl (lv_at hl 1 rfl) ?_
            refine lv_if_lt (tgt := 64) hx hb dX6_lookUp_19 (by decide) (fun c42 => ?_) (fun c42 => ?_)
            · refine lv_iload_n hx hb dX6_lookUp_64 rfl (lv_at hl 1 rfl) ?_
              refine W.iret (v := (-1)) hx hb hr (fun t ht hW => ⟨⟨some (.int (-1)), _, rfl, ?_, by rw [ht]; exact hm⟩, hS.F ht⟩) hS.2.2 dX6_lookUp_65
              exact ⟨Or.inr ⟨fun h9 => c3 (by subst h9; decide), rfl⟩, rfl⟩
            · first | exact absurd c42 (by decide) | exact absurd (by decide) c42

set_option maxHeartbeats 4000000 in
set_option maxRecDepth 100000 in
theorem c_X6_lookAtAll (l : Launch) (D : va_G) (k : Nat → ClassId) (z : Nat) (M : mM) (mo : Nat) (cd9 : Int32) (hF : mFr k M mo cd9) : mK l yX6_lookAtAll wsX6_lookAtAll ({ frames := 1, cells := 0, slots := 0, locals := 24 }) D k z [.ref mo, .int (-1), .int 0] M (fun v M' => v = none ∧ M' = M) := by
  refine Met.ofW (cc := cX6_lookAtAll) (maxL := 4) (ret := none) (by decide) rfl ?_
  intro p e s m args below meth c s₁ B hml hv
  obtain ⟨rfl, hz, hcx, hm⟩ := hv
  have hx := B.exec
  have hb := B.bytes
  have hr := B.returns
  have hts := atoms_spec (ws := wsX6_lookAtAll) B.pre
  have hown : s.vm.findClass RX6 = some m.cls := findClass_of_methodNamed B.named
  have hlocks := B.notSynchronized
  have hK := hcx.1
  have hS : va_S (AZ z) s.heap s.heap [] := va_S.rf
  have hA : ∀ q, s.heap.size ≤ q → AZ z q := fun q h => Nat.le_trans hz h
  have hl := lv_entry ([.ref mo, .int (-1), .int 0]) (n := 4) (Nat.le_of_ble_eq_true rfl)
  rw [lg_entry_eq]
  generalize (lg_sl ([.ref mo, .int (-1), .int 0]) ++ List.replicate (4 - (lg_sl ([.ref mo, .int (-1), .int 0])).length) Slot.unset).toArray = ls at hl ⊢
  have hl : lv_has ls 4 [(0, .ref mo), (1, .int (-1)), (2, .int 0)] := hl
  obtain ⟨cn, ia, dr, en, la, wo, op, mk, ir, se, ec, lc, wc, ol, al, hap, hM, hcn, hia, hdr, hen, hla, hwo, hop, hmk, hir⟩ := id hF
  have ne_mo_cn : mo ≠ cn := pw_ne hap 0 1 (by decide) (Nat.le_of_ble_eq_true rfl)
  have ne_cn_mo : cn ≠ mo := Ne.symm ne_mo_cn
  have ne_mo_ia : mo ≠ ia := pw_ne hap 0 2 (by decide) (Nat.le_of_ble_eq_true rfl)
  have ne_ia_mo : ia ≠ mo := Ne.symm ne_mo_ia
  have ne_mo_dr : mo ≠ dr := pw_ne hap 0 3 (by decide) (Nat.le_of_ble_eq_true rfl)
  have ne_dr_mo : dr ≠ mo := Ne.symm ne_mo_dr
  have ne_mo_en : mo ≠ en := pw_ne hap 0 4 (by decide) (Nat.le_of_ble_eq_true rfl)
  have ne_en_mo : en ≠ mo := Ne.symm ne_mo_en
  have ne_mo_la : mo ≠ la := pw_ne hap 0 5 (by decide) (Nat.le_of_ble_eq_true rfl)
  have ne_la_mo : la ≠ mo := Ne.symm ne_mo_la
  have ne_mo_wo : mo ≠ wo := pw_ne hap 0 6 (by decide) (Nat.le_of_ble_eq_true rfl)
  have ne_wo_mo : wo ≠ mo := Ne.symm ne_mo_wo
  have ne_mo_op : mo ≠ op := pw_ne hap 0 7 (by decide) (Nat.le_of_ble_eq_true rfl)
  have ne_op_mo : op ≠ mo := Ne.symm ne_mo_op
  have ne_mo_mk : mo ≠ mk := pw_ne hap 0 8 (by decide) (Nat.le_of_ble_eq_true rfl)
  have ne_mk_mo : mk ≠ mo := Ne.symm ne_mo_mk
  have ne_mo_ir : mo ≠ ir := pw_ne hap 0 9 (by decide) (Nat.le_of_ble_eq_true rfl)
  have ne_ir_mo : ir ≠ mo := Ne.symm ne_mo_ir
  refine lv_bipush (v := 15) hx hb dX6_lookAtAll_0 (by decide) ?_
  refine lv_istore_n (lv' := [(3, .int 15), (0, .ref mo), (1, .int (-1)), (2, .int 0)]) hx hb dX6_lookAtAll_2 rfl hl (by decide) rfl (fun ls hl => ?_)
  refine lv_iload_n hx hb dX6_lookAtAll_3 rfl (lv_at hl 0 rfl) ?_
  refine lv_bipush (v := 30) hx hb dX6_lookAtAll_4 (by decide) ?_
  refine lv_icmp_ge (tgt := 22) hx hb dX6_lookAtAll_6 (by decide) (fun c1 => ?_) (fun c1 => ?_)
  · first | exact absurd c1 (by decide) | exact absurd (by decide) c1
  · refine lv_aload_n hx hb dX6_lookAtAll_9 rfl (lv_at hl 1 rfl) ?_
    refine lv_iload_n hx hb dX6_lookAtAll_10 rfl (lv_at hl 2 rfl) ?_
    refine lv_iload_n hx hb dX6_lookAtAll_11 rfl (lv_at hl 3 rfl) ?_
    refine lv_iload_n hx hb dX6_lookAtAll_12 rfl (lv_at hl 0 rfl) ?_
    refine m_kV (As := [.int (-1), .int 0, .int 15]) (rest := []) (rm := { frames := 0, cells := 0, slots := 0, locals := 0 }) ⟨hx, hb, hml, hown, hts⟩ (c_X6_lookAt l D k z _ mo 0 15) (cwV 3 hts gX6_lookAtAll_X6_lookAt rfl rfl rfl (by decide +kernel) ⟨Nat.le_of_ble_eq_true rfl, Nat.le_of_ble_eq_true rfl⟩) (m_recv hK hm (q := (RX6, TX6, 24)) rfl hM) hz hcx hm hS rfl hl.1 rfl (Nat.le_of_ble_eq_true rfl) dX6_lookAtAll_13 ⟨Nat.le_of_ble_eq_true rfl, Nat.le_of_ble_eq_true rfl⟩ (fun v M1 H locs hv hm hS => ?_)
    obtain ⟨hv1, hM1⟩ := hv
    subst hv1
    rw [hM1] at hm
    refine W.eq (g2 := F0 m 16 ls []) rfl ?_
    refine W.widen (k := 0) (n := 0) (Nat.le_of_ble_eq_true rfl) (Nat.le_of_ble_eq_true rfl) ?_
    have hm : mm D (AZ z) M H := hm
    refine lv_iinc (v := 16) (lv' := [(3, .int 16), (0, .ref mo), (1, .int (-1)), (2, .int 0)]) hx hb dX6_lookAtAll_16 hl (k := 0) rfl rfl (by decide) rfl (fun ls hl => ?_)
    refine lv_goto (tgt := 3) hx hb dX6_lookAtAll_19 (by decide) ?_
    refine lv_iload_n hx hb dX6_lookAtAll_3 rfl (lv_at hl 0 rfl) ?_
    refine lv_bipush (v := 30) hx hb dX6_lookAtAll_4 (by decide) ?_
    refine lv_icmp_ge (tgt := 22) hx hb dX6_lookAtAll_6 (by decide) (fun c2 => ?_) (fun c2 => ?_)
    · first | exact absurd c2 (by decide) | exact absurd (by decide) c2
    · refine lv_aload_n hx hb dX6_lookAtAll_9 rfl (lv_at hl 1 rfl) ?_
      refine lv_iload_n hx hb dX6_lookAtAll_10 rfl (lv_at hl 2 rfl) ?_
      refine lv_iload_n hx hb dX6_lookAtAll_11 rfl (lv_at hl 3 rfl) ?_
      refine lv_iload_n hx hb dX6_lookAtAll_12 rfl (lv_at hl 0 rfl) ?_
      refine m_kV (As := [.int (-1), .int 0, .int 16]) (rest := []) (rm := { frames := 0, cells := 0, slots := 0, locals := 0 }) ⟨hx, hb, hml, hown, hts⟩ (c_X6_lookAt l D k z _ mo 0 16) (cwV 3 hts gX6_lookAtAll_X6_lookAt rfl rfl rfl (by decide +kernel) ⟨Nat.le_of_ble_eq_true rfl, Nat.le_of_ble_eq_true rfl⟩) (m_recv hK hm (q := (RX6, TX6, 24)) rfl hM) hz hcx hm hS rfl hl.1 rfl (Nat.le_of_ble_eq_true rfl) dX6_lookAtAll_13 ⟨Nat.le_of_ble_eq_true rfl, Nat.le_of_ble_eq_true rfl⟩ (fun v M1 H locs hv hm hS => ?_)
      obtain ⟨hv1, hM1⟩ := hv
      subst hv1
      rw [hM1] at hm
      refine W.eq (g2 := F0 m 16 ls []) rfl ?_
      refine W.widen (k := 0) (n := 0) (Nat.le_of_ble_eq_true rfl) (Nat.le_of_ble_eq_true rfl) ?_
      have hm : mm D (AZ z) M H := hm
      refine lv_iinc (v := 17) (lv' := [(3, .int 17), (0, .ref mo), (1, .int (-1)), (2, .int 0)]) hx hb dX6_lookAtAll_16 hl (k := 0) rfl rfl (by decide) rfl (fun ls hl => ?_)
      refine lv_goto (tgt := 3) hx hb dX6_lookAtAll_19 (by decide) ?_
      refine lv_iload_n hx hb dX6_lookAtAll_3 rfl (lv_at hl 0 rfl) ?_
      refine lv_bipush (v := 30) hx hb dX6_lookAtAll_4 (by decide) ?_
      refine lv_icmp_ge (tgt := 22) hx hb dX6_lookAtAll_6 (by decide) (fun c3 => ?_) (fun c3 => ?_)
      · first | exact absurd c3 (by decide) | exact absurd (by decide) c3
      · refine lv_aload_n hx hb dX6_lookAtAll_9 rfl (lv_at hl 1 rfl) ?_
        refine lv_iload_n hx hb dX6_lookAtAll_10 rfl (lv_at hl 2 rfl) ?_
        refine lv_iload_n hx hb dX6_lookAtAll_11 rfl (lv_at hl 3 rfl) ?_
        refine lv_iload_n hx hb dX6_lookAtAll_12 rfl (lv_at hl 0 rfl) ?_
        refine m_kV (As := [.int (-1), .int 0, .int 17]) (rest := []) (rm := { frames := 0, cells := 0, slots := 0, locals := 0 }) ⟨hx, hb, hml, hown, hts⟩ (c_X6_lookAt l D k z _ mo 0 17) (cwV 3 hts gX6_lookAtAll_X6_lookAt rfl rfl rfl (by decide +kernel) ⟨Nat.le_of_ble_eq_true rfl, Nat.le_of_ble_eq_true rfl⟩) (m_recv hK hm (q := (RX6, TX6, 24)) rfl hM) hz hcx hm hS rfl hl.1 rfl (Nat.le_of_ble_eq_true rfl) dX6_lookAtAll_13 ⟨Nat.le_of_ble_eq_true rfl, Nat.le_of_ble_eq_true rfl⟩ (fun v M1 H locs hv hm hS => ?_)
        obtain ⟨hv1, hM1⟩ := hv
        subst hv1
        rw [hM1] at hm
        refine W.eq (g2 := F0 m 16 ls []) rfl ?_
        refine W.widen (k := 0) (n := 0) (Nat.le_of_ble_eq_true rfl) (Nat.le_of_ble_eq_true rfl) ?_
        have hm : mm D (AZ z) M H := hm
        refine lv_iinc (v := 18) (lv' := [(3, .int 18), (0, .ref mo), (1, .int (-1)), (2, .int 0)]) hx hb dX6_lookAtAll_16 hl (k := 0) rfl rfl (by decide) rfl (fun ls hl => ?_)
        refine lv_goto (tgt := 3) hx hb dX6_lookAtAll_19 (by decide) ?_
        refine lv_iload_n hx hb dX6_lookAtAll_3 rfl (lv_at hl 0 rfl) ?_
        refine lv_bipush (v := 30) hx hb dX6_lookAtAll_4 (by decide) ?_
        refine lv_icmp_ge (tgt := 22) hx hb dX6_lookAtAll_6 (by decide) (fun c4 => ?_) (fun c4 => ?_)
        · first | exact absurd c4 (by decide) | exact absurd (by decide) c4
        · refine lv_aload_n hx hb dX6_lookAtAll_9 rfl (lv_at hl 1 rfl) ?_
          refine lv_iload_n hx hb dX6_lookAtAll_10 rfl (lv_at hl 2 rfl) ?_
          refine lv_iload_n hx hb dX6_lookAtAll_11 rfl (lv_at hl 3 rfl) ?_
          refine lv_iload_n hx hb dX6_lookAtAll_12 rfl (lv_at hl 0 rfl) ?_
          refine m_kV (As := [.int (-1), .int 0, .int 18]) (rest := []) (rm := { frames := 0, cells := 0, slots := 0, locals := 0 }) ⟨hx, hb, hml, hown, hts⟩ (c_X6_lookAt l D k z _ mo 0 18) (cwV 3 hts gX6_lookAtAll_X6_lookAt rfl rfl rfl (by decide +kernel) ⟨Nat.le_of_ble_eq_true rfl, Nat.le_of_ble_eq_true rfl⟩) (m_recv hK hm (q := (RX6, TX6, 24)) rfl hM) hz hcx hm hS rfl hl.1 rfl (Nat.le_of_ble_eq_true rfl) dX6_lookAtAll_13 ⟨Nat.le_of_ble_eq_true rfl, Nat.le_of_ble_eq_true rfl⟩ (fun v M1 H locs hv hm hS => ?_)
          obtain ⟨hv1, hM1⟩ := hv
          subst hv1
          rw [hM1] at hm
          refine W.eq (g2 := F0 m 16 ls []) rfl ?_
          refine W.widen (k := 0) (n := 0) (Nat.le_of_ble_eq_true rfl) (Nat.le_of_ble_eq_true rfl) ?_
          have hm : mm D (AZ z) M H := hm
          refine lv_iinc (v := 19) (lv' := [(3, .int 19), (0, .ref mo), (1, .int (-1)), (2, .int 0)]) hx hb dX6_lookAtAll_16 hl (k := 0) rfl rfl (by decide) rfl (fun ls hl => ?_)
          refine lv_goto (tgt := 3) hx hb dX6_lookAtAll_19 (by decide) ?_
          refine lv_iload_n hx hb dX6_lookAtAll_3 rfl (lv_at hl 0 rfl) ?_
          refine lv_bipush (v := 30) hx hb dX6_lookAtAll_4 (by decide) ?_
          refine lv_icmp_ge (tgt := 22) hx hb dX6_lookAtAll_6 (by decide) (fun c5 => ?_) (fun c5 => ?_)
          · first | exact absurd c5 (by decide) | exact absurd (by decide) c5
          · refine lv_aload_n hx hb dX6_lookAtAll_9 rfl (lv_at hl 1 rfl) ?_
            refine lv_iload_n hx hb dX6_lookAtAll_10 rfl (lv_at hl 2 rfl) ?_
            refine lv_iload_n hx hb dX6_lookAtAll_11 rfl (lv_at hl 3 rfl) ?_
            refine lv_iload_n hx hb dX6_lookAtAll_12 rfl (lv_at hl 0 rfl) ?_
            refine m_kV (As := [.int (-1), .int 0, .int 19]) (rest := []) (rm := { frames := 0, cells := 0, slots := 0, locals := 0 }) ⟨hx, hb, hml, hown, hts⟩ (c_X6_lookAt l D k z _ mo 0 19) (cwV 3 hts gX6_lookAtAll_X6_lookAt rfl rfl rfl (by decide +kernel) ⟨Nat.le_of_ble_eq_true rfl, Nat.le_of_ble_eq_true rfl⟩) (m_recv hK hm (q := (RX6, TX6, 24)) rfl hM) hz hcx hm hS rfl hl.1 rfl (Nat.le_of_ble_eq_true rfl) dX6_lookAtAll_13 ⟨Nat.le_of_ble_eq_true rfl, Nat.le_of_ble_eq_true rfl⟩ (fun v M1 H locs hv hm hS => ?_)
            obtain ⟨hv1, hM1⟩ := hv
            subst hv1
            rw [hM1] at hm
            refine W.eq (g2 := F0 m 16 ls []) rfl ?_
            refine W.widen (k := 0) (n := 0) (Nat.le_of_ble_eq_true rfl) (Nat.le_of_ble_eq_true rfl) ?_
            have hm : mm D (AZ z) M H := hm
            refine lv_iinc (v := 20) (lv' := [(3, .int 20), (0, .ref mo), (1, .int (-1)), (2, .int 0)]) hx hb dX6_lookAtAll_16 hl (k := 0) rfl rfl (by decide) rfl (fun ls hl => ?_)
            refine lv_goto (tgt := 3) hx hb dX6_lookAtAll_19 (by decide) ?_
            refine lv_iload_n hx hb dX6_lookAtAll_3 rfl (lv_at hl 0 rfl) ?_
            refine lv_bipush (v := 30) hx hb dX6_lookAtAll_4 (by decide) ?_
            refine lv_icmp_ge (tgt := 22) hx hb dX6_lookAtAll_6 (by decide) (fun c6 => ?_) (fun c6 => ?_)
            · first | exact absurd c6 (by decide) | exact absurd (by decide) c6
            · refine lv_aload_n hx hb dX6_lookAtAll_9 rfl (lv_at hl 1 rfl) ?_
              refine lv_iload_n hx hb dX6_lookAtAll_10 rfl (lv_at hl 2 rfl) ?_
              refine lv_iload_n hx hb dX6_lookAtAll_11 rfl (lv_at hl 3 rfl) ?_
              refine lv_iload_n hx hb dX6_lookAtAll_12 rfl (lv_at hl 0 rfl) ?_
              refine m_kV (As := [.int (-1), .int 0, .int 20]) (rest := []) (rm := { frames := 0, cells := 0, slots := 0, locals := 0 }) ⟨hx, hb, hml, hown, hts⟩ (c_X6_lookAt l D k z _ mo 0 20) (cwV 3 hts gX6_lookAtAll_X6_lookAt rfl rfl rfl (by decide +kernel) ⟨Nat.le_of_ble_eq_true rfl, Nat.le_of_ble_eq_true rfl⟩) (m_recv hK hm (q := (RX6, TX6, 24)) rfl hM) hz hcx hm hS rfl hl.1 rfl (Nat.le_of_ble_eq_true rfl) dX6_lookAtAll_13 ⟨Nat.le_of_ble_eq_true rfl, Nat.le_of_ble_eq_true rfl⟩ (fun v M1 H locs hv hm hS => ?_)
              obtain ⟨hv1, hM1⟩ := hv
              subst hv1
              rw [hM1] at hm
              refine W.eq (g2 := F0 m 16 ls []) rfl ?_
              refine W.widen (k := 0) (n := 0) (Nat.le_of_ble_eq_true rfl) (Nat.le_of_ble_eq_true rfl) ?_
              have hm : mm D (AZ z) M H := hm
              refine lv_iinc (v := 21) (lv' := [(3, .int 21), (0, .ref mo), (1, .int (-1)), (2, .int 0)]) hx hb dX6_lookAtAll_16 hl (k := 0) rfl rfl (by decide) rfl (fun ls hl => ?_)
              refine lv_goto (tgt := 3) hx hb dX6_lookAtAll_19 (by decide) ?_
              refine lv_iload_n hx hb dX6_lookAtAll_3 rfl (lv_at hl 0 rfl) ?_
              refine lv_bipush (v := 30) hx hb dX6_lookAtAll_4 (by decide) ?_
              refine lv_icmp_ge (tgt := 22) hx hb dX6_lookAtAll_6 (by decide) (fun c7 => ?_) (fun c7 => ?_)
              · first | exact absurd c7 (by decide) | exact absurd (by decide) c7
              · refine lv_aload_n hx hb dX6_lookAtAll_9 rfl (lv_at hl 1 rfl) ?_
                refine lv_iload_n hx hb dX6_lookAtAll_10 rfl (lv_at hl 2 rfl) ?_
                refine lv_iload_n hx hb dX6_lookAtAll_11 rfl (lv_at hl 3 rfl) ?_
                refine lv_iload_n hx hb dX6_lookAtAll_12 rfl (lv_at hl 0 rfl) ?_
                refine m_kV (As := [.int (-1), .int 0, .int 21]) (rest := []) (rm := { frames := 0, cells := 0, slots := 0, locals := 0 }) ⟨hx, hb, hml, hown, hts⟩ (c_X6_lookAt l D k z _ mo 0 21) (cwV 3 hts gX6_lookAtAll_X6_lookAt rfl rfl rfl (by decide +kernel) ⟨Nat.le_of_ble_eq_true rfl, Nat.le_of_ble_eq_true rfl⟩) (m_recv hK hm (q := (RX6, TX6, 24)) rfl hM) hz hcx hm hS rfl hl.1 rfl (Nat.le_of_ble_eq_true rfl) dX6_lookAtAll_13 ⟨Nat.le_of_ble_eq_true rfl, Nat.le_of_ble_eq_true rfl⟩ (fun v M1 H locs hv hm hS => ?_)
                obtain ⟨hv1, hM1⟩ := hv
                subst hv1
                rw [hM1] at hm
                refine W.eq (g2 := F0 m 16 ls []) rfl ?_
                refine W.widen (k := 0) (n := 0) (Nat.le_of_ble_eq_true rfl) (Nat.le_of_ble_eq_true rfl) ?_
                have hm : mm D (AZ z) M H := hm
                refine lv_iinc (v := 22) (lv' := [(3, .int 22), (0, .ref mo), (1, .int (-1)), (2, .int 0)]) hx hb dX6_lookAtAll_16 hl (k := 0) rfl rfl (by decide) rfl (fun ls hl => ?_)
                refine lv_goto (tgt := 3) hx hb dX6_lookAtAll_19 (by decide) ?_
                refine lv_iload_n hx hb dX6_lookAtAll_3 rfl (lv_at hl 0 rfl) ?_
                refine lv_bipush (v := 30) hx hb dX6_lookAtAll_4 (by decide) ?_
                refine lv_icmp_ge (tgt := 22) hx hb dX6_lookAtAll_6 (by decide) (fun c8 => ?_) (fun c8 => ?_)
                · first | exact absurd c8 (by decide) | exact absurd (by decide) c8
                · refine lv_aload_n hx hb dX6_lookAtAll_9 rfl (lv_at hl 1 rfl) ?_
                  refine lv_iload_n hx hb dX6_lookAtAll_10 rfl (lv_at hl 2 rfl) ?_
                  refine lv_iload_n hx hb dX6_lookAtAll_11 rfl (lv_at hl 3 rfl) ?_
                  refine lv_iload_n hx hb dX6_lookAtAll_12 rfl (lv_at hl 0 rfl) ?_
                  refine m_kV (As := [.int (-1), .int 0, .int 22]) (rest := []) (rm := { frames := 0, cells := 0, slots := 0, locals := 0 }) ⟨hx, hb, hml, hown, hts⟩ (c_X6_lookAt l D k z _ mo 0 22) (cwV 3 hts gX6_lookAtAll_X6_lookAt rfl rfl rfl (by decide +kernel) ⟨Nat.le_of_ble_eq_true rfl, Nat.le_of_ble_eq_true rfl⟩) (m_recv hK hm (q := (RX6, TX6, 24)) rfl hM) hz hcx hm hS rfl hl.1 rfl (Nat.le_of_ble_eq_true rfl) dX6_lookAtAll_13 ⟨Nat.le_of_ble_eq_true rfl, Nat.le_of_ble_eq_true rfl⟩ (fun v M1 H locs hv hm hS => ?_)
                  obtain ⟨hv1, hM1⟩ := hv
                  subst hv1
                  rw [hM1] at hm
                  refine W.eq (g2 := F0 m 16 ls []) rfl ?_
                  refine W.widen (k := 0) (n := 0) (Nat.le_of_ble_eq_true rfl) (Nat.le_of_ble_eq_true rfl) ?_
                  have hm : mm D (AZ z) M H := hm
                  refine lv_iinc (v := 23) (lv' := [(3, .int 23), (0, .ref mo), (1, .int (-1)), (2, .int 0)]) hx hb dX6_lookAtAll_16 hl (k := 0) rfl rfl (by decide) rfl (fun ls hl => ?_)
                  refine lv_goto (tgt := 3) hx hb dX6_lookAtAll_19 (by decide) ?_
                  refine lv_iload_n hx hb dX6_lookAtAll_3 rfl (lv_at hl 0 rfl) ?_
                  refine lv_bipush (v := 30) hx hb dX6_lookAtAll_4 (by decide) ?_
                  refine lv_icmp_ge (tgt := 22) hx hb dX6_lookAtAll_6 (by decide) (fun c9 => ?_) (fun c9 => ?_)
                  · first | exact absurd c9 (by decide) | exact absurd (by decide) c9
                  · refine lv_aload_n hx hb dX6_lookAtAll_9 rfl (lv_at hl 1 rfl) ?_
                    refine lv_iload_n hx hb dX6_lookAtAll_10 rfl (lv_at hl 2 rfl) ?_
                    refine lv_iload_n hx hb dX6_lookAtAll_11 rfl (lv_at hl 3 rfl) ?_
                    refine lv_iload_n hx hb dX6_lookAtAll_12 rfl (lv_at hl 0 rfl) ?_
                    refine m_kV (As := [.int (-1), .int 0, .int 23]) (rest := []) (rm := { frames := 0, cells := 0, slots := 0, locals := 0 }) ⟨hx, hb, hml, hown, hts⟩ (c_X6_lookAt l D k z _ mo 0 23) (cwV 3 hts gX6_lookAtAll_X6_lookAt rfl rfl rfl (by decide +kernel) ⟨Nat.le_of_ble_eq_true rfl, Nat.le_of_ble_eq_true rfl⟩) (m_recv hK hm (q := (RX6, TX6, 24)) rfl hM) hz hcx hm hS rfl hl.1 rfl (Nat.le_of_ble_eq_true rfl) dX6_lookAtAll_13 ⟨Nat.le_of_ble_eq_true rfl, Nat.le_of_ble_eq_true rfl⟩ (fun v M1 H locs hv hm hS => ?_)
                    obtain ⟨hv1, hM1⟩ := hv
                    subst hv1
                    rw [hM1] at hm
                    refine W.eq (g2 := F0 m 16 ls []) rfl ?_
                    refine W.widen (k := 0) (n := 0) (Nat.le_of_ble_eq_true rfl) (Nat.le_of_ble_eq_true rfl) ?_
                    have hm : mm D (AZ z) M H := hm
                    refine lv_iinc (v := 24) (lv' := [(3, .int 24), (0, .ref mo), (1, .int (-1)), (2, .int 0)]) hx hb dX6_lookAtAll_16 hl (k := 0) rfl rfl (by decide) rfl (fun ls hl => ?_)
                    refine lv_goto (tgt := 3) hx hb dX6_lookAtAll_19 (by decide) ?_
                    refine lv_iload_n hx hb dX6_lookAtAll_3 rfl (lv_at hl 0 rfl) ?_
                    refine lv_bipush (v := 30) hx hb dX6_lookAtAll_4 (by decide) ?_
                    refine lv_icmp_ge (tgt := 22) hx hb dX6_lookAtAll_6 (by decide) (fun c10 => ?_) (fun c10 => ?_)
                    · first | exact absurd c10 (by decide) | exact absurd (by decide) c10
                    · refine lv_aload_n hx hb dX6_lookAtAll_9 rfl (lv_at hl 1 rfl) ?_
                      refine lv_iload_n hx hb dX6_lookAtAll_10 rfl (lv_at hl 2 rfl) ?_
                      refine lv_iload_n hx hb dX6_lookAtAll_11 rfl (lv_at hl 3 rfl) ?_
                      refine lv_iload_n hx hb dX6_lookAtAll_12 rfl (lv_at hl 0 rfl) ?_
                      refine m_kV (As := [.int (-1), .int 0, .int 24]) (rest := []) (rm := { frames := 0, cells := 0, slots := 0, locals := 0 }) ⟨hx, hb, hml, hown, hts⟩ (c_X6_lookAt l D k z _ mo 0 24) (cwV 3 hts gX6_lookAtAll_X6_lookAt rfl rfl rfl (by decide +kernel) ⟨Nat.le_of_ble_eq_true rfl, Nat.le_of_ble_eq_true rfl⟩) (m_recv hK hm (q := (RX6, TX6, 24)) rfl hM) hz hcx hm hS rfl hl.1 rfl (Nat.le_of_ble_eq_true rfl) dX6_lookAtAll_13 ⟨Nat.le_of_ble_eq_true rfl, Nat.le_of_ble_eq_true rfl⟩ (fun v M1 H locs hv hm hS => ?_)
                      obtain ⟨hv1, hM1⟩ := hv
                      subst hv1
                      rw [hM1] at hm
                      refine W.eq (g2 := F0 m 16 ls []) rfl ?_
                      refine W.widen (k := 0) (n := 0) (Nat.le_of_ble_eq_true rfl) (Nat.le_of_ble_eq_true rfl) ?_
                      have hm : mm D (AZ z) M H := hm
                      refine lv_iinc (v := 25) (lv' := [(3, .int 25), (0, .ref mo), (1, .int (-1)), (2, .int 0)]) hx hb dX6_lookAtAll_16 hl (k := 0) rfl rfl (by decide) rfl (fun ls hl => ?_)
                      refine lv_goto (tgt := 3) hx hb dX6_lookAtAll_19 (by decide) ?_
                      refine lv_iload_n hx hb dX6_lookAtAll_3 rfl (lv_at hl 0 rfl) ?_
                      refine lv_bipush (v := 30) hx hb dX6_lookAtAll_4 (by decide) ?_
                      refine lv_icmp_ge (tgt := 22) hx hb dX6_lookAtAll_6 (by decide) (fun c11 => ?_) (fun c11 => ?_)
                      · first | exact absurd c11 (by decide) | exact absurd (by decide) c11
                      · refine lv_aload_n hx hb dX6_lookAtAll_9 rfl (lv_at hl 1 rfl) ?_
                        refine lv_iload_n hx hb dX6_lookAtAll_10 rfl (lv_at hl 2 rfl) ?_
                        refine lv_iload_n hx hb dX6_lookAtAll_11 rfl (lv_at hl 3 rfl) ?_
                        refine lv_iload_n hx hb dX6_lookAtAll_12 rfl (lv_at hl 0 rfl) ?_
                        refine m_kV (As := [.int (-1), .int 0, .int 25]) (rest := []) (rm := { frames := 0, cells := 0, slots := 0, locals := 0 }) ⟨hx, hb, hml, hown, hts⟩ (c_X6_lookAt l D k z _ mo 0 25) (cwV 3 hts gX6_lookAtAll_X6_lookAt rfl rfl rfl (by decide +kernel) ⟨Nat.le_of_ble_eq_true rfl, Nat.le_of_ble_eq_true rfl⟩) (m_recv hK hm (q := (RX6, TX6, 24)) rfl hM) hz hcx hm hS rfl hl.1 rfl (Nat.le_of_ble_eq_true rfl) dX6_lookAtAll_13 ⟨Nat.le_of_ble_eq_true rfl, Nat.le_of_ble_eq_true rfl⟩ (fun v M1 H locs hv hm hS => ?_)
                        obtain ⟨hv1, hM1⟩ := hv
                        subst hv1
                        rw [hM1] at hm
                        refine W.eq (g2 := F0 m 16 ls []) rfl ?_
                        refine W.widen (k := 0) (n := 0) (Nat.le_of_ble_eq_true rfl) (Nat.le_of_ble_eq_true rfl) ?_
                        have hm : mm D (AZ z) M H := hm
                        refine lv_iinc (v := 26) (lv' := [(3, .int 26), (0, .ref mo), (1, .int (-1)), (2, .int 0)]) hx hb dX6_lookAtAll_16 hl (k := 0) rfl rfl (by decide) rfl (fun ls hl => ?_)
                        refine lv_goto (tgt := 3) hx hb dX6_lookAtAll_19 (by decide) ?_
                        refine lv_iload_n hx hb dX6_lookAtAll_3 rfl (lv_at hl 0 rfl) ?_
                        refine lv_bipush (v := 30) hx hb dX6_lookAtAll_4 (by decide) ?_
                        refine lv_icmp_ge (tgt := 22) hx hb dX6_lookAtAll_6 (by decide) (fun c12 => ?_) (fun c12 => ?_)
                        · first | exact absurd c12 (by decide) | exact absurd (by decide) c12
                        · refine lv_aload_n hx hb dX6_lookAtAll_9 rfl (lv_at hl 1 rfl) ?_
                          refine lv_iload_n hx hb dX6_lookAtAll_10 rfl (lv_at hl 2 rfl) ?_
                          refine lv_iload_n hx hb dX6_lookAtAll_11 rfl (lv_at hl 3 rfl) ?_
                          refine lv_iload_n hx hb dX6_lookAtAll_12 rfl (lv_at hl 0 rfl) ?_
                          refine m_kV (As := [.int (-1), .int 0, .int 26]) (rest := []) (rm := { frames := 0, cells := 0, slots := 0, locals := 0 }) ⟨hx, hb, hml, hown, hts⟩ (c_X6_lookAt l D k z _ mo 0 26) (cwV 3 hts gX6_lookAtAll_X6_lookAt rfl rfl rfl (by decide +kernel) ⟨Nat.le_of_ble_eq_true rfl, Nat.le_of_ble_eq_true rfl⟩) (m_recv hK hm (q := (RX6, TX6, 24)) rfl hM) hz hcx hm hS rfl hl.1 rfl (Nat.le_of_ble_eq_true rfl) dX6_lookAtAll_13 ⟨Nat.le_of_ble_eq_true rfl, Nat.le_of_ble_eq_true rfl⟩ (fun v M1 H locs hv hm hS => ?_)
                          obtain ⟨hv1, hM1⟩ := hv
                          subst hv1
                          rw [hM1] at hm
                          refine W.eq (g2 := F0 m 16 ls []) rfl ?_
                          refine W.widen (k := 0) (n := 0) (Nat.le_of_ble_eq_true rfl) (Nat.le_of_ble_eq_true rfl) ?_
                          have hm : mm D (AZ z) M H := hm
                          refine lv_iinc (v := 27) (lv' := [(3, .int 27), (0, .ref mo), (1, .int (-1)), (2, .int 0)]) hx hb dX6_lookAtAll_16 hl (k := 0) rfl rfl (by decide) rfl (fun ls hl => ?_)
                          refine lv_goto (tgt := 3) hx hb dX6_lookAtAll_19 (by decide) ?_
                          refine lv_iload_n hx hb dX6_lookAtAll_3 rfl (lv_at hl 0 rfl) ?_
                          refine lv_bipush (v := 30) hx hb dX6_lookAtAll_4 (by decide) ?_
                          refine lv_icmp_ge (tgt := 22) hx hb dX6_lookAtAll_6 (by decide) (fun c13 => ?_) (fun c13 => ?_)
                          · first | exact absurd c13 (by decide) | exact absurd (by decide) c13
                          · refine lv_aload_n hx hb dX6_lookAtAll_9 rfl (lv_at hl 1 rfl) ?_
                            refine lv_iload_n hx hb dX6_lookAtAll_10 rfl (lv_at hl 2 rfl) ?_
                            refine lv_iload_n hx hb dX6_lookAtAll_11 rfl (lv_at hl 3 rfl) ?_
                            refine lv_iload_n hx hb dX6_lookAtAll_12 rfl (lv_at hl 0 rfl) ?_
                            refine m_kV (As := [.int (-1), .int 0, .int 27]) (rest := []) (rm := { frames := 0, cells := 0, slots := 0, locals := 0 }) ⟨hx, hb, hml, hown, hts⟩ (c_X6_lookAt l D k z _ mo 0 27) (cwV 3 hts gX6_lookAtAll_X6_lookAt rfl rfl rfl (by decide +kernel) ⟨Nat.le_of_ble_eq_true rfl, Nat.le_of_ble_eq_true rfl⟩) (m_recv hK hm (q := (RX6, TX6, 24)) rfl hM) hz hcx hm hS rfl hl.1 rfl (Nat.le_of_ble_eq_true rfl) dX6_lookAtAll_13 ⟨Nat.le_of_ble_eq_true rfl, Nat.le_of_ble_eq_true rfl⟩ (fun v M1 H locs hv hm hS => ?_)
                            obtain ⟨hv1, hM1⟩ := hv
                            subst hv1
                            rw [hM1] at hm
                            refine W.eq (g2 := F0 m 16 ls []) rfl ?_
                            refine W.widen (k := 0) (n := 0) (Nat.le_of_ble_eq_true rfl) (Nat.le_of_ble_eq_true rfl) ?_
                            have hm : mm D (AZ z) M H := hm
                            refine lv_iinc (v := 28) (lv' := [(3, .int 28), (0, .ref mo), (1, .int (-1)), (2, .int 0)]) hx hb dX6_lookAtAll_16 hl (k := 0) rfl rfl (by decide) rfl (fun ls hl => ?_)
                            refine lv_goto (tgt := 3) hx hb dX6_lookAtAll_19 (by decide) ?_
                            refine lv_iload_n hx hb dX6_lookAtAll_3 rfl (lv_at hl 0 rfl) ?_
                            refine lv_bipush (v := 30) hx hb dX6_lookAtAll_4 (by decide) ?_
                            refine lv_icmp_ge (tgt := 22) hx hb dX6_lookAtAll_6 (by decide) (fun c14 => ?_) (fun c14 => ?_)
                            · first | exact absurd c14 (by decide) | exact absurd (by decide) c14
                            · refine lv_aload_n hx hb dX6_lookAtAll_9 rfl (lv_at hl 1 rfl) ?_
                              refine lv_iload_n hx hb dX6_lookAtAll_10 rfl (lv_at hl 2 rfl) ?_
                              refine lv_iload_n hx hb dX6_lookAtAll_11 rfl (lv_at hl 3 rfl) ?_
                              refine lv_iload_n hx hb dX6_lookAtAll_12 rfl (lv_at hl 0 rfl) ?_
                              refine m_kV (As := [.int (-1), .int 0, .int 28]) (rest := []) (rm := { frames := 0, cells := 0, slots := 0, locals := 0 }) ⟨hx, hb, hml, hown, hts⟩ (c_X6_lookAt l D k z _ mo 0 28) (cwV 3 hts gX6_lookAtAll_X6_lookAt rfl rfl rfl (by decide +kernel) ⟨Nat.le_of_ble_eq_true rfl, Nat.le_of_ble_eq_true rfl⟩) (m_recv hK hm (q := (RX6, TX6, 24)) rfl hM) hz hcx hm hS rfl hl.1 rfl (Nat.le_of_ble_eq_true rfl) dX6_lookAtAll_13 ⟨Nat.le_of_ble_eq_true rfl, Nat.le_of_ble_eq_true rfl⟩ (fun v M1 H locs hv hm hS => ?_)
                              obtain ⟨hv1, hM1⟩ := hv
                              subst hv1
                              rw [hM1] at hm
                              refine W.eq (g2 := F0 m 16 ls []) rfl ?_
                              refine W.widen (k := 0) (n := 0) (Nat.le_of_ble_eq_true rfl) (Nat.le_of_ble_eq_true rfl) ?_
                              have hm : mm D (AZ z) M H := hm
                              refine lv_iinc (v := 29) (lv' := [(3, .int 29), (0, .ref mo), (1, .int (-1)), (2, .int 0)]) hx hb dX6_lookAtAll_16 hl (k := 0) rfl rfl (by decide) rfl (fun ls hl => ?_)
                              refine lv_goto (tgt := 3) hx hb dX6_lookAtAll_19 (by decide) ?_
                              refine lv_iload_n hx hb dX6_lookAtAll_3 rfl (lv_at hl 0 rfl) ?_
                              refine lv_bipush (v := 30) hx hb dX6_lookAtAll_4 (by decide) ?_
                              refine lv_icmp_ge (tgt := 22) hx hb dX6_lookAtAll_6 (by decide) (fun c15 => ?_) (fun c15 => ?_)
                              · first | exact absurd c15 (by decide) | exact absurd (by decide) c15
                              · refine lv_aload_n hx hb dX6_lookAtAll_9 rfl (lv_at hl 1 rfl) ?_
                                refine lv_iload_n hx hb dX6_lookAtAll_10 rfl (lv_at hl 2 rfl) ?_
                                refine lv_iload_n hx hb dX6_lookAtAll_11 rfl (lv_at hl 3 rfl) ?_
                                refine lv_iload_n hx hb dX6_lookAtAll_12 rfl (lv_at hl 0 rfl) ?_
                                refine m_kV (As := [.int (-1), .int 0, .int 29]) (rest := []) (rm := { frames := 0, cells := 0, slots := 0, locals := 0 }) ⟨hx, hb, hml, hown, hts⟩ (c_X6_lookAt l D k z _ mo 0 29) (cwV 3 hts gX6_lookAtAll_X6_lookAt rfl rfl rfl (by decide +kernel) ⟨Nat.le_of_ble_eq_true rfl, Nat.le_of_ble_eq_true rfl⟩) (m_recv hK hm (q := (RX6, TX6, 24)) rfl hM) hz hcx hm hS rfl hl.1 rfl (Nat.le_of_ble_eq_true rfl) dX6_lookAtAll_13 ⟨Nat.le_of_ble_eq_true rfl, Nat.le_of_ble_eq_true rfl⟩ (fun v M1 H locs hv hm hS => ?_)
                                obtain ⟨hv1, hM1⟩ := hv
                                subst hv1
                                rw [hM1] at hm
                                refine W.eq (g2 := F0 m 16 ls []) rfl ?_
                                refine W.widen (k := 0) (n := 0) (Nat.le_of_ble_eq_true rfl) (Nat.le_of_ble_eq_true rfl) ?_
                                have hm : mm D (AZ z) M H := hm
                                refine lv_iinc (v := 30) (lv' := [(3, .int 30), (0, .ref mo), (1, .int (-1)), (2, .int 0)]) hx hb dX6_lookAtAll_16 hl (k := 0) rfl rfl (by decide) rfl (fun ls hl => ?_)
                                refine lv_goto (tgt := 3) hx hb dX6_lookAtAll_19 (by decide) ?_
                                refine lv_iload_n hx hb dX6_lookAtAll_3 rfl (lv_at hl 0 rfl) ?_
                                refine lv_bipush (v := 30) hx hb dX6_lookAtAll_4 (by decide) ?_
                                refine lv_icmp_ge (tgt := 22) hx hb dX6_lookAtAll_6 (by decide) (fun c16 => ?_) (fun c16 => ?_)
                                · refine W.vret hx hb hr (fun t ht hW => ⟨⟨none, _, rfl, ?_, by rw [ht]; exact hm⟩, hS.F ht⟩) hS.2.2 dX6_lookAtAll_22
                                  exact ⟨rfl, rfl⟩
                                · first | exact absurd c16 (by decide) | exact absurd (by decide) c16

set_option maxHeartbeats 4000000 in
set_option maxRecDepth 100000 in
theorem c_X6_namesOf (l : Launch) (D : va_G) (k : Nat → ClassId) (z : Nat) (M : mM) (mo : Nat) (cd9 : Int32) (hF : mFr k M mo cd9) : mK l yX6_namesOf wsX6_namesOf ({ frames := 0, cells := 0, slots := 0, locals := 0 }) D k z [.ref mo, .int 0] M (fun v M' => v = some (.int 0) ∧ M' = M) := by
  refine Met.ofW (cc := cX6_namesOf) (maxL := 4) (ret := (some .int)) (by decide) rfl ?_
  intro p e s m args below meth c s₁ B hml hv
  obtain ⟨rfl, hz, hcx, hm⟩ := hv
  have hx := B.exec
  have hb := B.bytes
  have hr := B.returns
  have hts := atoms_spec (ws := wsX6_namesOf) B.pre
  have hown : s.vm.findClass RX6 = some m.cls := findClass_of_methodNamed B.named
  have hlocks := B.notSynchronized
  have hK := hcx.1
  have hS : va_S (AZ z) s.heap s.heap [] := va_S.rf
  have hA : ∀ q, s.heap.size ≤ q → AZ z q := fun q h => Nat.le_trans hz h
  have hl := lv_entry ([.ref mo, .int 0]) (n := 4) (Nat.le_of_ble_eq_true rfl)
  rw [lg_entry_eq]
  generalize (lg_sl ([.ref mo, .int 0]) ++ List.replicate (4 - (lg_sl ([.ref mo, .int 0])).length) Slot.unset).toArray = ls at hl ⊢
  have hl : lv_has ls 4 [(0, .ref mo), (1, .int 0)] := hl
  have f21 := hts (.fieldLink RX6 21 "CommitTreeModel" "entries" "[I") (by decide +kernel)
  have wX6 : ∀ w ∈ wsX60, w ∈ wsX6_namesOf := by decide +kernel
  obtain ⟨cn, ia, dr, en, la, wo, op, mk, ir, se, ec, lc, wc, ol, al, hap, hM, hcn, hia, hdr, hen, hla, hwo, hop, hmk, hir⟩ := id hF
  have ne_mo_cn : mo ≠ cn := pw_ne hap 0 1 (by decide) (Nat.le_of_ble_eq_true rfl)
  have ne_cn_mo : cn ≠ mo := Ne.symm ne_mo_cn
  have ne_mo_ia : mo ≠ ia := pw_ne hap 0 2 (by decide) (Nat.le_of_ble_eq_true rfl)
  have ne_ia_mo : ia ≠ mo := Ne.symm ne_mo_ia
  have ne_mo_dr : mo ≠ dr := pw_ne hap 0 3 (by decide) (Nat.le_of_ble_eq_true rfl)
  have ne_dr_mo : dr ≠ mo := Ne.symm ne_mo_dr
  have ne_mo_en : mo ≠ en := pw_ne hap 0 4 (by decide) (Nat.le_of_ble_eq_true rfl)
  have ne_en_mo : en ≠ mo := Ne.symm ne_mo_en
  have ne_mo_la : mo ≠ la := pw_ne hap 0 5 (by decide) (Nat.le_of_ble_eq_true rfl)
  have ne_la_mo : la ≠ mo := Ne.symm ne_mo_la
  have ne_mo_wo : mo ≠ wo := pw_ne hap 0 6 (by decide) (Nat.le_of_ble_eq_true rfl)
  have ne_wo_mo : wo ≠ mo := Ne.symm ne_mo_wo
  have ne_mo_op : mo ≠ op := pw_ne hap 0 7 (by decide) (Nat.le_of_ble_eq_true rfl)
  have ne_op_mo : op ≠ mo := Ne.symm ne_mo_op
  have ne_mo_mk : mo ≠ mk := pw_ne hap 0 8 (by decide) (Nat.le_of_ble_eq_true rfl)
  have ne_mk_mo : mk ≠ mo := Ne.symm ne_mo_mk
  have ne_mo_ir : mo ≠ ir := pw_ne hap 0 9 (by decide) (Nat.le_of_ble_eq_true rfl)
  have ne_ir_mo : ir ≠ mo := Ne.symm ne_mo_ir
  refine lv_iconst (v := 0) hx hb dX6_namesOf_0 (by decide) ?_
  refine lv_istore_n (lv' := [(2, .int 0), (0, .ref mo), (1, .int 0)]) hx hb dX6_namesOf_1 rfl hl (by decide) rfl (fun ls hl => ?_)
  refine lv_iconst (v := 1) hx hb dX6_namesOf_2 (by decide) ?_
  refine lv_istore_n (lv' := [(3, .int 1), (2, .int 0), (0, .ref mo), (1, .int 0)]) hx hb dX6_namesOf_3 rfl hl (by decide) rfl (fun ls hl => ?_)
  refine lv_iload_n hx hb dX6_namesOf_4 rfl (lv_at hl 0 rfl) ?_
  refine lv_bipush (v := 16) hx hb dX6_namesOf_5 (by decide) ?_
  refine lv_icmp_ge (tgt := 40) hx hb dX6_namesOf_7 (by decide) (fun c1 => ?_) (fun c1 => ?_)
  · first | exact absurd c1 (by decide) | exact absurd (by decide) c1
  · refine lv_iload_n hx hb dX6_namesOf_10 rfl (lv_at hl 1 rfl) ?_
    refine lv_aload_n hx hb dX6_namesOf_11 rfl (lv_at hl 2 rfl) ?_
    refine m_get (T := TX6) (N := 24) (ci := 6) (v := .ref en) hx hb hts wX6 hown hK hm hM rfl 4 (by decide) f21 (fun _ h9 => h9) rfl dX6_namesOf_12 ?_
    refine lv_bipush (v := 16) hx hb dX6_namesOf_15 (by decide) ?_
    refine lv_iload_n hx hb dX6_namesOf_17 rfl (lv_at hl 3 rfl) ?_
    refine lv_imul hx hb dX6_namesOf_18 ?_
    refine W.eq (g2 := F0 m 19 ls [.int 0, .ref en, .int 0]) (by first | rfl | decide) ?_
    refine lv_iload_n hx hb dX6_namesOf_19 rfl (lv_at hl 0 rfl) ?_
    refine lv_iadd hx hb dX6_namesOf_20 ?_
    refine W.eq (g2 := F0 m 21 ls [.int 1, .ref en, .int 0]) (by first | rfl | decide) ?_
    refine m_iald hx hb hK hm 0 hen rfl (by unfold vp_in; decide) dX6_namesOf_21 ?_
    refine lv_if_le (tgt := 31) hx hb dX6_namesOf_22 (by decide) (fun c2 => ?_) (fun c2 => ?_)
    · refine lv_iconst (v := 0) hx hb dX6_namesOf_31 (by decide) ?_
      refine lv_ior hx hb dX6_namesOf_32 ?_
      refine W.eq (g2 := F0 m 33 ls [.int 0]) (by first | rfl | decide) ?_
      refine lv_istore_n (lv' := [(2, .int 0), (3, .int 1), (0, .ref mo), (1, .int 0)]) hx hb dX6_namesOf_33 rfl hl (by decide) rfl (fun ls hl => ?_)
      refine lv_iinc (v := 2) (lv' := [(3, .int 2), (2, .int 0), (0, .ref mo), (1, .int 0)]) hx hb dX6_namesOf_34 hl (k := 1) rfl rfl (by decide) rfl (fun ls hl => ?_)
      refine lv_goto (tgt := 4) hx hb dX6_namesOf_37 (by decide) ?_
      refine lv_iload_n hx hb dX6_namesOf_4 rfl (lv_at hl 0 rfl) ?_
      refine lv_bipush (v := 16) hx hb dX6_namesOf_5 (by decide) ?_
      refine lv_icmp_ge (tgt := 40) hx hb dX6_namesOf_7 (by decide) (fun c3 => ?_) (fun c3 => ?_)
      · first | exact absurd c3 (by decide) | exact absurd (by decide) c3
      · refine lv_iload_n hx hb dX6_namesOf_10 rfl (lv_at hl 1 rfl) ?_
        refine lv_aload_n hx hb dX6_namesOf_11 rfl (lv_at hl 2 rfl) ?_
        refine m_get (T := TX6) (N := 24) (ci := 6) (v := .ref en) hx hb hts wX6 hown hK hm hM rfl 4 (by decide) f21 (fun _ h9 => h9) rfl dX6_namesOf_12 ?_
        refine lv_bipush (v := 16) hx hb dX6_namesOf_15 (by decide) ?_
        refine lv_iload_n hx hb dX6_namesOf_17 rfl (lv_at hl 3 rfl) ?_
        refine lv_imul hx hb dX6_namesOf_18 ?_
        refine W.eq (g2 := F0 m 19 ls [.int 0, .ref en, .int 0]) (by first | rfl | decide) ?_
        refine lv_iload_n hx hb dX6_namesOf_19 rfl (lv_at hl 0 rfl) ?_
        refine lv_iadd hx hb dX6_namesOf_20 ?_
        refine W.eq (g2 := F0 m 21 ls [.int 2, .ref en, .int 0]) (by first | rfl | decide) ?_
        refine m_iald hx hb hK hm 0 hen rfl (by unfold vp_in; decide) dX6_namesOf_21 ?_
        refine lv_if_le (tgt := 31) hx hb dX6_namesOf_22 (by decide) (fun c4 => ?_) (fun c4 => ?_)
        · refine lv_iconst (v := 0) hx hb dX6_namesOf_31 (by decide) ?_
          refine lv_ior hx hb dX6_namesOf_32 ?_
          refine W.eq (g2 := F0 m 33 ls [.int 0]) (by first | rfl | decide) ?_
          refine lv_istore_n (lv' := [(2, .int 0), (3, .int 2), (0, .ref mo), (1, .int 0)]) hx hb dX6_namesOf_33 rfl hl (by decide) rfl (fun ls hl => ?_)
          refine lv_iinc (v := 3) (lv' := [(3, .int 3), (2, .int 0), (0, .ref mo), (1, .int 0)]) hx hb dX6_namesOf_34 hl (k := 1) rfl rfl (by decide) rfl (fun ls hl => ?_)
          refine lv_goto (tgt := 4) hx hb dX6_namesOf_37 (by decide) ?_
          refine lv_iload_n hx hb dX6_namesOf_4 rfl (lv_at hl 0 rfl) ?_
          refine lv_bipush (v := 16) hx hb dX6_namesOf_5 (by decide) ?_
          refine lv_icmp_ge (tgt := 40) hx hb dX6_namesOf_7 (by decide) (fun c5 => ?_) (fun c5 => ?_)
          · first | exact absurd c5 (by decide) | exact absurd (by decide) c5
          · refine lv_iload_n hx hb dX6_namesOf_10 rfl (lv_at hl 1 rfl) ?_
            refine lv_aload_n hx hb dX6_namesOf_11 rfl (lv_at hl 2 rfl) ?_
            refine m_get (T := TX6) (N := 24) (ci := 6) (v := .ref en) hx hb hts wX6 hown hK hm hM rfl 4 (by decide) f21 (fun _ h9 => h9) rfl dX6_namesOf_12 ?_
            refine lv_bipush (v := 16) hx hb dX6_namesOf_15 (by decide) ?_
            refine lv_iload_n hx hb dX6_namesOf_17 rfl (lv_at hl 3 rfl) ?_
            refine lv_imul hx hb dX6_namesOf_18 ?_
            refine W.eq (g2 := F0 m 19 ls [.int 0, .ref en, .int 0]) (by first | rfl | decide) ?_
            refine lv_iload_n hx hb dX6_namesOf_19 rfl (lv_at hl 0 rfl) ?_
            refine lv_iadd hx hb dX6_namesOf_20 ?_
            refine W.eq (g2 := F0 m 21 ls [.int 3, .ref en, .int 0]) (by first | rfl | decide) ?_
            refine m_iald hx hb hK hm 0 hen rfl (by unfold vp_in; decide) dX6_namesOf_21 ?_
            refine lv_if_le (tgt := 31) hx hb dX6_namesOf_22 (by decide) (fun c6 => ?_) (fun c6 => ?_)
            · refine lv_iconst (v := 0) hx hb dX6_namesOf_31 (by decide) ?_
              refine lv_ior hx hb dX6_namesOf_32 ?_
              refine W.eq (g2 := F0 m 33 ls [.int 0]) (by first | rfl | decide) ?_
              refine lv_istore_n (lv' := [(2, .int 0), (3, .int 3), (0, .ref mo), (1, .int 0)]) hx hb dX6_namesOf_33 rfl hl (by decide) rfl (fun ls hl => ?_)
              refine lv_iinc (v := 4) (lv' := [(3, .int 4), (2, .int 0), (0, .ref mo), (1, .int 0)]) hx hb dX6_namesOf_34 hl (k := 1) rfl rfl (by decide) rfl (fun ls hl => ?_)
              refine lv_goto (tgt := 4) hx hb dX6_namesOf_37 (by decide) ?_
              refine lv_iload_n hx hb dX6_namesOf_4 rfl (lv_at hl 0 rfl) ?_
              refine lv_bipush (v := 16) hx hb dX6_namesOf_5 (by decide) ?_
              refine lv_icmp_ge (tgt := 40) hx hb dX6_namesOf_7 (by decide) (fun c7 => ?_) (fun c7 => ?_)
              · first | exact absurd c7 (by decide) | exact absurd (by decide) c7
              · refine lv_iload_n hx hb dX6_namesOf_10 rfl (lv_at hl 1 rfl) ?_
                refine lv_aload_n hx hb dX6_namesOf_11 rfl (lv_at hl 2 rfl) ?_
                refine m_get (T := TX6) (N := 24) (ci := 6) (v := .ref en) hx hb hts wX6 hown hK hm hM rfl 4 (by decide) f21 (fun _ h9 => h9) rfl dX6_namesOf_12 ?_
                refine lv_bipush (v := 16) hx hb dX6_namesOf_15 (by decide) ?_
                refine lv_iload_n hx hb dX6_namesOf_17 rfl (lv_at hl 3 rfl) ?_
                refine lv_imul hx hb dX6_namesOf_18 ?_
                refine W.eq (g2 := F0 m 19 ls [.int 0, .ref en, .int 0]) (by first | rfl | decide) ?_
                refine lv_iload_n hx hb dX6_namesOf_19 rfl (lv_at hl 0 rfl) ?_
                refine lv_iadd hx hb dX6_namesOf_20 ?_
                refine W.eq (g2 := F0 m 21 ls [.int 4, .ref en, .int 0]) (by first | rfl | decide) ?_
                refine m_iald hx hb hK hm 0 hen rfl (by unfold vp_in; decide) dX6_namesOf_21 ?_
                refine lv_if_le (tgt := 31) hx hb dX6_namesOf_22 (by decide) (fun c8 => ?_) (fun c8 => ?_)
                · refine lv_iconst (v := 0) hx hb dX6_namesOf_31 (by decide) ?_
                  refine lv_ior hx hb dX6_namesOf_32 ?_
                  refine W.eq (g2 := F0 m 33 ls [.int 0]) (by first | rfl | decide) ?_
                  refine lv_istore_n (lv' := [(2, .int 0), (3, .int 4), (0, .ref mo), (1, .int 0)]) hx hb dX6_namesOf_33 rfl hl (by decide) rfl (fun ls hl => ?_)
                  refine lv_iinc (v := 5) (lv' := [(3, .int 5), (2, .int 0), (0, .ref mo), (1, .int 0)]) hx hb dX6_namesOf_34 hl (k := 1) rfl rfl (by decide) rfl (fun ls hl => ?_)
                  refine lv_goto (tgt := 4) hx hb dX6_namesOf_37 (by decide) ?_
                  refine lv_iload_n hx hb dX6_namesOf_4 rfl (lv_at hl 0 rfl) ?_
                  refine lv_bipush (v := 16) hx hb dX6_namesOf_5 (by decide) ?_
                  refine lv_icmp_ge (tgt := 40) hx hb dX6_namesOf_7 (by decide) (fun c9 => ?_) (fun c9 => ?_)
                  · first | exact absurd c9 (by decide) | exact absurd (by decide) c9
                  · refine lv_iload_n hx hb dX6_namesOf_10 rfl (lv_at hl 1 rfl) ?_
                    refine lv_aload_n hx hb dX6_namesOf_11 rfl (lv_at hl 2 rfl) ?_
                    refine m_get (T := TX6) (N := 24) (ci := 6) (v := .ref en) hx hb hts wX6 hown hK hm hM rfl 4 (by decide) f21 (fun _ h9 => h9) rfl dX6_namesOf_12 ?_
                    refine lv_bipush (v := 16) hx hb dX6_namesOf_15 (by decide) ?_
                    refine lv_iload_n hx hb dX6_namesOf_17 rfl (lv_at hl 3 rfl) ?_
                    refine lv_imul hx hb dX6_namesOf_18 ?_
                    refine W.eq (g2 := F0 m 19 ls [.int 0, .ref en, .int 0]) (by first | rfl | decide) ?_
                    refine lv_iload_n hx hb dX6_namesOf_19 rfl (lv_at hl 0 rfl) ?_
                    refine lv_iadd hx hb dX6_namesOf_20 ?_
                    refine W.eq (g2 := F0 m 21 ls [.int 5, .ref en, .int 0]) (by first | rfl | decide) ?_
                    refine m_iald hx hb hK hm 0 hen rfl (by unfold vp_in; decide) dX6_namesOf_21 ?_
                    refine lv_if_le (tgt := 31) hx hb dX6_namesOf_22 (by decide) (fun c10 => ?_) (fun c10 => ?_)
                    · refine lv_iconst (v := 0) hx hb dX6_namesOf_31 (by decide) ?_
                      refine lv_ior hx hb dX6_namesOf_32 ?_
                      refine W.eq (g2 := F0 m 33 ls [.int 0]) (by first | rfl | decide) ?_
                      refine lv_istore_n (lv' := [(2, .int 0), (3, .int 5), (0, .ref mo), (1, .int 0)]) hx hb dX6_namesOf_33 rfl hl (by decide) rfl (fun ls hl => ?_)
                      refine lv_iinc (v := 6) (lv' := [(3, .int 6), (2, .int 0), (0, .ref mo), (1, .int 0)]) hx hb dX6_namesOf_34 hl (k := 1) rfl rfl (by decide) rfl (fun ls hl => ?_)
                      refine lv_goto (tgt := 4) hx hb dX6_namesOf_37 (by decide) ?_
                      refine lv_iload_n hx hb dX6_namesOf_4 rfl (lv_at hl 0 rfl) ?_
                      refine lv_bipush (v := 16) hx hb dX6_namesOf_5 (by decide) ?_
                      refine lv_icmp_ge (tgt := 40) hx hb dX6_namesOf_7 (by decide) (fun c11 => ?_) (fun c11 => ?_)
                      · first | exact absurd c11 (by decide) | exact absurd (by decide) c11
                      · refine lv_iload_n hx hb dX6_namesOf_10 rfl (lv_at hl 1 rfl) ?_
                        refine lv_aload_n hx hb dX6_namesOf_11 rfl (lv_at hl 2 rfl) ?_
                        refine m_get (T := TX6) (N := 24) (ci := 6) (v := .ref en) hx hb hts wX6 hown hK hm hM rfl 4 (by decide) f21 (fun _ h9 => h9) rfl dX6_namesOf_12 ?_
                        refine lv_bipush (v := 16) hx hb dX6_namesOf_15 (by decide) ?_
                        refine lv_iload_n hx hb dX6_namesOf_17 rfl (lv_at hl 3 rfl) ?_
                        refine lv_imul hx hb dX6_namesOf_18 ?_
                        refine W.eq (g2 := F0 m 19 ls [.int 0, .ref en, .int 0]) (by first | rfl | decide) ?_
                        refine lv_iload_n hx hb dX6_namesOf_19 rfl (lv_at hl 0 rfl) ?_
                        refine lv_iadd hx hb dX6_namesOf_20 ?_
                        refine W.eq (g2 := F0 m 21 ls [.int 6, .ref en, .int 0]) (by first | rfl | decide) ?_
                        refine m_iald hx hb hK hm 0 hen rfl (by unfold vp_in; decide) dX6_namesOf_21 ?_
                        refine lv_if_le (tgt := 31) hx hb dX6_namesOf_22 (by decide) (fun c12 => ?_) (fun c12 => ?_)
                        · refine lv_iconst (v := 0) hx hb dX6_namesOf_31 (by decide) ?_
                          refine lv_ior hx hb dX6_namesOf_32 ?_
                          refine W.eq (g2 := F0 m 33 ls [.int 0]) (by first | rfl | decide) ?_
                          refine lv_istore_n (lv' := [(2, .int 0), (3, .int 6), (0, .ref mo), (1, .int 0)]) hx hb dX6_namesOf_33 rfl hl (by decide) rfl (fun ls hl => ?_)
                          refine lv_iinc (v := 7) (lv' := [(3, .int 7), (2, .int 0), (0, .ref mo), (1, .int 0)]) hx hb dX6_namesOf_34 hl (k := 1) rfl rfl (by decide) rfl (fun ls hl => ?_)
                          refine lv_goto (tgt := 4) hx hb dX6_namesOf_37 (by decide) ?_
                          refine lv_iload_n hx hb dX6_namesOf_4 rfl (lv_at hl 0 rfl) ?_
                          refine lv_bipush (v := 16) hx hb dX6_namesOf_5 (by decide) ?_
                          refine lv_icmp_ge (tgt := 40) hx hb dX6_namesOf_7 (by decide) (fun c13 => ?_) (fun c13 => ?_)
                          · first | exact absurd c13 (by decide) | exact absurd (by decide) c13
                          · refine lv_iload_n hx hb dX6_namesOf_10 rfl (lv_at hl 1 rfl) ?_
                            refine lv_aload_n hx hb dX6_namesOf_11 rfl (lv_at hl 2 rfl) ?_
                            refine m_get (T := TX6) (N := 24) (ci := 6) (v := .ref en) hx hb hts wX6 hown hK hm hM rfl 4 (by decide) f21 (fun _ h9 => h9) rfl dX6_namesOf_12 ?_
                            refine lv_bipush (v := 16) hx hb dX6_namesOf_15 (by decide) ?_
                            refine lv_iload_n hx hb dX6_namesOf_17 rfl (lv_at hl 3 rfl) ?_
                            refine lv_imul hx hb dX6_namesOf_18 ?_
                            refine W.eq (g2 := F0 m 19 ls [.int 0, .ref en, .int 0]) (by first | rfl | decide) ?_
                            refine lv_iload_n hx hb dX6_namesOf_19 rfl (lv_at hl 0 rfl) ?_
                            refine lv_iadd hx hb dX6_namesOf_20 ?_
                            refine W.eq (g2 := F0 m 21 ls [.int 7, .ref en, .int 0]) (by first | rfl | decide) ?_
                            refine m_iald hx hb hK hm 0 hen rfl (by unfold vp_in; decide) dX6_namesOf_21 ?_
                            refine lv_if_le (tgt := 31) hx hb dX6_namesOf_22 (by decide) (fun c14 => ?_) (fun c14 => ?_)
                            · refine lv_iconst (v := 0) hx hb dX6_namesOf_31 (by decide) ?_
                              refine lv_ior hx hb dX6_namesOf_32 ?_
                              refine W.eq (g2 := F0 m 33 ls [.int 0]) (by first | rfl | decide) ?_
                              refine lv_istore_n (lv' := [(2, .int 0), (3, .int 7), (0, .ref mo), (1, .int 0)]) hx hb dX6_namesOf_33 rfl hl (by decide) rfl (fun ls hl => ?_)
                              refine lv_iinc (v := 8) (lv' := [(3, .int 8), (2, .int 0), (0, .ref mo), (1, .int 0)]) hx hb dX6_namesOf_34 hl (k := 1) rfl rfl (by decide) rfl (fun ls hl => ?_)
                              refine lv_goto (tgt := 4) hx hb dX6_namesOf_37 (by decide) ?_
                              refine lv_iload_n hx hb dX6_namesOf_4 rfl (lv_at hl 0 rfl) ?_
                              refine lv_bipush (v := 16) hx hb dX6_namesOf_5 (by decide) ?_
                              refine lv_icmp_ge (tgt := 40) hx hb dX6_namesOf_7 (by decide) (fun c15 => ?_) (fun c15 => ?_)
                              · first | exact absurd c15 (by decide) | exact absurd (by decide) c15
                              · refine lv_iload_n hx hb dX6_namesOf_10 rfl (lv_at hl 1 rfl) ?_
                                refine lv_aload_n hx hb dX6_namesOf_11 rfl (lv_at hl 2 rfl) ?_
                                refine m_get (T := TX6) (N := 24) (ci := 6) (v := .ref en) hx hb hts wX6 hown hK hm hM rfl 4 (by decide) f21 (fun _ h9 => h9) rfl dX6_namesOf_12 ?_
                                refine lv_bipush (v := 16) hx hb dX6_namesOf_15 (by decide) ?_
                                refine lv_iload_n hx hb dX6_namesOf_17 rfl (lv_at hl 3 rfl) ?_
                                refine lv_imul hx hb dX6_namesOf_18 ?_
                                refine W.eq (g2 := F0 m 19 ls [.int 0, .ref en, .int 0]) (by first | rfl | decide) ?_
                                refine lv_iload_n hx hb dX6_namesOf_19 rfl (lv_at hl 0 rfl) ?_
                                refine lv_iadd hx hb dX6_namesOf_20 ?_
                                refine W.eq (g2 := F0 m 21 ls [.int 8, .ref en, .int 0]) (by first | rfl | decide) ?_
                                refine m_iald hx hb hK hm 0 hen rfl (by unfold vp_in; decide) dX6_namesOf_21 ?_
                                refine lv_if_le (tgt := 31) hx hb dX6_namesOf_22 (by decide) (fun c16 => ?_) (fun c16 => ?_)
                                · refine lv_iconst (v := 0) hx hb dX6_namesOf_31 (by decide) ?_
                                  refine lv_ior hx hb dX6_namesOf_32 ?_
                                  refine W.eq (g2 := F0 m 33 ls [.int 0]) (by first | rfl | decide) ?_
                                  refine lv_istore_n (lv' := [(2, .int 0), (3, .int 8), (0, .ref mo), (1, .int 0)]) hx hb dX6_namesOf_33 rfl hl (by decide) rfl (fun ls hl => ?_)
                                  refine lv_iinc (v := 9) (lv' := [(3, .int 9), (2, .int 0), (0, .ref mo), (1, .int 0)]) hx hb dX6_namesOf_34 hl (k := 1) rfl rfl (by decide) rfl (fun ls hl => ?_)
                                  refine lv_goto (tgt := 4) hx hb dX6_namesOf_37 (by decide) ?_
                                  refine lv_iload_n hx hb dX6_namesOf_4 rfl (lv_at hl 0 rfl) ?_
                                  refine lv_bipush (v := 16) hx hb dX6_namesOf_5 (by decide) ?_
                                  refine lv_icmp_ge (tgt := 40) hx hb dX6_namesOf_7 (by decide) (fun c17 => ?_) (fun c17 => ?_)
                                  · first | exact absurd c17 (by decide) | exact absurd (by decide) c17
                                  · refine lv_iload_n hx hb dX6_namesOf_10 rfl (lv_at hl 1 rfl) ?_
                                    refine lv_aload_n hx hb dX6_namesOf_11 rfl (lv_at hl 2 rfl) ?_
                                    refine m_get (T := TX6) (N := 24) (ci := 6) (v := .ref en) hx hb hts wX6 hown hK hm hM rfl 4 (by decide) f21 (fun _ h9 => h9) rfl dX6_namesOf_12 ?_
                                    refine lv_bipush (v := 16) hx hb dX6_namesOf_15 (by decide) ?_
                                    refine lv_iload_n hx hb dX6_namesOf_17 rfl (lv_at hl 3 rfl) ?_
                                    refine lv_imul hx hb dX6_namesOf_18 ?_
                                    refine W.eq (g2 := F0 m 19 ls [.int 0, .ref en, .int 0]) (by first | rfl | decide) ?_
                                    refine lv_iload_n hx hb dX6_namesOf_19 rfl (lv_at hl 0 rfl) ?_
                                    refine lv_iadd hx hb dX6_namesOf_20 ?_
                                    refine W.eq (g2 := F0 m 21 ls [.int 9, .ref en, .int 0]) (by first | rfl | decide) ?_
                                    refine m_iald hx hb hK hm 0 hen rfl (by unfold vp_in; decide) dX6_namesOf_21 ?_
                                    refine lv_if_le (tgt := 31) hx hb dX6_namesOf_22 (by decide) (fun c18 => ?_) (fun c18 => ?_)
                                    · refine lv_iconst (v := 0) hx hb dX6_namesOf_31 (by decide) ?_
                                      refine lv_ior hx hb dX6_namesOf_32 ?_
                                      refine W.eq (g2 := F0 m 33 ls [.int 0]) (by first | rfl | decide) ?_
                                      refine lv_istore_n (lv' := [(2, .int 0), (3, .int 9), (0, .ref mo), (1, .int 0)]) hx hb dX6_namesOf_33 rfl hl (by decide) rfl (fun ls hl => ?_)
                                      refine lv_iinc (v := 10) (lv' := [(3, .int 10), (2, .int 0), (0, .ref mo), (1, .int 0)]) hx hb dX6_namesOf_34 hl (k := 1) rfl rfl (by decide) rfl (fun ls hl => ?_)
                                      refine lv_goto (tgt := 4) hx hb dX6_namesOf_37 (by decide) ?_
                                      refine lv_iload_n hx hb dX6_namesOf_4 rfl (lv_at hl 0 rfl) ?_
                                      refine lv_bipush (v := 16) hx hb dX6_namesOf_5 (by decide) ?_
                                      refine lv_icmp_ge (tgt := 40) hx hb dX6_namesOf_7 (by decide) (fun c19 => ?_) (fun c19 => ?_)
                                      · first | exact absurd c19 (by decide) | exact absurd (by decide) c19
                                      · refine lv_iload_n hx hb dX6_namesOf_10 rfl (lv_at hl 1 rfl) ?_
                                        refine lv_aload_n hx hb dX6_namesOf_11 rfl (lv_at hl 2 rfl) ?_
                                        refine m_get (T := TX6) (N := 24) (ci := 6) (v := .ref en) hx hb hts wX6 hown hK hm hM rfl 4 (by decide) f21 (fun _ h9 => h9) rfl dX6_namesOf_12 ?_
                                        refine lv_bipush (v := 16) hx hb dX6_namesOf_15 (by decide) ?_
                                        refine lv_iload_n hx hb dX6_namesOf_17 rfl (lv_at hl 3 rfl) ?_
                                        refine lv_imul hx hb dX6_namesOf_18 ?_
                                        refine W.eq (g2 := F0 m 19 ls [.int 0, .ref en, .int 0]) (by first | rfl | decide) ?_
                                        refine lv_iload_n hx hb dX6_namesOf_19 rfl (lv_at hl 0 rfl) ?_
                                        refine lv_iadd hx hb dX6_namesOf_20 ?_
                                        refine W.eq (g2 := F0 m 21 ls [.int 10, .ref en, .int 0]) (by first | rfl | decide) ?_
                                        refine m_iald hx hb hK hm 0 hen rfl (by unfold vp_in; decide) dX6_namesOf_21 ?_
                                        refine lv_if_le (tgt := 31) hx hb dX6_namesOf_22 (by decide) (fun c20 => ?_) (fun c20 => ?_)
                                        · refine lv_iconst (v := 0) hx hb dX6_namesOf_31 (by decide) ?_
                                          refine lv_ior hx hb dX6_namesOf_32 ?_
                                          refine W.eq (g2 := F0 m 33 ls [.int 0]) (by first | rfl | decide) ?_
                                          refine lv_istore_n (lv' := [(2, .int 0), (3, .int 10), (0, .ref mo), (1, .int 0)]) hx hb dX6_namesOf_33 rfl hl (by decide) rfl (fun ls hl => ?_)
                                          refine lv_iinc (v := 11) (lv' := [(3, .int 11), (2, .int 0), (0, .ref mo), (1, .int 0)]) hx hb dX6_namesOf_34 hl (k := 1) rfl rfl (by decide) rfl (fun ls hl => ?_)
                                          refine lv_goto (tgt := 4) hx hb dX6_namesOf_37 (by decide) ?_
                                          refine lv_iload_n hx hb dX6_namesOf_4 rfl (lv_at hl 0 rfl) ?_
                                          refine lv_bipush (v := 16) hx hb dX6_namesOf_5 (by decide) ?_
                                          refine lv_icmp_ge (tgt := 40) hx hb dX6_namesOf_7 (by decide) (fun c21 => ?_) (fun c21 => ?_)
                                          · first | exact absurd c21 (by decide) | exact absurd (by decide) c21
                                          · refine lv_iload_n hx hb dX6_namesOf_10 rfl (lv_at hl 1 rfl) ?_
                                            refine lv_aload_n hx hb dX6_namesOf_11 rfl (lv_at hl 2 rfl) ?_
                                            refine m_get (T := TX6) (N := 24) (ci := 6) (v := .ref en) hx hb hts wX6 hown hK hm hM rfl 4 (by decide) f21 (fun _ h9 => h9) rfl dX6_namesOf_12 ?_
                                            refine lv_bipush (v := 16) hx hb dX6_namesOf_15 (by decide) ?_
                                            refine lv_iload_n hx hb dX6_namesOf_17 rfl (lv_at hl 3 rfl) ?_
                                            refine lv_imul hx hb dX6_namesOf_18 ?_
                                            refine W.eq (g2 := F0 m 19 ls [.int 0, .ref en, .int 0]) (by first | rfl | decide) ?_
                                            refine lv_iload_n hx hb dX6_namesOf_19 rfl (lv_at hl 0 rfl) ?_
                                            refine lv_iadd hx hb dX6_namesOf_20 ?_
                                            refine W.eq (g2 := F0 m 21 ls [.int 11, .ref en, .int 0]) (by first | rfl | decide) ?_
                                            refine m_iald hx hb hK hm 0 hen rfl (by unfold vp_in; decide) dX6_namesOf_21 ?_
                                            refine lv_if_le (tgt := 31) hx hb dX6_namesOf_22 (by decide) (fun c22 => ?_) (fun c22 => ?_)
                                            · refine lv_iconst (v := 0) hx hb dX6_namesOf_31 (by decide) ?_
                                              refine lv_ior hx hb dX6_namesOf_32 ?_
                                              refine W.eq (g2 := F0 m 33 ls [.int 0]) (by first | rfl | decide) ?_
                                              refine lv_istore_n (lv' := [(2, .int 0), (3, .int 11), (0, .ref mo), (1, .int 0)]) hx hb dX6_namesOf_33 rfl hl (by decide) rfl (fun ls hl => ?_)
                                              refine lv_iinc (v := 12) (lv' := [(3, .int 12), (2, .int 0), (0, .ref mo), (1, .int 0)]) hx hb dX6_namesOf_34 hl (k := 1) rfl rfl (by decide) rfl (fun ls hl => ?_)
                                              refine lv_goto (tgt := 4) hx hb dX6_namesOf_37 (by decide) ?_
                                              refine lv_iload_n hx hb dX6_namesOf_4 rfl (lv_at hl 0 rfl) ?_
                                              refine lv_bipush (v := 16) hx hb dX6_namesOf_5 (by decide) ?_
                                              refine lv_icmp_ge (tgt := 40) hx hb dX6_namesOf_7 (by decide) (fun c23 => ?_) (fun c23 => ?_)
                                              · first | exact absurd c23 (by decide) | exact absurd (by decide) c23
                                              · refine lv_iload_n hx hb dX6_namesOf_10 rfl (lv_at hl 1 rfl) ?_
                                                refine lv_aload_n hx hb dX6_namesOf_11 rfl (lv_at hl 2 rfl) ?_
                                                refine m_get (T := TX6) (N := 24) (ci := 6) (v := .ref en) hx hb hts wX6 hown hK hm hM rfl 4 (by decide) f21 (fun _ h9 => h9) rfl dX6_namesOf_12 ?_
                                                refine lv_bipush (v := 16) hx hb dX6_namesOf_15 (by decide) ?_
                                                refine lv_iload_n hx hb dX6_namesOf_17 rfl (lv_at hl 3 rfl) ?_
                                                refine lv_imul hx hb dX6_namesOf_18 ?_
                                                refine W.eq (g2 := F0 m 19 ls [.int 0, .ref en, .int 0]) (by first | rfl | decide) ?_
                                                refine lv_iload_n hx hb dX6_namesOf_19 rfl (lv_at hl 0 rfl) ?_
                                                refine lv_iadd hx hb dX6_namesOf_20 ?_
                                                refine W.eq (g2 := F0 m 21 ls [.int 12, .ref en, .int 0]) (by first | rfl | decide) ?_
                                                refine m_iald hx hb hK hm 0 hen rfl (by unfold vp_in; decide) dX6_namesOf_21 ?_
                                                refine lv_if_le (tgt := 31) hx hb dX6_namesOf_22 (by decide) (fun c24 => ?_) (fun c24 => ?_)
                                                · refine lv_iconst (v := 0) hx hb dX6_namesOf_31 (by decide) ?_
                                                  refine lv_ior hx hb dX6_namesOf_32 ?_
                                                  refine W.eq (g2 := F0 m 33 ls [.int 0]) (by first | rfl | decide) ?_
                                                  refine lv_istore_n (lv' := [(2, .int 0), (3, .int 12), (0, .ref mo), (1, .int 0)]) hx hb dX6_namesOf_33 rfl hl (by decide) rfl (fun ls hl => ?_)
                                                  refine lv_iinc (v := 13) (lv' := [(3, .int 13), (2, .int 0), (0, .ref mo), (1, .int 0)]) hx hb dX6_namesOf_34 hl (k := 1) rfl rfl (by decide) rfl (fun ls hl => ?_)
                                                  refine lv_goto (tgt := 4) hx hb dX6_namesOf_37 (by decide) ?_
                                                  refine lv_iload_n hx hb dX6_namesOf_4 rfl (lv_at hl 0 rfl) ?_
                                                  refine lv_bipush (v := 16) hx hb dX6_namesOf_5 (by decide) ?_
                                                  refine lv_icmp_ge (tgt := 40) hx hb dX6_namesOf_7 (by decide) (fun c25 => ?_) (fun c25 => ?_)
                                                  · first | exact absurd c25 (by decide) | exact absurd (by decide) c25
                                                  · refine lv_iload_n hx hb dX6_namesOf_10 rfl (lv_at hl 1 rfl) ?_
                                                    refine lv_aload_n hx hb dX6_namesOf_11 rfl (lv_at hl 2 rfl) ?_
                                                    refine m_get (T := TX6) (N := 24) (ci := 6) (v := .ref en) hx hb hts wX6 hown hK hm hM rfl 4 (by decide) f21 (fun _ h9 => h9) rfl dX6_namesOf_12 ?_
                                                    refine lv_bipush (v := 16) hx hb dX6_namesOf_15 (by decide) ?_
                                                    refine lv_iload_n hx hb dX6_namesOf_17 rfl (lv_at hl 3 rfl) ?_
                                                    refine lv_imul hx hb dX6_namesOf_18 ?_
                                                    refine W.eq (g2 := F0 m 19 ls [.int 0, .ref en, .int 0]) (by first | rfl | decide) ?_
                                                    refine lv_iload_n hx hb dX6_namesOf_19 rfl (lv_at hl 0 rfl) ?_
                                                    refine lv_iadd hx hb dX6_namesOf_20 ?_
                                                    refine W.eq (g2 := F0 m 21 ls [.int 13, .ref en, .int 0]) (by first | rfl | decide) ?_
                                                    refine m_iald hx hb hK hm 0 hen rfl (by unfold vp_in; decide) dX6_namesOf_21 ?_
                                                    refine lv_if_le (tgt := 31) hx hb dX6_namesOf_22 (by decide) (fun c26 => ?_) (fun c26 => ?_)
                                                    · refine lv_iconst (v := 0) hx hb dX6_namesOf_31 (by decide) ?_
                                                      refine lv_ior hx hb dX6_namesOf_32 ?_
                                                      refine W.eq (g2 := F0 m 33 ls [.int 0]) (by first | rfl | decide) ?_
                                                      refine lv_istore_n (lv' := [(2, .int 0), (3, .int 13), (0, .ref mo), (1, .int 0)]) hx hb dX6_namesOf_33 rfl hl (by decide) rfl (fun ls hl => ?_)
                                                      refine lv_iinc (v := 14) (lv' := [(3, .int 14), (2, .int 0), (0, .ref mo), (1, .int 0)]) hx hb dX6_namesOf_34 hl (k := 1) rfl rfl (by decide) rfl (fun ls hl => ?_)
                                                      refine lv_goto (tgt := 4) hx hb dX6_namesOf_37 (by decide) ?_
                                                      refine lv_iload_n hx hb dX6_namesOf_4 rfl (lv_at hl 0 rfl) ?_
                                                      refine lv_bipush (v := 16) hx hb dX6_namesOf_5 (by decide) ?_
                                                      refine lv_icmp_ge (tgt := 40) hx hb dX6_namesOf_7 (by decide) (fun c27 => ?_) (fun c27 => ?_)
                                                      · first | exact absurd c27 (by decide) | exact absurd (by decide) c27
                                                      · refine lv_iload_n hx hb dX6_namesOf_10 rfl (lv_at hl 1 rfl) ?_
                                                        refine lv_aload_n hx hb dX6_namesOf_11 rfl (lv_at hl 2 rfl) ?_
                                                        refine m_get (T := TX6) (N := 24) (ci := 6) (v := .ref en) hx hb hts wX6 hown hK hm hM rfl 4 (by decide) f21 (fun _ h9 => h9) rfl dX6_namesOf_12 ?_
                                                        refine lv_bipush (v := 16) hx hb dX6_namesOf_15 (by decide) ?_
                                                        refine lv_iload_n hx hb dX6_namesOf_17 rfl (lv_at hl 3 rfl) ?_
                                                        refine lv_imul hx hb dX6_namesOf_18 ?_
                                                        refine W.eq (g2 := F0 m 19 ls [.int 0, .ref en, .int 0]) (by first | rfl | decide) ?_
                                                        refine lv_iload_n hx hb dX6_namesOf_19 rfl (lv_at hl 0 rfl) ?_
                                                        refine lv_iadd hx hb dX6_namesOf_20 ?_
                                                        refine W.eq (g2 := F0 m 21 ls [.int 14, .ref en, .int 0]) (by first | rfl | decide) ?_
                                                        refine m_iald hx hb hK hm 0 hen rfl (by unfold vp_in; decide) dX6_namesOf_21 ?_
                                                        refine lv_if_le (tgt := 31) hx hb dX6_namesOf_22 (by decide) (fun c28 => ?_) (fun c28 => ?_)
                                                        · refine lv_iconst (v := 0) hx hb dX6_namesOf_31 (by decide) ?_
                                                          refine lv_ior hx hb dX6_namesOf_32 ?_
                                                          refine W.eq (g2 := F0 m 33 ls [.int 0]) (by first | rfl | decide) ?_
                                                          refine lv_istore_n (lv' := [(2, .int 0), (3, .int 14), (0, .ref mo), (1, .int 0)]) hx hb dX6_namesOf_33 rfl hl (by decide) rfl (fun ls hl => ?_)
                                                          refine lv_iinc (v := 15) (lv' := [(3, .int 15), (2, .int 0), (0, .ref mo), (1, .int 0)]) hx hb dX6_namesOf_34 hl (k := 1) rfl rfl (by decide) rfl (fun ls hl => ?_)
                                                          refine lv_goto (tgt := 4) hx hb dX6_namesOf_37 (by decide) ?_
                                                          refine lv_iload_n hx hb dX6_namesOf_4 rfl (lv_at hl 0 rfl) ?_
                                                          refine lv_bipush (v := 16) hx hb dX6_namesOf_5 (by decide) ?_
                                                          refine lv_icmp_ge (tgt := 40) hx hb dX6_namesOf_7 (by decide) (fun c29 => ?_) (fun c29 => ?_)
                                                          · first | exact absurd c29 (by decide) | exact absurd (by decide) c29
                                                          · refine lv_iload_n hx hb dX6_namesOf_10 rfl (lv_at hl 1 rfl) ?_
                                                            refine lv_aload_n hx hb dX6_namesOf_11 rfl (lv_at hl 2 rfl) ?_
                                                            refine m_get (T := TX6) (N := 24) (ci := 6) (v := .ref en) hx hb hts wX6 hown hK hm hM rfl 4 (by decide) f21 (fun _ h9 => h9) rfl dX6_namesOf_12 ?_
                                                            refine lv_bipush (v := 16) hx hb dX6_namesOf_15 (by decide) ?_
                                                            refine lv_iload_n hx hb dX6_namesOf_17 rfl (lv_at hl 3 rfl) ?_
                                                            refine lv_imul hx hb dX6_namesOf_18 ?_
                                                            refine W.eq (g2 := F0 m 19 ls [.int 0, .ref en, .int 0]) (by first | rfl | decide) ?_
                                                            refine lv_iload_n hx hb dX6_namesOf_19 rfl (lv_at hl 0 rfl) ?_
                                                            refine lv_iadd hx hb dX6_namesOf_20 ?_
                                                            refine W.eq (g2 := F0 m 21 ls [.int 15, .ref en, .int 0]) (by first | rfl | decide) ?_
                                                            refine m_iald hx hb hK hm 0 hen rfl (by unfold vp_in; decide) dX6_namesOf_21 ?_
                                                            refine lv_if_le (tgt := 31) hx hb dX6_namesOf_22 (by decide) (fun c30 => ?_) (fun c30 => ?_)
                                                            · refine lv_iconst (v := 0) hx hb dX6_namesOf_31 (by decide) ?_
                                                              refine lv_ior hx hb dX6_namesOf_32 ?_
                                                              refine W.eq (g2 := F0 m 33 ls [.int 0]) (by first | rfl | decide) ?_
                                                              refine lv_istore_n (lv' := [(2, .int 0), (3, .int 15), (0, .ref mo), (1, .int 0)]) hx hb dX6_namesOf_33 rfl hl (by decide) rfl (fun ls hl => ?_)
                                                              refine lv_iinc (v := 16) (lv' := [(3, .int 16), (2, .int 0), (0, .ref mo), (1, .int 0)]) hx hb dX6_namesOf_34 hl (k := 1) rfl rfl (by decide) rfl (fun ls hl => ?_)
                                                              refine lv_goto (tgt := 4) hx hb dX6_namesOf_37 (by decide) ?_
                                                              refine lv_iload_n hx hb dX6_namesOf_4 rfl (lv_at hl 0 rfl) ?_
                                                              refine lv_bipush (v := 16) hx hb dX6_namesOf_5 (by decide) ?_
                                                              refine lv_icmp_ge (tgt := 40) hx hb dX6_namesOf_7 (by decide) (fun c31 => ?_) (fun c31 => ?_)
                                                              · refine lv_iload_n hx hb dX6_namesOf_40 rfl (lv_at hl 1 rfl) ?_
                                                                refine W.iret (v := 0) hx hb hr (fun t ht hW => ⟨⟨some (.int 0), _, rfl, ?_, by rw [ht]; exact hm⟩, hS.F ht⟩) hS.2.2 dX6_namesOf_41
                                                                exact ⟨rfl, rfl⟩
                                                              · first | exact absurd c31 (by decide) | exact absurd (by decide) c31
                                                            · exact absurd (show ((0 : Int32) ≤ 0) by decide) c30
                                                        · exact absurd (show ((0 : Int32) ≤ 0) by decide) c28
                                                    · exact absurd (show ((0 : Int32) ≤ 0) by decide) c26
                                                · exact absurd (show ((0 : Int32) ≤ 0) by decide) c24
                                            · exact absurd (show ((0 : Int32) ≤ 0) by decide) c22
                                        · exact absurd (show ((0 : Int32) ≤ 0) by decide) c20
                                    · exact absurd (show ((0 : Int32) ≤ 0) by decide) c18
                                · exact absurd (show ((0 : Int32) ≤ 0) by decide) c16
                            · exact absurd (show ((0 : Int32) ≤ 0) by decide) c14
                        · exact absurd (show ((0 : Int32) ≤ 0) by decide) c12
                    · exact absurd (show ((0 : Int32) ≤ 0) by decide) c10
                · exact absurd (show ((0 : Int32) ≤ 0) by decide) c8
            · exact absurd (show ((0 : Int32) ≤ 0) by decide) c6
        · exact absurd (show ((0 : Int32) ≤ 0) by decide) c4
    · exact absurd (show ((0 : Int32) ≤ 0) by decide) c2
