/-! The reference's methods leave rows of longs: so the law's out stays. -/
def kL (k : Nat → ClassId) (M M' : mM) : Prop := ∀ (a n : Nat) (g : Nat → Int64), M a = some (.inl (k 1, n, .inr (.inl g))) → M' a = some (.inl (k 1, n, .inr (.inl g)))
def nolong (e : va_E) : Prop := ∀ (c : ClassId) (n : Nat) (g : Nat → Int64), e ≠ .inl (c, n, .inr (.inl g))
theorem nlI {c : ClassId} {n : Nat} {f : Nat → Int32} : nolong (.inl (c, n, .inl f)) := fun _ _ _ h => by cases h
theorem nlO {o : Nat × List Value} : nolong (.inr o) := fun _ _ _ h => by cases h
theorem kL.refl {k : Nat → ClassId} (M : mM) : kL k M M := fun _ _ _ h => h
theorem kL.trans {k : Nat → ClassId} {M M1 M2 : mM} (h1 : kL k M M1) (h2 : kL k M1 M2) : kL k M M2 := fun a n g h => h2 a n g (h1 a n g h)
theorem kL.upd {k : Nat → ClassId} {M M1 : mM} {x : Nat} {e0 e : va_E} (hk : kL k M M1) (hx : M1 x = some e0) (hn : nolong e0) : kL k M (mu M1 x e) := fun a n g h => by
  have h1 := hk a n g h
  have h2 : a ≠ x := fun h => by subst h; rw [hx] at h1; exact hn _ _ _ (Option.some.inj h1)
  rw [mu_ne h2]; exact h1

set_option maxHeartbeats 4000000 in
set_option maxRecDepth 100000 in
theorem cL_X6_fails (l : Launch) (D : va_G) (k : Nat → ClassId) (z : Nat) (M : mM) (mo : Nat) (cd9 w : Int32) (hF : mFr k M mo cd9) : mK l yX6_fails wsX6_fails ({ frames := 0, cells := 0, slots := 0, locals := 0 }) D k z [.ref mo, .int w] M (fun v M' => v = some (.int (fl w)) ∧ mFr k M' mo w ∧ kL k M M') := by
  refine Met.ofW (cc := cX6_fails) (maxL := 2) (ret := (some .boolean)) (by decide) rfl ?_
  intro p e s m args below meth c s₁ B hml hv
  obtain ⟨rfl, hz, hcx, hm⟩ := hv
  have hx := B.exec
  have hb := B.bytes
  have hr := B.returns
  have hts := atoms_spec (ws := wsX6_fails) B.pre
  have hown : s.vm.findClass RX6 = some m.cls := findClass_of_methodNamed B.named
  have hlocks := B.notSynchronized
  have hK := hcx.1
  have hS : va_S (AZ z) s.heap s.heap [] := va_S.rf
  have hA : ∀ q, s.heap.size ≤ q → AZ z q := fun q h => Nat.le_trans hz h
  have hl := lv_entry ([.ref mo, .int w]) (n := 2) (Nat.le_of_ble_eq_true rfl)
  rw [lg_entry_eq]
  generalize (lg_sl ([.ref mo, .int w]) ++ List.replicate (2 - (lg_sl ([.ref mo, .int w])).length) Slot.unset).toArray = ls at hl ⊢
  have hl : lv_has ls 2 [(0, .ref mo), (1, .int w)] := hl
  have f67 := hts (.fieldLink RX6 67 "CommitTreeModel" "code" "I") (by decide +kernel)
  have wX6 : ∀ w ∈ wsX60, w ∈ wsX6_fails := by decide +kernel
  obtain ⟨cn, ia, dr, en, la, wo, op, mk, ir, se, ec, lc, wc, ol, al, hap, hM, hcn, hia, hdr, hen, hla, hwo, hop, hmk, hir⟩ := id hF
  have ne_mo_cn : mo ≠ cn := pw_ne hap 0 1 (by decide) (Nat.le_of_ble_eq_true rfl)
  have ne_cn_mo : cn ≠ mo := Ne.symm ne_mo_cn
  have ne_mo_ia : mo ≠ ia := pw_ne hap 0 2 (by decide) (Nat.le_of_ble_eq_true rfl)
  have ne_ia_mo : ia ≠ mo := Ne.symm ne_mo_ia
  have ne_mo_dr : mo ≠ dr := pw_ne hap 0 3 (by decide) (Nat.le_of_ble_eq_true rfl)
  have ne_dr_mo : dr ≠ mo := Ne.symm ne_mo_dr
  have ne_mo_en : mo ≠ en := pw_ne hap 0 4 (by decide) (Nat.le_of_ble_eq_true rfl)
  have ne_en_mo : en ≠ mo := Ne.symm ne_mo_en
  have ne_mo_la : mo ≠ la := pw_ne hap 0 5 (by decide) (Nat.le_of_ble_eq_true rfl)
  have ne_la_mo : la ≠ mo := Ne.symm ne_mo_la
  have ne_mo_wo : mo ≠ wo := pw_ne hap 0 6 (by decide) (Nat.le_of_ble_eq_true rfl)
  have ne_wo_mo : wo ≠ mo := Ne.symm ne_mo_wo
  have ne_mo_op : mo ≠ op := pw_ne hap 0 7 (by decide) (Nat.le_of_ble_eq_true rfl)
  have ne_op_mo : op ≠ mo := Ne.symm ne_mo_op
  have ne_mo_mk : mo ≠ mk := pw_ne hap 0 8 (by decide) (Nat.le_of_ble_eq_true rfl)
  have ne_mk_mo : mk ≠ mo := Ne.symm ne_mo_mk
  have ne_mo_ir : mo ≠ ir := pw_ne hap 0 9 (by decide) (Nat.le_of_ble_eq_true rfl)
  have ne_ir_mo : ir ≠ mo := Ne.symm ne_mo_ir
  have hkp : kL k M M := kL.refl _
  refine lv_aload_n hx hb dX6_fails_0 rfl (lv_at hl 0 rfl) ?_
  refine lv_iload_n hx hb dX6_fails_1 rfl (lv_at hl 1 rfl) ?_
  refine m_put (T := TX6) (N := 24) (ci := 6) (v := .int w) (ty := .int) hx hb hts wX6 tyX6 tyX6_ok nmX6 hown hK hm hS hM rfl 0 (by decide) f67 (fun _ h9 => h9) rfl (by decide +kernel) rfl rfl (Nat.le_of_ble_eq_true rfl) dX6_fails_2 (fun H locs hm hS => ?_)
  have hm : mm D (AZ z) (mu M mo (.inr (6, [.int w, .ref cn, .ref ia, .ref dr, .ref en, .ref la, .ref wo, .int 2, .ref op, .ref mk, .ref ir, .int 0, .int 0, .int (-1), .int 0, .int 0, .ref se, .ref ec, .ref lc, .ref wc, .ref ol, .ref al, .int 0, .int 0]))) H := hm
  have hkp : kL k M (mu M mo (.inr (6, [.int w, .ref cn, .ref ia, .ref dr, .ref en, .ref la, .ref wo, .int 2, .ref op, .ref mk, .ref ir, .int 0, .int 0, .int (-1), .int 0, .int 0, .ref se, .ref ec, .ref lc, .ref wc, .ref ol, .ref al, .int 0, .int 0]))) := (hkp).upd hM nlO
  refine lv_iload_n hx hb dX6_fails_5 rfl (lv_at hl 1 rfl) ?_
  refine lv_if_le (tgt := 13) hx hb dX6_fails_6 (by decide) (fun c1 => ?_) (fun c1 => ?_)
  · refine lv_iconst (v := 0) hx hb dX6_fails_13 (by decide) ?_
    refine W.zret hx hb hr rfl (fun t ht hW => ⟨⟨some (.int 0), _, rfl, ?_, by rw [ht]; exact hm⟩, hS.F ht⟩) hS.2.2 dX6_fails_14
    exact ⟨by simp [fl, c1], ⟨cn, ia, dr, en, la, wo, op, mk, ir, se, ec, lc, wc, ol, al, hap, (mu_self _ _ _), ((mu_ne ne_cn_mo).trans hcn), ((mu_ne ne_ia_mo).trans hia), ((mu_ne ne_dr_mo).trans hdr), ((mu_ne ne_en_mo).trans hen), ((mu_ne ne_la_mo).trans hla), ((mu_ne ne_wo_mo).trans hwo), ((mu_ne ne_op_mo).trans hop), ((mu_ne ne_mk_mo).trans hmk), ((mu_ne ne_ir_mo).trans hir)⟩, hkp⟩
  · refine lv_iconst (v := 1) hx hb dX6_fails_9 (by decide) ?_
    refine lv_goto (tgt := 14) hx hb dX6_fails_10 (by decide) ?_
    refine W.zret hx hb hr rfl (fun t ht hW => ⟨⟨some (.int 1), _, rfl, ?_, by rw [ht]; exact hm⟩, hS.F ht⟩) hS.2.2 dX6_fails_14
    exact ⟨by simp [fl, c1], ⟨cn, ia, dr, en, la, wo, op, mk, ir, se, ec, lc, wc, ol, al, hap, (mu_self _ _ _), ((mu_ne ne_cn_mo).trans hcn), ((mu_ne ne_ia_mo).trans hia), ((mu_ne ne_dr_mo).trans hdr), ((mu_ne ne_en_mo).trans hen), ((mu_ne ne_la_mo).trans hla), ((mu_ne ne_wo_mo).trans hwo), ((mu_ne ne_op_mo).trans hop), ((mu_ne ne_mk_mo).trans hmk), ((mu_ne ne_ir_mo).trans hir)⟩, hkp⟩

set_option maxHeartbeats 4000000 in
set_option maxRecDepth 100000 in
theorem cL_X6_count (l : Launch) (D : va_G) (k : Nat → ClassId) (z : Nat) (M : mM) (mo : Nat) (w : Int32) (hF : mFr k M mo 0) : mK l yX6_count wsX6_count ({ frames := 1, cells := 0, slots := 0, locals := 23 }) D k z [.ref mo, .int w] M (fun v M' => (((w < 0 ∨ ¬ w ≤ 5) ∧ v = some (.int 0) ∧ codeIs M' mo 1) ∨ ((¬ w < 0 ∧ w ≤ 5) ∧ v = some (.int (cv w)) ∧ codeIs M' mo 0)) ∧ kL k M M') := by
  refine Met.ofW (cc := cX6_count) (maxL := 4) (ret := (some .int)) (by decide) rfl ?_
  intro p e s m args below meth c s₁ B hml hv
  obtain ⟨rfl, hz, hcx, hm⟩ := hv
  have hx := B.exec
  have hb := B.bytes
  have hr := B.returns
  have hts := atoms_spec (ws := wsX6_count) B.pre
  have hown : s.vm.findClass RX6 = some m.cls := findClass_of_methodNamed B.named
  have hlocks := B.notSynchronized
  have hK := hcx.1
  have hS : va_S (AZ z) s.heap s.heap [] := va_S.rf
  have hA : ∀ q, s.heap.size ≤ q → AZ z q := fun q h => Nat.le_trans hz h
  have hl := lv_entry ([.ref mo, .int w]) (n := 4) (Nat.le_of_ble_eq_true rfl)
  rw [lg_entry_eq]
  generalize (lg_sl ([.ref mo, .int w]) ++ List.replicate (4 - (lg_sl ([.ref mo, .int w])).length) Slot.unset).toArray = ls at hl ⊢
  have hl : lv_has ls 4 [(0, .ref mo), (1, .int w)] := hl
  have f7 := hts (.fieldLink RX6 7 "CommitTreeModel" "counts" "[I") (by decide +kernel)
  have f35 := hts (.fieldLink RX6 35 "CommitTreeModel" "open" "[Z") (by decide +kernel)
  have f94 := hts (.fieldLink RX6 94 "CommitTreeModel" "down" "Z") (by decide +kernel)
  have f151 := hts (.fieldLink RX6 151 "CommitTreeModel" "written" "I") (by decide +kernel)
  have f157 := hts (.fieldLink RX6 157 "CommitTreeModel" "committed" "I") (by decide +kernel)
  have wX6 : ∀ w ∈ wsX60, w ∈ wsX6_count := by decide +kernel
  obtain ⟨cn, ia, dr, en, la, wo, op, mk, ir, se, ec, lc, wc, ol, al, hap, hM, hcn, hia, hdr, hen, hla, hwo, hop, hmk, hir⟩ := id hF
  have ne_mo_cn : mo ≠ cn := pw_ne hap 0 1 (by decide) (Nat.le_of_ble_eq_true rfl)
  have ne_cn_mo : cn ≠ mo := Ne.symm ne_mo_cn
  have ne_mo_ia : mo ≠ ia := pw_ne hap 0 2 (by decide) (Nat.le_of_ble_eq_true rfl)
  have ne_ia_mo : ia ≠ mo := Ne.symm ne_mo_ia
  have ne_mo_dr : mo ≠ dr := pw_ne hap 0 3 (by decide) (Nat.le_of_ble_eq_true rfl)
  have ne_dr_mo : dr ≠ mo := Ne.symm ne_mo_dr
  have ne_mo_en : mo ≠ en := pw_ne hap 0 4 (by decide) (Nat.le_of_ble_eq_true rfl)
  have ne_en_mo : en ≠ mo := Ne.symm ne_mo_en
  have ne_mo_la : mo ≠ la := pw_ne hap 0 5 (by decide) (Nat.le_of_ble_eq_true rfl)
  have ne_la_mo : la ≠ mo := Ne.symm ne_mo_la
  have ne_mo_wo : mo ≠ wo := pw_ne hap 0 6 (by decide) (Nat.le_of_ble_eq_true rfl)
  have ne_wo_mo : wo ≠ mo := Ne.symm ne_mo_wo
  have ne_mo_op : mo ≠ op := pw_ne hap 0 7 (by decide) (Nat.le_of_ble_eq_true rfl)
  have ne_op_mo : op ≠ mo := Ne.symm ne_mo_op
  have ne_mo_mk : mo ≠ mk := pw_ne hap 0 8 (by decide) (Nat.le_of_ble_eq_true rfl)
  have ne_mk_mo : mk ≠ mo := Ne.symm ne_mo_mk
  have ne_mo_ir : mo ≠ ir := pw_ne hap 0 9 (by decide) (Nat.le_of_ble_eq_true rfl)
  have ne_ir_mo : ir ≠ mo := Ne.symm ne_mo_ir
  have hkp : kL k M M := kL.refl _
  refine lv_aload_n hx hb dX6_count_0 rfl (lv_at hl 0 rfl) ?_
  refine lv_iload_n hx hb dX6_count_1 rfl (lv_at hl 1 rfl) ?_
  refine lv_if_lt (tgt := 10) hx hb dX6_count_2 (by decide) (fun c1 => ?_) (fun c1 => ?_)
  · refine lv_iconst (v := 1) hx hb dX6_count_10 (by decide) ?_
    refine lv_goto (tgt := 15) hx hb dX6_count_11 (by decide) ?_
    refine m_kV (As := [.int 1]) (rest := []) (rm := { frames := 0, cells := 0, slots := 0, locals := 0 }) ⟨hx, hb, hml, hown, hts⟩ (cL_X6_fails l D k z _ mo 0 1 hF) (cwV 1 hts gX6_count_X6_fails rfl rfl rfl (by decide +kernel) ⟨Nat.le_of_ble_eq_true rfl, Nat.le_of_ble_eq_true rfl⟩) (m_recv hK hm (q := (RX6, TX6, 24)) rfl hM) hz hcx hm hS rfl hl.1 rfl (Nat.le_of_ble_eq_true rfl) dX6_count_15 ⟨Nat.le_of_ble_eq_true rfl, Nat.le_of_ble_eq_true rfl⟩ (fun v M1 H locs hv hm hS => ?_)
    obtain ⟨hv1, hF, hL9⟩ := hv
    have hv1 : v = some (.int 1) := hv1.trans (by decide)
    subst hv1
    have hkp := hkp.trans hL9
    obtain ⟨Mc1, hMx⟩ : ∃ x : mM, x = M1 := ⟨M1, rfl⟩
    subst hMx
    obtain ⟨cn, ia, dr, en, la, wo, op, mk, ir, se, ec, lc, wc, ol, al, hap, hM, hcn, hia, hdr, hen, hla, hwo, hop, hmk, hir⟩ := id hF
    have ne_mo_cn : mo ≠ cn := pw_ne hap 0 1 (by decide) (Nat.le_of_ble_eq_true rfl)
    have ne_cn_mo : cn ≠ mo := Ne.symm ne_mo_cn
    have ne_mo_ia : mo ≠ ia := pw_ne hap 0 2 (by decide) (Nat.le_of_ble_eq_true rfl)
    have ne_ia_mo : ia ≠ mo := Ne.symm ne_mo_ia
    have ne_mo_dr : mo ≠ dr := pw_ne hap 0 3 (by decide) (Nat.le_of_ble_eq_true rfl)
    have ne_dr_mo : dr ≠ mo := Ne.symm ne_mo_dr
    have ne_mo_en : mo ≠ en := pw_ne hap 0 4 (by decide) (Nat.le_of_ble_eq_true rfl)
    have ne_en_mo : en ≠ mo := Ne.symm ne_mo_en
    have ne_mo_la : mo ≠ la := pw_ne hap 0 5 (by decide) (Nat.le_of_ble_eq_true rfl)
    have ne_la_mo : la ≠ mo := Ne.symm ne_mo_la
    have ne_mo_wo : mo ≠ wo := pw_ne hap 0 6 (by decide) (Nat.le_of_ble_eq_true rfl)
    have ne_wo_mo : wo ≠ mo := Ne.symm ne_mo_wo
    have ne_mo_op : mo ≠ op := pw_ne hap 0 7 (by decide) (Nat.le_of_ble_eq_true rfl)
    have ne_op_mo : op ≠ mo := Ne.symm ne_mo_op
    have ne_mo_mk : mo ≠ mk := pw_ne hap 0 8 (by decide) (Nat.le_of_ble_eq_true rfl)
    have ne_mk_mo : mk ≠ mo := Ne.symm ne_mo_mk
    have ne_mo_ir : mo ≠ ir := pw_ne hap 0 9 (by decide) (Nat.le_of_ble_eq_true rfl)
    have ne_ir_mo : ir ≠ mo := Ne.symm ne_mo_ir
    have ne_cn_ia : cn ≠ ia := pw_ne hap 1 2 (by decide) (Nat.le_of_ble_eq_true rfl)
    have ne_ia_cn : ia ≠ cn := Ne.symm ne_cn_ia
    have ne_cn_dr : cn ≠ dr := pw_ne hap 1 3 (by decide) (Nat.le_of_ble_eq_true rfl)
    have ne_dr_cn : dr ≠ cn := Ne.symm ne_cn_dr
    have ne_cn_en : cn ≠ en := pw_ne hap 1 4 (by decide) (Nat.le_of_ble_eq_true rfl)
    have ne_en_cn : en ≠ cn := Ne.symm ne_cn_en
    have ne_cn_la : cn ≠ la := pw_ne hap 1 5 (by decide) (Nat.le_of_ble_eq_true rfl)
    have ne_la_cn : la ≠ cn := Ne.symm ne_cn_la
    have ne_cn_wo : cn ≠ wo := pw_ne hap 1 6 (by decide) (Nat.le_of_ble_eq_true rfl)
    have ne_wo_cn : wo ≠ cn := Ne.symm ne_cn_wo
    have ne_cn_op : cn ≠ op := pw_ne hap 1 7 (by decide) (Nat.le_of_ble_eq_true rfl)
    have ne_op_cn : op ≠ cn := Ne.symm ne_cn_op
    have ne_cn_mk : cn ≠ mk := pw_ne hap 1 8 (by decide) (Nat.le_of_ble_eq_true rfl)
    have ne_mk_cn : mk ≠ cn := Ne.symm ne_cn_mk
    have ne_cn_ir : cn ≠ ir := pw_ne hap 1 9 (by decide) (Nat.le_of_ble_eq_true rfl)
    have ne_ir_cn : ir ≠ cn := Ne.symm ne_cn_ir
    have ne_ia_dr : ia ≠ dr := pw_ne hap 2 3 (by decide) (Nat.le_of_ble_eq_true rfl)
    have ne_dr_ia : dr ≠ ia := Ne.symm ne_ia_dr
    have ne_ia_en : ia ≠ en := pw_ne hap 2 4 (by decide) (Nat.le_of_ble_eq_true rfl)
    have ne_en_ia : en ≠ ia := Ne.symm ne_ia_en
    have ne_ia_la : ia ≠ la := pw_ne hap 2 5 (by decide) (Nat.le_of_ble_eq_true rfl)
    have ne_la_ia : la ≠ ia := Ne.symm ne_ia_la
    have ne_ia_wo : ia ≠ wo := pw_ne hap 2 6 (by decide) (Nat.le_of_ble_eq_true rfl)
    have ne_wo_ia : wo ≠ ia := Ne.symm ne_ia_wo
    have ne_ia_op : ia ≠ op := pw_ne hap 2 7 (by decide) (Nat.le_of_ble_eq_true rfl)
    have ne_op_ia : op ≠ ia := Ne.symm ne_ia_op
    have ne_ia_mk : ia ≠ mk := pw_ne hap 2 8 (by decide) (Nat.le_of_ble_eq_true rfl)
    have ne_mk_ia : mk ≠ ia := Ne.symm ne_ia_mk
    have ne_ia_ir : ia ≠ ir := pw_ne hap 2 9 (by decide) (Nat.le_of_ble_eq_true rfl)
    have ne_ir_ia : ir ≠ ia := Ne.symm ne_ia_ir
    have ne_dr_en : dr ≠ en := pw_ne hap 3 4 (by decide) (Nat.le_of_ble_eq_true rfl)
    have ne_en_dr : en ≠ dr := Ne.symm ne_dr_en
    have ne_dr_la : dr ≠ la := pw_ne hap 3 5 (by decide) (Nat.le_of_ble_eq_true rfl)
    have ne_la_dr : la ≠ dr := Ne.symm ne_dr_la
    have ne_dr_wo : dr ≠ wo := pw_ne hap 3 6 (by decide) (Nat.le_of_ble_eq_true rfl)
    have ne_wo_dr : wo ≠ dr := Ne.symm ne_dr_wo
    have ne_dr_op : dr ≠ op := pw_ne hap 3 7 (by decide) (Nat.le_of_ble_eq_true rfl)
    have ne_op_dr : op ≠ dr := Ne.symm ne_dr_op
    have ne_dr_mk : dr ≠ mk := pw_ne hap 3 8 (by decide) (Nat.le_of_ble_eq_true rfl)
    have ne_mk_dr : mk ≠ dr := Ne.symm ne_dr_mk
    have ne_dr_ir : dr ≠ ir := pw_ne hap 3 9 (by decide) (Nat.le_of_ble_eq_true rfl)
    have ne_ir_dr : ir ≠ dr := Ne.symm ne_dr_ir
    have ne_en_la : en ≠ la := pw_ne hap 4 5 (by decide) (Nat.le_of_ble_eq_true rfl)
    have ne_la_en : la ≠ en := Ne.symm ne_en_la
    have ne_en_wo : en ≠ wo := pw_ne hap 4 6 (by decide) (Nat.le_of_ble_eq_true rfl)
    have ne_wo_en : wo ≠ en := Ne.symm ne_en_wo
    have ne_en_op : en ≠ op := pw_ne hap 4 7 (by decide) (Nat.le_of_ble_eq_true rfl)
    have ne_op_en : op ≠ en := Ne.symm ne_en_op
    have ne_en_mk : en ≠ mk := pw_ne hap 4 8 (by decide) (Nat.le_of_ble_eq_true rfl)
    have ne_mk_en : mk ≠ en := Ne.symm ne_en_mk
    have ne_en_ir : en ≠ ir := pw_ne hap 4 9 (by decide) (Nat.le_of_ble_eq_true rfl)
    have ne_ir_en : ir ≠ en := Ne.symm ne_en_ir
    have ne_la_wo : la ≠ wo := pw_ne hap 5 6 (by decide) (Nat.le_of_ble_eq_true rfl)
    have ne_wo_la : wo ≠ la := Ne.symm ne_la_wo
    have ne_la_op : la ≠ op := pw_ne hap 5 7 (by decide) (Nat.le_of_ble_eq_true rfl)
    have ne_op_la : op ≠ la := Ne.symm ne_la_op
    have ne_la_mk : la ≠ mk := pw_ne hap 5 8 (by decide) (Nat.le_of_ble_eq_true rfl)
    have ne_mk_la : mk ≠ la := Ne.symm ne_la_mk
    have ne_la_ir : la ≠ ir := pw_ne hap 5 9 (by decide) (Nat.le_of_ble_eq_true rfl)
    have ne_ir_la : ir ≠ la := Ne.symm ne_la_ir
    have ne_wo_op : wo ≠ op := pw_ne hap 6 7 (by decide) (Nat.le_of_ble_eq_true rfl)
    have ne_op_wo : op ≠ wo := Ne.symm ne_wo_op
    have ne_wo_mk : wo ≠ mk := pw_ne hap 6 8 (by decide) (Nat.le_of_ble_eq_true rfl)
    have ne_mk_wo : mk ≠ wo := Ne.symm ne_wo_mk
    have ne_wo_ir : wo ≠ ir := pw_ne hap 6 9 (by decide) (Nat.le_of_ble_eq_true rfl)
    have ne_ir_wo : ir ≠ wo := Ne.symm ne_wo_ir
    have ne_op_mk : op ≠ mk := pw_ne hap 7 8 (by decide) (Nat.le_of_ble_eq_true rfl)
    have ne_mk_op : mk ≠ op := Ne.symm ne_op_mk
    have ne_op_ir : op ≠ ir := pw_ne hap 7 9 (by decide) (Nat.le_of_ble_eq_true rfl)
    have ne_ir_op : ir ≠ op := Ne.symm ne_op_ir
    have ne_mk_ir : mk ≠ ir := pw_ne hap 8 9 (by decide) (Nat.le_of_ble_eq_true rfl)
    have ne_ir_mk : ir ≠ mk := Ne.symm ne_mk_ir
    refine W.eq (g2 := F0 m 18 ls [.int 1]) rfl ?_
    refine W.widen (k := 0) (n := 0) (Nat.le_of_ble_eq_true rfl) (Nat.le_of_ble_eq_true rfl) ?_
    have hm : mm D (AZ z) Mc1 H := hm
    refine lv_if_eq (tgt := 23) hx hb dX6_count_18 (by decide) (fun c2 => ?_) (fun c2 => ?_)
    · first | exact absurd c2 (by decide) | exact absurd (by decide) c2
    · refine lv_iconst (v := 0) hx hb dX6_count_21 (by decide) ?_
      refine W.iret (v := 0) hx hb hr (fun t ht hW => ⟨⟨some (.int 0), _, rfl, ?_, by rw [ht]; exact hm⟩, hS.F ht⟩) hS.2.2 dX6_count_22
      first
        | exact ⟨Or.inl ⟨Or.inl c1, rfl, hF.code⟩, hkp⟩
        | exact ⟨Or.inl ⟨Or.inr c2, rfl, hF.code⟩, hkp⟩
  · refine lv_iload_n hx hb dX6_count_5 rfl (lv_at hl 1 rfl) ?_
    refine lv_iconst (v := 5) hx hb dX6_count_6 (by decide) ?_
    refine lv_icmp_le (tgt := 14) hx hb dX6_count_7 (by decide) (fun c3 => ?_) (fun c3 => ?_)
    · refine lv_iconst (v := 0) hx hb dX6_count_14 (by decide) ?_
      refine m_kV (As := [.int 0]) (rest := []) (rm := { frames := 0, cells := 0, slots := 0, locals := 0 }) ⟨hx, hb, hml, hown, hts⟩ (cL_X6_fails l D k z _ mo 0 0 hF) (cwV 1 hts gX6_count_X6_fails rfl rfl rfl (by decide +kernel) ⟨Nat.le_of_ble_eq_true rfl, Nat.le_of_ble_eq_true rfl⟩) (m_recv hK hm (q := (RX6, TX6, 24)) rfl hM) hz hcx hm hS rfl hl.1 rfl (Nat.le_of_ble_eq_true rfl) dX6_count_15 ⟨Nat.le_of_ble_eq_true rfl, Nat.le_of_ble_eq_true rfl⟩ (fun v M1 H locs hv hm hS => ?_)
      obtain ⟨hv1, hF, hL9⟩ := hv
      have hv1 : v = some (.int 0) := hv1.trans (by decide)
      subst hv1
      have hkp := hkp.trans hL9
      obtain ⟨Mc2, hMx⟩ : ∃ x : mM, x = M1 := ⟨M1, rfl⟩
      subst hMx
      obtain ⟨cn, ia, dr, en, la, wo, op, mk, ir, se, ec, lc, wc, ol, al, hap, hM, hcn, hia, hdr, hen, hla, hwo, hop, hmk, hir⟩ := id hF
      have ne_mo_cn : mo ≠ cn := pw_ne hap 0 1 (by decide) (Nat.le_of_ble_eq_true rfl)
      have ne_cn_mo : cn ≠ mo := Ne.symm ne_mo_cn
      have ne_mo_ia : mo ≠ ia := pw_ne hap 0 2 (by decide) (Nat.le_of_ble_eq_true rfl)
      have ne_ia_mo : ia ≠ mo := Ne.symm ne_mo_ia
      have ne_mo_dr : mo ≠ dr := pw_ne hap 0 3 (by decide) (Nat.le_of_ble_eq_true rfl)
      have ne_dr_mo : dr ≠ mo := Ne.symm ne_mo_dr
      have ne_mo_en : mo ≠ en := pw_ne hap 0 4 (by decide) (Nat.le_of_ble_eq_true rfl)
      have ne_en_mo : en ≠ mo := Ne.symm ne_mo_en
      have ne_mo_la : mo ≠ la := pw_ne hap 0 5 (by decide) (Nat.le_of_ble_eq_true rfl)
      have ne_la_mo : la ≠ mo := Ne.symm ne_mo_la
      have ne_mo_wo : mo ≠ wo := pw_ne hap 0 6 (by decide) (Nat.le_of_ble_eq_true rfl)
      have ne_wo_mo : wo ≠ mo := Ne.symm ne_mo_wo
      have ne_mo_op : mo ≠ op := pw_ne hap 0 7 (by decide) (Nat.le_of_ble_eq_true rfl)
      have ne_op_mo : op ≠ mo := Ne.symm ne_mo_op
      have ne_mo_mk : mo ≠ mk := pw_ne hap 0 8 (by decide) (Nat.le_of_ble_eq_true rfl)
      have ne_mk_mo : mk ≠ mo := Ne.symm ne_mo_mk
      have ne_mo_ir : mo ≠ ir := pw_ne hap 0 9 (by decide) (Nat.le_of_ble_eq_true rfl)
      have ne_ir_mo : ir ≠ mo := Ne.symm ne_mo_ir
      have ne_cn_ia : cn ≠ ia := pw_ne hap 1 2 (by decide) (Nat.le_of_ble_eq_true rfl)
      have ne_ia_cn : ia ≠ cn := Ne.symm ne_cn_ia
      have ne_cn_dr : cn ≠ dr := pw_ne hap 1 3 (by decide) (Nat.le_of_ble_eq_true rfl)
      have ne_dr_cn : dr ≠ cn := Ne.symm ne_cn_dr
      have ne_cn_en : cn ≠ en := pw_ne hap 1 4 (by decide) (Nat.le_of_ble_eq_true rfl)
      have ne_en_cn : en ≠ cn := Ne.symm ne_cn_en
      have ne_cn_la : cn ≠ la := pw_ne hap 1 5 (by decide) (Nat.le_of_ble_eq_true rfl)
      have ne_la_cn : la ≠ cn := Ne.symm ne_cn_la
      have ne_cn_wo : cn ≠ wo := pw_ne hap 1 6 (by decide) (Nat.le_of_ble_eq_true rfl)
      have ne_wo_cn : wo ≠ cn := Ne.symm ne_cn_wo
      have ne_cn_op : cn ≠ op := pw_ne hap 1 7 (by decide) (Nat.le_of_ble_eq_true rfl)
      have ne_op_cn : op ≠ cn := Ne.symm ne_cn_op
      have ne_cn_mk : cn ≠ mk := pw_ne hap 1 8 (by decide) (Nat.le_of_ble_eq_true rfl)
      have ne_mk_cn : mk ≠ cn := Ne.symm ne_cn_mk
      have ne_cn_ir : cn ≠ ir := pw_ne hap 1 9 (by decide) (Nat.le_of_ble_eq_true rfl)
      have ne_ir_cn : ir ≠ cn := Ne.symm ne_cn_ir
      have ne_ia_dr : ia ≠ dr := pw_ne hap 2 3 (by decide) (Nat.le_of_ble_eq_true rfl)
      have ne_dr_ia : dr ≠ ia := Ne.symm ne_ia_dr
      have ne_ia_en : ia ≠ en := pw_ne hap 2 4 (by decide) (Nat.le_of_ble_eq_true rfl)
      have ne_en_ia : en ≠ ia := Ne.symm ne_ia_en
      have ne_ia_la : ia ≠ la := pw_ne hap 2 5 (by decide) (Nat.le_of_ble_eq_true rfl)
      have ne_la_ia : la ≠ ia := Ne.symm ne_ia_la
      have ne_ia_wo : ia ≠ wo := pw_ne hap 2 6 (by decide) (Nat.le_of_ble_eq_true rfl)
      have ne_wo_ia : wo ≠ ia := Ne.symm ne_ia_wo
      have ne_ia_op : ia ≠ op := pw_ne hap 2 7 (by decide) (Nat.le_of_ble_eq_true rfl)
      have ne_op_ia : op ≠ ia := Ne.symm ne_ia_op
      have ne_ia_mk : ia ≠ mk := pw_ne hap 2 8 (by decide) (Nat.le_of_ble_eq_true rfl)
      have ne_mk_ia : mk ≠ ia := Ne.symm ne_ia_mk
      have ne_ia_ir : ia ≠ ir := pw_ne hap 2 9 (by decide) (Nat.le_of_ble_eq_true rfl)
      have ne_ir_ia : ir ≠ ia := Ne.symm ne_ia_ir
      have ne_dr_en : dr ≠ en := pw_ne hap 3 4 (by decide) (Nat.le_of_ble_eq_true rfl)
      have ne_en_dr : en ≠ dr := Ne.symm ne_dr_en
      have ne_dr_la : dr ≠ la := pw_ne hap 3 5 (by decide) (Nat.le_of_ble_eq_true rfl)
      have ne_la_dr : la ≠ dr := Ne.symm ne_dr_la
      have ne_dr_wo : dr ≠ wo := pw_ne hap 3 6 (by decide) (Nat.le_of_ble_eq_true rfl)
      have ne_wo_dr : wo ≠ dr := Ne.symm ne_dr_wo
      have ne_dr_op : dr ≠ op := pw_ne hap 3 7 (by decide) (Nat.le_of_ble_eq_true rfl)
      have ne_op_dr : op ≠ dr := Ne.symm ne_dr_op
      have ne_dr_mk : dr ≠ mk := pw_ne hap 3 8 (by decide) (Nat.le_of_ble_eq_true rfl)
      have ne_mk_dr : mk ≠ dr := Ne.symm ne_dr_mk
      have ne_dr_ir : dr ≠ ir := pw_ne hap 3 9 (by decide) (Nat.le_of_ble_eq_true rfl)
      have ne_ir_dr : ir ≠ dr := Ne.symm ne_dr_ir
      have ne_en_la : en ≠ la := pw_ne hap 4 5 (by decide) (Nat.le_of_ble_eq_true rfl)
      have ne_la_en : la ≠ en := Ne.symm ne_en_la
      have ne_en_wo : en ≠ wo := pw_ne hap 4 6 (by decide) (Nat.le_of_ble_eq_true rfl)
      have ne_wo_en : wo ≠ en := Ne.symm ne_en_wo
      have ne_en_op : en ≠ op := pw_ne hap 4 7 (by decide) (Nat.le_of_ble_eq_true rfl)
      have ne_op_en : op ≠ en := Ne.symm ne_en_op
      have ne_en_mk : en ≠ mk := pw_ne hap 4 8 (by decide) (Nat.le_of_ble_eq_true rfl)
      have ne_mk_en : mk ≠ en := Ne.symm ne_en_mk
      have ne_en_ir : en ≠ ir := pw_ne hap 4 9 (by decide) (Nat.le_of_ble_eq_true rfl)
      have ne_ir_en : ir ≠ en := Ne.symm ne_en_ir
      have ne_la_wo : la ≠ wo := pw_ne hap 5 6 (by decide) (Nat.le_of_ble_eq_true rfl)
      have ne_wo_la : wo ≠ la := Ne.symm ne_la_wo
      have ne_la_op : la ≠ op := pw_ne hap 5 7 (by decide) (Nat.le_of_ble_eq_true rfl)
      have ne_op_la : op ≠ la := Ne.symm ne_la_op
      have ne_la_mk : la ≠ mk := pw_ne hap 5 8 (by decide) (Nat.le_of_ble_eq_true rfl)
      have ne_mk_la : mk ≠ la := Ne.symm ne_la_mk
      have ne_la_ir : la ≠ ir := pw_ne hap 5 9 (by decide) (Nat.le_of_ble_eq_true rfl)
      have ne_ir_la : ir ≠ la := Ne.symm ne_la_ir
      have ne_wo_op : wo ≠ op := pw_ne hap 6 7 (by decide) (Nat.le_of_ble_eq_true rfl)
      have ne_op_wo : op ≠ wo := Ne.symm ne_wo_op
      have ne_wo_mk : wo ≠ mk := pw_ne hap 6 8 (by decide) (Nat.le_of_ble_eq_true rfl)
      have ne_mk_wo : mk ≠ wo := Ne.symm ne_wo_mk
      have ne_wo_ir : wo ≠ ir := pw_ne hap 6 9 (by decide) (Nat.le_of_ble_eq_true rfl)
      have ne_ir_wo : ir ≠ wo := Ne.symm ne_wo_ir
      have ne_op_mk : op ≠ mk := pw_ne hap 7 8 (by decide) (Nat.le_of_ble_eq_true rfl)
      have ne_mk_op : mk ≠ op := Ne.symm ne_op_mk
      have ne_op_ir : op ≠ ir := pw_ne hap 7 9 (by decide) (Nat.le_of_ble_eq_true rfl)
      have ne_ir_op : ir ≠ op := Ne.symm ne_op_ir
      have ne_mk_ir : mk ≠ ir := pw_ne hap 8 9 (by decide) (Nat.le_of_ble_eq_true rfl)
      have ne_ir_mk : ir ≠ mk := Ne.symm ne_mk_ir
      refine W.eq (g2 := F0 m 18 ls [.int 0]) rfl ?_
      refine W.widen (k := 0) (n := 0) (Nat.le_of_ble_eq_true rfl) (Nat.le_of_ble_eq_true rfl) ?_
      have hm : mm D (AZ z) Mc2 H := hm
      refine lv_if_eq (tgt := 23) hx hb dX6_count_18 (by decide) (fun c4 => ?_) (fun c4 => ?_)
      · refine lv_iconst (v := 0) hx hb dX6_count_23 (by decide) ?_
        refine lv_istore_n (lv' := [(2, .int 0), (0, .ref mo), (1, .int w)]) hx hb dX6_count_24 rfl hl (by decide) rfl (fun ls hl => ?_)
        refine lv_iconst (v := 0) hx hb dX6_count_25 (by decide) ?_
        refine lv_istore_n (lv' := [(3, .int 0), (2, .int 0), (0, .ref mo), (1, .int w)]) hx hb dX6_count_26 rfl hl (by decide) rfl (fun ls hl => ?_)
        refine lv_iload_n hx hb dX6_count_27 rfl (lv_at hl 0 rfl) ?_
        refine lv_bipush (v := 6) hx hb dX6_count_28 (by decide) ?_
        refine lv_icmp_ge (tgt := 56) hx hb dX6_count_30 (by decide) (fun c5 => ?_) (fun c5 => ?_)
        · first | exact absurd c5 (by decide) | exact absurd (by decide) c5
        · refine lv_iload_n hx hb dX6_count_33 rfl (lv_at hl 1 rfl) ?_
          refine lv_aload_n hx hb dX6_count_34 rfl (lv_at hl 2 rfl) ?_
          refine m_get (T := TX6) (N := 24) (ci := 6) (v := .ref op) hx hb hts wX6 hown hK hm hM rfl 8 (by decide) f35 (fun _ h9 => h9) rfl dX6_count_35 ?_
          refine lv_iload_n hx hb dX6_count_38 rfl (lv_at hl 0 rfl) ?_
          refine m_zald hx hb hK hm 2 hop rfl (by unfold vp_in; decide) dX6_count_39 ?_
          refine lv_if_eq (tgt := 47) hx hb dX6_count_40 (by decide) (fun c6 => ?_) (fun c6 => ?_)
          · refine lv_iconst (v := 0) hx hb dX6_count_47 (by decide) ?_
            refine lv_iadd hx hb dX6_count_48 ?_
            refine W.eq (g2 := F0 m 49 ls [.int 0]) (by first | rfl | decide) ?_
            refine lv_istore_n (lv' := [(2, .int 0), (3, .int 0), (0, .ref mo), (1, .int w)]) hx hb dX6_count_49 rfl hl (by decide) rfl (fun ls hl => ?_)
            refine lv_iinc (v := 1) (lv' := [(3, .int 1), (2, .int 0), (0, .ref mo), (1, .int w)]) hx hb dX6_count_50 hl (k := 1) rfl rfl (by decide) rfl (fun ls hl => ?_)
            refine lv_goto (tgt := 27) hx hb dX6_count_53 (by decide) ?_
            refine lv_iload_n hx hb dX6_count_27 rfl (lv_at hl 0 rfl) ?_
            refine lv_bipush (v := 6) hx hb dX6_count_28 (by decide) ?_
            refine lv_icmp_ge (tgt := 56) hx hb dX6_count_30 (by decide) (fun c7 => ?_) (fun c7 => ?_)
            · first | exact absurd c7 (by decide) | exact absurd (by decide) c7
            · refine lv_iload_n hx hb dX6_count_33 rfl (lv_at hl 1 rfl) ?_
              refine lv_aload_n hx hb dX6_count_34 rfl (lv_at hl 2 rfl) ?_
              refine m_get (T := TX6) (N := 24) (ci := 6) (v := .ref op) hx hb hts wX6 hown hK hm hM rfl 8 (by decide) f35 (fun _ h9 => h9) rfl dX6_count_35 ?_
              refine lv_iload_n hx hb dX6_count_38 rfl (lv_at hl 0 rfl) ?_
              refine m_zald hx hb hK hm 2 hop rfl (by unfold vp_in; decide) dX6_count_39 ?_
              refine lv_if_eq (tgt := 47) hx hb dX6_count_40 (by decide) (fun c8 => ?_) (fun c8 => ?_)
              · refine lv_iconst (v := 0) hx hb dX6_count_47 (by decide) ?_
                refine lv_iadd hx hb dX6_count_48 ?_
                refine W.eq (g2 := F0 m 49 ls [.int 0]) (by first | rfl | decide) ?_
                refine lv_istore_n (lv' := [(2, .int 0), (3, .int 1), (0, .ref mo), (1, .int w)]) hx hb dX6_count_49 rfl hl (by decide) rfl (fun ls hl => ?_)
                refine lv_iinc (v := 2) (lv' := [(3, .int 2), (2, .int 0), (0, .ref mo), (1, .int w)]) hx hb dX6_count_50 hl (k := 1) rfl rfl (by decide) rfl (fun ls hl => ?_)
                refine lv_goto (tgt := 27) hx hb dX6_count_53 (by decide) ?_
                refine lv_iload_n hx hb dX6_count_27 rfl (lv_at hl 0 rfl) ?_
                refine lv_bipush (v := 6) hx hb dX6_count_28 (by decide) ?_
                refine lv_icmp_ge (tgt := 56) hx hb dX6_count_30 (by decide) (fun c9 => ?_) (fun c9 => ?_)
                · first | exact absurd c9 (by decide) | exact absurd (by decide) c9
                · refine lv_iload_n hx hb dX6_count_33 rfl (lv_at hl 1 rfl) ?_
                  refine lv_aload_n hx hb dX6_count_34 rfl (lv_at hl 2 rfl) ?_
                  refine m_get (T := TX6) (N := 24) (ci := 6) (v := .ref op) hx hb hts wX6 hown hK hm hM rfl 8 (by decide) f35 (fun _ h9 => h9) rfl dX6_count_35 ?_
                  refine lv_iload_n hx hb dX6_count_38 rfl (lv_at hl 0 rfl) ?_
                  refine m_zald hx hb hK hm 2 hop rfl (by unfold vp_in; decide) dX6_count_39 ?_
                  refine lv_if_eq (tgt := 47) hx hb dX6_count_40 (by decide) (fun c10 => ?_) (fun c10 => ?_)
                  · refine lv_iconst (v := 0) hx hb dX6_count_47 (by decide) ?_
                    refine lv_iadd hx hb dX6_count_48 ?_
                    refine W.eq (g2 := F0 m 49 ls [.int 0]) (by first | rfl | decide) ?_
                    refine lv_istore_n (lv' := [(2, .int 0), (3, .int 2), (0, .ref mo), (1, .int w)]) hx hb dX6_count_49 rfl hl (by decide) rfl (fun ls hl => ?_)
                    refine lv_iinc (v := 3) (lv' := [(3, .int 3), (2, .int 0), (0, .ref mo), (1, .int w)]) hx hb dX6_count_50 hl (k := 1) rfl rfl (by decide) rfl (fun ls hl => ?_)
                    refine lv_goto (tgt := 27) hx hb dX6_count_53 (by decide) ?_
                    refine lv_iload_n hx hb dX6_count_27 rfl (lv_at hl 0 rfl) ?_
                    refine lv_bipush (v := 6) hx hb dX6_count_28 (by decide) ?_
                    refine lv_icmp_ge (tgt := 56) hx hb dX6_count_30 (by decide) (fun c11 => ?_) (fun c11 => ?_)
                    · first | exact absurd c11 (by decide) | exact absurd (by decide) c11
                    · refine lv_iload_n hx hb dX6_count_33 rfl (lv_at hl 1 rfl) ?_
                      refine lv_aload_n hx hb dX6_count_34 rfl (lv_at hl 2 rfl) ?_
                      refine m_get (T := TX6) (N := 24) (ci := 6) (v := .ref op) hx hb hts wX6 hown hK hm hM rfl 8 (by decide) f35 (fun _ h9 => h9) rfl dX6_count_35 ?_
                      refine lv_iload_n hx hb dX6_count_38 rfl (lv_at hl 0 rfl) ?_
                      refine m_zald hx hb hK hm 2 hop rfl (by unfold vp_in; decide) dX6_count_39 ?_
                      refine lv_if_eq (tgt := 47) hx hb dX6_count_40 (by decide) (fun c12 => ?_) (fun c12 => ?_)
                      · refine lv_iconst (v := 0) hx hb dX6_count_47 (by decide) ?_
                        refine lv_iadd hx hb dX6_count_48 ?_
                        refine W.eq (g2 := F0 m 49 ls [.int 0]) (by first | rfl | decide) ?_
                        refine lv_istore_n (lv' := [(2, .int 0), (3, .int 3), (0, .ref mo), (1, .int w)]) hx hb dX6_count_49 rfl hl (by decide) rfl (fun ls hl => ?_)
                        refine lv_iinc (v := 4) (lv' := [(3, .int 4), (2, .int 0), (0, .ref mo), (1, .int w)]) hx hb dX6_count_50 hl (k := 1) rfl rfl (by decide) rfl (fun ls hl => ?_)
                        refine lv_goto (tgt := 27) hx hb dX6_count_53 (by decide) ?_
                        refine lv_iload_n hx hb dX6_count_27 rfl (lv_at hl 0 rfl) ?_
                        refine lv_bipush (v := 6) hx hb dX6_count_28 (by decide) ?_
                        refine lv_icmp_ge (tgt := 56) hx hb dX6_count_30 (by decide) (fun c13 => ?_) (fun c13 => ?_)
                        · first | exact absurd c13 (by decide) | exact absurd (by decide) c13
                        · refine lv_iload_n hx hb dX6_count_33 rfl (lv_at hl 1 rfl) ?_
                          refine lv_aload_n hx hb dX6_count_34 rfl (lv_at hl 2 rfl) ?_
                          refine m_get (T := TX6) (N := 24) (ci := 6) (v := .ref op) hx hb hts wX6 hown hK hm hM rfl 8 (by decide) f35 (fun _ h9 => h9) rfl dX6_count_35 ?_
                          refine lv_iload_n hx hb dX6_count_38 rfl (lv_at hl 0 rfl) ?_
                          refine m_zald hx hb hK hm 2 hop rfl (by unfold vp_in; decide) dX6_count_39 ?_
                          refine lv_if_eq (tgt := 47) hx hb dX6_count_40 (by decide) (fun c14 => ?_) (fun c14 => ?_)
                          · refine lv_iconst (v := 0) hx hb dX6_count_47 (by decide) ?_
                            refine lv_iadd hx hb dX6_count_48 ?_
                            refine W.eq (g2 := F0 m 49 ls [.int 0]) (by first | rfl | decide) ?_
                            refine lv_istore_n (lv' := [(2, .int 0), (3, .int 4), (0, .ref mo), (1, .int w)]) hx hb dX6_count_49 rfl hl (by decide) rfl (fun ls hl => ?_)
                            refine lv_iinc (v := 5) (lv' := [(3, .int 5), (2, .int 0), (0, .ref mo), (1, .int w)]) hx hb dX6_count_50 hl (k := 1) rfl rfl (by decide) rfl (fun ls hl => ?_)
                            refine lv_goto (tgt := 27) hx hb dX6_count_53 (by decide) ?_
                            refine lv_iload_n hx hb dX6_count_27 rfl (lv_at hl 0 rfl) ?_
                            refine lv_bipush (v := 6) hx hb dX6_count_28 (by decide) ?_
                            refine lv_icmp_ge (tgt := 56) hx hb dX6_count_30 (by decide) (fun c15 => ?_) (fun c15 => ?_)
                            · first | exact absurd c15 (by decide) | exact absurd (by decide) c15
                            · refine lv_iload_n hx hb dX6_count_33 rfl (lv_at hl 1 rfl) ?_
                              refine lv_aload_n hx hb dX6_count_34 rfl (lv_at hl 2 rfl) ?_
                              refine m_get (T := TX6) (N := 24) (ci := 6) (v := .ref op) hx hb hts wX6 hown hK hm hM rfl 8 (by decide) f35 (fun _ h9 => h9) rfl dX6_count_35 ?_
                              refine lv_iload_n hx hb dX6_count_38 rfl (lv_at hl 0 rfl) ?_
                              refine m_zald hx hb hK hm 2 hop rfl (by unfold vp_in; decide) dX6_count_39 ?_
                              refine lv_if_eq (tgt := 47) hx hb dX6_count_40 (by decide) (fun c16 => ?_) (fun c16 => ?_)
                              · refine lv_iconst (v := 0) hx hb dX6_count_47 (by decide) ?_
                                refine lv_iadd hx hb dX6_count_48 ?_
                                refine W.eq (g2 := F0 m 49 ls [.int 0]) (by first | rfl | decide) ?_
                                refine lv_istore_n (lv' := [(2, .int 0), (3, .int 5), (0, .ref mo), (1, .int w)]) hx hb dX6_count_49 rfl hl (by decide) rfl (fun ls hl => ?_)
                                refine lv_iinc (v := 6) (lv' := [(3, .int 6), (2, .int 0), (0, .ref mo), (1, .int w)]) hx hb dX6_count_50 hl (k := 1) rfl rfl (by decide) rfl (fun ls hl => ?_)
                                refine lv_goto (tgt := 27) hx hb dX6_count_53 (by decide) ?_
                                refine lv_iload_n hx hb dX6_count_27 rfl (lv_at hl 0 rfl) ?_
                                refine lv_bipush (v := 6) hx hb dX6_count_28 (by decide) ?_
                                refine lv_icmp_ge (tgt := 56) hx hb dX6_count_30 (by decide) (fun c17 => ?_) (fun c17 => ?_)
                                · refine lv_iload_n hx hb dX6_count_56 rfl (lv_at hl 3 rfl) ?_
                                  refine lv_if_ne (tgt := 67) hx hb dX6_count_57 (by decide) (fun c18 => ?_) (fun c18 => ?_)
                                  · refine lv_iload_n hx hb dX6_count_67 rfl (lv_at hl 3 rfl) ?_
                                    refine lv_iconst (v := 1) hx hb dX6_count_68 (by decide) ?_
                                    refine lv_icmp_ne (tgt := 81) hx hb dX6_count_69 (by decide) (fun c19 => ?_) (fun c19 => ?_)
                                    · refine lv_iload_n hx hb dX6_count_81 rfl (lv_at hl 3 rfl) ?_
                                      refine lv_iconst (v := 2) hx hb dX6_count_82 (by decide) ?_
                                      refine lv_icmp_ne (tgt := 94) hx hb dX6_count_83 (by decide) (fun c20 => ?_) (fun c20 => ?_)
                                      · refine lv_iload_n hx hb dX6_count_94 rfl (lv_at hl 3 rfl) ?_
                                        refine lv_iconst (v := 3) hx hb dX6_count_95 (by decide) ?_
                                        refine lv_icmp_ne (tgt := 103) hx hb dX6_count_96 (by decide) (fun c21 => ?_) (fun c21 => ?_)
                                        · refine lv_iload_n hx hb dX6_count_103 rfl (lv_at hl 3 rfl) ?_
                                          refine lv_iconst (v := 4) hx hb dX6_count_104 (by decide) ?_
                                          refine lv_icmp_ne (tgt := 123) hx hb dX6_count_105 (by decide) (fun c22 => ?_) (fun c22 => ?_)
                                          · refine lv_aload_n hx hb dX6_count_123 rfl (lv_at hl 2 rfl) ?_
                                            refine m_get (T := TX6) (N := 24) (ci := 6) (v := .int 0) hx hb hts wX6 hown hK hm hM rfl 15 (by decide) f151 (fun _ h9 => h9) rfl dX6_count_124 ?_
                                            refine W.iret (v := 0) hx hb hr (fun t ht hW => ⟨⟨some (.int 0), _, rfl, ?_, by rw [ht]; exact hm⟩, hS.F ht⟩) hS.2.2 dX6_count_127
                                            exact ⟨Or.inr ⟨⟨c1, c3⟩, by first | (rw [c22]; rfl) | (rw [c21]; rfl) | (unfold cv; rw [if_neg (by rintro (h | h); exact c19 h; exact c20 h)]), hF.code⟩, hkp⟩
                                          · refine lv_aload_n hx hb dX6_count_108 rfl (lv_at hl 2 rfl) ?_
                                            refine m_get (T := TX6) (N := 24) (ci := 6) (v := .int 0) hx hb hts wX6 hown hK hm hM rfl 11 (by decide) f94 (fun _ h9 => h9) rfl dX6_count_109 ?_
                                            refine lv_if_eq (tgt := 119) hx hb dX6_count_112 (by decide) (fun c23 => ?_) (fun c23 => ?_)
                                            · refine lv_iconst (v := 0) hx hb dX6_count_119 (by decide) ?_
                                              refine lv_goto (tgt := 127) hx hb dX6_count_120 (by decide) ?_
                                              refine W.iret (v := 0) hx hb hr (fun t ht hW => ⟨⟨some (.int 0), _, rfl, ?_, by rw [ht]; exact hm⟩, hS.F ht⟩) hS.2.2 dX6_count_127
                                              exact ⟨Or.inr ⟨⟨c1, c3⟩, by first | (rw [c23]; rfl) | (rw [c22]; rfl) | (unfold cv; rw [if_neg (by rintro (h | h); exact c19 h; exact c20 h)]), hF.code⟩, hkp⟩
                                            · exact absurd rfl c23
                                        · refine lv_iload_n hx hb dX6_count_99 rfl (lv_at hl 1 rfl) ?_
                                          refine lv_goto (tgt := 127) hx hb dX6_count_100 (by decide) ?_
                                          refine W.iret (v := 0) hx hb hr (fun t ht hW => ⟨⟨some (.int 0), _, rfl, ?_, by rw [ht]; exact hm⟩, hS.F ht⟩) hS.2.2 dX6_count_127
                                          exact ⟨Or.inr ⟨⟨c1, c3⟩, by first | (rw [c21]; rfl) | (rw [c20]; rfl) | (unfold cv; rw [if_neg (by rintro (h | h); exact c19 h; exact c20 h)]), hF.code⟩, hkp⟩
                                      · refine lv_aload_n hx hb dX6_count_86 rfl (lv_at hl 2 rfl) ?_
                                        refine lv_iconst (v := 0) hx hb dX6_count_87 (by decide) ?_
                                        refine m_kV (As := [.int 0]) (rest := []) (rm := { frames := 0, cells := 0, slots := 0, locals := 0 }) ⟨hx, hb, hml, hown, hts⟩ (c_X6_blocks l D k z _ mo 0 hF) (cwV 1 hts gX6_count_X6_blocks rfl rfl rfl (by decide +kernel) ⟨Nat.le_of_ble_eq_true rfl, Nat.le_of_ble_eq_true rfl⟩) (m_recv hK hm (q := (RX6, TX6, 24)) rfl hM) hz hcx hm hS rfl hl.1 rfl (Nat.le_of_ble_eq_true rfl) dX6_count_88 ⟨Nat.le_of_ble_eq_true rfl, Nat.le_of_ble_eq_true rfl⟩ (fun v M1 H locs hv hm hS => ?_)
                                        obtain ⟨hv1, hM1⟩ := hv
                                        subst hv1
                                        rw [hM1] at hm
                                        refine W.eq (g2 := F0 m 91 ls [.int 1]) rfl ?_
                                        refine W.widen (k := 0) (n := 0) (Nat.le_of_ble_eq_true rfl) (Nat.le_of_ble_eq_true rfl) ?_
                                        have hm : mm D (AZ z) Mc2 H := hm
                                        refine lv_goto (tgt := 127) hx hb dX6_count_91 (by decide) ?_
                                        refine W.iret (v := 1) hx hb hr (fun t ht hW => ⟨⟨some (.int 1), _, rfl, ?_, by rw [ht]; exact hm⟩, hS.F ht⟩) hS.2.2 dX6_count_127
                                        exact ⟨Or.inr ⟨⟨c1, c3⟩, by first | (rw [c20]; rfl) | (rw [c19]; rfl) | (unfold cv; rw [if_neg (by rintro (h | h); exact c19 h; exact c20 h)]), hF.code⟩, hkp⟩
                                    · refine lv_aload_n hx hb dX6_count_72 rfl (lv_at hl 2 rfl) ?_
                                      refine m_get (T := TX6) (N := 24) (ci := 6) (v := .ref cn) hx hb hts wX6 hown hK hm hM rfl 1 (by decide) f7 (fun _ h9 => h9) rfl dX6_count_73 ?_
                                      refine lv_iconst (v := 0) hx hb dX6_count_76 (by decide) ?_
                                      refine m_iald hx hb hK hm 0 hcn rfl (by unfold vp_in; decide) dX6_count_77 ?_
                                      refine W.eq (g2 := F0 m 78 ls [.int 1]) (by first | rfl | decide) ?_
                                      refine lv_goto (tgt := 127) hx hb dX6_count_78 (by decide) ?_
                                      refine W.iret (v := 1) hx hb hr (fun t ht hW => ⟨⟨some (.int 1), _, rfl, ?_, by rw [ht]; exact hm⟩, hS.F ht⟩) hS.2.2 dX6_count_127
                                      exact ⟨Or.inr ⟨⟨c1, c3⟩, by first | (rw [c19]; rfl) | (rw [c18]; rfl) | (unfold cv; rw [if_neg (by rintro (h | h); exact c19 h; exact c20 h)]), hF.code⟩, hkp⟩
                                  · refine lv_aload_n hx hb dX6_count_60 rfl (lv_at hl 2 rfl) ?_
                                    refine m_get (T := TX6) (N := 24) (ci := 6) (v := .int 0) hx hb hts wX6 hown hK hm hM rfl 14 (by decide) f157 (fun _ h9 => h9) rfl dX6_count_61 ?_
                                    refine lv_goto (tgt := 127) hx hb dX6_count_64 (by decide) ?_
                                    refine W.iret (v := 0) hx hb hr (fun t ht hW => ⟨⟨some (.int 0), _, rfl, ?_, by rw [ht]; exact hm⟩, hS.F ht⟩) hS.2.2 dX6_count_127
                                    exact ⟨Or.inr ⟨⟨c1, c3⟩, by first | (rw [c18]; rfl) | (rw [c17]; rfl) | (unfold cv; rw [if_neg (by rintro (h | h); exact c19 h; exact c20 h)]), hF.code⟩, hkp⟩
                                · first | exact absurd c17 (by decide) | exact absurd (by decide) c17
                              · exact absurd rfl c16
                          · exact absurd rfl c14
                      · exact absurd rfl c12
                  · exact absurd rfl c10
              · exact absurd rfl c8
          · exact absurd rfl c6
      · first | exact absurd c4 (by decide) | exact absurd (by decide) c4
    · refine lv_iconst (v := 1) hx hb dX6_count_10 (by decide) ?_
      refine lv_goto (tgt := 15) hx hb dX6_count_11 (by decide) ?_
      refine m_kV (As := [.int 1]) (rest := []) (rm := { frames := 0, cells := 0, slots := 0, locals := 0 }) ⟨hx, hb, hml, hown, hts⟩ (cL_X6_fails l D k z _ mo 0 1 hF) (cwV 1 hts gX6_count_X6_fails rfl rfl rfl (by decide +kernel) ⟨Nat.le_of_ble_eq_true rfl, Nat.le_of_ble_eq_true rfl⟩) (m_recv hK hm (q := (RX6, TX6, 24)) rfl hM) hz hcx hm hS rfl hl.1 rfl (Nat.le_of_ble_eq_true rfl) dX6_count_15 ⟨Nat.le_of_ble_eq_true rfl, Nat.le_of_ble_eq_true rfl⟩ (fun v M1 H locs hv hm hS => ?_)
      obtain ⟨hv1, hF, hL9⟩ := hv
      have hv1 : v = some (.int 1) := hv1.trans (by decide)
      subst hv1
      have hkp := hkp.trans hL9
      obtain ⟨Mc3, hMx⟩ : ∃ x : mM, x = M1 := ⟨M1, rfl⟩
      subst hMx
      obtain ⟨cn, ia, dr, en, la, wo, op, mk, ir, se, ec, lc, wc, ol, al, hap, hM, hcn, hia, hdr, hen, hla, hwo, hop, hmk, hir⟩ := id hF
      have ne_mo_cn : mo ≠ cn := pw_ne hap 0 1 (by decide) (Nat.le_of_ble_eq_true rfl)
      have ne_cn_mo : cn ≠ mo := Ne.symm ne_mo_cn
      have ne_mo_ia : mo ≠ ia := pw_ne hap 0 2 (by decide) (Nat.le_of_ble_eq_true rfl)
      have ne_ia_mo : ia ≠ mo := Ne.symm ne_mo_ia
      have ne_mo_dr : mo ≠ dr := pw_ne hap 0 3 (by decide) (Nat.le_of_ble_eq_true rfl)
      have ne_dr_mo : dr ≠ mo := Ne.symm ne_mo_dr
      have ne_mo_en : mo ≠ en := pw_ne hap 0 4 (by decide) (Nat.le_of_ble_eq_true rfl)
      have ne_en_mo : en ≠ mo := Ne.symm ne_mo_en
      have ne_mo_la : mo ≠ la := pw_ne hap 0 5 (by decide) (Nat.le_of_ble_eq_true rfl)
      have ne_la_mo : la ≠ mo := Ne.symm ne_mo_la
      have ne_mo_wo : mo ≠ wo := pw_ne hap 0 6 (by decide) (Nat.le_of_ble_eq_true rfl)
      have ne_wo_mo : wo ≠ mo := Ne.symm ne_mo_wo
      have ne_mo_op : mo ≠ op := pw_ne hap 0 7 (by decide) (Nat.le_of_ble_eq_true rfl)
      have ne_op_mo : op ≠ mo := Ne.symm ne_mo_op
      have ne_mo_mk : mo ≠ mk := pw_ne hap 0 8 (by decide) (Nat.le_of_ble_eq_true rfl)
      have ne_mk_mo : mk ≠ mo := Ne.symm ne_mo_mk
      have ne_mo_ir : mo ≠ ir := pw_ne hap 0 9 (by decide) (Nat.le_of_ble_eq_true rfl)
      have ne_ir_mo : ir ≠ mo := Ne.symm ne_mo_ir
      have ne_cn_ia : cn ≠ ia := pw_ne hap 1 2 (by decide) (Nat.le_of_ble_eq_true rfl)
      have ne_ia_cn : ia ≠ cn := Ne.symm ne_cn_ia
      have ne_cn_dr : cn ≠ dr := pw_ne hap 1 3 (by decide) (Nat.le_of_ble_eq_true rfl)
      have ne_dr_cn : dr ≠ cn := Ne.symm ne_cn_dr
      have ne_cn_en : cn ≠ en := pw_ne hap 1 4 (by decide) (Nat.le_of_ble_eq_true rfl)
      have ne_en_cn : en ≠ cn := Ne.symm ne_cn_en
      have ne_cn_la : cn ≠ la := pw_ne hap 1 5 (by decide) (Nat.le_of_ble_eq_true rfl)
      have ne_la_cn : la ≠ cn := Ne.symm ne_cn_la
      have ne_cn_wo : cn ≠ wo := pw_ne hap 1 6 (by decide) (Nat.le_of_ble_eq_true rfl)
      have ne_wo_cn : wo ≠ cn := Ne.symm ne_cn_wo
      have ne_cn_op : cn ≠ op := pw_ne hap 1 7 (by decide) (Nat.le_of_ble_eq_true rfl)
      have ne_op_cn : op ≠ cn := Ne.symm ne_cn_op
      have ne_cn_mk : cn ≠ mk := pw_ne hap 1 8 (by decide) (Nat.le_of_ble_eq_true rfl)
      have ne_mk_cn : mk ≠ cn := Ne.symm ne_cn_mk
      have ne_cn_ir : cn ≠ ir := pw_ne hap 1 9 (by decide) (Nat.le_of_ble_eq_true rfl)
      have ne_ir_cn : ir ≠ cn := Ne.symm ne_cn_ir
      have ne_ia_dr : ia ≠ dr := pw_ne hap 2 3 (by decide) (Nat.le_of_ble_eq_true rfl)
      have ne_dr_ia : dr ≠ ia := Ne.symm ne_ia_dr
      have ne_ia_en : ia ≠ en := pw_ne hap 2 4 (by decide) (Nat.le_of_ble_eq_true rfl)
      have ne_en_ia : en ≠ ia := Ne.symm ne_ia_en
      have ne_ia_la : ia ≠ la := pw_ne hap 2 5 (by decide) (Nat.le_of_ble_eq_true rfl)
      have ne_la_ia : la ≠ ia := Ne.symm ne_ia_la
      have ne_ia_wo : ia ≠ wo := pw_ne hap 2 6 (by decide) (Nat.le_of_ble_eq_true rfl)
      have ne_wo_ia : wo ≠ ia := Ne.symm ne_ia_wo
      have ne_ia_op : ia ≠ op := pw_ne hap 2 7 (by decide) (Nat.le_of_ble_eq_true rfl)
      have ne_op_ia : op ≠ ia := Ne.symm ne_ia_op
      have ne_ia_mk : ia ≠ mk := pw_ne hap 2 8 (by decide) (Nat.le_of_ble_eq_true rfl)
      have ne_mk_ia : mk ≠ ia := Ne.symm ne_ia_mk
      have ne_ia_ir : ia ≠ ir := pw_ne hap 2 9 (by decide) (Nat.le_of_ble_eq_true rfl)
      have ne_ir_ia : ir ≠ ia := Ne.symm ne_ia_ir
      have ne_dr_en : dr ≠ en := pw_ne hap 3 4 (by decide) (Nat.le_of_ble_eq_true rfl)
      have ne_en_dr : en ≠ dr := Ne.symm ne_dr_en
      have ne_dr_la : dr ≠ la := pw_ne hap 3 5 (by decide) (Nat.le_of_ble_eq_true rfl)
      have ne_la_dr : la ≠ dr := Ne.symm ne_dr_la
      have ne_dr_wo : dr ≠ wo := pw_ne hap 3 6 (by decide) (Nat.le_of_ble_eq_true rfl)
      have ne_wo_dr : wo ≠ dr := Ne.symm ne_dr_wo
      have ne_dr_op : dr ≠ op := pw_ne hap 3 7 (by decide) (Nat.le_of_ble_eq_true rfl)
      have ne_op_dr : op ≠ dr := Ne.symm ne_dr_op
      have ne_dr_mk : dr ≠ mk := pw_ne hap 3 8 (by decide) (Nat.le_of_ble_eq_true rfl)
      have ne_mk_dr : mk ≠ dr := Ne.symm ne_dr_mk
      have ne_dr_ir : dr ≠ ir := pw_ne hap 3 9 (by decide) (Nat.le_of_ble_eq_true rfl)
      have ne_ir_dr : ir ≠ dr := Ne.symm ne_dr_ir
      have ne_en_la : en ≠ la := pw_ne hap 4 5 (by decide) (Nat.le_of_ble_eq_true rfl)
      have ne_la_en : la ≠ en := Ne.symm ne_en_la
      have ne_en_wo : en ≠ wo := pw_ne hap 4 6 (by decide) (Nat.le_of_ble_eq_true rfl)
      have ne_wo_en : wo ≠ en := Ne.symm ne_en_wo
      have ne_en_op : en ≠ op := pw_ne hap 4 7 (by decide) (Nat.le_of_ble_eq_true rfl)
      have ne_op_en : op ≠ en := Ne.symm ne_en_op
      have ne_en_mk : en ≠ mk := pw_ne hap 4 8 (by decide) (Nat.le_of_ble_eq_true rfl)
      have ne_mk_en : mk ≠ en := Ne.symm ne_en_mk
      have ne_en_ir : en ≠ ir := pw_ne hap 4 9 (by decide) (Nat.le_of_ble_eq_true rfl)
      have ne_ir_en : ir ≠ en := Ne.symm ne_en_ir
      have ne_la_wo : la ≠ wo := pw_ne hap 5 6 (by decide) (Nat.le_of_ble_eq_true rfl)
      have ne_wo_la : wo ≠ la := Ne.symm ne_la_wo
      have ne_la_op : la ≠ op := pw_ne hap 5 7 (by decide) (Nat.le_of_ble_eq_true rfl)
      have ne_op_la : op ≠ la := Ne.symm ne_la_op
      have ne_la_mk : la ≠ mk := pw_ne hap 5 8 (by decide) (Nat.le_of_ble_eq_true rfl)
      have ne_mk_la : mk ≠ la := Ne.symm ne_la_mk
      have ne_la_ir : la ≠ ir := pw_ne hap 5 9 (by decide) (Nat.le_of_ble_eq_true rfl)
      have ne_ir_la : ir ≠ la := Ne.symm ne_la_ir
      have ne_wo_op : wo ≠ op := pw_ne hap 6 7 (by decide) (Nat.le_of_ble_eq_true rfl)
      have ne_op_wo : op ≠ wo := Ne.symm ne_wo_op
      have ne_wo_mk : wo ≠ mk := pw_ne hap 6 8 (by decide) (Nat.le_of_ble_eq_true rfl)
      have ne_mk_wo : mk ≠ wo := Ne.symm ne_wo_mk
      have ne_wo_ir : wo ≠ ir := pw_ne hap 6 9 (by decide) (Nat.le_of_ble_eq_true rfl)
      have ne_ir_wo : ir ≠ wo := Ne.symm ne_wo_ir
      have ne_op_mk : op ≠ mk := pw_ne hap 7 8 (by decide) (Nat.le_of_ble_eq_true rfl)
      have ne_mk_op : mk ≠ op := Ne.symm ne_op_mk
      have ne_op_ir : op ≠ ir := pw_ne hap 7 9 (by decide) (Nat.le_of_ble_eq_true rfl)
      have ne_ir_op : ir ≠ op := Ne.symm ne_op_ir
      have ne_mk_ir : mk ≠ ir := pw_ne hap 8 9 (by decide) (Nat.le_of_ble_eq_true rfl)
      have ne_ir_mk : ir ≠ mk := Ne.symm ne_mk_ir
      refine W.eq (g2 := F0 m 18 ls [.int 1]) rfl ?_
      refine W.widen (k := 0) (n := 0) (Nat.le_of_ble_eq_true rfl) (Nat.le_of_ble_eq_true rfl) ?_
      have hm : mm D (AZ z) Mc3 H := hm
      refine lv_if_eq (tgt := 23) hx hb dX6_count_18 (by decide) (fun c24 => ?_) (fun c24 => ?_)
      · first | exact absurd c24 (by decide) | exact absurd (by decide) c24
      · refine lv_iconst (v := 0) hx hb dX6_count_21 (by decide) ?_
        refine W.iret (v := 0) hx hb hr (fun t ht hW => ⟨⟨some (.int 0), _, rfl, ?_, by rw [ht]; exact hm⟩, hS.F ht⟩) hS.2.2 dX6_count_22
        first
          | exact ⟨Or.inl ⟨Or.inl c1, rfl, hF.code⟩, hkp⟩
          | exact ⟨Or.inl ⟨Or.inr c3, rfl, hF.code⟩, hkp⟩

set_option maxHeartbeats 4000000 in
set_option maxRecDepth 100000 in
theorem cL_X6_kind (l : Launch) (D : va_G) (k : Nat → ClassId) (z : Nat) (M : mM) (mo : Nat) (t path : Int32) (hF : mFr k M mo 0) : mK l yX6_kind wsX6_kind ({ frames := 3, cells := 0, slots := 0, locals := 73 }) D k z [.ref mo, .int t, .int path] M (fun v M' => ((t ≠ -1 ∧ v = some (.int 0) ∧ codeIs M' mo 1) ∨ (t = -1 ∧ ((¬ isP path ∧ v = some (.int 0) ∧ codeIs M' mo 2) ∨ (isP path ∧ path = 0 ∧ v = some (.int 1) ∧ codeIs M' mo 0) ∨ (isP path ∧ path ≠ 0 ∧ v = some (.int 0) ∧ codeIs M' mo 0)))) ∧ kL k M M') := by
  refine Met.ofW (cc := cX6_kind) (maxL := 4) (ret := (some .int)) (by decide) rfl ?_
  intro p e s m args below meth c s₁ B hml hv
  obtain ⟨rfl, hz, hcx, hm⟩ := hv
  have hx := B.exec
  have hb := B.bytes
  have hr := B.returns
  have hts := atoms_spec (ws := wsX6_kind) B.pre
  have hown : s.vm.findClass RX6 = some m.cls := findClass_of_methodNamed B.named
  have hlocks := B.notSynchronized
  have hK := hcx.1
  have hS : va_S (AZ z) s.heap s.heap [] := va_S.rf
  have hA : ∀ q, s.heap.size ≤ q → AZ z q := fun q h => Nat.le_trans hz h
  have hl := lv_entry ([.ref mo, .int t, .int path]) (n := 4) (Nat.le_of_ble_eq_true rfl)
  rw [lg_entry_eq]
  generalize (lg_sl ([.ref mo, .int t, .int path]) ++ List.replicate (4 - (lg_sl ([.ref mo, .int t, .int path])).length) Slot.unset).toArray = ls at hl ⊢
  have hl : lv_has ls 4 [(0, .ref mo), (1, .int t), (2, .int path)] := hl
  have f16 := hts (.fieldLink RX6 16 "CommitTreeModel" "dirs" "[Z") (by decide +kernel)
  have wX6 : ∀ w ∈ wsX60, w ∈ wsX6_kind := by decide +kernel
  obtain ⟨cn, ia, dr, en, la, wo, op, mk, ir, se, ec, lc, wc, ol, al, hap, hM, hcn, hia, hdr, hen, hla, hwo, hop, hmk, hir⟩ := id hF
  have ne_mo_cn : mo ≠ cn := pw_ne hap 0 1 (by decide) (Nat.le_of_ble_eq_true rfl)
  have ne_cn_mo : cn ≠ mo := Ne.symm ne_mo_cn
  have ne_mo_ia : mo ≠ ia := pw_ne hap 0 2 (by decide) (Nat.le_of_ble_eq_true rfl)
  have ne_ia_mo : ia ≠ mo := Ne.symm ne_mo_ia
  have ne_mo_dr : mo ≠ dr := pw_ne hap 0 3 (by decide) (Nat.le_of_ble_eq_true rfl)
  have ne_dr_mo : dr ≠ mo := Ne.symm ne_mo_dr
  have ne_mo_en : mo ≠ en := pw_ne hap 0 4 (by decide) (Nat.le_of_ble_eq_true rfl)
  have ne_en_mo : en ≠ mo := Ne.symm ne_mo_en
  have ne_mo_la : mo ≠ la := pw_ne hap 0 5 (by decide) (Nat.le_of_ble_eq_true rfl)
  have ne_la_mo : la ≠ mo := Ne.symm ne_mo_la
  have ne_mo_wo : mo ≠ wo := pw_ne hap 0 6 (by decide) (Nat.le_of_ble_eq_true rfl)
  have ne_wo_mo : wo ≠ mo := Ne.symm ne_mo_wo
  have ne_mo_op : mo ≠ op := pw_ne hap 0 7 (by decide) (Nat.le_of_ble_eq_true rfl)
  have ne_op_mo : op ≠ mo := Ne.symm ne_mo_op
  have ne_mo_mk : mo ≠ mk := pw_ne hap 0 8 (by decide) (Nat.le_of_ble_eq_true rfl)
  have ne_mk_mo : mk ≠ mo := Ne.symm ne_mo_mk
  have ne_mo_ir : mo ≠ ir := pw_ne hap 0 9 (by decide) (Nat.le_of_ble_eq_true rfl)
  have ne_ir_mo : ir ≠ mo := Ne.symm ne_mo_ir
  have hkp : kL k M M := kL.refl _
  refine lv_aload_n hx hb dX6_kind_0 rfl (lv_at hl 0 rfl) ?_
  refine lv_aload_n hx hb dX6_kind_1 rfl (lv_at hl 0 rfl) ?_
  refine lv_iload_n hx hb dX6_kind_2 rfl (lv_at hl 1 rfl) ?_
  refine m_kV (As := [.int t]) (rest := [.ref mo]) (rm := { frames := 1, cells := 0, slots := 0, locals := 21 }) ⟨hx, hb, hml, hown, hts⟩ (c_X6_mayLook l D k z _ mo 0 t hF) (cwV 1 hts gX6_kind_X6_mayLook rfl rfl rfl (by decide +kernel) ⟨Nat.le_of_ble_eq_true rfl, Nat.le_of_ble_eq_true rfl⟩) (m_recv hK hm (q := (RX6, TX6, 24)) rfl hM) hz hcx hm hS rfl hl.1 rfl (Nat.le_of_ble_eq_true rfl) dX6_kind_3 ⟨Nat.le_of_ble_eq_true rfl, Nat.le_of_ble_eq_true rfl⟩ (fun v M1 H locs hv hm hS => ?_)
  obtain ⟨hv2, hM1⟩ := hv
  rw [hM1] at hm
  rcases hv2 with ⟨ht9, hv1⟩ | ⟨ht9, hv1⟩
  · subst hv1
    subst ht9
    refine W.eq (g2 := F0 m 6 ls [.int 1, .ref mo]) rfl ?_
    refine W.widen (k := 0) (n := 0) (Nat.le_of_ble_eq_true rfl) (Nat.le_of_ble_eq_true rfl) ?_
    have hm : mm D (AZ z) M H := hm
    refine lv_if_ne (tgt := 13) hx hb dX6_kind_6 (by decide) (fun c1 => ?_) (fun c1 => ?_)
    · refine lv_iload_n hx hb dX6_kind_13 rfl (lv_at hl 2 rfl) ?_
      refine m_kS (As := [.int path]) (rest := [.ref mo]) (rm := { frames := 0, cells := 0, slots := 0, locals := 0 }) ⟨hx, hb, hml, hown, hts⟩ (c_X6_isPath l D k z _ path) (cwS 1 hts gX6_kind_X6_isPath rfl rfl rfl (by decide +kernel) ⟨Nat.le_of_ble_eq_true rfl, Nat.le_of_ble_eq_true rfl⟩) hz hcx hm hS rfl hl.1 rfl (Nat.le_of_ble_eq_true rfl) dX6_kind_14 ⟨Nat.le_of_ble_eq_true rfl, Nat.le_of_ble_eq_true rfl⟩ (fun v M1 H locs hv hm hS => ?_)
      obtain ⟨hv2, hM1⟩ := hv
      rw [hM1] at hm
      rcases hv2 with ⟨hp9, hv1⟩ | ⟨hp9, hv1⟩
      · subst hv1
        refine W.eq (g2 := F0 m 17 ls [.int 1, .ref mo]) rfl ?_
        refine W.widen (k := 0) (n := 0) (Nat.le_of_ble_eq_true rfl) (Nat.le_of_ble_eq_true rfl) ?_
        have hm : mm D (AZ z) M H := hm
        refine lv_if_ne (tgt := 24) hx hb dX6_kind_17 (by decide) (fun c2 => ?_) (fun c2 => ?_)
        · refine lv_iconst (v := 0) hx hb dX6_kind_24 (by decide) ?_
          refine m_kV (As := [.int 0]) (rest := []) (rm := { frames := 0, cells := 0, slots := 0, locals := 0 }) ⟨hx, hb, hml, hown, hts⟩ (cL_X6_fails l D k z _ mo 0 0 hF) (cwV 1 hts gX6_kind_X6_fails rfl rfl rfl (by decide +kernel) ⟨Nat.le_of_ble_eq_true rfl, Nat.le_of_ble_eq_true rfl⟩) (m_recv hK hm (q := (RX6, TX6, 24)) rfl hM) hz hcx hm hS rfl hl.1 rfl (Nat.le_of_ble_eq_true rfl) dX6_kind_25 ⟨Nat.le_of_ble_eq_true rfl, Nat.le_of_ble_eq_true rfl⟩ (fun v M1 H locs hv hm hS => ?_)
          obtain ⟨hv1, hF, hL9⟩ := hv
          have hv1 : v = some (.int 0) := hv1.trans (by decide)
          subst hv1
          have hkp := hkp.trans hL9
          obtain ⟨Mc1, hMx⟩ : ∃ x : mM, x = M1 := ⟨M1, rfl⟩
          subst hMx
          obtain ⟨cn, ia, dr, en, la, wo, op, mk, ir, se, ec, lc, wc, ol, al, hap, hM, hcn, hia, hdr, hen, hla, hwo, hop, hmk, hir⟩ := id hF
          have ne_mo_cn : mo ≠ cn := pw_ne hap 0 1 (by decide) (Nat.le_of_ble_eq_true rfl)
          have ne_cn_mo : cn ≠ mo := Ne.symm ne_mo_cn
          have ne_mo_ia : mo ≠ ia := pw_ne hap 0 2 (by decide) (Nat.le_of_ble_eq_true rfl)
          have ne_ia_mo : ia ≠ mo := Ne.symm ne_mo_ia
          have ne_mo_dr : mo ≠ dr := pw_ne hap 0 3 (by decide) (Nat.le_of_ble_eq_true rfl)
          have ne_dr_mo : dr ≠ mo := Ne.symm ne_mo_dr
          have ne_mo_en : mo ≠ en := pw_ne hap 0 4 (by decide) (Nat.le_of_ble_eq_true rfl)
          have ne_en_mo : en ≠ mo := Ne.symm ne_mo_en
          have ne_mo_la : mo ≠ la := pw_ne hap 0 5 (by decide) (Nat.le_of_ble_eq_true rfl)
          have ne_la_mo : la ≠ mo := Ne.symm ne_mo_la
          have ne_mo_wo : mo ≠ wo := pw_ne hap 0 6 (by decide) (Nat.le_of_ble_eq_true rfl)
          have ne_wo_mo : wo ≠ mo := Ne.symm ne_mo_wo
          have ne_mo_op : mo ≠ op := pw_ne hap 0 7 (by decide) (Nat.le_of_ble_eq_true rfl)
          have ne_op_mo : op ≠ mo := Ne.symm ne_mo_op
          have ne_mo_mk : mo ≠ mk := pw_ne hap 0 8 (by decide) (Nat.le_of_ble_eq_true rfl)
          have ne_mk_mo : mk ≠ mo := Ne.symm ne_mo_mk
          have ne_mo_ir : mo ≠ ir := pw_ne hap 0 9 (by decide) (Nat.le_of_ble_eq_true rfl)
          have ne_ir_mo : ir ≠ mo := Ne.symm ne_mo_ir
          have ne_cn_ia : cn ≠ ia := pw_ne hap 1 2 (by decide) (Nat.le_of_ble_eq_true rfl)
          have ne_ia_cn : ia ≠ cn := Ne.symm ne_cn_ia
          have ne_cn_dr : cn ≠ dr := pw_ne hap 1 3 (by decide) (Nat.le_of_ble_eq_true rfl)
          have ne_dr_cn : dr ≠ cn := Ne.symm ne_cn_dr
          have ne_cn_en : cn ≠ en := pw_ne hap 1 4 (by decide) (Nat.le_of_ble_eq_true rfl)
          have ne_en_cn : en ≠ cn := Ne.symm ne_cn_en
          have ne_cn_la : cn ≠ la := pw_ne hap 1 5 (by decide) (Nat.le_of_ble_eq_true rfl)
          have ne_la_cn : la ≠ cn := Ne.symm ne_cn_la
          have ne_cn_wo : cn ≠ wo := pw_ne hap 1 6 (by decide) (Nat.le_of_ble_eq_true rfl)
          have ne_wo_cn : wo ≠ cn := Ne.symm ne_cn_wo
          have ne_cn_op : cn ≠ op := pw_ne hap 1 7 (by decide) (Nat.le_of_ble_eq_true rfl)
          have ne_op_cn : op ≠ cn := Ne.symm ne_cn_op
          have ne_cn_mk : cn ≠ mk := pw_ne hap 1 8 (by decide) (Nat.le_of_ble_eq_true rfl)
          have ne_mk_cn : mk ≠ cn := Ne.symm ne_cn_mk
          have ne_cn_ir : cn ≠ ir := pw_ne hap 1 9 (by decide) (Nat.le_of_ble_eq_true rfl)
          have ne_ir_cn : ir ≠ cn := Ne.symm ne_cn_ir
          have ne_ia_dr : ia ≠ dr := pw_ne hap 2 3 (by decide) (Nat.le_of_ble_eq_true rfl)
          have ne_dr_ia : dr ≠ ia := Ne.symm ne_ia_dr
          have ne_ia_en : ia ≠ en := pw_ne hap 2 4 (by decide) (Nat.le_of_ble_eq_true rfl)
          have ne_en_ia : en ≠ ia := Ne.symm ne_ia_en
          have ne_ia_la : ia ≠ la := pw_ne hap 2 5 (by decide) (Nat.le_of_ble_eq_true rfl)
          have ne_la_ia : la ≠ ia := Ne.symm ne_ia_la
          have ne_ia_wo : ia ≠ wo := pw_ne hap 2 6 (by decide) (Nat.le_of_ble_eq_true rfl)
          have ne_wo_ia : wo ≠ ia := Ne.symm ne_ia_wo
          have ne_ia_op : ia ≠ op := pw_ne hap 2 7 (by decide) (Nat.le_of_ble_eq_true rfl)
          have ne_op_ia : op ≠ ia := Ne.symm ne_ia_op
          have ne_ia_mk : ia ≠ mk := pw_ne hap 2 8 (by decide) (Nat.le_of_ble_eq_true rfl)
          have ne_mk_ia : mk ≠ ia := Ne.symm ne_ia_mk
          have ne_ia_ir : ia ≠ ir := pw_ne hap 2 9 (by decide) (Nat.le_of_ble_eq_true rfl)
          have ne_ir_ia : ir ≠ ia := Ne.symm ne_ia_ir
          have ne_dr_en : dr ≠ en := pw_ne hap 3 4 (by decide) (Nat.le_of_ble_eq_true rfl)
          have ne_en_dr : en ≠ dr := Ne.symm ne_dr_en
          have ne_dr_la : dr ≠ la := pw_ne hap 3 5 (by decide) (Nat.le_of_ble_eq_true rfl)
          have ne_la_dr : la ≠ dr := Ne.symm ne_dr_la
          have ne_dr_wo : dr ≠ wo := pw_ne hap 3 6 (by decide) (Nat.le_of_ble_eq_true rfl)
          have ne_wo_dr : wo ≠ dr := Ne.symm ne_dr_wo
          have ne_dr_op : dr ≠ op := pw_ne hap 3 7 (by decide) (Nat.le_of_ble_eq_true rfl)
          have ne_op_dr : op ≠ dr := Ne.symm ne_dr_op
          have ne_dr_mk : dr ≠ mk := pw_ne hap 3 8 (by decide) (Nat.le_of_ble_eq_true rfl)
          have ne_mk_dr : mk ≠ dr := Ne.symm ne_dr_mk
          have ne_dr_ir : dr ≠ ir := pw_ne hap 3 9 (by decide) (Nat.le_of_ble_eq_true rfl)
          have ne_ir_dr : ir ≠ dr := Ne.symm ne_dr_ir
          have ne_en_la : en ≠ la := pw_ne hap 4 5 (by decide) (Nat.le_of_ble_eq_true rfl)
          have ne_la_en : la ≠ en := Ne.symm ne_en_la
          have ne_en_wo : en ≠ wo := pw_ne hap 4 6 (by decide) (Nat.le_of_ble_eq_true rfl)
          have ne_wo_en : wo ≠ en := Ne.symm ne_en_wo
          have ne_en_op : en ≠ op := pw_ne hap 4 7 (by decide) (Nat.le_of_ble_eq_true rfl)
          have ne_op_en : op ≠ en := Ne.symm ne_en_op
          have ne_en_mk : en ≠ mk := pw_ne hap 4 8 (by decide) (Nat.le_of_ble_eq_true rfl)
          have ne_mk_en : mk ≠ en := Ne.symm ne_en_mk
          have ne_en_ir : en ≠ ir := pw_ne hap 4 9 (by decide) (Nat.le_of_ble_eq_true rfl)
          have ne_ir_en : ir ≠ en := Ne.symm ne_en_ir
          have ne_la_wo : la ≠ wo := pw_ne hap 5 6 (by decide) (Nat.le_of_ble_eq_true rfl)
          have ne_wo_la : wo ≠ la := Ne.symm ne_la_wo
          have ne_la_op : la ≠ op := pw_ne hap 5 7 (by decide) (Nat.le_of_ble_eq_true rfl)
          have ne_op_la : op ≠ la := Ne.symm ne_la_op
          have ne_la_mk : la ≠ mk := pw_ne hap 5 8 (by decide) (Nat.le_of_ble_eq_true rfl)
          have ne_mk_la : mk ≠ la := Ne.symm ne_la_mk
          have ne_la_ir : la ≠ ir := pw_ne hap 5 9 (by decide) (Nat.le_of_ble_eq_true rfl)
          have ne_ir_la : ir ≠ la := Ne.symm ne_la_ir
          have ne_wo_op : wo ≠ op := pw_ne hap 6 7 (by decide) (Nat.le_of_ble_eq_true rfl)
          have ne_op_wo : op ≠ wo := Ne.symm ne_wo_op
          have ne_wo_mk : wo ≠ mk := pw_ne hap 6 8 (by decide) (Nat.le_of_ble_eq_true rfl)
          have ne_mk_wo : mk ≠ wo := Ne.symm ne_wo_mk
          have ne_wo_ir : wo ≠ ir := pw_ne hap 6 9 (by decide) (Nat.le_of_ble_eq_true rfl)
          have ne_ir_wo : ir ≠ wo := Ne.symm ne_wo_ir
          have ne_op_mk : op ≠ mk := pw_ne hap 7 8 (by decide) (Nat.le_of_ble_eq_true rfl)
          have ne_mk_op : mk ≠ op := Ne.symm ne_op_mk
          have ne_op_ir : op ≠ ir := pw_ne hap 7 9 (by decide) (Nat.le_of_ble_eq_true rfl)
          have ne_ir_op : ir ≠ op := Ne.symm ne_op_ir
          have ne_mk_ir : mk ≠ ir := pw_ne hap 8 9 (by decide) (Nat.le_of_ble_eq_true rfl)
          have ne_ir_mk : ir ≠ mk := Ne.symm ne_mk_ir
          refine W.eq (g2 := F0 m 28 ls [.int 0]) rfl ?_
          refine W.widen (k := 0) (n := 0) (Nat.le_of_ble_eq_true rfl) (Nat.le_of_ble_eq_true rfl) ?_
          have hm : mm D (AZ z) Mc1 H := hm
          refine lv_if_eq (tgt := 33) hx hb dX6_kind_28 (by decide) (fun c3 => ?_) (fun c3 => ?_)
          · refine lv_aload_n hx hb dX6_kind_33 rfl (lv_at hl 0 rfl) ?_
            refine lv_iload_n hx hb dX6_kind_34 rfl (lv_at hl 1 rfl) ?_
            refine lv_iload_n hx hb dX6_kind_35 rfl (lv_at hl 2 rfl) ?_
            refine m_kV (As := [.int (-1), .int path]) (rest := []) (rm := { frames := 2, cells := 0, slots := 0, locals := 48 }) ⟨hx, hb, hml, hown, hts⟩ (c_X6_lookUp l D k z _ mo path 0 hp9 hF) (cwV 2 hts gX6_kind_X6_lookUp rfl rfl rfl (by decide +kernel) ⟨Nat.le_of_ble_eq_true rfl, Nat.le_of_ble_eq_true rfl⟩) (m_recv hK hm (q := (RX6, TX6, 24)) rfl hM) hz hcx hm hS rfl hl.1 rfl (Nat.le_of_ble_eq_true rfl) dX6_kind_36 ⟨Nat.le_of_ble_eq_true rfl, Nat.le_of_ble_eq_true rfl⟩ (fun v M1 H locs hv hm hS => ?_)
            obtain ⟨hv2, hM1⟩ := hv
            rw [hM1] at hm
            rcases hv2 with ⟨h09, hv1⟩ | ⟨h09, hv1⟩
            · subst hv1
              refine W.eq (g2 := F0 m 39 ls [.int 0]) rfl ?_
              refine W.widen (k := 0) (n := 0) (Nat.le_of_ble_eq_true rfl) (Nat.le_of_ble_eq_true rfl) ?_
              have hm : mm D (AZ z) Mc1 H := hm
              refine lv_istore_n (lv' := [(3, .int 0), (0, .ref mo), (1, .int (-1)), (2, .int path)]) hx hb dX6_kind_39 rfl hl (by decide) rfl (fun ls hl => ?_)
              refine lv_iload_n hx hb dX6_kind_40 rfl (lv_at hl 0 rfl) ?_
              refine lv_if_ge (tgt := 48) hx hb dX6_kind_41 (by decide) (fun c4 => ?_) (fun c4 => ?_)
              · refine lv_aload_n hx hb dX6_kind_48 rfl (lv_at hl 1 rfl) ?_
                refine m_get (T := TX6) (N := 24) (ci := 6) (v := .ref dr) hx hb hts wX6 hown hK hm hM rfl 3 (by decide) f16 (fun _ h9 => h9) rfl dX6_kind_49 ?_
                refine lv_iload_n hx hb dX6_kind_52 rfl (lv_at hl 0 rfl) ?_
                refine m_zald hx hb hK hm 2 hdr rfl (by unfold vp_in; decide) dX6_kind_53 ?_
                refine lv_if_eq (tgt := 61) hx hb dX6_kind_54 (by decide) (fun c5 => ?_) (fun c5 => ?_)
                · exact absurd c5 (by decide)
                · refine lv_iconst (v := 1) hx hb dX6_kind_57 (by decide) ?_
                  refine lv_goto (tgt := 62) hx hb dX6_kind_58 (by decide) ?_
                  refine W.iret (v := 1) hx hb hr (fun t ht hW => ⟨⟨some (.int 1), _, rfl, ?_, by rw [ht]; exact hm⟩, hS.F ht⟩) hS.2.2 dX6_kind_62
                  first
                    | exact ⟨Or.inr ⟨rfl, Or.inr (Or.inl ⟨hp9, h09, rfl, hF.code⟩)⟩, hkp⟩
                    | exact ⟨Or.inr ⟨rfl, Or.inr (Or.inr ⟨hp9, h09, rfl, hF.code⟩)⟩, hkp⟩
              · first | exact absurd c4 (by decide) | exact absurd (by decide) c4
            · subst hv1
              refine W.eq (g2 := F0 m 39 ls [.int (-1)]) rfl ?_
              refine W.widen (k := 0) (n := 0) (Nat.le_of_ble_eq_true rfl) (Nat.le_of_ble_eq_true rfl) ?_
              have hm : mm D (AZ z) Mc1 H := hm
              refine lv_istore_n (lv' := [(3, .int (-1)), (0, .ref mo), (1, .int (-1)), (2, .int path)]) hx hb dX6_kind_39 rfl hl (by decide) rfl (fun ls hl => ?_)
              refine lv_iload_n hx hb dX6_kind_40 rfl (lv_at hl 0 rfl) ?_
              refine lv_if_ge (tgt := 48) hx hb dX6_kind_41 (by decide) (fun c6 => ?_) (fun c6 => ?_)
              · first | exact absurd c6 (by decide) | exact absurd (by decide) c6
              · refine lv_iconst (v := 0) hx hb dX6_kind_44 (by decide) ?_
                refine lv_goto (tgt := 62) hx hb dX6_kind_45 (by decide) ?_
                refine W.iret (v := 0) hx hb hr (fun t ht hW => ⟨⟨some (.int 0), _, rfl, ?_, by rw [ht]; exact hm⟩, hS.F ht⟩) hS.2.2 dX6_kind_62
                first
                  | exact ⟨Or.inr ⟨rfl, Or.inr (Or.inl ⟨hp9, h09, rfl, hF.code⟩)⟩, hkp⟩
                  | exact ⟨Or.inr ⟨rfl, Or.inr (Or.inr ⟨hp9, h09, rfl, hF.code⟩)⟩, hkp⟩
          · first | exact absurd c3 (by decide) | exact absurd (by decide) c3
        · first | exact absurd c2 (by decide) | exact absurd (by decide) c2
      · subst hv1
        refine W.eq (g2 := F0 m 17 ls [.int 0, .ref mo]) rfl ?_
        refine W.widen (k := 0) (n := 0) (Nat.le_of_ble_eq_true rfl) (Nat.le_of_ble_eq_true rfl) ?_
        have hm : mm D (AZ z) M H := hm
        refine lv_if_ne (tgt := 24) hx hb dX6_kind_17 (by decide) (fun c7 => ?_) (fun c7 => ?_)
        · first | exact absurd c7 (by decide) | exact absurd (by decide) c7
        · refine lv_iconst (v := 2) hx hb dX6_kind_20 (by decide) ?_
          refine lv_goto (tgt := 25) hx hb dX6_kind_21 (by decide) ?_
          refine m_kV (As := [.int 2]) (rest := []) (rm := { frames := 0, cells := 0, slots := 0, locals := 0 }) ⟨hx, hb, hml, hown, hts⟩ (cL_X6_fails l D k z _ mo 0 2 hF) (cwV 1 hts gX6_kind_X6_fails rfl rfl rfl (by decide +kernel) ⟨Nat.le_of_ble_eq_true rfl, Nat.le_of_ble_eq_true rfl⟩) (m_recv hK hm (q := (RX6, TX6, 24)) rfl hM) hz hcx hm hS rfl hl.1 rfl (Nat.le_of_ble_eq_true rfl) dX6_kind_25 ⟨Nat.le_of_ble_eq_true rfl, Nat.le_of_ble_eq_true rfl⟩ (fun v M1 H locs hv hm hS => ?_)
          obtain ⟨hv1, hF, hL9⟩ := hv
          have hv1 : v = some (.int 1) := hv1.trans (by decide)
          subst hv1
          have hkp := hkp.trans hL9
          obtain ⟨Mc2, hMx⟩ : ∃ x : mM, x = M1 := ⟨M1, rfl⟩
          subst hMx
          obtain ⟨cn, ia, dr, en, la, wo, op, mk, ir, se, ec, lc, wc, ol, al, hap, hM, hcn, hia, hdr, hen, hla, hwo, hop, hmk, hir⟩ := id hF
          have ne_mo_cn : mo ≠ cn := pw_ne hap 0 1 (by decide) (Nat.le_of_ble_eq_true rfl)
          have ne_cn_mo : cn ≠ mo := Ne.symm ne_mo_cn
          have ne_mo_ia : mo ≠ ia := pw_ne hap 0 2 (by decide) (Nat.le_of_ble_eq_true rfl)
          have ne_ia_mo : ia ≠ mo := Ne.symm ne_mo_ia
          have ne_mo_dr : mo ≠ dr := pw_ne hap 0 3 (by decide) (Nat.le_of_ble_eq_true rfl)
          have ne_dr_mo : dr ≠ mo := Ne.symm ne_mo_dr
          have ne_mo_en : mo ≠ en := pw_ne hap 0 4 (by decide) (Nat.le_of_ble_eq_true rfl)
          have ne_en_mo : en ≠ mo := Ne.symm ne_mo_en
          have ne_mo_la : mo ≠ la := pw_ne hap 0 5 (by decide) (Nat.le_of_ble_eq_true rfl)
          have ne_la_mo : la ≠ mo := Ne.symm ne_mo_la
          have ne_mo_wo : mo ≠ wo := pw_ne hap 0 6 (by decide) (Nat.le_of_ble_eq_true rfl)
          have ne_wo_mo : wo ≠ mo := Ne.symm ne_mo_wo
          have ne_mo_op : mo ≠ op := pw_ne hap 0 7 (by decide) (Nat.le_of_ble_eq_true rfl)
          have ne_op_mo : op ≠ mo := Ne.symm ne_mo_op
          have ne_mo_mk : mo ≠ mk := pw_ne hap 0 8 (by decide) (Nat.le_of_ble_eq_true rfl)
          have ne_mk_mo : mk ≠ mo := Ne.symm ne_mo_mk
          have ne_mo_ir : mo ≠ ir := pw_ne hap 0 9 (by decide) (Nat.le_of_ble_eq_true rfl)
          have ne_ir_mo : ir ≠ mo := Ne.symm ne_mo_ir
          have ne_cn_ia : cn ≠ ia := pw_ne hap 1 2 (by decide) (Nat.le_of_ble_eq_true rfl)
          have ne_ia_cn : ia ≠ cn := Ne.symm ne_cn_ia
          have ne_cn_dr : cn ≠ dr := pw_ne hap 1 3 (by decide) (Nat.le_of_ble_eq_true rfl)
          have ne_dr_cn : dr ≠ cn := Ne.symm ne_cn_dr
          have ne_cn_en : cn ≠ en := pw_ne hap 1 4 (by decide) (Nat.le_of_ble_eq_true rfl)
          have ne_en_cn : en ≠ cn := Ne.symm ne_cn_en
          have ne_cn_la : cn ≠ la := pw_ne hap 1 5 (by decide) (Nat.le_of_ble_eq_true rfl)
          have ne_la_cn : la ≠ cn := Ne.symm ne_cn_la
          have ne_cn_wo : cn ≠ wo := pw_ne hap 1 6 (by decide) (Nat.le_of_ble_eq_true rfl)
          have ne_wo_cn : wo ≠ cn := Ne.symm ne_cn_wo
          have ne_cn_op : cn ≠ op := pw_ne hap 1 7 (by decide) (Nat.le_of_ble_eq_true rfl)
          have ne_op_cn : op ≠ cn := Ne.symm ne_cn_op
          have ne_cn_mk : cn ≠ mk := pw_ne hap 1 8 (by decide) (Nat.le_of_ble_eq_true rfl)
          have ne_mk_cn : mk ≠ cn := Ne.symm ne_cn_mk
          have ne_cn_ir : cn ≠ ir := pw_ne hap 1 9 (by decide) (Nat.le_of_ble_eq_true rfl)
          have ne_ir_cn : ir ≠ cn := Ne.symm ne_cn_ir
          have ne_ia_dr : ia ≠ dr := pw_ne hap 2 3 (by decide) (Nat.le_of_ble_eq_true rfl)
          have ne_dr_ia : dr ≠ ia := Ne.symm ne_ia_dr
          have ne_ia_en : ia ≠ en := pw_ne hap 2 4 (by decide) (Nat.le_of_ble_eq_true rfl)
          have ne_en_ia : en ≠ ia := Ne.symm ne_ia_en
          have ne_ia_la : ia ≠ la := pw_ne hap 2 5 (by decide) (Nat.le_of_ble_eq_true rfl)
          have ne_la_ia : la ≠ ia := Ne.symm ne_ia_la
          have ne_ia_wo : ia ≠ wo := pw_ne hap 2 6 (by decide) (Nat.le_of_ble_eq_true rfl)
          have ne_wo_ia : wo ≠ ia := Ne.symm ne_ia_wo
          have ne_ia_op : ia ≠ op := pw_ne hap 2 7 (by decide) (Nat.le_of_ble_eq_true rfl)
          have ne_op_ia : op ≠ ia := Ne.symm ne_ia_op
          have ne_ia_mk : ia ≠ mk := pw_ne hap 2 8 (by decide) (Nat.le_of_ble_eq_true rfl)
          have ne_mk_ia : mk ≠ ia := Ne.symm ne_ia_mk
          have ne_ia_ir : ia ≠ ir := pw_ne hap 2 9 (by decide) (Nat.le_of_ble_eq_true rfl)
          have ne_ir_ia : ir ≠ ia := Ne.symm ne_ia_ir
          have ne_dr_en : dr ≠ en := pw_ne hap 3 4 (by decide) (Nat.le_of_ble_eq_true rfl)
          have ne_en_dr : en ≠ dr := Ne.symm ne_dr_en
          have ne_dr_la : dr ≠ la := pw_ne hap 3 5 (by decide) (Nat.le_of_ble_eq_true rfl)
          have ne_la_dr : la ≠ dr := Ne.symm ne_dr_la
          have ne_dr_wo : dr ≠ wo := pw_ne hap 3 6 (by decide) (Nat.le_of_ble_eq_true rfl)
          have ne_wo_dr : wo ≠ dr := Ne.symm ne_dr_wo
          have ne_dr_op : dr ≠ op := pw_ne hap 3 7 (by decide) (Nat.le_of_ble_eq_true rfl)
          have ne_op_dr : op ≠ dr := Ne.symm ne_dr_op
          have ne_dr_mk : dr ≠ mk := pw_ne hap 3 8 (by decide) (Nat.le_of_ble_eq_true rfl)
          have ne_mk_dr : mk ≠ dr := Ne.symm ne_dr_mk
          have ne_dr_ir : dr ≠ ir := pw_ne hap 3 9 (by decide) (Nat.le_of_ble_eq_true rfl)
          have ne_ir_dr : ir ≠ dr := Ne.symm ne_dr_ir
          have ne_en_la : en ≠ la := pw_ne hap 4 5 (by decide) (Nat.le_of_ble_eq_true rfl)
          have ne_la_en : la ≠ en := Ne.symm ne_en_la
          have ne_en_wo : en ≠ wo := pw_ne hap 4 6 (by decide) (Nat.le_of_ble_eq_true rfl)
          have ne_wo_en : wo ≠ en := Ne.symm ne_en_wo
          have ne_en_op : en ≠ op := pw_ne hap 4 7 (by decide) (Nat.le_of_ble_eq_true rfl)
          have ne_op_en : op ≠ en := Ne.symm ne_en_op
          have ne_en_mk : en ≠ mk := pw_ne hap 4 8 (by decide) (Nat.le_of_ble_eq_true rfl)
          have ne_mk_en : mk ≠ en := Ne.symm ne_en_mk
          have ne_en_ir : en ≠ ir := pw_ne hap 4 9 (by decide) (Nat.le_of_ble_eq_true rfl)
          have ne_ir_en : ir ≠ en := Ne.symm ne_en_ir
          have ne_la_wo : la ≠ wo := pw_ne hap 5 6 (by decide) (Nat.le_of_ble_eq_true rfl)
          have ne_wo_la : wo ≠ la := Ne.symm ne_la_wo
          have ne_la_op : la ≠ op := pw_ne hap 5 7 (by decide) (Nat.le_of_ble_eq_true rfl)
          have ne_op_la : op ≠ la := Ne.symm ne_la_op
          have ne_la_mk : la ≠ mk := pw_ne hap 5 8 (by decide) (Nat.le_of_ble_eq_true rfl)
          have ne_mk_la : mk ≠ la := Ne.symm ne_la_mk
          have ne_la_ir : la ≠ ir := pw_ne hap 5 9 (by decide) (Nat.le_of_ble_eq_true rfl)
          have ne_ir_la : ir ≠ la := Ne.symm ne_la_ir
          have ne_wo_op : wo ≠ op := pw_ne hap 6 7 (by decide) (Nat.le_of_ble_eq_true rfl)
          have ne_op_wo : op ≠ wo := Ne.symm ne_wo_op
          have ne_wo_mk : wo ≠ mk := pw_ne hap 6 8 (by decide) (Nat.le_of_ble_eq_true rfl)
          have ne_mk_wo : mk ≠ wo := Ne.symm ne_wo_mk
          have ne_wo_ir : wo ≠ ir := pw_ne hap 6 9 (by decide) (Nat.le_of_ble_eq_true rfl)
          have ne_ir_wo : ir ≠ wo := Ne.symm ne_wo_ir
          have ne_op_mk : op ≠ mk := pw_ne hap 7 8 (by decide) (Nat.le_of_ble_eq_true rfl)
          have ne_mk_op : mk ≠ op := Ne.symm ne_op_mk
          have ne_op_ir : op ≠ ir := pw_ne hap 7 9 (by decide) (Nat.le_of_ble_eq_true rfl)
          have ne_ir_op : ir ≠ op := Ne.symm ne_op_ir
          have ne_mk_ir : mk ≠ ir := pw_ne hap 8 9 (by decide) (Nat.le_of_ble_eq_true rfl)
          have ne_ir_mk : ir ≠ mk := Ne.symm ne_mk_ir
          refine W.eq (g2 := F0 m 28 ls [.int 1]) rfl ?_
          refine W.widen (k := 0) (n := 0) (Nat.le_of_ble_eq_true rfl) (Nat.le_of_ble_eq_true rfl) ?_
          have hm : mm D (AZ z) Mc2 H := hm
          refine lv_if_eq (tgt := 33) hx hb dX6_kind_28 (by decide) (fun c8 => ?_) (fun c8 => ?_)
          · first | exact absurd c8 (by decide) | exact absurd (by decide) c8
          · refine lv_iconst (v := 0) hx hb dX6_kind_31 (by decide) ?_
            refine W.iret (v := 0) hx hb hr (fun t ht hW => ⟨⟨some (.int 0), _, rfl, ?_, by rw [ht]; exact hm⟩, hS.F ht⟩) hS.2.2 dX6_kind_32
            first
              | exact ⟨Or.inl ⟨ht9, rfl, hF.code⟩, hkp⟩
              | exact ⟨Or.inr ⟨rfl, Or.inl ⟨hp9, rfl, hF.code⟩⟩, hkp⟩
    · first | exact absurd c1 (by decide) | exact absurd (by decide) c1
  · subst hv1
    refine W.eq (g2 := F0 m 6 ls [.int 0, .ref mo]) rfl ?_
    refine W.widen (k := 0) (n := 0) (Nat.le_of_ble_eq_true rfl) (Nat.le_of_ble_eq_true rfl) ?_
    have hm : mm D (AZ z) M H := hm
    refine lv_if_ne (tgt := 13) hx hb dX6_kind_6 (by decide) (fun c9 => ?_) (fun c9 => ?_)
    · first | exact absurd c9 (by decide) | exact absurd (by decide) c9
    · refine lv_iconst (v := 1) hx hb dX6_kind_9 (by decide) ?_
      refine lv_goto (tgt := 25) hx hb dX6_kind_10 (by decide) ?_
      refine m_kV (As := [.int 1]) (rest := []) (rm := { frames := 0, cells := 0, slots := 0, locals := 0 }) ⟨hx, hb, hml, hown, hts⟩ (cL_X6_fails l D k z _ mo 0 1 hF) (cwV 1 hts gX6_kind_X6_fails rfl rfl rfl (by decide +kernel) ⟨Nat.le_of_ble_eq_true rfl, Nat.le_of_ble_eq_true rfl⟩) (m_recv hK hm (q := (RX6, TX6, 24)) rfl hM) hz hcx hm hS rfl hl.1 rfl (Nat.le_of_ble_eq_true rfl) dX6_kind_25 ⟨Nat.le_of_ble_eq_true rfl, Nat.le_of_ble_eq_true rfl⟩ (fun v M1 H locs hv hm hS => ?_)
      obtain ⟨hv1, hF, hL9⟩ := hv
      have hv1 : v = some (.int 1) := hv1.trans (by decide)
      subst hv1
      have hkp := hkp.trans hL9
      obtain ⟨Mc3, hMx⟩ : ∃ x : mM, x = M1 := ⟨M1, rfl⟩
      subst hMx
      obtain ⟨cn, ia, dr, en, la, wo, op, mk, ir, se, ec, lc, wc, ol, al, hap, hM, hcn, hia, hdr, hen, hla, hwo, hop, hmk, hir⟩ := id hF
      have ne_mo_cn : mo ≠ cn := pw_ne hap 0 1 (by decide) (Nat.le_of_ble_eq_true rfl)
      have ne_cn_mo : cn ≠ mo := Ne.symm ne_mo_cn
      have ne_mo_ia : mo ≠ ia := pw_ne hap 0 2 (by decide) (Nat.le_of_ble_eq_true rfl)
      have ne_ia_mo : ia ≠ mo := Ne.symm ne_mo_ia
      have ne_mo_dr : mo ≠ dr := pw_ne hap 0 3 (by decide) (Nat.le_of_ble_eq_true rfl)
      have ne_dr_mo : dr ≠ mo := Ne.symm ne_mo_dr
      have ne_mo_en : mo ≠ en := pw_ne hap 0 4 (by decide) (Nat.le_of_ble_eq_true rfl)
      have ne_en_mo : en ≠ mo := Ne.symm ne_mo_en
      have ne_mo_la : mo ≠ la := pw_ne hap 0 5 (by decide) (Nat.le_of_ble_eq_true rfl)
      have ne_la_mo : la ≠ mo := Ne.symm ne_mo_la
      have ne_mo_wo : mo ≠ wo := pw_ne hap 0 6 (by decide) (Nat.le_of_ble_eq_true rfl)
      have ne_wo_mo : wo ≠ mo := Ne.symm ne_mo_wo
      have ne_mo_op : mo ≠ op := pw_ne hap 0 7 (by decide) (Nat.le_of_ble_eq_true rfl)
      have ne_op_mo : op ≠ mo := Ne.symm ne_mo_op
      have ne_mo_mk : mo ≠ mk := pw_ne hap 0 8 (by decide) (Nat.le_of_ble_eq_true rfl)
      have ne_mk_mo : mk ≠ mo := Ne.symm ne_mo_mk
      have ne_mo_ir : mo ≠ ir := pw_ne hap 0 9 (by decide) (Nat.le_of_ble_eq_true rfl)
      have ne_ir_mo : ir ≠ mo := Ne.symm ne_mo_ir
      have ne_cn_ia : cn ≠ ia := pw_ne hap 1 2 (by decide) (Nat.le_of_ble_eq_true rfl)
      have ne_ia_cn : ia ≠ cn := Ne.symm ne_cn_ia
      have ne_cn_dr : cn ≠ dr := pw_ne hap 1 3 (by decide) (Nat.le_of_ble_eq_true rfl)
      have ne_dr_cn : dr ≠ cn := Ne.symm ne_cn_dr
      have ne_cn_en : cn ≠ en := pw_ne hap 1 4 (by decide) (Nat.le_of_ble_eq_true rfl)
      have ne_en_cn : en ≠ cn := Ne.symm ne_cn_en
      have ne_cn_la : cn ≠ la := pw_ne hap 1 5 (by decide) (Nat.le_of_ble_eq_true rfl)
      have ne_la_cn : la ≠ cn := Ne.symm ne_cn_la
      have ne_cn_wo : cn ≠ wo := pw_ne hap 1 6 (by decide) (Nat.le_of_ble_eq_true rfl)
      have ne_wo_cn : wo ≠ cn := Ne.symm ne_cn_wo
      have ne_cn_op : cn ≠ op := pw_ne hap 1 7 (by decide) (Nat.le_of_ble_eq_true rfl)
      have ne_op_cn : op ≠ cn := Ne.symm ne_cn_op
      have ne_cn_mk : cn ≠ mk := pw_ne hap 1 8 (by decide) (Nat.le_of_ble_eq_true rfl)
      have ne_mk_cn : mk ≠ cn := Ne.symm ne_cn_mk
      have ne_cn_ir : cn ≠ ir := pw_ne hap 1 9 (by decide) (Nat.le_of_ble_eq_true rfl)
      have ne_ir_cn : ir ≠ cn := Ne.symm ne_cn_ir
      have ne_ia_dr : ia ≠ dr := pw_ne hap 2 3 (by decide) (Nat.le_of_ble_eq_true rfl)
      have ne_dr_ia : dr ≠ ia := Ne.symm ne_ia_dr
      have ne_ia_en : ia ≠ en := pw_ne hap 2 4 (by decide) (Nat.le_of_ble_eq_true rfl)
      have ne_en_ia : en ≠ ia := Ne.symm ne_ia_en
      have ne_ia_la : ia ≠ la := pw_ne hap 2 5 (by decide) (Nat.le_of_ble_eq_true rfl)
      have ne_la_ia : la ≠ ia := Ne.symm ne_ia_la
      have ne_ia_wo : ia ≠ wo := pw_ne hap 2 6 (by decide) (Nat.le_of_ble_eq_true rfl)
      have ne_wo_ia : wo ≠ ia := Ne.symm ne_ia_wo
      have ne_ia_op : ia ≠ op := pw_ne hap 2 7 (by decide) (Nat.le_of_ble_eq_true rfl)
      have ne_op_ia : op ≠ ia := Ne.symm ne_ia_op
      have ne_ia_mk : ia ≠ mk := pw_ne hap 2 8 (by decide) (Nat.le_of_ble_eq_true rfl)
      have ne_mk_ia : mk ≠ ia := Ne.symm ne_ia_mk
      have ne_ia_ir : ia ≠ ir := pw_ne hap 2 9 (by decide) (Nat.le_of_ble_eq_true rfl)
      have ne_ir_ia : ir ≠ ia := Ne.symm ne_ia_ir
      have ne_dr_en : dr ≠ en := pw_ne hap 3 4 (by decide) (Nat.le_of_ble_eq_true rfl)
      have ne_en_dr : en ≠ dr := Ne.symm ne_dr_en
      have ne_dr_la : dr ≠ la := pw_ne hap 3 5 (by decide) (Nat.le_of_ble_eq_true rfl)
      have ne_la_dr : la ≠ dr := Ne.symm ne_dr_la
      have ne_dr_wo : dr ≠ wo := pw_ne hap 3 6 (by decide) (Nat.le_of_ble_eq_true rfl)
      have ne_wo_dr : wo ≠ dr := Ne.symm ne_dr_wo
      have ne_dr_op : dr ≠ op := pw_ne hap 3 7 (by decide) (Nat.le_of_ble_eq_true rfl)
      have ne_op_dr : op ≠ dr := Ne.symm ne_dr_op
      have ne_dr_mk : dr ≠ mk := pw_ne hap 3 8 (by decide) (Nat.le_of_ble_eq_true rfl)
      have ne_mk_dr : mk ≠ dr := Ne.symm ne_dr_mk
      have ne_dr_ir : dr ≠ ir := pw_ne hap 3 9 (by decide) (Nat.le_of_ble_eq_true rfl)
      have ne_ir_dr : ir ≠ dr := Ne.symm ne_dr_ir
      have ne_en_la : en ≠ la := pw_ne hap 4 5 (by decide) (Nat.le_of_ble_eq_true rfl)
      have ne_la_en : la ≠ en := Ne.symm ne_en_la
      have ne_en_wo : en ≠ wo := pw_ne hap 4 6 (by decide) (Nat.le_of_ble_eq_true rfl)
      have ne_wo_en : wo ≠ en := Ne.symm ne_en_wo
      have ne_en_op : en ≠ op := pw_ne hap 4 7 (by decide) (Nat.le_of_ble_eq_true rfl)
      have ne_op_en : op ≠ en := Ne.symm ne_en_op
      have ne_en_mk : en ≠ mk := pw_ne hap 4 8 (by decide) (Nat.le_of_ble_eq_true rfl)
      have ne_mk_en : mk ≠ en := Ne.symm ne_en_mk
      have ne_en_ir : en ≠ ir := pw_ne hap 4 9 (by decide) (Nat.le_of_ble_eq_true rfl)
      have ne_ir_en : ir ≠ en := Ne.symm ne_en_ir
      have ne_la_wo : la ≠ wo := pw_ne hap 5 6 (by decide) (Nat.le_of_ble_eq_true rfl)
      have ne_wo_la : wo ≠ la := Ne.symm ne_la_wo
      have ne_la_op : la ≠ op := pw_ne hap 5 7 (by decide) (Nat.le_of_ble_eq_true rfl)
      have ne_op_la : op ≠ la := Ne.symm ne_la_op
      have ne_la_mk : la ≠ mk := pw_ne hap 5 8 (by decide) (Nat.le_of_ble_eq_true rfl)
      have ne_mk_la : mk ≠ la := Ne.symm ne_la_mk
      have ne_la_ir : la ≠ ir := pw_ne hap 5 9 (by decide) (Nat.le_of_ble_eq_true rfl)
      have ne_ir_la : ir ≠ la := Ne.symm ne_la_ir
      have ne_wo_op : wo ≠ op := pw_ne hap 6 7 (by decide) (Nat.le_of_ble_eq_true rfl)
      have ne_op_wo : op ≠ wo := Ne.symm ne_wo_op
      have ne_wo_mk : wo ≠ mk := pw_ne hap 6 8 (by decide) (Nat.le_of_ble_eq_true rfl)
      have ne_mk_wo : mk ≠ wo := Ne.symm ne_wo_mk
      have ne_wo_ir : wo ≠ ir := pw_ne hap 6 9 (by decide) (Nat.le_of_ble_eq_true rfl)
      have ne_ir_wo : ir ≠ wo := Ne.symm ne_wo_ir
      have ne_op_mk : op ≠ mk := pw_ne hap 7 8 (by decide) (Nat.le_of_ble_eq_true rfl)
      have ne_mk_op : mk ≠ op := Ne.symm ne_op_mk
      have ne_op_ir : op ≠ ir := pw_ne hap 7 9 (by decide) (Nat.le_of_ble_eq_true rfl)
      have ne_ir_op : ir ≠ op := Ne.symm ne_op_ir
      have ne_mk_ir : mk ≠ ir := pw_ne hap 8 9 (by decide) (Nat.le_of_ble_eq_true rfl)
      have ne_ir_mk : ir ≠ mk := Ne.symm ne_mk_ir
      refine W.eq (g2 := F0 m 28 ls [.int 1]) rfl ?_
      refine W.widen (k := 0) (n := 0) (Nat.le_of_ble_eq_true rfl) (Nat.le_of_ble_eq_true rfl) ?_
      have hm : mm D (AZ z) Mc3 H := hm
      refine lv_if_eq (tgt := 33) hx hb dX6_kind_28 (by decide) (fun c10 => ?_) (fun c10 => ?_)
      · first | exact absurd c10 (by decide) | exact absurd (by decide) c10
      · refine lv_iconst (v := 0) hx hb dX6_kind_31 (by decide) ?_
        refine W.iret (v := 0) hx hb hr (fun t ht hW => ⟨⟨some (.int 0), _, rfl, ?_, by rw [ht]; exact hm⟩, hS.F ht⟩) hS.2.2 dX6_kind_32
        first
          | exact ⟨Or.inl ⟨ht9, rfl, hF.code⟩, hkp⟩
          | exact ⟨Or.inr ⟨rfl, Or.inl ⟨hp9, rfl, hF.code⟩⟩, hkp⟩

set_option maxHeartbeats 4000000 in
set_option maxRecDepth 100000 in
theorem cL_X6_list (l : Launch) (D : va_G) (k : Nat → ClassId) (z : Nat) (M : mM) (mo : Nat) (t path : Int32) (hF : mFr k M mo 0) : mK l yX6_list wsX6_list ({ frames := 3, cells := 0, slots := 0, locals := 73 }) D k z [.ref mo, .int t, .int path] M (fun v M' => ((t ≠ -1 ∧ v = some (.int 0) ∧ codeIs M' mo 1) ∨ (t = -1 ∧ ((¬ isP path ∧ v = some (.int 0) ∧ codeIs M' mo 2) ∨ (isP path ∧ path ≠ 0 ∧ v = some (.int 0) ∧ codeIs M' mo 3) ∨ (isP path ∧ path = 0 ∧ v = some (.int 0) ∧ codeIs M' mo 0)))) ∧ kL k M M') := by
  refine Met.ofW (cc := cX6_list) (maxL := 4) (ret := (some .int)) (by decide) rfl ?_
  intro p e s m args below meth c s₁ B hml hv
  obtain ⟨rfl, hz, hcx, hm⟩ := hv
  have hx := B.exec
  have hb := B.bytes
  have hr := B.returns
  have hts := atoms_spec (ws := wsX6_list) B.pre
  have hown : s.vm.findClass RX6 = some m.cls := findClass_of_methodNamed B.named
  have hlocks := B.notSynchronized
  have hK := hcx.1
  have hS : va_S (AZ z) s.heap s.heap [] := va_S.rf
  have hA : ∀ q, s.heap.size ≤ q → AZ z q := fun q h => Nat.le_trans hz h
  have hl := lv_entry ([.ref mo, .int t, .int path]) (n := 4) (Nat.le_of_ble_eq_true rfl)
  rw [lg_entry_eq]
  generalize (lg_sl ([.ref mo, .int t, .int path]) ++ List.replicate (4 - (lg_sl ([.ref mo, .int t, .int path])).length) Slot.unset).toArray = ls at hl ⊢
  have hl : lv_has ls 4 [(0, .ref mo), (1, .int t), (2, .int path)] := hl
  have f16 := hts (.fieldLink RX6 16 "CommitTreeModel" "dirs" "[Z") (by decide +kernel)
  have wX6 : ∀ w ∈ wsX60, w ∈ wsX6_list := by decide +kernel
  obtain ⟨cn, ia, dr, en, la, wo, op, mk, ir, se, ec, lc, wc, ol, al, hap, hM, hcn, hia, hdr, hen, hla, hwo, hop, hmk, hir⟩ := id hF
  have ne_mo_cn : mo ≠ cn := pw_ne hap 0 1 (by decide) (Nat.le_of_ble_eq_true rfl)
  have ne_cn_mo : cn ≠ mo := Ne.symm ne_mo_cn
  have ne_mo_ia : mo ≠ ia := pw_ne hap 0 2 (by decide) (Nat.le_of_ble_eq_true rfl)
  have ne_ia_mo : ia ≠ mo := Ne.symm ne_mo_ia
  have ne_mo_dr : mo ≠ dr := pw_ne hap 0 3 (by decide) (Nat.le_of_ble_eq_true rfl)
  have ne_dr_mo : dr ≠ mo := Ne.symm ne_mo_dr
  have ne_mo_en : mo ≠ en := pw_ne hap 0 4 (by decide) (Nat.le_of_ble_eq_true rfl)
  have ne_en_mo : en ≠ mo := Ne.symm ne_mo_en
  have ne_mo_la : mo ≠ la := pw_ne hap 0 5 (by decide) (Nat.le_of_ble_eq_true rfl)
  have ne_la_mo : la ≠ mo := Ne.symm ne_mo_la
  have ne_mo_wo : mo ≠ wo := pw_ne hap 0 6 (by decide) (Nat.le_of_ble_eq_true rfl)
  have ne_wo_mo : wo ≠ mo := Ne.symm ne_mo_wo
  have ne_mo_op : mo ≠ op := pw_ne hap 0 7 (by decide) (Nat.le_of_ble_eq_true rfl)
  have ne_op_mo : op ≠ mo := Ne.symm ne_mo_op
  have ne_mo_mk : mo ≠ mk := pw_ne hap 0 8 (by decide) (Nat.le_of_ble_eq_true rfl)
  have ne_mk_mo : mk ≠ mo := Ne.symm ne_mo_mk
  have ne_mo_ir : mo ≠ ir := pw_ne hap 0 9 (by decide) (Nat.le_of_ble_eq_true rfl)
  have ne_ir_mo : ir ≠ mo := Ne.symm ne_mo_ir
  have hkp : kL k M M := kL.refl _
  refine lv_aload_n hx hb dX6_list_0 rfl (lv_at hl 0 rfl) ?_
  refine lv_aload_n hx hb dX6_list_1 rfl (lv_at hl 0 rfl) ?_
  refine lv_iload_n hx hb dX6_list_2 rfl (lv_at hl 1 rfl) ?_
  refine m_kV (As := [.int t]) (rest := [.ref mo]) (rm := { frames := 1, cells := 0, slots := 0, locals := 21 }) ⟨hx, hb, hml, hown, hts⟩ (c_X6_mayLook l D k z _ mo 0 t hF) (cwV 1 hts gX6_list_X6_mayLook rfl rfl rfl (by decide +kernel) ⟨Nat.le_of_ble_eq_true rfl, Nat.le_of_ble_eq_true rfl⟩) (m_recv hK hm (q := (RX6, TX6, 24)) rfl hM) hz hcx hm hS rfl hl.1 rfl (Nat.le_of_ble_eq_true rfl) dX6_list_3 ⟨Nat.le_of_ble_eq_true rfl, Nat.le_of_ble_eq_true rfl⟩ (fun v M1 H locs hv hm hS => ?_)
  obtain ⟨hv2, hM1⟩ := hv
  rw [hM1] at hm
  rcases hv2 with ⟨ht9, hv1⟩ | ⟨ht9, hv1⟩
  · subst hv1
    subst ht9
    refine W.eq (g2 := F0 m 6 ls [.int 1, .ref mo]) rfl ?_
    refine W.widen (k := 0) (n := 0) (Nat.le_of_ble_eq_true rfl) (Nat.le_of_ble_eq_true rfl) ?_
    have hm : mm D (AZ z) M H := hm
    refine lv_if_ne (tgt := 13) hx hb dX6_list_6 (by decide) (fun c1 => ?_) (fun c1 => ?_)
    · refine lv_iload_n hx hb dX6_list_13 rfl (lv_at hl 2 rfl) ?_
      refine m_kS (As := [.int path]) (rest := [.ref mo]) (rm := { frames := 0, cells := 0, slots := 0, locals := 0 }) ⟨hx, hb, hml, hown, hts⟩ (c_X6_isPath l D k z _ path) (cwS 1 hts gX6_list_X6_isPath rfl rfl rfl (by decide +kernel) ⟨Nat.le_of_ble_eq_true rfl, Nat.le_of_ble_eq_true rfl⟩) hz hcx hm hS rfl hl.1 rfl (Nat.le_of_ble_eq_true rfl) dX6_list_14 ⟨Nat.le_of_ble_eq_true rfl, Nat.le_of_ble_eq_true rfl⟩ (fun v M1 H locs hv hm hS => ?_)
      obtain ⟨hv2, hM1⟩ := hv
      rw [hM1] at hm
      rcases hv2 with ⟨hp9, hv1⟩ | ⟨hp9, hv1⟩
      · subst hv1
        refine W.eq (g2 := F0 m 17 ls [.int 1, .ref mo]) rfl ?_
        refine W.widen (k := 0) (n := 0) (Nat.le_of_ble_eq_true rfl) (Nat.le_of_ble_eq_true rfl) ?_
        have hm : mm D (AZ z) M H := hm
        refine lv_if_ne (tgt := 24) hx hb dX6_list_17 (by decide) (fun c2 => ?_) (fun c2 => ?_)
        · refine lv_iconst (v := 0) hx hb dX6_list_24 (by decide) ?_
          refine m_kV (As := [.int 0]) (rest := []) (rm := { frames := 0, cells := 0, slots := 0, locals := 0 }) ⟨hx, hb, hml, hown, hts⟩ (cL_X6_fails l D k z _ mo 0 0 hF) (cwV 1 hts gX6_list_X6_fails rfl rfl rfl (by decide +kernel) ⟨Nat.le_of_ble_eq_true rfl, Nat.le_of_ble_eq_true rfl⟩) (m_recv hK hm (q := (RX6, TX6, 24)) rfl hM) hz hcx hm hS rfl hl.1 rfl (Nat.le_of_ble_eq_true rfl) dX6_list_25 ⟨Nat.le_of_ble_eq_true rfl, Nat.le_of_ble_eq_true rfl⟩ (fun v M1 H locs hv hm hS => ?_)
          obtain ⟨hv1, hF, hL9⟩ := hv
          have hv1 : v = some (.int 0) := hv1.trans (by decide)
          subst hv1
          have hkp := hkp.trans hL9
          obtain ⟨Mc1, hMx⟩ : ∃ x : mM, x = M1 := ⟨M1, rfl⟩
          subst hMx
          obtain ⟨cn, ia, dr, en, la, wo, op, mk, ir, se, ec, lc, wc, ol, al, hap, hM, hcn, hia, hdr, hen, hla, hwo, hop, hmk, hir⟩ := id hF
          have ne_mo_cn : mo ≠ cn := pw_ne hap 0 1 (by decide) (Nat.le_of_ble_eq_true rfl)
          have ne_cn_mo : cn ≠ mo := Ne.symm ne_mo_cn
          have ne_mo_ia : mo ≠ ia := pw_ne hap 0 2 (by decide) (Nat.le_of_ble_eq_true rfl)
          have ne_ia_mo : ia ≠ mo := Ne.symm ne_mo_ia
          have ne_mo_dr : mo ≠ dr := pw_ne hap 0 3 (by decide) (Nat.le_of_ble_eq_true rfl)
          have ne_dr_mo : dr ≠ mo := Ne.symm ne_mo_dr
          have ne_mo_en : mo ≠ en := pw_ne hap 0 4 (by decide) (Nat.le_of_ble_eq_true rfl)
          have ne_en_mo : en ≠ mo := Ne.symm ne_mo_en
          have ne_mo_la : mo ≠ la := pw_ne hap 0 5 (by decide) (Nat.le_of_ble_eq_true rfl)
          have ne_la_mo : la ≠ mo := Ne.symm ne_mo_la
          have ne_mo_wo : mo ≠ wo := pw_ne hap 0 6 (by decide) (Nat.le_of_ble_eq_true rfl)
          have ne_wo_mo : wo ≠ mo := Ne.symm ne_mo_wo
          have ne_mo_op : mo ≠ op := pw_ne hap 0 7 (by decide) (Nat.le_of_ble_eq_true rfl)
          have ne_op_mo : op ≠ mo := Ne.symm ne_mo_op
          have ne_mo_mk : mo ≠ mk := pw_ne hap 0 8 (by decide) (Nat.le_of_ble_eq_true rfl)
          have ne_mk_mo : mk ≠ mo := Ne.symm ne_mo_mk
          have ne_mo_ir : mo ≠ ir := pw_ne hap 0 9 (by decide) (Nat.le_of_ble_eq_true rfl)
          have ne_ir_mo : ir ≠ mo := Ne.symm ne_mo_ir
          have ne_cn_ia : cn ≠ ia := pw_ne hap 1 2 (by decide) (Nat.le_of_ble_eq_true rfl)
          have ne_ia_cn : ia ≠ cn := Ne.symm ne_cn_ia
          have ne_cn_dr : cn ≠ dr := pw_ne hap 1 3 (by decide) (Nat.le_of_ble_eq_true rfl)
          have ne_dr_cn : dr ≠ cn := Ne.symm ne_cn_dr
          have ne_cn_en : cn ≠ en := pw_ne hap 1 4 (by decide) (Nat.le_of_ble_eq_true rfl)
          have ne_en_cn : en ≠ cn := Ne.symm ne_cn_en
          have ne_cn_la : cn ≠ la := pw_ne hap 1 5 (by decide) (Nat.le_of_ble_eq_true rfl)
          have ne_la_cn : la ≠ cn := Ne.symm ne_cn_la
          have ne_cn_wo : cn ≠ wo := pw_ne hap 1 6 (by decide) (Nat.le_of_ble_eq_true rfl)
          have ne_wo_cn : wo ≠ cn := Ne.symm ne_cn_wo
          have ne_cn_op : cn ≠ op := pw_ne hap 1 7 (by decide) (Nat.le_of_ble_eq_true rfl)
          have ne_op_cn : op ≠ cn := Ne.symm ne_cn_op
          have ne_cn_mk : cn ≠ mk := pw_ne hap 1 8 (by decide) (Nat.le_of_ble_eq_true rfl)
          have ne_mk_cn : mk ≠ cn := Ne.symm ne_cn_mk
          have ne_cn_ir : cn ≠ ir := pw_ne hap 1 9 (by decide) (Nat.le_of_ble_eq_true rfl)
          have ne_ir_cn : ir ≠ cn := Ne.symm ne_cn_ir
          have ne_ia_dr : ia ≠ dr := pw_ne hap 2 3 (by decide) (Nat.le_of_ble_eq_true rfl)
          have ne_dr_ia : dr ≠ ia := Ne.symm ne_ia_dr
          have ne_ia_en : ia ≠ en := pw_ne hap 2 4 (by decide) (Nat.le_of_ble_eq_true rfl)
          have ne_en_ia : en ≠ ia := Ne.symm ne_ia_en
          have ne_ia_la : ia ≠ la := pw_ne hap 2 5 (by decide) (Nat.le_of_ble_eq_true rfl)
          have ne_la_ia : la ≠ ia := Ne.symm ne_ia_la
          have ne_ia_wo : ia ≠ wo := pw_ne hap 2 6 (by decide) (Nat.le_of_ble_eq_true rfl)
          have ne_wo_ia : wo ≠ ia := Ne.symm ne_ia_wo
          have ne_ia_op : ia ≠ op := pw_ne hap 2 7 (by decide) (Nat.le_of_ble_eq_true rfl)
          have ne_op_ia : op ≠ ia := Ne.symm ne_ia_op
          have ne_ia_mk : ia ≠ mk := pw_ne hap 2 8 (by decide) (Nat.le_of_ble_eq_true rfl)
          have ne_mk_ia : mk ≠ ia := Ne.symm ne_ia_mk
          have ne_ia_ir : ia ≠ ir := pw_ne hap 2 9 (by decide) (Nat.le_of_ble_eq_true rfl)
          have ne_ir_ia : ir ≠ ia := Ne.symm ne_ia_ir
          have ne_dr_en : dr ≠ en := pw_ne hap 3 4 (by decide) (Nat.le_of_ble_eq_true rfl)
          have ne_en_dr : en ≠ dr := Ne.symm ne_dr_en
          have ne_dr_la : dr ≠ la := pw_ne hap 3 5 (by decide) (Nat.le_of_ble_eq_true rfl)
          have ne_la_dr : la ≠ dr := Ne.symm ne_dr_la
          have ne_dr_wo : dr ≠ wo := pw_ne hap 3 6 (by decide) (Nat.le_of_ble_eq_true rfl)
          have ne_wo_dr : wo ≠ dr := Ne.symm ne_dr_wo
          have ne_dr_op : dr ≠ op := pw_ne hap 3 7 (by decide) (Nat.le_of_ble_eq_true rfl)
          have ne_op_dr : op ≠ dr := Ne.symm ne_dr_op
          have ne_dr_mk : dr ≠ mk := pw_ne hap 3 8 (by decide) (Nat.le_of_ble_eq_true rfl)
          have ne_mk_dr : mk ≠ dr := Ne.symm ne_dr_mk
          have ne_dr_ir : dr ≠ ir := pw_ne hap 3 9 (by decide) (Nat.le_of_ble_eq_true rfl)
          have ne_ir_dr : ir ≠ dr := Ne.symm ne_dr_ir
          have ne_en_la : en ≠ la := pw_ne hap 4 5 (by decide) (Nat.le_of_ble_eq_true rfl)
          have ne_la_en : la ≠ en := Ne.symm ne_en_la
          have ne_en_wo : en ≠ wo := pw_ne hap 4 6 (by decide) (Nat.le_of_ble_eq_true rfl)
          have ne_wo_en : wo ≠ en := Ne.symm ne_en_wo
          have ne_en_op : en ≠ op := pw_ne hap 4 7 (by decide) (Nat.le_of_ble_eq_true rfl)
          have ne_op_en : op ≠ en := Ne.symm ne_en_op
          have ne_en_mk : en ≠ mk := pw_ne hap 4 8 (by decide) (Nat.le_of_ble_eq_true rfl)
          have ne_mk_en : mk ≠ en := Ne.symm ne_en_mk
          have ne_en_ir : en ≠ ir := pw_ne hap 4 9 (by decide) (Nat.le_of_ble_eq_true rfl)
          have ne_ir_en : ir ≠ en := Ne.symm ne_en_ir
          have ne_la_wo : la ≠ wo := pw_ne hap 5 6 (by decide) (Nat.le_of_ble_eq_true rfl)
          have ne_wo_la : wo ≠ la := Ne.symm ne_la_wo
          have ne_la_op : la ≠ op := pw_ne hap 5 7 (by decide) (Nat.le_of_ble_eq_true rfl)
          have ne_op_la : op ≠ la := Ne.symm ne_la_op
          have ne_la_mk : la ≠ mk := pw_ne hap 5 8 (by decide) (Nat.le_of_ble_eq_true rfl)
          have ne_mk_la : mk ≠ la := Ne.symm ne_la_mk
          have ne_la_ir : la ≠ ir := pw_ne hap 5 9 (by decide) (Nat.le_of_ble_eq_true rfl)
          have ne_ir_la : ir ≠ la := Ne.symm ne_la_ir
          have ne_wo_op : wo ≠ op := pw_ne hap 6 7 (by decide) (Nat.le_of_ble_eq_true rfl)
          have ne_op_wo : op ≠ wo := Ne.symm ne_wo_op
          have ne_wo_mk : wo ≠ mk := pw_ne hap 6 8 (by decide) (Nat.le_of_ble_eq_true rfl)
          have ne_mk_wo : mk ≠ wo := Ne.symm ne_wo_mk
          have ne_wo_ir : wo ≠ ir := pw_ne hap 6 9 (by decide) (Nat.le_of_ble_eq_true rfl)
          have ne_ir_wo : ir ≠ wo := Ne.symm ne_wo_ir
          have ne_op_mk : op ≠ mk := pw_ne hap 7 8 (by decide) (Nat.le_of_ble_eq_true rfl)
          have ne_mk_op : mk ≠ op := Ne.symm ne_op_mk
          have ne_op_ir : op ≠ ir := pw_ne hap 7 9 (by decide) (Nat.le_of_ble_eq_true rfl)
          have ne_ir_op : ir ≠ op := Ne.symm ne_op_ir
          have ne_mk_ir : mk ≠ ir := pw_ne hap 8 9 (by decide) (Nat.le_of_ble_eq_true rfl)
          have ne_ir_mk : ir ≠ mk := Ne.symm ne_mk_ir
          refine W.eq (g2 := F0 m 28 ls [.int 0]) rfl ?_
          refine W.widen (k := 0) (n := 0) (Nat.le_of_ble_eq_true rfl) (Nat.le_of_ble_eq_true rfl) ?_
          have hm : mm D (AZ z) Mc1 H := hm
          refine lv_if_eq (tgt := 33) hx hb dX6_list_28 (by decide) (fun c3 => ?_) (fun c3 => ?_)
          · refine lv_aload_n hx hb dX6_list_33 rfl (lv_at hl 0 rfl) ?_
            refine lv_iload_n hx hb dX6_list_34 rfl (lv_at hl 1 rfl) ?_
            refine lv_iload_n hx hb dX6_list_35 rfl (lv_at hl 2 rfl) ?_
            refine m_kV (As := [.int (-1), .int path]) (rest := []) (rm := { frames := 2, cells := 0, slots := 0, locals := 48 }) ⟨hx, hb, hml, hown, hts⟩ (c_X6_lookUp l D k z _ mo path 0 hp9 hF) (cwV 2 hts gX6_list_X6_lookUp rfl rfl rfl (by decide +kernel) ⟨Nat.le_of_ble_eq_true rfl, Nat.le_of_ble_eq_true rfl⟩) (m_recv hK hm (q := (RX6, TX6, 24)) rfl hM) hz hcx hm hS rfl hl.1 rfl (Nat.le_of_ble_eq_true rfl) dX6_list_36 ⟨Nat.le_of_ble_eq_true rfl, Nat.le_of_ble_eq_true rfl⟩ (fun v M1 H locs hv hm hS => ?_)
            obtain ⟨hv2, hM1⟩ := hv
            rw [hM1] at hm
            rcases hv2 with ⟨h09, hv1⟩ | ⟨h09, hv1⟩
            · subst hv1
              refine W.eq (g2 := F0 m 39 ls [.int 0]) rfl ?_
              refine W.widen (k := 0) (n := 0) (Nat.le_of_ble_eq_true rfl) (Nat.le_of_ble_eq_true rfl) ?_
              have hm : mm D (AZ z) Mc1 H := hm
              refine lv_istore_n (lv' := [(3, .int 0), (0, .ref mo), (1, .int (-1)), (2, .int path)]) hx hb dX6_list_39 rfl hl (by decide) rfl (fun ls hl => ?_)
              refine lv_aload_n hx hb dX6_list_40 rfl (lv_at hl 1 rfl) ?_
              refine lv_iload_n hx hb dX6_list_41 rfl (lv_at hl 0 rfl) ?_
              refine lv_if_ge (tgt := 49) hx hb dX6_list_42 (by decide) (fun c4 => ?_) (fun c4 => ?_)
              · refine lv_aload_n hx hb dX6_list_49 rfl (lv_at hl 1 rfl) ?_
                refine m_get (T := TX6) (N := 24) (ci := 6) (v := .ref dr) hx hb hts wX6 hown hK hm hM rfl 3 (by decide) f16 (fun _ h9 => h9) rfl dX6_list_50 ?_
                refine lv_iload_n hx hb dX6_list_53 rfl (lv_at hl 0 rfl) ?_
                refine m_zald hx hb hK hm 2 hdr rfl (by unfold vp_in; decide) dX6_list_54 ?_
                refine lv_if_ne (tgt := 62) hx hb dX6_list_55 (by decide) (fun c5 => ?_) (fun c5 => ?_)
                · refine lv_iconst (v := 0) hx hb dX6_list_62 (by decide) ?_
                  refine m_kV (As := [.int 0]) (rest := []) (rm := { frames := 0, cells := 0, slots := 0, locals := 0 }) ⟨hx, hb, hml, hown, hts⟩ (cL_X6_fails l D k z _ mo 0 0 hF) (cwV 1 hts gX6_list_X6_fails rfl rfl rfl (by decide +kernel) ⟨Nat.le_of_ble_eq_true rfl, Nat.le_of_ble_eq_true rfl⟩) (m_recv hK hm (q := (RX6, TX6, 24)) rfl hM) hz hcx hm hS rfl hl.1 rfl (Nat.le_of_ble_eq_true rfl) dX6_list_63 ⟨Nat.le_of_ble_eq_true rfl, Nat.le_of_ble_eq_true rfl⟩ (fun v M1 H locs hv hm hS => ?_)
                  obtain ⟨hv1, hF, hL9⟩ := hv
                  have hv1 : v = some (.int 0) := hv1.trans (by decide)
                  subst hv1
                  have hkp := hkp.trans hL9
                  obtain ⟨Mc2, hMx⟩ : ∃ x : mM, x = M1 := ⟨M1, rfl⟩
                  subst hMx
                  obtain ⟨cn, ia, dr, en, la, wo, op, mk, ir, se, ec, lc, wc, ol, al, hap, hM, hcn, hia, hdr, hen, hla, hwo, hop, hmk, hir⟩ := id hF
                  have ne_mo_cn : mo ≠ cn := pw_ne hap 0 1 (by decide) (Nat.le_of_ble_eq_true rfl)
                  have ne_cn_mo : cn ≠ mo := Ne.symm ne_mo_cn
                  have ne_mo_ia : mo ≠ ia := pw_ne hap 0 2 (by decide) (Nat.le_of_ble_eq_true rfl)
                  have ne_ia_mo : ia ≠ mo := Ne.symm ne_mo_ia
                  have ne_mo_dr : mo ≠ dr := pw_ne hap 0 3 (by decide) (Nat.le_of_ble_eq_true rfl)
                  have ne_dr_mo : dr ≠ mo := Ne.symm ne_mo_dr
                  have ne_mo_en : mo ≠ en := pw_ne hap 0 4 (by decide) (Nat.le_of_ble_eq_true rfl)
                  have ne_en_mo : en ≠ mo := Ne.symm ne_mo_en
                  have ne_mo_la : mo ≠ la := pw_ne hap 0 5 (by decide) (Nat.le_of_ble_eq_true rfl)
                  have ne_la_mo : la ≠ mo := Ne.symm ne_mo_la
                  have ne_mo_wo : mo ≠ wo := pw_ne hap 0 6 (by decide) (Nat.le_of_ble_eq_true rfl)
                  have ne_wo_mo : wo ≠ mo := Ne.symm ne_mo_wo
                  have ne_mo_op : mo ≠ op := pw_ne hap 0 7 (by decide) (Nat.le_of_ble_eq_true rfl)
                  have ne_op_mo : op ≠ mo := Ne.symm ne_mo_op
                  have ne_mo_mk : mo ≠ mk := pw_ne hap 0 8 (by decide) (Nat.le_of_ble_eq_true rfl)
                  have ne_mk_mo : mk ≠ mo := Ne.symm ne_mo_mk
                  have ne_mo_ir : mo ≠ ir := pw_ne hap 0 9 (by decide) (Nat.le_of_ble_eq_true rfl)
                  have ne_ir_mo : ir ≠ mo := Ne.symm ne_mo_ir
                  have ne_cn_ia : cn ≠ ia := pw_ne hap 1 2 (by decide) (Nat.le_of_ble_eq_true rfl)
                  have ne_ia_cn : ia ≠ cn := Ne.symm ne_cn_ia
                  have ne_cn_dr : cn ≠ dr := pw_ne hap 1 3 (by decide) (Nat.le_of_ble_eq_true rfl)
                  have ne_dr_cn : dr ≠ cn := Ne.symm ne_cn_dr
                  have ne_cn_en : cn ≠ en := pw_ne hap 1 4 (by decide) (Nat.le_of_ble_eq_true rfl)
                  have ne_en_cn : en ≠ cn := Ne.symm ne_cn_en
                  have ne_cn_la : cn ≠ la := pw_ne hap 1 5 (by decide) (Nat.le_of_ble_eq_true rfl)
                  have ne_la_cn : la ≠ cn := Ne.symm ne_cn_la
                  have ne_cn_wo : cn ≠ wo := pw_ne hap 1 6 (by decide) (Nat.le_of_ble_eq_true rfl)
                  have ne_wo_cn : wo ≠ cn := Ne.symm ne_cn_wo
                  have ne_cn_op : cn ≠ op := pw_ne hap 1 7 (by decide) (Nat.le_of_ble_eq_true rfl)
                  have ne_op_cn : op ≠ cn := Ne.symm ne_cn_op
                  have ne_cn_mk : cn ≠ mk := pw_ne hap 1 8 (by decide) (Nat.le_of_ble_eq_true rfl)
                  have ne_mk_cn : mk ≠ cn := Ne.symm ne_cn_mk
                  have ne_cn_ir : cn ≠ ir := pw_ne hap 1 9 (by decide) (Nat.le_of_ble_eq_true rfl)
                  have ne_ir_cn : ir ≠ cn := Ne.symm ne_cn_ir
                  have ne_ia_dr : ia ≠ dr := pw_ne hap 2 3 (by decide) (Nat.le_of_ble_eq_true rfl)
                  have ne_dr_ia : dr ≠ ia := Ne.symm ne_ia_dr
                  have ne_ia_en : ia ≠ en := pw_ne hap 2 4 (by decide) (Nat.le_of_ble_eq_true rfl)
                  have ne_en_ia : en ≠ ia := Ne.symm ne_ia_en
                  have ne_ia_la : ia ≠ la := pw_ne hap 2 5 (by decide) (Nat.le_of_ble_eq_true rfl)
                  have ne_la_ia : la ≠ ia := Ne.symm ne_ia_la
                  have ne_ia_wo : ia ≠ wo := pw_ne hap 2 6 (by decide) (Nat.le_of_ble_eq_true rfl)
                  have ne_wo_ia : wo ≠ ia := Ne.symm ne_ia_wo
                  have ne_ia_op : ia ≠ op := pw_ne hap 2 7 (by decide) (Nat.le_of_ble_eq_true rfl)
                  have ne_op_ia : op ≠ ia := Ne.symm ne_ia_op
                  have ne_ia_mk : ia ≠ mk := pw_ne hap 2 8 (by decide) (Nat.le_of_ble_eq_true rfl)
                  have ne_mk_ia : mk ≠ ia := Ne.symm ne_ia_mk
                  have ne_ia_ir : ia ≠ ir := pw_ne hap 2 9 (by decide) (Nat.le_of_ble_eq_true rfl)
                  have ne_ir_ia : ir ≠ ia := Ne.symm ne_ia_ir
                  have ne_dr_en : dr ≠ en := pw_ne hap 3 4 (by decide) (Nat.le_of_ble_eq_true rfl)
                  have ne_en_dr : en ≠ dr := Ne.symm ne_dr_en
                  have ne_dr_la : dr ≠ la := pw_ne hap 3 5 (by decide) (Nat.le_of_ble_eq_true rfl)
                  have ne_la_dr : la ≠ dr := Ne.symm ne_dr_la
                  have ne_dr_wo : dr ≠ wo := pw_ne hap 3 6 (by decide) (Nat.le_of_ble_eq_true rfl)
                  have ne_wo_dr : wo ≠ dr := Ne.symm ne_dr_wo
                  have ne_dr_op : dr ≠ op := pw_ne hap 3 7 (by decide) (Nat.le_of_ble_eq_true rfl)
                  have ne_op_dr : op ≠ dr := Ne.symm ne_dr_op
                  have ne_dr_mk : dr ≠ mk := pw_ne hap 3 8 (by decide) (Nat.le_of_ble_eq_true rfl)
                  have ne_mk_dr : mk ≠ dr := Ne.symm ne_dr_mk
                  have ne_dr_ir : dr ≠ ir := pw_ne hap 3 9 (by decide) (Nat.le_of_ble_eq_true rfl)
                  have ne_ir_dr : ir ≠ dr := Ne.symm ne_dr_ir
                  have ne_en_la : en ≠ la := pw_ne hap 4 5 (by decide) (Nat.le_of_ble_eq_true rfl)
                  have ne_la_en : la ≠ en := Ne.symm ne_en_la
                  have ne_en_wo : en ≠ wo := pw_ne hap 4 6 (by decide) (Nat.le_of_ble_eq_true rfl)
                  have ne_wo_en : wo ≠ en := Ne.symm ne_en_wo
                  have ne_en_op : en ≠ op := pw_ne hap 4 7 (by decide) (Nat.le_of_ble_eq_true rfl)
                  have ne_op_en : op ≠ en := Ne.symm ne_en_op
                  have ne_en_mk : en ≠ mk := pw_ne hap 4 8 (by decide) (Nat.le_of_ble_eq_true rfl)
                  have ne_mk_en : mk ≠ en := Ne.symm ne_en_mk
                  have ne_en_ir : en ≠ ir := pw_ne hap 4 9 (by decide) (Nat.le_of_ble_eq_true rfl)
                  have ne_ir_en : ir ≠ en := Ne.symm ne_en_ir
                  have ne_la_wo : la ≠ wo := pw_ne hap 5 6 (by decide) (Nat.le_of_ble_eq_true rfl)
                  have ne_wo_la : wo ≠ la := Ne.symm ne_la_wo
                  have ne_la_op : la ≠ op := pw_ne hap 5 7 (by decide) (Nat.le_of_ble_eq_true rfl)
                  have ne_op_la : op ≠ la := Ne.symm ne_la_op
                  have ne_la_mk : la ≠ mk := pw_ne hap 5 8 (by decide) (Nat.le_of_ble_eq_true rfl)
                  have ne_mk_la : mk ≠ la := Ne.symm ne_la_mk
                  have ne_la_ir : la ≠ ir := pw_ne hap 5 9 (by decide) (Nat.le_of_ble_eq_true rfl)
                  have ne_ir_la : ir ≠ la := Ne.symm ne_la_ir
                  have ne_wo_op : wo ≠ op := pw_ne hap 6 7 (by decide) (Nat.le_of_ble_eq_true rfl)
                  have ne_op_wo : op ≠ wo := Ne.symm ne_wo_op
                  have ne_wo_mk : wo ≠ mk := pw_ne hap 6 8 (by decide) (Nat.le_of_ble_eq_true rfl)
                  have ne_mk_wo : mk ≠ wo := Ne.symm ne_wo_mk
                  have ne_wo_ir : wo ≠ ir := pw_ne hap 6 9 (by decide) (Nat.le_of_ble_eq_true rfl)
                  have ne_ir_wo : ir ≠ wo := Ne.symm ne_wo_ir
                  have ne_op_mk : op ≠ mk := pw_ne hap 7 8 (by decide) (Nat.le_of_ble_eq_true rfl)
                  have ne_mk_op : mk ≠ op := Ne.symm ne_op_mk
                  have ne_op_ir : op ≠ ir := pw_ne hap 7 9 (by decide) (Nat.le_of_ble_eq_true rfl)
                  have ne_ir_op : ir ≠ op := Ne.symm ne_op_ir
                  have ne_mk_ir : mk ≠ ir := pw_ne hap 8 9 (by decide) (Nat.le_of_ble_eq_true rfl)
                  have ne_ir_mk : ir ≠ mk := Ne.symm ne_mk_ir
                  refine W.eq (g2 := F0 m 66 ls [.int 0]) rfl ?_
                  refine W.widen (k := 0) (n := 0) (Nat.le_of_ble_eq_true rfl) (Nat.le_of_ble_eq_true rfl) ?_
                  have hm : mm D (AZ z) Mc2 H := hm
                  refine lv_if_eq (tgt := 71) hx hb dX6_list_66 (by decide) (fun c6 => ?_) (fun c6 => ?_)
                  · refine lv_aload_n hx hb dX6_list_71 rfl (lv_at hl 1 rfl) ?_
                    refine lv_iload_n hx hb dX6_list_72 rfl (lv_at hl 2 rfl) ?_
                    refine lv_iload_n hx hb dX6_list_73 rfl (lv_at hl 0 rfl) ?_
                    refine m_kV (As := [.int (-1), .int 0]) (rest := []) (rm := { frames := 1, cells := 0, slots := 0, locals := 24 }) ⟨hx, hb, hml, hown, hts⟩ (c_X6_lookAtAll l D k z _ mo 0 hF) (cwV 2 hts gX6_list_X6_lookAtAll rfl rfl rfl (by decide +kernel) ⟨Nat.le_of_ble_eq_true rfl, Nat.le_of_ble_eq_true rfl⟩) (m_recv hK hm (q := (RX6, TX6, 24)) rfl hM) hz hcx hm hS rfl hl.1 rfl (Nat.le_of_ble_eq_true rfl) dX6_list_74 ⟨Nat.le_of_ble_eq_true rfl, Nat.le_of_ble_eq_true rfl⟩ (fun v M1 H locs hv hm hS => ?_)
                    obtain ⟨hv1, hM1⟩ := hv
                    subst hv1
                    rw [hM1] at hm
                    refine W.eq (g2 := F0 m 77 ls []) rfl ?_
                    refine W.widen (k := 0) (n := 0) (Nat.le_of_ble_eq_true rfl) (Nat.le_of_ble_eq_true rfl) ?_
                    have hm : mm D (AZ z) Mc2 H := hm
                    refine lv_aload_n hx hb dX6_list_77 rfl (lv_at hl 1 rfl) ?_
                    refine lv_iload_n hx hb dX6_list_78 rfl (lv_at hl 0 rfl) ?_
                    refine m_kV (As := [.int 0]) (rest := []) (rm := { frames := 0, cells := 0, slots := 0, locals := 0 }) ⟨hx, hb, hml, hown, hts⟩ (c_X6_namesOf l D k z _ mo 0 hF) (cwV 1 hts gX6_list_X6_namesOf rfl rfl rfl (by decide +kernel) ⟨Nat.le_of_ble_eq_true rfl, Nat.le_of_ble_eq_true rfl⟩) (m_recv hK hm (q := (RX6, TX6, 24)) rfl hM) hz hcx hm hS rfl hl.1 rfl (Nat.le_of_ble_eq_true rfl) dX6_list_79 ⟨Nat.le_of_ble_eq_true rfl, Nat.le_of_ble_eq_true rfl⟩ (fun v M1 H locs hv hm hS => ?_)
                    obtain ⟨hv1, hM1⟩ := hv
                    subst hv1
                    rw [hM1] at hm
                    refine W.eq (g2 := F0 m 82 ls [.int 0]) rfl ?_
                    refine W.widen (k := 0) (n := 0) (Nat.le_of_ble_eq_true rfl) (Nat.le_of_ble_eq_true rfl) ?_
                    have hm : mm D (AZ z) Mc2 H := hm
                    refine W.iret (v := 0) hx hb hr (fun t ht hW => ⟨⟨some (.int 0), _, rfl, ?_, by rw [ht]; exact hm⟩, hS.F ht⟩) hS.2.2 dX6_list_82
                    exact ⟨Or.inr ⟨rfl, Or.inr (Or.inr ⟨hp9, h09, rfl, hF.code⟩)⟩, hkp⟩
                  · first | exact absurd c6 (by decide) | exact absurd (by decide) c6
                · exact absurd c5 (by decide)
              · first | exact absurd c4 (by decide) | exact absurd (by decide) c4
            · subst hv1
              refine W.eq (g2 := F0 m 39 ls [.int (-1)]) rfl ?_
              refine W.widen (k := 0) (n := 0) (Nat.le_of_ble_eq_true rfl) (Nat.le_of_ble_eq_true rfl) ?_
              have hm : mm D (AZ z) Mc1 H := hm
              refine lv_istore_n (lv' := [(3, .int (-1)), (0, .ref mo), (1, .int (-1)), (2, .int path)]) hx hb dX6_list_39 rfl hl (by decide) rfl (fun ls hl => ?_)
              refine lv_aload_n hx hb dX6_list_40 rfl (lv_at hl 1 rfl) ?_
              refine lv_iload_n hx hb dX6_list_41 rfl (lv_at hl 0 rfl) ?_
              refine lv_if_ge (tgt := 49) hx hb dX6_list_42 (by decide) (fun c7 => ?_) (fun c7 => ?_)
              · first | exact absurd c7 (by decide) | exact absurd (by decide) c7
              · refine lv_iconst (v := 3) hx hb dX6_list_45 (by decide) ?_
                refine lv_goto (tgt := 63) hx hb dX6_list_46 (by decide) ?_
                refine m_kV (As := [.int 3]) (rest := []) (rm := { frames := 0, cells := 0, slots := 0, locals := 0 }) ⟨hx, hb, hml, hown, hts⟩ (cL_X6_fails l D k z _ mo 0 3 hF) (cwV 1 hts gX6_list_X6_fails rfl rfl rfl (by decide +kernel) ⟨Nat.le_of_ble_eq_true rfl, Nat.le_of_ble_eq_true rfl⟩) (m_recv hK hm (q := (RX6, TX6, 24)) rfl hM) hz hcx hm hS rfl hl.1 rfl (Nat.le_of_ble_eq_true rfl) dX6_list_63 ⟨Nat.le_of_ble_eq_true rfl, Nat.le_of_ble_eq_true rfl⟩ (fun v M1 H locs hv hm hS => ?_)
                obtain ⟨hv1, hF, hL9⟩ := hv
                have hv1 : v = some (.int 1) := hv1.trans (by decide)
                subst hv1
                have hkp := hkp.trans hL9
                obtain ⟨Mc3, hMx⟩ : ∃ x : mM, x = M1 := ⟨M1, rfl⟩
                subst hMx
                obtain ⟨cn, ia, dr, en, la, wo, op, mk, ir, se, ec, lc, wc, ol, al, hap, hM, hcn, hia, hdr, hen, hla, hwo, hop, hmk, hir⟩ := id hF
                have ne_mo_cn : mo ≠ cn := pw_ne hap 0 1 (by decide) (Nat.le_of_ble_eq_true rfl)
                have ne_cn_mo : cn ≠ mo := Ne.symm ne_mo_cn
                have ne_mo_ia : mo ≠ ia := pw_ne hap 0 2 (by decide) (Nat.le_of_ble_eq_true rfl)
                have ne_ia_mo : ia ≠ mo := Ne.symm ne_mo_ia
                have ne_mo_dr : mo ≠ dr := pw_ne hap 0 3 (by decide) (Nat.le_of_ble_eq_true rfl)
                have ne_dr_mo : dr ≠ mo := Ne.symm ne_mo_dr
                have ne_mo_en : mo ≠ en := pw_ne hap 0 4 (by decide) (Nat.le_of_ble_eq_true rfl)
                have ne_en_mo : en ≠ mo := Ne.symm ne_mo_en
                have ne_mo_la : mo ≠ la := pw_ne hap 0 5 (by decide) (Nat.le_of_ble_eq_true rfl)
                have ne_la_mo : la ≠ mo := Ne.symm ne_mo_la
                have ne_mo_wo : mo ≠ wo := pw_ne hap 0 6 (by decide) (Nat.le_of_ble_eq_true rfl)
                have ne_wo_mo : wo ≠ mo := Ne.symm ne_mo_wo
                have ne_mo_op : mo ≠ op := pw_ne hap 0 7 (by decide) (Nat.le_of_ble_eq_true rfl)
                have ne_op_mo : op ≠ mo := Ne.symm ne_mo_op
                have ne_mo_mk : mo ≠ mk := pw_ne hap 0 8 (by decide) (Nat.le_of_ble_eq_true rfl)
                have ne_mk_mo : mk ≠ mo := Ne.symm ne_mo_mk
                have ne_mo_ir : mo ≠ ir := pw_ne hap 0 9 (by decide) (Nat.le_of_ble_eq_true rfl)
                have ne_ir_mo : ir ≠ mo := Ne.symm ne_mo_ir
                have ne_cn_ia : cn ≠ ia := pw_ne hap 1 2 (by decide) (Nat.le_of_ble_eq_true rfl)
                have ne_ia_cn : ia ≠ cn := Ne.symm ne_cn_ia
                have ne_cn_dr : cn ≠ dr := pw_ne hap 1 3 (by decide) (Nat.le_of_ble_eq_true rfl)
                have ne_dr_cn : dr ≠ cn := Ne.symm ne_cn_dr
                have ne_cn_en : cn ≠ en := pw_ne hap 1 4 (by decide) (Nat.le_of_ble_eq_true rfl)
                have ne_en_cn : en ≠ cn := Ne.symm ne_cn_en
                have ne_cn_la : cn ≠ la := pw_ne hap 1 5 (by decide) (Nat.le_of_ble_eq_true rfl)
                have ne_la_cn : la ≠ cn := Ne.symm ne_cn_la
                have ne_cn_wo : cn ≠ wo := pw_ne hap 1 6 (by decide) (Nat.le_of_ble_eq_true rfl)
                have ne_wo_cn : wo ≠ cn := Ne.symm ne_cn_wo
                have ne_cn_op : cn ≠ op := pw_ne hap 1 7 (by decide) (Nat.le_of_ble_eq_true rfl)
                have ne_op_cn : op ≠ cn := Ne.symm ne_cn_op
                have ne_cn_mk : cn ≠ mk := pw_ne hap 1 8 (by decide) (Nat.le_of_ble_eq_true rfl)
                have ne_mk_cn : mk ≠ cn := Ne.symm ne_cn_mk
                have ne_cn_ir : cn ≠ ir := pw_ne hap 1 9 (by decide) (Nat.le_of_ble_eq_true rfl)
                have ne_ir_cn : ir ≠ cn := Ne.symm ne_cn_ir
                have ne_ia_dr : ia ≠ dr := pw_ne hap 2 3 (by decide) (Nat.le_of_ble_eq_true rfl)
                have ne_dr_ia : dr ≠ ia := Ne.symm ne_ia_dr
                have ne_ia_en : ia ≠ en := pw_ne hap 2 4 (by decide) (Nat.le_of_ble_eq_true rfl)
                have ne_en_ia : en ≠ ia := Ne.symm ne_ia_en
                have ne_ia_la : ia ≠ la := pw_ne hap 2 5 (by decide) (Nat.le_of_ble_eq_true rfl)
                have ne_la_ia : la ≠ ia := Ne.symm ne_ia_la
                have ne_ia_wo : ia ≠ wo := pw_ne hap 2 6 (by decide) (Nat.le_of_ble_eq_true rfl)
                have ne_wo_ia : wo ≠ ia := Ne.symm ne_ia_wo
                have ne_ia_op : ia ≠ op := pw_ne hap 2 7 (by decide) (Nat.le_of_ble_eq_true rfl)
                have ne_op_ia : op ≠ ia := Ne.symm ne_ia_op
                have ne_ia_mk : ia ≠ mk := pw_ne hap 2 8 (by decide) (Nat.le_of_ble_eq_true rfl)
                have ne_mk_ia : mk ≠ ia := Ne.symm ne_ia_mk
                have ne_ia_ir : ia ≠ ir := pw_ne hap 2 9 (by decide) (Nat.le_of_ble_eq_true rfl)
                have ne_ir_ia : ir ≠ ia := Ne.symm ne_ia_ir
                have ne_dr_en : dr ≠ en := pw_ne hap 3 4 (by decide) (Nat.le_of_ble_eq_true rfl)
                have ne_en_dr : en ≠ dr := Ne.symm ne_dr_en
                have ne_dr_la : dr ≠ la := pw_ne hap 3 5 (by decide) (Nat.le_of_ble_eq_true rfl)
                have ne_la_dr : la ≠ dr := Ne.symm ne_dr_la
                have ne_dr_wo : dr ≠ wo := pw_ne hap 3 6 (by decide) (Nat.le_of_ble_eq_true rfl)
                have ne_wo_dr : wo ≠ dr := Ne.symm ne_dr_wo
                have ne_dr_op : dr ≠ op := pw_ne hap 3 7 (by decide) (Nat.le_of_ble_eq_true rfl)
                have ne_op_dr : op ≠ dr := Ne.symm ne_dr_op
                have ne_dr_mk : dr ≠ mk := pw_ne hap 3 8 (by decide) (Nat.le_of_ble_eq_true rfl)
                have ne_mk_dr : mk ≠ dr := Ne.symm ne_dr_mk
                have ne_dr_ir : dr ≠ ir := pw_ne hap 3 9 (by decide) (Nat.le_of_ble_eq_true rfl)
                have ne_ir_dr : ir ≠ dr := Ne.symm ne_dr_ir
                have ne_en_la : en ≠ la := pw_ne hap 4 5 (by decide) (Nat.le_of_ble_eq_true rfl)
                have ne_la_en : la ≠ en := Ne.symm ne_en_la
                have ne_en_wo : en ≠ wo := pw_ne hap 4 6 (by decide) (Nat.le_of_ble_eq_true rfl)
                have ne_wo_en : wo ≠ en := Ne.symm ne_en_wo
                have ne_en_op : en ≠ op := pw_ne hap 4 7 (by decide) (Nat.le_of_ble_eq_true rfl)
                have ne_op_en : op ≠ en := Ne.symm ne_en_op
                have ne_en_mk : en ≠ mk := pw_ne hap 4 8 (by decide) (Nat.le_of_ble_eq_true rfl)
                have ne_mk_en : mk ≠ en := Ne.symm ne_en_mk
                have ne_en_ir : en ≠ ir := pw_ne hap 4 9 (by decide) (Nat.le_of_ble_eq_true rfl)
                have ne_ir_en : ir ≠ en := Ne.symm ne_en_ir
                have ne_la_wo : la ≠ wo := pw_ne hap 5 6 (by decide) (Nat.le_of_ble_eq_true rfl)
                have ne_wo_la : wo ≠ la := Ne.symm ne_la_wo
                have ne_la_op : la ≠ op := pw_ne hap 5 7 (by decide) (Nat.le_of_ble_eq_true rfl)
                have ne_op_la : op ≠ la := Ne.symm ne_la_op
                have ne_la_mk : la ≠ mk := pw_ne hap 5 8 (by decide) (Nat.le_of_ble_eq_true rfl)
                have ne_mk_la : mk ≠ la := Ne.symm ne_la_mk
                have ne_la_ir : la ≠ ir := pw_ne hap 5 9 (by decide) (Nat.le_of_ble_eq_true rfl)
                have ne_ir_la : ir ≠ la := Ne.symm ne_la_ir
                have ne_wo_op : wo ≠ op := pw_ne hap 6 7 (by decide) (Nat.le_of_ble_eq_true rfl)
                have ne_op_wo : op ≠ wo := Ne.symm ne_wo_op
                have ne_wo_mk : wo ≠ mk := pw_ne hap 6 8 (by decide) (Nat.le_of_ble_eq_true rfl)
                have ne_mk_wo : mk ≠ wo := Ne.symm ne_wo_mk
                have ne_wo_ir : wo ≠ ir := pw_ne hap 6 9 (by decide) (Nat.le_of_ble_eq_true rfl)
                have ne_ir_wo : ir ≠ wo := Ne.symm ne_wo_ir
                have ne_op_mk : op ≠ mk := pw_ne hap 7 8 (by decide) (Nat.le_of_ble_eq_true rfl)
                have ne_mk_op : mk ≠ op := Ne.symm ne_op_mk
                have ne_op_ir : op ≠ ir := pw_ne hap 7 9 (by decide) (Nat.le_of_ble_eq_true rfl)
                have ne_ir_op : ir ≠ op := Ne.symm ne_op_ir
                have ne_mk_ir : mk ≠ ir := pw_ne hap 8 9 (by decide) (Nat.le_of_ble_eq_true rfl)
                have ne_ir_mk : ir ≠ mk := Ne.symm ne_mk_ir
                refine W.eq (g2 := F0 m 66 ls [.int 1]) rfl ?_
                refine W.widen (k := 0) (n := 0) (Nat.le_of_ble_eq_true rfl) (Nat.le_of_ble_eq_true rfl) ?_
                have hm : mm D (AZ z) Mc3 H := hm
                refine lv_if_eq (tgt := 71) hx hb dX6_list_66 (by decide) (fun c8 => ?_) (fun c8 => ?_)
                · first | exact absurd c8 (by decide) | exact absurd (by decide) c8
                · refine lv_iconst (v := 0) hx hb dX6_list_69 (by decide) ?_
                  refine W.iret (v := 0) hx hb hr (fun t ht hW => ⟨⟨some (.int 0), _, rfl, ?_, by rw [ht]; exact hm⟩, hS.F ht⟩) hS.2.2 dX6_list_70
                  exact ⟨Or.inr ⟨rfl, Or.inr (Or.inl ⟨hp9, h09, rfl, hF.code⟩)⟩, hkp⟩
          · first | exact absurd c3 (by decide) | exact absurd (by decide) c3
        · first | exact absurd c2 (by decide) | exact absurd (by decide) c2
      · subst hv1
        refine W.eq (g2 := F0 m 17 ls [.int 0, .ref mo]) rfl ?_
        refine W.widen (k := 0) (n := 0) (Nat.le_of_ble_eq_true rfl) (Nat.le_of_ble_eq_true rfl) ?_
        have hm : mm D (AZ z) M H := hm
        refine lv_if_ne (tgt := 24) hx hb dX6_list_17 (by decide) (fun c9 => ?_) (fun c9 => ?_)
        · first | exact absurd c9 (by decide) | exact absurd (by decide) c9
        · refine lv_iconst (v := 2) hx hb dX6_list_20 (by decide) ?_
          refine lv_goto (tgt := 25) hx hb dX6_list_21 (by decide) ?_
          refine m_kV (As := [.int 2]) (rest := []) (rm := { frames := 0, cells := 0, slots := 0, locals := 0 }) ⟨hx, hb, hml, hown, hts⟩ (cL_X6_fails l D k z _ mo 0 2 hF) (cwV 1 hts gX6_list_X6_fails rfl rfl rfl (by decide +kernel) ⟨Nat.le_of_ble_eq_true rfl, Nat.le_of_ble_eq_true rfl⟩) (m_recv hK hm (q := (RX6, TX6, 24)) rfl hM) hz hcx hm hS rfl hl.1 rfl (Nat.le_of_ble_eq_true rfl) dX6_list_25 ⟨Nat.le_of_ble_eq_true rfl, Nat.le_of_ble_eq_true rfl⟩ (fun v M1 H locs hv hm hS => ?_)
          obtain ⟨hv1, hF, hL9⟩ := hv
          have hv1 : v = some (.int 1) := hv1.trans (by decide)
          subst hv1
          have hkp := hkp.trans hL9
          obtain ⟨Mc4, hMx⟩ : ∃ x : mM, x = M1 := ⟨M1, rfl⟩
          subst hMx
          obtain ⟨cn, ia, dr, en, la, wo, op, mk, ir, se, ec, lc, wc, ol, al, hap, hM, hcn, hia, hdr, hen, hla, hwo, hop, hmk, hir⟩ := id hF
          have ne_mo_cn : mo ≠ cn := pw_ne hap 0 1 (by decide) (Nat.le_of_ble_eq_true rfl)
          have ne_cn_mo : cn ≠ mo := Ne.symm ne_mo_cn
          have ne_mo_ia : mo ≠ ia := pw_ne hap 0 2 (by decide) (Nat.le_of_ble_eq_true rfl)
          have ne_ia_mo : ia ≠ mo := Ne.symm ne_mo_ia
          have ne_mo_dr : mo ≠ dr := pw_ne hap 0 3 (by decide) (Nat.le_of_ble_eq_true rfl)
          have ne_dr_mo : dr ≠ mo := Ne.symm ne_mo_dr
          have ne_mo_en : mo ≠ en := pw_ne hap 0 4 (by decide) (Nat.le_of_ble_eq_true rfl)
          have ne_en_mo : en ≠ mo := Ne.symm ne_mo_en
          have ne_mo_la : mo ≠ la := pw_ne hap 0 5 (by decide) (Nat.le_of_ble_eq_true rfl)
          have ne_la_mo : la ≠ mo := Ne.symm ne_mo_la
          have ne_mo_wo : mo ≠ wo := pw_ne hap 0 6 (by decide) (Nat.le_of_ble_eq_true rfl)
          have ne_wo_mo : wo ≠ mo := Ne.symm ne_mo_wo
          have ne_mo_op : mo ≠ op := pw_ne hap 0 7 (by decide) (Nat.le_of_ble_eq_true rfl)
          have ne_op_mo : op ≠ mo := Ne.symm ne_mo_op
          have ne_mo_mk : mo ≠ mk := pw_ne hap 0 8 (by decide) (Nat.le_of_ble_eq_true rfl)
          have ne_mk_mo : mk ≠ mo := Ne.symm ne_mo_mk
          have ne_mo_ir : mo ≠ ir := pw_ne hap 0 9 (by decide) (Nat.le_of_ble_eq_true rfl)
          have ne_ir_mo : ir ≠ mo := Ne.symm ne_mo_ir
          have ne_cn_ia : cn ≠ ia := pw_ne hap 1 2 (by decide) (Nat.le_of_ble_eq_true rfl)
          have ne_ia_cn : ia ≠ cn := Ne.symm ne_cn_ia
          have ne_cn_dr : cn ≠ dr := pw_ne hap 1 3 (by decide) (Nat.le_of_ble_eq_true rfl)
          have ne_dr_cn : dr ≠ cn := Ne.symm ne_cn_dr
          have ne_cn_en : cn ≠ en := pw_ne hap 1 4 (by decide) (Nat.le_of_ble_eq_true rfl)
          have ne_en_cn : en ≠ cn := Ne.symm ne_cn_en
          have ne_cn_la : cn ≠ la := pw_ne hap 1 5 (by decide) (Nat.le_of_ble_eq_true rfl)
          have ne_la_cn : la ≠ cn := Ne.symm ne_cn_la
          have ne_cn_wo : cn ≠ wo := pw_ne hap 1 6 (by decide) (Nat.le_of_ble_eq_true rfl)
          have ne_wo_cn : wo ≠ cn := Ne.symm ne_cn_wo
          have ne_cn_op : cn ≠ op := pw_ne hap 1 7 (by decide) (Nat.le_of_ble_eq_true rfl)
          have ne_op_cn : op ≠ cn := Ne.symm ne_cn_op
          have ne_cn_mk : cn ≠ mk := pw_ne hap 1 8 (by decide) (Nat.le_of_ble_eq_true rfl)
          have ne_mk_cn : mk ≠ cn := Ne.symm ne_cn_mk
          have ne_cn_ir : cn ≠ ir := pw_ne hap 1 9 (by decide) (Nat.le_of_ble_eq_true rfl)
          have ne_ir_cn : ir ≠ cn := Ne.symm ne_cn_ir
          have ne_ia_dr : ia ≠ dr := pw_ne hap 2 3 (by decide) (Nat.le_of_ble_eq_true rfl)
          have ne_dr_ia : dr ≠ ia := Ne.symm ne_ia_dr
          have ne_ia_en : ia ≠ en := pw_ne hap 2 4 (by decide) (Nat.le_of_ble_eq_true rfl)
          have ne_en_ia : en ≠ ia := Ne.symm ne_ia_en
          have ne_ia_la : ia ≠ la := pw_ne hap 2 5 (by decide) (Nat.le_of_ble_eq_true rfl)
          have ne_la_ia : la ≠ ia := Ne.symm ne_ia_la
          have ne_ia_wo : ia ≠ wo := pw_ne hap 2 6 (by decide) (Nat.le_of_ble_eq_true rfl)
          have ne_wo_ia : wo ≠ ia := Ne.symm ne_ia_wo
          have ne_ia_op : ia ≠ op := pw_ne hap 2 7 (by decide) (Nat.le_of_ble_eq_true rfl)
          have ne_op_ia : op ≠ ia := Ne.symm ne_ia_op
          have ne_ia_mk : ia ≠ mk := pw_ne hap 2 8 (by decide) (Nat.le_of_ble_eq_true rfl)
          have ne_mk_ia : mk ≠ ia := Ne.symm ne_ia_mk
          have ne_ia_ir : ia ≠ ir := pw_ne hap 2 9 (by decide) (Nat.le_of_ble_eq_true rfl)
          have ne_ir_ia : ir ≠ ia := Ne.symm ne_ia_ir
          have ne_dr_en : dr ≠ en := pw_ne hap 3 4 (by decide) (Nat.le_of_ble_eq_true rfl)
          have ne_en_dr : en ≠ dr := Ne.symm ne_dr_en
          have ne_dr_la : dr ≠ la := pw_ne hap 3 5 (by decide) (Nat.le_of_ble_eq_true rfl)
          have ne_la_dr : la ≠ dr := Ne.symm ne_dr_la
          have ne_dr_wo : dr ≠ wo := pw_ne hap 3 6 (by decide) (Nat.le_of_ble_eq_true rfl)
          have ne_wo_dr : wo ≠ dr := Ne.symm ne_dr_wo
          have ne_dr_op : dr ≠ op := pw_ne hap 3 7 (by decide) (Nat.le_of_ble_eq_true rfl)
          have ne_op_dr : op ≠ dr := Ne.symm ne_dr_op
          have ne_dr_mk : dr ≠ mk := pw_ne hap 3 8 (by decide) (Nat.le_of_ble_eq_true rfl)
          have ne_mk_dr : mk ≠ dr := Ne.symm ne_dr_mk
          have ne_dr_ir : dr ≠ ir := pw_ne hap 3 9 (by decide) (Nat.le_of_ble_eq_true rfl)
          have ne_ir_dr : ir ≠ dr := Ne.symm ne_dr_ir
          have ne_en_la : en ≠ la := pw_ne hap 4 5 (by decide) (Nat.le_of_ble_eq_true rfl)
          have ne_la_en : la ≠ en := Ne.symm ne_en_la
          have ne_en_wo : en ≠ wo := pw_ne hap 4 6 (by decide) (Nat.le_of_ble_eq_true rfl)
          have ne_wo_en : wo ≠ en := Ne.symm ne_en_wo
          have ne_en_op : en ≠ op := pw_ne hap 4 7 (by decide) (Nat.le_of_ble_eq_true rfl)
          have ne_op_en : op ≠ en := Ne.symm ne_en_op
          have ne_en_mk : en ≠ mk := pw_ne hap 4 8 (by decide) (Nat.le_of_ble_eq_true rfl)
          have ne_mk_en : mk ≠ en := Ne.symm ne_en_mk
          have ne_en_ir : en ≠ ir := pw_ne hap 4 9 (by decide) (Nat.le_of_ble_eq_true rfl)
          have ne_ir_en : ir ≠ en := Ne.symm ne_en_ir
          have ne_la_wo : la ≠ wo := pw_ne hap 5 6 (by decide) (Nat.le_of_ble_eq_true rfl)
          have ne_wo_la : wo ≠ la := Ne.symm ne_la_wo
          have ne_la_op : la ≠ op := pw_ne hap 5 7 (by decide) (Nat.le_of_ble_eq_true rfl)
          have ne_op_la : op ≠ la := Ne.symm ne_la_op
          have ne_la_mk : la ≠ mk := pw_ne hap 5 8 (by decide) (Nat.le_of_ble_eq_true rfl)
          have ne_mk_la : mk ≠ la := Ne.symm ne_la_mk
          have ne_la_ir : la ≠ ir := pw_ne hap 5 9 (by decide) (Nat.le_of_ble_eq_true rfl)
          have ne_ir_la : ir ≠ la := Ne.symm ne_la_ir
          have ne_wo_op : wo ≠ op := pw_ne hap 6 7 (by decide) (Nat.le_of_ble_eq_true rfl)
          have ne_op_wo : op ≠ wo := Ne.symm ne_wo_op
          have ne_wo_mk : wo ≠ mk := pw_ne hap 6 8 (by decide) (Nat.le_of_ble_eq_true rfl)
          have ne_mk_wo : mk ≠ wo := Ne.symm ne_wo_mk
          have ne_wo_ir : wo ≠ ir := pw_ne hap 6 9 (by decide) (Nat.le_of_ble_eq_true rfl)
          have ne_ir_wo : ir ≠ wo := Ne.symm ne_wo_ir
          have ne_op_mk : op ≠ mk := pw_ne hap 7 8 (by decide) (Nat.le_of_ble_eq_true rfl)
          have ne_mk_op : mk ≠ op := Ne.symm ne_op_mk
          have ne_op_ir : op ≠ ir := pw_ne hap 7 9 (by decide) (Nat.le_of_ble_eq_true rfl)
          have ne_ir_op : ir ≠ op := Ne.symm ne_op_ir
          have ne_mk_ir : mk ≠ ir := pw_ne hap 8 9 (by decide) (Nat.le_of_ble_eq_true rfl)
          have ne_ir_mk : ir ≠ mk := Ne.symm ne_mk_ir
          refine W.eq (g2 := F0 m 28 ls [.int 1]) rfl ?_
          refine W.widen (k := 0) (n := 0) (Nat.le_of_ble_eq_true rfl) (Nat.le_of_ble_eq_true rfl) ?_
          have hm : mm D (AZ z) Mc4 H := hm
          refine lv_if_eq (tgt := 33) hx hb dX6_list_28 (by decide) (fun c10 => ?_) (fun c10 => ?_)
          · first | exact absurd c10 (by decide) | exact absurd (by decide) c10
          · refine lv_iconst (v := 0) hx hb dX6_list_31 (by decide) ?_
            refine W.iret (v := 0) hx hb hr (fun t ht hW => ⟨⟨some (.int 0), _, rfl, ?_, by rw [ht]; exact hm⟩, hS.F ht⟩) hS.2.2 dX6_list_32
            first
              | exact ⟨Or.inl ⟨ht9, rfl, hF.code⟩, hkp⟩
              | exact ⟨Or.inr ⟨rfl, Or.inl ⟨hp9, rfl, hF.code⟩⟩, hkp⟩
    · first | exact absurd c1 (by decide) | exact absurd (by decide) c1
  · subst hv1
    refine W.eq (g2 := F0 m 6 ls [.int 0, .ref mo]) rfl ?_
    refine W.widen (k := 0) (n := 0) (Nat.le_of_ble_eq_true rfl) (Nat.le_of_ble_eq_true rfl) ?_
    have hm : mm D (AZ z) M H := hm
    refine lv_if_ne (tgt := 13) hx hb dX6_list_6 (by decide) (fun c11 => ?_) (fun c11 => ?_)
    · first | exact absurd c11 (by decide) | exact absurd (by decide) c11
    · refine lv_iconst (v := 1) hx hb dX6_list_9 (by decide) ?_
      refine lv_goto (tgt := 25) hx hb dX6_list_10 (by decide) ?_
      refine m_kV (As := [.int 1]) (rest := []) (rm := { frames := 0, cells := 0, slots := 0, locals := 0 }) ⟨hx, hb, hml, hown, hts⟩ (cL_X6_fails l D k z _ mo 0 1 hF) (cwV 1 hts gX6_list_X6_fails rfl rfl rfl (by decide +kernel) ⟨Nat.le_of_ble_eq_true rfl, Nat.le_of_ble_eq_true rfl⟩) (m_recv hK hm (q := (RX6, TX6, 24)) rfl hM) hz hcx hm hS rfl hl.1 rfl (Nat.le_of_ble_eq_true rfl) dX6_list_25 ⟨Nat.le_of_ble_eq_true rfl, Nat.le_of_ble_eq_true rfl⟩ (fun v M1 H locs hv hm hS => ?_)
      obtain ⟨hv1, hF, hL9⟩ := hv
      have hv1 : v = some (.int 1) := hv1.trans (by decide)
      subst hv1
      have hkp := hkp.trans hL9
      obtain ⟨Mc5, hMx⟩ : ∃ x : mM, x = M1 := ⟨M1, rfl⟩
      subst hMx
      obtain ⟨cn, ia, dr, en, la, wo, op, mk, ir, se, ec, lc, wc, ol, al, hap, hM, hcn, hia, hdr, hen, hla, hwo, hop, hmk, hir⟩ := id hF
      have ne_mo_cn : mo ≠ cn := pw_ne hap 0 1 (by decide) (Nat.le_of_ble_eq_true rfl)
      have ne_cn_mo : cn ≠ mo := Ne.symm ne_mo_cn
      have ne_mo_ia : mo ≠ ia := pw_ne hap 0 2 (by decide) (Nat.le_of_ble_eq_true rfl)
      have ne_ia_mo : ia ≠ mo := Ne.symm ne_mo_ia
      have ne_mo_dr : mo ≠ dr := pw_ne hap 0 3 (by decide) (Nat.le_of_ble_eq_true rfl)
      have ne_dr_mo : dr ≠ mo := Ne.symm ne_mo_dr
      have ne_mo_en : mo ≠ en := pw_ne hap 0 4 (by decide) (Nat.le_of_ble_eq_true rfl)
      have ne_en_mo : en ≠ mo := Ne.symm ne_mo_en
      have ne_mo_la : mo ≠ la := pw_ne hap 0 5 (by decide) (Nat.le_of_ble_eq_true rfl)
      have ne_la_mo : la ≠ mo := Ne.symm ne_mo_la
      have ne_mo_wo : mo ≠ wo := pw_ne hap 0 6 (by decide) (Nat.le_of_ble_eq_true rfl)
      have ne_wo_mo : wo ≠ mo := Ne.symm ne_mo_wo
      have ne_mo_op : mo ≠ op := pw_ne hap 0 7 (by decide) (Nat.le_of_ble_eq_true rfl)
      have ne_op_mo : op ≠ mo := Ne.symm ne_mo_op
      have ne_mo_mk : mo ≠ mk := pw_ne hap 0 8 (by decide) (Nat.le_of_ble_eq_true rfl)
      have ne_mk_mo : mk ≠ mo := Ne.symm ne_mo_mk
      have ne_mo_ir : mo ≠ ir := pw_ne hap 0 9 (by decide) (Nat.le_of_ble_eq_true rfl)
      have ne_ir_mo : ir ≠ mo := Ne.symm ne_mo_ir
      have ne_cn_ia : cn ≠ ia := pw_ne hap 1 2 (by decide) (Nat.le_of_ble_eq_true rfl)
      have ne_ia_cn : ia ≠ cn := Ne.symm ne_cn_ia
      have ne_cn_dr : cn ≠ dr := pw_ne hap 1 3 (by decide) (Nat.le_of_ble_eq_true rfl)
      have ne_dr_cn : dr ≠ cn := Ne.symm ne_cn_dr
      have ne_cn_en : cn ≠ en := pw_ne hap 1 4 (by decide) (Nat.le_of_ble_eq_true rfl)
      have ne_en_cn : en ≠ cn := Ne.symm ne_cn_en
      have ne_cn_la : cn ≠ la := pw_ne hap 1 5 (by decide) (Nat.le_of_ble_eq_true rfl)
      have ne_la_cn : la ≠ cn := Ne.symm ne_cn_la
      have ne_cn_wo : cn ≠ wo := pw_ne hap 1 6 (by decide) (Nat.le_of_ble_eq_true rfl)
      have ne_wo_cn : wo ≠ cn := Ne.symm ne_cn_wo
      have ne_cn_op : cn ≠ op := pw_ne hap 1 7 (by decide) (Nat.le_of_ble_eq_true rfl)
      have ne_op_cn : op ≠ cn := Ne.symm ne_cn_op
      have ne_cn_mk : cn ≠ mk := pw_ne hap 1 8 (by decide) (Nat.le_of_ble_eq_true rfl)
      have ne_mk_cn : mk ≠ cn := Ne.symm ne_cn_mk
      have ne_cn_ir : cn ≠ ir := pw_ne hap 1 9 (by decide) (Nat.le_of_ble_eq_true rfl)
      have ne_ir_cn : ir ≠ cn := Ne.symm ne_cn_ir
      have ne_ia_dr : ia ≠ dr := pw_ne hap 2 3 (by decide) (Nat.le_of_ble_eq_true rfl)
      have ne_dr_ia : dr ≠ ia := Ne.symm ne_ia_dr
      have ne_ia_en : ia ≠ en := pw_ne hap 2 4 (by decide) (Nat.le_of_ble_eq_true rfl)
      have ne_en_ia : en ≠ ia := Ne.symm ne_ia_en
      have ne_ia_la : ia ≠ la := pw_ne hap 2 5 (by decide) (Nat.le_of_ble_eq_true rfl)
      have ne_la_ia : la ≠ ia := Ne.symm ne_ia_la
      have ne_ia_wo : ia ≠ wo := pw_ne hap 2 6 (by decide) (Nat.le_of_ble_eq_true rfl)
      have ne_wo_ia : wo ≠ ia := Ne.symm ne_ia_wo
      have ne_ia_op : ia ≠ op := pw_ne hap 2 7 (by decide) (Nat.le_of_ble_eq_true rfl)
      have ne_op_ia : op ≠ ia := Ne.symm ne_ia_op
      have ne_ia_mk : ia ≠ mk := pw_ne hap 2 8 (by decide) (Nat.le_of_ble_eq_true rfl)
      have ne_mk_ia : mk ≠ ia := Ne.symm ne_ia_mk
      have ne_ia_ir : ia ≠ ir := pw_ne hap 2 9 (by decide) (Nat.le_of_ble_eq_true rfl)
      have ne_ir_ia : ir ≠ ia := Ne.symm ne_ia_ir
      have ne_dr_en : dr ≠ en := pw_ne hap 3 4 (by decide) (Nat.le_of_ble_eq_true rfl)
      have ne_en_dr : en ≠ dr := Ne.symm ne_dr_en
      have ne_dr_la : dr ≠ la := pw_ne hap 3 5 (by decide) (Nat.le_of_ble_eq_true rfl)
      have ne_la_dr : la ≠ dr := Ne.symm ne_dr_la
      have ne_dr_wo : dr ≠ wo := pw_ne hap 3 6 (by decide) (Nat.le_of_ble_eq_true rfl)
      have ne_wo_dr : wo ≠ dr := Ne.symm ne_dr_wo
      have ne_dr_op : dr ≠ op := pw_ne hap 3 7 (by decide) (Nat.le_of_ble_eq_true rfl)
      have ne_op_dr : op ≠ dr := Ne.symm ne_dr_op
      have ne_dr_mk : dr ≠ mk := pw_ne hap 3 8 (by decide) (Nat.le_of_ble_eq_true rfl)
      have ne_mk_dr : mk ≠ dr := Ne.symm ne_dr_mk
      have ne_dr_ir : dr ≠ ir := pw_ne hap 3 9 (by decide) (Nat.le_of_ble_eq_true rfl)
      have ne_ir_dr : ir ≠ dr := Ne.symm ne_dr_ir
      have ne_en_la : en ≠ la := pw_ne hap 4 5 (by decide) (Nat.le_of_ble_eq_true rfl)
      have ne_la_en : la ≠ en := Ne.symm ne_en_la
      have ne_en_wo : en ≠ wo := pw_ne hap 4 6 (by decide) (Nat.le_of_ble_eq_true rfl)
      have ne_wo_en : wo ≠ en := Ne.symm ne_en_wo
      have ne_en_op : en ≠ op := pw_ne hap 4 7 (by decide) (Nat.le_of_ble_eq_true rfl)
      have ne_op_en : op ≠ en := Ne.symm ne_en_op
      have ne_en_mk : en ≠ mk := pw_ne hap 4 8 (by decide) (Nat.le_of_ble_eq_true rfl)
      have ne_mk_en : mk ≠ en := Ne.symm ne_en_mk
      have ne_en_ir : en ≠ ir := pw_ne hap 4 9 (by decide) (Nat.le_of_ble_eq_true rfl)
      have ne_ir_en : ir ≠ en := Ne.symm ne_en_ir
      have ne_la_wo : la ≠ wo := pw_ne hap 5 6 (by decide) (Nat.le_of_ble_eq_true rfl)
      have ne_wo_la : wo ≠ la := Ne.symm ne_la_wo
      have ne_la_op : la ≠ op := pw_ne hap 5 7 (by decide) (Nat.le_of_ble_eq_true rfl)
      have ne_op_la : op ≠ la := Ne.symm ne_la_op
      have ne_la_mk : la ≠ mk := pw_ne hap 5 8 (by decide) (Nat.le_of_ble_eq_true rfl)
      have ne_mk_la : mk ≠ la := Ne.symm ne_la_mk
      have ne_la_ir : la ≠ ir := pw_ne hap 5 9 (by decide) (Nat.le_of_ble_eq_true rfl)
      have ne_ir_la : ir ≠ la := Ne.symm ne_la_ir
      have ne_wo_op : wo ≠ op := pw_ne hap 6 7 (by decide) (Nat.le_of_ble_eq_true rfl)
      have ne_op_wo : op ≠ wo := Ne.symm ne_wo_op
      have ne_wo_mk : wo ≠ mk := pw_ne hap 6 8 (by decide) (Nat.le_of_ble_eq_true rfl)
      have ne_mk_wo : mk ≠ wo := Ne.symm ne_wo_mk
      have ne_wo_ir : wo ≠ ir := pw_ne hap 6 9 (by decide) (Nat.le_of_ble_eq_true rfl)
      have ne_ir_wo : ir ≠ wo := Ne.symm ne_wo_ir
      have ne_op_mk : op ≠ mk := pw_ne hap 7 8 (by decide) (Nat.le_of_ble_eq_true rfl)
      have ne_mk_op : mk ≠ op := Ne.symm ne_op_mk
      have ne_op_ir : op ≠ ir := pw_ne hap 7 9 (by decide) (Nat.le_of_ble_eq_true rfl)
      have ne_ir_op : ir ≠ op := Ne.symm ne_op_ir
      have ne_mk_ir : mk ≠ ir := pw_ne hap 8 9 (by decide) (Nat.le_of_ble_eq_true rfl)
      have ne_ir_mk : ir ≠ mk := Ne.symm ne_mk_ir
      refine W.eq (g2 := F0 m 28 ls [.int 1]) rfl ?_
      refine W.widen (k := 0) (n := 0) (Nat.le_of_ble_eq_true rfl) (Nat.le_of_ble_eq_true rfl) ?_
      have hm : mm D (AZ z) Mc5 H := hm
      refine lv_if_eq (tgt := 33) hx hb dX6_list_28 (by decide) (fun c12 => ?_) (fun c12 => ?_)
      · first | exact absurd c12 (by decide) | exact absurd (by decide) c12
      · refine lv_iconst (v := 0) hx hb dX6_list_31 (by decide) ?_
        refine W.iret (v := 0) hx hb hr (fun t ht hW => ⟨⟨some (.int 0), _, rfl, ?_, by rw [ht]; exact hm⟩, hS.F ht⟩) hS.2.2 dX6_list_32
        first
          | exact ⟨Or.inl ⟨ht9, rfl, hF.code⟩, hkp⟩
          | exact ⟨Or.inr ⟨rfl, Or.inl ⟨hp9, rfl, hF.code⟩⟩, hkp⟩
