theorem dg_0 (path : Int32) : (path >>> (nI (4 * 0) &&& 31)) = path := by rw [show (nI (4 * 0) &&& 31) = 0 from by decide]; simp
/-- tree 31 has at most B nodes -/
def cnt31 (k : Nat → ClassId) (M : mM) (cn B : Nat) : Prop := ∃ (f : Nat → Int32) (u : Nat), M cn = some (.inl (k 0, 32, .inl f)) ∧ f 31 = nI u ∧ u ≤ B
theorem cnt31.of {k : Nat → ClassId} {M M1 : mM} {cn B : Nat} (h : cnt31 k M cn B) (h1 : M1 cn = M cn) : cnt31 k M1 cn B := by
  obtain ⟨f, u, h2, h3⟩ := h
  exact ⟨f, u, h1.trans h2, h3⟩
theorem cnt31.le {k : Nat → ClassId} {M : mM} {cn B u : Nat} {f : Nat → Int32} (h : cnt31 k M cn B) (hB : B ≤ 100) (hf : M cn = some (.inl (k 0, 32, .inl f))) (hu : u ≤ 100) (he : f 31 = nI u) : u ≤ B := by
  obtain ⟨f2, u2, h2, h3, h4⟩ := h
  have h9 := h2.symm.trans hf
  cases h9
  have := nI_inj (by omega) (by omega) (h3.symm.trans he)
  omega
theorem cnt31.up {k : Nat → ClassId} {M : mM} {cn B C : Nat} (h : cnt31 k M cn B) (hB : B ≤ C) : cnt31 k M cn C := by
  obtain ⟨f, u, h2, h3, h4⟩ := h
  exact ⟨f, u, h2, h3, Nat.le_trans h4 hB⟩
def dead (f : Nat → Int32) : Nat := (List.range 100).countP (fun j => f j == 0)
def deadM (M : mM) (a : Nat) : Nat := match M a with
  | some (.inl (_, _, .inl f)) => dead f
  | _ => 0
theorem deadM_of {M : mM} {a n : Nat} {c : ClassId} {f : Nat → Int32} (h : M a = some (.inl (c, n, .inl f))) : deadM M a = dead f := by unfold deadM; rw [h]
theorem cp_lt {p q : Nat → Bool} (h : ∀ j, q j = true → p j = true) : ∀ {l : List Nat} {i : Nat}, i ∈ l → p i = true → q i = false → l.countP q < l.countP p
  | [], i, hi, _, _ => by cases hi
  | x :: l, i, hi, hp, hq => by
    have hm : l.countP q ≤ l.countP p := List.countP_mono_left (fun j _ => h j)
    rw [List.countP_cons, List.countP_cons]
    rcases List.mem_cons.mp hi with rfl | hi
    · rw [hp, hq]; simp; omega
    · have := cp_lt h hi hp hq
      cases hx : q x with
      | false => simp; omega
      | true => rw [h x hx]; simp; omega
theorem dead_up {f : Nat → Int32} {i : Nat} {x : Int32} (hi : i < 100) (hf : f i = 0) (hx : x ≠ 0) : dead (upd f i x) < dead f := by
  refine cp_lt (i := i) ?_ (List.mem_range.mpr hi) (by simp [hf]) (by simp [upd, hx])
  intro j hj
  by_cases hji : j = i
  · subst hji; simp [hf]
  · simpa [upd, hji] using hj

set_option maxHeartbeats 4000000 in
set_option maxRecDepth 100000 in
theorem s_X6_remove (l : Launch) (D : va_G) (k : Nat → ClassId) (z : Nat) (M : mM) (mo cn ia dr en la wo op mk ir se ec lc wc ol al : Nat) (dn md : Int32)  (tq path : Int32) (hbd : md ≠ 0 → dn ≠ 0) (hI : mI k M mo cn ia dr en la wo op mk ir se ec lc wc ol al dn md) : mK l yX6_remove wsX6_remove ({ frames := 4, cells := 0, slots := 0, locals := 97 }) D k z [.ref mo, .int tq, .int path] M (fun v M' => (∃ x, v = some (.int x)) ∧ mI k M' mo cn ia dr en la wo op mk ir se ec lc wc ol al dn md ∧ kpx (fun a => a ∈ [mo, cn, ia, dr, en, la, wo, op, mk, ir, se, ec, lc, wc, ol, al]) M M') := by
  refine Met.ofW (cc := cX6_remove) (maxL := 8) (ret := (some .boolean)) (by decide) rfl ?_
  intro p e s m args below meth c s₁ B hml hv
  obtain ⟨rfl, hz, hcx, hm⟩ := hv
  have hx := B.exec
  have hb := B.bytes
  have hr := B.returns
  have hts := atoms_spec (ws := wsX6_remove) B.pre
  have hown : s.vm.findClass RX6 = some m.cls := findClass_of_methodNamed B.named
  have hlocks := B.notSynchronized
  have hK := hcx.1
  have hS : va_S (AZ z) s.heap s.heap [] := va_S.rf
  have hA : ∀ q, s.heap.size ≤ q → AZ z q := fun q h => Nat.le_trans hz h
  have hl := lv_entry ([.ref mo, .int tq, .int path]) (n := 8) (Nat.le_of_ble_eq_true rfl)
  rw [lg_entry_eq]
  generalize (lg_sl ([.ref mo, .int tq, .int path]) ++ List.replicate (8 - (lg_sl ([.ref mo, .int tq, .int path])).length) Slot.unset).toArray = ls at hl ⊢
  have hl : lv_has ls 8 [(0, .ref mo), (1, .int tq), (2, .int path)] := hl
  have f7 := hts (.fieldLink RX6 7 "CommitTreeModel" "counts" "[I") (by decide +kernel)
  have f13 := hts (.fieldLink RX6 13 "CommitTreeModel" "ids" "[I") (by decide +kernel)
  have f16 := hts (.fieldLink RX6 16 "CommitTreeModel" "dirs" "[Z") (by decide +kernel)
  have f21 := hts (.fieldLink RX6 21 "CommitTreeModel" "entries" "[I") (by decide +kernel)
  have wX6 : ∀ w ∈ wsX60, w ∈ wsX6_remove := by decide +kernel
  obtain ⟨cd, ni, pw, cm, wr, cs, hm9, fcn, fia, fdr, fen, fla, fwo, fop, fmk, fir, fse, fec, flc, fol, fal, fwc, hap, hM, hmd, ⟨hrC, hrL, hrM⟩, hcn, hia, hdr, hen, hla, hwo, hop, hmk, hir, hse, hec, hlc, hwc, hol, hal⟩ := id hI
  have ne_mo_cn : nq mo cn := pw_ne hap 0 1 (by decide) (Nat.le_of_ble_eq_true rfl)
  have ne_cn_mo : nq cn mo := Ne.symm ne_mo_cn
  have ne_mo_ia : nq mo ia := pw_ne hap 0 2 (by decide) (Nat.le_of_ble_eq_true rfl)
  have ne_ia_mo : nq ia mo := Ne.symm ne_mo_ia
  have ne_mo_dr : nq mo dr := pw_ne hap 0 3 (by decide) (Nat.le_of_ble_eq_true rfl)
  have ne_dr_mo : nq dr mo := Ne.symm ne_mo_dr
  have ne_mo_en : nq mo en := pw_ne hap 0 4 (by decide) (Nat.le_of_ble_eq_true rfl)
  have ne_en_mo : nq en mo := Ne.symm ne_mo_en
  have ne_mo_la : nq mo la := pw_ne hap 0 5 (by decide) (Nat.le_of_ble_eq_true rfl)
  have ne_la_mo : nq la mo := Ne.symm ne_mo_la
  have ne_mo_wo : nq mo wo := pw_ne hap 0 6 (by decide) (Nat.le_of_ble_eq_true rfl)
  have ne_wo_mo : nq wo mo := Ne.symm ne_mo_wo
  have ne_mo_op : nq mo op := pw_ne hap 0 7 (by decide) (Nat.le_of_ble_eq_true rfl)
  have ne_op_mo : nq op mo := Ne.symm ne_mo_op
  have ne_mo_mk : nq mo mk := pw_ne hap 0 8 (by decide) (Nat.le_of_ble_eq_true rfl)
  have ne_mk_mo : nq mk mo := Ne.symm ne_mo_mk
  have ne_mo_ir : nq mo ir := pw_ne hap 0 9 (by decide) (Nat.le_of_ble_eq_true rfl)
  have ne_ir_mo : nq ir mo := Ne.symm ne_mo_ir
  have ne_mo_se : nq mo se := pw_ne hap 0 10 (by decide) (Nat.le_of_ble_eq_true rfl)
  have ne_se_mo : nq se mo := Ne.symm ne_mo_se
  have ne_mo_ec : nq mo ec := pw_ne hap 0 11 (by decide) (Nat.le_of_ble_eq_true rfl)
  have ne_ec_mo : nq ec mo := Ne.symm ne_mo_ec
  have ne_mo_lc : nq mo lc := pw_ne hap 0 12 (by decide) (Nat.le_of_ble_eq_true rfl)
  have ne_lc_mo : nq lc mo := Ne.symm ne_mo_lc
  have ne_mo_wc : nq mo wc := pw_ne hap 0 13 (by decide) (Nat.le_of_ble_eq_true rfl)
  have ne_wc_mo : nq wc mo := Ne.symm ne_mo_wc
  have ne_mo_ol : nq mo ol := pw_ne hap 0 14 (by decide) (Nat.le_of_ble_eq_true rfl)
  have ne_ol_mo : nq ol mo := Ne.symm ne_mo_ol
  have ne_mo_al : nq mo al := pw_ne hap 0 15 (by decide) (Nat.le_of_ble_eq_true rfl)
  have ne_al_mo : nq al mo := Ne.symm ne_mo_al
  have ne_cn_ia : nq cn ia := pw_ne hap 1 2 (by decide) (Nat.le_of_ble_eq_true rfl)
  have ne_ia_cn : nq ia cn := Ne.symm ne_cn_ia
  have ne_cn_dr : nq cn dr := pw_ne hap 1 3 (by decide) (Nat.le_of_ble_eq_true rfl)
  have ne_dr_cn : nq dr cn := Ne.symm ne_cn_dr
  have ne_cn_en : nq cn en := pw_ne hap 1 4 (by decide) (Nat.le_of_ble_eq_true rfl)
  have ne_en_cn : nq en cn := Ne.symm ne_cn_en
  have ne_cn_la : nq cn la := pw_ne hap 1 5 (by decide) (Nat.le_of_ble_eq_true rfl)
  have ne_la_cn : nq la cn := Ne.symm ne_cn_la
  have ne_cn_wo : nq cn wo := pw_ne hap 1 6 (by decide) (Nat.le_of_ble_eq_true rfl)
  have ne_wo_cn : nq wo cn := Ne.symm ne_cn_wo
  have ne_cn_op : nq cn op := pw_ne hap 1 7 (by decide) (Nat.le_of_ble_eq_true rfl)
  have ne_op_cn : nq op cn := Ne.symm ne_cn_op
  have ne_cn_mk : nq cn mk := pw_ne hap 1 8 (by decide) (Nat.le_of_ble_eq_true rfl)
  have ne_mk_cn : nq mk cn := Ne.symm ne_cn_mk
  have ne_cn_ir : nq cn ir := pw_ne hap 1 9 (by decide) (Nat.le_of_ble_eq_true rfl)
  have ne_ir_cn : nq ir cn := Ne.symm ne_cn_ir
  have ne_cn_se : nq cn se := pw_ne hap 1 10 (by decide) (Nat.le_of_ble_eq_true rfl)
  have ne_se_cn : nq se cn := Ne.symm ne_cn_se
  have ne_cn_ec : nq cn ec := pw_ne hap 1 11 (by decide) (Nat.le_of_ble_eq_true rfl)
  have ne_ec_cn : nq ec cn := Ne.symm ne_cn_ec
  have ne_cn_lc : nq cn lc := pw_ne hap 1 12 (by decide) (Nat.le_of_ble_eq_true rfl)
  have ne_lc_cn : nq lc cn := Ne.symm ne_cn_lc
  have ne_cn_wc : nq cn wc := pw_ne hap 1 13 (by decide) (Nat.le_of_ble_eq_true rfl)
  have ne_wc_cn : nq wc cn := Ne.symm ne_cn_wc
  have ne_cn_ol : nq cn ol := pw_ne hap 1 14 (by decide) (Nat.le_of_ble_eq_true rfl)
  have ne_ol_cn : nq ol cn := Ne.symm ne_cn_ol
  have ne_cn_al : nq cn al := pw_ne hap 1 15 (by decide) (Nat.le_of_ble_eq_true rfl)
  have ne_al_cn : nq al cn := Ne.symm ne_cn_al
  have ne_ia_dr : nq ia dr := pw_ne hap 2 3 (by decide) (Nat.le_of_ble_eq_true rfl)
  have ne_dr_ia : nq dr ia := Ne.symm ne_ia_dr
  have ne_ia_en : nq ia en := pw_ne hap 2 4 (by decide) (Nat.le_of_ble_eq_true rfl)
  have ne_en_ia : nq en ia := Ne.symm ne_ia_en
  have ne_ia_la : nq ia la := pw_ne hap 2 5 (by decide) (Nat.le_of_ble_eq_true rfl)
  have ne_la_ia : nq la ia := Ne.symm ne_ia_la
  have ne_ia_wo : nq ia wo := pw_ne hap 2 6 (by decide) (Nat.le_of_ble_eq_true rfl)
  have ne_wo_ia : nq wo ia := Ne.symm ne_ia_wo
  have ne_ia_op : nq ia op := pw_ne hap 2 7 (by decide) (Nat.le_of_ble_eq_true rfl)
  have ne_op_ia : nq op ia := Ne.symm ne_ia_op
  have ne_ia_mk : nq ia mk := pw_ne hap 2 8 (by decide) (Nat.le_of_ble_eq_true rfl)
  have ne_mk_ia : nq mk ia := Ne.symm ne_ia_mk
  have ne_ia_ir : nq ia ir := pw_ne hap 2 9 (by decide) (Nat.le_of_ble_eq_true rfl)
  have ne_ir_ia : nq ir ia := Ne.symm ne_ia_ir
  have ne_ia_se : nq ia se := pw_ne hap 2 10 (by decide) (Nat.le_of_ble_eq_true rfl)
  have ne_se_ia : nq se ia := Ne.symm ne_ia_se
  have ne_ia_ec : nq ia ec := pw_ne hap 2 11 (by decide) (Nat.le_of_ble_eq_true rfl)
  have ne_ec_ia : nq ec ia := Ne.symm ne_ia_ec
  have ne_ia_lc : nq ia lc := pw_ne hap 2 12 (by decide) (Nat.le_of_ble_eq_true rfl)
  have ne_lc_ia : nq lc ia := Ne.symm ne_ia_lc
  have ne_ia_wc : nq ia wc := pw_ne hap 2 13 (by decide) (Nat.le_of_ble_eq_true rfl)
  have ne_wc_ia : nq wc ia := Ne.symm ne_ia_wc
  have ne_ia_ol : nq ia ol := pw_ne hap 2 14 (by decide) (Nat.le_of_ble_eq_true rfl)
  have ne_ol_ia : nq ol ia := Ne.symm ne_ia_ol
  have ne_ia_al : nq ia al := pw_ne hap 2 15 (by decide) (Nat.le_of_ble_eq_true rfl)
  have ne_al_ia : nq al ia := Ne.symm ne_ia_al
  have ne_dr_en : nq dr en := pw_ne hap 3 4 (by decide) (Nat.le_of_ble_eq_true rfl)
  have ne_en_dr : nq en dr := Ne.symm ne_dr_en
  have ne_dr_la : nq dr la := pw_ne hap 3 5 (by decide) (Nat.le_of_ble_eq_true rfl)
  have ne_la_dr : nq la dr := Ne.symm ne_dr_la
  have ne_dr_wo : nq dr wo := pw_ne hap 3 6 (by decide) (Nat.le_of_ble_eq_true rfl)
  have ne_wo_dr : nq wo dr := Ne.symm ne_dr_wo
  have ne_dr_op : nq dr op := pw_ne hap 3 7 (by decide) (Nat.le_of_ble_eq_true rfl)
  have ne_op_dr : nq op dr := Ne.symm ne_dr_op
  have ne_dr_mk : nq dr mk := pw_ne hap 3 8 (by decide) (Nat.le_of_ble_eq_true rfl)
  have ne_mk_dr : nq mk dr := Ne.symm ne_dr_mk
  have ne_dr_ir : nq dr ir := pw_ne hap 3 9 (by decide) (Nat.le_of_ble_eq_true rfl)
  have ne_ir_dr : nq ir dr := Ne.symm ne_dr_ir
  have ne_dr_se : nq dr se := pw_ne hap 3 10 (by decide) (Nat.le_of_ble_eq_true rfl)
  have ne_se_dr : nq se dr := Ne.symm ne_dr_se
  have ne_dr_ec : nq dr ec := pw_ne hap 3 11 (by decide) (Nat.le_of_ble_eq_true rfl)
  have ne_ec_dr : nq ec dr := Ne.symm ne_dr_ec
  have ne_dr_lc : nq dr lc := pw_ne hap 3 12 (by decide) (Nat.le_of_ble_eq_true rfl)
  have ne_lc_dr : nq lc dr := Ne.symm ne_dr_lc
  have ne_dr_wc : nq dr wc := pw_ne hap 3 13 (by decide) (Nat.le_of_ble_eq_true rfl)
  have ne_wc_dr : nq wc dr := Ne.symm ne_dr_wc
  have ne_dr_ol : nq dr ol := pw_ne hap 3 14 (by decide) (Nat.le_of_ble_eq_true rfl)
  have ne_ol_dr : nq ol dr := Ne.symm ne_dr_ol
  have ne_dr_al : nq dr al := pw_ne hap 3 15 (by decide) (Nat.le_of_ble_eq_true rfl)
  have ne_al_dr : nq al dr := Ne.symm ne_dr_al
  have ne_en_la : nq en la := pw_ne hap 4 5 (by decide) (Nat.le_of_ble_eq_true rfl)
  have ne_la_en : nq la en := Ne.symm ne_en_la
  have ne_en_wo : nq en wo := pw_ne hap 4 6 (by decide) (Nat.le_of_ble_eq_true rfl)
  have ne_wo_en : nq wo en := Ne.symm ne_en_wo
  have ne_en_op : nq en op := pw_ne hap 4 7 (by decide) (Nat.le_of_ble_eq_true rfl)
  have ne_op_en : nq op en := Ne.symm ne_en_op
  have ne_en_mk : nq en mk := pw_ne hap 4 8 (by decide) (Nat.le_of_ble_eq_true rfl)
  have ne_mk_en : nq mk en := Ne.symm ne_en_mk
  have ne_en_ir : nq en ir := pw_ne hap 4 9 (by decide) (Nat.le_of_ble_eq_true rfl)
  have ne_ir_en : nq ir en := Ne.symm ne_en_ir
  have ne_en_se : nq en se := pw_ne hap 4 10 (by decide) (Nat.le_of_ble_eq_true rfl)
  have ne_se_en : nq se en := Ne.symm ne_en_se
  have ne_en_ec : nq en ec := pw_ne hap 4 11 (by decide) (Nat.le_of_ble_eq_true rfl)
  have ne_ec_en : nq ec en := Ne.symm ne_en_ec
  have ne_en_lc : nq en lc := pw_ne hap 4 12 (by decide) (Nat.le_of_ble_eq_true rfl)
  have ne_lc_en : nq lc en := Ne.symm ne_en_lc
  have ne_en_wc : nq en wc := pw_ne hap 4 13 (by decide) (Nat.le_of_ble_eq_true rfl)
  have ne_wc_en : nq wc en := Ne.symm ne_en_wc
  have ne_en_ol : nq en ol := pw_ne hap 4 14 (by decide) (Nat.le_of_ble_eq_true rfl)
  have ne_ol_en : nq ol en := Ne.symm ne_en_ol
  have ne_en_al : nq en al := pw_ne hap 4 15 (by decide) (Nat.le_of_ble_eq_true rfl)
  have ne_al_en : nq al en := Ne.symm ne_en_al
  have ne_la_wo : nq la wo := pw_ne hap 5 6 (by decide) (Nat.le_of_ble_eq_true rfl)
  have ne_wo_la : nq wo la := Ne.symm ne_la_wo
  have ne_la_op : nq la op := pw_ne hap 5 7 (by decide) (Nat.le_of_ble_eq_true rfl)
  have ne_op_la : nq op la := Ne.symm ne_la_op
  have ne_la_mk : nq la mk := pw_ne hap 5 8 (by decide) (Nat.le_of_ble_eq_true rfl)
  have ne_mk_la : nq mk la := Ne.symm ne_la_mk
  have ne_la_ir : nq la ir := pw_ne hap 5 9 (by decide) (Nat.le_of_ble_eq_true rfl)
  have ne_ir_la : nq ir la := Ne.symm ne_la_ir
  have ne_la_se : nq la se := pw_ne hap 5 10 (by decide) (Nat.le_of_ble_eq_true rfl)
  have ne_se_la : nq se la := Ne.symm ne_la_se
  have ne_la_ec : nq la ec := pw_ne hap 5 11 (by decide) (Nat.le_of_ble_eq_true rfl)
  have ne_ec_la : nq ec la := Ne.symm ne_la_ec
  have ne_la_lc : nq la lc := pw_ne hap 5 12 (by decide) (Nat.le_of_ble_eq_true rfl)
  have ne_lc_la : nq lc la := Ne.symm ne_la_lc
  have ne_la_wc : nq la wc := pw_ne hap 5 13 (by decide) (Nat.le_of_ble_eq_true rfl)
  have ne_wc_la : nq wc la := Ne.symm ne_la_wc
  have ne_la_ol : nq la ol := pw_ne hap 5 14 (by decide) (Nat.le_of_ble_eq_true rfl)
  have ne_ol_la : nq ol la := Ne.symm ne_la_ol
  have ne_la_al : nq la al := pw_ne hap 5 15 (by decide) (Nat.le_of_ble_eq_true rfl)
  have ne_al_la : nq al la := Ne.symm ne_la_al
  have ne_wo_op : nq wo op := pw_ne hap 6 7 (by decide) (Nat.le_of_ble_eq_true rfl)
  have ne_op_wo : nq op wo := Ne.symm ne_wo_op
  have ne_wo_mk : nq wo mk := pw_ne hap 6 8 (by decide) (Nat.le_of_ble_eq_true rfl)
  have ne_mk_wo : nq mk wo := Ne.symm ne_wo_mk
  have ne_wo_ir : nq wo ir := pw_ne hap 6 9 (by decide) (Nat.le_of_ble_eq_true rfl)
  have ne_ir_wo : nq ir wo := Ne.symm ne_wo_ir
  have ne_wo_se : nq wo se := pw_ne hap 6 10 (by decide) (Nat.le_of_ble_eq_true rfl)
  have ne_se_wo : nq se wo := Ne.symm ne_wo_se
  have ne_wo_ec : nq wo ec := pw_ne hap 6 11 (by decide) (Nat.le_of_ble_eq_true rfl)
  have ne_ec_wo : nq ec wo := Ne.symm ne_wo_ec
  have ne_wo_lc : nq wo lc := pw_ne hap 6 12 (by decide) (Nat.le_of_ble_eq_true rfl)
  have ne_lc_wo : nq lc wo := Ne.symm ne_wo_lc
  have ne_wo_wc : nq wo wc := pw_ne hap 6 13 (by decide) (Nat.le_of_ble_eq_true rfl)
  have ne_wc_wo : nq wc wo := Ne.symm ne_wo_wc
  have ne_wo_ol : nq wo ol := pw_ne hap 6 14 (by decide) (Nat.le_of_ble_eq_true rfl)
  have ne_ol_wo : nq ol wo := Ne.symm ne_wo_ol
  have ne_wo_al : nq wo al := pw_ne hap 6 15 (by decide) (Nat.le_of_ble_eq_true rfl)
  have ne_al_wo : nq al wo := Ne.symm ne_wo_al
  have ne_op_mk : nq op mk := pw_ne hap 7 8 (by decide) (Nat.le_of_ble_eq_true rfl)
  have ne_mk_op : nq mk op := Ne.symm ne_op_mk
  have ne_op_ir : nq op ir := pw_ne hap 7 9 (by decide) (Nat.le_of_ble_eq_true rfl)
  have ne_ir_op : nq ir op := Ne.symm ne_op_ir
  have ne_op_se : nq op se := pw_ne hap 7 10 (by decide) (Nat.le_of_ble_eq_true rfl)
  have ne_se_op : nq se op := Ne.symm ne_op_se
  have ne_op_ec : nq op ec := pw_ne hap 7 11 (by decide) (Nat.le_of_ble_eq_true rfl)
  have ne_ec_op : nq ec op := Ne.symm ne_op_ec
  have ne_op_lc : nq op lc := pw_ne hap 7 12 (by decide) (Nat.le_of_ble_eq_true rfl)
  have ne_lc_op : nq lc op := Ne.symm ne_op_lc
  have ne_op_wc : nq op wc := pw_ne hap 7 13 (by decide) (Nat.le_of_ble_eq_true rfl)
  have ne_wc_op : nq wc op := Ne.symm ne_op_wc
  have ne_op_ol : nq op ol := pw_ne hap 7 14 (by decide) (Nat.le_of_ble_eq_true rfl)
  have ne_ol_op : nq ol op := Ne.symm ne_op_ol
  have ne_op_al : nq op al := pw_ne hap 7 15 (by decide) (Nat.le_of_ble_eq_true rfl)
  have ne_al_op : nq al op := Ne.symm ne_op_al
  have ne_mk_ir : nq mk ir := pw_ne hap 8 9 (by decide) (Nat.le_of_ble_eq_true rfl)
  have ne_ir_mk : nq ir mk := Ne.symm ne_mk_ir
  have ne_mk_se : nq mk se := pw_ne hap 8 10 (by decide) (Nat.le_of_ble_eq_true rfl)
  have ne_se_mk : nq se mk := Ne.symm ne_mk_se
  have ne_mk_ec : nq mk ec := pw_ne hap 8 11 (by decide) (Nat.le_of_ble_eq_true rfl)
  have ne_ec_mk : nq ec mk := Ne.symm ne_mk_ec
  have ne_mk_lc : nq mk lc := pw_ne hap 8 12 (by decide) (Nat.le_of_ble_eq_true rfl)
  have ne_lc_mk : nq lc mk := Ne.symm ne_mk_lc
  have ne_mk_wc : nq mk wc := pw_ne hap 8 13 (by decide) (Nat.le_of_ble_eq_true rfl)
  have ne_wc_mk : nq wc mk := Ne.symm ne_mk_wc
  have ne_mk_ol : nq mk ol := pw_ne hap 8 14 (by decide) (Nat.le_of_ble_eq_true rfl)
  have ne_ol_mk : nq ol mk := Ne.symm ne_mk_ol
  have ne_mk_al : nq mk al := pw_ne hap 8 15 (by decide) (Nat.le_of_ble_eq_true rfl)
  have ne_al_mk : nq al mk := Ne.symm ne_mk_al
  have ne_ir_se : nq ir se := pw_ne hap 9 10 (by decide) (Nat.le_of_ble_eq_true rfl)
  have ne_se_ir : nq se ir := Ne.symm ne_ir_se
  have ne_ir_ec : nq ir ec := pw_ne hap 9 11 (by decide) (Nat.le_of_ble_eq_true rfl)
  have ne_ec_ir : nq ec ir := Ne.symm ne_ir_ec
  have ne_ir_lc : nq ir lc := pw_ne hap 9 12 (by decide) (Nat.le_of_ble_eq_true rfl)
  have ne_lc_ir : nq lc ir := Ne.symm ne_ir_lc
  have ne_ir_wc : nq ir wc := pw_ne hap 9 13 (by decide) (Nat.le_of_ble_eq_true rfl)
  have ne_wc_ir : nq wc ir := Ne.symm ne_ir_wc
  have ne_ir_ol : nq ir ol := pw_ne hap 9 14 (by decide) (Nat.le_of_ble_eq_true rfl)
  have ne_ol_ir : nq ol ir := Ne.symm ne_ir_ol
  have ne_ir_al : nq ir al := pw_ne hap 9 15 (by decide) (Nat.le_of_ble_eq_true rfl)
  have ne_al_ir : nq al ir := Ne.symm ne_ir_al
  have ne_se_ec : nq se ec := pw_ne hap 10 11 (by decide) (Nat.le_of_ble_eq_true rfl)
  have ne_ec_se : nq ec se := Ne.symm ne_se_ec
  have ne_se_lc : nq se lc := pw_ne hap 10 12 (by decide) (Nat.le_of_ble_eq_true rfl)
  have ne_lc_se : nq lc se := Ne.symm ne_se_lc
  have ne_se_wc : nq se wc := pw_ne hap 10 13 (by decide) (Nat.le_of_ble_eq_true rfl)
  have ne_wc_se : nq wc se := Ne.symm ne_se_wc
  have ne_se_ol : nq se ol := pw_ne hap 10 14 (by decide) (Nat.le_of_ble_eq_true rfl)
  have ne_ol_se : nq ol se := Ne.symm ne_se_ol
  have ne_se_al : nq se al := pw_ne hap 10 15 (by decide) (Nat.le_of_ble_eq_true rfl)
  have ne_al_se : nq al se := Ne.symm ne_se_al
  have ne_ec_lc : nq ec lc := pw_ne hap 11 12 (by decide) (Nat.le_of_ble_eq_true rfl)
  have ne_lc_ec : nq lc ec := Ne.symm ne_ec_lc
  have ne_ec_wc : nq ec wc := pw_ne hap 11 13 (by decide) (Nat.le_of_ble_eq_true rfl)
  have ne_wc_ec : nq wc ec := Ne.symm ne_ec_wc
  have ne_ec_ol : nq ec ol := pw_ne hap 11 14 (by decide) (Nat.le_of_ble_eq_true rfl)
  have ne_ol_ec : nq ol ec := Ne.symm ne_ec_ol
  have ne_ec_al : nq ec al := pw_ne hap 11 15 (by decide) (Nat.le_of_ble_eq_true rfl)
  have ne_al_ec : nq al ec := Ne.symm ne_ec_al
  have ne_lc_wc : nq lc wc := pw_ne hap 12 13 (by decide) (Nat.le_of_ble_eq_true rfl)
  have ne_wc_lc : nq wc lc := Ne.symm ne_lc_wc
  have ne_lc_ol : nq lc ol := pw_ne hap 12 14 (by decide) (Nat.le_of_ble_eq_true rfl)
  have ne_ol_lc : nq ol lc := Ne.symm ne_lc_ol
  have ne_lc_al : nq lc al := pw_ne hap 12 15 (by decide) (Nat.le_of_ble_eq_true rfl)
  have ne_al_lc : nq al lc := Ne.symm ne_lc_al
  have ne_wc_ol : nq wc ol := pw_ne hap 13 14 (by decide) (Nat.le_of_ble_eq_true rfl)
  have ne_ol_wc : nq ol wc := Ne.symm ne_wc_ol
  have ne_wc_al : nq wc al := pw_ne hap 13 15 (by decide) (Nat.le_of_ble_eq_true rfl)
  have ne_al_wc : nq al wc := Ne.symm ne_wc_al
  have ne_ol_al : nq ol al := pw_ne hap 14 15 (by decide) (Nat.le_of_ble_eq_true rfl)
  have ne_al_ol : nq al ol := Ne.symm ne_ol_al
  have hkp : kpx (fun a => a ∈ [mo, cn, ia, dr, en, la, wo, op, mk, ir, se, ec, lc, wc, ol, al]) M M := kpx.refl _ _
  refine lv_aload_n hx hb dX6_remove_0 rfl (lv_at hl 0 rfl) ?_
  refine lv_aload_n hx hb dX6_remove_1 rfl (lv_at hl 0 rfl) ?_
  refine lv_iload_n hx hb dX6_remove_2 rfl (lv_at hl 1 rfl) ?_
  refine m_kV (As := [.int tq]) (rest := [.ref mo]) (rm := { frames := 0, cells := 0, slots := 0, locals := 0 }) ⟨hx, hb, hml, hown, hts⟩ (s_X6_isOpen l D k z _ mo cn ia dr en la wo op mk ir se ec lc wc ol al dn md tq hI) (cwV 1 hts gX6_remove_X6_isOpen rfl rfl rfl (by decide +kernel) ⟨Nat.le_of_ble_eq_true rfl, Nat.le_of_ble_eq_true rfl⟩) (m_recv hK hm (q := (RX6, TX6, 24)) rfl hM) hz hcx hm hS rfl hl.1 rfl (Nat.le_of_ble_eq_true rfl) dX6_remove_3 ⟨Nat.le_of_ble_eq_true rfl, Nat.le_of_ble_eq_true rfl⟩ (fun v M1 H locs hv hm hS => ?_)
  obtain ⟨hv2, hM1⟩ := hv
  rw [hM1] at hm
  rcases hv2 with hv1 | ⟨hv1, hdn, t9, ht9, htE⟩
  · subst hv1
    refine W.eq (g2 := F0 m 6 ls [.int 0, .ref mo]) rfl ?_
    refine W.widen (k := 0) (n := 0) (Nat.le_of_ble_eq_true rfl) (Nat.le_of_ble_eq_true rfl) ?_
    have hm : mm D (AZ z) M H := hm
    refine lv_if_ne (tgt := 13) hx hb dX6_remove_6 (by decide) (fun c1 => ?_) (fun c1 => ?_)
    · first | exact absurd c1 (by decide) | exact absurd (by decide) c1
    · refine lv_iconst (v := 1) hx hb dX6_remove_9 (by decide) ?_
      refine lv_goto (tgt := 29) hx hb dX6_remove_10 (by decide) ?_
      refine m_kV (As := [.int 1]) (rest := []) (rm := { frames := 0, cells := 0, slots := 0, locals := 0 }) ⟨hx, hb, hml, hown, hts⟩ (s_X6_failsE l D k z _ mo cn ia dr en la wo op mk ir se ec lc wc ol al cd ni dn md pw cm wr cs hm9 1 hM) (cwV 1 hts gX6_remove_X6_fails rfl rfl rfl (by decide +kernel) ⟨Nat.le_of_ble_eq_true rfl, Nat.le_of_ble_eq_true rfl⟩) (m_recv hK hm (q := (RX6, TX6, 24)) rfl hM) hz hcx hm hS rfl hl.1 rfl (Nat.le_of_ble_eq_true rfl) dX6_remove_29 ⟨Nat.le_of_ble_eq_true rfl, Nat.le_of_ble_eq_true rfl⟩ (fun v M1 H locs hv hm hS => ?_)
      obtain ⟨hv1, hM1⟩ := hv
      have hv1 : v = some (.int 1) := hv1.trans (by decide)
      subst hv1
      rw [hM1] at hm
      refine W.eq (g2 := F0 m 32 ls [.int 1]) rfl ?_
      refine W.widen (k := 0) (n := 0) (Nat.le_of_ble_eq_true rfl) (Nat.le_of_ble_eq_true rfl) ?_
      have hm : mm D (AZ z) (mu M mo (.inr (6, [.int 1, .ref cn, .ref ia, .ref dr, .ref en, .ref la, .ref wo, .int ni, .ref op, .ref mk, .ref ir, .int dn, .int md, .int pw, .int cm, .int wr, .ref se, .ref ec, .ref lc, .ref wc, .ref ol, .ref al, .int cs, .int hm9]))) H := hm
      have hkp : kpx (fun a => a ∈ [mo, cn, ia, dr, en, la, wo, op, mk, ir, se, ec, lc, wc, ol, al]) M (mu M mo (.inr (6, [.int 1, .ref cn, .ref ia, .ref dr, .ref en, .ref la, .ref wo, .int ni, .ref op, .ref mk, .ref ir, .int dn, .int md, .int pw, .int cm, .int wr, .ref se, .ref ec, .ref lc, .ref wc, .ref ol, .ref al, .int cs, .int hm9]))) := (hkp).self (by simp)
      refine lv_if_eq (tgt := 37) hx hb dX6_remove_32 (by decide) (fun c2 => ?_) (fun c2 => ?_)
      · first | exact absurd c2 (by decide) | exact absurd (by decide) c2
      · refine lv_iconst (v := 0) hx hb dX6_remove_35 (by decide) ?_
        refine W.zret hx hb hr rfl (fun t ht hW => ⟨⟨some (.int 0), _, rfl, ?_, by rw [ht]; exact hm⟩, hS.F ht⟩) hS.2.2 dX6_remove_36
        exact ⟨⟨_, rfl⟩, ⟨_, _, _, _, _, _, _, fcn, fia, fdr, fen, fla, fwo, fop, fmk, fir, fse, fec, flc, fol, fal, fwc, hap, (mu_self _ _ _), hmd, ⟨hrC, hrL, hrM⟩, ((mu_ne ne_cn_mo).trans hcn), ((mu_ne ne_ia_mo).trans hia), ((mu_ne ne_dr_mo).trans hdr), ((mu_ne ne_en_mo).trans hen), ((mu_ne ne_la_mo).trans hla), ((mu_ne ne_wo_mo).trans hwo), ((mu_ne ne_op_mo).trans hop), ((mu_ne ne_mk_mo).trans hmk), ((mu_ne ne_ir_mo).trans hir), ((mu_ne ne_se_mo).trans hse), ((mu_ne ne_ec_mo).trans hec), ((mu_ne ne_lc_mo).trans hlc), ((mu_ne ne_wc_mo).trans hwc), ((mu_ne ne_ol_mo).trans hol), ((mu_ne ne_al_mo).trans hal)⟩, hkp⟩
  · subst hv1
    subst htE
    refine W.eq (g2 := F0 m 6 ls [.int 1, .ref mo]) rfl ?_
    refine W.widen (k := 0) (n := 0) (Nat.le_of_ble_eq_true rfl) (Nat.le_of_ble_eq_true rfl) ?_
    have hm : mm D (AZ z) M H := hm
    refine lv_if_ne (tgt := 13) hx hb dX6_remove_6 (by decide) (fun c3 => ?_) (fun c3 => ?_)
    · refine lv_iload_n hx hb dX6_remove_13 rfl (lv_at hl 2 rfl) ?_
      refine m_kS (As := [.int path]) (rest := [.ref mo]) (rm := { frames := 0, cells := 0, slots := 0, locals := 0 }) ⟨hx, hb, hml, hown, hts⟩ (c_X6_isPath l D k z _ path) (cwS 1 hts gX6_remove_X6_isPath rfl rfl rfl (by decide +kernel) ⟨Nat.le_of_ble_eq_true rfl, Nat.le_of_ble_eq_true rfl⟩) hz hcx hm hS rfl hl.1 rfl (Nat.le_of_ble_eq_true rfl) dX6_remove_14 ⟨Nat.le_of_ble_eq_true rfl, Nat.le_of_ble_eq_true rfl⟩ (fun v M1 H locs hv hm hS => ?_)
      obtain ⟨hv2, hM1⟩ := hv
      rw [hM1] at hm
      rcases hv2 with ⟨hp101, hv1⟩ | ⟨hp101, hv1⟩
      · subst hv1
        refine W.eq (g2 := F0 m 17 ls [.int 1, .ref mo]) rfl ?_
        refine W.widen (k := 0) (n := 0) (Nat.le_of_ble_eq_true rfl) (Nat.le_of_ble_eq_true rfl) ?_
        have hm : mm D (AZ z) M H := hm
        refine lv_if_eq (tgt := 24) hx hb dX6_remove_17 (by decide) (fun c4 => ?_) (fun c4 => ?_)
        · first | exact absurd c4 (by decide) | exact absurd (by decide) c4
        · refine lv_iload_n hx hb dX6_remove_20 rfl (lv_at hl 2 rfl) ?_
          refine lv_if_ne (tgt := 28) hx hb dX6_remove_21 (by decide) (fun c5 => ?_) (fun c5 => ?_)
          · refine lv_iconst (v := 0) hx hb dX6_remove_28 (by decide) ?_
            refine m_kV (As := [.int 0]) (rest := []) (rm := { frames := 0, cells := 0, slots := 0, locals := 0 }) ⟨hx, hb, hml, hown, hts⟩ (s_X6_failsE l D k z _ mo cn ia dr en la wo op mk ir se ec lc wc ol al cd ni dn md pw cm wr cs hm9 0 hM) (cwV 1 hts gX6_remove_X6_fails rfl rfl rfl (by decide +kernel) ⟨Nat.le_of_ble_eq_true rfl, Nat.le_of_ble_eq_true rfl⟩) (m_recv hK hm (q := (RX6, TX6, 24)) rfl hM) hz hcx hm hS rfl hl.1 rfl (Nat.le_of_ble_eq_true rfl) dX6_remove_29 ⟨Nat.le_of_ble_eq_true rfl, Nat.le_of_ble_eq_true rfl⟩ (fun v M1 H locs hv hm hS => ?_)
            obtain ⟨hv1, hM1⟩ := hv
            have hv1 : v = some (.int 0) := hv1.trans (by decide)
            subst hv1
            rw [hM1] at hm
            refine W.eq (g2 := F0 m 32 ls [.int 0]) rfl ?_
            refine W.widen (k := 0) (n := 0) (Nat.le_of_ble_eq_true rfl) (Nat.le_of_ble_eq_true rfl) ?_
            have hm : mm D (AZ z) (mu M mo (.inr (6, [.int 0, .ref cn, .ref ia, .ref dr, .ref en, .ref la, .ref wo, .int ni, .ref op, .ref mk, .ref ir, .int dn, .int md, .int pw, .int cm, .int wr, .ref se, .ref ec, .ref lc, .ref wc, .ref ol, .ref al, .int cs, .int hm9]))) H := hm
            have hkp : kpx (fun a => a ∈ [mo, cn, ia, dr, en, la, wo, op, mk, ir, se, ec, lc, wc, ol, al]) M (mu M mo (.inr (6, [.int 0, .ref cn, .ref ia, .ref dr, .ref en, .ref la, .ref wo, .int ni, .ref op, .ref mk, .ref ir, .int dn, .int md, .int pw, .int cm, .int wr, .ref se, .ref ec, .ref lc, .ref wc, .ref ol, .ref al, .int cs, .int hm9]))) := (hkp).self (by simp)
            refine lv_if_eq (tgt := 37) hx hb dX6_remove_32 (by decide) (fun c6 => ?_) (fun c6 => ?_)
            · refine lv_aload_n hx hb dX6_remove_37 rfl (lv_at hl 0 rfl) ?_
              refine lv_iload_n hx hb dX6_remove_38 rfl (lv_at hl 1 rfl) ?_
              refine lv_iload_n hx hb dX6_remove_39 rfl (lv_at hl 2 rfl) ?_
              have hI0 : mI k (mu M mo (.inr (6, [.int 0, .ref cn, .ref ia, .ref dr, .ref en, .ref la, .ref wo, .int ni, .ref op, .ref mk, .ref ir, .int dn, .int md, .int pw, .int cm, .int wr, .ref se, .ref ec, .ref lc, .ref wc, .ref ol, .ref al, .int cs, .int hm9]))) mo cn ia dr en la wo op mk ir se ec lc wc ol al dn md := ⟨_, _, _, _, _, _, _, fcn, fia, fdr, fen, fla, fwo, fop, fmk, fir, fse, fec, flc, fol, fal, fwc, hap, (mu_self _ _ _), hmd, ⟨hrC, hrL, hrM⟩, ((mu_ne ne_cn_mo).trans hcn), ((mu_ne ne_ia_mo).trans hia), ((mu_ne ne_dr_mo).trans hdr), ((mu_ne ne_en_mo).trans hen), ((mu_ne ne_la_mo).trans hla), ((mu_ne ne_wo_mo).trans hwo), ((mu_ne ne_op_mo).trans hop), ((mu_ne ne_mk_mo).trans hmk), ((mu_ne ne_ir_mo).trans hir), ((mu_ne ne_se_mo).trans hse), ((mu_ne ne_ec_mo).trans hec), ((mu_ne ne_lc_mo).trans hlc), ((mu_ne ne_wc_mo).trans hwc), ((mu_ne ne_ol_mo).trans hol), ((mu_ne ne_al_mo).trans hal)⟩
              refine m_kV (As := [.int (nI t9), .int path]) (rest := []) (rm := { frames := 3, cells := 0, slots := 0, locals := 72 }) ⟨hx, hb, hml, hown, hts⟩ (x_X6_lookUp l D k z _ mo cn ia dr en la wo op mk ir se ec lc wc ol al dn md t9 (by omega) path hI0) (cwV 2 hts gX6_remove_X6_lookUp rfl rfl rfl (by decide +kernel) ⟨Nat.le_of_ble_eq_true rfl, Nat.le_of_ble_eq_true rfl⟩) (m_recv hK hm (q := (RX6, TX6, 24)) rfl (mu_self _ _ _)) hz hcx hm hS rfl hl.1 rfl (Nat.le_of_ble_eq_true rfl) dX6_remove_40 ⟨Nat.le_of_ble_eq_true rfl, Nat.le_of_ble_eq_true rfl⟩ (fun v M1 H locs hv hm hS => ?_)
              obtain ⟨hv1, hI9, hk9⟩ := hv
              obtain ⟨_, _, _, _, _, _, _, _, _, _, _, _, _, _, _, fir_1, _, _, _, _, _, _, -, -, hmd_1, ⟨-, -, -⟩, -, -, -, -, -, -, -, -, hir_1, -, -, -, -, -, -⟩ := id hI9
              have kmo_1 := hk9 _ _ (by simp only [List.mem_cons, List.not_mem_nil, or_false, not_or]; exact ne_mo_ir) (mu_self _ _ _)
              have kcn_1 := hk9 _ _ (by simp only [List.mem_cons, List.not_mem_nil, or_false, not_or]; exact ne_cn_ir) ((mu_ne ne_cn_mo).trans hcn)
              have kia_1 := hk9 _ _ (by simp only [List.mem_cons, List.not_mem_nil, or_false, not_or]; exact ne_ia_ir) ((mu_ne ne_ia_mo).trans hia)
              have kdr_1 := hk9 _ _ (by simp only [List.mem_cons, List.not_mem_nil, or_false, not_or]; exact ne_dr_ir) ((mu_ne ne_dr_mo).trans hdr)
              have ken_1 := hk9 _ _ (by simp only [List.mem_cons, List.not_mem_nil, or_false, not_or]; exact ne_en_ir) ((mu_ne ne_en_mo).trans hen)
              have kla_1 := hk9 _ _ (by simp only [List.mem_cons, List.not_mem_nil, or_false, not_or]; exact ne_la_ir) ((mu_ne ne_la_mo).trans hla)
              have kwo_1 := hk9 _ _ (by simp only [List.mem_cons, List.not_mem_nil, or_false, not_or]; exact ne_wo_ir) ((mu_ne ne_wo_mo).trans hwo)
              have kop_1 := hk9 _ _ (by simp only [List.mem_cons, List.not_mem_nil, or_false, not_or]; exact ne_op_ir) ((mu_ne ne_op_mo).trans hop)
              have kmk_1 := hk9 _ _ (by simp only [List.mem_cons, List.not_mem_nil, or_false, not_or]; exact ne_mk_ir) ((mu_ne ne_mk_mo).trans hmk)
              have kse_1 := hk9 _ _ (by simp only [List.mem_cons, List.not_mem_nil, or_false, not_or]; exact ne_se_ir) ((mu_ne ne_se_mo).trans hse)
              have kec_1 := hk9 _ _ (by simp only [List.mem_cons, List.not_mem_nil, or_false, not_or]; exact ne_ec_ir) ((mu_ne ne_ec_mo).trans hec)
              have klc_1 := hk9 _ _ (by simp only [List.mem_cons, List.not_mem_nil, or_false, not_or]; exact ne_lc_ir) ((mu_ne ne_lc_mo).trans hlc)
              have kwc_1 := hk9 _ _ (by simp only [List.mem_cons, List.not_mem_nil, or_false, not_or]; exact ne_wc_ir) ((mu_ne ne_wc_mo).trans hwc)
              have kol_1 := hk9 _ _ (by simp only [List.mem_cons, List.not_mem_nil, or_false, not_or]; exact ne_ol_ir) ((mu_ne ne_ol_mo).trans hol)
              have kal_1 := hk9 _ _ (by simp only [List.mem_cons, List.not_mem_nil, or_false, not_or]; exact ne_al_ir) ((mu_ne ne_al_mo).trans hal)
              have hkp := hkp.trans (hk9.mono (fun a ha => by simp only [List.mem_cons, List.not_mem_nil, or_false] at ha ⊢; subst ha; simp))
              obtain ⟨Mc1, hMx⟩ : ∃ x : mM, x = M1 := ⟨M1, rfl⟩
              subst hMx
              obtain ⟨f102, hv1, hf102, hfq102⟩ := hv1
              subst hv1
              rcases hf102 with hf102 | ⟨nb102, hb102a, hb102b, hf102⟩
              · subst hf102
                refine W.eq (g2 := F0 m 43 ls [.int (-1)]) rfl ?_
                refine W.widen (k := 0) (n := 0) (Nat.le_of_ble_eq_true rfl) (Nat.le_of_ble_eq_true rfl) ?_
                have hm : mm D (AZ z) Mc1 H := hm
                refine lv_istore_n (lv' := [(3, .int (-1)), (0, .ref mo), (1, .int (nI t9)), (2, .int path)]) hx hb dX6_remove_43 rfl hl (by decide) rfl (fun ls hl => ?_)
                refine lv_aload_n hx hb dX6_remove_44 rfl (lv_at hl 1 rfl) ?_
                refine lv_iload_n hx hb dX6_remove_45 rfl (lv_at hl 0 rfl) ?_
                refine lv_if_ge (tgt := 53) hx hb dX6_remove_46 (by decide) (fun c7 => ?_) (fun c7 => ?_)
                · first | exact absurd c7 (by decide) | exact absurd (by decide) c7
                · refine lv_iconst (v := 3) hx hb dX6_remove_49 (by decide) ?_
                  refine lv_goto (tgt := 54) hx hb dX6_remove_50 (by decide) ?_
                  refine m_kV (As := [.int 3]) (rest := []) (rm := { frames := 0, cells := 0, slots := 0, locals := 0 }) ⟨hx, hb, hml, hown, hts⟩ (s_X6_failsE l D k z _ mo cn ia dr en la wo op mk ir se ec lc wc ol al 0 ni dn md pw cm wr cs hm9 3 kmo_1) (cwV 1 hts gX6_remove_X6_fails rfl rfl rfl (by decide +kernel) ⟨Nat.le_of_ble_eq_true rfl, Nat.le_of_ble_eq_true rfl⟩) (m_recv hK hm (q := (RX6, TX6, 24)) rfl kmo_1) hz hcx hm hS rfl hl.1 rfl (Nat.le_of_ble_eq_true rfl) dX6_remove_54 ⟨Nat.le_of_ble_eq_true rfl, Nat.le_of_ble_eq_true rfl⟩ (fun v M1 H locs hv hm hS => ?_)
                  obtain ⟨hv1, hM1⟩ := hv
                  have hv1 : v = some (.int 1) := hv1.trans (by decide)
                  subst hv1
                  rw [hM1] at hm
                  refine W.eq (g2 := F0 m 57 ls [.int 1]) rfl ?_
                  refine W.widen (k := 0) (n := 0) (Nat.le_of_ble_eq_true rfl) (Nat.le_of_ble_eq_true rfl) ?_
                  have hm : mm D (AZ z) (mu Mc1 mo (.inr (6, [.int 3, .ref cn, .ref ia, .ref dr, .ref en, .ref la, .ref wo, .int ni, .ref op, .ref mk, .ref ir, .int dn, .int md, .int pw, .int cm, .int wr, .ref se, .ref ec, .ref lc, .ref wc, .ref ol, .ref al, .int cs, .int hm9]))) H := hm
                  have hkp : kpx (fun a => a ∈ [mo, cn, ia, dr, en, la, wo, op, mk, ir, se, ec, lc, wc, ol, al]) M (mu Mc1 mo (.inr (6, [.int 3, .ref cn, .ref ia, .ref dr, .ref en, .ref la, .ref wo, .int ni, .ref op, .ref mk, .ref ir, .int dn, .int md, .int pw, .int cm, .int wr, .ref se, .ref ec, .ref lc, .ref wc, .ref ol, .ref al, .int cs, .int hm9]))) := (hkp).self (by simp)
                  refine lv_if_eq (tgt := 62) hx hb dX6_remove_57 (by decide) (fun c8 => ?_) (fun c8 => ?_)
                  · first | exact absurd c8 (by decide) | exact absurd (by decide) c8
                  · refine lv_iconst (v := 0) hx hb dX6_remove_60 (by decide) ?_
                    refine W.zret hx hb hr rfl (fun t ht hW => ⟨⟨some (.int 0), _, rfl, ?_, by rw [ht]; exact hm⟩, hS.F ht⟩) hS.2.2 dX6_remove_61
                    exact ⟨⟨_, rfl⟩, ⟨_, _, _, _, _, _, _, fcn, fia, fdr, fen, fla, fwo, fop, fmk, fir_1, fse, fec, flc, fol, fal, fwc, hap, (mu_self _ _ _), hmd, ⟨hrC, hrL, hrM⟩, ((mu_ne ne_cn_mo).trans kcn_1), ((mu_ne ne_ia_mo).trans kia_1), ((mu_ne ne_dr_mo).trans kdr_1), ((mu_ne ne_en_mo).trans ken_1), ((mu_ne ne_la_mo).trans kla_1), ((mu_ne ne_wo_mo).trans kwo_1), ((mu_ne ne_op_mo).trans kop_1), ((mu_ne ne_mk_mo).trans kmk_1), ((mu_ne ne_ir_mo).trans hir_1), ((mu_ne ne_se_mo).trans kse_1), ((mu_ne ne_ec_mo).trans kec_1), ((mu_ne ne_lc_mo).trans klc_1), ((mu_ne ne_wc_mo).trans kwc_1), ((mu_ne ne_ol_mo).trans kol_1), ((mu_ne ne_al_mo).trans kal_1)⟩, hkp⟩
              · subst hf102
                refine W.eq (g2 := F0 m 43 ls [.int (nI nb102)]) rfl ?_
                refine W.widen (k := 0) (n := 0) (Nat.le_of_ble_eq_true rfl) (Nat.le_of_ble_eq_true rfl) ?_
                have hm : mm D (AZ z) Mc1 H := hm
                refine lv_istore_n (lv' := [(3, .int (nI nb102)), (0, .ref mo), (1, .int (nI t9)), (2, .int path)]) hx hb dX6_remove_43 rfl hl (by decide) rfl (fun ls hl => ?_)
                refine lv_aload_n hx hb dX6_remove_44 rfl (lv_at hl 1 rfl) ?_
                refine lv_iload_n hx hb dX6_remove_45 rfl (lv_at hl 0 rfl) ?_
                refine lv_if_ge (tgt := 53) hx hb dX6_remove_46 (by decide) (fun c9 => ?_) (fun c9 => ?_)
                · have hqc9 : 0 ≤ nb102 := nb_le (a := 0) (b := nb102) (by omega) (by omega) c9
                  refine lv_iconst (v := 0) hx hb dX6_remove_53 (by decide) ?_
                  refine m_kV (As := [.int 0]) (rest := []) (rm := { frames := 0, cells := 0, slots := 0, locals := 0 }) ⟨hx, hb, hml, hown, hts⟩ (s_X6_failsE l D k z _ mo cn ia dr en la wo op mk ir se ec lc wc ol al 0 ni dn md pw cm wr cs hm9 0 kmo_1) (cwV 1 hts gX6_remove_X6_fails rfl rfl rfl (by decide +kernel) ⟨Nat.le_of_ble_eq_true rfl, Nat.le_of_ble_eq_true rfl⟩) (m_recv hK hm (q := (RX6, TX6, 24)) rfl kmo_1) hz hcx hm hS rfl hl.1 rfl (Nat.le_of_ble_eq_true rfl) dX6_remove_54 ⟨Nat.le_of_ble_eq_true rfl, Nat.le_of_ble_eq_true rfl⟩ (fun v M1 H locs hv hm hS => ?_)
                  obtain ⟨hv1, hM1⟩ := hv
                  have hv1 : v = some (.int 0) := hv1.trans (by decide)
                  subst hv1
                  rw [hM1] at hm
                  refine W.eq (g2 := F0 m 57 ls [.int 0]) rfl ?_
                  refine W.widen (k := 0) (n := 0) (Nat.le_of_ble_eq_true rfl) (Nat.le_of_ble_eq_true rfl) ?_
                  have hm : mm D (AZ z) (mu Mc1 mo (.inr (6, [.int 0, .ref cn, .ref ia, .ref dr, .ref en, .ref la, .ref wo, .int ni, .ref op, .ref mk, .ref ir, .int dn, .int md, .int pw, .int cm, .int wr, .ref se, .ref ec, .ref lc, .ref wc, .ref ol, .ref al, .int cs, .int hm9]))) H := hm
                  have hkp : kpx (fun a => a ∈ [mo, cn, ia, dr, en, la, wo, op, mk, ir, se, ec, lc, wc, ol, al]) M (mu Mc1 mo (.inr (6, [.int 0, .ref cn, .ref ia, .ref dr, .ref en, .ref la, .ref wo, .int ni, .ref op, .ref mk, .ref ir, .int dn, .int md, .int pw, .int cm, .int wr, .ref se, .ref ec, .ref lc, .ref wc, .ref ol, .ref al, .int cs, .int hm9]))) := (hkp).self (by simp)
                  refine lv_if_eq (tgt := 62) hx hb dX6_remove_57 (by decide) (fun c10 => ?_) (fun c10 => ?_)
                  · refine lv_aload_n hx hb dX6_remove_62 rfl (lv_at hl 1 rfl) ?_
                    refine m_get (T := TX6) (N := 24) (ci := 6) (v := .ref dr) hx hb hts wX6 hown hK hm (mu_self _ _ _) rfl 3 (by decide) f16 (fun _ h9 => h9) rfl dX6_remove_63 ?_
                    refine lv_iload_n hx hb dX6_remove_66 rfl (lv_at hl 0 rfl) ?_
                    refine m_zald hx hb hK hm 2 ((mu_ne ne_dr_mo).trans kdr_1) rfl (vp_in_nI (by omega) (by decide)) dX6_remove_67 ?_
                    refine lv_istore (lv' := [(4, .int (fdr ((nI nb102)).toNatClampNeg)), (3, .int (nI nb102)), (0, .ref mo), (1, .int (nI t9)), (2, .int path)]) hx hb dX6_remove_68 hl (by decide) rfl (fun ls hl => ?_)
                    refine lv_iload hx hb dX6_remove_70 (lv_at hl 0 rfl) ?_
                    refine lv_if_eq (tgt := 103) hx hb dX6_remove_72 (by decide) (fun c11 => ?_) (fun c11 => ?_)
                    · refine lv_aload_n hx hb dX6_remove_103 rfl (lv_at hl 2 rfl) ?_
                      refine lv_iload_n hx hb dX6_remove_104 rfl (lv_at hl 3 rfl) ?_
                      have hI0 : mI k (mu Mc1 mo (.inr (6, [.int 0, .ref cn, .ref ia, .ref dr, .ref en, .ref la, .ref wo, .int ni, .ref op, .ref mk, .ref ir, .int dn, .int md, .int pw, .int cm, .int wr, .ref se, .ref ec, .ref lc, .ref wc, .ref ol, .ref al, .int cs, .int hm9]))) mo cn ia dr en la wo op mk ir se ec lc wc ol al dn md := ⟨_, _, _, _, _, _, _, fcn, fia, fdr, fen, fla, fwo, fop, fmk, fir_1, fse, fec, flc, fol, fal, fwc, hap, (mu_self _ _ _), hmd, ⟨hrC, hrL, hrM⟩, ((mu_ne ne_cn_mo).trans kcn_1), ((mu_ne ne_ia_mo).trans kia_1), ((mu_ne ne_dr_mo).trans kdr_1), ((mu_ne ne_en_mo).trans ken_1), ((mu_ne ne_la_mo).trans kla_1), ((mu_ne ne_wo_mo).trans kwo_1), ((mu_ne ne_op_mo).trans kop_1), ((mu_ne ne_mk_mo).trans kmk_1), ((mu_ne ne_ir_mo).trans hir_1), ((mu_ne ne_se_mo).trans kse_1), ((mu_ne ne_ec_mo).trans kec_1), ((mu_ne ne_lc_mo).trans klc_1), ((mu_ne ne_wc_mo).trans kwc_1), ((mu_ne ne_ol_mo).trans kol_1), ((mu_ne ne_al_mo).trans kal_1)⟩
                      refine m_kV (As := [.int (nI t9)]) (rest := []) (rm := { frames := 0, cells := 0, slots := 0, locals := 0 }) ⟨hx, hb, hml, hown, hts⟩ (s_X6_tree l D k z _ mo cn ia dr en la wo op mk ir se ec lc wc ol al dn md t9 (by omega) hI0) (cwV 1 hts gX6_remove_X6_tree rfl rfl rfl (by decide +kernel) ⟨Nat.le_of_ble_eq_true rfl, Nat.le_of_ble_eq_true rfl⟩) (m_recv hK hm (q := (RX6, TX6, 24)) rfl (mu_self _ _ _)) hz hcx hm hS rfl hl.1 rfl (Nat.le_of_ble_eq_true rfl) dX6_remove_105 ⟨Nat.le_of_ble_eq_true rfl, Nat.le_of_ble_eq_true rfl⟩ (fun v M1 H locs hv hm hS => ?_)
                      obtain ⟨hv1, hM1⟩ := hv
                      subst hv1
                      rw [hM1] at hm
                      refine W.eq (g2 := F0 m 108 ls [.int (nI (2 + 5 * t9))]) rfl ?_
                      refine W.widen (k := 0) (n := 0) (Nat.le_of_ble_eq_true rfl) (Nat.le_of_ble_eq_true rfl) ?_
                      have hm : mm D (AZ z) (mu Mc1 mo (.inr (6, [.int 0, .ref cn, .ref ia, .ref dr, .ref en, .ref la, .ref wo, .int ni, .ref op, .ref mk, .ref ir, .int dn, .int md, .int pw, .int cm, .int wr, .ref se, .ref ec, .ref lc, .ref wc, .ref ol, .ref al, .int cs, .int hm9]))) H := hm
                      refine lv_istore (lv' := [(5, .int (nI (2 + 5 * t9))), (4, .int (fdr ((nI nb102)).toNatClampNeg)), (3, .int (nI nb102)), (0, .ref mo), (1, .int (nI t9)), (2, .int path)]) hx hb dX6_remove_108 hl (by decide) rfl (fun ls hl => ?_)
                      refine lv_bipush (v := 100) hx hb dX6_remove_110 (by decide) ?_
                      refine lv_iload hx hb dX6_remove_112 (lv_at hl 0 rfl) ?_
                      refine lv_imul hx hb dX6_remove_114 ?_
                      refine W.eq (g2 := F0 m 115 ls [.int (nI (100 * (2 + 5 * t9)))]) (by rw [show ((100) * ((nI (2 + 5 * t9))) : Int32) = nI (100 * (2 + 5 * t9)) from pk_mul 100 (2 + 5 * t9)]) ?_
                      refine lv_istore (lv' := [(6, .int (nI (100 * (2 + 5 * t9)))), (5, .int (nI (2 + 5 * t9))), (4, .int (fdr ((nI nb102)).toNatClampNeg)), (3, .int (nI nb102)), (0, .ref mo), (1, .int (nI t9)), (2, .int path)]) hx hb dX6_remove_115 hl (by decide) rfl (fun ls hl => ?_)
                      have hI0 : mI k (mu Mc1 mo (.inr (6, [.int 0, .ref cn, .ref ia, .ref dr, .ref en, .ref la, .ref wo, .int ni, .ref op, .ref mk, .ref ir, .int dn, .int md, .int pw, .int cm, .int wr, .ref se, .ref ec, .ref lc, .ref wc, .ref ol, .ref al, .int cs, .int hm9]))) mo cn ia dr en la wo op mk ir se ec lc wc ol al dn md := ⟨_, _, _, _, _, _, _, fcn, fia, fdr, fen, fla, fwo, fop, fmk, fir_1, fse, fec, flc, fol, fal, fwc, hap, (mu_self _ _ _), hmd, ⟨hrC, hrL, hrM⟩, ((mu_ne ne_cn_mo).trans kcn_1), ((mu_ne ne_ia_mo).trans kia_1), ((mu_ne ne_dr_mo).trans kdr_1), ((mu_ne ne_en_mo).trans ken_1), ((mu_ne ne_la_mo).trans kla_1), ((mu_ne ne_wo_mo).trans kwo_1), ((mu_ne ne_op_mo).trans kop_1), ((mu_ne ne_mk_mo).trans kmk_1), ((mu_ne ne_ir_mo).trans hir_1), ((mu_ne ne_se_mo).trans kse_1), ((mu_ne ne_ec_mo).trans kec_1), ((mu_ne ne_lc_mo).trans klc_1), ((mu_ne ne_wc_mo).trans kwc_1), ((mu_ne ne_ol_mo).trans kol_1), ((mu_ne ne_al_mo).trans kal_1)⟩
                      refine W_loop (σ := Nat × mM) (fun ⟨j117, Ml117⟩ H locs ls => ((100 * (2 + 5 * t9)) ≤ j117 ∧ j117 < 2147483000) ∧ (mI k Ml117 mo cn ia dr en la wo op mk ir se ec lc wc ol al dn md) ∧ (kpx (fun a => a ∈ [mo, cn, ia, dr, en, la, wo, op, mk, ir, se, ec, lc, wc, ol, al]) M Ml117) ∧ (kpx (fun a => a ∈ [en]) (mu Mc1 mo (.inr (6, [.int 0, .ref cn, .ref ia, .ref dr, .ref en, .ref la, .ref wo, .int ni, .ref op, .ref mk, .ref ir, .int dn, .int md, .int pw, .int cm, .int wr, .ref se, .ref ec, .ref lc, .ref wc, .ref ol, .ref al, .int cs, .int hm9]))) Ml117) ∧ mm D (AZ z) Ml117 H ∧ va_S (AZ z) s.heap H locs ∧ lv_has ls 8 [(6, .int (nI j117)), (5, .int (nI (2 + 5 * t9))), (4, .int (fdr ((nI nb102)).toNatClampNeg)), (3, .int (nI nb102)), (0, .ref mo), (1, .int (nI t9)), (2, .int path)]) (fun ⟨j117, Ml117⟩ => 2147483648 - j117) (fun _ => 0) (fun _ => 0) ?_ ((100 * (2 + 5 * t9)), (mu Mc1 mo (.inr (6, [.int 0, .ref cn, .ref ia, .ref dr, .ref en, .ref la, .ref wo, .int ni, .ref op, .ref mk, .ref ir, .int dn, .int md, .int pw, .int cm, .int wr, .ref se, .ref ec, .ref lc, .ref wc, .ref ol, .ref al, .int cs, .int hm9])))) _ _ _ ⟨⟨Nat.le_refl _, by omega⟩, hI0, hkp, (kpx.refl _ _), hm, hS, lv_sub hl [0, 1, 2, 3, 4, 5, 6] rfl⟩
                      intro ⟨j117, Ml117⟩ H locs ls hQ ih117
                      obtain ⟨hj117, hI, hkp, hkl117, hm, hS, hl⟩ := hQ
                      try dsimp only at hm hl ih117 hj117 hI hkp hkl117 ⊢
                      obtain ⟨_, _, _, _, _, _, _, _, _, _, fen_2, _, _, _, _, _, _, _, _, _, _, _, -, -, hmd_2, ⟨-, -, -⟩, -, -, -, hen_2, -, -, -, -, -, -, -, -, -, -, -⟩ := id hI
                      have kmo_2 := hkl117 _ _ (by simp only [List.mem_cons, List.not_mem_nil, or_false, not_or]; exact ne_mo_en) (mu_self _ _ _)
                      have kcn_2 := hkl117 _ _ (by simp only [List.mem_cons, List.not_mem_nil, or_false, not_or]; exact ne_cn_en) ((mu_ne ne_cn_mo).trans kcn_1)
                      have kia_2 := hkl117 _ _ (by simp only [List.mem_cons, List.not_mem_nil, or_false, not_or]; exact ne_ia_en) ((mu_ne ne_ia_mo).trans kia_1)
                      have kdr_2 := hkl117 _ _ (by simp only [List.mem_cons, List.not_mem_nil, or_false, not_or]; exact ne_dr_en) ((mu_ne ne_dr_mo).trans kdr_1)
                      have kla_2 := hkl117 _ _ (by simp only [List.mem_cons, List.not_mem_nil, or_false, not_or]; exact ne_la_en) ((mu_ne ne_la_mo).trans kla_1)
                      have kwo_2 := hkl117 _ _ (by simp only [List.mem_cons, List.not_mem_nil, or_false, not_or]; exact ne_wo_en) ((mu_ne ne_wo_mo).trans kwo_1)
                      have kop_2 := hkl117 _ _ (by simp only [List.mem_cons, List.not_mem_nil, or_false, not_or]; exact ne_op_en) ((mu_ne ne_op_mo).trans kop_1)
                      have kmk_2 := hkl117 _ _ (by simp only [List.mem_cons, List.not_mem_nil, or_false, not_or]; exact ne_mk_en) ((mu_ne ne_mk_mo).trans kmk_1)
                      have kir_2 := hkl117 _ _ (by simp only [List.mem_cons, List.not_mem_nil, or_false, not_or]; exact ne_ir_en) ((mu_ne ne_ir_mo).trans hir_1)
                      have kse_2 := hkl117 _ _ (by simp only [List.mem_cons, List.not_mem_nil, or_false, not_or]; exact ne_se_en) ((mu_ne ne_se_mo).trans kse_1)
                      have kec_2 := hkl117 _ _ (by simp only [List.mem_cons, List.not_mem_nil, or_false, not_or]; exact ne_ec_en) ((mu_ne ne_ec_mo).trans kec_1)
                      have klc_2 := hkl117 _ _ (by simp only [List.mem_cons, List.not_mem_nil, or_false, not_or]; exact ne_lc_en) ((mu_ne ne_lc_mo).trans klc_1)
                      have kwc_2 := hkl117 _ _ (by simp only [List.mem_cons, List.not_mem_nil, or_false, not_or]; exact ne_wc_en) ((mu_ne ne_wc_mo).trans kwc_1)
                      have kol_2 := hkl117 _ _ (by simp only [List.mem_cons, List.not_mem_nil, or_false, not_or]; exact ne_ol_en) ((mu_ne ne_ol_mo).trans kol_1)
                      have kal_2 := hkl117 _ _ (by simp only [List.mem_cons, List.not_mem_nil, or_false, not_or]; exact ne_al_en) ((mu_ne ne_al_mo).trans kal_1)
                      refine lv_iload hx hb dX6_remove_117 (lv_at hl 0 rfl) ?_
                      refine lv_bipush (v := 100) hx hb dX6_remove_119 (by decide) ?_
                      refine lv_iload hx hb dX6_remove_121 (lv_at hl 1 rfl) ?_
                      refine lv_imul hx hb dX6_remove_123 ?_
                      refine W.eq (g2 := F0 m 124 ls [.int (nI (100 * (2 + 5 * t9))), .int (nI j117)]) (by rw [show ((100) * ((nI (2 + 5 * t9))) : Int32) = nI (100 * (2 + 5 * t9)) from pk_mul 100 (2 + 5 * t9)]) ?_
                      refine lv_aload_n hx hb dX6_remove_124 rfl (lv_at hl 4 rfl) ?_
                      refine m_get (T := TX6) (N := 24) (ci := 6) (v := .ref cn) hx hb hts wX6 hown hK hm kmo_2 rfl 1 (by decide) f7 (fun _ h9 => h9) rfl dX6_remove_125 ?_
                      refine lv_iload hx hb dX6_remove_128 (lv_at hl 1 rfl) ?_
                      refine m_iald hx hb hK hm 0 kcn_2 rfl (vp_in_nI (by omega) (by decide)) dX6_remove_130 ?_
                      obtain ⟨u12, hu12, eu12⟩ := hrC (2 + 5 * t9)
                      refine W.eq (g2 := F0 m 131 ls [.int (nI u12), .int (nI (100 * (2 + 5 * t9))), .int (nI j117)]) (by rw [show (fcn ((nI (2 + 5 * t9))).toNatClampNeg) = nI u12 from (congrArg fcn (show ((nI (2 + 5 * t9))).toNatClampNeg = (2 + 5 * t9) from nI_clamp (by omega))).trans eu12]) ?_
                      have hb_u12 := hu12
                      have hu12 : u12 ≤ 100 := Nat.le_trans hu12 (bC_le _)
                      have hsu12 : u12 ≤ 60 := Nat.le_trans hb_u12 (bC_60 (by omega))
                      refine lv_iadd hx hb dX6_remove_131 ?_
                      refine W.eq (g2 := F0 m 132 ls [.int (nI ((100 * (2 + 5 * t9)) + u12)), .int (nI j117)]) (by rw [show (((nI (100 * (2 + 5 * t9)))) + ((nI u12)) : Int32) = nI ((100 * (2 + 5 * t9)) + u12) from nI_add (100 * (2 + 5 * t9)) u12]) ?_
                      refine lv_icmp_ge (tgt := 209) hx hb dX6_remove_132 (by decide) (fun c13 => ?_) (fun c13 => ?_)
                      · have hqc13 : ((100 * (2 + 5 * t9)) + u12) ≤ j117 := nb_le (a := ((100 * (2 + 5 * t9)) + u12)) (b := j117) (by omega) (by omega) c13
                        refine lv_aload_n hx hb dX6_remove_209 rfl (lv_at hl 4 rfl) ?_
                        refine m_get (T := TX6) (N := 24) (ci := 6) (v := .ref cn) hx hb hts wX6 hown hK hm kmo_2 rfl 1 (by decide) f7 (fun _ h9 => h9) rfl dX6_remove_210 ?_
                        refine lv_iload hx hb dX6_remove_213 (lv_at hl 1 rfl) ?_
                        refine lv_dup2_11 hx hb dX6_remove_215 rfl rfl ?_
                        refine m_iald hx hb hK hm 0 kcn_2 rfl (vp_in_nI (by omega) (by decide)) dX6_remove_216 ?_
                        refine W.eq (g2 := F0 m 217 ls [.int (nI u12), .int (nI (2 + 5 * t9)), .ref cn]) (by rw [show (fcn ((nI (2 + 5 * t9))).toNatClampNeg) = nI u12 from (congrArg fcn (show ((nI (2 + 5 * t9))).toNatClampNeg = (2 + 5 * t9) from nI_clamp (by omega))).trans eu12]) ?_
                        have hpos9 : 1 ≤ u12 := by
                          rcases hfq102 (by rw [dg_0]; exact isP_15 hp101 c5) with q | ⟨n9, uc9, g9, hg9, hgu9, hgb9, q1, q2, q3⟩
                          · exact absurd q (nb_m1 (by omega))
                          · have h9 := hg9.symm.trans ((mu_ne ne_cn_mo).trans hcn)
                            cases h9
                            have h8 := nI_inj (by have := bC_le (2 + 5 * t9); omega) (by omega) (hgu9.symm.trans eu12)
                            omega
                        refine lv_iconst (v := 1) hx hb dX6_remove_217 (by decide) ?_
                        refine lv_isub hx hb dX6_remove_218 ?_
                        refine W.eq (g2 := F0 m 219 ls [.int (nI (u12 - 1)), .int (nI (2 + 5 * t9)), .ref cn]) (by rw [show (((nI u12)) - (1) : Int32) = nI (u12 - 1) from pk_sub (a := u12) (b := 1) (by omega)]) ?_
                        refine m_iast hx hb hK hm hS 0 kcn_2 rfl (vp_in_nI (by omega) (by decide)) dX6_remove_219 (fun H locs hm hS => ?_)
                        have hrC : rng bC (upd fcn ((nI (2 + 5 * t9))).toNatClampNeg (nI (u12 - 1))) := (hrC).up _ (u12 - 1) (by rw [nI_clamp (by omega)]; exact (by rw [bC_e60 (by omega) (by omega)]; omega))
                        have hmd : md ≠ 0 → ∃ n, n ≤ 40 ∧ (upd fcn ((nI (2 + 5 * t9))).toNatClampNeg (nI (u12 - 1))) 31 = nI n := fun q => by obtain ⟨n, q2, q3⟩ := hmd q; exact ⟨n, q2, by rw [← q3]; exact if_neg (by rw [nI_clamp (by omega)]; omega)⟩
                        have hm : mm D (AZ z) (mu Ml117 cn (.inl (k 0, 32, .inl (upd fcn ((nI (2 + 5 * t9))).toNatClampNeg (nI (u12 - 1)))))) H := hm
                        have hkp : kpx (fun a => a ∈ [mo, cn, ia, dr, en, la, wo, op, mk, ir, se, ec, lc, wc, ol, al]) M (mu Ml117 cn (.inl (k 0, 32, .inl (upd fcn ((nI (2 + 5 * t9))).toNatClampNeg (nI (u12 - 1)))))) := (hkp).self (by simp)
                        refine lv_iload_n hx hb dX6_remove_220 rfl (lv_at hl 3 rfl) ?_
                        refine lv_istore (lv' := [(6, .int (nI nb102)), (5, .int (nI (2 + 5 * t9))), (4, .int (fdr ((nI nb102)).toNatClampNeg)), (3, .int (nI nb102)), (0, .ref mo), (1, .int (nI t9)), (2, .int path)]) hx hb dX6_remove_221 hl (by decide) rfl (fun ls hl => ?_)
                        have hI0 : mI k (mu Ml117 cn (.inl (k 0, 32, .inl (upd fcn ((nI (2 + 5 * t9))).toNatClampNeg (nI (u12 - 1)))))) mo cn ia dr en la wo op mk ir se ec lc wc ol al dn md := ⟨_, _, _, _, _, _, _, (upd fcn ((nI (2 + 5 * t9))).toNatClampNeg (nI (u12 - 1))), fia, fdr, fen_2, fla, fwo, fop, fmk, fir_1, fse, fec, flc, fol, fal, fwc, hap, ((mu_ne ne_mo_cn).trans kmo_2), hmd, ⟨hrC, hrL, hrM⟩, (mu_self _ _ _), ((mu_ne ne_ia_cn).trans kia_2), ((mu_ne ne_dr_cn).trans kdr_2), ((mu_ne ne_en_cn).trans hen_2), ((mu_ne ne_la_cn).trans kla_2), ((mu_ne ne_wo_cn).trans kwo_2), ((mu_ne ne_op_cn).trans kop_2), ((mu_ne ne_mk_cn).trans kmk_2), ((mu_ne ne_ir_cn).trans kir_2), ((mu_ne ne_se_cn).trans kse_2), ((mu_ne ne_ec_cn).trans kec_2), ((mu_ne ne_lc_cn).trans klc_2), ((mu_ne ne_wc_cn).trans kwc_2), ((mu_ne ne_ol_cn).trans kol_2), ((mu_ne ne_al_cn).trans kal_2)⟩
                        refine W_loop (σ := Nat × mM) (fun ⟨j223, Ml223⟩ H locs ls => (nb102 ≤ j223 ∧ j223 < 2147483000) ∧ (mI k Ml223 mo cn ia dr en la wo op mk ir se ec lc wc ol al dn md) ∧ (kpx (fun a => a ∈ [mo, cn, ia, dr, en, la, wo, op, mk, ir, se, ec, lc, wc, ol, al]) M Ml223) ∧ (kpx (fun a => a ∈ [ia, dr, en, la, wo]) (mu Ml117 cn (.inl (k 0, 32, .inl (upd fcn ((nI (2 + 5 * t9))).toNatClampNeg (nI (u12 - 1)))))) Ml223) ∧ mm D (AZ z) Ml223 H ∧ va_S (AZ z) s.heap H locs ∧ lv_has ls 8 [(6, .int (nI j223)), (5, .int (nI (2 + 5 * t9))), (4, .int (fdr ((nI nb102)).toNatClampNeg)), (3, .int (nI nb102)), (0, .ref mo), (1, .int (nI t9)), (2, .int path)]) (fun ⟨j223, Ml223⟩ => 2147483648 - j223) (fun _ => 0) (fun _ => 0) ?_ (nb102, (mu Ml117 cn (.inl (k 0, 32, .inl (upd fcn ((nI (2 + 5 * t9))).toNatClampNeg (nI (u12 - 1))))))) _ _ _ ⟨⟨Nat.le_refl _, by omega⟩, hI0, hkp, (kpx.refl _ _), hm, hS, lv_sub hl [0, 1, 2, 3, 4, 5, 6] rfl⟩
                        intro ⟨j223, Ml223⟩ H locs ls hQ ih223
                        obtain ⟨hj223, hI, hkp, hkl223, hm, hS, hl⟩ := hQ
                        try dsimp only at hm hl ih223 hj223 hI hkp hkl223 ⊢
                        obtain ⟨_, _, _, _, _, _, _, _, fia_3, fdr_3, fen_3, fla_3, fwo_3, _, _, _, _, _, _, _, _, _, -, -, hmd_3, ⟨-, hrL_3, -⟩, -, hia_3, hdr_3, hen_3, hla_3, hwo_3, -, -, -, -, -, -, -, -, -⟩ := id hI
                        have kmo_3 := hkl223 _ _ (by simp only [List.mem_cons, List.not_mem_nil, or_false, not_or]; exact ⟨ne_mo_ia, ne_mo_dr, ne_mo_en, ne_mo_la, ne_mo_wo⟩) ((mu_ne ne_mo_cn).trans kmo_2)
                        have kcn_3 := hkl223 _ _ (by simp only [List.mem_cons, List.not_mem_nil, or_false, not_or]; exact ⟨ne_cn_ia, ne_cn_dr, ne_cn_en, ne_cn_la, ne_cn_wo⟩) (mu_self _ _ _)
                        have kop_3 := hkl223 _ _ (by simp only [List.mem_cons, List.not_mem_nil, or_false, not_or]; exact ⟨ne_op_ia, ne_op_dr, ne_op_en, ne_op_la, ne_op_wo⟩) ((mu_ne ne_op_cn).trans kop_2)
                        have kmk_3 := hkl223 _ _ (by simp only [List.mem_cons, List.not_mem_nil, or_false, not_or]; exact ⟨ne_mk_ia, ne_mk_dr, ne_mk_en, ne_mk_la, ne_mk_wo⟩) ((mu_ne ne_mk_cn).trans kmk_2)
                        have kir_3 := hkl223 _ _ (by simp only [List.mem_cons, List.not_mem_nil, or_false, not_or]; exact ⟨ne_ir_ia, ne_ir_dr, ne_ir_en, ne_ir_la, ne_ir_wo⟩) ((mu_ne ne_ir_cn).trans kir_2)
                        have kse_3 := hkl223 _ _ (by simp only [List.mem_cons, List.not_mem_nil, or_false, not_or]; exact ⟨ne_se_ia, ne_se_dr, ne_se_en, ne_se_la, ne_se_wo⟩) ((mu_ne ne_se_cn).trans kse_2)
                        have kec_3 := hkl223 _ _ (by simp only [List.mem_cons, List.not_mem_nil, or_false, not_or]; exact ⟨ne_ec_ia, ne_ec_dr, ne_ec_en, ne_ec_la, ne_ec_wo⟩) ((mu_ne ne_ec_cn).trans kec_2)
                        have klc_3 := hkl223 _ _ (by simp only [List.mem_cons, List.not_mem_nil, or_false, not_or]; exact ⟨ne_lc_ia, ne_lc_dr, ne_lc_en, ne_lc_la, ne_lc_wo⟩) ((mu_ne ne_lc_cn).trans klc_2)
                        have kwc_3 := hkl223 _ _ (by simp only [List.mem_cons, List.not_mem_nil, or_false, not_or]; exact ⟨ne_wc_ia, ne_wc_dr, ne_wc_en, ne_wc_la, ne_wc_wo⟩) ((mu_ne ne_wc_cn).trans kwc_2)
                        have kol_3 := hkl223 _ _ (by simp only [List.mem_cons, List.not_mem_nil, or_false, not_or]; exact ⟨ne_ol_ia, ne_ol_dr, ne_ol_en, ne_ol_la, ne_ol_wo⟩) ((mu_ne ne_ol_cn).trans kol_2)
                        have kal_3 := hkl223 _ _ (by simp only [List.mem_cons, List.not_mem_nil, or_false, not_or]; exact ⟨ne_al_ia, ne_al_dr, ne_al_en, ne_al_la, ne_al_wo⟩) ((mu_ne ne_al_cn).trans kal_2)
                        refine lv_iload hx hb dX6_remove_223 (lv_at hl 0 rfl) ?_
                        refine lv_bipush (v := 100) hx hb dX6_remove_225 (by decide) ?_
                        refine lv_iload hx hb dX6_remove_227 (lv_at hl 1 rfl) ?_
                        refine lv_imul hx hb dX6_remove_229 ?_
                        refine W.eq (g2 := F0 m 230 ls [.int (nI (100 * (2 + 5 * t9))), .int (nI j223)]) (by rw [show ((100) * ((nI (2 + 5 * t9))) : Int32) = nI (100 * (2 + 5 * t9)) from pk_mul 100 (2 + 5 * t9)]) ?_
                        refine lv_aload_n hx hb dX6_remove_230 rfl (lv_at hl 4 rfl) ?_
                        refine m_get (T := TX6) (N := 24) (ci := 6) (v := .ref cn) hx hb hts wX6 hown hK hm kmo_3 rfl 1 (by decide) f7 (fun _ h9 => h9) rfl dX6_remove_231 ?_
                        refine lv_iload hx hb dX6_remove_234 (lv_at hl 1 rfl) ?_
                        refine m_iald hx hb hK hm 0 kcn_3 rfl (vp_in_nI (by omega) (by decide)) dX6_remove_236 ?_
                        obtain ⟨u14, hu14, eu14⟩ := hrC (2 + 5 * t9)
                        refine W.eq (g2 := F0 m 237 ls [.int (nI u14), .int (nI (100 * (2 + 5 * t9))), .int (nI j223)]) (by rw [show ((upd fcn ((nI (2 + 5 * t9))).toNatClampNeg (nI (u12 - 1))) ((nI (2 + 5 * t9))).toNatClampNeg) = nI u14 from (congrArg (upd fcn ((nI (2 + 5 * t9))).toNatClampNeg (nI (u12 - 1))) (show ((nI (2 + 5 * t9))).toNatClampNeg = (2 + 5 * t9) from nI_clamp (by omega))).trans eu14]) ?_
                        have hb_u14 := hu14
                        have hu14 : u14 ≤ 100 := Nat.le_trans hu14 (bC_le _)
                        have hsu14 : u14 ≤ 60 := Nat.le_trans hb_u14 (bC_60 (by omega))
                        refine lv_iadd hx hb dX6_remove_237 ?_
                        refine W.eq (g2 := F0 m 238 ls [.int (nI ((100 * (2 + 5 * t9)) + u14)), .int (nI j223)]) (by rw [show (((nI (100 * (2 + 5 * t9)))) + ((nI u14)) : Int32) = nI ((100 * (2 + 5 * t9)) + u14) from nI_add (100 * (2 + 5 * t9)) u14]) ?_
                        refine lv_icmp_ge (tgt := 257) hx hb dX6_remove_238 (by decide) (fun c15 => ?_) (fun c15 => ?_)
                        · have hqc15 : ((100 * (2 + 5 * t9)) + u14) ≤ j223 := nb_le (a := ((100 * (2 + 5 * t9)) + u14)) (b := j223) (by omega) (by omega) c15
                          refine lv_iload hx hb dX6_remove_257 (lv_at hl 2 rfl) ?_
                          refine W.zretN (v := (fdr ((nI nb102)).toNatClampNeg)) hx hb hr (fun t ht hW => ⟨⟨some (.int ((fdr ((nI nb102)).toNatClampNeg) &&& 1)), _, rfl, ?_, by rw [ht]; exact hm⟩, hS.F ht⟩) hS.2.2 dX6_remove_259 hlocks
                          exact ⟨⟨_, rfl⟩, ⟨_, _, _, _, _, _, _, (upd fcn ((nI (2 + 5 * t9))).toNatClampNeg (nI (u12 - 1))), fia_3, fdr_3, fen_3, fla_3, fwo_3, fop, fmk, fir_1, fse, fec, flc, fol, fal, fwc, hap, kmo_3, hmd, ⟨hrC, hrL_3, hrM⟩, kcn_3, hia_3, hdr_3, hen_3, hla_3, hwo_3, kop_3, kmk_3, kir_3, kse_3, kec_3, klc_3, kwc_3, kol_3, kal_3⟩, hkp⟩
                        · have hqc15 : j223 < ((100 * (2 + 5 * t9)) + u14) := nb_nle (a := ((100 * (2 + 5 * t9)) + u14)) (b := j223) (by omega) (by omega) c15
                          refine lv_aload_n hx hb dX6_remove_241 rfl (lv_at hl 4 rfl) ?_
                          refine lv_iload hx hb dX6_remove_242 (lv_at hl 0 rfl) ?_
                          refine lv_iload hx hb dX6_remove_244 (lv_at hl 0 rfl) ?_
                          refine lv_iconst (v := 1) hx hb dX6_remove_246 (by decide) ?_
                          refine lv_iadd hx hb dX6_remove_247 ?_
                          refine W.eq (g2 := F0 m 248 ls [.int (nI (j223 + 1)), .int (nI j223), .ref mo]) (by rw [show (((nI j223)) + (1) : Int32) = nI (j223 + 1) from nI_add j223 1]) ?_
                          have hI0 : mI k Ml223 mo cn ia dr en la wo op mk ir se ec lc wc ol al dn md := ⟨_, _, _, _, _, _, _, (upd fcn ((nI (2 + 5 * t9))).toNatClampNeg (nI (u12 - 1))), fia_3, fdr_3, fen_3, fla_3, fwo_3, fop, fmk, fir_1, fse, fec, flc, fol, fal, fwc, hap, kmo_3, hmd, ⟨hrC, hrL_3, hrM⟩, kcn_3, hia_3, hdr_3, hen_3, hla_3, hwo_3, kop_3, kmk_3, kir_3, kse_3, kec_3, klc_3, kwc_3, kol_3, kal_3⟩
                          refine m_kV (As := [.int (nI j223), .int (nI (j223 + 1))]) (rest := []) (rm := { frames := 0, cells := 0, slots := 0, locals := 0 }) ⟨hx, hb, hml, hown, hts⟩ (s_X6_copyNode l D k z _ mo cn ia dr en la wo op mk ir se ec lc wc ol al dn md j223 (j223 + 1) (by omega) (by omega) hI0) (cwV 2 hts gX6_remove_X6_copyNode rfl rfl rfl (by decide +kernel) ⟨Nat.le_of_ble_eq_true rfl, Nat.le_of_ble_eq_true rfl⟩) (m_recv hK hm (q := (RX6, TX6, 24)) rfl kmo_3) hz hcx hm hS rfl hl.1 rfl (Nat.le_of_ble_eq_true rfl) dX6_remove_248 ⟨Nat.le_of_ble_eq_true rfl, Nat.le_of_ble_eq_true rfl⟩ (fun v M1 H locs hv hm hS => ?_)
                          obtain ⟨hv1, hI9, hk9⟩ := hv
                          obtain ⟨_, _, _, _, _, _, _, _, fia_4, fdr_4, fen_4, fla_4, fwo_4, _, _, _, _, _, _, _, _, _, -, -, hmd_4, ⟨-, hrL_4, -⟩, -, hia_4, hdr_4, hen_4, hla_4, hwo_4, -, -, -, -, -, -, -, -, -⟩ := id hI9
                          have kmo_4 := hk9 _ _ (by simp only [List.mem_cons, List.not_mem_nil, or_false, not_or]; exact ⟨ne_mo_ia, ne_mo_dr, ne_mo_en, ne_mo_la, ne_mo_wo⟩) kmo_3
                          have kcn_4 := hk9 _ _ (by simp only [List.mem_cons, List.not_mem_nil, or_false, not_or]; exact ⟨ne_cn_ia, ne_cn_dr, ne_cn_en, ne_cn_la, ne_cn_wo⟩) kcn_3
                          have kop_4 := hk9 _ _ (by simp only [List.mem_cons, List.not_mem_nil, or_false, not_or]; exact ⟨ne_op_ia, ne_op_dr, ne_op_en, ne_op_la, ne_op_wo⟩) kop_3
                          have kmk_4 := hk9 _ _ (by simp only [List.mem_cons, List.not_mem_nil, or_false, not_or]; exact ⟨ne_mk_ia, ne_mk_dr, ne_mk_en, ne_mk_la, ne_mk_wo⟩) kmk_3
                          have kir_4 := hk9 _ _ (by simp only [List.mem_cons, List.not_mem_nil, or_false, not_or]; exact ⟨ne_ir_ia, ne_ir_dr, ne_ir_en, ne_ir_la, ne_ir_wo⟩) kir_3
                          have kse_4 := hk9 _ _ (by simp only [List.mem_cons, List.not_mem_nil, or_false, not_or]; exact ⟨ne_se_ia, ne_se_dr, ne_se_en, ne_se_la, ne_se_wo⟩) kse_3
                          have kec_4 := hk9 _ _ (by simp only [List.mem_cons, List.not_mem_nil, or_false, not_or]; exact ⟨ne_ec_ia, ne_ec_dr, ne_ec_en, ne_ec_la, ne_ec_wo⟩) kec_3
                          have klc_4 := hk9 _ _ (by simp only [List.mem_cons, List.not_mem_nil, or_false, not_or]; exact ⟨ne_lc_ia, ne_lc_dr, ne_lc_en, ne_lc_la, ne_lc_wo⟩) klc_3
                          have kwc_4 := hk9 _ _ (by simp only [List.mem_cons, List.not_mem_nil, or_false, not_or]; exact ⟨ne_wc_ia, ne_wc_dr, ne_wc_en, ne_wc_la, ne_wc_wo⟩) kwc_3
                          have kol_4 := hk9 _ _ (by simp only [List.mem_cons, List.not_mem_nil, or_false, not_or]; exact ⟨ne_ol_ia, ne_ol_dr, ne_ol_en, ne_ol_la, ne_ol_wo⟩) kol_3
                          have kal_4 := hk9 _ _ (by simp only [List.mem_cons, List.not_mem_nil, or_false, not_or]; exact ⟨ne_al_ia, ne_al_dr, ne_al_en, ne_al_la, ne_al_wo⟩) kal_3
                          have hkp := hkp.trans (hk9.mono (fun a ha => by simp only [List.mem_cons, List.not_mem_nil, or_false] at ha ⊢; rcases ha with q9 | q9 | q9 | q9 | q9 <;> simp [q9]))
                          have hkl223 := hkl223.trans (hk9.mono (fun a ha => by simp only [List.mem_cons, List.not_mem_nil, or_false] at ha ⊢; rcases ha with q9 | q9 | q9 | q9 | q9 <;> simp [q9]))
                          obtain ⟨Mc2, hMx⟩ : ∃ x : mM, x = M1 := ⟨M1, rfl⟩
                          subst hMx
                          subst hv1
                          refine W.eq (g2 := F0 m 251 ls []) rfl ?_
                          refine W.widen (k := 0) (n := 0) (Nat.le_of_ble_eq_true rfl) (Nat.le_of_ble_eq_true rfl) ?_
                          have hm : mm D (AZ z) Mc2 H := hm
                          refine lv_iinc (v := ((nI j223) + 1)) (lv' := [(6, .int ((nI j223) + 1)), (5, .int (nI (2 + 5 * t9))), (4, .int (fdr ((nI nb102)).toNatClampNeg)), (3, .int (nI nb102)), (0, .ref mo), (1, .int (nI t9)), (2, .int path)]) hx hb dX6_remove_251 hl (k := 0) rfl rfl (by decide) rfl (fun ls hl => ?_)
                          refine lv_goto (tgt := 223) hx hb dX6_remove_254 (by decide) ?_
                          rw [nI_1] at hl
                          exact ih223 (j223 + 1, Mc2) _ _ _ ⟨⟨by omega, by omega⟩, ⟨_, _, _, _, _, _, _, (upd fcn ((nI (2 + 5 * t9))).toNatClampNeg (nI (u12 - 1))), fia_4, fdr_4, fen_4, fla_4, fwo_4, fop, fmk, fir_1, fse, fec, flc, fol, fal, fwc, hap, kmo_4, hmd, ⟨hrC, hrL_4, hrM⟩, kcn_4, hia_4, hdr_4, hen_4, hla_4, hwo_4, kop_4, kmk_4, kir_4, kse_4, kec_4, klc_4, kwc_4, kol_4, kal_4⟩, hkp, hkl223, hm, hS, lv_sub hl [0, 1, 2, 3, 4, 5, 6] rfl⟩ (by show 2147483648 - (j223 + 1) < 2147483648 - j223; omega)
                      · have hqc13 : j117 < ((100 * (2 + 5 * t9)) + u12) := nb_nle (a := ((100 * (2 + 5 * t9)) + u12)) (b := j117) (by omega) (by omega) c13
                        refine lv_iconst (v := 1) hx hb dX6_remove_135 (by decide) ?_
                        refine lv_istore (lv' := [(7, .int 1), (6, .int (nI j117)), (5, .int (nI (2 + 5 * t9))), (4, .int (fdr ((nI nb102)).toNatClampNeg)), (3, .int (nI nb102)), (0, .ref mo), (1, .int (nI t9)), (2, .int path)]) hx hb dX6_remove_136 hl (by decide) rfl (fun ls hl => ?_)
                        have hI0 : mI k Ml117 mo cn ia dr en la wo op mk ir se ec lc wc ol al dn md := ⟨_, _, _, _, _, _, _, fcn, fia, fdr, fen_2, fla, fwo, fop, fmk, fir_1, fse, fec, flc, fol, fal, fwc, hap, kmo_2, hmd, ⟨hrC, hrL, hrM⟩, kcn_2, kia_2, kdr_2, hen_2, kla_2, kwo_2, kop_2, kmk_2, kir_2, kse_2, kec_2, klc_2, kwc_2, kol_2, kal_2⟩
                        refine W_loop (σ := Nat × mM) (fun ⟨j138, Ml138⟩ H locs ls => (1 ≤ j138 ∧ j138 < 2147483000) ∧ (mI k Ml138 mo cn ia dr en la wo op mk ir se ec lc wc ol al dn md) ∧ (kpx (fun a => a ∈ [mo, cn, ia, dr, en, la, wo, op, mk, ir, se, ec, lc, wc, ol, al]) M Ml138) ∧ (kpx (fun a => a ∈ [en]) Ml117 Ml138) ∧ mm D (AZ z) Ml138 H ∧ va_S (AZ z) s.heap H locs ∧ lv_has ls 8 [(7, .int (nI j138)), (6, .int (nI j117)), (5, .int (nI (2 + 5 * t9))), (4, .int (fdr ((nI nb102)).toNatClampNeg)), (3, .int (nI nb102)), (0, .ref mo), (1, .int (nI t9)), (2, .int path)]) (fun ⟨j138, Ml138⟩ => 2147483648 - j138) (fun _ => 0) (fun _ => 0) ?_ (1, Ml117) _ _ _ ⟨⟨Nat.le_refl _, by omega⟩, hI0, hkp, (kpx.refl _ _), hm, hS, lv_sub hl [0, 1, 2, 3, 4, 5, 6, 7] rfl⟩
                        intro ⟨j138, Ml138⟩ H locs ls hQ ih138
                        obtain ⟨hj138, hI, hkp, hkl138, hm, hS, hl⟩ := hQ
                        try dsimp only at hm hl ih138 hj138 hI hkp hkl138 ⊢
                        obtain ⟨_, _, _, _, _, _, _, _, _, _, fen_5, _, _, _, _, _, _, _, _, _, _, _, -, -, hmd_5, ⟨-, -, -⟩, -, -, -, hen_5, -, -, -, -, -, -, -, -, -, -, -⟩ := id hI
                        have kmo_5 := hkl138 _ _ (by simp only [List.mem_cons, List.not_mem_nil, or_false, not_or]; exact ne_mo_en) kmo_2
                        have kcn_5 := hkl138 _ _ (by simp only [List.mem_cons, List.not_mem_nil, or_false, not_or]; exact ne_cn_en) kcn_2
                        have kia_5 := hkl138 _ _ (by simp only [List.mem_cons, List.not_mem_nil, or_false, not_or]; exact ne_ia_en) kia_2
                        have kdr_5 := hkl138 _ _ (by simp only [List.mem_cons, List.not_mem_nil, or_false, not_or]; exact ne_dr_en) kdr_2
                        have kla_5 := hkl138 _ _ (by simp only [List.mem_cons, List.not_mem_nil, or_false, not_or]; exact ne_la_en) kla_2
                        have kwo_5 := hkl138 _ _ (by simp only [List.mem_cons, List.not_mem_nil, or_false, not_or]; exact ne_wo_en) kwo_2
                        have kop_5 := hkl138 _ _ (by simp only [List.mem_cons, List.not_mem_nil, or_false, not_or]; exact ne_op_en) kop_2
                        have kmk_5 := hkl138 _ _ (by simp only [List.mem_cons, List.not_mem_nil, or_false, not_or]; exact ne_mk_en) kmk_2
                        have kir_5 := hkl138 _ _ (by simp only [List.mem_cons, List.not_mem_nil, or_false, not_or]; exact ne_ir_en) kir_2
                        have kse_5 := hkl138 _ _ (by simp only [List.mem_cons, List.not_mem_nil, or_false, not_or]; exact ne_se_en) kse_2
                        have kec_5 := hkl138 _ _ (by simp only [List.mem_cons, List.not_mem_nil, or_false, not_or]; exact ne_ec_en) kec_2
                        have klc_5 := hkl138 _ _ (by simp only [List.mem_cons, List.not_mem_nil, or_false, not_or]; exact ne_lc_en) klc_2
                        have kwc_5 := hkl138 _ _ (by simp only [List.mem_cons, List.not_mem_nil, or_false, not_or]; exact ne_wc_en) kwc_2
                        have kol_5 := hkl138 _ _ (by simp only [List.mem_cons, List.not_mem_nil, or_false, not_or]; exact ne_ol_en) kol_2
                        have kal_5 := hkl138 _ _ (by simp only [List.mem_cons, List.not_mem_nil, or_false, not_or]; exact ne_al_en) kal_2
                        have hkl117 := hkl117.trans (hkl138.mono (fun a ha => by simp only [List.mem_cons, List.not_mem_nil, or_false] at ha ⊢; subst ha; simp))
                        refine lv_iload hx hb dX6_remove_138 (lv_at hl 0 rfl) ?_
                        refine lv_bipush (v := 16) hx hb dX6_remove_140 (by decide) ?_
                        refine lv_icmp_ge (tgt := 203) hx hb dX6_remove_142 (by decide) (fun c16 => ?_) (fun c16 => ?_)
                        · have hqc16 : 16 ≤ j138 := nb_le (a := 16) (b := j138) (by omega) (by omega) c16
                          refine lv_iinc (v := ((nI j117) + 1)) (lv' := [(6, .int ((nI j117) + 1)), (7, .int (nI j138)), (5, .int (nI (2 + 5 * t9))), (4, .int (fdr ((nI nb102)).toNatClampNeg)), (3, .int (nI nb102)), (0, .ref mo), (1, .int (nI t9)), (2, .int path)]) hx hb dX6_remove_203 hl (k := 1) rfl rfl (by decide) rfl (fun ls hl => ?_)
                          refine lv_goto (tgt := 117) hx hb dX6_remove_206 (by decide) ?_
                          rw [nI_1] at hl
                          exact ih117 (j117 + 1, Ml138) _ _ _ ⟨⟨by omega, by omega⟩, ⟨_, _, _, _, _, _, _, fcn, fia, fdr, fen_5, fla, fwo, fop, fmk, fir_1, fse, fec, flc, fol, fal, fwc, hap, kmo_5, hmd, ⟨hrC, hrL, hrM⟩, kcn_5, kia_5, kdr_5, hen_5, kla_5, kwo_5, kop_5, kmk_5, kir_5, kse_5, kec_5, klc_5, kwc_5, kol_5, kal_5⟩, hkp, hkl117, hm, hS, lv_sub hl [0, 2, 3, 4, 5, 6, 7] rfl⟩ (by show 2147483648 - (j117 + 1) < 2147483648 - j117; omega)
                        · have hqc16 : j138 < 16 := nb_nle (a := 16) (b := j138) (by omega) (by omega) c16
                          refine lv_aload_n hx hb dX6_remove_145 rfl (lv_at hl 5 rfl) ?_
                          refine m_get (T := TX6) (N := 24) (ci := 6) (v := .ref en) hx hb hts wX6 hown hK hm kmo_5 rfl 4 (by decide) f21 (fun _ h9 => h9) rfl dX6_remove_146 ?_
                          refine lv_bipush (v := 16) hx hb dX6_remove_149 (by decide) ?_
                          refine lv_iload hx hb dX6_remove_151 (lv_at hl 1 rfl) ?_
                          refine lv_imul hx hb dX6_remove_153 ?_
                          refine W.eq (g2 := F0 m 154 ls [.int (nI (16 * j117)), .ref en]) (by rw [show ((16) * ((nI j117)) : Int32) = nI (16 * j117) from pk_mul 16 j117]) ?_
                          refine lv_iload hx hb dX6_remove_154 (lv_at hl 0 rfl) ?_
                          refine lv_iadd hx hb dX6_remove_156 ?_
                          refine W.eq (g2 := F0 m 157 ls [.int (nI ((16 * j117) + j138)), .ref en]) (by rw [show (((nI (16 * j117))) + ((nI j138)) : Int32) = nI ((16 * j117) + j138) from nI_add (16 * j117) j138]) ?_
                          refine lv_aload_n hx hb dX6_remove_157 rfl (lv_at hl 5 rfl) ?_
                          refine m_get (T := TX6) (N := 24) (ci := 6) (v := .ref en) hx hb hts wX6 hown hK hm kmo_5 rfl 4 (by decide) f21 (fun _ h9 => h9) rfl dX6_remove_158 ?_
                          refine lv_bipush (v := 16) hx hb dX6_remove_161 (by decide) ?_
                          refine lv_iload hx hb dX6_remove_163 (lv_at hl 1 rfl) ?_
                          refine lv_imul hx hb dX6_remove_165 ?_
                          refine W.eq (g2 := F0 m 166 ls [.int (nI (16 * j117)), .ref en, .int (nI ((16 * j117) + j138)), .ref en]) (by rw [show ((16) * ((nI j117)) : Int32) = nI (16 * j117) from pk_mul 16 j117]) ?_
                          refine lv_iload hx hb dX6_remove_166 (lv_at hl 0 rfl) ?_
                          refine lv_iadd hx hb dX6_remove_168 ?_
                          refine W.eq (g2 := F0 m 169 ls [.int (nI ((16 * j117) + j138)), .ref en, .int (nI ((16 * j117) + j138)), .ref en]) (by rw [show (((nI (16 * j117))) + ((nI j138)) : Int32) = nI ((16 * j117) + j138) from nI_add (16 * j117) j138]) ?_
                          refine m_iald hx hb hK hm 0 hen_5 rfl (vp_in_nI (by omega) (by decide)) dX6_remove_169 ?_
                          refine lv_aload_n hx hb dX6_remove_170 rfl (lv_at hl 5 rfl) ?_
                          refine m_get (T := TX6) (N := 24) (ci := 6) (v := .ref ia) hx hb hts wX6 hown hK hm kmo_5 rfl 2 (by decide) f13 (fun _ h9 => h9) rfl dX6_remove_171 ?_
                          refine lv_iload_n hx hb dX6_remove_174 rfl (lv_at hl 4 rfl) ?_
                          refine m_iald hx hb hK hm 0 kia_5 rfl (vp_in_nI (by omega) (by decide)) dX6_remove_175 ?_
                          refine lv_icmp_ne (tgt := 183) hx hb dX6_remove_176 (by decide) (fun c17 => ?_) (fun c17 => ?_)
                          · refine lv_aload_n hx hb dX6_remove_183 rfl (lv_at hl 5 rfl) ?_
                            refine m_get (T := TX6) (N := 24) (ci := 6) (v := .ref en) hx hb hts wX6 hown hK hm kmo_5 rfl 4 (by decide) f21 (fun _ h9 => h9) rfl dX6_remove_184 ?_
                            refine lv_bipush (v := 16) hx hb dX6_remove_187 (by decide) ?_
                            refine lv_iload hx hb dX6_remove_189 (lv_at hl 1 rfl) ?_
                            refine lv_imul hx hb dX6_remove_191 ?_
                            refine W.eq (g2 := F0 m 192 ls [.int (nI (16 * j117)), .ref en, .int (nI ((16 * j117) + j138)), .ref en]) (by rw [show ((16) * ((nI j117)) : Int32) = nI (16 * j117) from pk_mul 16 j117]) ?_
                            refine lv_iload hx hb dX6_remove_192 (lv_at hl 0 rfl) ?_
                            refine lv_iadd hx hb dX6_remove_194 ?_
                            refine W.eq (g2 := F0 m 195 ls [.int (nI ((16 * j117) + j138)), .ref en, .int (nI ((16 * j117) + j138)), .ref en]) (by rw [show (((nI (16 * j117))) + ((nI j138)) : Int32) = nI ((16 * j117) + j138) from nI_add (16 * j117) j138]) ?_
                            refine m_iald hx hb hK hm 0 hen_5 rfl (vp_in_nI (by omega) (by decide)) dX6_remove_195 ?_
                            refine m_iast hx hb hK hm hS 0 hen_5 rfl (vp_in_nI (by omega) (by decide)) dX6_remove_196 (fun H locs hm hS => ?_)
                            have hm : mm D (AZ z) (mu Ml138 en (.inl (k 0, 51200, .inl (upd fen_5 ((nI ((16 * j117) + j138))).toNatClampNeg (fen_5 ((nI ((16 * j117) + j138))).toNatClampNeg))))) H := hm
                            have hkp : kpx (fun a => a ∈ [mo, cn, ia, dr, en, la, wo, op, mk, ir, se, ec, lc, wc, ol, al]) M (mu Ml138 en (.inl (k 0, 51200, .inl (upd fen_5 ((nI ((16 * j117) + j138))).toNatClampNeg (fen_5 ((nI ((16 * j117) + j138))).toNatClampNeg))))) := (hkp).self (by simp)
                            have hkl117 : kpx (fun a => a ∈ [en]) (mu Mc1 mo (.inr (6, [.int 0, .ref cn, .ref ia, .ref dr, .ref en, .ref la, .ref wo, .int ni, .ref op, .ref mk, .ref ir, .int dn, .int md, .int pw, .int cm, .int wr, .ref se, .ref ec, .ref lc, .ref wc, .ref ol, .ref al, .int cs, .int hm9]))) (mu Ml138 en (.inl (k 0, 51200, .inl (upd fen_5 ((nI ((16 * j117) + j138))).toNatClampNeg (fen_5 ((nI ((16 * j117) + j138))).toNatClampNeg))))) := hkl117.self (by simp)
                            have hkl138 : kpx (fun a => a ∈ [en]) Ml117 (mu Ml138 en (.inl (k 0, 51200, .inl (upd fen_5 ((nI ((16 * j117) + j138))).toNatClampNeg (fen_5 ((nI ((16 * j117) + j138))).toNatClampNeg))))) := hkl138.self (by simp)
                            refine lv_iinc (v := ((nI j138) + 1)) (lv' := [(7, .int ((nI j138) + 1)), (6, .int (nI j117)), (5, .int (nI (2 + 5 * t9))), (4, .int (fdr ((nI nb102)).toNatClampNeg)), (3, .int (nI nb102)), (0, .ref mo), (1, .int (nI t9)), (2, .int path)]) hx hb dX6_remove_197 hl (k := 0) rfl rfl (by decide) rfl (fun ls hl => ?_)
                            refine lv_goto (tgt := 138) hx hb dX6_remove_200 (by decide) ?_
                            rw [nI_1] at hl
                            exact ih138 (j138 + 1, (mu Ml138 en (.inl (k 0, 51200, .inl (upd fen_5 ((nI ((16 * j117) + j138))).toNatClampNeg (fen_5 ((nI ((16 * j117) + j138))).toNatClampNeg)))))) _ _ _ ⟨⟨by omega, by omega⟩, ⟨_, _, _, _, _, _, _, fcn, fia, fdr, (upd fen_5 ((nI ((16 * j117) + j138))).toNatClampNeg (fen_5 ((nI ((16 * j117) + j138))).toNatClampNeg)), fla, fwo, fop, fmk, fir_1, fse, fec, flc, fol, fal, fwc, hap, ((mu_ne ne_mo_en).trans kmo_5), hmd, ⟨hrC, hrL, hrM⟩, ((mu_ne ne_cn_en).trans kcn_5), ((mu_ne ne_ia_en).trans kia_5), ((mu_ne ne_dr_en).trans kdr_5), (mu_self _ _ _), ((mu_ne ne_la_en).trans kla_5), ((mu_ne ne_wo_en).trans kwo_5), ((mu_ne ne_op_en).trans kop_5), ((mu_ne ne_mk_en).trans kmk_5), ((mu_ne ne_ir_en).trans kir_5), ((mu_ne ne_se_en).trans kse_5), ((mu_ne ne_ec_en).trans kec_5), ((mu_ne ne_lc_en).trans klc_5), ((mu_ne ne_wc_en).trans kwc_5), ((mu_ne ne_ol_en).trans kol_5), ((mu_ne ne_al_en).trans kal_5)⟩, hkp, hkl138, hm, hS, lv_sub hl [0, 1, 2, 3, 4, 5, 6, 7] rfl⟩ (by show 2147483648 - (j138 + 1) < 2147483648 - j138; omega)
                          · refine lv_iconst (v := 0) hx hb dX6_remove_179 (by decide) ?_
                            refine lv_goto (tgt := 196) hx hb dX6_remove_180 (by decide) ?_
                            refine m_iast hx hb hK hm hS 0 hen_5 rfl (vp_in_nI (by omega) (by decide)) dX6_remove_196 (fun H locs hm hS => ?_)
                            have hm : mm D (AZ z) (mu Ml138 en (.inl (k 0, 51200, .inl (upd fen_5 ((nI ((16 * j117) + j138))).toNatClampNeg 0)))) H := hm
                            have hkp : kpx (fun a => a ∈ [mo, cn, ia, dr, en, la, wo, op, mk, ir, se, ec, lc, wc, ol, al]) M (mu Ml138 en (.inl (k 0, 51200, .inl (upd fen_5 ((nI ((16 * j117) + j138))).toNatClampNeg 0)))) := (hkp).self (by simp)
                            have hkl117 : kpx (fun a => a ∈ [en]) (mu Mc1 mo (.inr (6, [.int 0, .ref cn, .ref ia, .ref dr, .ref en, .ref la, .ref wo, .int ni, .ref op, .ref mk, .ref ir, .int dn, .int md, .int pw, .int cm, .int wr, .ref se, .ref ec, .ref lc, .ref wc, .ref ol, .ref al, .int cs, .int hm9]))) (mu Ml138 en (.inl (k 0, 51200, .inl (upd fen_5 ((nI ((16 * j117) + j138))).toNatClampNeg 0)))) := hkl117.self (by simp)
                            have hkl138 : kpx (fun a => a ∈ [en]) Ml117 (mu Ml138 en (.inl (k 0, 51200, .inl (upd fen_5 ((nI ((16 * j117) + j138))).toNatClampNeg 0)))) := hkl138.self (by simp)
                            refine lv_iinc (v := ((nI j138) + 1)) (lv' := [(7, .int ((nI j138) + 1)), (6, .int (nI j117)), (5, .int (nI (2 + 5 * t9))), (4, .int (fdr ((nI nb102)).toNatClampNeg)), (3, .int (nI nb102)), (0, .ref mo), (1, .int (nI t9)), (2, .int path)]) hx hb dX6_remove_197 hl (k := 0) rfl rfl (by decide) rfl (fun ls hl => ?_)
                            refine lv_goto (tgt := 138) hx hb dX6_remove_200 (by decide) ?_
                            rw [nI_1] at hl
                            exact ih138 (j138 + 1, (mu Ml138 en (.inl (k 0, 51200, .inl (upd fen_5 ((nI ((16 * j117) + j138))).toNatClampNeg 0))))) _ _ _ ⟨⟨by omega, by omega⟩, ⟨_, _, _, _, _, _, _, fcn, fia, fdr, (upd fen_5 ((nI ((16 * j117) + j138))).toNatClampNeg 0), fla, fwo, fop, fmk, fir_1, fse, fec, flc, fol, fal, fwc, hap, ((mu_ne ne_mo_en).trans kmo_5), hmd, ⟨hrC, hrL, hrM⟩, ((mu_ne ne_cn_en).trans kcn_5), ((mu_ne ne_ia_en).trans kia_5), ((mu_ne ne_dr_en).trans kdr_5), (mu_self _ _ _), ((mu_ne ne_la_en).trans kla_5), ((mu_ne ne_wo_en).trans kwo_5), ((mu_ne ne_op_en).trans kop_5), ((mu_ne ne_mk_en).trans kmk_5), ((mu_ne ne_ir_en).trans kir_5), ((mu_ne ne_se_en).trans kse_5), ((mu_ne ne_ec_en).trans kec_5), ((mu_ne ne_lc_en).trans klc_5), ((mu_ne ne_wc_en).trans kwc_5), ((mu_ne ne_ol_en).trans kol_5), ((mu_ne ne_al_en).trans kal_5)⟩, hkp, hkl138, hm, hS, lv_sub hl [0, 1, 2, 3, 4, 5, 6, 7] rfl⟩ (by show 2147483648 - (j138 + 1) < 2147483648 - j138; omega)
                    · refine lv_aload_n hx hb dX6_remove_75 rfl (lv_at hl 2 rfl) ?_
                      refine lv_iload_n hx hb dX6_remove_76 rfl (lv_at hl 3 rfl) ?_
                      refine lv_iload_n hx hb dX6_remove_77 rfl (lv_at hl 1 rfl) ?_
                      have hI0 : mI k (mu Mc1 mo (.inr (6, [.int 0, .ref cn, .ref ia, .ref dr, .ref en, .ref la, .ref wo, .int ni, .ref op, .ref mk, .ref ir, .int dn, .int md, .int pw, .int cm, .int wr, .ref se, .ref ec, .ref lc, .ref wc, .ref ol, .ref al, .int cs, .int hm9]))) mo cn ia dr en la wo op mk ir se ec lc wc ol al dn md := ⟨_, _, _, _, _, _, _, fcn, fia, fdr, fen, fla, fwo, fop, fmk, fir_1, fse, fec, flc, fol, fal, fwc, hap, (mu_self _ _ _), hmd, ⟨hrC, hrL, hrM⟩, ((mu_ne ne_cn_mo).trans kcn_1), ((mu_ne ne_ia_mo).trans kia_1), ((mu_ne ne_dr_mo).trans kdr_1), ((mu_ne ne_en_mo).trans ken_1), ((mu_ne ne_la_mo).trans kla_1), ((mu_ne ne_wo_mo).trans kwo_1), ((mu_ne ne_op_mo).trans kop_1), ((mu_ne ne_mk_mo).trans kmk_1), ((mu_ne ne_ir_mo).trans hir_1), ((mu_ne ne_se_mo).trans kse_1), ((mu_ne ne_ec_mo).trans kec_1), ((mu_ne ne_lc_mo).trans klc_1), ((mu_ne ne_wc_mo).trans kwc_1), ((mu_ne ne_ol_mo).trans kol_1), ((mu_ne ne_al_mo).trans kal_1)⟩
                      refine m_kV (As := [.int (nI t9), .int (nI nb102)]) (rest := []) (rm := { frames := 2, cells := 0, slots := 0, locals := 48 }) ⟨hx, hb, hml, hown, hts⟩ (x_X6_lookAtAll l D k z _ mo cn ia dr en la wo op mk ir se ec lc wc ol al dn md t9 nb102 (by omega) (by omega) hI0) (cwV 2 hts gX6_remove_X6_lookAtAll rfl rfl rfl (by decide +kernel) ⟨Nat.le_of_ble_eq_true rfl, Nat.le_of_ble_eq_true rfl⟩) (m_recv hK hm (q := (RX6, TX6, 24)) rfl (mu_self _ _ _)) hz hcx hm hS rfl hl.1 rfl (Nat.le_of_ble_eq_true rfl) dX6_remove_78 ⟨Nat.le_of_ble_eq_true rfl, Nat.le_of_ble_eq_true rfl⟩ (fun v M1 H locs hv hm hS => ?_)
                      obtain ⟨hv1, hI9, hk9⟩ := hv
                      obtain ⟨_, _, _, _, _, _, _, _, _, _, _, _, _, _, _, fir_6, _, _, _, _, _, _, -, -, hmd_6, ⟨-, -, -⟩, -, -, -, -, -, -, -, -, hir_6, -, -, -, -, -, -⟩ := id hI9
                      have kmo_6 := hk9 _ _ (by simp only [List.mem_cons, List.not_mem_nil, or_false, not_or]; exact ne_mo_ir) (mu_self _ _ _)
                      have kcn_6 := hk9 _ _ (by simp only [List.mem_cons, List.not_mem_nil, or_false, not_or]; exact ne_cn_ir) ((mu_ne ne_cn_mo).trans kcn_1)
                      have kia_6 := hk9 _ _ (by simp only [List.mem_cons, List.not_mem_nil, or_false, not_or]; exact ne_ia_ir) ((mu_ne ne_ia_mo).trans kia_1)
                      have kdr_6 := hk9 _ _ (by simp only [List.mem_cons, List.not_mem_nil, or_false, not_or]; exact ne_dr_ir) ((mu_ne ne_dr_mo).trans kdr_1)
                      have ken_6 := hk9 _ _ (by simp only [List.mem_cons, List.not_mem_nil, or_false, not_or]; exact ne_en_ir) ((mu_ne ne_en_mo).trans ken_1)
                      have kla_6 := hk9 _ _ (by simp only [List.mem_cons, List.not_mem_nil, or_false, not_or]; exact ne_la_ir) ((mu_ne ne_la_mo).trans kla_1)
                      have kwo_6 := hk9 _ _ (by simp only [List.mem_cons, List.not_mem_nil, or_false, not_or]; exact ne_wo_ir) ((mu_ne ne_wo_mo).trans kwo_1)
                      have kop_6 := hk9 _ _ (by simp only [List.mem_cons, List.not_mem_nil, or_false, not_or]; exact ne_op_ir) ((mu_ne ne_op_mo).trans kop_1)
                      have kmk_6 := hk9 _ _ (by simp only [List.mem_cons, List.not_mem_nil, or_false, not_or]; exact ne_mk_ir) ((mu_ne ne_mk_mo).trans kmk_1)
                      have kse_6 := hk9 _ _ (by simp only [List.mem_cons, List.not_mem_nil, or_false, not_or]; exact ne_se_ir) ((mu_ne ne_se_mo).trans kse_1)
                      have kec_6 := hk9 _ _ (by simp only [List.mem_cons, List.not_mem_nil, or_false, not_or]; exact ne_ec_ir) ((mu_ne ne_ec_mo).trans kec_1)
                      have klc_6 := hk9 _ _ (by simp only [List.mem_cons, List.not_mem_nil, or_false, not_or]; exact ne_lc_ir) ((mu_ne ne_lc_mo).trans klc_1)
                      have kwc_6 := hk9 _ _ (by simp only [List.mem_cons, List.not_mem_nil, or_false, not_or]; exact ne_wc_ir) ((mu_ne ne_wc_mo).trans kwc_1)
                      have kol_6 := hk9 _ _ (by simp only [List.mem_cons, List.not_mem_nil, or_false, not_or]; exact ne_ol_ir) ((mu_ne ne_ol_mo).trans kol_1)
                      have kal_6 := hk9 _ _ (by simp only [List.mem_cons, List.not_mem_nil, or_false, not_or]; exact ne_al_ir) ((mu_ne ne_al_mo).trans kal_1)
                      have hkp := hkp.trans (hk9.mono (fun a ha => by simp only [List.mem_cons, List.not_mem_nil, or_false] at ha ⊢; subst ha; simp))
                      obtain ⟨Mc3, hMx⟩ : ∃ x : mM, x = M1 := ⟨M1, rfl⟩
                      subst hMx
                      subst hv1
                      refine W.eq (g2 := F0 m 81 ls []) rfl ?_
                      refine W.widen (k := 0) (n := 0) (Nat.le_of_ble_eq_true rfl) (Nat.le_of_ble_eq_true rfl) ?_
                      have hm : mm D (AZ z) Mc3 H := hm
                      refine lv_aload_n hx hb dX6_remove_81 rfl (lv_at hl 2 rfl) ?_
                      refine lv_aload_n hx hb dX6_remove_82 rfl (lv_at hl 2 rfl) ?_
                      refine lv_iload_n hx hb dX6_remove_83 rfl (lv_at hl 1 rfl) ?_
                      have hI0 : mI k Mc3 mo cn ia dr en la wo op mk ir se ec lc wc ol al dn md := ⟨_, _, _, _, _, _, _, fcn, fia, fdr, fen, fla, fwo, fop, fmk, fir_6, fse, fec, flc, fol, fal, fwc, hap, kmo_6, hmd, ⟨hrC, hrL, hrM⟩, kcn_6, kia_6, kdr_6, ken_6, kla_6, kwo_6, kop_6, kmk_6, hir_6, kse_6, kec_6, klc_6, kwc_6, kol_6, kal_6⟩
                      refine m_kV (As := [.int (nI nb102)]) (rest := [.ref mo]) (rm := { frames := 0, cells := 0, slots := 0, locals := 0 }) ⟨hx, hb, hml, hown, hts⟩ (s_X6_namesOf l D k z _ mo cn ia dr en la wo op mk ir se ec lc wc ol al dn md nb102 (by omega) hI0) (cwV 1 hts gX6_remove_X6_namesOf rfl rfl rfl (by decide +kernel) ⟨Nat.le_of_ble_eq_true rfl, Nat.le_of_ble_eq_true rfl⟩) (m_recv hK hm (q := (RX6, TX6, 24)) rfl kmo_6) hz hcx hm hS rfl hl.1 rfl (Nat.le_of_ble_eq_true rfl) dX6_remove_84 ⟨Nat.le_of_ble_eq_true rfl, Nat.le_of_ble_eq_true rfl⟩ (fun v M1 H locs hv hm hS => ?_)
                      obtain ⟨⟨w18, hv1⟩, hM1⟩ := hv
                      rw [hM1] at hm
                      subst hv1
                      refine W.eq (g2 := F0 m 87 ls [.int w18, .ref mo]) rfl ?_
                      refine W.widen (k := 0) (n := 0) (Nat.le_of_ble_eq_true rfl) (Nat.le_of_ble_eq_true rfl) ?_
                      have hm : mm D (AZ z) Mc3 H := hm
                      refine lv_if_eq (tgt := 94) hx hb dX6_remove_87 (by decide) (fun c19 => ?_) (fun c19 => ?_)
                      · refine lv_iconst (v := 0) hx hb dX6_remove_94 (by decide) ?_
                        refine m_kV (As := [.int 0]) (rest := []) (rm := { frames := 0, cells := 0, slots := 0, locals := 0 }) ⟨hx, hb, hml, hown, hts⟩ (s_X6_failsE l D k z _ mo cn ia dr en la wo op mk ir se ec lc wc ol al 0 ni dn md pw cm wr cs hm9 0 kmo_6) (cwV 1 hts gX6_remove_X6_fails rfl rfl rfl (by decide +kernel) ⟨Nat.le_of_ble_eq_true rfl, Nat.le_of_ble_eq_true rfl⟩) (m_recv hK hm (q := (RX6, TX6, 24)) rfl kmo_6) hz hcx hm hS rfl hl.1 rfl (Nat.le_of_ble_eq_true rfl) dX6_remove_95 ⟨Nat.le_of_ble_eq_true rfl, Nat.le_of_ble_eq_true rfl⟩ (fun v M1 H locs hv hm hS => ?_)
                        obtain ⟨hv1, hM1⟩ := hv
                        have hv1 : v = some (.int 0) := hv1.trans (by decide)
                        subst hv1
                        rw [hM1] at hm
                        refine W.eq (g2 := F0 m 98 ls [.int 0]) rfl ?_
                        refine W.widen (k := 0) (n := 0) (Nat.le_of_ble_eq_true rfl) (Nat.le_of_ble_eq_true rfl) ?_
                        have hm : mm D (AZ z) (mu Mc3 mo (.inr (6, [.int 0, .ref cn, .ref ia, .ref dr, .ref en, .ref la, .ref wo, .int ni, .ref op, .ref mk, .ref ir, .int dn, .int md, .int pw, .int cm, .int wr, .ref se, .ref ec, .ref lc, .ref wc, .ref ol, .ref al, .int cs, .int hm9]))) H := hm
                        have hkp : kpx (fun a => a ∈ [mo, cn, ia, dr, en, la, wo, op, mk, ir, se, ec, lc, wc, ol, al]) M (mu Mc3 mo (.inr (6, [.int 0, .ref cn, .ref ia, .ref dr, .ref en, .ref la, .ref wo, .int ni, .ref op, .ref mk, .ref ir, .int dn, .int md, .int pw, .int cm, .int wr, .ref se, .ref ec, .ref lc, .ref wc, .ref ol, .ref al, .int cs, .int hm9]))) := (hkp).self (by simp)
                        refine lv_if_eq (tgt := 103) hx hb dX6_remove_98 (by decide) (fun c20 => ?_) (fun c20 => ?_)
                        · refine lv_aload_n hx hb dX6_remove_103 rfl (lv_at hl 2 rfl) ?_
                          refine lv_iload_n hx hb dX6_remove_104 rfl (lv_at hl 3 rfl) ?_
                          have hI0 : mI k (mu Mc3 mo (.inr (6, [.int 0, .ref cn, .ref ia, .ref dr, .ref en, .ref la, .ref wo, .int ni, .ref op, .ref mk, .ref ir, .int dn, .int md, .int pw, .int cm, .int wr, .ref se, .ref ec, .ref lc, .ref wc, .ref ol, .ref al, .int cs, .int hm9]))) mo cn ia dr en la wo op mk ir se ec lc wc ol al dn md := ⟨_, _, _, _, _, _, _, fcn, fia, fdr, fen, fla, fwo, fop, fmk, fir_6, fse, fec, flc, fol, fal, fwc, hap, (mu_self _ _ _), hmd, ⟨hrC, hrL, hrM⟩, ((mu_ne ne_cn_mo).trans kcn_6), ((mu_ne ne_ia_mo).trans kia_6), ((mu_ne ne_dr_mo).trans kdr_6), ((mu_ne ne_en_mo).trans ken_6), ((mu_ne ne_la_mo).trans kla_6), ((mu_ne ne_wo_mo).trans kwo_6), ((mu_ne ne_op_mo).trans kop_6), ((mu_ne ne_mk_mo).trans kmk_6), ((mu_ne ne_ir_mo).trans hir_6), ((mu_ne ne_se_mo).trans kse_6), ((mu_ne ne_ec_mo).trans kec_6), ((mu_ne ne_lc_mo).trans klc_6), ((mu_ne ne_wc_mo).trans kwc_6), ((mu_ne ne_ol_mo).trans kol_6), ((mu_ne ne_al_mo).trans kal_6)⟩
                          refine m_kV (As := [.int (nI t9)]) (rest := []) (rm := { frames := 0, cells := 0, slots := 0, locals := 0 }) ⟨hx, hb, hml, hown, hts⟩ (s_X6_tree l D k z _ mo cn ia dr en la wo op mk ir se ec lc wc ol al dn md t9 (by omega) hI0) (cwV 1 hts gX6_remove_X6_tree rfl rfl rfl (by decide +kernel) ⟨Nat.le_of_ble_eq_true rfl, Nat.le_of_ble_eq_true rfl⟩) (m_recv hK hm (q := (RX6, TX6, 24)) rfl (mu_self _ _ _)) hz hcx hm hS rfl hl.1 rfl (Nat.le_of_ble_eq_true rfl) dX6_remove_105 ⟨Nat.le_of_ble_eq_true rfl, Nat.le_of_ble_eq_true rfl⟩ (fun v M1 H locs hv hm hS => ?_)
                          obtain ⟨hv1, hM1⟩ := hv
                          subst hv1
                          rw [hM1] at hm
                          refine W.eq (g2 := F0 m 108 ls [.int (nI (2 + 5 * t9))]) rfl ?_
                          refine W.widen (k := 0) (n := 0) (Nat.le_of_ble_eq_true rfl) (Nat.le_of_ble_eq_true rfl) ?_
                          have hm : mm D (AZ z) (mu Mc3 mo (.inr (6, [.int 0, .ref cn, .ref ia, .ref dr, .ref en, .ref la, .ref wo, .int ni, .ref op, .ref mk, .ref ir, .int dn, .int md, .int pw, .int cm, .int wr, .ref se, .ref ec, .ref lc, .ref wc, .ref ol, .ref al, .int cs, .int hm9]))) H := hm
                          refine lv_istore (lv' := [(5, .int (nI (2 + 5 * t9))), (4, .int (fdr ((nI nb102)).toNatClampNeg)), (3, .int (nI nb102)), (0, .ref mo), (1, .int (nI t9)), (2, .int path)]) hx hb dX6_remove_108 hl (by decide) rfl (fun ls hl => ?_)
                          refine lv_bipush (v := 100) hx hb dX6_remove_110 (by decide) ?_
                          refine lv_iload hx hb dX6_remove_112 (lv_at hl 0 rfl) ?_
                          refine lv_imul hx hb dX6_remove_114 ?_
                          refine W.eq (g2 := F0 m 115 ls [.int (nI (100 * (2 + 5 * t9)))]) (by rw [show ((100) * ((nI (2 + 5 * t9))) : Int32) = nI (100 * (2 + 5 * t9)) from pk_mul 100 (2 + 5 * t9)]) ?_
                          refine lv_istore (lv' := [(6, .int (nI (100 * (2 + 5 * t9)))), (5, .int (nI (2 + 5 * t9))), (4, .int (fdr ((nI nb102)).toNatClampNeg)), (3, .int (nI nb102)), (0, .ref mo), (1, .int (nI t9)), (2, .int path)]) hx hb dX6_remove_115 hl (by decide) rfl (fun ls hl => ?_)
                          have hI0 : mI k (mu Mc3 mo (.inr (6, [.int 0, .ref cn, .ref ia, .ref dr, .ref en, .ref la, .ref wo, .int ni, .ref op, .ref mk, .ref ir, .int dn, .int md, .int pw, .int cm, .int wr, .ref se, .ref ec, .ref lc, .ref wc, .ref ol, .ref al, .int cs, .int hm9]))) mo cn ia dr en la wo op mk ir se ec lc wc ol al dn md := ⟨_, _, _, _, _, _, _, fcn, fia, fdr, fen, fla, fwo, fop, fmk, fir_6, fse, fec, flc, fol, fal, fwc, hap, (mu_self _ _ _), hmd, ⟨hrC, hrL, hrM⟩, ((mu_ne ne_cn_mo).trans kcn_6), ((mu_ne ne_ia_mo).trans kia_6), ((mu_ne ne_dr_mo).trans kdr_6), ((mu_ne ne_en_mo).trans ken_6), ((mu_ne ne_la_mo).trans kla_6), ((mu_ne ne_wo_mo).trans kwo_6), ((mu_ne ne_op_mo).trans kop_6), ((mu_ne ne_mk_mo).trans kmk_6), ((mu_ne ne_ir_mo).trans hir_6), ((mu_ne ne_se_mo).trans kse_6), ((mu_ne ne_ec_mo).trans kec_6), ((mu_ne ne_lc_mo).trans klc_6), ((mu_ne ne_wc_mo).trans kwc_6), ((mu_ne ne_ol_mo).trans kol_6), ((mu_ne ne_al_mo).trans kal_6)⟩
                          refine W_loop (σ := Nat × mM) (fun ⟨j117, Ml117⟩ H locs ls => ((100 * (2 + 5 * t9)) ≤ j117 ∧ j117 < 2147483000) ∧ (mI k Ml117 mo cn ia dr en la wo op mk ir se ec lc wc ol al dn md) ∧ (kpx (fun a => a ∈ [mo, cn, ia, dr, en, la, wo, op, mk, ir, se, ec, lc, wc, ol, al]) M Ml117) ∧ (kpx (fun a => a ∈ [en]) (mu Mc3 mo (.inr (6, [.int 0, .ref cn, .ref ia, .ref dr, .ref en, .ref la, .ref wo, .int ni, .ref op, .ref mk, .ref ir, .int dn, .int md, .int pw, .int cm, .int wr, .ref se, .ref ec, .ref lc, .ref wc, .ref ol, .ref al, .int cs, .int hm9]))) Ml117) ∧ mm D (AZ z) Ml117 H ∧ va_S (AZ z) s.heap H locs ∧ lv_has ls 8 [(6, .int (nI j117)), (5, .int (nI (2 + 5 * t9))), (4, .int (fdr ((nI nb102)).toNatClampNeg)), (3, .int (nI nb102)), (0, .ref mo), (1, .int (nI t9)), (2, .int path)]) (fun ⟨j117, Ml117⟩ => 2147483648 - j117) (fun _ => 0) (fun _ => 0) ?_ ((100 * (2 + 5 * t9)), (mu Mc3 mo (.inr (6, [.int 0, .ref cn, .ref ia, .ref dr, .ref en, .ref la, .ref wo, .int ni, .ref op, .ref mk, .ref ir, .int dn, .int md, .int pw, .int cm, .int wr, .ref se, .ref ec, .ref lc, .ref wc, .ref ol, .ref al, .int cs, .int hm9])))) _ _ _ ⟨⟨Nat.le_refl _, by omega⟩, hI0, hkp, (kpx.refl _ _), hm, hS, lv_sub hl [0, 1, 2, 3, 4, 5, 6] rfl⟩
                          intro ⟨j117, Ml117⟩ H locs ls hQ ih117
                          obtain ⟨hj117, hI, hkp, hkl117, hm, hS, hl⟩ := hQ
                          try dsimp only at hm hl ih117 hj117 hI hkp hkl117 ⊢
                          obtain ⟨_, _, _, _, _, _, _, _, _, _, fen_7, _, _, _, _, _, _, _, _, _, _, _, -, -, hmd_7, ⟨-, -, -⟩, -, -, -, hen_7, -, -, -, -, -, -, -, -, -, -, -⟩ := id hI
                          have kmo_7 := hkl117 _ _ (by simp only [List.mem_cons, List.not_mem_nil, or_false, not_or]; exact ne_mo_en) (mu_self _ _ _)
                          have kcn_7 := hkl117 _ _ (by simp only [List.mem_cons, List.not_mem_nil, or_false, not_or]; exact ne_cn_en) ((mu_ne ne_cn_mo).trans kcn_6)
                          have kia_7 := hkl117 _ _ (by simp only [List.mem_cons, List.not_mem_nil, or_false, not_or]; exact ne_ia_en) ((mu_ne ne_ia_mo).trans kia_6)
                          have kdr_7 := hkl117 _ _ (by simp only [List.mem_cons, List.not_mem_nil, or_false, not_or]; exact ne_dr_en) ((mu_ne ne_dr_mo).trans kdr_6)
                          have kla_7 := hkl117 _ _ (by simp only [List.mem_cons, List.not_mem_nil, or_false, not_or]; exact ne_la_en) ((mu_ne ne_la_mo).trans kla_6)
                          have kwo_7 := hkl117 _ _ (by simp only [List.mem_cons, List.not_mem_nil, or_false, not_or]; exact ne_wo_en) ((mu_ne ne_wo_mo).trans kwo_6)
                          have kop_7 := hkl117 _ _ (by simp only [List.mem_cons, List.not_mem_nil, or_false, not_or]; exact ne_op_en) ((mu_ne ne_op_mo).trans kop_6)
                          have kmk_7 := hkl117 _ _ (by simp only [List.mem_cons, List.not_mem_nil, or_false, not_or]; exact ne_mk_en) ((mu_ne ne_mk_mo).trans kmk_6)
                          have kir_7 := hkl117 _ _ (by simp only [List.mem_cons, List.not_mem_nil, or_false, not_or]; exact ne_ir_en) ((mu_ne ne_ir_mo).trans hir_6)
                          have kse_7 := hkl117 _ _ (by simp only [List.mem_cons, List.not_mem_nil, or_false, not_or]; exact ne_se_en) ((mu_ne ne_se_mo).trans kse_6)
                          have kec_7 := hkl117 _ _ (by simp only [List.mem_cons, List.not_mem_nil, or_false, not_or]; exact ne_ec_en) ((mu_ne ne_ec_mo).trans kec_6)
                          have klc_7 := hkl117 _ _ (by simp only [List.mem_cons, List.not_mem_nil, or_false, not_or]; exact ne_lc_en) ((mu_ne ne_lc_mo).trans klc_6)
                          have kwc_7 := hkl117 _ _ (by simp only [List.mem_cons, List.not_mem_nil, or_false, not_or]; exact ne_wc_en) ((mu_ne ne_wc_mo).trans kwc_6)
                          have kol_7 := hkl117 _ _ (by simp only [List.mem_cons, List.not_mem_nil, or_false, not_or]; exact ne_ol_en) ((mu_ne ne_ol_mo).trans kol_6)
                          have kal_7 := hkl117 _ _ (by simp only [List.mem_cons, List.not_mem_nil, or_false, not_or]; exact ne_al_en) ((mu_ne ne_al_mo).trans kal_6)
                          refine lv_iload hx hb dX6_remove_117 (lv_at hl 0 rfl) ?_
                          refine lv_bipush (v := 100) hx hb dX6_remove_119 (by decide) ?_
                          refine lv_iload hx hb dX6_remove_121 (lv_at hl 1 rfl) ?_
                          refine lv_imul hx hb dX6_remove_123 ?_
                          refine W.eq (g2 := F0 m 124 ls [.int (nI (100 * (2 + 5 * t9))), .int (nI j117)]) (by rw [show ((100) * ((nI (2 + 5 * t9))) : Int32) = nI (100 * (2 + 5 * t9)) from pk_mul 100 (2 + 5 * t9)]) ?_
                          refine lv_aload_n hx hb dX6_remove_124 rfl (lv_at hl 4 rfl) ?_
                          refine m_get (T := TX6) (N := 24) (ci := 6) (v := .ref cn) hx hb hts wX6 hown hK hm kmo_7 rfl 1 (by decide) f7 (fun _ h9 => h9) rfl dX6_remove_125 ?_
                          refine lv_iload hx hb dX6_remove_128 (lv_at hl 1 rfl) ?_
                          refine m_iald hx hb hK hm 0 kcn_7 rfl (vp_in_nI (by omega) (by decide)) dX6_remove_130 ?_
                          obtain ⟨u21, hu21, eu21⟩ := hrC (2 + 5 * t9)
                          refine W.eq (g2 := F0 m 131 ls [.int (nI u21), .int (nI (100 * (2 + 5 * t9))), .int (nI j117)]) (by rw [show (fcn ((nI (2 + 5 * t9))).toNatClampNeg) = nI u21 from (congrArg fcn (show ((nI (2 + 5 * t9))).toNatClampNeg = (2 + 5 * t9) from nI_clamp (by omega))).trans eu21]) ?_
                          have hb_u21 := hu21
                          have hu21 : u21 ≤ 100 := Nat.le_trans hu21 (bC_le _)
                          have hsu21 : u21 ≤ 60 := Nat.le_trans hb_u21 (bC_60 (by omega))
                          refine lv_iadd hx hb dX6_remove_131 ?_
                          refine W.eq (g2 := F0 m 132 ls [.int (nI ((100 * (2 + 5 * t9)) + u21)), .int (nI j117)]) (by rw [show (((nI (100 * (2 + 5 * t9)))) + ((nI u21)) : Int32) = nI ((100 * (2 + 5 * t9)) + u21) from nI_add (100 * (2 + 5 * t9)) u21]) ?_
                          refine lv_icmp_ge (tgt := 209) hx hb dX6_remove_132 (by decide) (fun c22 => ?_) (fun c22 => ?_)
                          · have hqc22 : ((100 * (2 + 5 * t9)) + u21) ≤ j117 := nb_le (a := ((100 * (2 + 5 * t9)) + u21)) (b := j117) (by omega) (by omega) c22
                            refine lv_aload_n hx hb dX6_remove_209 rfl (lv_at hl 4 rfl) ?_
                            refine m_get (T := TX6) (N := 24) (ci := 6) (v := .ref cn) hx hb hts wX6 hown hK hm kmo_7 rfl 1 (by decide) f7 (fun _ h9 => h9) rfl dX6_remove_210 ?_
                            refine lv_iload hx hb dX6_remove_213 (lv_at hl 1 rfl) ?_
                            refine lv_dup2_11 hx hb dX6_remove_215 rfl rfl ?_
                            refine m_iald hx hb hK hm 0 kcn_7 rfl (vp_in_nI (by omega) (by decide)) dX6_remove_216 ?_
                            refine W.eq (g2 := F0 m 217 ls [.int (nI u21), .int (nI (2 + 5 * t9)), .ref cn]) (by rw [show (fcn ((nI (2 + 5 * t9))).toNatClampNeg) = nI u21 from (congrArg fcn (show ((nI (2 + 5 * t9))).toNatClampNeg = (2 + 5 * t9) from nI_clamp (by omega))).trans eu21]) ?_
                            have hpos9 : 1 ≤ u21 := by
                              rcases hfq102 (by rw [dg_0]; exact isP_15 hp101 c5) with q | ⟨n9, uc9, g9, hg9, hgu9, hgb9, q1, q2, q3⟩
                              · exact absurd q (nb_m1 (by omega))
                              · have h9 := hg9.symm.trans ((mu_ne ne_cn_mo).trans hcn)
                                cases h9
                                have h8 := nI_inj (by have := bC_le (2 + 5 * t9); omega) (by omega) (hgu9.symm.trans eu21)
                                omega
                            refine lv_iconst (v := 1) hx hb dX6_remove_217 (by decide) ?_
                            refine lv_isub hx hb dX6_remove_218 ?_
                            refine W.eq (g2 := F0 m 219 ls [.int (nI (u21 - 1)), .int (nI (2 + 5 * t9)), .ref cn]) (by rw [show (((nI u21)) - (1) : Int32) = nI (u21 - 1) from pk_sub (a := u21) (b := 1) (by omega)]) ?_
                            refine m_iast hx hb hK hm hS 0 kcn_7 rfl (vp_in_nI (by omega) (by decide)) dX6_remove_219 (fun H locs hm hS => ?_)
                            have hrC : rng bC (upd fcn ((nI (2 + 5 * t9))).toNatClampNeg (nI (u21 - 1))) := (hrC).up _ (u21 - 1) (by rw [nI_clamp (by omega)]; exact (by rw [bC_e60 (by omega) (by omega)]; omega))
                            have hmd : md ≠ 0 → ∃ n, n ≤ 40 ∧ (upd fcn ((nI (2 + 5 * t9))).toNatClampNeg (nI (u21 - 1))) 31 = nI n := fun q => by obtain ⟨n, q2, q3⟩ := hmd q; exact ⟨n, q2, by rw [← q3]; exact if_neg (by rw [nI_clamp (by omega)]; omega)⟩
                            have hm : mm D (AZ z) (mu Ml117 cn (.inl (k 0, 32, .inl (upd fcn ((nI (2 + 5 * t9))).toNatClampNeg (nI (u21 - 1)))))) H := hm
                            have hkp : kpx (fun a => a ∈ [mo, cn, ia, dr, en, la, wo, op, mk, ir, se, ec, lc, wc, ol, al]) M (mu Ml117 cn (.inl (k 0, 32, .inl (upd fcn ((nI (2 + 5 * t9))).toNatClampNeg (nI (u21 - 1)))))) := (hkp).self (by simp)
                            refine lv_iload_n hx hb dX6_remove_220 rfl (lv_at hl 3 rfl) ?_
                            refine lv_istore (lv' := [(6, .int (nI nb102)), (5, .int (nI (2 + 5 * t9))), (4, .int (fdr ((nI nb102)).toNatClampNeg)), (3, .int (nI nb102)), (0, .ref mo), (1, .int (nI t9)), (2, .int path)]) hx hb dX6_remove_221 hl (by decide) rfl (fun ls hl => ?_)
                            have hI0 : mI k (mu Ml117 cn (.inl (k 0, 32, .inl (upd fcn ((nI (2 + 5 * t9))).toNatClampNeg (nI (u21 - 1)))))) mo cn ia dr en la wo op mk ir se ec lc wc ol al dn md := ⟨_, _, _, _, _, _, _, (upd fcn ((nI (2 + 5 * t9))).toNatClampNeg (nI (u21 - 1))), fia, fdr, fen_7, fla, fwo, fop, fmk, fir_6, fse, fec, flc, fol, fal, fwc, hap, ((mu_ne ne_mo_cn).trans kmo_7), hmd, ⟨hrC, hrL, hrM⟩, (mu_self _ _ _), ((mu_ne ne_ia_cn).trans kia_7), ((mu_ne ne_dr_cn).trans kdr_7), ((mu_ne ne_en_cn).trans hen_7), ((mu_ne ne_la_cn).trans kla_7), ((mu_ne ne_wo_cn).trans kwo_7), ((mu_ne ne_op_cn).trans kop_7), ((mu_ne ne_mk_cn).trans kmk_7), ((mu_ne ne_ir_cn).trans kir_7), ((mu_ne ne_se_cn).trans kse_7), ((mu_ne ne_ec_cn).trans kec_7), ((mu_ne ne_lc_cn).trans klc_7), ((mu_ne ne_wc_cn).trans kwc_7), ((mu_ne ne_ol_cn).trans kol_7), ((mu_ne ne_al_cn).trans kal_7)⟩
                            refine W_loop (σ := Nat × mM) (fun ⟨j223, Ml223⟩ H locs ls => (nb102 ≤ j223 ∧ j223 < 2147483000) ∧ (mI k Ml223 mo cn ia dr en la wo op mk ir se ec lc wc ol al dn md) ∧ (kpx (fun a => a ∈ [mo, cn, ia, dr, en, la, wo, op, mk, ir, se, ec, lc, wc, ol, al]) M Ml223) ∧ (kpx (fun a => a ∈ [ia, dr, en, la, wo]) (mu Ml117 cn (.inl (k 0, 32, .inl (upd fcn ((nI (2 + 5 * t9))).toNatClampNeg (nI (u21 - 1)))))) Ml223) ∧ mm D (AZ z) Ml223 H ∧ va_S (AZ z) s.heap H locs ∧ lv_has ls 8 [(6, .int (nI j223)), (5, .int (nI (2 + 5 * t9))), (4, .int (fdr ((nI nb102)).toNatClampNeg)), (3, .int (nI nb102)), (0, .ref mo), (1, .int (nI t9)), (2, .int path)]) (fun ⟨j223, Ml223⟩ => 2147483648 - j223) (fun _ => 0) (fun _ => 0) ?_ (nb102, (mu Ml117 cn (.inl (k 0, 32, .inl (upd fcn ((nI (2 + 5 * t9))).toNatClampNeg (nI (u21 - 1))))))) _ _ _ ⟨⟨Nat.le_refl _, by omega⟩, hI0, hkp, (kpx.refl _ _), hm, hS, lv_sub hl [0, 1, 2, 3, 4, 5, 6] rfl⟩
                            intro ⟨j223, Ml223⟩ H locs ls hQ ih223
                            obtain ⟨hj223, hI, hkp, hkl223, hm, hS, hl⟩ := hQ
                            try dsimp only at hm hl ih223 hj223 hI hkp hkl223 ⊢
                            obtain ⟨_, _, _, _, _, _, _, _, fia_8, fdr_8, fen_8, fla_8, fwo_8, _, _, _, _, _, _, _, _, _, -, -, hmd_8, ⟨-, hrL_8, -⟩, -, hia_8, hdr_8, hen_8, hla_8, hwo_8, -, -, -, -, -, -, -, -, -⟩ := id hI
                            have kmo_8 := hkl223 _ _ (by simp only [List.mem_cons, List.not_mem_nil, or_false, not_or]; exact ⟨ne_mo_ia, ne_mo_dr, ne_mo_en, ne_mo_la, ne_mo_wo⟩) ((mu_ne ne_mo_cn).trans kmo_7)
                            have kcn_8 := hkl223 _ _ (by simp only [List.mem_cons, List.not_mem_nil, or_false, not_or]; exact ⟨ne_cn_ia, ne_cn_dr, ne_cn_en, ne_cn_la, ne_cn_wo⟩) (mu_self _ _ _)
                            have kop_8 := hkl223 _ _ (by simp only [List.mem_cons, List.not_mem_nil, or_false, not_or]; exact ⟨ne_op_ia, ne_op_dr, ne_op_en, ne_op_la, ne_op_wo⟩) ((mu_ne ne_op_cn).trans kop_7)
                            have kmk_8 := hkl223 _ _ (by simp only [List.mem_cons, List.not_mem_nil, or_false, not_or]; exact ⟨ne_mk_ia, ne_mk_dr, ne_mk_en, ne_mk_la, ne_mk_wo⟩) ((mu_ne ne_mk_cn).trans kmk_7)
                            have kir_8 := hkl223 _ _ (by simp only [List.mem_cons, List.not_mem_nil, or_false, not_or]; exact ⟨ne_ir_ia, ne_ir_dr, ne_ir_en, ne_ir_la, ne_ir_wo⟩) ((mu_ne ne_ir_cn).trans kir_7)
                            have kse_8 := hkl223 _ _ (by simp only [List.mem_cons, List.not_mem_nil, or_false, not_or]; exact ⟨ne_se_ia, ne_se_dr, ne_se_en, ne_se_la, ne_se_wo⟩) ((mu_ne ne_se_cn).trans kse_7)
                            have kec_8 := hkl223 _ _ (by simp only [List.mem_cons, List.not_mem_nil, or_false, not_or]; exact ⟨ne_ec_ia, ne_ec_dr, ne_ec_en, ne_ec_la, ne_ec_wo⟩) ((mu_ne ne_ec_cn).trans kec_7)
                            have klc_8 := hkl223 _ _ (by simp only [List.mem_cons, List.not_mem_nil, or_false, not_or]; exact ⟨ne_lc_ia, ne_lc_dr, ne_lc_en, ne_lc_la, ne_lc_wo⟩) ((mu_ne ne_lc_cn).trans klc_7)
                            have kwc_8 := hkl223 _ _ (by simp only [List.mem_cons, List.not_mem_nil, or_false, not_or]; exact ⟨ne_wc_ia, ne_wc_dr, ne_wc_en, ne_wc_la, ne_wc_wo⟩) ((mu_ne ne_wc_cn).trans kwc_7)
                            have kol_8 := hkl223 _ _ (by simp only [List.mem_cons, List.not_mem_nil, or_false, not_or]; exact ⟨ne_ol_ia, ne_ol_dr, ne_ol_en, ne_ol_la, ne_ol_wo⟩) ((mu_ne ne_ol_cn).trans kol_7)
                            have kal_8 := hkl223 _ _ (by simp only [List.mem_cons, List.not_mem_nil, or_false, not_or]; exact ⟨ne_al_ia, ne_al_dr, ne_al_en, ne_al_la, ne_al_wo⟩) ((mu_ne ne_al_cn).trans kal_7)
                            refine lv_iload hx hb dX6_remove_223 (lv_at hl 0 rfl) ?_
                            refine lv_bipush (v := 100) hx hb dX6_remove_225 (by decide) ?_
                            refine lv_iload hx hb dX6_remove_227 (lv_at hl 1 rfl) ?_
                            refine lv_imul hx hb dX6_remove_229 ?_
                            refine W.eq (g2 := F0 m 230 ls [.int (nI (100 * (2 + 5 * t9))), .int (nI j223)]) (by rw [show ((100) * ((nI (2 + 5 * t9))) : Int32) = nI (100 * (2 + 5 * t9)) from pk_mul 100 (2 + 5 * t9)]) ?_
                            refine lv_aload_n hx hb dX6_remove_230 rfl (lv_at hl 4 rfl) ?_
                            refine m_get (T := TX6) (N := 24) (ci := 6) (v := .ref cn) hx hb hts wX6 hown hK hm kmo_8 rfl 1 (by decide) f7 (fun _ h9 => h9) rfl dX6_remove_231 ?_
                            refine lv_iload hx hb dX6_remove_234 (lv_at hl 1 rfl) ?_
                            refine m_iald hx hb hK hm 0 kcn_8 rfl (vp_in_nI (by omega) (by decide)) dX6_remove_236 ?_
                            obtain ⟨u23, hu23, eu23⟩ := hrC (2 + 5 * t9)
                            refine W.eq (g2 := F0 m 237 ls [.int (nI u23), .int (nI (100 * (2 + 5 * t9))), .int (nI j223)]) (by rw [show ((upd fcn ((nI (2 + 5 * t9))).toNatClampNeg (nI (u21 - 1))) ((nI (2 + 5 * t9))).toNatClampNeg) = nI u23 from (congrArg (upd fcn ((nI (2 + 5 * t9))).toNatClampNeg (nI (u21 - 1))) (show ((nI (2 + 5 * t9))).toNatClampNeg = (2 + 5 * t9) from nI_clamp (by omega))).trans eu23]) ?_
                            have hb_u23 := hu23
                            have hu23 : u23 ≤ 100 := Nat.le_trans hu23 (bC_le _)
                            have hsu23 : u23 ≤ 60 := Nat.le_trans hb_u23 (bC_60 (by omega))
                            refine lv_iadd hx hb dX6_remove_237 ?_
                            refine W.eq (g2 := F0 m 238 ls [.int (nI ((100 * (2 + 5 * t9)) + u23)), .int (nI j223)]) (by rw [show (((nI (100 * (2 + 5 * t9)))) + ((nI u23)) : Int32) = nI ((100 * (2 + 5 * t9)) + u23) from nI_add (100 * (2 + 5 * t9)) u23]) ?_
                            refine lv_icmp_ge (tgt := 257) hx hb dX6_remove_238 (by decide) (fun c24 => ?_) (fun c24 => ?_)
                            · have hqc24 : ((100 * (2 + 5 * t9)) + u23) ≤ j223 := nb_le (a := ((100 * (2 + 5 * t9)) + u23)) (b := j223) (by omega) (by omega) c24
                              refine lv_iload hx hb dX6_remove_257 (lv_at hl 2 rfl) ?_
                              refine W.zretN (v := (fdr ((nI nb102)).toNatClampNeg)) hx hb hr (fun t ht hW => ⟨⟨some (.int ((fdr ((nI nb102)).toNatClampNeg) &&& 1)), _, rfl, ?_, by rw [ht]; exact hm⟩, hS.F ht⟩) hS.2.2 dX6_remove_259 hlocks
                              exact ⟨⟨_, rfl⟩, ⟨_, _, _, _, _, _, _, (upd fcn ((nI (2 + 5 * t9))).toNatClampNeg (nI (u21 - 1))), fia_8, fdr_8, fen_8, fla_8, fwo_8, fop, fmk, fir_6, fse, fec, flc, fol, fal, fwc, hap, kmo_8, hmd, ⟨hrC, hrL_8, hrM⟩, kcn_8, hia_8, hdr_8, hen_8, hla_8, hwo_8, kop_8, kmk_8, kir_8, kse_8, kec_8, klc_8, kwc_8, kol_8, kal_8⟩, hkp⟩
                            · have hqc24 : j223 < ((100 * (2 + 5 * t9)) + u23) := nb_nle (a := ((100 * (2 + 5 * t9)) + u23)) (b := j223) (by omega) (by omega) c24
                              refine lv_aload_n hx hb dX6_remove_241 rfl (lv_at hl 4 rfl) ?_
                              refine lv_iload hx hb dX6_remove_242 (lv_at hl 0 rfl) ?_
                              refine lv_iload hx hb dX6_remove_244 (lv_at hl 0 rfl) ?_
                              refine lv_iconst (v := 1) hx hb dX6_remove_246 (by decide) ?_
                              refine lv_iadd hx hb dX6_remove_247 ?_
                              refine W.eq (g2 := F0 m 248 ls [.int (nI (j223 + 1)), .int (nI j223), .ref mo]) (by rw [show (((nI j223)) + (1) : Int32) = nI (j223 + 1) from nI_add j223 1]) ?_
                              have hI0 : mI k Ml223 mo cn ia dr en la wo op mk ir se ec lc wc ol al dn md := ⟨_, _, _, _, _, _, _, (upd fcn ((nI (2 + 5 * t9))).toNatClampNeg (nI (u21 - 1))), fia_8, fdr_8, fen_8, fla_8, fwo_8, fop, fmk, fir_6, fse, fec, flc, fol, fal, fwc, hap, kmo_8, hmd, ⟨hrC, hrL_8, hrM⟩, kcn_8, hia_8, hdr_8, hen_8, hla_8, hwo_8, kop_8, kmk_8, kir_8, kse_8, kec_8, klc_8, kwc_8, kol_8, kal_8⟩
                              refine m_kV (As := [.int (nI j223), .int (nI (j223 + 1))]) (rest := []) (rm := { frames := 0, cells := 0, slots := 0, locals := 0 }) ⟨hx, hb, hml, hown, hts⟩ (s_X6_copyNode l D k z _ mo cn ia dr en la wo op mk ir se ec lc wc ol al dn md j223 (j223 + 1) (by omega) (by omega) hI0) (cwV 2 hts gX6_remove_X6_copyNode rfl rfl rfl (by decide +kernel) ⟨Nat.le_of_ble_eq_true rfl, Nat.le_of_ble_eq_true rfl⟩) (m_recv hK hm (q := (RX6, TX6, 24)) rfl kmo_8) hz hcx hm hS rfl hl.1 rfl (Nat.le_of_ble_eq_true rfl) dX6_remove_248 ⟨Nat.le_of_ble_eq_true rfl, Nat.le_of_ble_eq_true rfl⟩ (fun v M1 H locs hv hm hS => ?_)
                              obtain ⟨hv1, hI9, hk9⟩ := hv
                              obtain ⟨_, _, _, _, _, _, _, _, fia_9, fdr_9, fen_9, fla_9, fwo_9, _, _, _, _, _, _, _, _, _, -, -, hmd_9, ⟨-, hrL_9, -⟩, -, hia_9, hdr_9, hen_9, hla_9, hwo_9, -, -, -, -, -, -, -, -, -⟩ := id hI9
                              have kmo_9 := hk9 _ _ (by simp only [List.mem_cons, List.not_mem_nil, or_false, not_or]; exact ⟨ne_mo_ia, ne_mo_dr, ne_mo_en, ne_mo_la, ne_mo_wo⟩) kmo_8
                              have kcn_9 := hk9 _ _ (by simp only [List.mem_cons, List.not_mem_nil, or_false, not_or]; exact ⟨ne_cn_ia, ne_cn_dr, ne_cn_en, ne_cn_la, ne_cn_wo⟩) kcn_8
                              have kop_9 := hk9 _ _ (by simp only [List.mem_cons, List.not_mem_nil, or_false, not_or]; exact ⟨ne_op_ia, ne_op_dr, ne_op_en, ne_op_la, ne_op_wo⟩) kop_8
                              have kmk_9 := hk9 _ _ (by simp only [List.mem_cons, List.not_mem_nil, or_false, not_or]; exact ⟨ne_mk_ia, ne_mk_dr, ne_mk_en, ne_mk_la, ne_mk_wo⟩) kmk_8
                              have kir_9 := hk9 _ _ (by simp only [List.mem_cons, List.not_mem_nil, or_false, not_or]; exact ⟨ne_ir_ia, ne_ir_dr, ne_ir_en, ne_ir_la, ne_ir_wo⟩) kir_8
                              have kse_9 := hk9 _ _ (by simp only [List.mem_cons, List.not_mem_nil, or_false, not_or]; exact ⟨ne_se_ia, ne_se_dr, ne_se_en, ne_se_la, ne_se_wo⟩) kse_8
                              have kec_9 := hk9 _ _ (by simp only [List.mem_cons, List.not_mem_nil, or_false, not_or]; exact ⟨ne_ec_ia, ne_ec_dr, ne_ec_en, ne_ec_la, ne_ec_wo⟩) kec_8
                              have klc_9 := hk9 _ _ (by simp only [List.mem_cons, List.not_mem_nil, or_false, not_or]; exact ⟨ne_lc_ia, ne_lc_dr, ne_lc_en, ne_lc_la, ne_lc_wo⟩) klc_8
                              have kwc_9 := hk9 _ _ (by simp only [List.mem_cons, List.not_mem_nil, or_false, not_or]; exact ⟨ne_wc_ia, ne_wc_dr, ne_wc_en, ne_wc_la, ne_wc_wo⟩) kwc_8
                              have kol_9 := hk9 _ _ (by simp only [List.mem_cons, List.not_mem_nil, or_false, not_or]; exact ⟨ne_ol_ia, ne_ol_dr, ne_ol_en, ne_ol_la, ne_ol_wo⟩) kol_8
                              have kal_9 := hk9 _ _ (by simp only [List.mem_cons, List.not_mem_nil, or_false, not_or]; exact ⟨ne_al_ia, ne_al_dr, ne_al_en, ne_al_la, ne_al_wo⟩) kal_8
                              have hkp := hkp.trans (hk9.mono (fun a ha => by simp only [List.mem_cons, List.not_mem_nil, or_false] at ha ⊢; rcases ha with q9 | q9 | q9 | q9 | q9 <;> simp [q9]))
                              have hkl223 := hkl223.trans (hk9.mono (fun a ha => by simp only [List.mem_cons, List.not_mem_nil, or_false] at ha ⊢; rcases ha with q9 | q9 | q9 | q9 | q9 <;> simp [q9]))
                              obtain ⟨Mc4, hMx⟩ : ∃ x : mM, x = M1 := ⟨M1, rfl⟩
                              subst hMx
                              subst hv1
                              refine W.eq (g2 := F0 m 251 ls []) rfl ?_
                              refine W.widen (k := 0) (n := 0) (Nat.le_of_ble_eq_true rfl) (Nat.le_of_ble_eq_true rfl) ?_
                              have hm : mm D (AZ z) Mc4 H := hm
                              refine lv_iinc (v := ((nI j223) + 1)) (lv' := [(6, .int ((nI j223) + 1)), (5, .int (nI (2 + 5 * t9))), (4, .int (fdr ((nI nb102)).toNatClampNeg)), (3, .int (nI nb102)), (0, .ref mo), (1, .int (nI t9)), (2, .int path)]) hx hb dX6_remove_251 hl (k := 0) rfl rfl (by decide) rfl (fun ls hl => ?_)
                              refine lv_goto (tgt := 223) hx hb dX6_remove_254 (by decide) ?_
                              rw [nI_1] at hl
                              exact ih223 (j223 + 1, Mc4) _ _ _ ⟨⟨by omega, by omega⟩, ⟨_, _, _, _, _, _, _, (upd fcn ((nI (2 + 5 * t9))).toNatClampNeg (nI (u21 - 1))), fia_9, fdr_9, fen_9, fla_9, fwo_9, fop, fmk, fir_6, fse, fec, flc, fol, fal, fwc, hap, kmo_9, hmd, ⟨hrC, hrL_9, hrM⟩, kcn_9, hia_9, hdr_9, hen_9, hla_9, hwo_9, kop_9, kmk_9, kir_9, kse_9, kec_9, klc_9, kwc_9, kol_9, kal_9⟩, hkp, hkl223, hm, hS, lv_sub hl [0, 1, 2, 3, 4, 5, 6] rfl⟩ (by show 2147483648 - (j223 + 1) < 2147483648 - j223; omega)
                          · have hqc22 : j117 < ((100 * (2 + 5 * t9)) + u21) := nb_nle (a := ((100 * (2 + 5 * t9)) + u21)) (b := j117) (by omega) (by omega) c22
                            refine lv_iconst (v := 1) hx hb dX6_remove_135 (by decide) ?_
                            refine lv_istore (lv' := [(7, .int 1), (6, .int (nI j117)), (5, .int (nI (2 + 5 * t9))), (4, .int (fdr ((nI nb102)).toNatClampNeg)), (3, .int (nI nb102)), (0, .ref mo), (1, .int (nI t9)), (2, .int path)]) hx hb dX6_remove_136 hl (by decide) rfl (fun ls hl => ?_)
                            have hI0 : mI k Ml117 mo cn ia dr en la wo op mk ir se ec lc wc ol al dn md := ⟨_, _, _, _, _, _, _, fcn, fia, fdr, fen_7, fla, fwo, fop, fmk, fir_6, fse, fec, flc, fol, fal, fwc, hap, kmo_7, hmd, ⟨hrC, hrL, hrM⟩, kcn_7, kia_7, kdr_7, hen_7, kla_7, kwo_7, kop_7, kmk_7, kir_7, kse_7, kec_7, klc_7, kwc_7, kol_7, kal_7⟩
                            refine W_loop (σ := Nat × mM) (fun ⟨j138, Ml138⟩ H locs ls => (1 ≤ j138 ∧ j138 < 2147483000) ∧ (mI k Ml138 mo cn ia dr en la wo op mk ir se ec lc wc ol al dn md) ∧ (kpx (fun a => a ∈ [mo, cn, ia, dr, en, la, wo, op, mk, ir, se, ec, lc, wc, ol, al]) M Ml138) ∧ (kpx (fun a => a ∈ [en]) Ml117 Ml138) ∧ mm D (AZ z) Ml138 H ∧ va_S (AZ z) s.heap H locs ∧ lv_has ls 8 [(7, .int (nI j138)), (6, .int (nI j117)), (5, .int (nI (2 + 5 * t9))), (4, .int (fdr ((nI nb102)).toNatClampNeg)), (3, .int (nI nb102)), (0, .ref mo), (1, .int (nI t9)), (2, .int path)]) (fun ⟨j138, Ml138⟩ => 2147483648 - j138) (fun _ => 0) (fun _ => 0) ?_ (1, Ml117) _ _ _ ⟨⟨Nat.le_refl _, by omega⟩, hI0, hkp, (kpx.refl _ _), hm, hS, lv_sub hl [0, 1, 2, 3, 4, 5, 6, 7] rfl⟩
                            intro ⟨j138, Ml138⟩ H locs ls hQ ih138
                            obtain ⟨hj138, hI, hkp, hkl138, hm, hS, hl⟩ := hQ
                            try dsimp only at hm hl ih138 hj138 hI hkp hkl138 ⊢
                            obtain ⟨_, _, _, _, _, _, _, _, _, _, fen_10, _, _, _, _, _, _, _, _, _, _, _, -, -, hmd_10, ⟨-, -, -⟩, -, -, -, hen_10, -, -, -, -, -, -, -, -, -, -, -⟩ := id hI
                            have kmo_10 := hkl138 _ _ (by simp only [List.mem_cons, List.not_mem_nil, or_false, not_or]; exact ne_mo_en) kmo_7
                            have kcn_10 := hkl138 _ _ (by simp only [List.mem_cons, List.not_mem_nil, or_false, not_or]; exact ne_cn_en) kcn_7
                            have kia_10 := hkl138 _ _ (by simp only [List.mem_cons, List.not_mem_nil, or_false, not_or]; exact ne_ia_en) kia_7
                            have kdr_10 := hkl138 _ _ (by simp only [List.mem_cons, List.not_mem_nil, or_false, not_or]; exact ne_dr_en) kdr_7
                            have kla_10 := hkl138 _ _ (by simp only [List.mem_cons, List.not_mem_nil, or_false, not_or]; exact ne_la_en) kla_7
                            have kwo_10 := hkl138 _ _ (by simp only [List.mem_cons, List.not_mem_nil, or_false, not_or]; exact ne_wo_en) kwo_7
                            have kop_10 := hkl138 _ _ (by simp only [List.mem_cons, List.not_mem_nil, or_false, not_or]; exact ne_op_en) kop_7
                            have kmk_10 := hkl138 _ _ (by simp only [List.mem_cons, List.not_mem_nil, or_false, not_or]; exact ne_mk_en) kmk_7
                            have kir_10 := hkl138 _ _ (by simp only [List.mem_cons, List.not_mem_nil, or_false, not_or]; exact ne_ir_en) kir_7
                            have kse_10 := hkl138 _ _ (by simp only [List.mem_cons, List.not_mem_nil, or_false, not_or]; exact ne_se_en) kse_7
                            have kec_10 := hkl138 _ _ (by simp only [List.mem_cons, List.not_mem_nil, or_false, not_or]; exact ne_ec_en) kec_7
                            have klc_10 := hkl138 _ _ (by simp only [List.mem_cons, List.not_mem_nil, or_false, not_or]; exact ne_lc_en) klc_7
                            have kwc_10 := hkl138 _ _ (by simp only [List.mem_cons, List.not_mem_nil, or_false, not_or]; exact ne_wc_en) kwc_7
                            have kol_10 := hkl138 _ _ (by simp only [List.mem_cons, List.not_mem_nil, or_false, not_or]; exact ne_ol_en) kol_7
                            have kal_10 := hkl138 _ _ (by simp only [List.mem_cons, List.not_mem_nil, or_false, not_or]; exact ne_al_en) kal_7
                            have hkl117 := hkl117.trans (hkl138.mono (fun a ha => by simp only [List.mem_cons, List.not_mem_nil, or_false] at ha ⊢; subst ha; simp))
                            refine lv_iload hx hb dX6_remove_138 (lv_at hl 0 rfl) ?_
                            refine lv_bipush (v := 16) hx hb dX6_remove_140 (by decide) ?_
                            refine lv_icmp_ge (tgt := 203) hx hb dX6_remove_142 (by decide) (fun c25 => ?_) (fun c25 => ?_)
                            · have hqc25 : 16 ≤ j138 := nb_le (a := 16) (b := j138) (by omega) (by omega) c25
                              refine lv_iinc (v := ((nI j117) + 1)) (lv' := [(6, .int ((nI j117) + 1)), (7, .int (nI j138)), (5, .int (nI (2 + 5 * t9))), (4, .int (fdr ((nI nb102)).toNatClampNeg)), (3, .int (nI nb102)), (0, .ref mo), (1, .int (nI t9)), (2, .int path)]) hx hb dX6_remove_203 hl (k := 1) rfl rfl (by decide) rfl (fun ls hl => ?_)
                              refine lv_goto (tgt := 117) hx hb dX6_remove_206 (by decide) ?_
                              rw [nI_1] at hl
                              exact ih117 (j117 + 1, Ml138) _ _ _ ⟨⟨by omega, by omega⟩, ⟨_, _, _, _, _, _, _, fcn, fia, fdr, fen_10, fla, fwo, fop, fmk, fir_6, fse, fec, flc, fol, fal, fwc, hap, kmo_10, hmd, ⟨hrC, hrL, hrM⟩, kcn_10, kia_10, kdr_10, hen_10, kla_10, kwo_10, kop_10, kmk_10, kir_10, kse_10, kec_10, klc_10, kwc_10, kol_10, kal_10⟩, hkp, hkl117, hm, hS, lv_sub hl [0, 2, 3, 4, 5, 6, 7] rfl⟩ (by show 2147483648 - (j117 + 1) < 2147483648 - j117; omega)
                            · have hqc25 : j138 < 16 := nb_nle (a := 16) (b := j138) (by omega) (by omega) c25
                              refine lv_aload_n hx hb dX6_remove_145 rfl (lv_at hl 5 rfl) ?_
                              refine m_get (T := TX6) (N := 24) (ci := 6) (v := .ref en) hx hb hts wX6 hown hK hm kmo_10 rfl 4 (by decide) f21 (fun _ h9 => h9) rfl dX6_remove_146 ?_
                              refine lv_bipush (v := 16) hx hb dX6_remove_149 (by decide) ?_
                              refine lv_iload hx hb dX6_remove_151 (lv_at hl 1 rfl) ?_
                              refine lv_imul hx hb dX6_remove_153 ?_
                              refine W.eq (g2 := F0 m 154 ls [.int (nI (16 * j117)), .ref en]) (by rw [show ((16) * ((nI j117)) : Int32) = nI (16 * j117) from pk_mul 16 j117]) ?_
                              refine lv_iload hx hb dX6_remove_154 (lv_at hl 0 rfl) ?_
                              refine lv_iadd hx hb dX6_remove_156 ?_
                              refine W.eq (g2 := F0 m 157 ls [.int (nI ((16 * j117) + j138)), .ref en]) (by rw [show (((nI (16 * j117))) + ((nI j138)) : Int32) = nI ((16 * j117) + j138) from nI_add (16 * j117) j138]) ?_
                              refine lv_aload_n hx hb dX6_remove_157 rfl (lv_at hl 5 rfl) ?_
                              refine m_get (T := TX6) (N := 24) (ci := 6) (v := .ref en) hx hb hts wX6 hown hK hm kmo_10 rfl 4 (by decide) f21 (fun _ h9 => h9) rfl dX6_remove_158 ?_
                              refine lv_bipush (v := 16) hx hb dX6_remove_161 (by decide) ?_
                              refine lv_iload hx hb dX6_remove_163 (lv_at hl 1 rfl) ?_
                              refine lv_imul hx hb dX6_remove_165 ?_
                              refine W.eq (g2 := F0 m 166 ls [.int (nI (16 * j117)), .ref en, .int (nI ((16 * j117) + j138)), .ref en]) (by rw [show ((16) * ((nI j117)) : Int32) = nI (16 * j117) from pk_mul 16 j117]) ?_
                              refine lv_iload hx hb dX6_remove_166 (lv_at hl 0 rfl) ?_
                              refine lv_iadd hx hb dX6_remove_168 ?_
                              refine W.eq (g2 := F0 m 169 ls [.int (nI ((16 * j117) + j138)), .ref en, .int (nI ((16 * j117) + j138)), .ref en]) (by rw [show (((nI (16 * j117))) + ((nI j138)) : Int32) = nI ((16 * j117) + j138) from nI_add (16 * j117) j138]) ?_
                              refine m_iald hx hb hK hm 0 hen_10 rfl (vp_in_nI (by omega) (by decide)) dX6_remove_169 ?_
                              refine lv_aload_n hx hb dX6_remove_170 rfl (lv_at hl 5 rfl) ?_
                              refine m_get (T := TX6) (N := 24) (ci := 6) (v := .ref ia) hx hb hts wX6 hown hK hm kmo_10 rfl 2 (by decide) f13 (fun _ h9 => h9) rfl dX6_remove_171 ?_
                              refine lv_iload_n hx hb dX6_remove_174 rfl (lv_at hl 4 rfl) ?_
                              refine m_iald hx hb hK hm 0 kia_10 rfl (vp_in_nI (by omega) (by decide)) dX6_remove_175 ?_
                              refine lv_icmp_ne (tgt := 183) hx hb dX6_remove_176 (by decide) (fun c26 => ?_) (fun c26 => ?_)
                              · refine lv_aload_n hx hb dX6_remove_183 rfl (lv_at hl 5 rfl) ?_
                                refine m_get (T := TX6) (N := 24) (ci := 6) (v := .ref en) hx hb hts wX6 hown hK hm kmo_10 rfl 4 (by decide) f21 (fun _ h9 => h9) rfl dX6_remove_184 ?_
                                refine lv_bipush (v := 16) hx hb dX6_remove_187 (by decide) ?_
                                refine lv_iload hx hb dX6_remove_189 (lv_at hl 1 rfl) ?_
                                refine lv_imul hx hb dX6_remove_191 ?_
                                refine W.eq (g2 := F0 m 192 ls [.int (nI (16 * j117)), .ref en, .int (nI ((16 * j117) + j138)), .ref en]) (by rw [show ((16) * ((nI j117)) : Int32) = nI (16 * j117) from pk_mul 16 j117]) ?_
                                refine lv_iload hx hb dX6_remove_192 (lv_at hl 0 rfl) ?_
                                refine lv_iadd hx hb dX6_remove_194 ?_
                                refine W.eq (g2 := F0 m 195 ls [.int (nI ((16 * j117) + j138)), .ref en, .int (nI ((16 * j117) + j138)), .ref en]) (by rw [show (((nI (16 * j117))) + ((nI j138)) : Int32) = nI ((16 * j117) + j138) from nI_add (16 * j117) j138]) ?_
                                refine m_iald hx hb hK hm 0 hen_10 rfl (vp_in_nI (by omega) (by decide)) dX6_remove_195 ?_
                                refine m_iast hx hb hK hm hS 0 hen_10 rfl (vp_in_nI (by omega) (by decide)) dX6_remove_196 (fun H locs hm hS => ?_)
                                have hm : mm D (AZ z) (mu Ml138 en (.inl (k 0, 51200, .inl (upd fen_10 ((nI ((16 * j117) + j138))).toNatClampNeg (fen_10 ((nI ((16 * j117) + j138))).toNatClampNeg))))) H := hm
                                have hkp : kpx (fun a => a ∈ [mo, cn, ia, dr, en, la, wo, op, mk, ir, se, ec, lc, wc, ol, al]) M (mu Ml138 en (.inl (k 0, 51200, .inl (upd fen_10 ((nI ((16 * j117) + j138))).toNatClampNeg (fen_10 ((nI ((16 * j117) + j138))).toNatClampNeg))))) := (hkp).self (by simp)
                                have hkl117 : kpx (fun a => a ∈ [en]) (mu Mc3 mo (.inr (6, [.int 0, .ref cn, .ref ia, .ref dr, .ref en, .ref la, .ref wo, .int ni, .ref op, .ref mk, .ref ir, .int dn, .int md, .int pw, .int cm, .int wr, .ref se, .ref ec, .ref lc, .ref wc, .ref ol, .ref al, .int cs, .int hm9]))) (mu Ml138 en (.inl (k 0, 51200, .inl (upd fen_10 ((nI ((16 * j117) + j138))).toNatClampNeg (fen_10 ((nI ((16 * j117) + j138))).toNatClampNeg))))) := hkl117.self (by simp)
                                have hkl138 : kpx (fun a => a ∈ [en]) Ml117 (mu Ml138 en (.inl (k 0, 51200, .inl (upd fen_10 ((nI ((16 * j117) + j138))).toNatClampNeg (fen_10 ((nI ((16 * j117) + j138))).toNatClampNeg))))) := hkl138.self (by simp)
                                refine lv_iinc (v := ((nI j138) + 1)) (lv' := [(7, .int ((nI j138) + 1)), (6, .int (nI j117)), (5, .int (nI (2 + 5 * t9))), (4, .int (fdr ((nI nb102)).toNatClampNeg)), (3, .int (nI nb102)), (0, .ref mo), (1, .int (nI t9)), (2, .int path)]) hx hb dX6_remove_197 hl (k := 0) rfl rfl (by decide) rfl (fun ls hl => ?_)
                                refine lv_goto (tgt := 138) hx hb dX6_remove_200 (by decide) ?_
                                rw [nI_1] at hl
                                exact ih138 (j138 + 1, (mu Ml138 en (.inl (k 0, 51200, .inl (upd fen_10 ((nI ((16 * j117) + j138))).toNatClampNeg (fen_10 ((nI ((16 * j117) + j138))).toNatClampNeg)))))) _ _ _ ⟨⟨by omega, by omega⟩, ⟨_, _, _, _, _, _, _, fcn, fia, fdr, (upd fen_10 ((nI ((16 * j117) + j138))).toNatClampNeg (fen_10 ((nI ((16 * j117) + j138))).toNatClampNeg)), fla, fwo, fop, fmk, fir_6, fse, fec, flc, fol, fal, fwc, hap, ((mu_ne ne_mo_en).trans kmo_10), hmd, ⟨hrC, hrL, hrM⟩, ((mu_ne ne_cn_en).trans kcn_10), ((mu_ne ne_ia_en).trans kia_10), ((mu_ne ne_dr_en).trans kdr_10), (mu_self _ _ _), ((mu_ne ne_la_en).trans kla_10), ((mu_ne ne_wo_en).trans kwo_10), ((mu_ne ne_op_en).trans kop_10), ((mu_ne ne_mk_en).trans kmk_10), ((mu_ne ne_ir_en).trans kir_10), ((mu_ne ne_se_en).trans kse_10), ((mu_ne ne_ec_en).trans kec_10), ((mu_ne ne_lc_en).trans klc_10), ((mu_ne ne_wc_en).trans kwc_10), ((mu_ne ne_ol_en).trans kol_10), ((mu_ne ne_al_en).trans kal_10)⟩, hkp, hkl138, hm, hS, lv_sub hl [0, 1, 2, 3, 4, 5, 6, 7] rfl⟩ (by show 2147483648 - (j138 + 1) < 2147483648 - j138; omega)
                              · refine lv_iconst (v := 0) hx hb dX6_remove_179 (by decide) ?_
                                refine lv_goto (tgt := 196) hx hb dX6_remove_180 (by decide) ?_
                                refine m_iast hx hb hK hm hS 0 hen_10 rfl (vp_in_nI (by omega) (by decide)) dX6_remove_196 (fun H locs hm hS => ?_)
                                have hm : mm D (AZ z) (mu Ml138 en (.inl (k 0, 51200, .inl (upd fen_10 ((nI ((16 * j117) + j138))).toNatClampNeg 0)))) H := hm
                                have hkp : kpx (fun a => a ∈ [mo, cn, ia, dr, en, la, wo, op, mk, ir, se, ec, lc, wc, ol, al]) M (mu Ml138 en (.inl (k 0, 51200, .inl (upd fen_10 ((nI ((16 * j117) + j138))).toNatClampNeg 0)))) := (hkp).self (by simp)
                                have hkl117 : kpx (fun a => a ∈ [en]) (mu Mc3 mo (.inr (6, [.int 0, .ref cn, .ref ia, .ref dr, .ref en, .ref la, .ref wo, .int ni, .ref op, .ref mk, .ref ir, .int dn, .int md, .int pw, .int cm, .int wr, .ref se, .ref ec, .ref lc, .ref wc, .ref ol, .ref al, .int cs, .int hm9]))) (mu Ml138 en (.inl (k 0, 51200, .inl (upd fen_10 ((nI ((16 * j117) + j138))).toNatClampNeg 0)))) := hkl117.self (by simp)
                                have hkl138 : kpx (fun a => a ∈ [en]) Ml117 (mu Ml138 en (.inl (k 0, 51200, .inl (upd fen_10 ((nI ((16 * j117) + j138))).toNatClampNeg 0)))) := hkl138.self (by simp)
                                refine lv_iinc (v := ((nI j138) + 1)) (lv' := [(7, .int ((nI j138) + 1)), (6, .int (nI j117)), (5, .int (nI (2 + 5 * t9))), (4, .int (fdr ((nI nb102)).toNatClampNeg)), (3, .int (nI nb102)), (0, .ref mo), (1, .int (nI t9)), (2, .int path)]) hx hb dX6_remove_197 hl (k := 0) rfl rfl (by decide) rfl (fun ls hl => ?_)
                                refine lv_goto (tgt := 138) hx hb dX6_remove_200 (by decide) ?_
                                rw [nI_1] at hl
                                exact ih138 (j138 + 1, (mu Ml138 en (.inl (k 0, 51200, .inl (upd fen_10 ((nI ((16 * j117) + j138))).toNatClampNeg 0))))) _ _ _ ⟨⟨by omega, by omega⟩, ⟨_, _, _, _, _, _, _, fcn, fia, fdr, (upd fen_10 ((nI ((16 * j117) + j138))).toNatClampNeg 0), fla, fwo, fop, fmk, fir_6, fse, fec, flc, fol, fal, fwc, hap, ((mu_ne ne_mo_en).trans kmo_10), hmd, ⟨hrC, hrL, hrM⟩, ((mu_ne ne_cn_en).trans kcn_10), ((mu_ne ne_ia_en).trans kia_10), ((mu_ne ne_dr_en).trans kdr_10), (mu_self _ _ _), ((mu_ne ne_la_en).trans kla_10), ((mu_ne ne_wo_en).trans kwo_10), ((mu_ne ne_op_en).trans kop_10), ((mu_ne ne_mk_en).trans kmk_10), ((mu_ne ne_ir_en).trans kir_10), ((mu_ne ne_se_en).trans kse_10), ((mu_ne ne_ec_en).trans kec_10), ((mu_ne ne_lc_en).trans klc_10), ((mu_ne ne_wc_en).trans kwc_10), ((mu_ne ne_ol_en).trans kol_10), ((mu_ne ne_al_en).trans kal_10)⟩, hkp, hkl138, hm, hS, lv_sub hl [0, 1, 2, 3, 4, 5, 6, 7] rfl⟩ (by show 2147483648 - (j138 + 1) < 2147483648 - j138; omega)
                        · first | exact absurd c20 (by decide) | exact absurd (by decide) c20
                      · refine lv_iconst (v := 4) hx hb dX6_remove_90 (by decide) ?_
                        refine lv_goto (tgt := 95) hx hb dX6_remove_91 (by decide) ?_
                        refine m_kV (As := [.int 4]) (rest := []) (rm := { frames := 0, cells := 0, slots := 0, locals := 0 }) ⟨hx, hb, hml, hown, hts⟩ (s_X6_failsE l D k z _ mo cn ia dr en la wo op mk ir se ec lc wc ol al 0 ni dn md pw cm wr cs hm9 4 kmo_6) (cwV 1 hts gX6_remove_X6_fails rfl rfl rfl (by decide +kernel) ⟨Nat.le_of_ble_eq_true rfl, Nat.le_of_ble_eq_true rfl⟩) (m_recv hK hm (q := (RX6, TX6, 24)) rfl kmo_6) hz hcx hm hS rfl hl.1 rfl (Nat.le_of_ble_eq_true rfl) dX6_remove_95 ⟨Nat.le_of_ble_eq_true rfl, Nat.le_of_ble_eq_true rfl⟩ (fun v M1 H locs hv hm hS => ?_)
                        obtain ⟨hv1, hM1⟩ := hv
                        have hv1 : v = some (.int 1) := hv1.trans (by decide)
                        subst hv1
                        rw [hM1] at hm
                        refine W.eq (g2 := F0 m 98 ls [.int 1]) rfl ?_
                        refine W.widen (k := 0) (n := 0) (Nat.le_of_ble_eq_true rfl) (Nat.le_of_ble_eq_true rfl) ?_
                        have hm : mm D (AZ z) (mu Mc3 mo (.inr (6, [.int 4, .ref cn, .ref ia, .ref dr, .ref en, .ref la, .ref wo, .int ni, .ref op, .ref mk, .ref ir, .int dn, .int md, .int pw, .int cm, .int wr, .ref se, .ref ec, .ref lc, .ref wc, .ref ol, .ref al, .int cs, .int hm9]))) H := hm
                        have hkp : kpx (fun a => a ∈ [mo, cn, ia, dr, en, la, wo, op, mk, ir, se, ec, lc, wc, ol, al]) M (mu Mc3 mo (.inr (6, [.int 4, .ref cn, .ref ia, .ref dr, .ref en, .ref la, .ref wo, .int ni, .ref op, .ref mk, .ref ir, .int dn, .int md, .int pw, .int cm, .int wr, .ref se, .ref ec, .ref lc, .ref wc, .ref ol, .ref al, .int cs, .int hm9]))) := (hkp).self (by simp)
                        refine lv_if_eq (tgt := 103) hx hb dX6_remove_98 (by decide) (fun c27 => ?_) (fun c27 => ?_)
                        · first | exact absurd c27 (by decide) | exact absurd (by decide) c27
                        · refine lv_iconst (v := 0) hx hb dX6_remove_101 (by decide) ?_
                          refine W.zret hx hb hr rfl (fun t ht hW => ⟨⟨some (.int 0), _, rfl, ?_, by rw [ht]; exact hm⟩, hS.F ht⟩) hS.2.2 dX6_remove_102
                          exact ⟨⟨_, rfl⟩, ⟨_, _, _, _, _, _, _, fcn, fia, fdr, fen, fla, fwo, fop, fmk, fir_6, fse, fec, flc, fol, fal, fwc, hap, (mu_self _ _ _), hmd, ⟨hrC, hrL, hrM⟩, ((mu_ne ne_cn_mo).trans kcn_6), ((mu_ne ne_ia_mo).trans kia_6), ((mu_ne ne_dr_mo).trans kdr_6), ((mu_ne ne_en_mo).trans ken_6), ((mu_ne ne_la_mo).trans kla_6), ((mu_ne ne_wo_mo).trans kwo_6), ((mu_ne ne_op_mo).trans kop_6), ((mu_ne ne_mk_mo).trans kmk_6), ((mu_ne ne_ir_mo).trans hir_6), ((mu_ne ne_se_mo).trans kse_6), ((mu_ne ne_ec_mo).trans kec_6), ((mu_ne ne_lc_mo).trans klc_6), ((mu_ne ne_wc_mo).trans kwc_6), ((mu_ne ne_ol_mo).trans kol_6), ((mu_ne ne_al_mo).trans kal_6)⟩, hkp⟩
                  · first | exact absurd c10 (by decide) | exact absurd (by decide) c10
                · have hqc9 : nb102 < 0 := nb_nle (a := 0) (b := nb102) (by omega) (by omega) c9
                  omega
            · first | exact absurd c6 (by decide) | exact absurd (by decide) c6
          · refine lv_iconst (v := 2) hx hb dX6_remove_24 (by decide) ?_
            refine lv_goto (tgt := 29) hx hb dX6_remove_25 (by decide) ?_
            refine m_kV (As := [.int 2]) (rest := []) (rm := { frames := 0, cells := 0, slots := 0, locals := 0 }) ⟨hx, hb, hml, hown, hts⟩ (s_X6_failsE l D k z _ mo cn ia dr en la wo op mk ir se ec lc wc ol al cd ni dn md pw cm wr cs hm9 2 hM) (cwV 1 hts gX6_remove_X6_fails rfl rfl rfl (by decide +kernel) ⟨Nat.le_of_ble_eq_true rfl, Nat.le_of_ble_eq_true rfl⟩) (m_recv hK hm (q := (RX6, TX6, 24)) rfl hM) hz hcx hm hS rfl hl.1 rfl (Nat.le_of_ble_eq_true rfl) dX6_remove_29 ⟨Nat.le_of_ble_eq_true rfl, Nat.le_of_ble_eq_true rfl⟩ (fun v M1 H locs hv hm hS => ?_)
            obtain ⟨hv1, hM1⟩ := hv
            have hv1 : v = some (.int 1) := hv1.trans (by decide)
            subst hv1
            rw [hM1] at hm
            refine W.eq (g2 := F0 m 32 ls [.int 1]) rfl ?_
            refine W.widen (k := 0) (n := 0) (Nat.le_of_ble_eq_true rfl) (Nat.le_of_ble_eq_true rfl) ?_
            have hm : mm D (AZ z) (mu M mo (.inr (6, [.int 2, .ref cn, .ref ia, .ref dr, .ref en, .ref la, .ref wo, .int ni, .ref op, .ref mk, .ref ir, .int dn, .int md, .int pw, .int cm, .int wr, .ref se, .ref ec, .ref lc, .ref wc, .ref ol, .ref al, .int cs, .int hm9]))) H := hm
            have hkp : kpx (fun a => a ∈ [mo, cn, ia, dr, en, la, wo, op, mk, ir, se, ec, lc, wc, ol, al]) M (mu M mo (.inr (6, [.int 2, .ref cn, .ref ia, .ref dr, .ref en, .ref la, .ref wo, .int ni, .ref op, .ref mk, .ref ir, .int dn, .int md, .int pw, .int cm, .int wr, .ref se, .ref ec, .ref lc, .ref wc, .ref ol, .ref al, .int cs, .int hm9]))) := (hkp).self (by simp)
            refine lv_if_eq (tgt := 37) hx hb dX6_remove_32 (by decide) (fun c28 => ?_) (fun c28 => ?_)
            · first | exact absurd c28 (by decide) | exact absurd (by decide) c28
            · refine lv_iconst (v := 0) hx hb dX6_remove_35 (by decide) ?_
              refine W.zret hx hb hr rfl (fun t ht hW => ⟨⟨some (.int 0), _, rfl, ?_, by rw [ht]; exact hm⟩, hS.F ht⟩) hS.2.2 dX6_remove_36
              exact ⟨⟨_, rfl⟩, ⟨_, _, _, _, _, _, _, fcn, fia, fdr, fen, fla, fwo, fop, fmk, fir, fse, fec, flc, fol, fal, fwc, hap, (mu_self _ _ _), hmd, ⟨hrC, hrL, hrM⟩, ((mu_ne ne_cn_mo).trans hcn), ((mu_ne ne_ia_mo).trans hia), ((mu_ne ne_dr_mo).trans hdr), ((mu_ne ne_en_mo).trans hen), ((mu_ne ne_la_mo).trans hla), ((mu_ne ne_wo_mo).trans hwo), ((mu_ne ne_op_mo).trans hop), ((mu_ne ne_mk_mo).trans hmk), ((mu_ne ne_ir_mo).trans hir), ((mu_ne ne_se_mo).trans hse), ((mu_ne ne_ec_mo).trans hec), ((mu_ne ne_lc_mo).trans hlc), ((mu_ne ne_wc_mo).trans hwc), ((mu_ne ne_ol_mo).trans hol), ((mu_ne ne_al_mo).trans hal)⟩, hkp⟩
      · subst hv1
        refine W.eq (g2 := F0 m 17 ls [.int 0, .ref mo]) rfl ?_
        refine W.widen (k := 0) (n := 0) (Nat.le_of_ble_eq_true rfl) (Nat.le_of_ble_eq_true rfl) ?_
        have hm : mm D (AZ z) M H := hm
        refine lv_if_eq (tgt := 24) hx hb dX6_remove_17 (by decide) (fun c29 => ?_) (fun c29 => ?_)
        · refine lv_iconst (v := 2) hx hb dX6_remove_24 (by decide) ?_
          refine lv_goto (tgt := 29) hx hb dX6_remove_25 (by decide) ?_
          refine m_kV (As := [.int 2]) (rest := []) (rm := { frames := 0, cells := 0, slots := 0, locals := 0 }) ⟨hx, hb, hml, hown, hts⟩ (s_X6_failsE l D k z _ mo cn ia dr en la wo op mk ir se ec lc wc ol al cd ni dn md pw cm wr cs hm9 2 hM) (cwV 1 hts gX6_remove_X6_fails rfl rfl rfl (by decide +kernel) ⟨Nat.le_of_ble_eq_true rfl, Nat.le_of_ble_eq_true rfl⟩) (m_recv hK hm (q := (RX6, TX6, 24)) rfl hM) hz hcx hm hS rfl hl.1 rfl (Nat.le_of_ble_eq_true rfl) dX6_remove_29 ⟨Nat.le_of_ble_eq_true rfl, Nat.le_of_ble_eq_true rfl⟩ (fun v M1 H locs hv hm hS => ?_)
          obtain ⟨hv1, hM1⟩ := hv
          have hv1 : v = some (.int 1) := hv1.trans (by decide)
          subst hv1
          rw [hM1] at hm
          refine W.eq (g2 := F0 m 32 ls [.int 1]) rfl ?_
          refine W.widen (k := 0) (n := 0) (Nat.le_of_ble_eq_true rfl) (Nat.le_of_ble_eq_true rfl) ?_
          have hm : mm D (AZ z) (mu M mo (.inr (6, [.int 2, .ref cn, .ref ia, .ref dr, .ref en, .ref la, .ref wo, .int ni, .ref op, .ref mk, .ref ir, .int dn, .int md, .int pw, .int cm, .int wr, .ref se, .ref ec, .ref lc, .ref wc, .ref ol, .ref al, .int cs, .int hm9]))) H := hm
          have hkp : kpx (fun a => a ∈ [mo, cn, ia, dr, en, la, wo, op, mk, ir, se, ec, lc, wc, ol, al]) M (mu M mo (.inr (6, [.int 2, .ref cn, .ref ia, .ref dr, .ref en, .ref la, .ref wo, .int ni, .ref op, .ref mk, .ref ir, .int dn, .int md, .int pw, .int cm, .int wr, .ref se, .ref ec, .ref lc, .ref wc, .ref ol, .ref al, .int cs, .int hm9]))) := (hkp).self (by simp)
          refine lv_if_eq (tgt := 37) hx hb dX6_remove_32 (by decide) (fun c30 => ?_) (fun c30 => ?_)
          · first | exact absurd c30 (by decide) | exact absurd (by decide) c30
          · refine lv_iconst (v := 0) hx hb dX6_remove_35 (by decide) ?_
            refine W.zret hx hb hr rfl (fun t ht hW => ⟨⟨some (.int 0), _, rfl, ?_, by rw [ht]; exact hm⟩, hS.F ht⟩) hS.2.2 dX6_remove_36
            exact ⟨⟨_, rfl⟩, ⟨_, _, _, _, _, _, _, fcn, fia, fdr, fen, fla, fwo, fop, fmk, fir, fse, fec, flc, fol, fal, fwc, hap, (mu_self _ _ _), hmd, ⟨hrC, hrL, hrM⟩, ((mu_ne ne_cn_mo).trans hcn), ((mu_ne ne_ia_mo).trans hia), ((mu_ne ne_dr_mo).trans hdr), ((mu_ne ne_en_mo).trans hen), ((mu_ne ne_la_mo).trans hla), ((mu_ne ne_wo_mo).trans hwo), ((mu_ne ne_op_mo).trans hop), ((mu_ne ne_mk_mo).trans hmk), ((mu_ne ne_ir_mo).trans hir), ((mu_ne ne_se_mo).trans hse), ((mu_ne ne_ec_mo).trans hec), ((mu_ne ne_lc_mo).trans hlc), ((mu_ne ne_wc_mo).trans hwc), ((mu_ne ne_ol_mo).trans hol), ((mu_ne ne_al_mo).trans hal)⟩, hkp⟩
        · first | exact absurd c29 (by decide) | exact absurd (by decide) c29
    · first | exact absurd c3 (by decide) | exact absurd (by decide) c3

set_option maxHeartbeats 4000000 in
set_option maxRecDepth 100000 in
theorem x_X6_copyTree310 (l : Launch) (D : va_G) (k : Nat → ClassId) (z : Nat) (M : mM) (mo cn ia dr en la wo op mk ir se ec lc wc ol al : Nat) (dn md : Int32)  (hmd0 : md = 0) (hI : mI k M mo cn ia dr en la wo op mk ir se ec lc wc ol al dn md) : mK l yX6_copyTree wsX6_copyTree ({ frames := 1, cells := 0, slots := 0, locals := 23 }) D k z [.ref mo, .int 31, .int 0] M (fun v M' => (v = none ∧ cnt31 k M' cn 40) ∧ mI k M' mo cn ia dr en la wo op mk ir se ec lc wc ol al dn md ∧ kpx (fun a => a ∈ [cn, ia, dr, en, la, wo]) M M') := by
  refine Met.ofW (cc := cX6_copyTree) (maxL := 4) (ret := none) (by decide) rfl ?_
  intro p e s m args below meth c s₁ B hml hv
  obtain ⟨rfl, hz, hcx, hm⟩ := hv
  have hx := B.exec
  have hb := B.bytes
  have hr := B.returns
  have hts := atoms_spec (ws := wsX6_copyTree) B.pre
  have hown : s.vm.findClass RX6 = some m.cls := findClass_of_methodNamed B.named
  have hlocks := B.notSynchronized
  have hK := hcx.1
  have hS : va_S (AZ z) s.heap s.heap [] := va_S.rf
  have hA : ∀ q, s.heap.size ≤ q → AZ z q := fun q h => Nat.le_trans hz h
  have hl := lv_entry ([.ref mo, .int 31, .int 0]) (n := 4) (Nat.le_of_ble_eq_true rfl)
  rw [lg_entry_eq]
  generalize (lg_sl ([.ref mo, .int 31, .int 0]) ++ List.replicate (4 - (lg_sl ([.ref mo, .int 31, .int 0])).length) Slot.unset).toArray = ls at hl ⊢
  have hl : lv_has ls 4 [(0, .ref mo), (1, .int 31), (2, .int 0)] := hl
  have f7 := hts (.fieldLink RX6 7 "CommitTreeModel" "counts" "[I") (by decide +kernel)
  have wX6 : ∀ w ∈ wsX60, w ∈ wsX6_copyTree := by decide +kernel
  obtain ⟨cd, ni, pw, cm, wr, cs, hm9, fcn, fia, fdr, fen, fla, fwo, fop, fmk, fir, fse, fec, flc, fol, fal, fwc, hap, hM, hmd, ⟨hrC, hrL, hrM⟩, hcn, hia, hdr, hen, hla, hwo, hop, hmk, hir, hse, hec, hlc, hwc, hol, hal⟩ := id hI
  have ne_mo_cn : nq mo cn := pw_ne hap 0 1 (by decide) (Nat.le_of_ble_eq_true rfl)
  have ne_cn_mo : nq cn mo := Ne.symm ne_mo_cn
  have ne_mo_ia : nq mo ia := pw_ne hap 0 2 (by decide) (Nat.le_of_ble_eq_true rfl)
  have ne_ia_mo : nq ia mo := Ne.symm ne_mo_ia
  have ne_mo_dr : nq mo dr := pw_ne hap 0 3 (by decide) (Nat.le_of_ble_eq_true rfl)
  have ne_dr_mo : nq dr mo := Ne.symm ne_mo_dr
  have ne_mo_en : nq mo en := pw_ne hap 0 4 (by decide) (Nat.le_of_ble_eq_true rfl)
  have ne_en_mo : nq en mo := Ne.symm ne_mo_en
  have ne_mo_la : nq mo la := pw_ne hap 0 5 (by decide) (Nat.le_of_ble_eq_true rfl)
  have ne_la_mo : nq la mo := Ne.symm ne_mo_la
  have ne_mo_wo : nq mo wo := pw_ne hap 0 6 (by decide) (Nat.le_of_ble_eq_true rfl)
  have ne_wo_mo : nq wo mo := Ne.symm ne_mo_wo
  have ne_mo_op : nq mo op := pw_ne hap 0 7 (by decide) (Nat.le_of_ble_eq_true rfl)
  have ne_op_mo : nq op mo := Ne.symm ne_mo_op
  have ne_mo_mk : nq mo mk := pw_ne hap 0 8 (by decide) (Nat.le_of_ble_eq_true rfl)
  have ne_mk_mo : nq mk mo := Ne.symm ne_mo_mk
  have ne_mo_ir : nq mo ir := pw_ne hap 0 9 (by decide) (Nat.le_of_ble_eq_true rfl)
  have ne_ir_mo : nq ir mo := Ne.symm ne_mo_ir
  have ne_mo_se : nq mo se := pw_ne hap 0 10 (by decide) (Nat.le_of_ble_eq_true rfl)
  have ne_se_mo : nq se mo := Ne.symm ne_mo_se
  have ne_mo_ec : nq mo ec := pw_ne hap 0 11 (by decide) (Nat.le_of_ble_eq_true rfl)
  have ne_ec_mo : nq ec mo := Ne.symm ne_mo_ec
  have ne_mo_lc : nq mo lc := pw_ne hap 0 12 (by decide) (Nat.le_of_ble_eq_true rfl)
  have ne_lc_mo : nq lc mo := Ne.symm ne_mo_lc
  have ne_mo_wc : nq mo wc := pw_ne hap 0 13 (by decide) (Nat.le_of_ble_eq_true rfl)
  have ne_wc_mo : nq wc mo := Ne.symm ne_mo_wc
  have ne_mo_ol : nq mo ol := pw_ne hap 0 14 (by decide) (Nat.le_of_ble_eq_true rfl)
  have ne_ol_mo : nq ol mo := Ne.symm ne_mo_ol
  have ne_mo_al : nq mo al := pw_ne hap 0 15 (by decide) (Nat.le_of_ble_eq_true rfl)
  have ne_al_mo : nq al mo := Ne.symm ne_mo_al
  have ne_cn_ia : nq cn ia := pw_ne hap 1 2 (by decide) (Nat.le_of_ble_eq_true rfl)
  have ne_ia_cn : nq ia cn := Ne.symm ne_cn_ia
  have ne_cn_dr : nq cn dr := pw_ne hap 1 3 (by decide) (Nat.le_of_ble_eq_true rfl)
  have ne_dr_cn : nq dr cn := Ne.symm ne_cn_dr
  have ne_cn_en : nq cn en := pw_ne hap 1 4 (by decide) (Nat.le_of_ble_eq_true rfl)
  have ne_en_cn : nq en cn := Ne.symm ne_cn_en
  have ne_cn_la : nq cn la := pw_ne hap 1 5 (by decide) (Nat.le_of_ble_eq_true rfl)
  have ne_la_cn : nq la cn := Ne.symm ne_cn_la
  have ne_cn_wo : nq cn wo := pw_ne hap 1 6 (by decide) (Nat.le_of_ble_eq_true rfl)
  have ne_wo_cn : nq wo cn := Ne.symm ne_cn_wo
  have ne_cn_op : nq cn op := pw_ne hap 1 7 (by decide) (Nat.le_of_ble_eq_true rfl)
  have ne_op_cn : nq op cn := Ne.symm ne_cn_op
  have ne_cn_mk : nq cn mk := pw_ne hap 1 8 (by decide) (Nat.le_of_ble_eq_true rfl)
  have ne_mk_cn : nq mk cn := Ne.symm ne_cn_mk
  have ne_cn_ir : nq cn ir := pw_ne hap 1 9 (by decide) (Nat.le_of_ble_eq_true rfl)
  have ne_ir_cn : nq ir cn := Ne.symm ne_cn_ir
  have ne_cn_se : nq cn se := pw_ne hap 1 10 (by decide) (Nat.le_of_ble_eq_true rfl)
  have ne_se_cn : nq se cn := Ne.symm ne_cn_se
  have ne_cn_ec : nq cn ec := pw_ne hap 1 11 (by decide) (Nat.le_of_ble_eq_true rfl)
  have ne_ec_cn : nq ec cn := Ne.symm ne_cn_ec
  have ne_cn_lc : nq cn lc := pw_ne hap 1 12 (by decide) (Nat.le_of_ble_eq_true rfl)
  have ne_lc_cn : nq lc cn := Ne.symm ne_cn_lc
  have ne_cn_wc : nq cn wc := pw_ne hap 1 13 (by decide) (Nat.le_of_ble_eq_true rfl)
  have ne_wc_cn : nq wc cn := Ne.symm ne_cn_wc
  have ne_cn_ol : nq cn ol := pw_ne hap 1 14 (by decide) (Nat.le_of_ble_eq_true rfl)
  have ne_ol_cn : nq ol cn := Ne.symm ne_cn_ol
  have ne_cn_al : nq cn al := pw_ne hap 1 15 (by decide) (Nat.le_of_ble_eq_true rfl)
  have ne_al_cn : nq al cn := Ne.symm ne_cn_al
  have ne_ia_dr : nq ia dr := pw_ne hap 2 3 (by decide) (Nat.le_of_ble_eq_true rfl)
  have ne_dr_ia : nq dr ia := Ne.symm ne_ia_dr
  have ne_ia_en : nq ia en := pw_ne hap 2 4 (by decide) (Nat.le_of_ble_eq_true rfl)
  have ne_en_ia : nq en ia := Ne.symm ne_ia_en
  have ne_ia_la : nq ia la := pw_ne hap 2 5 (by decide) (Nat.le_of_ble_eq_true rfl)
  have ne_la_ia : nq la ia := Ne.symm ne_ia_la
  have ne_ia_wo : nq ia wo := pw_ne hap 2 6 (by decide) (Nat.le_of_ble_eq_true rfl)
  have ne_wo_ia : nq wo ia := Ne.symm ne_ia_wo
  have ne_ia_op : nq ia op := pw_ne hap 2 7 (by decide) (Nat.le_of_ble_eq_true rfl)
  have ne_op_ia : nq op ia := Ne.symm ne_ia_op
  have ne_ia_mk : nq ia mk := pw_ne hap 2 8 (by decide) (Nat.le_of_ble_eq_true rfl)
  have ne_mk_ia : nq mk ia := Ne.symm ne_ia_mk
  have ne_ia_ir : nq ia ir := pw_ne hap 2 9 (by decide) (Nat.le_of_ble_eq_true rfl)
  have ne_ir_ia : nq ir ia := Ne.symm ne_ia_ir
  have ne_ia_se : nq ia se := pw_ne hap 2 10 (by decide) (Nat.le_of_ble_eq_true rfl)
  have ne_se_ia : nq se ia := Ne.symm ne_ia_se
  have ne_ia_ec : nq ia ec := pw_ne hap 2 11 (by decide) (Nat.le_of_ble_eq_true rfl)
  have ne_ec_ia : nq ec ia := Ne.symm ne_ia_ec
  have ne_ia_lc : nq ia lc := pw_ne hap 2 12 (by decide) (Nat.le_of_ble_eq_true rfl)
  have ne_lc_ia : nq lc ia := Ne.symm ne_ia_lc
  have ne_ia_wc : nq ia wc := pw_ne hap 2 13 (by decide) (Nat.le_of_ble_eq_true rfl)
  have ne_wc_ia : nq wc ia := Ne.symm ne_ia_wc
  have ne_ia_ol : nq ia ol := pw_ne hap 2 14 (by decide) (Nat.le_of_ble_eq_true rfl)
  have ne_ol_ia : nq ol ia := Ne.symm ne_ia_ol
  have ne_ia_al : nq ia al := pw_ne hap 2 15 (by decide) (Nat.le_of_ble_eq_true rfl)
  have ne_al_ia : nq al ia := Ne.symm ne_ia_al
  have ne_dr_en : nq dr en := pw_ne hap 3 4 (by decide) (Nat.le_of_ble_eq_true rfl)
  have ne_en_dr : nq en dr := Ne.symm ne_dr_en
  have ne_dr_la : nq dr la := pw_ne hap 3 5 (by decide) (Nat.le_of_ble_eq_true rfl)
  have ne_la_dr : nq la dr := Ne.symm ne_dr_la
  have ne_dr_wo : nq dr wo := pw_ne hap 3 6 (by decide) (Nat.le_of_ble_eq_true rfl)
  have ne_wo_dr : nq wo dr := Ne.symm ne_dr_wo
  have ne_dr_op : nq dr op := pw_ne hap 3 7 (by decide) (Nat.le_of_ble_eq_true rfl)
  have ne_op_dr : nq op dr := Ne.symm ne_dr_op
  have ne_dr_mk : nq dr mk := pw_ne hap 3 8 (by decide) (Nat.le_of_ble_eq_true rfl)
  have ne_mk_dr : nq mk dr := Ne.symm ne_dr_mk
  have ne_dr_ir : nq dr ir := pw_ne hap 3 9 (by decide) (Nat.le_of_ble_eq_true rfl)
  have ne_ir_dr : nq ir dr := Ne.symm ne_dr_ir
  have ne_dr_se : nq dr se := pw_ne hap 3 10 (by decide) (Nat.le_of_ble_eq_true rfl)
  have ne_se_dr : nq se dr := Ne.symm ne_dr_se
  have ne_dr_ec : nq dr ec := pw_ne hap 3 11 (by decide) (Nat.le_of_ble_eq_true rfl)
  have ne_ec_dr : nq ec dr := Ne.symm ne_dr_ec
  have ne_dr_lc : nq dr lc := pw_ne hap 3 12 (by decide) (Nat.le_of_ble_eq_true rfl)
  have ne_lc_dr : nq lc dr := Ne.symm ne_dr_lc
  have ne_dr_wc : nq dr wc := pw_ne hap 3 13 (by decide) (Nat.le_of_ble_eq_true rfl)
  have ne_wc_dr : nq wc dr := Ne.symm ne_dr_wc
  have ne_dr_ol : nq dr ol := pw_ne hap 3 14 (by decide) (Nat.le_of_ble_eq_true rfl)
  have ne_ol_dr : nq ol dr := Ne.symm ne_dr_ol
  have ne_dr_al : nq dr al := pw_ne hap 3 15 (by decide) (Nat.le_of_ble_eq_true rfl)
  have ne_al_dr : nq al dr := Ne.symm ne_dr_al
  have ne_en_la : nq en la := pw_ne hap 4 5 (by decide) (Nat.le_of_ble_eq_true rfl)
  have ne_la_en : nq la en := Ne.symm ne_en_la
  have ne_en_wo : nq en wo := pw_ne hap 4 6 (by decide) (Nat.le_of_ble_eq_true rfl)
  have ne_wo_en : nq wo en := Ne.symm ne_en_wo
  have ne_en_op : nq en op := pw_ne hap 4 7 (by decide) (Nat.le_of_ble_eq_true rfl)
  have ne_op_en : nq op en := Ne.symm ne_en_op
  have ne_en_mk : nq en mk := pw_ne hap 4 8 (by decide) (Nat.le_of_ble_eq_true rfl)
  have ne_mk_en : nq mk en := Ne.symm ne_en_mk
  have ne_en_ir : nq en ir := pw_ne hap 4 9 (by decide) (Nat.le_of_ble_eq_true rfl)
  have ne_ir_en : nq ir en := Ne.symm ne_en_ir
  have ne_en_se : nq en se := pw_ne hap 4 10 (by decide) (Nat.le_of_ble_eq_true rfl)
  have ne_se_en : nq se en := Ne.symm ne_en_se
  have ne_en_ec : nq en ec := pw_ne hap 4 11 (by decide) (Nat.le_of_ble_eq_true rfl)
  have ne_ec_en : nq ec en := Ne.symm ne_en_ec
  have ne_en_lc : nq en lc := pw_ne hap 4 12 (by decide) (Nat.le_of_ble_eq_true rfl)
  have ne_lc_en : nq lc en := Ne.symm ne_en_lc
  have ne_en_wc : nq en wc := pw_ne hap 4 13 (by decide) (Nat.le_of_ble_eq_true rfl)
  have ne_wc_en : nq wc en := Ne.symm ne_en_wc
  have ne_en_ol : nq en ol := pw_ne hap 4 14 (by decide) (Nat.le_of_ble_eq_true rfl)
  have ne_ol_en : nq ol en := Ne.symm ne_en_ol
  have ne_en_al : nq en al := pw_ne hap 4 15 (by decide) (Nat.le_of_ble_eq_true rfl)
  have ne_al_en : nq al en := Ne.symm ne_en_al
  have ne_la_wo : nq la wo := pw_ne hap 5 6 (by decide) (Nat.le_of_ble_eq_true rfl)
  have ne_wo_la : nq wo la := Ne.symm ne_la_wo
  have ne_la_op : nq la op := pw_ne hap 5 7 (by decide) (Nat.le_of_ble_eq_true rfl)
  have ne_op_la : nq op la := Ne.symm ne_la_op
  have ne_la_mk : nq la mk := pw_ne hap 5 8 (by decide) (Nat.le_of_ble_eq_true rfl)
  have ne_mk_la : nq mk la := Ne.symm ne_la_mk
  have ne_la_ir : nq la ir := pw_ne hap 5 9 (by decide) (Nat.le_of_ble_eq_true rfl)
  have ne_ir_la : nq ir la := Ne.symm ne_la_ir
  have ne_la_se : nq la se := pw_ne hap 5 10 (by decide) (Nat.le_of_ble_eq_true rfl)
  have ne_se_la : nq se la := Ne.symm ne_la_se
  have ne_la_ec : nq la ec := pw_ne hap 5 11 (by decide) (Nat.le_of_ble_eq_true rfl)
  have ne_ec_la : nq ec la := Ne.symm ne_la_ec
  have ne_la_lc : nq la lc := pw_ne hap 5 12 (by decide) (Nat.le_of_ble_eq_true rfl)
  have ne_lc_la : nq lc la := Ne.symm ne_la_lc
  have ne_la_wc : nq la wc := pw_ne hap 5 13 (by decide) (Nat.le_of_ble_eq_true rfl)
  have ne_wc_la : nq wc la := Ne.symm ne_la_wc
  have ne_la_ol : nq la ol := pw_ne hap 5 14 (by decide) (Nat.le_of_ble_eq_true rfl)
  have ne_ol_la : nq ol la := Ne.symm ne_la_ol
  have ne_la_al : nq la al := pw_ne hap 5 15 (by decide) (Nat.le_of_ble_eq_true rfl)
  have ne_al_la : nq al la := Ne.symm ne_la_al
  have ne_wo_op : nq wo op := pw_ne hap 6 7 (by decide) (Nat.le_of_ble_eq_true rfl)
  have ne_op_wo : nq op wo := Ne.symm ne_wo_op
  have ne_wo_mk : nq wo mk := pw_ne hap 6 8 (by decide) (Nat.le_of_ble_eq_true rfl)
  have ne_mk_wo : nq mk wo := Ne.symm ne_wo_mk
  have ne_wo_ir : nq wo ir := pw_ne hap 6 9 (by decide) (Nat.le_of_ble_eq_true rfl)
  have ne_ir_wo : nq ir wo := Ne.symm ne_wo_ir
  have ne_wo_se : nq wo se := pw_ne hap 6 10 (by decide) (Nat.le_of_ble_eq_true rfl)
  have ne_se_wo : nq se wo := Ne.symm ne_wo_se
  have ne_wo_ec : nq wo ec := pw_ne hap 6 11 (by decide) (Nat.le_of_ble_eq_true rfl)
  have ne_ec_wo : nq ec wo := Ne.symm ne_wo_ec
  have ne_wo_lc : nq wo lc := pw_ne hap 6 12 (by decide) (Nat.le_of_ble_eq_true rfl)
  have ne_lc_wo : nq lc wo := Ne.symm ne_wo_lc
  have ne_wo_wc : nq wo wc := pw_ne hap 6 13 (by decide) (Nat.le_of_ble_eq_true rfl)
  have ne_wc_wo : nq wc wo := Ne.symm ne_wo_wc
  have ne_wo_ol : nq wo ol := pw_ne hap 6 14 (by decide) (Nat.le_of_ble_eq_true rfl)
  have ne_ol_wo : nq ol wo := Ne.symm ne_wo_ol
  have ne_wo_al : nq wo al := pw_ne hap 6 15 (by decide) (Nat.le_of_ble_eq_true rfl)
  have ne_al_wo : nq al wo := Ne.symm ne_wo_al
  have ne_op_mk : nq op mk := pw_ne hap 7 8 (by decide) (Nat.le_of_ble_eq_true rfl)
  have ne_mk_op : nq mk op := Ne.symm ne_op_mk
  have ne_op_ir : nq op ir := pw_ne hap 7 9 (by decide) (Nat.le_of_ble_eq_true rfl)
  have ne_ir_op : nq ir op := Ne.symm ne_op_ir
  have ne_op_se : nq op se := pw_ne hap 7 10 (by decide) (Nat.le_of_ble_eq_true rfl)
  have ne_se_op : nq se op := Ne.symm ne_op_se
  have ne_op_ec : nq op ec := pw_ne hap 7 11 (by decide) (Nat.le_of_ble_eq_true rfl)
  have ne_ec_op : nq ec op := Ne.symm ne_op_ec
  have ne_op_lc : nq op lc := pw_ne hap 7 12 (by decide) (Nat.le_of_ble_eq_true rfl)
  have ne_lc_op : nq lc op := Ne.symm ne_op_lc
  have ne_op_wc : nq op wc := pw_ne hap 7 13 (by decide) (Nat.le_of_ble_eq_true rfl)
  have ne_wc_op : nq wc op := Ne.symm ne_op_wc
  have ne_op_ol : nq op ol := pw_ne hap 7 14 (by decide) (Nat.le_of_ble_eq_true rfl)
  have ne_ol_op : nq ol op := Ne.symm ne_op_ol
  have ne_op_al : nq op al := pw_ne hap 7 15 (by decide) (Nat.le_of_ble_eq_true rfl)
  have ne_al_op : nq al op := Ne.symm ne_op_al
  have ne_mk_ir : nq mk ir := pw_ne hap 8 9 (by decide) (Nat.le_of_ble_eq_true rfl)
  have ne_ir_mk : nq ir mk := Ne.symm ne_mk_ir
  have ne_mk_se : nq mk se := pw_ne hap 8 10 (by decide) (Nat.le_of_ble_eq_true rfl)
  have ne_se_mk : nq se mk := Ne.symm ne_mk_se
  have ne_mk_ec : nq mk ec := pw_ne hap 8 11 (by decide) (Nat.le_of_ble_eq_true rfl)
  have ne_ec_mk : nq ec mk := Ne.symm ne_mk_ec
  have ne_mk_lc : nq mk lc := pw_ne hap 8 12 (by decide) (Nat.le_of_ble_eq_true rfl)
  have ne_lc_mk : nq lc mk := Ne.symm ne_mk_lc
  have ne_mk_wc : nq mk wc := pw_ne hap 8 13 (by decide) (Nat.le_of_ble_eq_true rfl)
  have ne_wc_mk : nq wc mk := Ne.symm ne_mk_wc
  have ne_mk_ol : nq mk ol := pw_ne hap 8 14 (by decide) (Nat.le_of_ble_eq_true rfl)
  have ne_ol_mk : nq ol mk := Ne.symm ne_mk_ol
  have ne_mk_al : nq mk al := pw_ne hap 8 15 (by decide) (Nat.le_of_ble_eq_true rfl)
  have ne_al_mk : nq al mk := Ne.symm ne_mk_al
  have ne_ir_se : nq ir se := pw_ne hap 9 10 (by decide) (Nat.le_of_ble_eq_true rfl)
  have ne_se_ir : nq se ir := Ne.symm ne_ir_se
  have ne_ir_ec : nq ir ec := pw_ne hap 9 11 (by decide) (Nat.le_of_ble_eq_true rfl)
  have ne_ec_ir : nq ec ir := Ne.symm ne_ir_ec
  have ne_ir_lc : nq ir lc := pw_ne hap 9 12 (by decide) (Nat.le_of_ble_eq_true rfl)
  have ne_lc_ir : nq lc ir := Ne.symm ne_ir_lc
  have ne_ir_wc : nq ir wc := pw_ne hap 9 13 (by decide) (Nat.le_of_ble_eq_true rfl)
  have ne_wc_ir : nq wc ir := Ne.symm ne_ir_wc
  have ne_ir_ol : nq ir ol := pw_ne hap 9 14 (by decide) (Nat.le_of_ble_eq_true rfl)
  have ne_ol_ir : nq ol ir := Ne.symm ne_ir_ol
  have ne_ir_al : nq ir al := pw_ne hap 9 15 (by decide) (Nat.le_of_ble_eq_true rfl)
  have ne_al_ir : nq al ir := Ne.symm ne_ir_al
  have ne_se_ec : nq se ec := pw_ne hap 10 11 (by decide) (Nat.le_of_ble_eq_true rfl)
  have ne_ec_se : nq ec se := Ne.symm ne_se_ec
  have ne_se_lc : nq se lc := pw_ne hap 10 12 (by decide) (Nat.le_of_ble_eq_true rfl)
  have ne_lc_se : nq lc se := Ne.symm ne_se_lc
  have ne_se_wc : nq se wc := pw_ne hap 10 13 (by decide) (Nat.le_of_ble_eq_true rfl)
  have ne_wc_se : nq wc se := Ne.symm ne_se_wc
  have ne_se_ol : nq se ol := pw_ne hap 10 14 (by decide) (Nat.le_of_ble_eq_true rfl)
  have ne_ol_se : nq ol se := Ne.symm ne_se_ol
  have ne_se_al : nq se al := pw_ne hap 10 15 (by decide) (Nat.le_of_ble_eq_true rfl)
  have ne_al_se : nq al se := Ne.symm ne_se_al
  have ne_ec_lc : nq ec lc := pw_ne hap 11 12 (by decide) (Nat.le_of_ble_eq_true rfl)
  have ne_lc_ec : nq lc ec := Ne.symm ne_ec_lc
  have ne_ec_wc : nq ec wc := pw_ne hap 11 13 (by decide) (Nat.le_of_ble_eq_true rfl)
  have ne_wc_ec : nq wc ec := Ne.symm ne_ec_wc
  have ne_ec_ol : nq ec ol := pw_ne hap 11 14 (by decide) (Nat.le_of_ble_eq_true rfl)
  have ne_ol_ec : nq ol ec := Ne.symm ne_ec_ol
  have ne_ec_al : nq ec al := pw_ne hap 11 15 (by decide) (Nat.le_of_ble_eq_true rfl)
  have ne_al_ec : nq al ec := Ne.symm ne_ec_al
  have ne_lc_wc : nq lc wc := pw_ne hap 12 13 (by decide) (Nat.le_of_ble_eq_true rfl)
  have ne_wc_lc : nq wc lc := Ne.symm ne_lc_wc
  have ne_lc_ol : nq lc ol := pw_ne hap 12 14 (by decide) (Nat.le_of_ble_eq_true rfl)
  have ne_ol_lc : nq ol lc := Ne.symm ne_lc_ol
  have ne_lc_al : nq lc al := pw_ne hap 12 15 (by decide) (Nat.le_of_ble_eq_true rfl)
  have ne_al_lc : nq al lc := Ne.symm ne_lc_al
  have ne_wc_ol : nq wc ol := pw_ne hap 13 14 (by decide) (Nat.le_of_ble_eq_true rfl)
  have ne_ol_wc : nq ol wc := Ne.symm ne_wc_ol
  have ne_wc_al : nq wc al := pw_ne hap 13 15 (by decide) (Nat.le_of_ble_eq_true rfl)
  have ne_al_wc : nq al wc := Ne.symm ne_wc_al
  have ne_ol_al : nq ol al := pw_ne hap 14 15 (by decide) (Nat.le_of_ble_eq_true rfl)
  have ne_al_ol : nq al ol := Ne.symm ne_ol_al
  have hkp : kpx (fun a => a ∈ [cn, ia, dr, en, la, wo]) M M := kpx.refl _ _
  refine lv_aload_n hx hb dX6_copyTree_0 rfl (lv_at hl 0 rfl) ?_
  refine m_get (T := TX6) (N := 24) (ci := 6) (v := .ref cn) hx hb hts wX6 hown hK hm hM rfl 1 (by decide) f7 (fun _ h9 => h9) rfl dX6_copyTree_1 ?_
  refine lv_iload_n hx hb dX6_copyTree_4 rfl (lv_at hl 1 rfl) ?_
  refine lv_aload_n hx hb dX6_copyTree_5 rfl (lv_at hl 0 rfl) ?_
  refine m_get (T := TX6) (N := 24) (ci := 6) (v := .ref cn) hx hb hts wX6 hown hK hm hM rfl 1 (by decide) f7 (fun _ h9 => h9) rfl dX6_copyTree_6 ?_
  refine lv_iload_n hx hb dX6_copyTree_9 rfl (lv_at hl 2 rfl) ?_
  refine m_iald hx hb hK hm 0 hcn rfl (by unfold vp_in; decide) dX6_copyTree_10 ?_
  obtain ⟨u1, hu1, eu1⟩ := hrC 0
  refine W.eq (g2 := F0 m 11 ls [.int (nI u1), .int 31, .ref cn]) (by rw [show (fcn (0 : Int32).toNatClampNeg) = nI u1 from (congrArg fcn (show (0 : Int32).toNatClampNeg = 0 from rfl)).trans eu1]) ?_
  have hb_u1 := hu1
  have hu1 : u1 ≤ 100 := Nat.le_trans hu1 (bC_le _)
  have hsu1 : u1 ≤ 40 := hb_u1
  refine m_iast hx hb hK hm hS 0 hcn rfl (by unfold vp_in; decide) dX6_copyTree_11 (fun H locs hm hS => ?_)
  have hrC : rng bC (upd fcn (31 : Int32).toNatClampNeg (nI u1)) := (hrC).up _ u1 (show u1 ≤ bC 31 from (show u1 ≤ 100 by omega))
  have hmd : md ≠ 0 → ∃ n, n ≤ 40 ∧ (upd fcn (31 : Int32).toNatClampNeg (nI u1)) 31 = nI n := fun q => absurd hmd0 q
  have hm : mm D (AZ z) (mu M cn (.inl (k 0, 32, .inl (upd fcn (31 : Int32).toNatClampNeg (nI u1))))) H := hm
  have hkp : kpx (fun a => a ∈ [cn, ia, dr, en, la, wo]) M (mu M cn (.inl (k 0, 32, .inl (upd fcn (31 : Int32).toNatClampNeg (nI u1))))) := (hkp).self (by simp)
  refine lv_iconst (v := 0) hx hb dX6_copyTree_12 (by decide) ?_
  refine lv_istore_n (lv' := [(3, .int 0), (0, .ref mo), (1, .int 31), (2, .int 0)]) hx hb dX6_copyTree_13 rfl hl (by decide) rfl (fun ls hl => ?_)
  have hI0 : mI k (mu M cn (.inl (k 0, 32, .inl (upd fcn (31 : Int32).toNatClampNeg (nI u1))))) mo cn ia dr en la wo op mk ir se ec lc wc ol al dn md := ⟨_, _, _, _, _, _, _, (upd fcn (31 : Int32).toNatClampNeg (nI u1)), fia, fdr, fen, fla, fwo, fop, fmk, fir, fse, fec, flc, fol, fal, fwc, hap, ((mu_ne ne_mo_cn).trans hM), hmd, ⟨hrC, hrL, hrM⟩, (mu_self _ _ _), ((mu_ne ne_ia_cn).trans hia), ((mu_ne ne_dr_cn).trans hdr), ((mu_ne ne_en_cn).trans hen), ((mu_ne ne_la_cn).trans hla), ((mu_ne ne_wo_cn).trans hwo), ((mu_ne ne_op_cn).trans hop), ((mu_ne ne_mk_cn).trans hmk), ((mu_ne ne_ir_cn).trans hir), ((mu_ne ne_se_cn).trans hse), ((mu_ne ne_ec_cn).trans hec), ((mu_ne ne_lc_cn).trans hlc), ((mu_ne ne_wc_cn).trans hwc), ((mu_ne ne_ol_cn).trans hol), ((mu_ne ne_al_cn).trans hal)⟩
  refine W_loop (σ := Nat × mM) (fun ⟨j14, Ml14⟩ H locs ls => (0 ≤ j14 ∧ j14 < 2147483000) ∧ (mI k Ml14 mo cn ia dr en la wo op mk ir se ec lc wc ol al dn md) ∧ (kpx (fun a => a ∈ [cn, ia, dr, en, la, wo]) M Ml14) ∧ (kpx (fun a => a ∈ [ia, dr, en, la, wo]) (mu M cn (.inl (k 0, 32, .inl (upd fcn (31 : Int32).toNatClampNeg (nI u1))))) Ml14) ∧ mm D (AZ z) Ml14 H ∧ va_S (AZ z) s.heap H locs ∧ lv_has ls 4 [(3, .int (nI j14)), (0, .ref mo), (1, .int 31), (2, .int 0)]) (fun ⟨j14, Ml14⟩ => 2147483648 - j14) (fun _ => 0) (fun _ => 0) ?_ (0, (mu M cn (.inl (k 0, 32, .inl (upd fcn (31 : Int32).toNatClampNeg (nI u1)))))) _ _ _ ⟨⟨Nat.le_refl _, by omega⟩, hI0, hkp, (kpx.refl _ _), hm, hS, lv_sub hl [0, 1, 2, 3] rfl⟩
  intro ⟨j14, Ml14⟩ H locs ls hQ ih14
  obtain ⟨hj14, hI, hkp, hkl14, hm, hS, hl⟩ := hQ
  try dsimp only at hm hl ih14 hj14 hI hkp hkl14 ⊢
  obtain ⟨_, _, _, _, _, _, _, _, fia_1, fdr_1, fen_1, fla_1, fwo_1, _, _, _, _, _, _, _, _, _, -, -, hmd_1, ⟨-, hrL_1, -⟩, -, hia_1, hdr_1, hen_1, hla_1, hwo_1, -, -, -, -, -, -, -, -, -⟩ := id hI
  have kmo_1 := hkl14 _ _ (by simp only [List.mem_cons, List.not_mem_nil, or_false, not_or]; exact ⟨ne_mo_ia, ne_mo_dr, ne_mo_en, ne_mo_la, ne_mo_wo⟩) ((mu_ne ne_mo_cn).trans hM)
  have kcn_1 := hkl14 _ _ (by simp only [List.mem_cons, List.not_mem_nil, or_false, not_or]; exact ⟨ne_cn_ia, ne_cn_dr, ne_cn_en, ne_cn_la, ne_cn_wo⟩) (mu_self _ _ _)
  have kop_1 := hkl14 _ _ (by simp only [List.mem_cons, List.not_mem_nil, or_false, not_or]; exact ⟨ne_op_ia, ne_op_dr, ne_op_en, ne_op_la, ne_op_wo⟩) ((mu_ne ne_op_cn).trans hop)
  have kmk_1 := hkl14 _ _ (by simp only [List.mem_cons, List.not_mem_nil, or_false, not_or]; exact ⟨ne_mk_ia, ne_mk_dr, ne_mk_en, ne_mk_la, ne_mk_wo⟩) ((mu_ne ne_mk_cn).trans hmk)
  have kir_1 := hkl14 _ _ (by simp only [List.mem_cons, List.not_mem_nil, or_false, not_or]; exact ⟨ne_ir_ia, ne_ir_dr, ne_ir_en, ne_ir_la, ne_ir_wo⟩) ((mu_ne ne_ir_cn).trans hir)
  have kse_1 := hkl14 _ _ (by simp only [List.mem_cons, List.not_mem_nil, or_false, not_or]; exact ⟨ne_se_ia, ne_se_dr, ne_se_en, ne_se_la, ne_se_wo⟩) ((mu_ne ne_se_cn).trans hse)
  have kec_1 := hkl14 _ _ (by simp only [List.mem_cons, List.not_mem_nil, or_false, not_or]; exact ⟨ne_ec_ia, ne_ec_dr, ne_ec_en, ne_ec_la, ne_ec_wo⟩) ((mu_ne ne_ec_cn).trans hec)
  have klc_1 := hkl14 _ _ (by simp only [List.mem_cons, List.not_mem_nil, or_false, not_or]; exact ⟨ne_lc_ia, ne_lc_dr, ne_lc_en, ne_lc_la, ne_lc_wo⟩) ((mu_ne ne_lc_cn).trans hlc)
  have kwc_1 := hkl14 _ _ (by simp only [List.mem_cons, List.not_mem_nil, or_false, not_or]; exact ⟨ne_wc_ia, ne_wc_dr, ne_wc_en, ne_wc_la, ne_wc_wo⟩) ((mu_ne ne_wc_cn).trans hwc)
  have kol_1 := hkl14 _ _ (by simp only [List.mem_cons, List.not_mem_nil, or_false, not_or]; exact ⟨ne_ol_ia, ne_ol_dr, ne_ol_en, ne_ol_la, ne_ol_wo⟩) ((mu_ne ne_ol_cn).trans hol)
  have kal_1 := hkl14 _ _ (by simp only [List.mem_cons, List.not_mem_nil, or_false, not_or]; exact ⟨ne_al_ia, ne_al_dr, ne_al_en, ne_al_la, ne_al_wo⟩) ((mu_ne ne_al_cn).trans hal)
  refine lv_iload_n hx hb dX6_copyTree_14 rfl (lv_at hl 0 rfl) ?_
  refine lv_aload_n hx hb dX6_copyTree_15 rfl (lv_at hl 1 rfl) ?_
  refine m_get (T := TX6) (N := 24) (ci := 6) (v := .ref cn) hx hb hts wX6 hown hK hm kmo_1 rfl 1 (by decide) f7 (fun _ h9 => h9) rfl dX6_copyTree_16 ?_
  refine lv_iload_n hx hb dX6_copyTree_19 rfl (lv_at hl 3 rfl) ?_
  refine m_iald hx hb hK hm 0 kcn_1 rfl (by unfold vp_in; decide) dX6_copyTree_20 ?_
  obtain ⟨u2, hu2, eu2⟩ := hrC 0
  refine W.eq (g2 := F0 m 21 ls [.int (nI u2), .int (nI j14)]) (by rw [show ((upd fcn (31 : Int32).toNatClampNeg (nI u1)) (0 : Int32).toNatClampNeg) = nI u2 from (congrArg (upd fcn (31 : Int32).toNatClampNeg (nI u1)) (show (0 : Int32).toNatClampNeg = 0 from rfl)).trans eu2]) ?_
  have hb_u2 := hu2
  have hu2 : u2 ≤ 100 := Nat.le_trans hu2 (bC_le _)
  have hsu2 : u2 ≤ 40 := hb_u2
  refine lv_icmp_ge (tgt := 46) hx hb dX6_copyTree_21 (by decide) (fun c3 => ?_) (fun c3 => ?_)
  · have hqc3 : u2 ≤ j14 := nb_le (a := u2) (b := j14) (by omega) (by omega) c3
    refine W.vret hx hb hr (fun t ht hW => ⟨⟨none, _, rfl, ?_, by rw [ht]; exact hm⟩, hS.F ht⟩) hS.2.2 dX6_copyTree_46
    exact ⟨⟨rfl, _, u1, kcn_1, if_pos rfl, by omega⟩, ⟨_, _, _, _, _, _, _, (upd fcn (31 : Int32).toNatClampNeg (nI u1)), fia_1, fdr_1, fen_1, fla_1, fwo_1, fop, fmk, fir, fse, fec, flc, fol, fal, fwc, hap, kmo_1, hmd, ⟨hrC, hrL_1, hrM⟩, kcn_1, hia_1, hdr_1, hen_1, hla_1, hwo_1, kop_1, kmk_1, kir_1, kse_1, kec_1, klc_1, kwc_1, kol_1, kal_1⟩, hkp⟩
  · have hqc3 : j14 < u2 := nb_nle (a := u2) (b := j14) (by omega) (by omega) c3
    refine lv_aload_n hx hb dX6_copyTree_24 rfl (lv_at hl 1 rfl) ?_
    refine lv_bipush (v := 100) hx hb dX6_copyTree_25 (by decide) ?_
    refine lv_iload_n hx hb dX6_copyTree_27 rfl (lv_at hl 2 rfl) ?_
    refine lv_imul hx hb dX6_copyTree_28 ?_
    refine W.eq (g2 := F0 m 29 ls [.int 3100, .ref mo]) (by first | rfl | decide) ?_
    refine lv_iload_n hx hb dX6_copyTree_29 rfl (lv_at hl 0 rfl) ?_
    refine lv_iadd hx hb dX6_copyTree_30 ?_
    refine W.eq (g2 := F0 m 31 ls [.int (nI (3100 + j14)), .ref mo]) (by rw [show ((3100) + ((nI j14)) : Int32) = nI (3100 + j14) from nI_add 3100 j14]) ?_
    refine lv_bipush (v := 100) hx hb dX6_copyTree_31 (by decide) ?_
    refine lv_iload_n hx hb dX6_copyTree_33 rfl (lv_at hl 3 rfl) ?_
    refine lv_imul hx hb dX6_copyTree_34 ?_
    refine W.eq (g2 := F0 m 35 ls [.int 0, .int (nI (3100 + j14)), .ref mo]) (by first | rfl | decide) ?_
    refine lv_iload_n hx hb dX6_copyTree_35 rfl (lv_at hl 0 rfl) ?_
    refine lv_iadd hx hb dX6_copyTree_36 ?_
    refine W.eq (g2 := F0 m 37 ls [.int (nI (0 + j14)), .int (nI (3100 + j14)), .ref mo]) (by rw [show ((0) + ((nI j14)) : Int32) = nI (0 + j14) from nI_add 0 j14]) ?_
    have hI0 : mI k Ml14 mo cn ia dr en la wo op mk ir se ec lc wc ol al dn md := ⟨_, _, _, _, _, _, _, (upd fcn (31 : Int32).toNatClampNeg (nI u1)), fia_1, fdr_1, fen_1, fla_1, fwo_1, fop, fmk, fir, fse, fec, flc, fol, fal, fwc, hap, kmo_1, hmd, ⟨hrC, hrL_1, hrM⟩, kcn_1, hia_1, hdr_1, hen_1, hla_1, hwo_1, kop_1, kmk_1, kir_1, kse_1, kec_1, klc_1, kwc_1, kol_1, kal_1⟩
    refine m_kV (As := [.int (nI (3100 + j14)), .int (nI (0 + j14))]) (rest := []) (rm := { frames := 0, cells := 0, slots := 0, locals := 0 }) ⟨hx, hb, hml, hown, hts⟩ (s_X6_copyNode l D k z _ mo cn ia dr en la wo op mk ir se ec lc wc ol al dn md (3100 + j14) (0 + j14) (by omega) (by omega) hI0) (cwV 2 hts gX6_copyTree_X6_copyNode rfl rfl rfl (by decide +kernel) ⟨Nat.le_of_ble_eq_true rfl, Nat.le_of_ble_eq_true rfl⟩) (m_recv hK hm (q := (RX6, TX6, 24)) rfl kmo_1) hz hcx hm hS rfl hl.1 rfl (Nat.le_of_ble_eq_true rfl) dX6_copyTree_37 ⟨Nat.le_of_ble_eq_true rfl, Nat.le_of_ble_eq_true rfl⟩ (fun v M1 H locs hv hm hS => ?_)
    obtain ⟨hv1, hI9, hk9⟩ := hv
    obtain ⟨_, _, _, _, _, _, _, _, fia_2, fdr_2, fen_2, fla_2, fwo_2, _, _, _, _, _, _, _, _, _, -, -, hmd_2, ⟨-, hrL_2, -⟩, -, hia_2, hdr_2, hen_2, hla_2, hwo_2, -, -, -, -, -, -, -, -, -⟩ := id hI9
    have kmo_2 := hk9 _ _ (by simp only [List.mem_cons, List.not_mem_nil, or_false, not_or]; exact ⟨ne_mo_ia, ne_mo_dr, ne_mo_en, ne_mo_la, ne_mo_wo⟩) kmo_1
    have kcn_2 := hk9 _ _ (by simp only [List.mem_cons, List.not_mem_nil, or_false, not_or]; exact ⟨ne_cn_ia, ne_cn_dr, ne_cn_en, ne_cn_la, ne_cn_wo⟩) kcn_1
    have kop_2 := hk9 _ _ (by simp only [List.mem_cons, List.not_mem_nil, or_false, not_or]; exact ⟨ne_op_ia, ne_op_dr, ne_op_en, ne_op_la, ne_op_wo⟩) kop_1
    have kmk_2 := hk9 _ _ (by simp only [List.mem_cons, List.not_mem_nil, or_false, not_or]; exact ⟨ne_mk_ia, ne_mk_dr, ne_mk_en, ne_mk_la, ne_mk_wo⟩) kmk_1
    have kir_2 := hk9 _ _ (by simp only [List.mem_cons, List.not_mem_nil, or_false, not_or]; exact ⟨ne_ir_ia, ne_ir_dr, ne_ir_en, ne_ir_la, ne_ir_wo⟩) kir_1
    have kse_2 := hk9 _ _ (by simp only [List.mem_cons, List.not_mem_nil, or_false, not_or]; exact ⟨ne_se_ia, ne_se_dr, ne_se_en, ne_se_la, ne_se_wo⟩) kse_1
    have kec_2 := hk9 _ _ (by simp only [List.mem_cons, List.not_mem_nil, or_false, not_or]; exact ⟨ne_ec_ia, ne_ec_dr, ne_ec_en, ne_ec_la, ne_ec_wo⟩) kec_1
    have klc_2 := hk9 _ _ (by simp only [List.mem_cons, List.not_mem_nil, or_false, not_or]; exact ⟨ne_lc_ia, ne_lc_dr, ne_lc_en, ne_lc_la, ne_lc_wo⟩) klc_1
    have kwc_2 := hk9 _ _ (by simp only [List.mem_cons, List.not_mem_nil, or_false, not_or]; exact ⟨ne_wc_ia, ne_wc_dr, ne_wc_en, ne_wc_la, ne_wc_wo⟩) kwc_1
    have kol_2 := hk9 _ _ (by simp only [List.mem_cons, List.not_mem_nil, or_false, not_or]; exact ⟨ne_ol_ia, ne_ol_dr, ne_ol_en, ne_ol_la, ne_ol_wo⟩) kol_1
    have kal_2 := hk9 _ _ (by simp only [List.mem_cons, List.not_mem_nil, or_false, not_or]; exact ⟨ne_al_ia, ne_al_dr, ne_al_en, ne_al_la, ne_al_wo⟩) kal_1
    have hkp := hkp.trans (hk9.mono (fun a ha => by simp only [List.mem_cons, List.not_mem_nil, or_false] at ha ⊢; rcases ha with q9 | q9 | q9 | q9 | q9 <;> simp [q9]))
    have hkl14 := hkl14.trans (hk9.mono (fun a ha => by simp only [List.mem_cons, List.not_mem_nil, or_false] at ha ⊢; rcases ha with q9 | q9 | q9 | q9 | q9 <;> simp [q9]))
    obtain ⟨Mc1, hMx⟩ : ∃ x : mM, x = M1 := ⟨M1, rfl⟩
    subst hMx
    subst hv1
    refine W.eq (g2 := F0 m 40 ls []) rfl ?_
    refine W.widen (k := 0) (n := 0) (Nat.le_of_ble_eq_true rfl) (Nat.le_of_ble_eq_true rfl) ?_
    have hm : mm D (AZ z) Mc1 H := hm
    refine lv_iinc (v := ((nI j14) + 1)) (lv' := [(3, .int ((nI j14) + 1)), (0, .ref mo), (1, .int 31), (2, .int 0)]) hx hb dX6_copyTree_40 hl (k := 0) rfl rfl (by decide) rfl (fun ls hl => ?_)
    refine lv_goto (tgt := 14) hx hb dX6_copyTree_43 (by decide) ?_
    rw [nI_1] at hl
    exact ih14 (j14 + 1, Mc1) _ _ _ ⟨⟨by omega, by omega⟩, ⟨_, _, _, _, _, _, _, (upd fcn (31 : Int32).toNatClampNeg (nI u1)), fia_2, fdr_2, fen_2, fla_2, fwo_2, fop, fmk, fir, fse, fec, flc, fol, fal, fwc, hap, kmo_2, hmd, ⟨hrC, hrL_2, hrM⟩, kcn_2, hia_2, hdr_2, hen_2, hla_2, hwo_2, kop_2, kmk_2, kir_2, kse_2, kec_2, klc_2, kwc_2, kol_2, kal_2⟩, hkp, hkl14, hm, hS, lv_sub hl [0, 1, 2, 3] rfl⟩ (by show 2147483648 - (j14 + 1) < 2147483648 - j14; omega)

set_option maxHeartbeats 4000000 in
set_option maxRecDepth 100000 in
theorem x_X6_addNode (l : Launch) (D : va_G) (k : Nat → ClassId) (z : Nat) (M : mM) (mo cn ia dr en la wo op mk ir se ec lc wc ol al : Nat) (dn md : Int32)  (v9 B9 : Nat) (hv9 : v9 < 3200) (hB9 : B9 < 100) (hc31 : cnt31 k M cn B9) (hmd0 : md = 0) (hI : mI k M mo cn ia dr en la wo op mk ir se ec lc wc ol al dn md) : mK l yX6_addNode wsX6_addNode ({ frames := 0, cells := 0, slots := 0, locals := 0 }) D k z [.ref mo, .int (nI v9)] M (fun v M' => ((∃ r, v = some (.int (nI r)) ∧ 3100 ≤ r ∧ r < 3200) ∧ cnt31 k M' cn (B9 + 1)) ∧ mI k M' mo cn ia dr en la wo op mk ir se ec lc wc ol al dn md ∧ kpx (fun a => a ∈ [mo, cn, ia, dr, la, en, wo, se]) M M') := by
  refine Met.ofW (cc := cX6_addNode) (maxL := 4) (ret := (some .int)) (by decide) rfl ?_
  intro p e s m args below meth c s₁ B hml hv
  obtain ⟨rfl, hz, hcx, hm⟩ := hv
  have hx := B.exec
  have hb := B.bytes
  have hr := B.returns
  have hts := atoms_spec (ws := wsX6_addNode) B.pre
  have hown : s.vm.findClass RX6 = some m.cls := findClass_of_methodNamed B.named
  have hlocks := B.notSynchronized
  have hK := hcx.1
  have hS : va_S (AZ z) s.heap s.heap [] := va_S.rf
  have hA : ∀ q, s.heap.size ≤ q → AZ z q := fun q h => Nat.le_trans hz h
  have hl := lv_entry ([.ref mo, .int (nI v9)]) (n := 4) (Nat.le_of_ble_eq_true rfl)
  rw [lg_entry_eq]
  generalize (lg_sl ([.ref mo, .int (nI v9)]) ++ List.replicate (4 - (lg_sl ([.ref mo, .int (nI v9)])).length) Slot.unset).toArray = ls at hl ⊢
  have hl : lv_has ls 4 [(0, .ref mo), (1, .int (nI v9))] := hl
  have f7 := hts (.fieldLink RX6 7 "CommitTreeModel" "counts" "[I") (by decide +kernel)
  have f13 := hts (.fieldLink RX6 13 "CommitTreeModel" "ids" "[I") (by decide +kernel)
  have f16 := hts (.fieldLink RX6 16 "CommitTreeModel" "dirs" "[Z") (by decide +kernel)
  have f21 := hts (.fieldLink RX6 21 "CommitTreeModel" "entries" "[I") (by decide +kernel)
  have f24 := hts (.fieldLink RX6 24 "CommitTreeModel" "lengths" "[I") (by decide +kernel)
  have f28 := hts (.fieldLink RX6 28 "CommitTreeModel" "words" "[I") (by decide +kernel)
  have f48 := hts (.fieldLink RX6 48 "CommitTreeModel" "self" "[Z") (by decide +kernel)
  have f118 := hts (.fieldLink RX6 118 "CommitTreeModel" "comes" "I") (by decide +kernel)
  have wX6 : ∀ w ∈ wsX60, w ∈ wsX6_addNode := by decide +kernel
  obtain ⟨cd, ni, pw, cm, wr, cs, hm9, fcn, fia, fdr, fen, fla, fwo, fop, fmk, fir, fse, fec, flc, fol, fal, fwc, hap, hM, hmd, ⟨hrC, hrL, hrM⟩, hcn, hia, hdr, hen, hla, hwo, hop, hmk, hir, hse, hec, hlc, hwc, hol, hal⟩ := id hI
  have ne_mo_cn : nq mo cn := pw_ne hap 0 1 (by decide) (Nat.le_of_ble_eq_true rfl)
  have ne_cn_mo : nq cn mo := Ne.symm ne_mo_cn
  have ne_mo_ia : nq mo ia := pw_ne hap 0 2 (by decide) (Nat.le_of_ble_eq_true rfl)
  have ne_ia_mo : nq ia mo := Ne.symm ne_mo_ia
  have ne_mo_dr : nq mo dr := pw_ne hap 0 3 (by decide) (Nat.le_of_ble_eq_true rfl)
  have ne_dr_mo : nq dr mo := Ne.symm ne_mo_dr
  have ne_mo_en : nq mo en := pw_ne hap 0 4 (by decide) (Nat.le_of_ble_eq_true rfl)
  have ne_en_mo : nq en mo := Ne.symm ne_mo_en
  have ne_mo_la : nq mo la := pw_ne hap 0 5 (by decide) (Nat.le_of_ble_eq_true rfl)
  have ne_la_mo : nq la mo := Ne.symm ne_mo_la
  have ne_mo_wo : nq mo wo := pw_ne hap 0 6 (by decide) (Nat.le_of_ble_eq_true rfl)
  have ne_wo_mo : nq wo mo := Ne.symm ne_mo_wo
  have ne_mo_op : nq mo op := pw_ne hap 0 7 (by decide) (Nat.le_of_ble_eq_true rfl)
  have ne_op_mo : nq op mo := Ne.symm ne_mo_op
  have ne_mo_mk : nq mo mk := pw_ne hap 0 8 (by decide) (Nat.le_of_ble_eq_true rfl)
  have ne_mk_mo : nq mk mo := Ne.symm ne_mo_mk
  have ne_mo_ir : nq mo ir := pw_ne hap 0 9 (by decide) (Nat.le_of_ble_eq_true rfl)
  have ne_ir_mo : nq ir mo := Ne.symm ne_mo_ir
  have ne_mo_se : nq mo se := pw_ne hap 0 10 (by decide) (Nat.le_of_ble_eq_true rfl)
  have ne_se_mo : nq se mo := Ne.symm ne_mo_se
  have ne_mo_ec : nq mo ec := pw_ne hap 0 11 (by decide) (Nat.le_of_ble_eq_true rfl)
  have ne_ec_mo : nq ec mo := Ne.symm ne_mo_ec
  have ne_mo_lc : nq mo lc := pw_ne hap 0 12 (by decide) (Nat.le_of_ble_eq_true rfl)
  have ne_lc_mo : nq lc mo := Ne.symm ne_mo_lc
  have ne_mo_wc : nq mo wc := pw_ne hap 0 13 (by decide) (Nat.le_of_ble_eq_true rfl)
  have ne_wc_mo : nq wc mo := Ne.symm ne_mo_wc
  have ne_mo_ol : nq mo ol := pw_ne hap 0 14 (by decide) (Nat.le_of_ble_eq_true rfl)
  have ne_ol_mo : nq ol mo := Ne.symm ne_mo_ol
  have ne_mo_al : nq mo al := pw_ne hap 0 15 (by decide) (Nat.le_of_ble_eq_true rfl)
  have ne_al_mo : nq al mo := Ne.symm ne_mo_al
  have ne_cn_ia : nq cn ia := pw_ne hap 1 2 (by decide) (Nat.le_of_ble_eq_true rfl)
  have ne_ia_cn : nq ia cn := Ne.symm ne_cn_ia
  have ne_cn_dr : nq cn dr := pw_ne hap 1 3 (by decide) (Nat.le_of_ble_eq_true rfl)
  have ne_dr_cn : nq dr cn := Ne.symm ne_cn_dr
  have ne_cn_en : nq cn en := pw_ne hap 1 4 (by decide) (Nat.le_of_ble_eq_true rfl)
  have ne_en_cn : nq en cn := Ne.symm ne_cn_en
  have ne_cn_la : nq cn la := pw_ne hap 1 5 (by decide) (Nat.le_of_ble_eq_true rfl)
  have ne_la_cn : nq la cn := Ne.symm ne_cn_la
  have ne_cn_wo : nq cn wo := pw_ne hap 1 6 (by decide) (Nat.le_of_ble_eq_true rfl)
  have ne_wo_cn : nq wo cn := Ne.symm ne_cn_wo
  have ne_cn_op : nq cn op := pw_ne hap 1 7 (by decide) (Nat.le_of_ble_eq_true rfl)
  have ne_op_cn : nq op cn := Ne.symm ne_cn_op
  have ne_cn_mk : nq cn mk := pw_ne hap 1 8 (by decide) (Nat.le_of_ble_eq_true rfl)
  have ne_mk_cn : nq mk cn := Ne.symm ne_cn_mk
  have ne_cn_ir : nq cn ir := pw_ne hap 1 9 (by decide) (Nat.le_of_ble_eq_true rfl)
  have ne_ir_cn : nq ir cn := Ne.symm ne_cn_ir
  have ne_cn_se : nq cn se := pw_ne hap 1 10 (by decide) (Nat.le_of_ble_eq_true rfl)
  have ne_se_cn : nq se cn := Ne.symm ne_cn_se
  have ne_cn_ec : nq cn ec := pw_ne hap 1 11 (by decide) (Nat.le_of_ble_eq_true rfl)
  have ne_ec_cn : nq ec cn := Ne.symm ne_cn_ec
  have ne_cn_lc : nq cn lc := pw_ne hap 1 12 (by decide) (Nat.le_of_ble_eq_true rfl)
  have ne_lc_cn : nq lc cn := Ne.symm ne_cn_lc
  have ne_cn_wc : nq cn wc := pw_ne hap 1 13 (by decide) (Nat.le_of_ble_eq_true rfl)
  have ne_wc_cn : nq wc cn := Ne.symm ne_cn_wc
  have ne_cn_ol : nq cn ol := pw_ne hap 1 14 (by decide) (Nat.le_of_ble_eq_true rfl)
  have ne_ol_cn : nq ol cn := Ne.symm ne_cn_ol
  have ne_cn_al : nq cn al := pw_ne hap 1 15 (by decide) (Nat.le_of_ble_eq_true rfl)
  have ne_al_cn : nq al cn := Ne.symm ne_cn_al
  have ne_ia_dr : nq ia dr := pw_ne hap 2 3 (by decide) (Nat.le_of_ble_eq_true rfl)
  have ne_dr_ia : nq dr ia := Ne.symm ne_ia_dr
  have ne_ia_en : nq ia en := pw_ne hap 2 4 (by decide) (Nat.le_of_ble_eq_true rfl)
  have ne_en_ia : nq en ia := Ne.symm ne_ia_en
  have ne_ia_la : nq ia la := pw_ne hap 2 5 (by decide) (Nat.le_of_ble_eq_true rfl)
  have ne_la_ia : nq la ia := Ne.symm ne_ia_la
  have ne_ia_wo : nq ia wo := pw_ne hap 2 6 (by decide) (Nat.le_of_ble_eq_true rfl)
  have ne_wo_ia : nq wo ia := Ne.symm ne_ia_wo
  have ne_ia_op : nq ia op := pw_ne hap 2 7 (by decide) (Nat.le_of_ble_eq_true rfl)
  have ne_op_ia : nq op ia := Ne.symm ne_ia_op
  have ne_ia_mk : nq ia mk := pw_ne hap 2 8 (by decide) (Nat.le_of_ble_eq_true rfl)
  have ne_mk_ia : nq mk ia := Ne.symm ne_ia_mk
  have ne_ia_ir : nq ia ir := pw_ne hap 2 9 (by decide) (Nat.le_of_ble_eq_true rfl)
  have ne_ir_ia : nq ir ia := Ne.symm ne_ia_ir
  have ne_ia_se : nq ia se := pw_ne hap 2 10 (by decide) (Nat.le_of_ble_eq_true rfl)
  have ne_se_ia : nq se ia := Ne.symm ne_ia_se
  have ne_ia_ec : nq ia ec := pw_ne hap 2 11 (by decide) (Nat.le_of_ble_eq_true rfl)
  have ne_ec_ia : nq ec ia := Ne.symm ne_ia_ec
  have ne_ia_lc : nq ia lc := pw_ne hap 2 12 (by decide) (Nat.le_of_ble_eq_true rfl)
  have ne_lc_ia : nq lc ia := Ne.symm ne_ia_lc
  have ne_ia_wc : nq ia wc := pw_ne hap 2 13 (by decide) (Nat.le_of_ble_eq_true rfl)
  have ne_wc_ia : nq wc ia := Ne.symm ne_ia_wc
  have ne_ia_ol : nq ia ol := pw_ne hap 2 14 (by decide) (Nat.le_of_ble_eq_true rfl)
  have ne_ol_ia : nq ol ia := Ne.symm ne_ia_ol
  have ne_ia_al : nq ia al := pw_ne hap 2 15 (by decide) (Nat.le_of_ble_eq_true rfl)
  have ne_al_ia : nq al ia := Ne.symm ne_ia_al
  have ne_dr_en : nq dr en := pw_ne hap 3 4 (by decide) (Nat.le_of_ble_eq_true rfl)
  have ne_en_dr : nq en dr := Ne.symm ne_dr_en
  have ne_dr_la : nq dr la := pw_ne hap 3 5 (by decide) (Nat.le_of_ble_eq_true rfl)
  have ne_la_dr : nq la dr := Ne.symm ne_dr_la
  have ne_dr_wo : nq dr wo := pw_ne hap 3 6 (by decide) (Nat.le_of_ble_eq_true rfl)
  have ne_wo_dr : nq wo dr := Ne.symm ne_dr_wo
  have ne_dr_op : nq dr op := pw_ne hap 3 7 (by decide) (Nat.le_of_ble_eq_true rfl)
  have ne_op_dr : nq op dr := Ne.symm ne_dr_op
  have ne_dr_mk : nq dr mk := pw_ne hap 3 8 (by decide) (Nat.le_of_ble_eq_true rfl)
  have ne_mk_dr : nq mk dr := Ne.symm ne_dr_mk
  have ne_dr_ir : nq dr ir := pw_ne hap 3 9 (by decide) (Nat.le_of_ble_eq_true rfl)
  have ne_ir_dr : nq ir dr := Ne.symm ne_dr_ir
  have ne_dr_se : nq dr se := pw_ne hap 3 10 (by decide) (Nat.le_of_ble_eq_true rfl)
  have ne_se_dr : nq se dr := Ne.symm ne_dr_se
  have ne_dr_ec : nq dr ec := pw_ne hap 3 11 (by decide) (Nat.le_of_ble_eq_true rfl)
  have ne_ec_dr : nq ec dr := Ne.symm ne_dr_ec
  have ne_dr_lc : nq dr lc := pw_ne hap 3 12 (by decide) (Nat.le_of_ble_eq_true rfl)
  have ne_lc_dr : nq lc dr := Ne.symm ne_dr_lc
  have ne_dr_wc : nq dr wc := pw_ne hap 3 13 (by decide) (Nat.le_of_ble_eq_true rfl)
  have ne_wc_dr : nq wc dr := Ne.symm ne_dr_wc
  have ne_dr_ol : nq dr ol := pw_ne hap 3 14 (by decide) (Nat.le_of_ble_eq_true rfl)
  have ne_ol_dr : nq ol dr := Ne.symm ne_dr_ol
  have ne_dr_al : nq dr al := pw_ne hap 3 15 (by decide) (Nat.le_of_ble_eq_true rfl)
  have ne_al_dr : nq al dr := Ne.symm ne_dr_al
  have ne_en_la : nq en la := pw_ne hap 4 5 (by decide) (Nat.le_of_ble_eq_true rfl)
  have ne_la_en : nq la en := Ne.symm ne_en_la
  have ne_en_wo : nq en wo := pw_ne hap 4 6 (by decide) (Nat.le_of_ble_eq_true rfl)
  have ne_wo_en : nq wo en := Ne.symm ne_en_wo
  have ne_en_op : nq en op := pw_ne hap 4 7 (by decide) (Nat.le_of_ble_eq_true rfl)
  have ne_op_en : nq op en := Ne.symm ne_en_op
  have ne_en_mk : nq en mk := pw_ne hap 4 8 (by decide) (Nat.le_of_ble_eq_true rfl)
  have ne_mk_en : nq mk en := Ne.symm ne_en_mk
  have ne_en_ir : nq en ir := pw_ne hap 4 9 (by decide) (Nat.le_of_ble_eq_true rfl)
  have ne_ir_en : nq ir en := Ne.symm ne_en_ir
  have ne_en_se : nq en se := pw_ne hap 4 10 (by decide) (Nat.le_of_ble_eq_true rfl)
  have ne_se_en : nq se en := Ne.symm ne_en_se
  have ne_en_ec : nq en ec := pw_ne hap 4 11 (by decide) (Nat.le_of_ble_eq_true rfl)
  have ne_ec_en : nq ec en := Ne.symm ne_en_ec
  have ne_en_lc : nq en lc := pw_ne hap 4 12 (by decide) (Nat.le_of_ble_eq_true rfl)
  have ne_lc_en : nq lc en := Ne.symm ne_en_lc
  have ne_en_wc : nq en wc := pw_ne hap 4 13 (by decide) (Nat.le_of_ble_eq_true rfl)
  have ne_wc_en : nq wc en := Ne.symm ne_en_wc
  have ne_en_ol : nq en ol := pw_ne hap 4 14 (by decide) (Nat.le_of_ble_eq_true rfl)
  have ne_ol_en : nq ol en := Ne.symm ne_en_ol
  have ne_en_al : nq en al := pw_ne hap 4 15 (by decide) (Nat.le_of_ble_eq_true rfl)
  have ne_al_en : nq al en := Ne.symm ne_en_al
  have ne_la_wo : nq la wo := pw_ne hap 5 6 (by decide) (Nat.le_of_ble_eq_true rfl)
  have ne_wo_la : nq wo la := Ne.symm ne_la_wo
  have ne_la_op : nq la op := pw_ne hap 5 7 (by decide) (Nat.le_of_ble_eq_true rfl)
  have ne_op_la : nq op la := Ne.symm ne_la_op
  have ne_la_mk : nq la mk := pw_ne hap 5 8 (by decide) (Nat.le_of_ble_eq_true rfl)
  have ne_mk_la : nq mk la := Ne.symm ne_la_mk
  have ne_la_ir : nq la ir := pw_ne hap 5 9 (by decide) (Nat.le_of_ble_eq_true rfl)
  have ne_ir_la : nq ir la := Ne.symm ne_la_ir
  have ne_la_se : nq la se := pw_ne hap 5 10 (by decide) (Nat.le_of_ble_eq_true rfl)
  have ne_se_la : nq se la := Ne.symm ne_la_se
  have ne_la_ec : nq la ec := pw_ne hap 5 11 (by decide) (Nat.le_of_ble_eq_true rfl)
  have ne_ec_la : nq ec la := Ne.symm ne_la_ec
  have ne_la_lc : nq la lc := pw_ne hap 5 12 (by decide) (Nat.le_of_ble_eq_true rfl)
  have ne_lc_la : nq lc la := Ne.symm ne_la_lc
  have ne_la_wc : nq la wc := pw_ne hap 5 13 (by decide) (Nat.le_of_ble_eq_true rfl)
  have ne_wc_la : nq wc la := Ne.symm ne_la_wc
  have ne_la_ol : nq la ol := pw_ne hap 5 14 (by decide) (Nat.le_of_ble_eq_true rfl)
  have ne_ol_la : nq ol la := Ne.symm ne_la_ol
  have ne_la_al : nq la al := pw_ne hap 5 15 (by decide) (Nat.le_of_ble_eq_true rfl)
  have ne_al_la : nq al la := Ne.symm ne_la_al
  have ne_wo_op : nq wo op := pw_ne hap 6 7 (by decide) (Nat.le_of_ble_eq_true rfl)
  have ne_op_wo : nq op wo := Ne.symm ne_wo_op
  have ne_wo_mk : nq wo mk := pw_ne hap 6 8 (by decide) (Nat.le_of_ble_eq_true rfl)
  have ne_mk_wo : nq mk wo := Ne.symm ne_wo_mk
  have ne_wo_ir : nq wo ir := pw_ne hap 6 9 (by decide) (Nat.le_of_ble_eq_true rfl)
  have ne_ir_wo : nq ir wo := Ne.symm ne_wo_ir
  have ne_wo_se : nq wo se := pw_ne hap 6 10 (by decide) (Nat.le_of_ble_eq_true rfl)
  have ne_se_wo : nq se wo := Ne.symm ne_wo_se
  have ne_wo_ec : nq wo ec := pw_ne hap 6 11 (by decide) (Nat.le_of_ble_eq_true rfl)
  have ne_ec_wo : nq ec wo := Ne.symm ne_wo_ec
  have ne_wo_lc : nq wo lc := pw_ne hap 6 12 (by decide) (Nat.le_of_ble_eq_true rfl)
  have ne_lc_wo : nq lc wo := Ne.symm ne_wo_lc
  have ne_wo_wc : nq wo wc := pw_ne hap 6 13 (by decide) (Nat.le_of_ble_eq_true rfl)
  have ne_wc_wo : nq wc wo := Ne.symm ne_wo_wc
  have ne_wo_ol : nq wo ol := pw_ne hap 6 14 (by decide) (Nat.le_of_ble_eq_true rfl)
  have ne_ol_wo : nq ol wo := Ne.symm ne_wo_ol
  have ne_wo_al : nq wo al := pw_ne hap 6 15 (by decide) (Nat.le_of_ble_eq_true rfl)
  have ne_al_wo : nq al wo := Ne.symm ne_wo_al
  have ne_op_mk : nq op mk := pw_ne hap 7 8 (by decide) (Nat.le_of_ble_eq_true rfl)
  have ne_mk_op : nq mk op := Ne.symm ne_op_mk
  have ne_op_ir : nq op ir := pw_ne hap 7 9 (by decide) (Nat.le_of_ble_eq_true rfl)
  have ne_ir_op : nq ir op := Ne.symm ne_op_ir
  have ne_op_se : nq op se := pw_ne hap 7 10 (by decide) (Nat.le_of_ble_eq_true rfl)
  have ne_se_op : nq se op := Ne.symm ne_op_se
  have ne_op_ec : nq op ec := pw_ne hap 7 11 (by decide) (Nat.le_of_ble_eq_true rfl)
  have ne_ec_op : nq ec op := Ne.symm ne_op_ec
  have ne_op_lc : nq op lc := pw_ne hap 7 12 (by decide) (Nat.le_of_ble_eq_true rfl)
  have ne_lc_op : nq lc op := Ne.symm ne_op_lc
  have ne_op_wc : nq op wc := pw_ne hap 7 13 (by decide) (Nat.le_of_ble_eq_true rfl)
  have ne_wc_op : nq wc op := Ne.symm ne_op_wc
  have ne_op_ol : nq op ol := pw_ne hap 7 14 (by decide) (Nat.le_of_ble_eq_true rfl)
  have ne_ol_op : nq ol op := Ne.symm ne_op_ol
  have ne_op_al : nq op al := pw_ne hap 7 15 (by decide) (Nat.le_of_ble_eq_true rfl)
  have ne_al_op : nq al op := Ne.symm ne_op_al
  have ne_mk_ir : nq mk ir := pw_ne hap 8 9 (by decide) (Nat.le_of_ble_eq_true rfl)
  have ne_ir_mk : nq ir mk := Ne.symm ne_mk_ir
  have ne_mk_se : nq mk se := pw_ne hap 8 10 (by decide) (Nat.le_of_ble_eq_true rfl)
  have ne_se_mk : nq se mk := Ne.symm ne_mk_se
  have ne_mk_ec : nq mk ec := pw_ne hap 8 11 (by decide) (Nat.le_of_ble_eq_true rfl)
  have ne_ec_mk : nq ec mk := Ne.symm ne_mk_ec
  have ne_mk_lc : nq mk lc := pw_ne hap 8 12 (by decide) (Nat.le_of_ble_eq_true rfl)
  have ne_lc_mk : nq lc mk := Ne.symm ne_mk_lc
  have ne_mk_wc : nq mk wc := pw_ne hap 8 13 (by decide) (Nat.le_of_ble_eq_true rfl)
  have ne_wc_mk : nq wc mk := Ne.symm ne_mk_wc
  have ne_mk_ol : nq mk ol := pw_ne hap 8 14 (by decide) (Nat.le_of_ble_eq_true rfl)
  have ne_ol_mk : nq ol mk := Ne.symm ne_mk_ol
  have ne_mk_al : nq mk al := pw_ne hap 8 15 (by decide) (Nat.le_of_ble_eq_true rfl)
  have ne_al_mk : nq al mk := Ne.symm ne_mk_al
  have ne_ir_se : nq ir se := pw_ne hap 9 10 (by decide) (Nat.le_of_ble_eq_true rfl)
  have ne_se_ir : nq se ir := Ne.symm ne_ir_se
  have ne_ir_ec : nq ir ec := pw_ne hap 9 11 (by decide) (Nat.le_of_ble_eq_true rfl)
  have ne_ec_ir : nq ec ir := Ne.symm ne_ir_ec
  have ne_ir_lc : nq ir lc := pw_ne hap 9 12 (by decide) (Nat.le_of_ble_eq_true rfl)
  have ne_lc_ir : nq lc ir := Ne.symm ne_ir_lc
  have ne_ir_wc : nq ir wc := pw_ne hap 9 13 (by decide) (Nat.le_of_ble_eq_true rfl)
  have ne_wc_ir : nq wc ir := Ne.symm ne_ir_wc
  have ne_ir_ol : nq ir ol := pw_ne hap 9 14 (by decide) (Nat.le_of_ble_eq_true rfl)
  have ne_ol_ir : nq ol ir := Ne.symm ne_ir_ol
  have ne_ir_al : nq ir al := pw_ne hap 9 15 (by decide) (Nat.le_of_ble_eq_true rfl)
  have ne_al_ir : nq al ir := Ne.symm ne_ir_al
  have ne_se_ec : nq se ec := pw_ne hap 10 11 (by decide) (Nat.le_of_ble_eq_true rfl)
  have ne_ec_se : nq ec se := Ne.symm ne_se_ec
  have ne_se_lc : nq se lc := pw_ne hap 10 12 (by decide) (Nat.le_of_ble_eq_true rfl)
  have ne_lc_se : nq lc se := Ne.symm ne_se_lc
  have ne_se_wc : nq se wc := pw_ne hap 10 13 (by decide) (Nat.le_of_ble_eq_true rfl)
  have ne_wc_se : nq wc se := Ne.symm ne_se_wc
  have ne_se_ol : nq se ol := pw_ne hap 10 14 (by decide) (Nat.le_of_ble_eq_true rfl)
  have ne_ol_se : nq ol se := Ne.symm ne_se_ol
  have ne_se_al : nq se al := pw_ne hap 10 15 (by decide) (Nat.le_of_ble_eq_true rfl)
  have ne_al_se : nq al se := Ne.symm ne_se_al
  have ne_ec_lc : nq ec lc := pw_ne hap 11 12 (by decide) (Nat.le_of_ble_eq_true rfl)
  have ne_lc_ec : nq lc ec := Ne.symm ne_ec_lc
  have ne_ec_wc : nq ec wc := pw_ne hap 11 13 (by decide) (Nat.le_of_ble_eq_true rfl)
  have ne_wc_ec : nq wc ec := Ne.symm ne_ec_wc
  have ne_ec_ol : nq ec ol := pw_ne hap 11 14 (by decide) (Nat.le_of_ble_eq_true rfl)
  have ne_ol_ec : nq ol ec := Ne.symm ne_ec_ol
  have ne_ec_al : nq ec al := pw_ne hap 11 15 (by decide) (Nat.le_of_ble_eq_true rfl)
  have ne_al_ec : nq al ec := Ne.symm ne_ec_al
  have ne_lc_wc : nq lc wc := pw_ne hap 12 13 (by decide) (Nat.le_of_ble_eq_true rfl)
  have ne_wc_lc : nq wc lc := Ne.symm ne_lc_wc
  have ne_lc_ol : nq lc ol := pw_ne hap 12 14 (by decide) (Nat.le_of_ble_eq_true rfl)
  have ne_ol_lc : nq ol lc := Ne.symm ne_lc_ol
  have ne_lc_al : nq lc al := pw_ne hap 12 15 (by decide) (Nat.le_of_ble_eq_true rfl)
  have ne_al_lc : nq al lc := Ne.symm ne_lc_al
  have ne_wc_ol : nq wc ol := pw_ne hap 13 14 (by decide) (Nat.le_of_ble_eq_true rfl)
  have ne_ol_wc : nq ol wc := Ne.symm ne_wc_ol
  have ne_wc_al : nq wc al := pw_ne hap 13 15 (by decide) (Nat.le_of_ble_eq_true rfl)
  have ne_al_wc : nq al wc := Ne.symm ne_wc_al
  have ne_ol_al : nq ol al := pw_ne hap 14 15 (by decide) (Nat.le_of_ble_eq_true rfl)
  have ne_al_ol : nq al ol := Ne.symm ne_ol_al
  have hkp : kpx (fun a => a ∈ [mo, cn, ia, dr, la, en, wo, se]) M M := kpx.refl _ _
  refine lv_sipush (v := 3100) hx hb dX6_addNode_0 (by decide) ?_
  refine lv_aload_n hx hb dX6_addNode_3 rfl (lv_at hl 0 rfl) ?_
  refine m_get (T := TX6) (N := 24) (ci := 6) (v := .ref cn) hx hb hts wX6 hown hK hm hM rfl 1 (by decide) f7 (fun _ h9 => h9) rfl dX6_addNode_4 ?_
  refine lv_bipush (v := 31) hx hb dX6_addNode_7 (by decide) ?_
  refine m_iald hx hb hK hm 0 hcn rfl (by unfold vp_in; decide) dX6_addNode_9 ?_
  obtain ⟨u1, hu1, eu1⟩ := hrC 31
  refine W.eq (g2 := F0 m 10 ls [.int (nI u1), .int 3100]) (by rw [show (fcn (31 : Int32).toNatClampNeg) = nI u1 from (congrArg fcn (show (31 : Int32).toNatClampNeg = 31 from rfl)).trans eu1]) ?_
  have hb_u1 := hu1
  have hu1 : u1 ≤ 100 := Nat.le_trans hu1 (bC_le _)
  have hle9 : u1 ≤ B9 := hc31.le (by omega) hcn (by omega) eu1
  refine lv_iadd hx hb dX6_addNode_10 ?_
  refine W.eq (g2 := F0 m 11 ls [.int (nI (3100 + u1))]) (by rw [show ((3100) + ((nI u1)) : Int32) = nI (3100 + u1) from nI_add 3100 u1]) ?_
  refine lv_istore_n (lv' := [(2, .int (nI (3100 + u1))), (0, .ref mo), (1, .int (nI v9))]) hx hb dX6_addNode_11 rfl hl (by decide) rfl (fun ls hl => ?_)
  refine lv_aload_n hx hb dX6_addNode_12 rfl (lv_at hl 1 rfl) ?_
  refine m_get (T := TX6) (N := 24) (ci := 6) (v := .ref cn) hx hb hts wX6 hown hK hm hM rfl 1 (by decide) f7 (fun _ h9 => h9) rfl dX6_addNode_13 ?_
  refine lv_bipush (v := 31) hx hb dX6_addNode_16 (by decide) ?_
  refine lv_dup2_11 hx hb dX6_addNode_18 rfl rfl ?_
  refine m_iald hx hb hK hm 0 hcn rfl (by unfold vp_in; decide) dX6_addNode_19 ?_
  refine W.eq (g2 := F0 m 20 ls [.int (nI u1), .int 31, .ref cn]) (by rw [show (fcn (31 : Int32).toNatClampNeg) = nI u1 from (congrArg fcn (show (31 : Int32).toNatClampNeg = 31 from rfl)).trans eu1]) ?_
  refine lv_iconst (v := 1) hx hb dX6_addNode_20 (by decide) ?_
  refine lv_iadd hx hb dX6_addNode_21 ?_
  refine W.eq (g2 := F0 m 22 ls [.int (nI (u1 + 1)), .int 31, .ref cn]) (by rw [show (((nI u1)) + (1) : Int32) = nI (u1 + 1) from nI_add u1 1]) ?_
  refine m_iast hx hb hK hm hS 0 hcn rfl (by unfold vp_in; decide) dX6_addNode_22 (fun H locs hm hS => ?_)
  have hrC : rng bC (upd fcn (31 : Int32).toNatClampNeg (nI (u1 + 1))) := (hrC).up _ (u1 + 1) (show (u1 + 1) ≤ bC 31 from (show u1 + 1 ≤ 100 by omega))
  have hmd : md ≠ 0 → ∃ n, n ≤ 40 ∧ (upd fcn (31 : Int32).toNatClampNeg (nI (u1 + 1))) 31 = nI n := fun q => absurd hmd0 q
  have hm : mm D (AZ z) (mu M cn (.inl (k 0, 32, .inl (upd fcn (31 : Int32).toNatClampNeg (nI (u1 + 1)))))) H := hm
  have hkp : kpx (fun a => a ∈ [mo, cn, ia, dr, la, en, wo, se]) M (mu M cn (.inl (k 0, 32, .inl (upd fcn (31 : Int32).toNatClampNeg (nI (u1 + 1)))))) := (hkp).self (by simp)
  refine lv_aload_n hx hb dX6_addNode_23 rfl (lv_at hl 1 rfl) ?_
  refine m_get (T := TX6) (N := 24) (ci := 6) (v := .ref ia) hx hb hts wX6 hown hK hm ((mu_ne ne_mo_cn).trans hM) rfl 2 (by decide) f13 (fun _ h9 => h9) rfl dX6_addNode_24 ?_
  refine lv_iload_n hx hb dX6_addNode_27 rfl (lv_at hl 0 rfl) ?_
  refine lv_aload_n hx hb dX6_addNode_28 rfl (lv_at hl 1 rfl) ?_
  refine m_get (T := TX6) (N := 24) (ci := 6) (v := .ref ia) hx hb hts wX6 hown hK hm ((mu_ne ne_mo_cn).trans hM) rfl 2 (by decide) f13 (fun _ h9 => h9) rfl dX6_addNode_29 ?_
  refine lv_iload_n hx hb dX6_addNode_32 rfl (lv_at hl 2 rfl) ?_
  refine m_iald hx hb hK hm 0 ((mu_ne ne_ia_cn).trans hia) rfl (vp_in_nI (by omega) (by decide)) dX6_addNode_33 ?_
  refine m_iast hx hb hK hm hS 0 ((mu_ne ne_ia_cn).trans hia) rfl (vp_in_nI (by omega) (by decide)) dX6_addNode_34 (fun H locs hm hS => ?_)
  have hm : mm D (AZ z) (mu (mu M cn (.inl (k 0, 32, .inl (upd fcn (31 : Int32).toNatClampNeg (nI (u1 + 1)))))) ia (.inl (k 0, 3200, .inl (upd fia ((nI (3100 + u1))).toNatClampNeg (fia ((nI v9)).toNatClampNeg))))) H := hm
  have hkp : kpx (fun a => a ∈ [mo, cn, ia, dr, la, en, wo, se]) M (mu (mu M cn (.inl (k 0, 32, .inl (upd fcn (31 : Int32).toNatClampNeg (nI (u1 + 1)))))) ia (.inl (k 0, 3200, .inl (upd fia ((nI (3100 + u1))).toNatClampNeg (fia ((nI v9)).toNatClampNeg))))) := (hkp).self (by simp)
  refine lv_aload_n hx hb dX6_addNode_35 rfl (lv_at hl 1 rfl) ?_
  refine m_get (T := TX6) (N := 24) (ci := 6) (v := .ref dr) hx hb hts wX6 hown hK hm ((mu_ne ne_mo_ia).trans ((mu_ne ne_mo_cn).trans hM)) rfl 3 (by decide) f16 (fun _ h9 => h9) rfl dX6_addNode_36 ?_
  refine lv_iload_n hx hb dX6_addNode_39 rfl (lv_at hl 0 rfl) ?_
  refine lv_aload_n hx hb dX6_addNode_40 rfl (lv_at hl 1 rfl) ?_
  refine m_get (T := TX6) (N := 24) (ci := 6) (v := .ref dr) hx hb hts wX6 hown hK hm ((mu_ne ne_mo_ia).trans ((mu_ne ne_mo_cn).trans hM)) rfl 3 (by decide) f16 (fun _ h9 => h9) rfl dX6_addNode_41 ?_
  refine lv_iload_n hx hb dX6_addNode_44 rfl (lv_at hl 2 rfl) ?_
  refine m_zald hx hb hK hm 2 ((mu_ne ne_dr_ia).trans ((mu_ne ne_dr_cn).trans hdr)) rfl (vp_in_nI (by omega) (by decide)) dX6_addNode_45 ?_
  refine m_zast hx hb hK hm hS 2 ((mu_ne ne_dr_ia).trans ((mu_ne ne_dr_cn).trans hdr)) rfl (vp_in_nI (by omega) (by decide)) dX6_addNode_46 (fun H locs hm hS => ?_)
  have hm : mm D (AZ z) (mu (mu (mu M cn (.inl (k 0, 32, .inl (upd fcn (31 : Int32).toNatClampNeg (nI (u1 + 1)))))) ia (.inl (k 0, 3200, .inl (upd fia ((nI (3100 + u1))).toNatClampNeg (fia ((nI v9)).toNatClampNeg))))) dr (.inl (k 2, 3200, .inl (upd fdr ((nI (3100 + u1))).toNatClampNeg (vp_nar .boolean (fdr ((nI v9)).toNatClampNeg)))))) H := hm
  have hkp : kpx (fun a => a ∈ [mo, cn, ia, dr, la, en, wo, se]) M (mu (mu (mu M cn (.inl (k 0, 32, .inl (upd fcn (31 : Int32).toNatClampNeg (nI (u1 + 1)))))) ia (.inl (k 0, 3200, .inl (upd fia ((nI (3100 + u1))).toNatClampNeg (fia ((nI v9)).toNatClampNeg))))) dr (.inl (k 2, 3200, .inl (upd fdr ((nI (3100 + u1))).toNatClampNeg (vp_nar .boolean (fdr ((nI v9)).toNatClampNeg)))))) := (hkp).self (by simp)
  refine lv_aload_n hx hb dX6_addNode_47 rfl (lv_at hl 1 rfl) ?_
  refine m_get (T := TX6) (N := 24) (ci := 6) (v := .ref la) hx hb hts wX6 hown hK hm ((mu_ne ne_mo_dr).trans ((mu_ne ne_mo_ia).trans ((mu_ne ne_mo_cn).trans hM))) rfl 5 (by decide) f24 (fun _ h9 => h9) rfl dX6_addNode_48 ?_
  refine lv_iload_n hx hb dX6_addNode_51 rfl (lv_at hl 0 rfl) ?_
  refine lv_iconst (v := 0) hx hb dX6_addNode_52 (by decide) ?_
  refine m_iast hx hb hK hm hS 0 ((mu_ne ne_la_dr).trans ((mu_ne ne_la_ia).trans ((mu_ne ne_la_cn).trans hla))) rfl (vp_in_nI (by omega) (by decide)) dX6_addNode_53 (fun H locs hm hS => ?_)
  have hrL : rng bL (upd fla ((nI (3100 + u1))).toNatClampNeg 0) := (hrL).up _ 0 (show 0 ≤ 64 by omega)
  have hm : mm D (AZ z) (mu (mu (mu (mu M cn (.inl (k 0, 32, .inl (upd fcn (31 : Int32).toNatClampNeg (nI (u1 + 1)))))) ia (.inl (k 0, 3200, .inl (upd fia ((nI (3100 + u1))).toNatClampNeg (fia ((nI v9)).toNatClampNeg))))) dr (.inl (k 2, 3200, .inl (upd fdr ((nI (3100 + u1))).toNatClampNeg (vp_nar .boolean (fdr ((nI v9)).toNatClampNeg)))))) la (.inl (k 0, 3200, .inl (upd fla ((nI (3100 + u1))).toNatClampNeg 0)))) H := hm
  have hkp : kpx (fun a => a ∈ [mo, cn, ia, dr, la, en, wo, se]) M (mu (mu (mu (mu M cn (.inl (k 0, 32, .inl (upd fcn (31 : Int32).toNatClampNeg (nI (u1 + 1)))))) ia (.inl (k 0, 3200, .inl (upd fia ((nI (3100 + u1))).toNatClampNeg (fia ((nI v9)).toNatClampNeg))))) dr (.inl (k 2, 3200, .inl (upd fdr ((nI (3100 + u1))).toNatClampNeg (vp_nar .boolean (fdr ((nI v9)).toNatClampNeg)))))) la (.inl (k 0, 3200, .inl (upd fla ((nI (3100 + u1))).toNatClampNeg 0)))) := (hkp).self (by simp)
  refine lv_iconst (v := 0) hx hb dX6_addNode_54 (by decide) ?_
  refine lv_istore_n (lv' := [(3, .int 0), (2, .int (nI (3100 + u1))), (0, .ref mo), (1, .int (nI v9))]) hx hb dX6_addNode_55 rfl hl (by decide) rfl (fun ls hl => ?_)
  have hI0 : mI k (mu (mu (mu (mu M cn (.inl (k 0, 32, .inl (upd fcn (31 : Int32).toNatClampNeg (nI (u1 + 1)))))) ia (.inl (k 0, 3200, .inl (upd fia ((nI (3100 + u1))).toNatClampNeg (fia ((nI v9)).toNatClampNeg))))) dr (.inl (k 2, 3200, .inl (upd fdr ((nI (3100 + u1))).toNatClampNeg (vp_nar .boolean (fdr ((nI v9)).toNatClampNeg)))))) la (.inl (k 0, 3200, .inl (upd fla ((nI (3100 + u1))).toNatClampNeg 0)))) mo cn ia dr en la wo op mk ir se ec lc wc ol al dn md := ⟨_, _, _, _, _, _, _, (upd fcn (31 : Int32).toNatClampNeg (nI (u1 + 1))), (upd fia ((nI (3100 + u1))).toNatClampNeg (fia ((nI v9)).toNatClampNeg)), (upd fdr ((nI (3100 + u1))).toNatClampNeg (vp_nar .boolean (fdr ((nI v9)).toNatClampNeg))), fen, (upd fla ((nI (3100 + u1))).toNatClampNeg 0), fwo, fop, fmk, fir, fse, fec, flc, fol, fal, fwc, hap, ((mu_ne ne_mo_la).trans ((mu_ne ne_mo_dr).trans ((mu_ne ne_mo_ia).trans ((mu_ne ne_mo_cn).trans hM)))), hmd, ⟨hrC, hrL, hrM⟩, ((mu_ne ne_cn_la).trans ((mu_ne ne_cn_dr).trans ((mu_ne ne_cn_ia).trans (mu_self _ _ _)))), ((mu_ne ne_ia_la).trans ((mu_ne ne_ia_dr).trans (mu_self _ _ _))), ((mu_ne ne_dr_la).trans (mu_self _ _ _)), ((mu_ne ne_en_la).trans ((mu_ne ne_en_dr).trans ((mu_ne ne_en_ia).trans ((mu_ne ne_en_cn).trans hen)))), (mu_self _ _ _), ((mu_ne ne_wo_la).trans ((mu_ne ne_wo_dr).trans ((mu_ne ne_wo_ia).trans ((mu_ne ne_wo_cn).trans hwo)))), ((mu_ne ne_op_la).trans ((mu_ne ne_op_dr).trans ((mu_ne ne_op_ia).trans ((mu_ne ne_op_cn).trans hop)))), ((mu_ne ne_mk_la).trans ((mu_ne ne_mk_dr).trans ((mu_ne ne_mk_ia).trans ((mu_ne ne_mk_cn).trans hmk)))), ((mu_ne ne_ir_la).trans ((mu_ne ne_ir_dr).trans ((mu_ne ne_ir_ia).trans ((mu_ne ne_ir_cn).trans hir)))), ((mu_ne ne_se_la).trans ((mu_ne ne_se_dr).trans ((mu_ne ne_se_ia).trans ((mu_ne ne_se_cn).trans hse)))), ((mu_ne ne_ec_la).trans ((mu_ne ne_ec_dr).trans ((mu_ne ne_ec_ia).trans ((mu_ne ne_ec_cn).trans hec)))), ((mu_ne ne_lc_la).trans ((mu_ne ne_lc_dr).trans ((mu_ne ne_lc_ia).trans ((mu_ne ne_lc_cn).trans hlc)))), ((mu_ne ne_wc_la).trans ((mu_ne ne_wc_dr).trans ((mu_ne ne_wc_ia).trans ((mu_ne ne_wc_cn).trans hwc)))), ((mu_ne ne_ol_la).trans ((mu_ne ne_ol_dr).trans ((mu_ne ne_ol_ia).trans ((mu_ne ne_ol_cn).trans hol)))), ((mu_ne ne_al_la).trans ((mu_ne ne_al_dr).trans ((mu_ne ne_al_ia).trans ((mu_ne ne_al_cn).trans hal))))⟩
  refine W_loop (σ := Nat × mM) (fun ⟨j56, Ml56⟩ H locs ls => (0 ≤ j56 ∧ j56 < 2147483000) ∧ (mI k Ml56 mo cn ia dr en la wo op mk ir se ec lc wc ol al dn md) ∧ (kpx (fun a => a ∈ [mo, cn, ia, dr, la, en, wo, se]) M Ml56) ∧ (kpx (fun a => a ∈ [en]) (mu (mu (mu (mu M cn (.inl (k 0, 32, .inl (upd fcn (31 : Int32).toNatClampNeg (nI (u1 + 1)))))) ia (.inl (k 0, 3200, .inl (upd fia ((nI (3100 + u1))).toNatClampNeg (fia ((nI v9)).toNatClampNeg))))) dr (.inl (k 2, 3200, .inl (upd fdr ((nI (3100 + u1))).toNatClampNeg (vp_nar .boolean (fdr ((nI v9)).toNatClampNeg)))))) la (.inl (k 0, 3200, .inl (upd fla ((nI (3100 + u1))).toNatClampNeg 0)))) Ml56) ∧ mm D (AZ z) Ml56 H ∧ va_S (AZ z) s.heap H locs ∧ lv_has ls 4 [(3, .int (nI j56)), (2, .int (nI (3100 + u1))), (0, .ref mo), (1, .int (nI v9))]) (fun ⟨j56, Ml56⟩ => 2147483648 - j56) (fun _ => 0) (fun _ => 0) ?_ (0, (mu (mu (mu (mu M cn (.inl (k 0, 32, .inl (upd fcn (31 : Int32).toNatClampNeg (nI (u1 + 1)))))) ia (.inl (k 0, 3200, .inl (upd fia ((nI (3100 + u1))).toNatClampNeg (fia ((nI v9)).toNatClampNeg))))) dr (.inl (k 2, 3200, .inl (upd fdr ((nI (3100 + u1))).toNatClampNeg (vp_nar .boolean (fdr ((nI v9)).toNatClampNeg)))))) la (.inl (k 0, 3200, .inl (upd fla ((nI (3100 + u1))).toNatClampNeg 0))))) _ _ _ ⟨⟨Nat.le_refl _, by omega⟩, hI0, hkp, (kpx.refl _ _), hm, hS, lv_sub hl [0, 1, 2, 3] rfl⟩
  intro ⟨j56, Ml56⟩ H locs ls hQ ih56
  obtain ⟨hj56, hI, hkp, hkl56, hm, hS, hl⟩ := hQ
  try dsimp only at hm hl ih56 hj56 hI hkp hkl56 ⊢
  obtain ⟨_, _, _, _, _, _, _, _, _, _, fen_1, _, _, _, _, _, _, _, _, _, _, _, -, -, hmd_1, ⟨-, -, -⟩, -, -, -, hen_1, -, -, -, -, -, -, -, -, -, -, -⟩ := id hI
  have kmo_1 := hkl56 _ _ (by simp only [List.mem_cons, List.not_mem_nil, or_false, not_or]; exact ne_mo_en) ((mu_ne ne_mo_la).trans ((mu_ne ne_mo_dr).trans ((mu_ne ne_mo_ia).trans ((mu_ne ne_mo_cn).trans hM))))
  have kcn_1 := hkl56 _ _ (by simp only [List.mem_cons, List.not_mem_nil, or_false, not_or]; exact ne_cn_en) ((mu_ne ne_cn_la).trans ((mu_ne ne_cn_dr).trans ((mu_ne ne_cn_ia).trans (mu_self _ _ _))))
  have kia_1 := hkl56 _ _ (by simp only [List.mem_cons, List.not_mem_nil, or_false, not_or]; exact ne_ia_en) ((mu_ne ne_ia_la).trans ((mu_ne ne_ia_dr).trans (mu_self _ _ _)))
  have kdr_1 := hkl56 _ _ (by simp only [List.mem_cons, List.not_mem_nil, or_false, not_or]; exact ne_dr_en) ((mu_ne ne_dr_la).trans (mu_self _ _ _))
  have kla_1 := hkl56 _ _ (by simp only [List.mem_cons, List.not_mem_nil, or_false, not_or]; exact ne_la_en) (mu_self _ _ _)
  have kwo_1 := hkl56 _ _ (by simp only [List.mem_cons, List.not_mem_nil, or_false, not_or]; exact ne_wo_en) ((mu_ne ne_wo_la).trans ((mu_ne ne_wo_dr).trans ((mu_ne ne_wo_ia).trans ((mu_ne ne_wo_cn).trans hwo))))
  have kop_1 := hkl56 _ _ (by simp only [List.mem_cons, List.not_mem_nil, or_false, not_or]; exact ne_op_en) ((mu_ne ne_op_la).trans ((mu_ne ne_op_dr).trans ((mu_ne ne_op_ia).trans ((mu_ne ne_op_cn).trans hop))))
  have kmk_1 := hkl56 _ _ (by simp only [List.mem_cons, List.not_mem_nil, or_false, not_or]; exact ne_mk_en) ((mu_ne ne_mk_la).trans ((mu_ne ne_mk_dr).trans ((mu_ne ne_mk_ia).trans ((mu_ne ne_mk_cn).trans hmk))))
  have kir_1 := hkl56 _ _ (by simp only [List.mem_cons, List.not_mem_nil, or_false, not_or]; exact ne_ir_en) ((mu_ne ne_ir_la).trans ((mu_ne ne_ir_dr).trans ((mu_ne ne_ir_ia).trans ((mu_ne ne_ir_cn).trans hir))))
  have kse_1 := hkl56 _ _ (by simp only [List.mem_cons, List.not_mem_nil, or_false, not_or]; exact ne_se_en) ((mu_ne ne_se_la).trans ((mu_ne ne_se_dr).trans ((mu_ne ne_se_ia).trans ((mu_ne ne_se_cn).trans hse))))
  have kec_1 := hkl56 _ _ (by simp only [List.mem_cons, List.not_mem_nil, or_false, not_or]; exact ne_ec_en) ((mu_ne ne_ec_la).trans ((mu_ne ne_ec_dr).trans ((mu_ne ne_ec_ia).trans ((mu_ne ne_ec_cn).trans hec))))
  have klc_1 := hkl56 _ _ (by simp only [List.mem_cons, List.not_mem_nil, or_false, not_or]; exact ne_lc_en) ((mu_ne ne_lc_la).trans ((mu_ne ne_lc_dr).trans ((mu_ne ne_lc_ia).trans ((mu_ne ne_lc_cn).trans hlc))))
  have kwc_1 := hkl56 _ _ (by simp only [List.mem_cons, List.not_mem_nil, or_false, not_or]; exact ne_wc_en) ((mu_ne ne_wc_la).trans ((mu_ne ne_wc_dr).trans ((mu_ne ne_wc_ia).trans ((mu_ne ne_wc_cn).trans hwc))))
  have kol_1 := hkl56 _ _ (by simp only [List.mem_cons, List.not_mem_nil, or_false, not_or]; exact ne_ol_en) ((mu_ne ne_ol_la).trans ((mu_ne ne_ol_dr).trans ((mu_ne ne_ol_ia).trans ((mu_ne ne_ol_cn).trans hol))))
  have kal_1 := hkl56 _ _ (by simp only [List.mem_cons, List.not_mem_nil, or_false, not_or]; exact ne_al_en) ((mu_ne ne_al_la).trans ((mu_ne ne_al_dr).trans ((mu_ne ne_al_ia).trans ((mu_ne ne_al_cn).trans hal))))
  refine lv_iload_n hx hb dX6_addNode_56 rfl (lv_at hl 0 rfl) ?_
  refine lv_bipush (v := 16) hx hb dX6_addNode_57 (by decide) ?_
  refine lv_icmp_ge (tgt := 80) hx hb dX6_addNode_59 (by decide) (fun c2 => ?_) (fun c2 => ?_)
  · have hqc2 : 16 ≤ j56 := nb_le (a := 16) (b := j56) (by omega) (by omega) c2
    refine lv_iconst (v := 0) hx hb dX6_addNode_80 (by decide) ?_
    refine lv_istore_n (lv' := [(3, .int 0), (2, .int (nI (3100 + u1))), (0, .ref mo), (1, .int (nI v9))]) hx hb dX6_addNode_81 rfl hl (by decide) rfl (fun ls hl => ?_)
    have hI0 : mI k Ml56 mo cn ia dr en la wo op mk ir se ec lc wc ol al dn md := ⟨_, _, _, _, _, _, _, (upd fcn (31 : Int32).toNatClampNeg (nI (u1 + 1))), (upd fia ((nI (3100 + u1))).toNatClampNeg (fia ((nI v9)).toNatClampNeg)), (upd fdr ((nI (3100 + u1))).toNatClampNeg (vp_nar .boolean (fdr ((nI v9)).toNatClampNeg))), fen_1, (upd fla ((nI (3100 + u1))).toNatClampNeg 0), fwo, fop, fmk, fir, fse, fec, flc, fol, fal, fwc, hap, kmo_1, hmd, ⟨hrC, hrL, hrM⟩, kcn_1, kia_1, kdr_1, hen_1, kla_1, kwo_1, kop_1, kmk_1, kir_1, kse_1, kec_1, klc_1, kwc_1, kol_1, kal_1⟩
    refine W_loop (σ := Nat × mM) (fun ⟨j82, Ml82⟩ H locs ls => (0 ≤ j82 ∧ j82 < 2147483000) ∧ (mI k Ml82 mo cn ia dr en la wo op mk ir se ec lc wc ol al dn md) ∧ (kpx (fun a => a ∈ [mo, cn, ia, dr, la, en, wo, se]) M Ml82) ∧ (kpx (fun a => a ∈ [wo]) Ml56 Ml82) ∧ mm D (AZ z) Ml82 H ∧ va_S (AZ z) s.heap H locs ∧ lv_has ls 4 [(3, .int (nI j82)), (2, .int (nI (3100 + u1))), (0, .ref mo), (1, .int (nI v9))]) (fun ⟨j82, Ml82⟩ => 2147483648 - j82) (fun _ => 0) (fun _ => 0) ?_ (0, Ml56) _ _ _ ⟨⟨Nat.le_refl _, by omega⟩, hI0, hkp, (kpx.refl _ _), hm, hS, lv_sub hl [0, 1, 2, 3] rfl⟩
    intro ⟨j82, Ml82⟩ H locs ls hQ ih82
    obtain ⟨hj82, hI, hkp, hkl82, hm, hS, hl⟩ := hQ
    try dsimp only at hm hl ih82 hj82 hI hkp hkl82 ⊢
    obtain ⟨_, _, _, _, _, _, _, _, _, _, _, _, fwo_2, _, _, _, _, _, _, _, _, _, -, -, hmd_2, ⟨-, -, -⟩, -, -, -, -, -, hwo_2, -, -, -, -, -, -, -, -, -⟩ := id hI
    have kmo_2 := hkl82 _ _ (by simp only [List.mem_cons, List.not_mem_nil, or_false, not_or]; exact ne_mo_wo) kmo_1
    have kcn_2 := hkl82 _ _ (by simp only [List.mem_cons, List.not_mem_nil, or_false, not_or]; exact ne_cn_wo) kcn_1
    have kia_2 := hkl82 _ _ (by simp only [List.mem_cons, List.not_mem_nil, or_false, not_or]; exact ne_ia_wo) kia_1
    have kdr_2 := hkl82 _ _ (by simp only [List.mem_cons, List.not_mem_nil, or_false, not_or]; exact ne_dr_wo) kdr_1
    have ken_2 := hkl82 _ _ (by simp only [List.mem_cons, List.not_mem_nil, or_false, not_or]; exact ne_en_wo) hen_1
    have kla_2 := hkl82 _ _ (by simp only [List.mem_cons, List.not_mem_nil, or_false, not_or]; exact ne_la_wo) kla_1
    have kop_2 := hkl82 _ _ (by simp only [List.mem_cons, List.not_mem_nil, or_false, not_or]; exact ne_op_wo) kop_1
    have kmk_2 := hkl82 _ _ (by simp only [List.mem_cons, List.not_mem_nil, or_false, not_or]; exact ne_mk_wo) kmk_1
    have kir_2 := hkl82 _ _ (by simp only [List.mem_cons, List.not_mem_nil, or_false, not_or]; exact ne_ir_wo) kir_1
    have kse_2 := hkl82 _ _ (by simp only [List.mem_cons, List.not_mem_nil, or_false, not_or]; exact ne_se_wo) kse_1
    have kec_2 := hkl82 _ _ (by simp only [List.mem_cons, List.not_mem_nil, or_false, not_or]; exact ne_ec_wo) kec_1
    have klc_2 := hkl82 _ _ (by simp only [List.mem_cons, List.not_mem_nil, or_false, not_or]; exact ne_lc_wo) klc_1
    have kwc_2 := hkl82 _ _ (by simp only [List.mem_cons, List.not_mem_nil, or_false, not_or]; exact ne_wc_wo) kwc_1
    have kol_2 := hkl82 _ _ (by simp only [List.mem_cons, List.not_mem_nil, or_false, not_or]; exact ne_ol_wo) kol_1
    have kal_2 := hkl82 _ _ (by simp only [List.mem_cons, List.not_mem_nil, or_false, not_or]; exact ne_al_wo) kal_1
    refine lv_iload_n hx hb dX6_addNode_82 rfl (lv_at hl 0 rfl) ?_
    refine lv_bipush (v := 64) hx hb dX6_addNode_83 (by decide) ?_
    refine lv_icmp_ge (tgt := 106) hx hb dX6_addNode_85 (by decide) (fun c3 => ?_) (fun c3 => ?_)
    · have hqc3 : 64 ≤ j82 := nb_le (a := 64) (b := j82) (by omega) (by omega) c3
      refine lv_aload_n hx hb dX6_addNode_106 rfl (lv_at hl 2 rfl) ?_
      refine m_get (T := TX6) (N := 24) (ci := 6) (v := .ref se) hx hb hts wX6 hown hK hm kmo_2 rfl 16 (by decide) f48 (fun _ h9 => h9) rfl dX6_addNode_107 ?_
      refine lv_iload_n hx hb dX6_addNode_110 rfl (lv_at hl 1 rfl) ?_
      refine lv_sipush (v := 3100) hx hb dX6_addNode_111 (by decide) ?_
      refine lv_isub hx hb dX6_addNode_114 ?_
      refine W.eq (g2 := F0 m 115 ls [.int (nI ((3100 + u1) - 3100)), .ref se]) (by rw [show (((nI (3100 + u1))) - (3100) : Int32) = nI ((3100 + u1) - 3100) from pk_sub (a := (3100 + u1)) (b := 3100) (by omega)]) ?_
      refine lv_iconst (v := 1) hx hb dX6_addNode_115 (by decide) ?_
      refine m_zast hx hb hK hm hS 2 kse_2 rfl (vp_in_nI (by omega) (by decide)) dX6_addNode_116 (fun H locs hm hS => ?_)
      have hm : mm D (AZ z) (mu Ml82 se (.inl (k 2, 100, .inl (upd fse ((nI ((3100 + u1) - 3100))).toNatClampNeg (vp_nar .boolean 1))))) H := hm
      have hkp : kpx (fun a => a ∈ [mo, cn, ia, dr, la, en, wo, se]) M (mu Ml82 se (.inl (k 2, 100, .inl (upd fse ((nI ((3100 + u1) - 3100))).toNatClampNeg (vp_nar .boolean 1))))) := (hkp).self (by simp)
      refine lv_aload_n hx hb dX6_addNode_117 rfl (lv_at hl 2 rfl) ?_
      refine lv_dup hx hb dX6_addNode_118 rfl ?_
      refine m_get (T := TX6) (N := 24) (ci := 6) (v := .int cs) hx hb hts wX6 hown hK hm ((mu_ne ne_mo_se).trans kmo_2) rfl 22 (by decide) f118 (fun _ h9 => h9) rfl dX6_addNode_119 ?_
      refine lv_iconst (v := 1) hx hb dX6_addNode_122 (by decide) ?_
      refine lv_iadd hx hb dX6_addNode_123 ?_
      refine m_put (T := TX6) (N := 24) (ci := 6) (v := .int (cs + 1)) (ty := .int) hx hb hts wX6 tyX6 tyX6_ok nmX6 hown hK hm hS ((mu_ne ne_mo_se).trans kmo_2) rfl 22 (by decide) f118 (fun _ h9 => h9) rfl (by decide +kernel) rfl rfl (Nat.le_of_ble_eq_true rfl) dX6_addNode_124 (fun H locs hm hS => ?_)
      have hm : mm D (AZ z) (mu (mu Ml82 se (.inl (k 2, 100, .inl (upd fse ((nI ((3100 + u1) - 3100))).toNatClampNeg (vp_nar .boolean 1))))) mo (.inr (6, [.int cd, .ref cn, .ref ia, .ref dr, .ref en, .ref la, .ref wo, .int ni, .ref op, .ref mk, .ref ir, .int dn, .int md, .int pw, .int cm, .int wr, .ref se, .ref ec, .ref lc, .ref wc, .ref ol, .ref al, .int (cs + 1), .int hm9]))) H := hm
      have hkp : kpx (fun a => a ∈ [mo, cn, ia, dr, la, en, wo, se]) M (mu (mu Ml82 se (.inl (k 2, 100, .inl (upd fse ((nI ((3100 + u1) - 3100))).toNatClampNeg (vp_nar .boolean 1))))) mo (.inr (6, [.int cd, .ref cn, .ref ia, .ref dr, .ref en, .ref la, .ref wo, .int ni, .ref op, .ref mk, .ref ir, .int dn, .int md, .int pw, .int cm, .int wr, .ref se, .ref ec, .ref lc, .ref wc, .ref ol, .ref al, .int (cs + 1), .int hm9]))) := (hkp).self (by simp)
      refine lv_iload_n hx hb dX6_addNode_127 rfl (lv_at hl 1 rfl) ?_
      refine W.iret (v := (nI (3100 + u1))) hx hb hr (fun t ht hW => ⟨⟨some (.int (nI (3100 + u1))), _, rfl, ?_, by rw [ht]; exact hm⟩, hS.F ht⟩) hS.2.2 dX6_addNode_128
      exact ⟨⟨⟨_, rfl, by omega, by omega⟩, _, u1 + 1, ((mu_ne ne_cn_mo).trans ((mu_ne ne_cn_se).trans kcn_2)), if_pos rfl, by omega⟩, ⟨_, _, _, _, _, _, _, (upd fcn (31 : Int32).toNatClampNeg (nI (u1 + 1))), (upd fia ((nI (3100 + u1))).toNatClampNeg (fia ((nI v9)).toNatClampNeg)), (upd fdr ((nI (3100 + u1))).toNatClampNeg (vp_nar .boolean (fdr ((nI v9)).toNatClampNeg))), fen_1, (upd fla ((nI (3100 + u1))).toNatClampNeg 0), fwo_2, fop, fmk, fir, (upd fse ((nI ((3100 + u1) - 3100))).toNatClampNeg (vp_nar .boolean 1)), fec, flc, fol, fal, fwc, hap, (mu_self _ _ _), hmd, ⟨hrC, hrL, hrM⟩, ((mu_ne ne_cn_mo).trans ((mu_ne ne_cn_se).trans kcn_2)), ((mu_ne ne_ia_mo).trans ((mu_ne ne_ia_se).trans kia_2)), ((mu_ne ne_dr_mo).trans ((mu_ne ne_dr_se).trans kdr_2)), ((mu_ne ne_en_mo).trans ((mu_ne ne_en_se).trans ken_2)), ((mu_ne ne_la_mo).trans ((mu_ne ne_la_se).trans kla_2)), ((mu_ne ne_wo_mo).trans ((mu_ne ne_wo_se).trans hwo_2)), ((mu_ne ne_op_mo).trans ((mu_ne ne_op_se).trans kop_2)), ((mu_ne ne_mk_mo).trans ((mu_ne ne_mk_se).trans kmk_2)), ((mu_ne ne_ir_mo).trans ((mu_ne ne_ir_se).trans kir_2)), ((mu_ne ne_se_mo).trans (mu_self _ _ _)), ((mu_ne ne_ec_mo).trans ((mu_ne ne_ec_se).trans kec_2)), ((mu_ne ne_lc_mo).trans ((mu_ne ne_lc_se).trans klc_2)), ((mu_ne ne_wc_mo).trans ((mu_ne ne_wc_se).trans kwc_2)), ((mu_ne ne_ol_mo).trans ((mu_ne ne_ol_se).trans kol_2)), ((mu_ne ne_al_mo).trans ((mu_ne ne_al_se).trans kal_2))⟩, hkp⟩
    · have hqc3 : j82 < 64 := nb_nle (a := 64) (b := j82) (by omega) (by omega) c3
      refine lv_aload_n hx hb dX6_addNode_88 rfl (lv_at hl 2 rfl) ?_
      refine m_get (T := TX6) (N := 24) (ci := 6) (v := .ref wo) hx hb hts wX6 hown hK hm kmo_2 rfl 6 (by decide) f28 (fun _ h9 => h9) rfl dX6_addNode_89 ?_
      refine lv_bipush (v := 64) hx hb dX6_addNode_92 (by decide) ?_
      refine lv_iload_n hx hb dX6_addNode_94 rfl (lv_at hl 1 rfl) ?_
      refine lv_imul hx hb dX6_addNode_95 ?_
      refine W.eq (g2 := F0 m 96 ls [.int (nI (64 * (3100 + u1))), .ref wo]) (by rw [show ((64) * ((nI (3100 + u1))) : Int32) = nI (64 * (3100 + u1)) from pk_mul 64 (3100 + u1)]) ?_
      refine lv_iload_n hx hb dX6_addNode_96 rfl (lv_at hl 0 rfl) ?_
      refine lv_iadd hx hb dX6_addNode_97 ?_
      refine W.eq (g2 := F0 m 98 ls [.int (nI ((64 * (3100 + u1)) + j82)), .ref wo]) (by rw [show (((nI (64 * (3100 + u1)))) + ((nI j82)) : Int32) = nI ((64 * (3100 + u1)) + j82) from nI_add (64 * (3100 + u1)) j82]) ?_
      refine lv_iconst (v := 0) hx hb dX6_addNode_98 (by decide) ?_
      refine m_iast hx hb hK hm hS 0 hwo_2 rfl (vp_in_nI (by omega) (by decide)) dX6_addNode_99 (fun H locs hm hS => ?_)
      have hm : mm D (AZ z) (mu Ml82 wo (.inl (k 0, 204800, .inl (upd fwo_2 ((nI ((64 * (3100 + u1)) + j82))).toNatClampNeg 0)))) H := hm
      have hkp : kpx (fun a => a ∈ [mo, cn, ia, dr, la, en, wo, se]) M (mu Ml82 wo (.inl (k 0, 204800, .inl (upd fwo_2 ((nI ((64 * (3100 + u1)) + j82))).toNatClampNeg 0)))) := (hkp).self (by simp)
      have hkl82 : kpx (fun a => a ∈ [wo]) Ml56 (mu Ml82 wo (.inl (k 0, 204800, .inl (upd fwo_2 ((nI ((64 * (3100 + u1)) + j82))).toNatClampNeg 0)))) := hkl82.self (by simp)
      refine lv_iinc (v := ((nI j82) + 1)) (lv' := [(3, .int ((nI j82) + 1)), (2, .int (nI (3100 + u1))), (0, .ref mo), (1, .int (nI v9))]) hx hb dX6_addNode_100 hl (k := 0) rfl rfl (by decide) rfl (fun ls hl => ?_)
      refine lv_goto (tgt := 82) hx hb dX6_addNode_103 (by decide) ?_
      rw [nI_1] at hl
      exact ih82 (j82 + 1, (mu Ml82 wo (.inl (k 0, 204800, .inl (upd fwo_2 ((nI ((64 * (3100 + u1)) + j82))).toNatClampNeg 0))))) _ _ _ ⟨⟨by omega, by omega⟩, ⟨_, _, _, _, _, _, _, (upd fcn (31 : Int32).toNatClampNeg (nI (u1 + 1))), (upd fia ((nI (3100 + u1))).toNatClampNeg (fia ((nI v9)).toNatClampNeg)), (upd fdr ((nI (3100 + u1))).toNatClampNeg (vp_nar .boolean (fdr ((nI v9)).toNatClampNeg))), fen_1, (upd fla ((nI (3100 + u1))).toNatClampNeg 0), (upd fwo_2 ((nI ((64 * (3100 + u1)) + j82))).toNatClampNeg 0), fop, fmk, fir, fse, fec, flc, fol, fal, fwc, hap, ((mu_ne ne_mo_wo).trans kmo_2), hmd, ⟨hrC, hrL, hrM⟩, ((mu_ne ne_cn_wo).trans kcn_2), ((mu_ne ne_ia_wo).trans kia_2), ((mu_ne ne_dr_wo).trans kdr_2), ((mu_ne ne_en_wo).trans ken_2), ((mu_ne ne_la_wo).trans kla_2), (mu_self _ _ _), ((mu_ne ne_op_wo).trans kop_2), ((mu_ne ne_mk_wo).trans kmk_2), ((mu_ne ne_ir_wo).trans kir_2), ((mu_ne ne_se_wo).trans kse_2), ((mu_ne ne_ec_wo).trans kec_2), ((mu_ne ne_lc_wo).trans klc_2), ((mu_ne ne_wc_wo).trans kwc_2), ((mu_ne ne_ol_wo).trans kol_2), ((mu_ne ne_al_wo).trans kal_2)⟩, hkp, hkl82, hm, hS, lv_sub hl [0, 1, 2, 3] rfl⟩ (by show 2147483648 - (j82 + 1) < 2147483648 - j82; omega)
  · have hqc2 : j56 < 16 := nb_nle (a := 16) (b := j56) (by omega) (by omega) c2
    refine lv_aload_n hx hb dX6_addNode_62 rfl (lv_at hl 2 rfl) ?_
    refine m_get (T := TX6) (N := 24) (ci := 6) (v := .ref en) hx hb hts wX6 hown hK hm kmo_1 rfl 4 (by decide) f21 (fun _ h9 => h9) rfl dX6_addNode_63 ?_
    refine lv_bipush (v := 16) hx hb dX6_addNode_66 (by decide) ?_
    refine lv_iload_n hx hb dX6_addNode_68 rfl (lv_at hl 1 rfl) ?_
    refine lv_imul hx hb dX6_addNode_69 ?_
    refine W.eq (g2 := F0 m 70 ls [.int (nI (16 * (3100 + u1))), .ref en]) (by rw [show ((16) * ((nI (3100 + u1))) : Int32) = nI (16 * (3100 + u1)) from pk_mul 16 (3100 + u1)]) ?_
    refine lv_iload_n hx hb dX6_addNode_70 rfl (lv_at hl 0 rfl) ?_
    refine lv_iadd hx hb dX6_addNode_71 ?_
    refine W.eq (g2 := F0 m 72 ls [.int (nI ((16 * (3100 + u1)) + j56)), .ref en]) (by rw [show (((nI (16 * (3100 + u1)))) + ((nI j56)) : Int32) = nI ((16 * (3100 + u1)) + j56) from nI_add (16 * (3100 + u1)) j56]) ?_
    refine lv_iconst (v := 0) hx hb dX6_addNode_72 (by decide) ?_
    refine m_iast hx hb hK hm hS 0 hen_1 rfl (vp_in_nI (by omega) (by decide)) dX6_addNode_73 (fun H locs hm hS => ?_)
    have hm : mm D (AZ z) (mu Ml56 en (.inl (k 0, 51200, .inl (upd fen_1 ((nI ((16 * (3100 + u1)) + j56))).toNatClampNeg 0)))) H := hm
    have hkp : kpx (fun a => a ∈ [mo, cn, ia, dr, la, en, wo, se]) M (mu Ml56 en (.inl (k 0, 51200, .inl (upd fen_1 ((nI ((16 * (3100 + u1)) + j56))).toNatClampNeg 0)))) := (hkp).self (by simp)
    have hkl56 : kpx (fun a => a ∈ [en]) (mu (mu (mu (mu M cn (.inl (k 0, 32, .inl (upd fcn (31 : Int32).toNatClampNeg (nI (u1 + 1)))))) ia (.inl (k 0, 3200, .inl (upd fia ((nI (3100 + u1))).toNatClampNeg (fia ((nI v9)).toNatClampNeg))))) dr (.inl (k 2, 3200, .inl (upd fdr ((nI (3100 + u1))).toNatClampNeg (vp_nar .boolean (fdr ((nI v9)).toNatClampNeg)))))) la (.inl (k 0, 3200, .inl (upd fla ((nI (3100 + u1))).toNatClampNeg 0)))) (mu Ml56 en (.inl (k 0, 51200, .inl (upd fen_1 ((nI ((16 * (3100 + u1)) + j56))).toNatClampNeg 0)))) := hkl56.self (by simp)
    refine lv_iinc (v := ((nI j56) + 1)) (lv' := [(3, .int ((nI j56) + 1)), (2, .int (nI (3100 + u1))), (0, .ref mo), (1, .int (nI v9))]) hx hb dX6_addNode_74 hl (k := 0) rfl rfl (by decide) rfl (fun ls hl => ?_)
    refine lv_goto (tgt := 56) hx hb dX6_addNode_77 (by decide) ?_
    rw [nI_1] at hl
    exact ih56 (j56 + 1, (mu Ml56 en (.inl (k 0, 51200, .inl (upd fen_1 ((nI ((16 * (3100 + u1)) + j56))).toNatClampNeg 0))))) _ _ _ ⟨⟨by omega, by omega⟩, ⟨_, _, _, _, _, _, _, (upd fcn (31 : Int32).toNatClampNeg (nI (u1 + 1))), (upd fia ((nI (3100 + u1))).toNatClampNeg (fia ((nI v9)).toNatClampNeg)), (upd fdr ((nI (3100 + u1))).toNatClampNeg (vp_nar .boolean (fdr ((nI v9)).toNatClampNeg))), (upd fen_1 ((nI ((16 * (3100 + u1)) + j56))).toNatClampNeg 0), (upd fla ((nI (3100 + u1))).toNatClampNeg 0), fwo, fop, fmk, fir, fse, fec, flc, fol, fal, fwc, hap, ((mu_ne ne_mo_en).trans kmo_1), hmd, ⟨hrC, hrL, hrM⟩, ((mu_ne ne_cn_en).trans kcn_1), ((mu_ne ne_ia_en).trans kia_1), ((mu_ne ne_dr_en).trans kdr_1), (mu_self _ _ _), ((mu_ne ne_la_en).trans kla_1), ((mu_ne ne_wo_en).trans kwo_1), ((mu_ne ne_op_en).trans kop_1), ((mu_ne ne_mk_en).trans kmk_1), ((mu_ne ne_ir_en).trans kir_1), ((mu_ne ne_se_en).trans kse_1), ((mu_ne ne_ec_en).trans kec_1), ((mu_ne ne_lc_en).trans klc_1), ((mu_ne ne_wc_en).trans kwc_1), ((mu_ne ne_ol_en).trans kol_1), ((mu_ne ne_al_en).trans kal_1)⟩, hkp, hkl56, hm, hS, lv_sub hl [0, 1, 2, 3] rfl⟩ (by show 2147483648 - (j56 + 1) < 2147483648 - j56; omega)

set_option maxHeartbeats 4000000 in
set_option maxRecDepth 100000 in
theorem x_X6_setValue (l : Launch) (D : va_G) (k : Nat → ClassId) (z : Nat) (M : mM) (mo cn ia dr en la wo op mk ir se ec lc wc ol al : Nat) (dn md : Int32)  (n9 c9c : Nat) (x9 : Int32) (hn9 : n9 < 3200) (hc9 : c9c < 95) (hnh : c9c < 15 ∨ 30 ≤ c9c) (hx9 : c9c = 30 → ∃ y, y ≤ 64 ∧ x9 = nI y) (hI : mI k M mo cn ia dr en la wo op mk ir se ec lc wc ol al dn md) : mK l yX6_setValue wsX6_setValue ({ frames := 0, cells := 0, slots := 0, locals := 0 }) D k z [.ref mo, .int (nI n9), .int (nI c9c), .int x9] M (fun v M' => (v = none) ∧ mI k M' mo cn ia dr en la wo op mk ir se ec lc wc ol al dn md ∧ kpx (fun a => a ∈ [en, la, wo]) M M') := by
  refine Met.ofW (cc := cX6_setValue) (maxL := 4) (ret := none) (by decide) rfl ?_
  intro p e s m args below meth c s₁ B hml hv
  obtain ⟨rfl, hz, hcx, hm⟩ := hv
  have hx := B.exec
  have hb := B.bytes
  have hr := B.returns
  have hts := atoms_spec (ws := wsX6_setValue) B.pre
  have hown : s.vm.findClass RX6 = some m.cls := findClass_of_methodNamed B.named
  have hlocks := B.notSynchronized
  have hK := hcx.1
  have hS : va_S (AZ z) s.heap s.heap [] := va_S.rf
  have hA : ∀ q, s.heap.size ≤ q → AZ z q := fun q h => Nat.le_trans hz h
  have hl := lv_entry ([.ref mo, .int (nI n9), .int (nI c9c), .int x9]) (n := 4) (Nat.le_of_ble_eq_true rfl)
  rw [lg_entry_eq]
  generalize (lg_sl ([.ref mo, .int (nI n9), .int (nI c9c), .int x9]) ++ List.replicate (4 - (lg_sl ([.ref mo, .int (nI n9), .int (nI c9c), .int x9])).length) Slot.unset).toArray = ls at hl ⊢
  have hl : lv_has ls 4 [(0, .ref mo), (1, .int (nI n9)), (2, .int (nI c9c)), (3, .int x9)] := hl
  have f21 := hts (.fieldLink RX6 21 "CommitTreeModel" "entries" "[I") (by decide +kernel)
  have f24 := hts (.fieldLink RX6 24 "CommitTreeModel" "lengths" "[I") (by decide +kernel)
  have f28 := hts (.fieldLink RX6 28 "CommitTreeModel" "words" "[I") (by decide +kernel)
  have wX6 : ∀ w ∈ wsX60, w ∈ wsX6_setValue := by decide +kernel
  obtain ⟨cd, ni, pw, cm, wr, cs, hm9, fcn, fia, fdr, fen, fla, fwo, fop, fmk, fir, fse, fec, flc, fol, fal, fwc, hap, hM, hmd, ⟨hrC, hrL, hrM⟩, hcn, hia, hdr, hen, hla, hwo, hop, hmk, hir, hse, hec, hlc, hwc, hol, hal⟩ := id hI
  have ne_mo_cn : nq mo cn := pw_ne hap 0 1 (by decide) (Nat.le_of_ble_eq_true rfl)
  have ne_cn_mo : nq cn mo := Ne.symm ne_mo_cn
  have ne_mo_ia : nq mo ia := pw_ne hap 0 2 (by decide) (Nat.le_of_ble_eq_true rfl)
  have ne_ia_mo : nq ia mo := Ne.symm ne_mo_ia
  have ne_mo_dr : nq mo dr := pw_ne hap 0 3 (by decide) (Nat.le_of_ble_eq_true rfl)
  have ne_dr_mo : nq dr mo := Ne.symm ne_mo_dr
  have ne_mo_en : nq mo en := pw_ne hap 0 4 (by decide) (Nat.le_of_ble_eq_true rfl)
  have ne_en_mo : nq en mo := Ne.symm ne_mo_en
  have ne_mo_la : nq mo la := pw_ne hap 0 5 (by decide) (Nat.le_of_ble_eq_true rfl)
  have ne_la_mo : nq la mo := Ne.symm ne_mo_la
  have ne_mo_wo : nq mo wo := pw_ne hap 0 6 (by decide) (Nat.le_of_ble_eq_true rfl)
  have ne_wo_mo : nq wo mo := Ne.symm ne_mo_wo
  have ne_mo_op : nq mo op := pw_ne hap 0 7 (by decide) (Nat.le_of_ble_eq_true rfl)
  have ne_op_mo : nq op mo := Ne.symm ne_mo_op
  have ne_mo_mk : nq mo mk := pw_ne hap 0 8 (by decide) (Nat.le_of_ble_eq_true rfl)
  have ne_mk_mo : nq mk mo := Ne.symm ne_mo_mk
  have ne_mo_ir : nq mo ir := pw_ne hap 0 9 (by decide) (Nat.le_of_ble_eq_true rfl)
  have ne_ir_mo : nq ir mo := Ne.symm ne_mo_ir
  have ne_mo_se : nq mo se := pw_ne hap 0 10 (by decide) (Nat.le_of_ble_eq_true rfl)
  have ne_se_mo : nq se mo := Ne.symm ne_mo_se
  have ne_mo_ec : nq mo ec := pw_ne hap 0 11 (by decide) (Nat.le_of_ble_eq_true rfl)
  have ne_ec_mo : nq ec mo := Ne.symm ne_mo_ec
  have ne_mo_lc : nq mo lc := pw_ne hap 0 12 (by decide) (Nat.le_of_ble_eq_true rfl)
  have ne_lc_mo : nq lc mo := Ne.symm ne_mo_lc
  have ne_mo_wc : nq mo wc := pw_ne hap 0 13 (by decide) (Nat.le_of_ble_eq_true rfl)
  have ne_wc_mo : nq wc mo := Ne.symm ne_mo_wc
  have ne_mo_ol : nq mo ol := pw_ne hap 0 14 (by decide) (Nat.le_of_ble_eq_true rfl)
  have ne_ol_mo : nq ol mo := Ne.symm ne_mo_ol
  have ne_mo_al : nq mo al := pw_ne hap 0 15 (by decide) (Nat.le_of_ble_eq_true rfl)
  have ne_al_mo : nq al mo := Ne.symm ne_mo_al
  have ne_cn_ia : nq cn ia := pw_ne hap 1 2 (by decide) (Nat.le_of_ble_eq_true rfl)
  have ne_ia_cn : nq ia cn := Ne.symm ne_cn_ia
  have ne_cn_dr : nq cn dr := pw_ne hap 1 3 (by decide) (Nat.le_of_ble_eq_true rfl)
  have ne_dr_cn : nq dr cn := Ne.symm ne_cn_dr
  have ne_cn_en : nq cn en := pw_ne hap 1 4 (by decide) (Nat.le_of_ble_eq_true rfl)
  have ne_en_cn : nq en cn := Ne.symm ne_cn_en
  have ne_cn_la : nq cn la := pw_ne hap 1 5 (by decide) (Nat.le_of_ble_eq_true rfl)
  have ne_la_cn : nq la cn := Ne.symm ne_cn_la
  have ne_cn_wo : nq cn wo := pw_ne hap 1 6 (by decide) (Nat.le_of_ble_eq_true rfl)
  have ne_wo_cn : nq wo cn := Ne.symm ne_cn_wo
  have ne_cn_op : nq cn op := pw_ne hap 1 7 (by decide) (Nat.le_of_ble_eq_true rfl)
  have ne_op_cn : nq op cn := Ne.symm ne_cn_op
  have ne_cn_mk : nq cn mk := pw_ne hap 1 8 (by decide) (Nat.le_of_ble_eq_true rfl)
  have ne_mk_cn : nq mk cn := Ne.symm ne_cn_mk
  have ne_cn_ir : nq cn ir := pw_ne hap 1 9 (by decide) (Nat.le_of_ble_eq_true rfl)
  have ne_ir_cn : nq ir cn := Ne.symm ne_cn_ir
  have ne_cn_se : nq cn se := pw_ne hap 1 10 (by decide) (Nat.le_of_ble_eq_true rfl)
  have ne_se_cn : nq se cn := Ne.symm ne_cn_se
  have ne_cn_ec : nq cn ec := pw_ne hap 1 11 (by decide) (Nat.le_of_ble_eq_true rfl)
  have ne_ec_cn : nq ec cn := Ne.symm ne_cn_ec
  have ne_cn_lc : nq cn lc := pw_ne hap 1 12 (by decide) (Nat.le_of_ble_eq_true rfl)
  have ne_lc_cn : nq lc cn := Ne.symm ne_cn_lc
  have ne_cn_wc : nq cn wc := pw_ne hap 1 13 (by decide) (Nat.le_of_ble_eq_true rfl)
  have ne_wc_cn : nq wc cn := Ne.symm ne_cn_wc
  have ne_cn_ol : nq cn ol := pw_ne hap 1 14 (by decide) (Nat.le_of_ble_eq_true rfl)
  have ne_ol_cn : nq ol cn := Ne.symm ne_cn_ol
  have ne_cn_al : nq cn al := pw_ne hap 1 15 (by decide) (Nat.le_of_ble_eq_true rfl)
  have ne_al_cn : nq al cn := Ne.symm ne_cn_al
  have ne_ia_dr : nq ia dr := pw_ne hap 2 3 (by decide) (Nat.le_of_ble_eq_true rfl)
  have ne_dr_ia : nq dr ia := Ne.symm ne_ia_dr
  have ne_ia_en : nq ia en := pw_ne hap 2 4 (by decide) (Nat.le_of_ble_eq_true rfl)
  have ne_en_ia : nq en ia := Ne.symm ne_ia_en
  have ne_ia_la : nq ia la := pw_ne hap 2 5 (by decide) (Nat.le_of_ble_eq_true rfl)
  have ne_la_ia : nq la ia := Ne.symm ne_ia_la
  have ne_ia_wo : nq ia wo := pw_ne hap 2 6 (by decide) (Nat.le_of_ble_eq_true rfl)
  have ne_wo_ia : nq wo ia := Ne.symm ne_ia_wo
  have ne_ia_op : nq ia op := pw_ne hap 2 7 (by decide) (Nat.le_of_ble_eq_true rfl)
  have ne_op_ia : nq op ia := Ne.symm ne_ia_op
  have ne_ia_mk : nq ia mk := pw_ne hap 2 8 (by decide) (Nat.le_of_ble_eq_true rfl)
  have ne_mk_ia : nq mk ia := Ne.symm ne_ia_mk
  have ne_ia_ir : nq ia ir := pw_ne hap 2 9 (by decide) (Nat.le_of_ble_eq_true rfl)
  have ne_ir_ia : nq ir ia := Ne.symm ne_ia_ir
  have ne_ia_se : nq ia se := pw_ne hap 2 10 (by decide) (Nat.le_of_ble_eq_true rfl)
  have ne_se_ia : nq se ia := Ne.symm ne_ia_se
  have ne_ia_ec : nq ia ec := pw_ne hap 2 11 (by decide) (Nat.le_of_ble_eq_true rfl)
  have ne_ec_ia : nq ec ia := Ne.symm ne_ia_ec
  have ne_ia_lc : nq ia lc := pw_ne hap 2 12 (by decide) (Nat.le_of_ble_eq_true rfl)
  have ne_lc_ia : nq lc ia := Ne.symm ne_ia_lc
  have ne_ia_wc : nq ia wc := pw_ne hap 2 13 (by decide) (Nat.le_of_ble_eq_true rfl)
  have ne_wc_ia : nq wc ia := Ne.symm ne_ia_wc
  have ne_ia_ol : nq ia ol := pw_ne hap 2 14 (by decide) (Nat.le_of_ble_eq_true rfl)
  have ne_ol_ia : nq ol ia := Ne.symm ne_ia_ol
  have ne_ia_al : nq ia al := pw_ne hap 2 15 (by decide) (Nat.le_of_ble_eq_true rfl)
  have ne_al_ia : nq al ia := Ne.symm ne_ia_al
  have ne_dr_en : nq dr en := pw_ne hap 3 4 (by decide) (Nat.le_of_ble_eq_true rfl)
  have ne_en_dr : nq en dr := Ne.symm ne_dr_en
  have ne_dr_la : nq dr la := pw_ne hap 3 5 (by decide) (Nat.le_of_ble_eq_true rfl)
  have ne_la_dr : nq la dr := Ne.symm ne_dr_la
  have ne_dr_wo : nq dr wo := pw_ne hap 3 6 (by decide) (Nat.le_of_ble_eq_true rfl)
  have ne_wo_dr : nq wo dr := Ne.symm ne_dr_wo
  have ne_dr_op : nq dr op := pw_ne hap 3 7 (by decide) (Nat.le_of_ble_eq_true rfl)
  have ne_op_dr : nq op dr := Ne.symm ne_dr_op
  have ne_dr_mk : nq dr mk := pw_ne hap 3 8 (by decide) (Nat.le_of_ble_eq_true rfl)
  have ne_mk_dr : nq mk dr := Ne.symm ne_dr_mk
  have ne_dr_ir : nq dr ir := pw_ne hap 3 9 (by decide) (Nat.le_of_ble_eq_true rfl)
  have ne_ir_dr : nq ir dr := Ne.symm ne_dr_ir
  have ne_dr_se : nq dr se := pw_ne hap 3 10 (by decide) (Nat.le_of_ble_eq_true rfl)
  have ne_se_dr : nq se dr := Ne.symm ne_dr_se
  have ne_dr_ec : nq dr ec := pw_ne hap 3 11 (by decide) (Nat.le_of_ble_eq_true rfl)
  have ne_ec_dr : nq ec dr := Ne.symm ne_dr_ec
  have ne_dr_lc : nq dr lc := pw_ne hap 3 12 (by decide) (Nat.le_of_ble_eq_true rfl)
  have ne_lc_dr : nq lc dr := Ne.symm ne_dr_lc
  have ne_dr_wc : nq dr wc := pw_ne hap 3 13 (by decide) (Nat.le_of_ble_eq_true rfl)
  have ne_wc_dr : nq wc dr := Ne.symm ne_dr_wc
  have ne_dr_ol : nq dr ol := pw_ne hap 3 14 (by decide) (Nat.le_of_ble_eq_true rfl)
  have ne_ol_dr : nq ol dr := Ne.symm ne_dr_ol
  have ne_dr_al : nq dr al := pw_ne hap 3 15 (by decide) (Nat.le_of_ble_eq_true rfl)
  have ne_al_dr : nq al dr := Ne.symm ne_dr_al
  have ne_en_la : nq en la := pw_ne hap 4 5 (by decide) (Nat.le_of_ble_eq_true rfl)
  have ne_la_en : nq la en := Ne.symm ne_en_la
  have ne_en_wo : nq en wo := pw_ne hap 4 6 (by decide) (Nat.le_of_ble_eq_true rfl)
  have ne_wo_en : nq wo en := Ne.symm ne_en_wo
  have ne_en_op : nq en op := pw_ne hap 4 7 (by decide) (Nat.le_of_ble_eq_true rfl)
  have ne_op_en : nq op en := Ne.symm ne_en_op
  have ne_en_mk : nq en mk := pw_ne hap 4 8 (by decide) (Nat.le_of_ble_eq_true rfl)
  have ne_mk_en : nq mk en := Ne.symm ne_en_mk
  have ne_en_ir : nq en ir := pw_ne hap 4 9 (by decide) (Nat.le_of_ble_eq_true rfl)
  have ne_ir_en : nq ir en := Ne.symm ne_en_ir
  have ne_en_se : nq en se := pw_ne hap 4 10 (by decide) (Nat.le_of_ble_eq_true rfl)
  have ne_se_en : nq se en := Ne.symm ne_en_se
  have ne_en_ec : nq en ec := pw_ne hap 4 11 (by decide) (Nat.le_of_ble_eq_true rfl)
  have ne_ec_en : nq ec en := Ne.symm ne_en_ec
  have ne_en_lc : nq en lc := pw_ne hap 4 12 (by decide) (Nat.le_of_ble_eq_true rfl)
  have ne_lc_en : nq lc en := Ne.symm ne_en_lc
  have ne_en_wc : nq en wc := pw_ne hap 4 13 (by decide) (Nat.le_of_ble_eq_true rfl)
  have ne_wc_en : nq wc en := Ne.symm ne_en_wc
  have ne_en_ol : nq en ol := pw_ne hap 4 14 (by decide) (Nat.le_of_ble_eq_true rfl)
  have ne_ol_en : nq ol en := Ne.symm ne_en_ol
  have ne_en_al : nq en al := pw_ne hap 4 15 (by decide) (Nat.le_of_ble_eq_true rfl)
  have ne_al_en : nq al en := Ne.symm ne_en_al
  have ne_la_wo : nq la wo := pw_ne hap 5 6 (by decide) (Nat.le_of_ble_eq_true rfl)
  have ne_wo_la : nq wo la := Ne.symm ne_la_wo
  have ne_la_op : nq la op := pw_ne hap 5 7 (by decide) (Nat.le_of_ble_eq_true rfl)
  have ne_op_la : nq op la := Ne.symm ne_la_op
  have ne_la_mk : nq la mk := pw_ne hap 5 8 (by decide) (Nat.le_of_ble_eq_true rfl)
  have ne_mk_la : nq mk la := Ne.symm ne_la_mk
  have ne_la_ir : nq la ir := pw_ne hap 5 9 (by decide) (Nat.le_of_ble_eq_true rfl)
  have ne_ir_la : nq ir la := Ne.symm ne_la_ir
  have ne_la_se : nq la se := pw_ne hap 5 10 (by decide) (Nat.le_of_ble_eq_true rfl)
  have ne_se_la : nq se la := Ne.symm ne_la_se
  have ne_la_ec : nq la ec := pw_ne hap 5 11 (by decide) (Nat.le_of_ble_eq_true rfl)
  have ne_ec_la : nq ec la := Ne.symm ne_la_ec
  have ne_la_lc : nq la lc := pw_ne hap 5 12 (by decide) (Nat.le_of_ble_eq_true rfl)
  have ne_lc_la : nq lc la := Ne.symm ne_la_lc
  have ne_la_wc : nq la wc := pw_ne hap 5 13 (by decide) (Nat.le_of_ble_eq_true rfl)
  have ne_wc_la : nq wc la := Ne.symm ne_la_wc
  have ne_la_ol : nq la ol := pw_ne hap 5 14 (by decide) (Nat.le_of_ble_eq_true rfl)
  have ne_ol_la : nq ol la := Ne.symm ne_la_ol
  have ne_la_al : nq la al := pw_ne hap 5 15 (by decide) (Nat.le_of_ble_eq_true rfl)
  have ne_al_la : nq al la := Ne.symm ne_la_al
  have ne_wo_op : nq wo op := pw_ne hap 6 7 (by decide) (Nat.le_of_ble_eq_true rfl)
  have ne_op_wo : nq op wo := Ne.symm ne_wo_op
  have ne_wo_mk : nq wo mk := pw_ne hap 6 8 (by decide) (Nat.le_of_ble_eq_true rfl)
  have ne_mk_wo : nq mk wo := Ne.symm ne_wo_mk
  have ne_wo_ir : nq wo ir := pw_ne hap 6 9 (by decide) (Nat.le_of_ble_eq_true rfl)
  have ne_ir_wo : nq ir wo := Ne.symm ne_wo_ir
  have ne_wo_se : nq wo se := pw_ne hap 6 10 (by decide) (Nat.le_of_ble_eq_true rfl)
  have ne_se_wo : nq se wo := Ne.symm ne_wo_se
  have ne_wo_ec : nq wo ec := pw_ne hap 6 11 (by decide) (Nat.le_of_ble_eq_true rfl)
  have ne_ec_wo : nq ec wo := Ne.symm ne_wo_ec
  have ne_wo_lc : nq wo lc := pw_ne hap 6 12 (by decide) (Nat.le_of_ble_eq_true rfl)
  have ne_lc_wo : nq lc wo := Ne.symm ne_wo_lc
  have ne_wo_wc : nq wo wc := pw_ne hap 6 13 (by decide) (Nat.le_of_ble_eq_true rfl)
  have ne_wc_wo : nq wc wo := Ne.symm ne_wo_wc
  have ne_wo_ol : nq wo ol := pw_ne hap 6 14 (by decide) (Nat.le_of_ble_eq_true rfl)
  have ne_ol_wo : nq ol wo := Ne.symm ne_wo_ol
  have ne_wo_al : nq wo al := pw_ne hap 6 15 (by decide) (Nat.le_of_ble_eq_true rfl)
  have ne_al_wo : nq al wo := Ne.symm ne_wo_al
  have ne_op_mk : nq op mk := pw_ne hap 7 8 (by decide) (Nat.le_of_ble_eq_true rfl)
  have ne_mk_op : nq mk op := Ne.symm ne_op_mk
  have ne_op_ir : nq op ir := pw_ne hap 7 9 (by decide) (Nat.le_of_ble_eq_true rfl)
  have ne_ir_op : nq ir op := Ne.symm ne_op_ir
  have ne_op_se : nq op se := pw_ne hap 7 10 (by decide) (Nat.le_of_ble_eq_true rfl)
  have ne_se_op : nq se op := Ne.symm ne_op_se
  have ne_op_ec : nq op ec := pw_ne hap 7 11 (by decide) (Nat.le_of_ble_eq_true rfl)
  have ne_ec_op : nq ec op := Ne.symm ne_op_ec
  have ne_op_lc : nq op lc := pw_ne hap 7 12 (by decide) (Nat.le_of_ble_eq_true rfl)
  have ne_lc_op : nq lc op := Ne.symm ne_op_lc
  have ne_op_wc : nq op wc := pw_ne hap 7 13 (by decide) (Nat.le_of_ble_eq_true rfl)
  have ne_wc_op : nq wc op := Ne.symm ne_op_wc
  have ne_op_ol : nq op ol := pw_ne hap 7 14 (by decide) (Nat.le_of_ble_eq_true rfl)
  have ne_ol_op : nq ol op := Ne.symm ne_op_ol
  have ne_op_al : nq op al := pw_ne hap 7 15 (by decide) (Nat.le_of_ble_eq_true rfl)
  have ne_al_op : nq al op := Ne.symm ne_op_al
  have ne_mk_ir : nq mk ir := pw_ne hap 8 9 (by decide) (Nat.le_of_ble_eq_true rfl)
  have ne_ir_mk : nq ir mk := Ne.symm ne_mk_ir
  have ne_mk_se : nq mk se := pw_ne hap 8 10 (by decide) (Nat.le_of_ble_eq_true rfl)
  have ne_se_mk : nq se mk := Ne.symm ne_mk_se
  have ne_mk_ec : nq mk ec := pw_ne hap 8 11 (by decide) (Nat.le_of_ble_eq_true rfl)
  have ne_ec_mk : nq ec mk := Ne.symm ne_mk_ec
  have ne_mk_lc : nq mk lc := pw_ne hap 8 12 (by decide) (Nat.le_of_ble_eq_true rfl)
  have ne_lc_mk : nq lc mk := Ne.symm ne_mk_lc
  have ne_mk_wc : nq mk wc := pw_ne hap 8 13 (by decide) (Nat.le_of_ble_eq_true rfl)
  have ne_wc_mk : nq wc mk := Ne.symm ne_mk_wc
  have ne_mk_ol : nq mk ol := pw_ne hap 8 14 (by decide) (Nat.le_of_ble_eq_true rfl)
  have ne_ol_mk : nq ol mk := Ne.symm ne_mk_ol
  have ne_mk_al : nq mk al := pw_ne hap 8 15 (by decide) (Nat.le_of_ble_eq_true rfl)
  have ne_al_mk : nq al mk := Ne.symm ne_mk_al
  have ne_ir_se : nq ir se := pw_ne hap 9 10 (by decide) (Nat.le_of_ble_eq_true rfl)
  have ne_se_ir : nq se ir := Ne.symm ne_ir_se
  have ne_ir_ec : nq ir ec := pw_ne hap 9 11 (by decide) (Nat.le_of_ble_eq_true rfl)
  have ne_ec_ir : nq ec ir := Ne.symm ne_ir_ec
  have ne_ir_lc : nq ir lc := pw_ne hap 9 12 (by decide) (Nat.le_of_ble_eq_true rfl)
  have ne_lc_ir : nq lc ir := Ne.symm ne_ir_lc
  have ne_ir_wc : nq ir wc := pw_ne hap 9 13 (by decide) (Nat.le_of_ble_eq_true rfl)
  have ne_wc_ir : nq wc ir := Ne.symm ne_ir_wc
  have ne_ir_ol : nq ir ol := pw_ne hap 9 14 (by decide) (Nat.le_of_ble_eq_true rfl)
  have ne_ol_ir : nq ol ir := Ne.symm ne_ir_ol
  have ne_ir_al : nq ir al := pw_ne hap 9 15 (by decide) (Nat.le_of_ble_eq_true rfl)
  have ne_al_ir : nq al ir := Ne.symm ne_ir_al
  have ne_se_ec : nq se ec := pw_ne hap 10 11 (by decide) (Nat.le_of_ble_eq_true rfl)
  have ne_ec_se : nq ec se := Ne.symm ne_se_ec
  have ne_se_lc : nq se lc := pw_ne hap 10 12 (by decide) (Nat.le_of_ble_eq_true rfl)
  have ne_lc_se : nq lc se := Ne.symm ne_se_lc
  have ne_se_wc : nq se wc := pw_ne hap 10 13 (by decide) (Nat.le_of_ble_eq_true rfl)
  have ne_wc_se : nq wc se := Ne.symm ne_se_wc
  have ne_se_ol : nq se ol := pw_ne hap 10 14 (by decide) (Nat.le_of_ble_eq_true rfl)
  have ne_ol_se : nq ol se := Ne.symm ne_se_ol
  have ne_se_al : nq se al := pw_ne hap 10 15 (by decide) (Nat.le_of_ble_eq_true rfl)
  have ne_al_se : nq al se := Ne.symm ne_se_al
  have ne_ec_lc : nq ec lc := pw_ne hap 11 12 (by decide) (Nat.le_of_ble_eq_true rfl)
  have ne_lc_ec : nq lc ec := Ne.symm ne_ec_lc
  have ne_ec_wc : nq ec wc := pw_ne hap 11 13 (by decide) (Nat.le_of_ble_eq_true rfl)
  have ne_wc_ec : nq wc ec := Ne.symm ne_ec_wc
  have ne_ec_ol : nq ec ol := pw_ne hap 11 14 (by decide) (Nat.le_of_ble_eq_true rfl)
  have ne_ol_ec : nq ol ec := Ne.symm ne_ec_ol
  have ne_ec_al : nq ec al := pw_ne hap 11 15 (by decide) (Nat.le_of_ble_eq_true rfl)
  have ne_al_ec : nq al ec := Ne.symm ne_ec_al
  have ne_lc_wc : nq lc wc := pw_ne hap 12 13 (by decide) (Nat.le_of_ble_eq_true rfl)
  have ne_wc_lc : nq wc lc := Ne.symm ne_lc_wc
  have ne_lc_ol : nq lc ol := pw_ne hap 12 14 (by decide) (Nat.le_of_ble_eq_true rfl)
  have ne_ol_lc : nq ol lc := Ne.symm ne_lc_ol
  have ne_lc_al : nq lc al := pw_ne hap 12 15 (by decide) (Nat.le_of_ble_eq_true rfl)
  have ne_al_lc : nq al lc := Ne.symm ne_lc_al
  have ne_wc_ol : nq wc ol := pw_ne hap 13 14 (by decide) (Nat.le_of_ble_eq_true rfl)
  have ne_ol_wc : nq ol wc := Ne.symm ne_wc_ol
  have ne_wc_al : nq wc al := pw_ne hap 13 15 (by decide) (Nat.le_of_ble_eq_true rfl)
  have ne_al_wc : nq al wc := Ne.symm ne_wc_al
  have ne_ol_al : nq ol al := pw_ne hap 14 15 (by decide) (Nat.le_of_ble_eq_true rfl)
  have ne_al_ol : nq al ol := Ne.symm ne_ol_al
  have hkp : kpx (fun a => a ∈ [en, la, wo]) M M := kpx.refl _ _
  refine lv_iload_n hx hb dX6_setValue_0 rfl (lv_at hl 2 rfl) ?_
  refine lv_bipush (v := 15) hx hb dX6_setValue_1 (by decide) ?_
  refine lv_icmp_ge (tgt := 23) hx hb dX6_setValue_3 (by decide) (fun c1 => ?_) (fun c1 => ?_)
  · have hqc1 : 15 ≤ c9c := nb_le (a := 15) (b := c9c) (by omega) (by omega) c1
    refine lv_iload_n hx hb dX6_setValue_23 rfl (lv_at hl 2 rfl) ?_
    refine lv_bipush (v := 30) hx hb dX6_setValue_24 (by decide) ?_
    refine lv_icmp_ne (tgt := 39) hx hb dX6_setValue_26 (by decide) (fun c2 => ?_) (fun c2 => ?_)
    · have hqc2 : c9c ≠ 30 := nb_ne c2
      refine lv_aload_n hx hb dX6_setValue_39 rfl (lv_at hl 0 rfl) ?_
      refine m_get (T := TX6) (N := 24) (ci := 6) (v := .ref wo) hx hb hts wX6 hown hK hm hM rfl 6 (by decide) f28 (fun _ h9 => h9) rfl dX6_setValue_40 ?_
      refine lv_bipush (v := 64) hx hb dX6_setValue_43 (by decide) ?_
      refine lv_iload_n hx hb dX6_setValue_45 rfl (lv_at hl 1 rfl) ?_
      refine lv_imul hx hb dX6_setValue_46 ?_
      refine W.eq (g2 := F0 m 47 ls [.int (nI (64 * n9)), .ref wo]) (by rw [show ((64) * ((nI n9)) : Int32) = nI (64 * n9) from pk_mul 64 n9]) ?_
      refine lv_iload_n hx hb dX6_setValue_47 rfl (lv_at hl 2 rfl) ?_
      refine lv_iadd hx hb dX6_setValue_48 ?_
      refine W.eq (g2 := F0 m 49 ls [.int (nI ((64 * n9) + c9c)), .ref wo]) (by rw [show (((nI (64 * n9))) + ((nI c9c)) : Int32) = nI ((64 * n9) + c9c) from nI_add (64 * n9) c9c]) ?_
      refine lv_bipush (v := 31) hx hb dX6_setValue_49 (by decide) ?_
      refine lv_isub hx hb dX6_setValue_51 ?_
      refine W.eq (g2 := F0 m 52 ls [.int (nI (((64 * n9) + c9c) - 31)), .ref wo]) (by rw [show (((nI ((64 * n9) + c9c))) - (31) : Int32) = nI (((64 * n9) + c9c) - 31) from pk_sub (a := ((64 * n9) + c9c)) (b := 31) (by omega)]) ?_
      refine lv_iload_n hx hb dX6_setValue_52 rfl (lv_at hl 3 rfl) ?_
      refine m_iast hx hb hK hm hS 0 hwo rfl (vp_in_nI (by omega) (by decide)) dX6_setValue_53 (fun H locs hm hS => ?_)
      have hm : mm D (AZ z) (mu M wo (.inl (k 0, 204800, .inl (upd fwo ((nI (((64 * n9) + c9c) - 31))).toNatClampNeg x9)))) H := hm
      have hkp : kpx (fun a => a ∈ [en, la, wo]) M (mu M wo (.inl (k 0, 204800, .inl (upd fwo ((nI (((64 * n9) + c9c) - 31))).toNatClampNeg x9)))) := (hkp).self (by simp)
      refine W.vret hx hb hr (fun t ht hW => ⟨⟨none, _, rfl, ?_, by rw [ht]; exact hm⟩, hS.F ht⟩) hS.2.2 dX6_setValue_54
      exact ⟨rfl, ⟨_, _, _, _, _, _, _, fcn, fia, fdr, fen, fla, (upd fwo ((nI (((64 * n9) + c9c) - 31))).toNatClampNeg x9), fop, fmk, fir, fse, fec, flc, fol, fal, fwc, hap, ((mu_ne ne_mo_wo).trans hM), hmd, ⟨hrC, hrL, hrM⟩, ((mu_ne ne_cn_wo).trans hcn), ((mu_ne ne_ia_wo).trans hia), ((mu_ne ne_dr_wo).trans hdr), ((mu_ne ne_en_wo).trans hen), ((mu_ne ne_la_wo).trans hla), (mu_self _ _ _), ((mu_ne ne_op_wo).trans hop), ((mu_ne ne_mk_wo).trans hmk), ((mu_ne ne_ir_wo).trans hir), ((mu_ne ne_se_wo).trans hse), ((mu_ne ne_ec_wo).trans hec), ((mu_ne ne_lc_wo).trans hlc), ((mu_ne ne_wc_wo).trans hwc), ((mu_ne ne_ol_wo).trans hol), ((mu_ne ne_al_wo).trans hal)⟩, hkp⟩
    · have hqc2 : c9c = 30 := by first | exact nb_eq (by omega) (by omega) c2 | exact nb_eq (by omega) (by omega) (Classical.not_not.mp c2)
      obtain ⟨y9, hy9, rfl⟩ := hx9 (by omega)
      refine lv_aload_n hx hb dX6_setValue_29 rfl (lv_at hl 0 rfl) ?_
      refine m_get (T := TX6) (N := 24) (ci := 6) (v := .ref la) hx hb hts wX6 hown hK hm hM rfl 5 (by decide) f24 (fun _ h9 => h9) rfl dX6_setValue_30 ?_
      refine lv_iload_n hx hb dX6_setValue_33 rfl (lv_at hl 1 rfl) ?_
      refine lv_iload_n hx hb dX6_setValue_34 rfl (lv_at hl 3 rfl) ?_
      refine m_iast hx hb hK hm hS 0 hla rfl (vp_in_nI (by omega) (by decide)) dX6_setValue_35 (fun H locs hm hS => ?_)
      have hrL : rng bL (upd fla ((nI n9)).toNatClampNeg (nI y9)) := (hrL).up _ y9 (show y9 ≤ 64 by omega)
      have hm : mm D (AZ z) (mu M la (.inl (k 0, 3200, .inl (upd fla ((nI n9)).toNatClampNeg (nI y9))))) H := hm
      have hkp : kpx (fun a => a ∈ [en, la, wo]) M (mu M la (.inl (k 0, 3200, .inl (upd fla ((nI n9)).toNatClampNeg (nI y9))))) := (hkp).self (by simp)
      refine lv_goto (tgt := 54) hx hb dX6_setValue_36 (by decide) ?_
      refine W.vret hx hb hr (fun t ht hW => ⟨⟨none, _, rfl, ?_, by rw [ht]; exact hm⟩, hS.F ht⟩) hS.2.2 dX6_setValue_54
      exact ⟨rfl, ⟨_, _, _, _, _, _, _, fcn, fia, fdr, fen, (upd fla ((nI n9)).toNatClampNeg (nI y9)), fwo, fop, fmk, fir, fse, fec, flc, fol, fal, fwc, hap, ((mu_ne ne_mo_la).trans hM), hmd, ⟨hrC, hrL, hrM⟩, ((mu_ne ne_cn_la).trans hcn), ((mu_ne ne_ia_la).trans hia), ((mu_ne ne_dr_la).trans hdr), ((mu_ne ne_en_la).trans hen), (mu_self _ _ _), ((mu_ne ne_wo_la).trans hwo), ((mu_ne ne_op_la).trans hop), ((mu_ne ne_mk_la).trans hmk), ((mu_ne ne_ir_la).trans hir), ((mu_ne ne_se_la).trans hse), ((mu_ne ne_ec_la).trans hec), ((mu_ne ne_lc_la).trans hlc), ((mu_ne ne_wc_la).trans hwc), ((mu_ne ne_ol_la).trans hol), ((mu_ne ne_al_la).trans hal)⟩, hkp⟩
  · have hqc1 : c9c < 15 := nb_nle (a := 15) (b := c9c) (by omega) (by omega) c1
    refine lv_aload_n hx hb dX6_setValue_6 rfl (lv_at hl 0 rfl) ?_
    refine m_get (T := TX6) (N := 24) (ci := 6) (v := .ref en) hx hb hts wX6 hown hK hm hM rfl 4 (by decide) f21 (fun _ h9 => h9) rfl dX6_setValue_7 ?_
    refine lv_bipush (v := 16) hx hb dX6_setValue_10 (by decide) ?_
    refine lv_iload_n hx hb dX6_setValue_12 rfl (lv_at hl 1 rfl) ?_
    refine lv_imul hx hb dX6_setValue_13 ?_
    refine W.eq (g2 := F0 m 14 ls [.int (nI (16 * n9)), .ref en]) (by rw [show ((16) * ((nI n9)) : Int32) = nI (16 * n9) from pk_mul 16 n9]) ?_
    refine lv_iload_n hx hb dX6_setValue_14 rfl (lv_at hl 2 rfl) ?_
    refine lv_iadd hx hb dX6_setValue_15 ?_
    refine W.eq (g2 := F0 m 16 ls [.int (nI ((16 * n9) + c9c)), .ref en]) (by rw [show (((nI (16 * n9))) + ((nI c9c)) : Int32) = nI ((16 * n9) + c9c) from nI_add (16 * n9) c9c]) ?_
    refine lv_iconst (v := 1) hx hb dX6_setValue_16 (by decide) ?_
    refine lv_iadd hx hb dX6_setValue_17 ?_
    refine W.eq (g2 := F0 m 18 ls [.int (nI (((16 * n9) + c9c) + 1)), .ref en]) (by rw [show (((nI ((16 * n9) + c9c))) + (1) : Int32) = nI (((16 * n9) + c9c) + 1) from nI_add ((16 * n9) + c9c) 1]) ?_
    refine lv_iload_n hx hb dX6_setValue_18 rfl (lv_at hl 3 rfl) ?_
    refine m_iast hx hb hK hm hS 0 hen rfl (vp_in_nI (by omega) (by decide)) dX6_setValue_19 (fun H locs hm hS => ?_)
    have hm : mm D (AZ z) (mu M en (.inl (k 0, 51200, .inl (upd fen ((nI (((16 * n9) + c9c) + 1))).toNatClampNeg x9)))) H := hm
    have hkp : kpx (fun a => a ∈ [en, la, wo]) M (mu M en (.inl (k 0, 51200, .inl (upd fen ((nI (((16 * n9) + c9c) + 1))).toNatClampNeg x9)))) := (hkp).self (by simp)
    refine lv_goto (tgt := 54) hx hb dX6_setValue_20 (by decide) ?_
    refine W.vret hx hb hr (fun t ht hW => ⟨⟨none, _, rfl, ?_, by rw [ht]; exact hm⟩, hS.F ht⟩) hS.2.2 dX6_setValue_54
    exact ⟨rfl, ⟨_, _, _, _, _, _, _, fcn, fia, fdr, (upd fen ((nI (((16 * n9) + c9c) + 1))).toNatClampNeg x9), fla, fwo, fop, fmk, fir, fse, fec, flc, fol, fal, fwc, hap, ((mu_ne ne_mo_en).trans hM), hmd, ⟨hrC, hrL, hrM⟩, ((mu_ne ne_cn_en).trans hcn), ((mu_ne ne_ia_en).trans hia), ((mu_ne ne_dr_en).trans hdr), (mu_self _ _ _), ((mu_ne ne_la_en).trans hla), ((mu_ne ne_wo_en).trans hwo), ((mu_ne ne_op_en).trans hop), ((mu_ne ne_mk_en).trans hmk), ((mu_ne ne_ir_en).trans hir), ((mu_ne ne_se_en).trans hse), ((mu_ne ne_ec_en).trans hec), ((mu_ne ne_lc_en).trans hlc), ((mu_ne ne_wc_en).trans hwc), ((mu_ne ne_ol_en).trans hol), ((mu_ne ne_al_en).trans hal)⟩, hkp⟩

set_option maxHeartbeats 4000000 in
set_option maxRecDepth 100000 in
theorem x_X6_come (l : Launch) (D : va_G) (k : Nat → ClassId) (z : Nat) (M : mM) (mo cn ia dr en la wo op mk ir se ec lc wc ol al : Nat) (dn md : Int32)  (n9 c9c : Nat) (hn9 : n9 < 100) (hc9 : c9c < 95) (hI : mI k M mo cn ia dr en la wo op mk ir se ec lc wc ol al dn md) : mK l yX6_come wsX6_come ({ frames := 0, cells := 0, slots := 0, locals := 0 }) D k z [.ref mo, .int (nI n9), .int (nI c9c)] M (fun v M' => (v = none) ∧ mI k M' mo cn ia dr en la wo op mk ir se ec lc wc ol al dn md ∧ kpx (fun a => a ∈ [mo, ec, lc, wc]) M M') := by
  refine Met.ofW (cc := cX6_come) (maxL := 3) (ret := none) (by decide) rfl ?_
  intro p e s m args below meth c s₁ B hml hv
  obtain ⟨rfl, hz, hcx, hm⟩ := hv
  have hx := B.exec
  have hb := B.bytes
  have hr := B.returns
  have hts := atoms_spec (ws := wsX6_come) B.pre
  have hown : s.vm.findClass RX6 = some m.cls := findClass_of_methodNamed B.named
  have hlocks := B.notSynchronized
  have hK := hcx.1
  have hS : va_S (AZ z) s.heap s.heap [] := va_S.rf
  have hA : ∀ q, s.heap.size ≤ q → AZ z q := fun q h => Nat.le_trans hz h
  have hl := lv_entry ([.ref mo, .int (nI n9), .int (nI c9c)]) (n := 3) (Nat.le_of_ble_eq_true rfl)
  rw [lg_entry_eq]
  generalize (lg_sl ([.ref mo, .int (nI n9), .int (nI c9c)]) ++ List.replicate (3 - (lg_sl ([.ref mo, .int (nI n9), .int (nI c9c)])).length) Slot.unset).toArray = ls at hl ⊢
  have hl : lv_has ls 3 [(0, .ref mo), (1, .int (nI n9)), (2, .int (nI c9c))] := hl
  have f51 := hts (.fieldLink RX6 51 "CommitTreeModel" "entryComes" "[I") (by decide +kernel)
  have f54 := hts (.fieldLink RX6 54 "CommitTreeModel" "lengthComes" "[Z") (by decide +kernel)
  have f57 := hts (.fieldLink RX6 57 "CommitTreeModel" "wordComes" "[J") (by decide +kernel)
  have f118 := hts (.fieldLink RX6 118 "CommitTreeModel" "comes" "I") (by decide +kernel)
  have wX6 : ∀ w ∈ wsX60, w ∈ wsX6_come := by decide +kernel
  obtain ⟨cd, ni, pw, cm, wr, cs, hm9, fcn, fia, fdr, fen, fla, fwo, fop, fmk, fir, fse, fec, flc, fol, fal, fwc, hap, hM, hmd, ⟨hrC, hrL, hrM⟩, hcn, hia, hdr, hen, hla, hwo, hop, hmk, hir, hse, hec, hlc, hwc, hol, hal⟩ := id hI
  have ne_mo_cn : nq mo cn := pw_ne hap 0 1 (by decide) (Nat.le_of_ble_eq_true rfl)
  have ne_cn_mo : nq cn mo := Ne.symm ne_mo_cn
  have ne_mo_ia : nq mo ia := pw_ne hap 0 2 (by decide) (Nat.le_of_ble_eq_true rfl)
  have ne_ia_mo : nq ia mo := Ne.symm ne_mo_ia
  have ne_mo_dr : nq mo dr := pw_ne hap 0 3 (by decide) (Nat.le_of_ble_eq_true rfl)
  have ne_dr_mo : nq dr mo := Ne.symm ne_mo_dr
  have ne_mo_en : nq mo en := pw_ne hap 0 4 (by decide) (Nat.le_of_ble_eq_true rfl)
  have ne_en_mo : nq en mo := Ne.symm ne_mo_en
  have ne_mo_la : nq mo la := pw_ne hap 0 5 (by decide) (Nat.le_of_ble_eq_true rfl)
  have ne_la_mo : nq la mo := Ne.symm ne_mo_la
  have ne_mo_wo : nq mo wo := pw_ne hap 0 6 (by decide) (Nat.le_of_ble_eq_true rfl)
  have ne_wo_mo : nq wo mo := Ne.symm ne_mo_wo
  have ne_mo_op : nq mo op := pw_ne hap 0 7 (by decide) (Nat.le_of_ble_eq_true rfl)
  have ne_op_mo : nq op mo := Ne.symm ne_mo_op
  have ne_mo_mk : nq mo mk := pw_ne hap 0 8 (by decide) (Nat.le_of_ble_eq_true rfl)
  have ne_mk_mo : nq mk mo := Ne.symm ne_mo_mk
  have ne_mo_ir : nq mo ir := pw_ne hap 0 9 (by decide) (Nat.le_of_ble_eq_true rfl)
  have ne_ir_mo : nq ir mo := Ne.symm ne_mo_ir
  have ne_mo_se : nq mo se := pw_ne hap 0 10 (by decide) (Nat.le_of_ble_eq_true rfl)
  have ne_se_mo : nq se mo := Ne.symm ne_mo_se
  have ne_mo_ec : nq mo ec := pw_ne hap 0 11 (by decide) (Nat.le_of_ble_eq_true rfl)
  have ne_ec_mo : nq ec mo := Ne.symm ne_mo_ec
  have ne_mo_lc : nq mo lc := pw_ne hap 0 12 (by decide) (Nat.le_of_ble_eq_true rfl)
  have ne_lc_mo : nq lc mo := Ne.symm ne_mo_lc
  have ne_mo_wc : nq mo wc := pw_ne hap 0 13 (by decide) (Nat.le_of_ble_eq_true rfl)
  have ne_wc_mo : nq wc mo := Ne.symm ne_mo_wc
  have ne_mo_ol : nq mo ol := pw_ne hap 0 14 (by decide) (Nat.le_of_ble_eq_true rfl)
  have ne_ol_mo : nq ol mo := Ne.symm ne_mo_ol
  have ne_mo_al : nq mo al := pw_ne hap 0 15 (by decide) (Nat.le_of_ble_eq_true rfl)
  have ne_al_mo : nq al mo := Ne.symm ne_mo_al
  have ne_cn_ia : nq cn ia := pw_ne hap 1 2 (by decide) (Nat.le_of_ble_eq_true rfl)
  have ne_ia_cn : nq ia cn := Ne.symm ne_cn_ia
  have ne_cn_dr : nq cn dr := pw_ne hap 1 3 (by decide) (Nat.le_of_ble_eq_true rfl)
  have ne_dr_cn : nq dr cn := Ne.symm ne_cn_dr
  have ne_cn_en : nq cn en := pw_ne hap 1 4 (by decide) (Nat.le_of_ble_eq_true rfl)
  have ne_en_cn : nq en cn := Ne.symm ne_cn_en
  have ne_cn_la : nq cn la := pw_ne hap 1 5 (by decide) (Nat.le_of_ble_eq_true rfl)
  have ne_la_cn : nq la cn := Ne.symm ne_cn_la
  have ne_cn_wo : nq cn wo := pw_ne hap 1 6 (by decide) (Nat.le_of_ble_eq_true rfl)
  have ne_wo_cn : nq wo cn := Ne.symm ne_cn_wo
  have ne_cn_op : nq cn op := pw_ne hap 1 7 (by decide) (Nat.le_of_ble_eq_true rfl)
  have ne_op_cn : nq op cn := Ne.symm ne_cn_op
  have ne_cn_mk : nq cn mk := pw_ne hap 1 8 (by decide) (Nat.le_of_ble_eq_true rfl)
  have ne_mk_cn : nq mk cn := Ne.symm ne_cn_mk
  have ne_cn_ir : nq cn ir := pw_ne hap 1 9 (by decide) (Nat.le_of_ble_eq_true rfl)
  have ne_ir_cn : nq ir cn := Ne.symm ne_cn_ir
  have ne_cn_se : nq cn se := pw_ne hap 1 10 (by decide) (Nat.le_of_ble_eq_true rfl)
  have ne_se_cn : nq se cn := Ne.symm ne_cn_se
  have ne_cn_ec : nq cn ec := pw_ne hap 1 11 (by decide) (Nat.le_of_ble_eq_true rfl)
  have ne_ec_cn : nq ec cn := Ne.symm ne_cn_ec
  have ne_cn_lc : nq cn lc := pw_ne hap 1 12 (by decide) (Nat.le_of_ble_eq_true rfl)
  have ne_lc_cn : nq lc cn := Ne.symm ne_cn_lc
  have ne_cn_wc : nq cn wc := pw_ne hap 1 13 (by decide) (Nat.le_of_ble_eq_true rfl)
  have ne_wc_cn : nq wc cn := Ne.symm ne_cn_wc
  have ne_cn_ol : nq cn ol := pw_ne hap 1 14 (by decide) (Nat.le_of_ble_eq_true rfl)
  have ne_ol_cn : nq ol cn := Ne.symm ne_cn_ol
  have ne_cn_al : nq cn al := pw_ne hap 1 15 (by decide) (Nat.le_of_ble_eq_true rfl)
  have ne_al_cn : nq al cn := Ne.symm ne_cn_al
  have ne_ia_dr : nq ia dr := pw_ne hap 2 3 (by decide) (Nat.le_of_ble_eq_true rfl)
  have ne_dr_ia : nq dr ia := Ne.symm ne_ia_dr
  have ne_ia_en : nq ia en := pw_ne hap 2 4 (by decide) (Nat.le_of_ble_eq_true rfl)
  have ne_en_ia : nq en ia := Ne.symm ne_ia_en
  have ne_ia_la : nq ia la := pw_ne hap 2 5 (by decide) (Nat.le_of_ble_eq_true rfl)
  have ne_la_ia : nq la ia := Ne.symm ne_ia_la
  have ne_ia_wo : nq ia wo := pw_ne hap 2 6 (by decide) (Nat.le_of_ble_eq_true rfl)
  have ne_wo_ia : nq wo ia := Ne.symm ne_ia_wo
  have ne_ia_op : nq ia op := pw_ne hap 2 7 (by decide) (Nat.le_of_ble_eq_true rfl)
  have ne_op_ia : nq op ia := Ne.symm ne_ia_op
  have ne_ia_mk : nq ia mk := pw_ne hap 2 8 (by decide) (Nat.le_of_ble_eq_true rfl)
  have ne_mk_ia : nq mk ia := Ne.symm ne_ia_mk
  have ne_ia_ir : nq ia ir := pw_ne hap 2 9 (by decide) (Nat.le_of_ble_eq_true rfl)
  have ne_ir_ia : nq ir ia := Ne.symm ne_ia_ir
  have ne_ia_se : nq ia se := pw_ne hap 2 10 (by decide) (Nat.le_of_ble_eq_true rfl)
  have ne_se_ia : nq se ia := Ne.symm ne_ia_se
  have ne_ia_ec : nq ia ec := pw_ne hap 2 11 (by decide) (Nat.le_of_ble_eq_true rfl)
  have ne_ec_ia : nq ec ia := Ne.symm ne_ia_ec
  have ne_ia_lc : nq ia lc := pw_ne hap 2 12 (by decide) (Nat.le_of_ble_eq_true rfl)
  have ne_lc_ia : nq lc ia := Ne.symm ne_ia_lc
  have ne_ia_wc : nq ia wc := pw_ne hap 2 13 (by decide) (Nat.le_of_ble_eq_true rfl)
  have ne_wc_ia : nq wc ia := Ne.symm ne_ia_wc
  have ne_ia_ol : nq ia ol := pw_ne hap 2 14 (by decide) (Nat.le_of_ble_eq_true rfl)
  have ne_ol_ia : nq ol ia := Ne.symm ne_ia_ol
  have ne_ia_al : nq ia al := pw_ne hap 2 15 (by decide) (Nat.le_of_ble_eq_true rfl)
  have ne_al_ia : nq al ia := Ne.symm ne_ia_al
  have ne_dr_en : nq dr en := pw_ne hap 3 4 (by decide) (Nat.le_of_ble_eq_true rfl)
  have ne_en_dr : nq en dr := Ne.symm ne_dr_en
  have ne_dr_la : nq dr la := pw_ne hap 3 5 (by decide) (Nat.le_of_ble_eq_true rfl)
  have ne_la_dr : nq la dr := Ne.symm ne_dr_la
  have ne_dr_wo : nq dr wo := pw_ne hap 3 6 (by decide) (Nat.le_of_ble_eq_true rfl)
  have ne_wo_dr : nq wo dr := Ne.symm ne_dr_wo
  have ne_dr_op : nq dr op := pw_ne hap 3 7 (by decide) (Nat.le_of_ble_eq_true rfl)
  have ne_op_dr : nq op dr := Ne.symm ne_dr_op
  have ne_dr_mk : nq dr mk := pw_ne hap 3 8 (by decide) (Nat.le_of_ble_eq_true rfl)
  have ne_mk_dr : nq mk dr := Ne.symm ne_dr_mk
  have ne_dr_ir : nq dr ir := pw_ne hap 3 9 (by decide) (Nat.le_of_ble_eq_true rfl)
  have ne_ir_dr : nq ir dr := Ne.symm ne_dr_ir
  have ne_dr_se : nq dr se := pw_ne hap 3 10 (by decide) (Nat.le_of_ble_eq_true rfl)
  have ne_se_dr : nq se dr := Ne.symm ne_dr_se
  have ne_dr_ec : nq dr ec := pw_ne hap 3 11 (by decide) (Nat.le_of_ble_eq_true rfl)
  have ne_ec_dr : nq ec dr := Ne.symm ne_dr_ec
  have ne_dr_lc : nq dr lc := pw_ne hap 3 12 (by decide) (Nat.le_of_ble_eq_true rfl)
  have ne_lc_dr : nq lc dr := Ne.symm ne_dr_lc
  have ne_dr_wc : nq dr wc := pw_ne hap 3 13 (by decide) (Nat.le_of_ble_eq_true rfl)
  have ne_wc_dr : nq wc dr := Ne.symm ne_dr_wc
  have ne_dr_ol : nq dr ol := pw_ne hap 3 14 (by decide) (Nat.le_of_ble_eq_true rfl)
  have ne_ol_dr : nq ol dr := Ne.symm ne_dr_ol
  have ne_dr_al : nq dr al := pw_ne hap 3 15 (by decide) (Nat.le_of_ble_eq_true rfl)
  have ne_al_dr : nq al dr := Ne.symm ne_dr_al
  have ne_en_la : nq en la := pw_ne hap 4 5 (by decide) (Nat.le_of_ble_eq_true rfl)
  have ne_la_en : nq la en := Ne.symm ne_en_la
  have ne_en_wo : nq en wo := pw_ne hap 4 6 (by decide) (Nat.le_of_ble_eq_true rfl)
  have ne_wo_en : nq wo en := Ne.symm ne_en_wo
  have ne_en_op : nq en op := pw_ne hap 4 7 (by decide) (Nat.le_of_ble_eq_true rfl)
  have ne_op_en : nq op en := Ne.symm ne_en_op
  have ne_en_mk : nq en mk := pw_ne hap 4 8 (by decide) (Nat.le_of_ble_eq_true rfl)
  have ne_mk_en : nq mk en := Ne.symm ne_en_mk
  have ne_en_ir : nq en ir := pw_ne hap 4 9 (by decide) (Nat.le_of_ble_eq_true rfl)
  have ne_ir_en : nq ir en := Ne.symm ne_en_ir
  have ne_en_se : nq en se := pw_ne hap 4 10 (by decide) (Nat.le_of_ble_eq_true rfl)
  have ne_se_en : nq se en := Ne.symm ne_en_se
  have ne_en_ec : nq en ec := pw_ne hap 4 11 (by decide) (Nat.le_of_ble_eq_true rfl)
  have ne_ec_en : nq ec en := Ne.symm ne_en_ec
  have ne_en_lc : nq en lc := pw_ne hap 4 12 (by decide) (Nat.le_of_ble_eq_true rfl)
  have ne_lc_en : nq lc en := Ne.symm ne_en_lc
  have ne_en_wc : nq en wc := pw_ne hap 4 13 (by decide) (Nat.le_of_ble_eq_true rfl)
  have ne_wc_en : nq wc en := Ne.symm ne_en_wc
  have ne_en_ol : nq en ol := pw_ne hap 4 14 (by decide) (Nat.le_of_ble_eq_true rfl)
  have ne_ol_en : nq ol en := Ne.symm ne_en_ol
  have ne_en_al : nq en al := pw_ne hap 4 15 (by decide) (Nat.le_of_ble_eq_true rfl)
  have ne_al_en : nq al en := Ne.symm ne_en_al
  have ne_la_wo : nq la wo := pw_ne hap 5 6 (by decide) (Nat.le_of_ble_eq_true rfl)
  have ne_wo_la : nq wo la := Ne.symm ne_la_wo
  have ne_la_op : nq la op := pw_ne hap 5 7 (by decide) (Nat.le_of_ble_eq_true rfl)
  have ne_op_la : nq op la := Ne.symm ne_la_op
  have ne_la_mk : nq la mk := pw_ne hap 5 8 (by decide) (Nat.le_of_ble_eq_true rfl)
  have ne_mk_la : nq mk la := Ne.symm ne_la_mk
  have ne_la_ir : nq la ir := pw_ne hap 5 9 (by decide) (Nat.le_of_ble_eq_true rfl)
  have ne_ir_la : nq ir la := Ne.symm ne_la_ir
  have ne_la_se : nq la se := pw_ne hap 5 10 (by decide) (Nat.le_of_ble_eq_true rfl)
  have ne_se_la : nq se la := Ne.symm ne_la_se
  have ne_la_ec : nq la ec := pw_ne hap 5 11 (by decide) (Nat.le_of_ble_eq_true rfl)
  have ne_ec_la : nq ec la := Ne.symm ne_la_ec
  have ne_la_lc : nq la lc := pw_ne hap 5 12 (by decide) (Nat.le_of_ble_eq_true rfl)
  have ne_lc_la : nq lc la := Ne.symm ne_la_lc
  have ne_la_wc : nq la wc := pw_ne hap 5 13 (by decide) (Nat.le_of_ble_eq_true rfl)
  have ne_wc_la : nq wc la := Ne.symm ne_la_wc
  have ne_la_ol : nq la ol := pw_ne hap 5 14 (by decide) (Nat.le_of_ble_eq_true rfl)
  have ne_ol_la : nq ol la := Ne.symm ne_la_ol
  have ne_la_al : nq la al := pw_ne hap 5 15 (by decide) (Nat.le_of_ble_eq_true rfl)
  have ne_al_la : nq al la := Ne.symm ne_la_al
  have ne_wo_op : nq wo op := pw_ne hap 6 7 (by decide) (Nat.le_of_ble_eq_true rfl)
  have ne_op_wo : nq op wo := Ne.symm ne_wo_op
  have ne_wo_mk : nq wo mk := pw_ne hap 6 8 (by decide) (Nat.le_of_ble_eq_true rfl)
  have ne_mk_wo : nq mk wo := Ne.symm ne_wo_mk
  have ne_wo_ir : nq wo ir := pw_ne hap 6 9 (by decide) (Nat.le_of_ble_eq_true rfl)
  have ne_ir_wo : nq ir wo := Ne.symm ne_wo_ir
  have ne_wo_se : nq wo se := pw_ne hap 6 10 (by decide) (Nat.le_of_ble_eq_true rfl)
  have ne_se_wo : nq se wo := Ne.symm ne_wo_se
  have ne_wo_ec : nq wo ec := pw_ne hap 6 11 (by decide) (Nat.le_of_ble_eq_true rfl)
  have ne_ec_wo : nq ec wo := Ne.symm ne_wo_ec
  have ne_wo_lc : nq wo lc := pw_ne hap 6 12 (by decide) (Nat.le_of_ble_eq_true rfl)
  have ne_lc_wo : nq lc wo := Ne.symm ne_wo_lc
  have ne_wo_wc : nq wo wc := pw_ne hap 6 13 (by decide) (Nat.le_of_ble_eq_true rfl)
  have ne_wc_wo : nq wc wo := Ne.symm ne_wo_wc
  have ne_wo_ol : nq wo ol := pw_ne hap 6 14 (by decide) (Nat.le_of_ble_eq_true rfl)
  have ne_ol_wo : nq ol wo := Ne.symm ne_wo_ol
  have ne_wo_al : nq wo al := pw_ne hap 6 15 (by decide) (Nat.le_of_ble_eq_true rfl)
  have ne_al_wo : nq al wo := Ne.symm ne_wo_al
  have ne_op_mk : nq op mk := pw_ne hap 7 8 (by decide) (Nat.le_of_ble_eq_true rfl)
  have ne_mk_op : nq mk op := Ne.symm ne_op_mk
  have ne_op_ir : nq op ir := pw_ne hap 7 9 (by decide) (Nat.le_of_ble_eq_true rfl)
  have ne_ir_op : nq ir op := Ne.symm ne_op_ir
  have ne_op_se : nq op se := pw_ne hap 7 10 (by decide) (Nat.le_of_ble_eq_true rfl)
  have ne_se_op : nq se op := Ne.symm ne_op_se
  have ne_op_ec : nq op ec := pw_ne hap 7 11 (by decide) (Nat.le_of_ble_eq_true rfl)
  have ne_ec_op : nq ec op := Ne.symm ne_op_ec
  have ne_op_lc : nq op lc := pw_ne hap 7 12 (by decide) (Nat.le_of_ble_eq_true rfl)
  have ne_lc_op : nq lc op := Ne.symm ne_op_lc
  have ne_op_wc : nq op wc := pw_ne hap 7 13 (by decide) (Nat.le_of_ble_eq_true rfl)
  have ne_wc_op : nq wc op := Ne.symm ne_op_wc
  have ne_op_ol : nq op ol := pw_ne hap 7 14 (by decide) (Nat.le_of_ble_eq_true rfl)
  have ne_ol_op : nq ol op := Ne.symm ne_op_ol
  have ne_op_al : nq op al := pw_ne hap 7 15 (by decide) (Nat.le_of_ble_eq_true rfl)
  have ne_al_op : nq al op := Ne.symm ne_op_al
  have ne_mk_ir : nq mk ir := pw_ne hap 8 9 (by decide) (Nat.le_of_ble_eq_true rfl)
  have ne_ir_mk : nq ir mk := Ne.symm ne_mk_ir
  have ne_mk_se : nq mk se := pw_ne hap 8 10 (by decide) (Nat.le_of_ble_eq_true rfl)
  have ne_se_mk : nq se mk := Ne.symm ne_mk_se
  have ne_mk_ec : nq mk ec := pw_ne hap 8 11 (by decide) (Nat.le_of_ble_eq_true rfl)
  have ne_ec_mk : nq ec mk := Ne.symm ne_mk_ec
  have ne_mk_lc : nq mk lc := pw_ne hap 8 12 (by decide) (Nat.le_of_ble_eq_true rfl)
  have ne_lc_mk : nq lc mk := Ne.symm ne_mk_lc
  have ne_mk_wc : nq mk wc := pw_ne hap 8 13 (by decide) (Nat.le_of_ble_eq_true rfl)
  have ne_wc_mk : nq wc mk := Ne.symm ne_mk_wc
  have ne_mk_ol : nq mk ol := pw_ne hap 8 14 (by decide) (Nat.le_of_ble_eq_true rfl)
  have ne_ol_mk : nq ol mk := Ne.symm ne_mk_ol
  have ne_mk_al : nq mk al := pw_ne hap 8 15 (by decide) (Nat.le_of_ble_eq_true rfl)
  have ne_al_mk : nq al mk := Ne.symm ne_mk_al
  have ne_ir_se : nq ir se := pw_ne hap 9 10 (by decide) (Nat.le_of_ble_eq_true rfl)
  have ne_se_ir : nq se ir := Ne.symm ne_ir_se
  have ne_ir_ec : nq ir ec := pw_ne hap 9 11 (by decide) (Nat.le_of_ble_eq_true rfl)
  have ne_ec_ir : nq ec ir := Ne.symm ne_ir_ec
  have ne_ir_lc : nq ir lc := pw_ne hap 9 12 (by decide) (Nat.le_of_ble_eq_true rfl)
  have ne_lc_ir : nq lc ir := Ne.symm ne_ir_lc
  have ne_ir_wc : nq ir wc := pw_ne hap 9 13 (by decide) (Nat.le_of_ble_eq_true rfl)
  have ne_wc_ir : nq wc ir := Ne.symm ne_ir_wc
  have ne_ir_ol : nq ir ol := pw_ne hap 9 14 (by decide) (Nat.le_of_ble_eq_true rfl)
  have ne_ol_ir : nq ol ir := Ne.symm ne_ir_ol
  have ne_ir_al : nq ir al := pw_ne hap 9 15 (by decide) (Nat.le_of_ble_eq_true rfl)
  have ne_al_ir : nq al ir := Ne.symm ne_ir_al
  have ne_se_ec : nq se ec := pw_ne hap 10 11 (by decide) (Nat.le_of_ble_eq_true rfl)
  have ne_ec_se : nq ec se := Ne.symm ne_se_ec
  have ne_se_lc : nq se lc := pw_ne hap 10 12 (by decide) (Nat.le_of_ble_eq_true rfl)
  have ne_lc_se : nq lc se := Ne.symm ne_se_lc
  have ne_se_wc : nq se wc := pw_ne hap 10 13 (by decide) (Nat.le_of_ble_eq_true rfl)
  have ne_wc_se : nq wc se := Ne.symm ne_se_wc
  have ne_se_ol : nq se ol := pw_ne hap 10 14 (by decide) (Nat.le_of_ble_eq_true rfl)
  have ne_ol_se : nq ol se := Ne.symm ne_se_ol
  have ne_se_al : nq se al := pw_ne hap 10 15 (by decide) (Nat.le_of_ble_eq_true rfl)
  have ne_al_se : nq al se := Ne.symm ne_se_al
  have ne_ec_lc : nq ec lc := pw_ne hap 11 12 (by decide) (Nat.le_of_ble_eq_true rfl)
  have ne_lc_ec : nq lc ec := Ne.symm ne_ec_lc
  have ne_ec_wc : nq ec wc := pw_ne hap 11 13 (by decide) (Nat.le_of_ble_eq_true rfl)
  have ne_wc_ec : nq wc ec := Ne.symm ne_ec_wc
  have ne_ec_ol : nq ec ol := pw_ne hap 11 14 (by decide) (Nat.le_of_ble_eq_true rfl)
  have ne_ol_ec : nq ol ec := Ne.symm ne_ec_ol
  have ne_ec_al : nq ec al := pw_ne hap 11 15 (by decide) (Nat.le_of_ble_eq_true rfl)
  have ne_al_ec : nq al ec := Ne.symm ne_ec_al
  have ne_lc_wc : nq lc wc := pw_ne hap 12 13 (by decide) (Nat.le_of_ble_eq_true rfl)
  have ne_wc_lc : nq wc lc := Ne.symm ne_lc_wc
  have ne_lc_ol : nq lc ol := pw_ne hap 12 14 (by decide) (Nat.le_of_ble_eq_true rfl)
  have ne_ol_lc : nq ol lc := Ne.symm ne_lc_ol
  have ne_lc_al : nq lc al := pw_ne hap 12 15 (by decide) (Nat.le_of_ble_eq_true rfl)
  have ne_al_lc : nq al lc := Ne.symm ne_lc_al
  have ne_wc_ol : nq wc ol := pw_ne hap 13 14 (by decide) (Nat.le_of_ble_eq_true rfl)
  have ne_ol_wc : nq ol wc := Ne.symm ne_wc_ol
  have ne_wc_al : nq wc al := pw_ne hap 13 15 (by decide) (Nat.le_of_ble_eq_true rfl)
  have ne_al_wc : nq al wc := Ne.symm ne_wc_al
  have ne_ol_al : nq ol al := pw_ne hap 14 15 (by decide) (Nat.le_of_ble_eq_true rfl)
  have ne_al_ol : nq al ol := Ne.symm ne_ol_al
  have hkp : kpx (fun a => a ∈ [mo, ec, lc, wc]) M M := kpx.refl _ _
  refine lv_aload_n hx hb dX6_come_0 rfl (lv_at hl 0 rfl) ?_
  refine lv_dup hx hb dX6_come_1 rfl ?_
  refine m_get (T := TX6) (N := 24) (ci := 6) (v := .int cs) hx hb hts wX6 hown hK hm hM rfl 22 (by decide) f118 (fun _ h9 => h9) rfl dX6_come_2 ?_
  refine lv_iconst (v := 1) hx hb dX6_come_5 (by decide) ?_
  refine lv_iadd hx hb dX6_come_6 ?_
  refine m_put (T := TX6) (N := 24) (ci := 6) (v := .int (cs + 1)) (ty := .int) hx hb hts wX6 tyX6 tyX6_ok nmX6 hown hK hm hS hM rfl 22 (by decide) f118 (fun _ h9 => h9) rfl (by decide +kernel) rfl rfl (Nat.le_of_ble_eq_true rfl) dX6_come_7 (fun H locs hm hS => ?_)
  have hm : mm D (AZ z) (mu M mo (.inr (6, [.int cd, .ref cn, .ref ia, .ref dr, .ref en, .ref la, .ref wo, .int ni, .ref op, .ref mk, .ref ir, .int dn, .int md, .int pw, .int cm, .int wr, .ref se, .ref ec, .ref lc, .ref wc, .ref ol, .ref al, .int (cs + 1), .int hm9]))) H := hm
  have hkp : kpx (fun a => a ∈ [mo, ec, lc, wc]) M (mu M mo (.inr (6, [.int cd, .ref cn, .ref ia, .ref dr, .ref en, .ref la, .ref wo, .int ni, .ref op, .ref mk, .ref ir, .int dn, .int md, .int pw, .int cm, .int wr, .ref se, .ref ec, .ref lc, .ref wc, .ref ol, .ref al, .int (cs + 1), .int hm9]))) := (hkp).self (by simp)
  refine lv_iload_n hx hb dX6_come_10 rfl (lv_at hl 2 rfl) ?_
  refine lv_bipush (v := 15) hx hb dX6_come_11 (by decide) ?_
  refine lv_icmp_ge (tgt := 29) hx hb dX6_come_13 (by decide) (fun c1 => ?_) (fun c1 => ?_)
  · have hqc1 : 15 ≤ c9c := nb_le (a := 15) (b := c9c) (by omega) (by omega) c1
    refine lv_iload_n hx hb dX6_come_29 rfl (lv_at hl 2 rfl) ?_
    refine lv_bipush (v := 30) hx hb dX6_come_30 (by decide) ?_
    refine lv_icmp_ne (tgt := 45) hx hb dX6_come_32 (by decide) (fun c2 => ?_) (fun c2 => ?_)
    · have hqc2 : c9c ≠ 30 := nb_ne c2
      refine lv_aload_n hx hb dX6_come_45 rfl (lv_at hl 0 rfl) ?_
      refine m_get (T := TX6) (N := 24) (ci := 6) (v := .ref wc) hx hb hts wX6 hown hK hm (mu_self _ _ _) rfl 19 (by decide) f57 (fun _ h9 => h9) rfl dX6_come_46 ?_
      refine lv_iload_n hx hb dX6_come_49 rfl (lv_at hl 1 rfl) ?_
      refine lv_dup2_11 hx hb dX6_come_50 rfl rfl ?_
      refine m_lald hx hb hK hm 1 ((mu_ne ne_wc_mo).trans hwc) rfl (vp_in_nI (by omega) (by decide)) dX6_come_51 ?_
      refine lv_lconst (v := 1) hx hb dX6_come_52 (by decide) ?_
      refine lv_iload_n hx hb dX6_come_53 rfl (lv_at hl 2 rfl) ?_
      refine lv_bipush (v := 31) hx hb dX6_come_54 (by decide) ?_
      refine lv_isub hx hb dX6_come_56 ?_
      refine lv_lshl (v := (1 <<< (((nI c9c) - 31).toInt64 &&& 63))) hx hb dX6_come_57 rfl ?_
      refine lv_lor hx hb dX6_come_58 ?_
      refine m_last hx hb hK hm hS 1 ((mu_ne ne_wc_mo).trans hwc) rfl (vp_in_nI (by omega) (by decide)) dX6_come_59 (fun H locs hm hS => ?_)
      have hm : mm D (AZ z) (mu (mu M mo (.inr (6, [.int cd, .ref cn, .ref ia, .ref dr, .ref en, .ref la, .ref wo, .int ni, .ref op, .ref mk, .ref ir, .int dn, .int md, .int pw, .int cm, .int wr, .ref se, .ref ec, .ref lc, .ref wc, .ref ol, .ref al, .int (cs + 1), .int hm9]))) wc (.inl (k 1, 100, .inr (.inl (vp_updL fwc ((nI n9)).toNatClampNeg ((fwc ((nI n9)).toNatClampNeg) ||| (1 <<< (((nI c9c) - 31).toInt64 &&& 63)))))))) H := hm
      have hkp : kpx (fun a => a ∈ [mo, ec, lc, wc]) M (mu (mu M mo (.inr (6, [.int cd, .ref cn, .ref ia, .ref dr, .ref en, .ref la, .ref wo, .int ni, .ref op, .ref mk, .ref ir, .int dn, .int md, .int pw, .int cm, .int wr, .ref se, .ref ec, .ref lc, .ref wc, .ref ol, .ref al, .int (cs + 1), .int hm9]))) wc (.inl (k 1, 100, .inr (.inl (vp_updL fwc ((nI n9)).toNatClampNeg ((fwc ((nI n9)).toNatClampNeg) ||| (1 <<< (((nI c9c) - 31).toInt64 &&& 63)))))))) := (hkp).self (by simp)
      refine W.vret hx hb hr (fun t ht hW => ⟨⟨none, _, rfl, ?_, by rw [ht]; exact hm⟩, hS.F ht⟩) hS.2.2 dX6_come_60
      exact ⟨rfl, ⟨_, _, _, _, _, _, _, fcn, fia, fdr, fen, fla, fwo, fop, fmk, fir, fse, fec, flc, fol, fal, (vp_updL fwc ((nI n9)).toNatClampNeg ((fwc ((nI n9)).toNatClampNeg) ||| (1 <<< (((nI c9c) - 31).toInt64 &&& 63)))), hap, ((mu_ne ne_mo_wc).trans (mu_self _ _ _)), hmd, ⟨hrC, hrL, hrM⟩, ((mu_ne ne_cn_wc).trans ((mu_ne ne_cn_mo).trans hcn)), ((mu_ne ne_ia_wc).trans ((mu_ne ne_ia_mo).trans hia)), ((mu_ne ne_dr_wc).trans ((mu_ne ne_dr_mo).trans hdr)), ((mu_ne ne_en_wc).trans ((mu_ne ne_en_mo).trans hen)), ((mu_ne ne_la_wc).trans ((mu_ne ne_la_mo).trans hla)), ((mu_ne ne_wo_wc).trans ((mu_ne ne_wo_mo).trans hwo)), ((mu_ne ne_op_wc).trans ((mu_ne ne_op_mo).trans hop)), ((mu_ne ne_mk_wc).trans ((mu_ne ne_mk_mo).trans hmk)), ((mu_ne ne_ir_wc).trans ((mu_ne ne_ir_mo).trans hir)), ((mu_ne ne_se_wc).trans ((mu_ne ne_se_mo).trans hse)), ((mu_ne ne_ec_wc).trans ((mu_ne ne_ec_mo).trans hec)), ((mu_ne ne_lc_wc).trans ((mu_ne ne_lc_mo).trans hlc)), (mu_self _ _ _), ((mu_ne ne_ol_wc).trans ((mu_ne ne_ol_mo).trans hol)), ((mu_ne ne_al_wc).trans ((mu_ne ne_al_mo).trans hal))⟩, hkp⟩
    · have hqc2 : c9c = 30 := by first | exact nb_eq (by omega) (by omega) c2 | exact nb_eq (by omega) (by omega) (Classical.not_not.mp c2)
      refine lv_aload_n hx hb dX6_come_35 rfl (lv_at hl 0 rfl) ?_
      refine m_get (T := TX6) (N := 24) (ci := 6) (v := .ref lc) hx hb hts wX6 hown hK hm (mu_self _ _ _) rfl 18 (by decide) f54 (fun _ h9 => h9) rfl dX6_come_36 ?_
      refine lv_iload_n hx hb dX6_come_39 rfl (lv_at hl 1 rfl) ?_
      refine lv_iconst (v := 1) hx hb dX6_come_40 (by decide) ?_
      refine m_zast hx hb hK hm hS 2 ((mu_ne ne_lc_mo).trans hlc) rfl (vp_in_nI (by omega) (by decide)) dX6_come_41 (fun H locs hm hS => ?_)
      have hm : mm D (AZ z) (mu (mu M mo (.inr (6, [.int cd, .ref cn, .ref ia, .ref dr, .ref en, .ref la, .ref wo, .int ni, .ref op, .ref mk, .ref ir, .int dn, .int md, .int pw, .int cm, .int wr, .ref se, .ref ec, .ref lc, .ref wc, .ref ol, .ref al, .int (cs + 1), .int hm9]))) lc (.inl (k 2, 100, .inl (upd flc ((nI n9)).toNatClampNeg (vp_nar .boolean 1))))) H := hm
      have hkp : kpx (fun a => a ∈ [mo, ec, lc, wc]) M (mu (mu M mo (.inr (6, [.int cd, .ref cn, .ref ia, .ref dr, .ref en, .ref la, .ref wo, .int ni, .ref op, .ref mk, .ref ir, .int dn, .int md, .int pw, .int cm, .int wr, .ref se, .ref ec, .ref lc, .ref wc, .ref ol, .ref al, .int (cs + 1), .int hm9]))) lc (.inl (k 2, 100, .inl (upd flc ((nI n9)).toNatClampNeg (vp_nar .boolean 1))))) := (hkp).self (by simp)
      refine lv_goto (tgt := 60) hx hb dX6_come_42 (by decide) ?_
      refine W.vret hx hb hr (fun t ht hW => ⟨⟨none, _, rfl, ?_, by rw [ht]; exact hm⟩, hS.F ht⟩) hS.2.2 dX6_come_60
      exact ⟨rfl, ⟨_, _, _, _, _, _, _, fcn, fia, fdr, fen, fla, fwo, fop, fmk, fir, fse, fec, (upd flc ((nI n9)).toNatClampNeg (vp_nar .boolean 1)), fol, fal, fwc, hap, ((mu_ne ne_mo_lc).trans (mu_self _ _ _)), hmd, ⟨hrC, hrL, hrM⟩, ((mu_ne ne_cn_lc).trans ((mu_ne ne_cn_mo).trans hcn)), ((mu_ne ne_ia_lc).trans ((mu_ne ne_ia_mo).trans hia)), ((mu_ne ne_dr_lc).trans ((mu_ne ne_dr_mo).trans hdr)), ((mu_ne ne_en_lc).trans ((mu_ne ne_en_mo).trans hen)), ((mu_ne ne_la_lc).trans ((mu_ne ne_la_mo).trans hla)), ((mu_ne ne_wo_lc).trans ((mu_ne ne_wo_mo).trans hwo)), ((mu_ne ne_op_lc).trans ((mu_ne ne_op_mo).trans hop)), ((mu_ne ne_mk_lc).trans ((mu_ne ne_mk_mo).trans hmk)), ((mu_ne ne_ir_lc).trans ((mu_ne ne_ir_mo).trans hir)), ((mu_ne ne_se_lc).trans ((mu_ne ne_se_mo).trans hse)), ((mu_ne ne_ec_lc).trans ((mu_ne ne_ec_mo).trans hec)), (mu_self _ _ _), ((mu_ne ne_wc_lc).trans ((mu_ne ne_wc_mo).trans hwc)), ((mu_ne ne_ol_lc).trans ((mu_ne ne_ol_mo).trans hol)), ((mu_ne ne_al_lc).trans ((mu_ne ne_al_mo).trans hal))⟩, hkp⟩
  · have hqc1 : c9c < 15 := nb_nle (a := 15) (b := c9c) (by omega) (by omega) c1
    refine lv_aload_n hx hb dX6_come_16 rfl (lv_at hl 0 rfl) ?_
    refine m_get (T := TX6) (N := 24) (ci := 6) (v := .ref ec) hx hb hts wX6 hown hK hm (mu_self _ _ _) rfl 17 (by decide) f51 (fun _ h9 => h9) rfl dX6_come_17 ?_
    refine lv_iload_n hx hb dX6_come_20 rfl (lv_at hl 1 rfl) ?_
    refine lv_dup2_11 hx hb dX6_come_21 rfl rfl ?_
    refine m_iald hx hb hK hm 0 ((mu_ne ne_ec_mo).trans hec) rfl (vp_in_nI (by omega) (by decide)) dX6_come_22 ?_
    refine lv_iconst (v := 1) hx hb dX6_come_23 (by decide) ?_
    refine lv_iadd hx hb dX6_come_24 ?_
    refine m_iast hx hb hK hm hS 0 ((mu_ne ne_ec_mo).trans hec) rfl (vp_in_nI (by omega) (by decide)) dX6_come_25 (fun H locs hm hS => ?_)
    have hm : mm D (AZ z) (mu (mu M mo (.inr (6, [.int cd, .ref cn, .ref ia, .ref dr, .ref en, .ref la, .ref wo, .int ni, .ref op, .ref mk, .ref ir, .int dn, .int md, .int pw, .int cm, .int wr, .ref se, .ref ec, .ref lc, .ref wc, .ref ol, .ref al, .int (cs + 1), .int hm9]))) ec (.inl (k 0, 100, .inl (upd fec ((nI n9)).toNatClampNeg ((fec ((nI n9)).toNatClampNeg) + 1))))) H := hm
    have hkp : kpx (fun a => a ∈ [mo, ec, lc, wc]) M (mu (mu M mo (.inr (6, [.int cd, .ref cn, .ref ia, .ref dr, .ref en, .ref la, .ref wo, .int ni, .ref op, .ref mk, .ref ir, .int dn, .int md, .int pw, .int cm, .int wr, .ref se, .ref ec, .ref lc, .ref wc, .ref ol, .ref al, .int (cs + 1), .int hm9]))) ec (.inl (k 0, 100, .inl (upd fec ((nI n9)).toNatClampNeg ((fec ((nI n9)).toNatClampNeg) + 1))))) := (hkp).self (by simp)
    refine lv_goto (tgt := 60) hx hb dX6_come_26 (by decide) ?_
    refine W.vret hx hb hr (fun t ht hW => ⟨⟨none, _, rfl, ?_, by rw [ht]; exact hm⟩, hS.F ht⟩) hS.2.2 dX6_come_60
    exact ⟨rfl, ⟨_, _, _, _, _, _, _, fcn, fia, fdr, fen, fla, fwo, fop, fmk, fir, fse, (upd fec ((nI n9)).toNatClampNeg ((fec ((nI n9)).toNatClampNeg) + 1)), flc, fol, fal, fwc, hap, ((mu_ne ne_mo_ec).trans (mu_self _ _ _)), hmd, ⟨hrC, hrL, hrM⟩, ((mu_ne ne_cn_ec).trans ((mu_ne ne_cn_mo).trans hcn)), ((mu_ne ne_ia_ec).trans ((mu_ne ne_ia_mo).trans hia)), ((mu_ne ne_dr_ec).trans ((mu_ne ne_dr_mo).trans hdr)), ((mu_ne ne_en_ec).trans ((mu_ne ne_en_mo).trans hen)), ((mu_ne ne_la_ec).trans ((mu_ne ne_la_mo).trans hla)), ((mu_ne ne_wo_ec).trans ((mu_ne ne_wo_mo).trans hwo)), ((mu_ne ne_op_ec).trans ((mu_ne ne_op_mo).trans hop)), ((mu_ne ne_mk_ec).trans ((mu_ne ne_mk_mo).trans hmk)), ((mu_ne ne_ir_ec).trans ((mu_ne ne_ir_mo).trans hir)), ((mu_ne ne_se_ec).trans ((mu_ne ne_se_mo).trans hse)), (mu_self _ _ _), ((mu_ne ne_lc_ec).trans ((mu_ne ne_lc_mo).trans hlc)), ((mu_ne ne_wc_ec).trans ((mu_ne ne_wc_mo).trans hwc)), ((mu_ne ne_ol_ec).trans ((mu_ne ne_ol_mo).trans hol)), ((mu_ne ne_al_ec).trans ((mu_ne ne_al_mo).trans hal))⟩, hkp⟩
