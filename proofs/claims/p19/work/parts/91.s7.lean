set_option maxHeartbeats 4000000 in
set_option maxRecDepth 100000 in
theorem s_X6_move (l : Launch) (D : va_G) (k : Nat → ClassId) (z : Nat) (M : mM) (mo cn ia dr en la wo op mk ir se ec lc wc ol al : Nat) (dn md : Int32)  (tq pa pb : Int32) (hbd : md ≠ 0 → dn ≠ 0) (hI : mI k M mo cn ia dr en la wo op mk ir se ec lc wc ol al dn md) : mK l yX6_move wsX6_move ({ frames := 5, cells := 0, slots := 0, locals := 119 }) D k z [.ref mo, .int tq, .int pa, .int pb] M (fun v M' => (∃ x, v = some (.int x)) ∧ mI k M' mo cn ia dr en la wo op mk ir se ec lc wc ol al dn md ∧ kpx (fun a => a ∈ [mo, cn, ia, dr, en, la, wo, op, mk, ir, se, ec, lc, wc, ol, al]) M M') := by
  refine Met.ofW (cc := cX6_move) (maxL := 7) (ret := (some .boolean)) (by decide) rfl ?_
  intro p e s m args below meth c s₁ B hml hv
  obtain ⟨rfl, hz, hcx, hm⟩ := hv
  have hx := B.exec
  have hb := B.bytes
  have hr := B.returns
  have hts := atoms_spec (ws := wsX6_move) B.pre
  have hown : s.vm.findClass RX6 = some m.cls := findClass_of_methodNamed B.named
  have hlocks := B.notSynchronized
  have hK := hcx.1
  have hS : va_S (AZ z) s.heap s.heap [] := va_S.rf
  have hA : ∀ q, s.heap.size ≤ q → AZ z q := fun q h => Nat.le_trans hz h
  have hl := lv_entry ([.ref mo, .int tq, .int pa, .int pb]) (n := 7) (Nat.le_of_ble_eq_true rfl)
  rw [lg_entry_eq]
  generalize (lg_sl ([.ref mo, .int tq, .int pa, .int pb]) ++ List.replicate (7 - (lg_sl ([.ref mo, .int tq, .int pa, .int pb])).length) Slot.unset).toArray = ls at hl ⊢
  have hl : lv_has ls 7 [(0, .ref mo), (1, .int tq), (2, .int pa), (3, .int pb)] := hl
  have f13 := hts (.fieldLink RX6 13 "CommitTreeModel" "ids" "[I") (by decide +kernel)
  have f16 := hts (.fieldLink RX6 16 "CommitTreeModel" "dirs" "[Z") (by decide +kernel)
  have f21 := hts (.fieldLink RX6 21 "CommitTreeModel" "entries" "[I") (by decide +kernel)
  have wX6 : ∀ w ∈ wsX60, w ∈ wsX6_move := by decide +kernel
  obtain ⟨cd, ni, pw, cm, wr, cs, hm9, fcn, fia, fdr, fen, fla, fwo, fop, fmk, fir, fse, fec, flc, fol, fal, fwc, hap, hM, hmd, ⟨hrC, hrL, hrM⟩, hcn, hia, hdr, hen, hla, hwo, hop, hmk, hir, hse, hec, hlc, hwc, hol, hal⟩ := id hI
  have ne_mo_cn : nq mo cn := pw_ne hap 0 1 (by decide) (Nat.le_of_ble_eq_true rfl)
  have ne_cn_mo : nq cn mo := Ne.symm ne_mo_cn
  have ne_mo_ia : nq mo ia := pw_ne hap 0 2 (by decide) (Nat.le_of_ble_eq_true rfl)
  have ne_ia_mo : nq ia mo := Ne.symm ne_mo_ia
  have ne_mo_dr : nq mo dr := pw_ne hap 0 3 (by decide) (Nat.le_of_ble_eq_true rfl)
  have ne_dr_mo : nq dr mo := Ne.symm ne_mo_dr
  have ne_mo_en : nq mo en := pw_ne hap 0 4 (by decide) (Nat.le_of_ble_eq_true rfl)
  have ne_en_mo : nq en mo := Ne.symm ne_mo_en
  have ne_mo_la : nq mo la := pw_ne hap 0 5 (by decide) (Nat.le_of_ble_eq_true rfl)
  have ne_la_mo : nq la mo := Ne.symm ne_mo_la
  have ne_mo_wo : nq mo wo := pw_ne hap 0 6 (by decide) (Nat.le_of_ble_eq_true rfl)
  have ne_wo_mo : nq wo mo := Ne.symm ne_mo_wo
  have ne_mo_op : nq mo op := pw_ne hap 0 7 (by decide) (Nat.le_of_ble_eq_true rfl)
  have ne_op_mo : nq op mo := Ne.symm ne_mo_op
  have ne_mo_mk : nq mo mk := pw_ne hap 0 8 (by decide) (Nat.le_of_ble_eq_true rfl)
  have ne_mk_mo : nq mk mo := Ne.symm ne_mo_mk
  have ne_mo_ir : nq mo ir := pw_ne hap 0 9 (by decide) (Nat.le_of_ble_eq_true rfl)
  have ne_ir_mo : nq ir mo := Ne.symm ne_mo_ir
  have ne_mo_se : nq mo se := pw_ne hap 0 10 (by decide) (Nat.le_of_ble_eq_true rfl)
  have ne_se_mo : nq se mo := Ne.symm ne_mo_se
  have ne_mo_ec : nq mo ec := pw_ne hap 0 11 (by decide) (Nat.le_of_ble_eq_true rfl)
  have ne_ec_mo : nq ec mo := Ne.symm ne_mo_ec
  have ne_mo_lc : nq mo lc := pw_ne hap 0 12 (by decide) (Nat.le_of_ble_eq_true rfl)
  have ne_lc_mo : nq lc mo := Ne.symm ne_mo_lc
  have ne_mo_wc : nq mo wc := pw_ne hap 0 13 (by decide) (Nat.le_of_ble_eq_true rfl)
  have ne_wc_mo : nq wc mo := Ne.symm ne_mo_wc
  have ne_mo_ol : nq mo ol := pw_ne hap 0 14 (by decide) (Nat.le_of_ble_eq_true rfl)
  have ne_ol_mo : nq ol mo := Ne.symm ne_mo_ol
  have ne_mo_al : nq mo al := pw_ne hap 0 15 (by decide) (Nat.le_of_ble_eq_true rfl)
  have ne_al_mo : nq al mo := Ne.symm ne_mo_al
  have ne_cn_ia : nq cn ia := pw_ne hap 1 2 (by decide) (Nat.le_of_ble_eq_true rfl)
  have ne_ia_cn : nq ia cn := Ne.symm ne_cn_ia
  have ne_cn_dr : nq cn dr := pw_ne hap 1 3 (by decide) (Nat.le_of_ble_eq_true rfl)
  have ne_dr_cn : nq dr cn := Ne.symm ne_cn_dr
  have ne_cn_en : nq cn en := pw_ne hap 1 4 (by decide) (Nat.le_of_ble_eq_true rfl)
  have ne_en_cn : nq en cn := Ne.symm ne_cn_en
  have ne_cn_la : nq cn la := pw_ne hap 1 5 (by decide) (Nat.le_of_ble_eq_true rfl)
  have ne_la_cn : nq la cn := Ne.symm ne_cn_la
  have ne_cn_wo : nq cn wo := pw_ne hap 1 6 (by decide) (Nat.le_of_ble_eq_true rfl)
  have ne_wo_cn : nq wo cn := Ne.symm ne_cn_wo
  have ne_cn_op : nq cn op := pw_ne hap 1 7 (by decide) (Nat.le_of_ble_eq_true rfl)
  have ne_op_cn : nq op cn := Ne.symm ne_cn_op
  have ne_cn_mk : nq cn mk := pw_ne hap 1 8 (by decide) (Nat.le_of_ble_eq_true rfl)
  have ne_mk_cn : nq mk cn := Ne.symm ne_cn_mk
  have ne_cn_ir : nq cn ir := pw_ne hap 1 9 (by decide) (Nat.le_of_ble_eq_true rfl)
  have ne_ir_cn : nq ir cn := Ne.symm ne_cn_ir
  have ne_cn_se : nq cn se := pw_ne hap 1 10 (by decide) (Nat.le_of_ble_eq_true rfl)
  have ne_se_cn : nq se cn := Ne.symm ne_cn_se
  have ne_cn_ec : nq cn ec := pw_ne hap 1 11 (by decide) (Nat.le_of_ble_eq_true rfl)
  have ne_ec_cn : nq ec cn := Ne.symm ne_cn_ec
  have ne_cn_lc : nq cn lc := pw_ne hap 1 12 (by decide) (Nat.le_of_ble_eq_true rfl)
  have ne_lc_cn : nq lc cn := Ne.symm ne_cn_lc
  have ne_cn_wc : nq cn wc := pw_ne hap 1 13 (by decide) (Nat.le_of_ble_eq_true rfl)
  have ne_wc_cn : nq wc cn := Ne.symm ne_cn_wc
  have ne_cn_ol : nq cn ol := pw_ne hap 1 14 (by decide) (Nat.le_of_ble_eq_true rfl)
  have ne_ol_cn : nq ol cn := Ne.symm ne_cn_ol
  have ne_cn_al : nq cn al := pw_ne hap 1 15 (by decide) (Nat.le_of_ble_eq_true rfl)
  have ne_al_cn : nq al cn := Ne.symm ne_cn_al
  have ne_ia_dr : nq ia dr := pw_ne hap 2 3 (by decide) (Nat.le_of_ble_eq_true rfl)
  have ne_dr_ia : nq dr ia := Ne.symm ne_ia_dr
  have ne_ia_en : nq ia en := pw_ne hap 2 4 (by decide) (Nat.le_of_ble_eq_true rfl)
  have ne_en_ia : nq en ia := Ne.symm ne_ia_en
  have ne_ia_la : nq ia la := pw_ne hap 2 5 (by decide) (Nat.le_of_ble_eq_true rfl)
  have ne_la_ia : nq la ia := Ne.symm ne_ia_la
  have ne_ia_wo : nq ia wo := pw_ne hap 2 6 (by decide) (Nat.le_of_ble_eq_true rfl)
  have ne_wo_ia : nq wo ia := Ne.symm ne_ia_wo
  have ne_ia_op : nq ia op := pw_ne hap 2 7 (by decide) (Nat.le_of_ble_eq_true rfl)
  have ne_op_ia : nq op ia := Ne.symm ne_ia_op
  have ne_ia_mk : nq ia mk := pw_ne hap 2 8 (by decide) (Nat.le_of_ble_eq_true rfl)
  have ne_mk_ia : nq mk ia := Ne.symm ne_ia_mk
  have ne_ia_ir : nq ia ir := pw_ne hap 2 9 (by decide) (Nat.le_of_ble_eq_true rfl)
  have ne_ir_ia : nq ir ia := Ne.symm ne_ia_ir
  have ne_ia_se : nq ia se := pw_ne hap 2 10 (by decide) (Nat.le_of_ble_eq_true rfl)
  have ne_se_ia : nq se ia := Ne.symm ne_ia_se
  have ne_ia_ec : nq ia ec := pw_ne hap 2 11 (by decide) (Nat.le_of_ble_eq_true rfl)
  have ne_ec_ia : nq ec ia := Ne.symm ne_ia_ec
  have ne_ia_lc : nq ia lc := pw_ne hap 2 12 (by decide) (Nat.le_of_ble_eq_true rfl)
  have ne_lc_ia : nq lc ia := Ne.symm ne_ia_lc
  have ne_ia_wc : nq ia wc := pw_ne hap 2 13 (by decide) (Nat.le_of_ble_eq_true rfl)
  have ne_wc_ia : nq wc ia := Ne.symm ne_ia_wc
  have ne_ia_ol : nq ia ol := pw_ne hap 2 14 (by decide) (Nat.le_of_ble_eq_true rfl)
  have ne_ol_ia : nq ol ia := Ne.symm ne_ia_ol
  have ne_ia_al : nq ia al := pw_ne hap 2 15 (by decide) (Nat.le_of_ble_eq_true rfl)
  have ne_al_ia : nq al ia := Ne.symm ne_ia_al
  have ne_dr_en : nq dr en := pw_ne hap 3 4 (by decide) (Nat.le_of_ble_eq_true rfl)
  have ne_en_dr : nq en dr := Ne.symm ne_dr_en
  have ne_dr_la : nq dr la := pw_ne hap 3 5 (by decide) (Nat.le_of_ble_eq_true rfl)
  have ne_la_dr : nq la dr := Ne.symm ne_dr_la
  have ne_dr_wo : nq dr wo := pw_ne hap 3 6 (by decide) (Nat.le_of_ble_eq_true rfl)
  have ne_wo_dr : nq wo dr := Ne.symm ne_dr_wo
  have ne_dr_op : nq dr op := pw_ne hap 3 7 (by decide) (Nat.le_of_ble_eq_true rfl)
  have ne_op_dr : nq op dr := Ne.symm ne_dr_op
  have ne_dr_mk : nq dr mk := pw_ne hap 3 8 (by decide) (Nat.le_of_ble_eq_true rfl)
  have ne_mk_dr : nq mk dr := Ne.symm ne_dr_mk
  have ne_dr_ir : nq dr ir := pw_ne hap 3 9 (by decide) (Nat.le_of_ble_eq_true rfl)
  have ne_ir_dr : nq ir dr := Ne.symm ne_dr_ir
  have ne_dr_se : nq dr se := pw_ne hap 3 10 (by decide) (Nat.le_of_ble_eq_true rfl)
  have ne_se_dr : nq se dr := Ne.symm ne_dr_se
  have ne_dr_ec : nq dr ec := pw_ne hap 3 11 (by decide) (Nat.le_of_ble_eq_true rfl)
  have ne_ec_dr : nq ec dr := Ne.symm ne_dr_ec
  have ne_dr_lc : nq dr lc := pw_ne hap 3 12 (by decide) (Nat.le_of_ble_eq_true rfl)
  have ne_lc_dr : nq lc dr := Ne.symm ne_dr_lc
  have ne_dr_wc : nq dr wc := pw_ne hap 3 13 (by decide) (Nat.le_of_ble_eq_true rfl)
  have ne_wc_dr : nq wc dr := Ne.symm ne_dr_wc
  have ne_dr_ol : nq dr ol := pw_ne hap 3 14 (by decide) (Nat.le_of_ble_eq_true rfl)
  have ne_ol_dr : nq ol dr := Ne.symm ne_dr_ol
  have ne_dr_al : nq dr al := pw_ne hap 3 15 (by decide) (Nat.le_of_ble_eq_true rfl)
  have ne_al_dr : nq al dr := Ne.symm ne_dr_al
  have ne_en_la : nq en la := pw_ne hap 4 5 (by decide) (Nat.le_of_ble_eq_true rfl)
  have ne_la_en : nq la en := Ne.symm ne_en_la
  have ne_en_wo : nq en wo := pw_ne hap 4 6 (by decide) (Nat.le_of_ble_eq_true rfl)
  have ne_wo_en : nq wo en := Ne.symm ne_en_wo
  have ne_en_op : nq en op := pw_ne hap 4 7 (by decide) (Nat.le_of_ble_eq_true rfl)
  have ne_op_en : nq op en := Ne.symm ne_en_op
  have ne_en_mk : nq en mk := pw_ne hap 4 8 (by decide) (Nat.le_of_ble_eq_true rfl)
  have ne_mk_en : nq mk en := Ne.symm ne_en_mk
  have ne_en_ir : nq en ir := pw_ne hap 4 9 (by decide) (Nat.le_of_ble_eq_true rfl)
  have ne_ir_en : nq ir en := Ne.symm ne_en_ir
  have ne_en_se : nq en se := pw_ne hap 4 10 (by decide) (Nat.le_of_ble_eq_true rfl)
  have ne_se_en : nq se en := Ne.symm ne_en_se
  have ne_en_ec : nq en ec := pw_ne hap 4 11 (by decide) (Nat.le_of_ble_eq_true rfl)
  have ne_ec_en : nq ec en := Ne.symm ne_en_ec
  have ne_en_lc : nq en lc := pw_ne hap 4 12 (by decide) (Nat.le_of_ble_eq_true rfl)
  have ne_lc_en : nq lc en := Ne.symm ne_en_lc
  have ne_en_wc : nq en wc := pw_ne hap 4 13 (by decide) (Nat.le_of_ble_eq_true rfl)
  have ne_wc_en : nq wc en := Ne.symm ne_en_wc
  have ne_en_ol : nq en ol := pw_ne hap 4 14 (by decide) (Nat.le_of_ble_eq_true rfl)
  have ne_ol_en : nq ol en := Ne.symm ne_en_ol
  have ne_en_al : nq en al := pw_ne hap 4 15 (by decide) (Nat.le_of_ble_eq_true rfl)
  have ne_al_en : nq al en := Ne.symm ne_en_al
  have ne_la_wo : nq la wo := pw_ne hap 5 6 (by decide) (Nat.le_of_ble_eq_true rfl)
  have ne_wo_la : nq wo la := Ne.symm ne_la_wo
  have ne_la_op : nq la op := pw_ne hap 5 7 (by decide) (Nat.le_of_ble_eq_true rfl)
  have ne_op_la : nq op la := Ne.symm ne_la_op
  have ne_la_mk : nq la mk := pw_ne hap 5 8 (by decide) (Nat.le_of_ble_eq_true rfl)
  have ne_mk_la : nq mk la := Ne.symm ne_la_mk
  have ne_la_ir : nq la ir := pw_ne hap 5 9 (by decide) (Nat.le_of_ble_eq_true rfl)
  have ne_ir_la : nq ir la := Ne.symm ne_la_ir
  have ne_la_se : nq la se := pw_ne hap 5 10 (by decide) (Nat.le_of_ble_eq_true rfl)
  have ne_se_la : nq se la := Ne.symm ne_la_se
  have ne_la_ec : nq la ec := pw_ne hap 5 11 (by decide) (Nat.le_of_ble_eq_true rfl)
  have ne_ec_la : nq ec la := Ne.symm ne_la_ec
  have ne_la_lc : nq la lc := pw_ne hap 5 12 (by decide) (Nat.le_of_ble_eq_true rfl)
  have ne_lc_la : nq lc la := Ne.symm ne_la_lc
  have ne_la_wc : nq la wc := pw_ne hap 5 13 (by decide) (Nat.le_of_ble_eq_true rfl)
  have ne_wc_la : nq wc la := Ne.symm ne_la_wc
  have ne_la_ol : nq la ol := pw_ne hap 5 14 (by decide) (Nat.le_of_ble_eq_true rfl)
  have ne_ol_la : nq ol la := Ne.symm ne_la_ol
  have ne_la_al : nq la al := pw_ne hap 5 15 (by decide) (Nat.le_of_ble_eq_true rfl)
  have ne_al_la : nq al la := Ne.symm ne_la_al
  have ne_wo_op : nq wo op := pw_ne hap 6 7 (by decide) (Nat.le_of_ble_eq_true rfl)
  have ne_op_wo : nq op wo := Ne.symm ne_wo_op
  have ne_wo_mk : nq wo mk := pw_ne hap 6 8 (by decide) (Nat.le_of_ble_eq_true rfl)
  have ne_mk_wo : nq mk wo := Ne.symm ne_wo_mk
  have ne_wo_ir : nq wo ir := pw_ne hap 6 9 (by decide) (Nat.le_of_ble_eq_true rfl)
  have ne_ir_wo : nq ir wo := Ne.symm ne_wo_ir
  have ne_wo_se : nq wo se := pw_ne hap 6 10 (by decide) (Nat.le_of_ble_eq_true rfl)
  have ne_se_wo : nq se wo := Ne.symm ne_wo_se
  have ne_wo_ec : nq wo ec := pw_ne hap 6 11 (by decide) (Nat.le_of_ble_eq_true rfl)
  have ne_ec_wo : nq ec wo := Ne.symm ne_wo_ec
  have ne_wo_lc : nq wo lc := pw_ne hap 6 12 (by decide) (Nat.le_of_ble_eq_true rfl)
  have ne_lc_wo : nq lc wo := Ne.symm ne_wo_lc
  have ne_wo_wc : nq wo wc := pw_ne hap 6 13 (by decide) (Nat.le_of_ble_eq_true rfl)
  have ne_wc_wo : nq wc wo := Ne.symm ne_wo_wc
  have ne_wo_ol : nq wo ol := pw_ne hap 6 14 (by decide) (Nat.le_of_ble_eq_true rfl)
  have ne_ol_wo : nq ol wo := Ne.symm ne_wo_ol
  have ne_wo_al : nq wo al := pw_ne hap 6 15 (by decide) (Nat.le_of_ble_eq_true rfl)
  have ne_al_wo : nq al wo := Ne.symm ne_wo_al
  have ne_op_mk : nq op mk := pw_ne hap 7 8 (by decide) (Nat.le_of_ble_eq_true rfl)
  have ne_mk_op : nq mk op := Ne.symm ne_op_mk
  have ne_op_ir : nq op ir := pw_ne hap 7 9 (by decide) (Nat.le_of_ble_eq_true rfl)
  have ne_ir_op : nq ir op := Ne.symm ne_op_ir
  have ne_op_se : nq op se := pw_ne hap 7 10 (by decide) (Nat.le_of_ble_eq_true rfl)
  have ne_se_op : nq se op := Ne.symm ne_op_se
  have ne_op_ec : nq op ec := pw_ne hap 7 11 (by decide) (Nat.le_of_ble_eq_true rfl)
  have ne_ec_op : nq ec op := Ne.symm ne_op_ec
  have ne_op_lc : nq op lc := pw_ne hap 7 12 (by decide) (Nat.le_of_ble_eq_true rfl)
  have ne_lc_op : nq lc op := Ne.symm ne_op_lc
  have ne_op_wc : nq op wc := pw_ne hap 7 13 (by decide) (Nat.le_of_ble_eq_true rfl)
  have ne_wc_op : nq wc op := Ne.symm ne_op_wc
  have ne_op_ol : nq op ol := pw_ne hap 7 14 (by decide) (Nat.le_of_ble_eq_true rfl)
  have ne_ol_op : nq ol op := Ne.symm ne_op_ol
  have ne_op_al : nq op al := pw_ne hap 7 15 (by decide) (Nat.le_of_ble_eq_true rfl)
  have ne_al_op : nq al op := Ne.symm ne_op_al
  have ne_mk_ir : nq mk ir := pw_ne hap 8 9 (by decide) (Nat.le_of_ble_eq_true rfl)
  have ne_ir_mk : nq ir mk := Ne.symm ne_mk_ir
  have ne_mk_se : nq mk se := pw_ne hap 8 10 (by decide) (Nat.le_of_ble_eq_true rfl)
  have ne_se_mk : nq se mk := Ne.symm ne_mk_se
  have ne_mk_ec : nq mk ec := pw_ne hap 8 11 (by decide) (Nat.le_of_ble_eq_true rfl)
  have ne_ec_mk : nq ec mk := Ne.symm ne_mk_ec
  have ne_mk_lc : nq mk lc := pw_ne hap 8 12 (by decide) (Nat.le_of_ble_eq_true rfl)
  have ne_lc_mk : nq lc mk := Ne.symm ne_mk_lc
  have ne_mk_wc : nq mk wc := pw_ne hap 8 13 (by decide) (Nat.le_of_ble_eq_true rfl)
  have ne_wc_mk : nq wc mk := Ne.symm ne_mk_wc
  have ne_mk_ol : nq mk ol := pw_ne hap 8 14 (by decide) (Nat.le_of_ble_eq_true rfl)
  have ne_ol_mk : nq ol mk := Ne.symm ne_mk_ol
  have ne_mk_al : nq mk al := pw_ne hap 8 15 (by decide) (Nat.le_of_ble_eq_true rfl)
  have ne_al_mk : nq al mk := Ne.symm ne_mk_al
  have ne_ir_se : nq ir se := pw_ne hap 9 10 (by decide) (Nat.le_of_ble_eq_true rfl)
  have ne_se_ir : nq se ir := Ne.symm ne_ir_se
  have ne_ir_ec : nq ir ec := pw_ne hap 9 11 (by decide) (Nat.le_of_ble_eq_true rfl)
  have ne_ec_ir : nq ec ir := Ne.symm ne_ir_ec
  have ne_ir_lc : nq ir lc := pw_ne hap 9 12 (by decide) (Nat.le_of_ble_eq_true rfl)
  have ne_lc_ir : nq lc ir := Ne.symm ne_ir_lc
  have ne_ir_wc : nq ir wc := pw_ne hap 9 13 (by decide) (Nat.le_of_ble_eq_true rfl)
  have ne_wc_ir : nq wc ir := Ne.symm ne_ir_wc
  have ne_ir_ol : nq ir ol := pw_ne hap 9 14 (by decide) (Nat.le_of_ble_eq_true rfl)
  have ne_ol_ir : nq ol ir := Ne.symm ne_ir_ol
  have ne_ir_al : nq ir al := pw_ne hap 9 15 (by decide) (Nat.le_of_ble_eq_true rfl)
  have ne_al_ir : nq al ir := Ne.symm ne_ir_al
  have ne_se_ec : nq se ec := pw_ne hap 10 11 (by decide) (Nat.le_of_ble_eq_true rfl)
  have ne_ec_se : nq ec se := Ne.symm ne_se_ec
  have ne_se_lc : nq se lc := pw_ne hap 10 12 (by decide) (Nat.le_of_ble_eq_true rfl)
  have ne_lc_se : nq lc se := Ne.symm ne_se_lc
  have ne_se_wc : nq se wc := pw_ne hap 10 13 (by decide) (Nat.le_of_ble_eq_true rfl)
  have ne_wc_se : nq wc se := Ne.symm ne_se_wc
  have ne_se_ol : nq se ol := pw_ne hap 10 14 (by decide) (Nat.le_of_ble_eq_true rfl)
  have ne_ol_se : nq ol se := Ne.symm ne_se_ol
  have ne_se_al : nq se al := pw_ne hap 10 15 (by decide) (Nat.le_of_ble_eq_true rfl)
  have ne_al_se : nq al se := Ne.symm ne_se_al
  have ne_ec_lc : nq ec lc := pw_ne hap 11 12 (by decide) (Nat.le_of_ble_eq_true rfl)
  have ne_lc_ec : nq lc ec := Ne.symm ne_ec_lc
  have ne_ec_wc : nq ec wc := pw_ne hap 11 13 (by decide) (Nat.le_of_ble_eq_true rfl)
  have ne_wc_ec : nq wc ec := Ne.symm ne_ec_wc
  have ne_ec_ol : nq ec ol := pw_ne hap 11 14 (by decide) (Nat.le_of_ble_eq_true rfl)
  have ne_ol_ec : nq ol ec := Ne.symm ne_ec_ol
  have ne_ec_al : nq ec al := pw_ne hap 11 15 (by decide) (Nat.le_of_ble_eq_true rfl)
  have ne_al_ec : nq al ec := Ne.symm ne_ec_al
  have ne_lc_wc : nq lc wc := pw_ne hap 12 13 (by decide) (Nat.le_of_ble_eq_true rfl)
  have ne_wc_lc : nq wc lc := Ne.symm ne_lc_wc
  have ne_lc_ol : nq lc ol := pw_ne hap 12 14 (by decide) (Nat.le_of_ble_eq_true rfl)
  have ne_ol_lc : nq ol lc := Ne.symm ne_lc_ol
  have ne_lc_al : nq lc al := pw_ne hap 12 15 (by decide) (Nat.le_of_ble_eq_true rfl)
  have ne_al_lc : nq al lc := Ne.symm ne_lc_al
  have ne_wc_ol : nq wc ol := pw_ne hap 13 14 (by decide) (Nat.le_of_ble_eq_true rfl)
  have ne_ol_wc : nq ol wc := Ne.symm ne_wc_ol
  have ne_wc_al : nq wc al := pw_ne hap 13 15 (by decide) (Nat.le_of_ble_eq_true rfl)
  have ne_al_wc : nq al wc := Ne.symm ne_wc_al
  have ne_ol_al : nq ol al := pw_ne hap 14 15 (by decide) (Nat.le_of_ble_eq_true rfl)
  have ne_al_ol : nq al ol := Ne.symm ne_ol_al
  have hkp : kpx (fun a => a ∈ [mo, cn, ia, dr, en, la, wo, op, mk, ir, se, ec, lc, wc, ol, al]) M M := kpx.refl _ _
  refine lv_aload_n hx hb dX6_move_0 rfl (lv_at hl 0 rfl) ?_
  refine lv_aload_n hx hb dX6_move_1 rfl (lv_at hl 0 rfl) ?_
  refine lv_iload_n hx hb dX6_move_2 rfl (lv_at hl 1 rfl) ?_
  refine m_kV (As := [.int tq]) (rest := [.ref mo]) (rm := { frames := 0, cells := 0, slots := 0, locals := 0 }) ⟨hx, hb, hml, hown, hts⟩ (s_X6_isOpen l D k z _ mo cn ia dr en la wo op mk ir se ec lc wc ol al dn md tq hI) (cwV 1 hts gX6_move_X6_isOpen rfl rfl rfl (by decide +kernel) ⟨Nat.le_of_ble_eq_true rfl, Nat.le_of_ble_eq_true rfl⟩) (m_recv hK hm (q := (RX6, TX6, 24)) rfl hM) hz hcx hm hS rfl hl.1 rfl (Nat.le_of_ble_eq_true rfl) dX6_move_3 ⟨Nat.le_of_ble_eq_true rfl, Nat.le_of_ble_eq_true rfl⟩ (fun v M1 H locs hv hm hS => ?_)
  obtain ⟨hv2, hM1⟩ := hv
  rw [hM1] at hm
  rcases hv2 with hv1 | ⟨hv1, hdn, t9, ht9, htE⟩
  · subst hv1
    refine W.eq (g2 := F0 m 6 ls [.int 0, .ref mo]) rfl ?_
    refine W.widen (k := 0) (n := 0) (Nat.le_of_ble_eq_true rfl) (Nat.le_of_ble_eq_true rfl) ?_
    have hm : mm D (AZ z) M H := hm
    refine lv_if_ne (tgt := 13) hx hb dX6_move_6 (by decide) (fun c1 => ?_) (fun c1 => ?_)
    · first | exact absurd c1 (by decide) | exact absurd (by decide) c1
    · refine lv_iconst (v := 1) hx hb dX6_move_9 (by decide) ?_
      refine lv_goto (tgt := 48) hx hb dX6_move_10 (by decide) ?_
      refine m_kV (As := [.int 1]) (rest := []) (rm := { frames := 0, cells := 0, slots := 0, locals := 0 }) ⟨hx, hb, hml, hown, hts⟩ (s_X6_failsE l D k z _ mo cn ia dr en la wo op mk ir se ec lc wc ol al cd ni dn md pw cm wr cs hm9 1 hM) (cwV 1 hts gX6_move_X6_fails rfl rfl rfl (by decide +kernel) ⟨Nat.le_of_ble_eq_true rfl, Nat.le_of_ble_eq_true rfl⟩) (m_recv hK hm (q := (RX6, TX6, 24)) rfl hM) hz hcx hm hS rfl hl.1 rfl (Nat.le_of_ble_eq_true rfl) dX6_move_48 ⟨Nat.le_of_ble_eq_true rfl, Nat.le_of_ble_eq_true rfl⟩ (fun v M1 H locs hv hm hS => ?_)
      obtain ⟨hv1, hM1⟩ := hv
      have hv1 : v = some (.int 1) := hv1.trans (by decide)
      subst hv1
      rw [hM1] at hm
      refine W.eq (g2 := F0 m 51 ls [.int 1]) rfl ?_
      refine W.widen (k := 0) (n := 0) (Nat.le_of_ble_eq_true rfl) (Nat.le_of_ble_eq_true rfl) ?_
      have hm : mm D (AZ z) (mu M mo (.inr (6, [.int 1, .ref cn, .ref ia, .ref dr, .ref en, .ref la, .ref wo, .int ni, .ref op, .ref mk, .ref ir, .int dn, .int md, .int pw, .int cm, .int wr, .ref se, .ref ec, .ref lc, .ref wc, .ref ol, .ref al, .int cs, .int hm9]))) H := hm
      have hkp : kpx (fun a => a ∈ [mo, cn, ia, dr, en, la, wo, op, mk, ir, se, ec, lc, wc, ol, al]) M (mu M mo (.inr (6, [.int 1, .ref cn, .ref ia, .ref dr, .ref en, .ref la, .ref wo, .int ni, .ref op, .ref mk, .ref ir, .int dn, .int md, .int pw, .int cm, .int wr, .ref se, .ref ec, .ref lc, .ref wc, .ref ol, .ref al, .int cs, .int hm9]))) := (hkp).self (by simp)
      refine lv_if_eq (tgt := 56) hx hb dX6_move_51 (by decide) (fun c2 => ?_) (fun c2 => ?_)
      · first | exact absurd c2 (by decide) | exact absurd (by decide) c2
      · refine lv_iconst (v := 0) hx hb dX6_move_54 (by decide) ?_
        refine W.zret hx hb hr rfl (fun t ht hW => ⟨⟨some (.int 0), _, rfl, ?_, by rw [ht]; exact hm⟩, hS.F ht⟩) hS.2.2 dX6_move_55
        exact ⟨⟨_, rfl⟩, ⟨_, _, _, _, _, _, _, fcn, fia, fdr, fen, fla, fwo, fop, fmk, fir, fse, fec, flc, fol, fal, fwc, hap, (mu_self _ _ _), hmd, ⟨hrC, hrL, hrM⟩, ((mu_ne ne_cn_mo).trans hcn), ((mu_ne ne_ia_mo).trans hia), ((mu_ne ne_dr_mo).trans hdr), ((mu_ne ne_en_mo).trans hen), ((mu_ne ne_la_mo).trans hla), ((mu_ne ne_wo_mo).trans hwo), ((mu_ne ne_op_mo).trans hop), ((mu_ne ne_mk_mo).trans hmk), ((mu_ne ne_ir_mo).trans hir), ((mu_ne ne_se_mo).trans hse), ((mu_ne ne_ec_mo).trans hec), ((mu_ne ne_lc_mo).trans hlc), ((mu_ne ne_wc_mo).trans hwc), ((mu_ne ne_ol_mo).trans hol), ((mu_ne ne_al_mo).trans hal)⟩, hkp⟩
  · subst hv1
    subst htE
    refine W.eq (g2 := F0 m 6 ls [.int 1, .ref mo]) rfl ?_
    refine W.widen (k := 0) (n := 0) (Nat.le_of_ble_eq_true rfl) (Nat.le_of_ble_eq_true rfl) ?_
    have hm : mm D (AZ z) M H := hm
    refine lv_if_ne (tgt := 13) hx hb dX6_move_6 (by decide) (fun c3 => ?_) (fun c3 => ?_)
    · refine lv_iload_n hx hb dX6_move_13 rfl (lv_at hl 2 rfl) ?_
      refine m_kS (As := [.int pa]) (rest := [.ref mo]) (rm := { frames := 0, cells := 0, slots := 0, locals := 0 }) ⟨hx, hb, hml, hown, hts⟩ (c_X6_isPath l D k z _ pa) (cwS 1 hts gX6_move_X6_isPath rfl rfl rfl (by decide +kernel) ⟨Nat.le_of_ble_eq_true rfl, Nat.le_of_ble_eq_true rfl⟩) hz hcx hm hS rfl hl.1 rfl (Nat.le_of_ble_eq_true rfl) dX6_move_14 ⟨Nat.le_of_ble_eq_true rfl, Nat.le_of_ble_eq_true rfl⟩ (fun v M1 H locs hv hm hS => ?_)
      obtain ⟨hv2, hM1⟩ := hv
      rw [hM1] at hm
      rcases hv2 with ⟨hp101, hv1⟩ | ⟨hp101, hv1⟩
      · subst hv1
        refine W.eq (g2 := F0 m 17 ls [.int 1, .ref mo]) rfl ?_
        refine W.widen (k := 0) (n := 0) (Nat.le_of_ble_eq_true rfl) (Nat.le_of_ble_eq_true rfl) ?_
        have hm : mm D (AZ z) M H := hm
        refine lv_if_eq (tgt := 43) hx hb dX6_move_17 (by decide) (fun c4 => ?_) (fun c4 => ?_)
        · first | exact absurd c4 (by decide) | exact absurd (by decide) c4
        · refine lv_iload_n hx hb dX6_move_20 rfl (lv_at hl 3 rfl) ?_
          refine m_kS (As := [.int pb]) (rest := [.ref mo]) (rm := { frames := 0, cells := 0, slots := 0, locals := 0 }) ⟨hx, hb, hml, hown, hts⟩ (c_X6_isPath l D k z _ pb) (cwS 1 hts gX6_move_X6_isPath rfl rfl rfl (by decide +kernel) ⟨Nat.le_of_ble_eq_true rfl, Nat.le_of_ble_eq_true rfl⟩) hz hcx hm hS rfl hl.1 rfl (Nat.le_of_ble_eq_true rfl) dX6_move_21 ⟨Nat.le_of_ble_eq_true rfl, Nat.le_of_ble_eq_true rfl⟩ (fun v M1 H locs hv hm hS => ?_)
          obtain ⟨hv2, hM1⟩ := hv
          rw [hM1] at hm
          rcases hv2 with ⟨hp102, hv1⟩ | ⟨hp102, hv1⟩
          · subst hv1
            refine W.eq (g2 := F0 m 24 ls [.int 1, .ref mo]) rfl ?_
            refine W.widen (k := 0) (n := 0) (Nat.le_of_ble_eq_true rfl) (Nat.le_of_ble_eq_true rfl) ?_
            have hm : mm D (AZ z) M H := hm
            refine lv_if_eq (tgt := 43) hx hb dX6_move_24 (by decide) (fun c5 => ?_) (fun c5 => ?_)
            · first | exact absurd c5 (by decide) | exact absurd (by decide) c5
            · refine lv_iload_n hx hb dX6_move_27 rfl (lv_at hl 2 rfl) ?_
              refine lv_if_eq (tgt := 43) hx hb dX6_move_28 (by decide) (fun c6 => ?_) (fun c6 => ?_)
              · refine lv_iconst (v := 2) hx hb dX6_move_43 (by decide) ?_
                refine lv_goto (tgt := 48) hx hb dX6_move_44 (by decide) ?_
                refine m_kV (As := [.int 2]) (rest := []) (rm := { frames := 0, cells := 0, slots := 0, locals := 0 }) ⟨hx, hb, hml, hown, hts⟩ (s_X6_failsE l D k z _ mo cn ia dr en la wo op mk ir se ec lc wc ol al cd ni dn md pw cm wr cs hm9 2 hM) (cwV 1 hts gX6_move_X6_fails rfl rfl rfl (by decide +kernel) ⟨Nat.le_of_ble_eq_true rfl, Nat.le_of_ble_eq_true rfl⟩) (m_recv hK hm (q := (RX6, TX6, 24)) rfl hM) hz hcx hm hS rfl hl.1 rfl (Nat.le_of_ble_eq_true rfl) dX6_move_48 ⟨Nat.le_of_ble_eq_true rfl, Nat.le_of_ble_eq_true rfl⟩ (fun v M1 H locs hv hm hS => ?_)
                obtain ⟨hv1, hM1⟩ := hv
                have hv1 : v = some (.int 1) := hv1.trans (by decide)
                subst hv1
                rw [hM1] at hm
                refine W.eq (g2 := F0 m 51 ls [.int 1]) rfl ?_
                refine W.widen (k := 0) (n := 0) (Nat.le_of_ble_eq_true rfl) (Nat.le_of_ble_eq_true rfl) ?_
                have hm : mm D (AZ z) (mu M mo (.inr (6, [.int 2, .ref cn, .ref ia, .ref dr, .ref en, .ref la, .ref wo, .int ni, .ref op, .ref mk, .ref ir, .int dn, .int md, .int pw, .int cm, .int wr, .ref se, .ref ec, .ref lc, .ref wc, .ref ol, .ref al, .int cs, .int hm9]))) H := hm
                have hkp : kpx (fun a => a ∈ [mo, cn, ia, dr, en, la, wo, op, mk, ir, se, ec, lc, wc, ol, al]) M (mu M mo (.inr (6, [.int 2, .ref cn, .ref ia, .ref dr, .ref en, .ref la, .ref wo, .int ni, .ref op, .ref mk, .ref ir, .int dn, .int md, .int pw, .int cm, .int wr, .ref se, .ref ec, .ref lc, .ref wc, .ref ol, .ref al, .int cs, .int hm9]))) := (hkp).self (by simp)
                refine lv_if_eq (tgt := 56) hx hb dX6_move_51 (by decide) (fun c7 => ?_) (fun c7 => ?_)
                · first | exact absurd c7 (by decide) | exact absurd (by decide) c7
                · refine lv_iconst (v := 0) hx hb dX6_move_54 (by decide) ?_
                  refine W.zret hx hb hr rfl (fun t ht hW => ⟨⟨some (.int 0), _, rfl, ?_, by rw [ht]; exact hm⟩, hS.F ht⟩) hS.2.2 dX6_move_55
                  exact ⟨⟨_, rfl⟩, ⟨_, _, _, _, _, _, _, fcn, fia, fdr, fen, fla, fwo, fop, fmk, fir, fse, fec, flc, fol, fal, fwc, hap, (mu_self _ _ _), hmd, ⟨hrC, hrL, hrM⟩, ((mu_ne ne_cn_mo).trans hcn), ((mu_ne ne_ia_mo).trans hia), ((mu_ne ne_dr_mo).trans hdr), ((mu_ne ne_en_mo).trans hen), ((mu_ne ne_la_mo).trans hla), ((mu_ne ne_wo_mo).trans hwo), ((mu_ne ne_op_mo).trans hop), ((mu_ne ne_mk_mo).trans hmk), ((mu_ne ne_ir_mo).trans hir), ((mu_ne ne_se_mo).trans hse), ((mu_ne ne_ec_mo).trans hec), ((mu_ne ne_lc_mo).trans hlc), ((mu_ne ne_wc_mo).trans hwc), ((mu_ne ne_ol_mo).trans hol), ((mu_ne ne_al_mo).trans hal)⟩, hkp⟩
              · refine lv_iload_n hx hb dX6_move_31 rfl (lv_at hl 3 rfl) ?_
                refine lv_if_eq (tgt := 43) hx hb dX6_move_32 (by decide) (fun c8 => ?_) (fun c8 => ?_)
                · refine lv_iconst (v := 2) hx hb dX6_move_43 (by decide) ?_
                  refine lv_goto (tgt := 48) hx hb dX6_move_44 (by decide) ?_
                  refine m_kV (As := [.int 2]) (rest := []) (rm := { frames := 0, cells := 0, slots := 0, locals := 0 }) ⟨hx, hb, hml, hown, hts⟩ (s_X6_failsE l D k z _ mo cn ia dr en la wo op mk ir se ec lc wc ol al cd ni dn md pw cm wr cs hm9 2 hM) (cwV 1 hts gX6_move_X6_fails rfl rfl rfl (by decide +kernel) ⟨Nat.le_of_ble_eq_true rfl, Nat.le_of_ble_eq_true rfl⟩) (m_recv hK hm (q := (RX6, TX6, 24)) rfl hM) hz hcx hm hS rfl hl.1 rfl (Nat.le_of_ble_eq_true rfl) dX6_move_48 ⟨Nat.le_of_ble_eq_true rfl, Nat.le_of_ble_eq_true rfl⟩ (fun v M1 H locs hv hm hS => ?_)
                  obtain ⟨hv1, hM1⟩ := hv
                  have hv1 : v = some (.int 1) := hv1.trans (by decide)
                  subst hv1
                  rw [hM1] at hm
                  refine W.eq (g2 := F0 m 51 ls [.int 1]) rfl ?_
                  refine W.widen (k := 0) (n := 0) (Nat.le_of_ble_eq_true rfl) (Nat.le_of_ble_eq_true rfl) ?_
                  have hm : mm D (AZ z) (mu M mo (.inr (6, [.int 2, .ref cn, .ref ia, .ref dr, .ref en, .ref la, .ref wo, .int ni, .ref op, .ref mk, .ref ir, .int dn, .int md, .int pw, .int cm, .int wr, .ref se, .ref ec, .ref lc, .ref wc, .ref ol, .ref al, .int cs, .int hm9]))) H := hm
                  have hkp : kpx (fun a => a ∈ [mo, cn, ia, dr, en, la, wo, op, mk, ir, se, ec, lc, wc, ol, al]) M (mu M mo (.inr (6, [.int 2, .ref cn, .ref ia, .ref dr, .ref en, .ref la, .ref wo, .int ni, .ref op, .ref mk, .ref ir, .int dn, .int md, .int pw, .int cm, .int wr, .ref se, .ref ec, .ref lc, .ref wc, .ref ol, .ref al, .int cs, .int hm9]))) := (hkp).self (by simp)
                  refine lv_if_eq (tgt := 56) hx hb dX6_move_51 (by decide) (fun c9 => ?_) (fun c9 => ?_)
                  · first | exact absurd c9 (by decide) | exact absurd (by decide) c9
                  · refine lv_iconst (v := 0) hx hb dX6_move_54 (by decide) ?_
                    refine W.zret hx hb hr rfl (fun t ht hW => ⟨⟨some (.int 0), _, rfl, ?_, by rw [ht]; exact hm⟩, hS.F ht⟩) hS.2.2 dX6_move_55
                    exact ⟨⟨_, rfl⟩, ⟨_, _, _, _, _, _, _, fcn, fia, fdr, fen, fla, fwo, fop, fmk, fir, fse, fec, flc, fol, fal, fwc, hap, (mu_self _ _ _), hmd, ⟨hrC, hrL, hrM⟩, ((mu_ne ne_cn_mo).trans hcn), ((mu_ne ne_ia_mo).trans hia), ((mu_ne ne_dr_mo).trans hdr), ((mu_ne ne_en_mo).trans hen), ((mu_ne ne_la_mo).trans hla), ((mu_ne ne_wo_mo).trans hwo), ((mu_ne ne_op_mo).trans hop), ((mu_ne ne_mk_mo).trans hmk), ((mu_ne ne_ir_mo).trans hir), ((mu_ne ne_se_mo).trans hse), ((mu_ne ne_ec_mo).trans hec), ((mu_ne ne_lc_mo).trans hlc), ((mu_ne ne_wc_mo).trans hwc), ((mu_ne ne_ol_mo).trans hol), ((mu_ne ne_al_mo).trans hal)⟩, hkp⟩
                · refine lv_iload_n hx hb dX6_move_35 rfl (lv_at hl 3 rfl) ?_
                  refine lv_iload_n hx hb dX6_move_36 rfl (lv_at hl 2 rfl) ?_
                  refine m_kS (As := [.int pb, .int pa]) (rest := [.ref mo]) (rm := { frames := 0, cells := 0, slots := 0, locals := 0 }) ⟨hx, hb, hml, hown, hts⟩ (s_X6_isThrough l D k z _ pb pa) (cwS 2 hts gX6_move_X6_isThrough rfl rfl rfl (by decide +kernel) ⟨Nat.le_of_ble_eq_true rfl, Nat.le_of_ble_eq_true rfl⟩) hz hcx hm hS rfl hl.1 rfl (Nat.le_of_ble_eq_true rfl) dX6_move_37 ⟨Nat.le_of_ble_eq_true rfl, Nat.le_of_ble_eq_true rfl⟩ (fun v M1 H locs hv hm hS => ?_)
                  obtain ⟨⟨x9, hv1, hx9⟩, hM1⟩ := hv
                  rw [hM1] at hm
                  subst hv1
                  rcases hx9 with hx9 | hx9
                  · subst hx9
                    refine W.eq (g2 := F0 m 40 ls [.int 0, .ref mo]) rfl ?_
                    refine W.widen (k := 0) (n := 0) (Nat.le_of_ble_eq_true rfl) (Nat.le_of_ble_eq_true rfl) ?_
                    have hm : mm D (AZ z) M H := hm
                    refine lv_if_eq (tgt := 47) hx hb dX6_move_40 (by decide) (fun c10 => ?_) (fun c10 => ?_)
                    · refine lv_iconst (v := 0) hx hb dX6_move_47 (by decide) ?_
                      refine m_kV (As := [.int 0]) (rest := []) (rm := { frames := 0, cells := 0, slots := 0, locals := 0 }) ⟨hx, hb, hml, hown, hts⟩ (s_X6_failsE l D k z _ mo cn ia dr en la wo op mk ir se ec lc wc ol al cd ni dn md pw cm wr cs hm9 0 hM) (cwV 1 hts gX6_move_X6_fails rfl rfl rfl (by decide +kernel) ⟨Nat.le_of_ble_eq_true rfl, Nat.le_of_ble_eq_true rfl⟩) (m_recv hK hm (q := (RX6, TX6, 24)) rfl hM) hz hcx hm hS rfl hl.1 rfl (Nat.le_of_ble_eq_true rfl) dX6_move_48 ⟨Nat.le_of_ble_eq_true rfl, Nat.le_of_ble_eq_true rfl⟩ (fun v M1 H locs hv hm hS => ?_)
                      obtain ⟨hv1, hM1⟩ := hv
                      have hv1 : v = some (.int 0) := hv1.trans (by decide)
                      subst hv1
                      rw [hM1] at hm
                      refine W.eq (g2 := F0 m 51 ls [.int 0]) rfl ?_
                      refine W.widen (k := 0) (n := 0) (Nat.le_of_ble_eq_true rfl) (Nat.le_of_ble_eq_true rfl) ?_
                      have hm : mm D (AZ z) (mu M mo (.inr (6, [.int 0, .ref cn, .ref ia, .ref dr, .ref en, .ref la, .ref wo, .int ni, .ref op, .ref mk, .ref ir, .int dn, .int md, .int pw, .int cm, .int wr, .ref se, .ref ec, .ref lc, .ref wc, .ref ol, .ref al, .int cs, .int hm9]))) H := hm
                      have hkp : kpx (fun a => a ∈ [mo, cn, ia, dr, en, la, wo, op, mk, ir, se, ec, lc, wc, ol, al]) M (mu M mo (.inr (6, [.int 0, .ref cn, .ref ia, .ref dr, .ref en, .ref la, .ref wo, .int ni, .ref op, .ref mk, .ref ir, .int dn, .int md, .int pw, .int cm, .int wr, .ref se, .ref ec, .ref lc, .ref wc, .ref ol, .ref al, .int cs, .int hm9]))) := (hkp).self (by simp)
                      refine lv_if_eq (tgt := 56) hx hb dX6_move_51 (by decide) (fun c11 => ?_) (fun c11 => ?_)
                      · refine lv_aload_n hx hb dX6_move_56 rfl (lv_at hl 0 rfl) ?_
                        refine lv_iload_n hx hb dX6_move_57 rfl (lv_at hl 1 rfl) ?_
                        refine lv_iload_n hx hb dX6_move_58 rfl (lv_at hl 2 rfl) ?_
                        have hI0 : mI k (mu M mo (.inr (6, [.int 0, .ref cn, .ref ia, .ref dr, .ref en, .ref la, .ref wo, .int ni, .ref op, .ref mk, .ref ir, .int dn, .int md, .int pw, .int cm, .int wr, .ref se, .ref ec, .ref lc, .ref wc, .ref ol, .ref al, .int cs, .int hm9]))) mo cn ia dr en la wo op mk ir se ec lc wc ol al dn md := ⟨_, _, _, _, _, _, _, fcn, fia, fdr, fen, fla, fwo, fop, fmk, fir, fse, fec, flc, fol, fal, fwc, hap, (mu_self _ _ _), hmd, ⟨hrC, hrL, hrM⟩, ((mu_ne ne_cn_mo).trans hcn), ((mu_ne ne_ia_mo).trans hia), ((mu_ne ne_dr_mo).trans hdr), ((mu_ne ne_en_mo).trans hen), ((mu_ne ne_la_mo).trans hla), ((mu_ne ne_wo_mo).trans hwo), ((mu_ne ne_op_mo).trans hop), ((mu_ne ne_mk_mo).trans hmk), ((mu_ne ne_ir_mo).trans hir), ((mu_ne ne_se_mo).trans hse), ((mu_ne ne_ec_mo).trans hec), ((mu_ne ne_lc_mo).trans hlc), ((mu_ne ne_wc_mo).trans hwc), ((mu_ne ne_ol_mo).trans hol), ((mu_ne ne_al_mo).trans hal)⟩
                        obtain ⟨uR, huR, euR⟩ := hrC (2 + 5 * t9)
                        have huR6 : uR ≤ 60 := Nat.le_trans huR (bC_60 (by omega))
                        refine m_kV (As := [.int (nI t9), .int pa]) (rest := []) (rm := { frames := 3, cells := 0, slots := 0, locals := 72 }) ⟨hx, hb, hml, hown, hts⟩ (y_X6_lookUp l D k z _ mo cn ia dr en la wo op mk ir se ec lc wc ol al dn md t9 (by omega) pa fcn fia fen uR ⟨((mu_ne ne_cn_mo).trans hcn), ((mu_ne ne_ia_mo).trans hia), ((mu_ne ne_en_mo).trans hen), euR, huR6⟩ hI0) (cwV 2 hts gX6_move_X6_lookUp rfl rfl rfl (by decide +kernel) ⟨Nat.le_of_ble_eq_true rfl, Nat.le_of_ble_eq_true rfl⟩) (m_recv hK hm (q := (RX6, TX6, 24)) rfl (mu_self _ _ _)) hz hcx hm hS rfl hl.1 rfl (Nat.le_of_ble_eq_true rfl) dX6_move_59 ⟨Nat.le_of_ble_eq_true rfl, Nat.le_of_ble_eq_true rfl⟩ (fun v M1 H locs hv hm hS => ?_)
                        obtain ⟨hv1, hI9, hk9⟩ := hv
                        obtain ⟨_, _, _, _, _, _, _, _, _, _, _, _, _, _, _, fir_1, _, _, _, _, _, _, -, -, hmd_1, ⟨-, -, -⟩, -, -, -, -, -, -, -, -, hir_1, -, -, -, -, -, -⟩ := id hI9
                        have kmo_1 := hk9 _ _ (by simp only [List.mem_cons, List.not_mem_nil, or_false, not_or]; exact ne_mo_ir) (mu_self _ _ _)
                        have kcn_1 := hk9 _ _ (by simp only [List.mem_cons, List.not_mem_nil, or_false, not_or]; exact ne_cn_ir) ((mu_ne ne_cn_mo).trans hcn)
                        have kia_1 := hk9 _ _ (by simp only [List.mem_cons, List.not_mem_nil, or_false, not_or]; exact ne_ia_ir) ((mu_ne ne_ia_mo).trans hia)
                        have kdr_1 := hk9 _ _ (by simp only [List.mem_cons, List.not_mem_nil, or_false, not_or]; exact ne_dr_ir) ((mu_ne ne_dr_mo).trans hdr)
                        have ken_1 := hk9 _ _ (by simp only [List.mem_cons, List.not_mem_nil, or_false, not_or]; exact ne_en_ir) ((mu_ne ne_en_mo).trans hen)
                        have kla_1 := hk9 _ _ (by simp only [List.mem_cons, List.not_mem_nil, or_false, not_or]; exact ne_la_ir) ((mu_ne ne_la_mo).trans hla)
                        have kwo_1 := hk9 _ _ (by simp only [List.mem_cons, List.not_mem_nil, or_false, not_or]; exact ne_wo_ir) ((mu_ne ne_wo_mo).trans hwo)
                        have kop_1 := hk9 _ _ (by simp only [List.mem_cons, List.not_mem_nil, or_false, not_or]; exact ne_op_ir) ((mu_ne ne_op_mo).trans hop)
                        have kmk_1 := hk9 _ _ (by simp only [List.mem_cons, List.not_mem_nil, or_false, not_or]; exact ne_mk_ir) ((mu_ne ne_mk_mo).trans hmk)
                        have kse_1 := hk9 _ _ (by simp only [List.mem_cons, List.not_mem_nil, or_false, not_or]; exact ne_se_ir) ((mu_ne ne_se_mo).trans hse)
                        have kec_1 := hk9 _ _ (by simp only [List.mem_cons, List.not_mem_nil, or_false, not_or]; exact ne_ec_ir) ((mu_ne ne_ec_mo).trans hec)
                        have klc_1 := hk9 _ _ (by simp only [List.mem_cons, List.not_mem_nil, or_false, not_or]; exact ne_lc_ir) ((mu_ne ne_lc_mo).trans hlc)
                        have kwc_1 := hk9 _ _ (by simp only [List.mem_cons, List.not_mem_nil, or_false, not_or]; exact ne_wc_ir) ((mu_ne ne_wc_mo).trans hwc)
                        have kol_1 := hk9 _ _ (by simp only [List.mem_cons, List.not_mem_nil, or_false, not_or]; exact ne_ol_ir) ((mu_ne ne_ol_mo).trans hol)
                        have kal_1 := hk9 _ _ (by simp only [List.mem_cons, List.not_mem_nil, or_false, not_or]; exact ne_al_ir) ((mu_ne ne_al_mo).trans hal)
                        have hkp := hkp.trans (hk9.mono (fun a ha => by simp only [List.mem_cons, List.not_mem_nil, or_false] at ha ⊢; subst ha; simp))
                        obtain ⟨Mc1, hMx⟩ : ∃ x : mM, x = M1 := ⟨M1, rfl⟩
                        subst hMx
                        obtain ⟨fR, hv1, hfR⟩ := hv1
                        subst hv1
                        rcases hfR with hfR | ⟨cR, hcR, hfR⟩
                        · subst hfR
                          refine W.eq (g2 := F0 m 62 ls [.int (-1)]) rfl ?_
                          refine W.widen (k := 0) (n := 0) (Nat.le_of_ble_eq_true rfl) (Nat.le_of_ble_eq_true rfl) ?_
                          have hm : mm D (AZ z) Mc1 H := hm
                          refine lv_istore (lv' := [(4, .int (-1)), (0, .ref mo), (1, .int (nI t9)), (2, .int pa), (3, .int pb)]) hx hb dX6_move_62 hl (by decide) rfl (fun ls hl => ?_)
                          refine lv_aload_n hx hb dX6_move_64 rfl (lv_at hl 1 rfl) ?_
                          refine lv_iload hx hb dX6_move_65 (lv_at hl 0 rfl) ?_
                          refine lv_if_ge (tgt := 74) hx hb dX6_move_67 (by decide) (fun c12 => ?_) (fun c12 => ?_)
                          · first | exact absurd c12 (by decide) | exact absurd (by decide) c12
                          · refine lv_iconst (v := 3) hx hb dX6_move_70 (by decide) ?_
                            refine lv_goto (tgt := 75) hx hb dX6_move_71 (by decide) ?_
                            refine m_kV (As := [.int 3]) (rest := []) (rm := { frames := 0, cells := 0, slots := 0, locals := 0 }) ⟨hx, hb, hml, hown, hts⟩ (s_X6_failsE l D k z _ mo cn ia dr en la wo op mk ir se ec lc wc ol al 0 ni dn md pw cm wr cs hm9 3 kmo_1) (cwV 1 hts gX6_move_X6_fails rfl rfl rfl (by decide +kernel) ⟨Nat.le_of_ble_eq_true rfl, Nat.le_of_ble_eq_true rfl⟩) (m_recv hK hm (q := (RX6, TX6, 24)) rfl kmo_1) hz hcx hm hS rfl hl.1 rfl (Nat.le_of_ble_eq_true rfl) dX6_move_75 ⟨Nat.le_of_ble_eq_true rfl, Nat.le_of_ble_eq_true rfl⟩ (fun v M1 H locs hv hm hS => ?_)
                            obtain ⟨hv1, hM1⟩ := hv
                            have hv1 : v = some (.int 1) := hv1.trans (by decide)
                            subst hv1
                            rw [hM1] at hm
                            refine W.eq (g2 := F0 m 78 ls [.int 1]) rfl ?_
                            refine W.widen (k := 0) (n := 0) (Nat.le_of_ble_eq_true rfl) (Nat.le_of_ble_eq_true rfl) ?_
                            have hm : mm D (AZ z) (mu Mc1 mo (.inr (6, [.int 3, .ref cn, .ref ia, .ref dr, .ref en, .ref la, .ref wo, .int ni, .ref op, .ref mk, .ref ir, .int dn, .int md, .int pw, .int cm, .int wr, .ref se, .ref ec, .ref lc, .ref wc, .ref ol, .ref al, .int cs, .int hm9]))) H := hm
                            have hkp : kpx (fun a => a ∈ [mo, cn, ia, dr, en, la, wo, op, mk, ir, se, ec, lc, wc, ol, al]) M (mu Mc1 mo (.inr (6, [.int 3, .ref cn, .ref ia, .ref dr, .ref en, .ref la, .ref wo, .int ni, .ref op, .ref mk, .ref ir, .int dn, .int md, .int pw, .int cm, .int wr, .ref se, .ref ec, .ref lc, .ref wc, .ref ol, .ref al, .int cs, .int hm9]))) := (hkp).self (by simp)
                            refine lv_if_eq (tgt := 83) hx hb dX6_move_78 (by decide) (fun c13 => ?_) (fun c13 => ?_)
                            · first | exact absurd c13 (by decide) | exact absurd (by decide) c13
                            · refine lv_iconst (v := 0) hx hb dX6_move_81 (by decide) ?_
                              refine W.zret hx hb hr rfl (fun t ht hW => ⟨⟨some (.int 0), _, rfl, ?_, by rw [ht]; exact hm⟩, hS.F ht⟩) hS.2.2 dX6_move_82
                              exact ⟨⟨_, rfl⟩, ⟨_, _, _, _, _, _, _, fcn, fia, fdr, fen, fla, fwo, fop, fmk, fir_1, fse, fec, flc, fol, fal, fwc, hap, (mu_self _ _ _), hmd, ⟨hrC, hrL, hrM⟩, ((mu_ne ne_cn_mo).trans kcn_1), ((mu_ne ne_ia_mo).trans kia_1), ((mu_ne ne_dr_mo).trans kdr_1), ((mu_ne ne_en_mo).trans ken_1), ((mu_ne ne_la_mo).trans kla_1), ((mu_ne ne_wo_mo).trans kwo_1), ((mu_ne ne_op_mo).trans kop_1), ((mu_ne ne_mk_mo).trans kmk_1), ((mu_ne ne_ir_mo).trans hir_1), ((mu_ne ne_se_mo).trans kse_1), ((mu_ne ne_ec_mo).trans kec_1), ((mu_ne ne_lc_mo).trans klc_1), ((mu_ne ne_wc_mo).trans kwc_1), ((mu_ne ne_ol_mo).trans kol_1), ((mu_ne ne_al_mo).trans kal_1)⟩, hkp⟩
                        · obtain ⟨nbR, hnbR⟩ : ∃ x, x = cR 0 := ⟨_, rfl⟩
                          have hbR := hcR.bnd 0 (Nat.le_refl _) (by omega)
                          rw [← hnbR] at hfR hbR
                          subst hfR
                          refine W.eq (g2 := F0 m 62 ls [.int (nI nbR)]) rfl ?_
                          refine W.widen (k := 0) (n := 0) (Nat.le_of_ble_eq_true rfl) (Nat.le_of_ble_eq_true rfl) ?_
                          have hm : mm D (AZ z) Mc1 H := hm
                          refine lv_istore (lv' := [(4, .int (nI nbR)), (0, .ref mo), (1, .int (nI t9)), (2, .int pa), (3, .int pb)]) hx hb dX6_move_62 hl (by decide) rfl (fun ls hl => ?_)
                          refine lv_aload_n hx hb dX6_move_64 rfl (lv_at hl 1 rfl) ?_
                          refine lv_iload hx hb dX6_move_65 (lv_at hl 0 rfl) ?_
                          refine lv_if_ge (tgt := 74) hx hb dX6_move_67 (by decide) (fun c14 => ?_) (fun c14 => ?_)
                          · have hqc14 : 0 ≤ nbR := nb_le (a := 0) (b := nbR) (by omega) (by omega) c14
                            refine lv_iconst (v := 0) hx hb dX6_move_74 (by decide) ?_
                            refine m_kV (As := [.int 0]) (rest := []) (rm := { frames := 0, cells := 0, slots := 0, locals := 0 }) ⟨hx, hb, hml, hown, hts⟩ (s_X6_failsE l D k z _ mo cn ia dr en la wo op mk ir se ec lc wc ol al 0 ni dn md pw cm wr cs hm9 0 kmo_1) (cwV 1 hts gX6_move_X6_fails rfl rfl rfl (by decide +kernel) ⟨Nat.le_of_ble_eq_true rfl, Nat.le_of_ble_eq_true rfl⟩) (m_recv hK hm (q := (RX6, TX6, 24)) rfl kmo_1) hz hcx hm hS rfl hl.1 rfl (Nat.le_of_ble_eq_true rfl) dX6_move_75 ⟨Nat.le_of_ble_eq_true rfl, Nat.le_of_ble_eq_true rfl⟩ (fun v M1 H locs hv hm hS => ?_)
                            obtain ⟨hv1, hM1⟩ := hv
                            have hv1 : v = some (.int 0) := hv1.trans (by decide)
                            subst hv1
                            rw [hM1] at hm
                            refine W.eq (g2 := F0 m 78 ls [.int 0]) rfl ?_
                            refine W.widen (k := 0) (n := 0) (Nat.le_of_ble_eq_true rfl) (Nat.le_of_ble_eq_true rfl) ?_
                            have hm : mm D (AZ z) (mu Mc1 mo (.inr (6, [.int 0, .ref cn, .ref ia, .ref dr, .ref en, .ref la, .ref wo, .int ni, .ref op, .ref mk, .ref ir, .int dn, .int md, .int pw, .int cm, .int wr, .ref se, .ref ec, .ref lc, .ref wc, .ref ol, .ref al, .int cs, .int hm9]))) H := hm
                            have hkp : kpx (fun a => a ∈ [mo, cn, ia, dr, en, la, wo, op, mk, ir, se, ec, lc, wc, ol, al]) M (mu Mc1 mo (.inr (6, [.int 0, .ref cn, .ref ia, .ref dr, .ref en, .ref la, .ref wo, .int ni, .ref op, .ref mk, .ref ir, .int dn, .int md, .int pw, .int cm, .int wr, .ref se, .ref ec, .ref lc, .ref wc, .ref ol, .ref al, .int cs, .int hm9]))) := (hkp).self (by simp)
                            refine lv_if_eq (tgt := 83) hx hb dX6_move_78 (by decide) (fun c15 => ?_) (fun c15 => ?_)
                            · refine lv_aload_n hx hb dX6_move_83 rfl (lv_at hl 1 rfl) ?_
                              refine lv_iload_n hx hb dX6_move_84 rfl (lv_at hl 2 rfl) ?_
                              refine lv_iload_n hx hb dX6_move_85 rfl (lv_at hl 4 rfl) ?_
                              have hI0 : mI k (mu Mc1 mo (.inr (6, [.int 0, .ref cn, .ref ia, .ref dr, .ref en, .ref la, .ref wo, .int ni, .ref op, .ref mk, .ref ir, .int dn, .int md, .int pw, .int cm, .int wr, .ref se, .ref ec, .ref lc, .ref wc, .ref ol, .ref al, .int cs, .int hm9]))) mo cn ia dr en la wo op mk ir se ec lc wc ol al dn md := ⟨_, _, _, _, _, _, _, fcn, fia, fdr, fen, fla, fwo, fop, fmk, fir_1, fse, fec, flc, fol, fal, fwc, hap, (mu_self _ _ _), hmd, ⟨hrC, hrL, hrM⟩, ((mu_ne ne_cn_mo).trans kcn_1), ((mu_ne ne_ia_mo).trans kia_1), ((mu_ne ne_dr_mo).trans kdr_1), ((mu_ne ne_en_mo).trans ken_1), ((mu_ne ne_la_mo).trans kla_1), ((mu_ne ne_wo_mo).trans kwo_1), ((mu_ne ne_op_mo).trans kop_1), ((mu_ne ne_mk_mo).trans kmk_1), ((mu_ne ne_ir_mo).trans hir_1), ((mu_ne ne_se_mo).trans kse_1), ((mu_ne ne_ec_mo).trans kec_1), ((mu_ne ne_lc_mo).trans klc_1), ((mu_ne ne_wc_mo).trans kwc_1), ((mu_ne ne_ol_mo).trans kol_1), ((mu_ne ne_al_mo).trans kal_1)⟩
                              refine m_kV (As := [.int (nI t9), .int pb]) (rest := []) (rm := { frames := 4, cells := 0, slots := 0, locals := 97 }) ⟨hx, hb, hml, hown, hts⟩ (x_X6_parentOf l D k z _ mo cn ia dr en la wo op mk ir se ec lc wc ol al dn md t9 (by omega) pb hI0) (cwV 2 hts gX6_move_X6_parentOf rfl rfl rfl (by decide +kernel) ⟨Nat.le_of_ble_eq_true rfl, Nat.le_of_ble_eq_true rfl⟩) (m_recv hK hm (q := (RX6, TX6, 24)) rfl (mu_self _ _ _)) hz hcx hm hS rfl hl.1 rfl (Nat.le_of_ble_eq_true rfl) dX6_move_86 ⟨Nat.le_of_ble_eq_true rfl, Nat.le_of_ble_eq_true rfl⟩ (fun v M1 H locs hv hm hS => ?_)
                              obtain ⟨hv1, hI9, hk9⟩ := hv
                              obtain ⟨_, _, _, _, _, _, _, _, _, _, _, _, _, _, _, fir_2, _, _, _, _, _, _, -, -, hmd_2, ⟨-, -, -⟩, -, -, -, -, -, -, -, -, hir_2, -, -, -, -, -, -⟩ := id hI9
                              have kmo_2 := hk9 _ _ (by simp only [List.mem_cons, List.not_mem_nil, or_false, not_or]; exact ne_mo_ir) (mu_self _ _ _)
                              have kcn_2 := hk9 _ _ (by simp only [List.mem_cons, List.not_mem_nil, or_false, not_or]; exact ne_cn_ir) ((mu_ne ne_cn_mo).trans kcn_1)
                              have kia_2 := hk9 _ _ (by simp only [List.mem_cons, List.not_mem_nil, or_false, not_or]; exact ne_ia_ir) ((mu_ne ne_ia_mo).trans kia_1)
                              have kdr_2 := hk9 _ _ (by simp only [List.mem_cons, List.not_mem_nil, or_false, not_or]; exact ne_dr_ir) ((mu_ne ne_dr_mo).trans kdr_1)
                              have ken_2 := hk9 _ _ (by simp only [List.mem_cons, List.not_mem_nil, or_false, not_or]; exact ne_en_ir) ((mu_ne ne_en_mo).trans ken_1)
                              have kla_2 := hk9 _ _ (by simp only [List.mem_cons, List.not_mem_nil, or_false, not_or]; exact ne_la_ir) ((mu_ne ne_la_mo).trans kla_1)
                              have kwo_2 := hk9 _ _ (by simp only [List.mem_cons, List.not_mem_nil, or_false, not_or]; exact ne_wo_ir) ((mu_ne ne_wo_mo).trans kwo_1)
                              have kop_2 := hk9 _ _ (by simp only [List.mem_cons, List.not_mem_nil, or_false, not_or]; exact ne_op_ir) ((mu_ne ne_op_mo).trans kop_1)
                              have kmk_2 := hk9 _ _ (by simp only [List.mem_cons, List.not_mem_nil, or_false, not_or]; exact ne_mk_ir) ((mu_ne ne_mk_mo).trans kmk_1)
                              have kse_2 := hk9 _ _ (by simp only [List.mem_cons, List.not_mem_nil, or_false, not_or]; exact ne_se_ir) ((mu_ne ne_se_mo).trans kse_1)
                              have kec_2 := hk9 _ _ (by simp only [List.mem_cons, List.not_mem_nil, or_false, not_or]; exact ne_ec_ir) ((mu_ne ne_ec_mo).trans kec_1)
                              have klc_2 := hk9 _ _ (by simp only [List.mem_cons, List.not_mem_nil, or_false, not_or]; exact ne_lc_ir) ((mu_ne ne_lc_mo).trans klc_1)
                              have kwc_2 := hk9 _ _ (by simp only [List.mem_cons, List.not_mem_nil, or_false, not_or]; exact ne_wc_ir) ((mu_ne ne_wc_mo).trans kwc_1)
                              have kol_2 := hk9 _ _ (by simp only [List.mem_cons, List.not_mem_nil, or_false, not_or]; exact ne_ol_ir) ((mu_ne ne_ol_mo).trans kol_1)
                              have kal_2 := hk9 _ _ (by simp only [List.mem_cons, List.not_mem_nil, or_false, not_or]; exact ne_al_ir) ((mu_ne ne_al_mo).trans kal_1)
                              have hkp := hkp.trans (hk9.mono (fun a ha => by simp only [List.mem_cons, List.not_mem_nil, or_false] at ha ⊢; subst ha; simp))
                              obtain ⟨Mc2, hMx⟩ : ∃ x : mM, x = M1 := ⟨M1, rfl⟩
                              subst hMx
                              obtain ⟨f103, hv1, hf103⟩ := hv1
                              subst hv1
                              rcases hf103 with hf103 | ⟨nb103, hb103a, hb103b, hf103⟩
                              · subst hf103
                                refine W.eq (g2 := F0 m 89 ls [.int (-1)]) rfl ?_
                                refine W.widen (k := 0) (n := 0) (Nat.le_of_ble_eq_true rfl) (Nat.le_of_ble_eq_true rfl) ?_
                                have hm : mm D (AZ z) Mc2 H := hm
                                refine lv_istore (lv' := [(5, .int (-1)), (4, .int (nI nbR)), (0, .ref mo), (1, .int (nI t9)), (2, .int pa), (3, .int pb)]) hx hb dX6_move_89 hl (by decide) rfl (fun ls hl => ?_)
                                refine lv_aload_n hx hb dX6_move_91 rfl (lv_at hl 2 rfl) ?_
                                refine lv_iload hx hb dX6_move_92 (lv_at hl 0 rfl) ?_
                                refine lv_if_ge (tgt := 101) hx hb dX6_move_94 (by decide) (fun c16 => ?_) (fun c16 => ?_)
                                · first | exact absurd c16 (by decide) | exact absurd (by decide) c16
                                · refine lv_iconst (v := 3) hx hb dX6_move_97 (by decide) ?_
                                  refine lv_goto (tgt := 116) hx hb dX6_move_98 (by decide) ?_
                                  refine m_kV (As := [.int 3]) (rest := []) (rm := { frames := 0, cells := 0, slots := 0, locals := 0 }) ⟨hx, hb, hml, hown, hts⟩ (s_X6_failsE l D k z _ mo cn ia dr en la wo op mk ir se ec lc wc ol al 0 ni dn md pw cm wr cs hm9 3 kmo_2) (cwV 1 hts gX6_move_X6_fails rfl rfl rfl (by decide +kernel) ⟨Nat.le_of_ble_eq_true rfl, Nat.le_of_ble_eq_true rfl⟩) (m_recv hK hm (q := (RX6, TX6, 24)) rfl kmo_2) hz hcx hm hS rfl hl.1 rfl (Nat.le_of_ble_eq_true rfl) dX6_move_116 ⟨Nat.le_of_ble_eq_true rfl, Nat.le_of_ble_eq_true rfl⟩ (fun v M1 H locs hv hm hS => ?_)
                                  obtain ⟨hv1, hM1⟩ := hv
                                  have hv1 : v = some (.int 1) := hv1.trans (by decide)
                                  subst hv1
                                  rw [hM1] at hm
                                  refine W.eq (g2 := F0 m 119 ls [.int 1]) rfl ?_
                                  refine W.widen (k := 0) (n := 0) (Nat.le_of_ble_eq_true rfl) (Nat.le_of_ble_eq_true rfl) ?_
                                  have hm : mm D (AZ z) (mu Mc2 mo (.inr (6, [.int 3, .ref cn, .ref ia, .ref dr, .ref en, .ref la, .ref wo, .int ni, .ref op, .ref mk, .ref ir, .int dn, .int md, .int pw, .int cm, .int wr, .ref se, .ref ec, .ref lc, .ref wc, .ref ol, .ref al, .int cs, .int hm9]))) H := hm
                                  have hkp : kpx (fun a => a ∈ [mo, cn, ia, dr, en, la, wo, op, mk, ir, se, ec, lc, wc, ol, al]) M (mu Mc2 mo (.inr (6, [.int 3, .ref cn, .ref ia, .ref dr, .ref en, .ref la, .ref wo, .int ni, .ref op, .ref mk, .ref ir, .int dn, .int md, .int pw, .int cm, .int wr, .ref se, .ref ec, .ref lc, .ref wc, .ref ol, .ref al, .int cs, .int hm9]))) := (hkp).self (by simp)
                                  refine lv_if_eq (tgt := 124) hx hb dX6_move_119 (by decide) (fun c17 => ?_) (fun c17 => ?_)
                                  · first | exact absurd c17 (by decide) | exact absurd (by decide) c17
                                  · refine lv_iconst (v := 0) hx hb dX6_move_122 (by decide) ?_
                                    refine W.zret hx hb hr rfl (fun t ht hW => ⟨⟨some (.int 0), _, rfl, ?_, by rw [ht]; exact hm⟩, hS.F ht⟩) hS.2.2 dX6_move_123
                                    exact ⟨⟨_, rfl⟩, ⟨_, _, _, _, _, _, _, fcn, fia, fdr, fen, fla, fwo, fop, fmk, fir_2, fse, fec, flc, fol, fal, fwc, hap, (mu_self _ _ _), hmd, ⟨hrC, hrL, hrM⟩, ((mu_ne ne_cn_mo).trans kcn_2), ((mu_ne ne_ia_mo).trans kia_2), ((mu_ne ne_dr_mo).trans kdr_2), ((mu_ne ne_en_mo).trans ken_2), ((mu_ne ne_la_mo).trans kla_2), ((mu_ne ne_wo_mo).trans kwo_2), ((mu_ne ne_op_mo).trans kop_2), ((mu_ne ne_mk_mo).trans kmk_2), ((mu_ne ne_ir_mo).trans hir_2), ((mu_ne ne_se_mo).trans kse_2), ((mu_ne ne_ec_mo).trans kec_2), ((mu_ne ne_lc_mo).trans klc_2), ((mu_ne ne_wc_mo).trans kwc_2), ((mu_ne ne_ol_mo).trans kol_2), ((mu_ne ne_al_mo).trans kal_2)⟩, hkp⟩
                              · subst hf103
                                refine W.eq (g2 := F0 m 89 ls [.int (nI nb103)]) rfl ?_
                                refine W.widen (k := 0) (n := 0) (Nat.le_of_ble_eq_true rfl) (Nat.le_of_ble_eq_true rfl) ?_
                                have hm : mm D (AZ z) Mc2 H := hm
                                refine lv_istore (lv' := [(5, .int (nI nb103)), (4, .int (nI nbR)), (0, .ref mo), (1, .int (nI t9)), (2, .int pa), (3, .int pb)]) hx hb dX6_move_89 hl (by decide) rfl (fun ls hl => ?_)
                                refine lv_aload_n hx hb dX6_move_91 rfl (lv_at hl 2 rfl) ?_
                                refine lv_iload hx hb dX6_move_92 (lv_at hl 0 rfl) ?_
                                refine lv_if_ge (tgt := 101) hx hb dX6_move_94 (by decide) (fun c18 => ?_) (fun c18 => ?_)
                                · have hqc18 : 0 ≤ nb103 := nb_le (a := 0) (b := nb103) (by omega) (by omega) c18
                                  refine lv_aload_n hx hb dX6_move_101 rfl (lv_at hl 2 rfl) ?_
                                  refine m_get (T := TX6) (N := 24) (ci := 6) (v := .ref dr) hx hb hts wX6 hown hK hm kmo_2 rfl 3 (by decide) f16 (fun _ h9 => h9) rfl dX6_move_102 ?_
                                  refine lv_iload hx hb dX6_move_105 (lv_at hl 0 rfl) ?_
                                  refine m_zald hx hb hK hm 2 kdr_2 rfl (vp_in_nI (by omega) (by decide)) dX6_move_107 ?_
                                  refine lv_if_ne (tgt := 115) hx hb dX6_move_108 (by decide) (fun c19 => ?_) (fun c19 => ?_)
                                  · refine lv_iconst (v := 0) hx hb dX6_move_115 (by decide) ?_
                                    refine m_kV (As := [.int 0]) (rest := []) (rm := { frames := 0, cells := 0, slots := 0, locals := 0 }) ⟨hx, hb, hml, hown, hts⟩ (s_X6_failsE l D k z _ mo cn ia dr en la wo op mk ir se ec lc wc ol al 0 ni dn md pw cm wr cs hm9 0 kmo_2) (cwV 1 hts gX6_move_X6_fails rfl rfl rfl (by decide +kernel) ⟨Nat.le_of_ble_eq_true rfl, Nat.le_of_ble_eq_true rfl⟩) (m_recv hK hm (q := (RX6, TX6, 24)) rfl kmo_2) hz hcx hm hS rfl hl.1 rfl (Nat.le_of_ble_eq_true rfl) dX6_move_116 ⟨Nat.le_of_ble_eq_true rfl, Nat.le_of_ble_eq_true rfl⟩ (fun v M1 H locs hv hm hS => ?_)
                                    obtain ⟨hv1, hM1⟩ := hv
                                    have hv1 : v = some (.int 0) := hv1.trans (by decide)
                                    subst hv1
                                    rw [hM1] at hm
                                    refine W.eq (g2 := F0 m 119 ls [.int 0]) rfl ?_
                                    refine W.widen (k := 0) (n := 0) (Nat.le_of_ble_eq_true rfl) (Nat.le_of_ble_eq_true rfl) ?_
                                    have hm : mm D (AZ z) (mu Mc2 mo (.inr (6, [.int 0, .ref cn, .ref ia, .ref dr, .ref en, .ref la, .ref wo, .int ni, .ref op, .ref mk, .ref ir, .int dn, .int md, .int pw, .int cm, .int wr, .ref se, .ref ec, .ref lc, .ref wc, .ref ol, .ref al, .int cs, .int hm9]))) H := hm
                                    have hkp : kpx (fun a => a ∈ [mo, cn, ia, dr, en, la, wo, op, mk, ir, se, ec, lc, wc, ol, al]) M (mu Mc2 mo (.inr (6, [.int 0, .ref cn, .ref ia, .ref dr, .ref en, .ref la, .ref wo, .int ni, .ref op, .ref mk, .ref ir, .int dn, .int md, .int pw, .int cm, .int wr, .ref se, .ref ec, .ref lc, .ref wc, .ref ol, .ref al, .int cs, .int hm9]))) := (hkp).self (by simp)
                                    refine lv_if_eq (tgt := 124) hx hb dX6_move_119 (by decide) (fun c20 => ?_) (fun c20 => ?_)
                                    · refine lv_aload_n hx hb dX6_move_124 rfl (lv_at hl 2 rfl) ?_
                                      refine lv_aload_n hx hb dX6_move_125 rfl (lv_at hl 2 rfl) ?_
                                      refine lv_iload_n hx hb dX6_move_126 rfl (lv_at hl 3 rfl) ?_
                                      refine lv_iload hx hb dX6_move_127 (lv_at hl 0 rfl) ?_
                                      refine lv_iload_n hx hb dX6_move_129 rfl (lv_at hl 5 rfl) ?_
                                      refine lv_bipush (v := 15) hx hb dX6_move_130 (by decide) ?_
                                      refine lv_iand hx hb dX6_move_132 ?_
                                      obtain ⟨d104, hd104, hde104⟩ := pk_andE pb (m := 15) 4 (by decide)
                                      have hd104p : 1 ≤ d104 := Nat.pos_of_ne_zero fun q => isP_15 hp102 c8 (by rw [hde104, q]; rfl)
                                      refine W.eq (g2 := F0 m 133 ls [.int (nI d104), .int (nI nb103), .int (nI t9), .ref mo, .ref mo]) (by rw [hde104]) ?_
                                      have hI0 : mI k (mu Mc2 mo (.inr (6, [.int 0, .ref cn, .ref ia, .ref dr, .ref en, .ref la, .ref wo, .int ni, .ref op, .ref mk, .ref ir, .int dn, .int md, .int pw, .int cm, .int wr, .ref se, .ref ec, .ref lc, .ref wc, .ref ol, .ref al, .int cs, .int hm9]))) mo cn ia dr en la wo op mk ir se ec lc wc ol al dn md := ⟨_, _, _, _, _, _, _, fcn, fia, fdr, fen, fla, fwo, fop, fmk, fir_2, fse, fec, flc, fol, fal, fwc, hap, (mu_self _ _ _), hmd, ⟨hrC, hrL, hrM⟩, ((mu_ne ne_cn_mo).trans kcn_2), ((mu_ne ne_ia_mo).trans kia_2), ((mu_ne ne_dr_mo).trans kdr_2), ((mu_ne ne_en_mo).trans ken_2), ((mu_ne ne_la_mo).trans kla_2), ((mu_ne ne_wo_mo).trans kwo_2), ((mu_ne ne_op_mo).trans kop_2), ((mu_ne ne_mk_mo).trans kmk_2), ((mu_ne ne_ir_mo).trans hir_2), ((mu_ne ne_se_mo).trans kse_2), ((mu_ne ne_ec_mo).trans kec_2), ((mu_ne ne_lc_mo).trans klc_2), ((mu_ne ne_wc_mo).trans kwc_2), ((mu_ne ne_ol_mo).trans kol_2), ((mu_ne ne_al_mo).trans kal_2)⟩
                                      refine m_kV (As := [.int (nI t9), .int (nI nb103), .int (nI d104)]) (rest := [.ref mo]) (rm := { frames := 2, cells := 0, slots := 0, locals := 48 }) ⟨hx, hb, hml, hown, hts⟩ (x_X6_enter l D k z _ mo cn ia dr en la wo op mk ir se ec lc wc ol al dn md t9 nb103 d104 (by omega) (by omega) (by omega) (by omega) hI0) (cwV 3 hts gX6_move_X6_enter rfl rfl rfl (by decide +kernel) ⟨Nat.le_of_ble_eq_true rfl, Nat.le_of_ble_eq_true rfl⟩) (m_recv hK hm (q := (RX6, TX6, 24)) rfl (mu_self _ _ _)) hz hcx hm hS rfl hl.1 rfl (Nat.le_of_ble_eq_true rfl) dX6_move_133 ⟨Nat.le_of_ble_eq_true rfl, Nat.le_of_ble_eq_true rfl⟩ (fun v M1 H locs hv hm hS => ?_)
                                      obtain ⟨hv1, hI9, hk9⟩ := hv
                                      obtain ⟨_, _, _, _, _, _, _, _, _, _, _, _, _, _, _, fir_3, _, _, _, _, _, _, -, -, hmd_3, ⟨-, -, -⟩, -, -, -, -, -, -, -, -, hir_3, -, -, -, -, -, -⟩ := id hI9
                                      have kmo_3 := hk9 _ _ (by simp only [List.mem_cons, List.not_mem_nil, or_false, not_or]; exact ne_mo_ir) (mu_self _ _ _)
                                      have kcn_3 := hk9 _ _ (by simp only [List.mem_cons, List.not_mem_nil, or_false, not_or]; exact ne_cn_ir) ((mu_ne ne_cn_mo).trans kcn_2)
                                      have kia_3 := hk9 _ _ (by simp only [List.mem_cons, List.not_mem_nil, or_false, not_or]; exact ne_ia_ir) ((mu_ne ne_ia_mo).trans kia_2)
                                      have kdr_3 := hk9 _ _ (by simp only [List.mem_cons, List.not_mem_nil, or_false, not_or]; exact ne_dr_ir) ((mu_ne ne_dr_mo).trans kdr_2)
                                      have ken_3 := hk9 _ _ (by simp only [List.mem_cons, List.not_mem_nil, or_false, not_or]; exact ne_en_ir) ((mu_ne ne_en_mo).trans ken_2)
                                      have kla_3 := hk9 _ _ (by simp only [List.mem_cons, List.not_mem_nil, or_false, not_or]; exact ne_la_ir) ((mu_ne ne_la_mo).trans kla_2)
                                      have kwo_3 := hk9 _ _ (by simp only [List.mem_cons, List.not_mem_nil, or_false, not_or]; exact ne_wo_ir) ((mu_ne ne_wo_mo).trans kwo_2)
                                      have kop_3 := hk9 _ _ (by simp only [List.mem_cons, List.not_mem_nil, or_false, not_or]; exact ne_op_ir) ((mu_ne ne_op_mo).trans kop_2)
                                      have kmk_3 := hk9 _ _ (by simp only [List.mem_cons, List.not_mem_nil, or_false, not_or]; exact ne_mk_ir) ((mu_ne ne_mk_mo).trans kmk_2)
                                      have kse_3 := hk9 _ _ (by simp only [List.mem_cons, List.not_mem_nil, or_false, not_or]; exact ne_se_ir) ((mu_ne ne_se_mo).trans kse_2)
                                      have kec_3 := hk9 _ _ (by simp only [List.mem_cons, List.not_mem_nil, or_false, not_or]; exact ne_ec_ir) ((mu_ne ne_ec_mo).trans kec_2)
                                      have klc_3 := hk9 _ _ (by simp only [List.mem_cons, List.not_mem_nil, or_false, not_or]; exact ne_lc_ir) ((mu_ne ne_lc_mo).trans klc_2)
                                      have kwc_3 := hk9 _ _ (by simp only [List.mem_cons, List.not_mem_nil, or_false, not_or]; exact ne_wc_ir) ((mu_ne ne_wc_mo).trans kwc_2)
                                      have kol_3 := hk9 _ _ (by simp only [List.mem_cons, List.not_mem_nil, or_false, not_or]; exact ne_ol_ir) ((mu_ne ne_ol_mo).trans kol_2)
                                      have kal_3 := hk9 _ _ (by simp only [List.mem_cons, List.not_mem_nil, or_false, not_or]; exact ne_al_ir) ((mu_ne ne_al_mo).trans kal_2)
                                      have hkp := hkp.trans (hk9.mono (fun a ha => by simp only [List.mem_cons, List.not_mem_nil, or_false] at ha ⊢; subst ha; simp))
                                      obtain ⟨Mc3, hMx⟩ : ∃ x : mM, x = M1 := ⟨M1, rfl⟩
                                      subst hMx
                                      obtain ⟨f105, hv1, hf105⟩ := hv1
                                      subst hv1
                                      rcases hf105 with hf105 | ⟨nb105, uc105, g105, hg105, hgu105, hgb105, hb105a, hb105b, hf105⟩
                                      · subst hf105
                                        refine W.eq (g2 := F0 m 136 ls [.int (-1), .ref mo]) rfl ?_
                                        refine W.widen (k := 0) (n := 0) (Nat.le_of_ble_eq_true rfl) (Nat.le_of_ble_eq_true rfl) ?_
                                        have hm : mm D (AZ z) Mc3 H := hm
                                        refine lv_if_lt (tgt := 143) hx hb dX6_move_136 (by decide) (fun c21 => ?_) (fun c21 => ?_)
                                        · refine lv_iconst (v := 0) hx hb dX6_move_143 (by decide) ?_
                                          refine m_kV (As := [.int 0]) (rest := []) (rm := { frames := 0, cells := 0, slots := 0, locals := 0 }) ⟨hx, hb, hml, hown, hts⟩ (s_X6_failsE l D k z _ mo cn ia dr en la wo op mk ir se ec lc wc ol al 0 ni dn md pw cm wr cs hm9 0 kmo_3) (cwV 1 hts gX6_move_X6_fails rfl rfl rfl (by decide +kernel) ⟨Nat.le_of_ble_eq_true rfl, Nat.le_of_ble_eq_true rfl⟩) (m_recv hK hm (q := (RX6, TX6, 24)) rfl kmo_3) hz hcx hm hS rfl hl.1 rfl (Nat.le_of_ble_eq_true rfl) dX6_move_144 ⟨Nat.le_of_ble_eq_true rfl, Nat.le_of_ble_eq_true rfl⟩ (fun v M1 H locs hv hm hS => ?_)
                                          obtain ⟨hv1, hM1⟩ := hv
                                          have hv1 : v = some (.int 0) := hv1.trans (by decide)
                                          subst hv1
                                          rw [hM1] at hm
                                          refine W.eq (g2 := F0 m 147 ls [.int 0]) rfl ?_
                                          refine W.widen (k := 0) (n := 0) (Nat.le_of_ble_eq_true rfl) (Nat.le_of_ble_eq_true rfl) ?_
                                          have hm : mm D (AZ z) (mu Mc3 mo (.inr (6, [.int 0, .ref cn, .ref ia, .ref dr, .ref en, .ref la, .ref wo, .int ni, .ref op, .ref mk, .ref ir, .int dn, .int md, .int pw, .int cm, .int wr, .ref se, .ref ec, .ref lc, .ref wc, .ref ol, .ref al, .int cs, .int hm9]))) H := hm
                                          have hkp : kpx (fun a => a ∈ [mo, cn, ia, dr, en, la, wo, op, mk, ir, se, ec, lc, wc, ol, al]) M (mu Mc3 mo (.inr (6, [.int 0, .ref cn, .ref ia, .ref dr, .ref en, .ref la, .ref wo, .int ni, .ref op, .ref mk, .ref ir, .int dn, .int md, .int pw, .int cm, .int wr, .ref se, .ref ec, .ref lc, .ref wc, .ref ol, .ref al, .int cs, .int hm9]))) := (hkp).self (by simp)
                                          refine lv_if_eq (tgt := 152) hx hb dX6_move_147 (by decide) (fun c22 => ?_) (fun c22 => ?_)
                                          · refine lv_aload_n hx hb dX6_move_152 rfl (lv_at hl 2 rfl) ?_
                                            refine lv_iload_n hx hb dX6_move_153 rfl (lv_at hl 3 rfl) ?_
                                            refine lv_iload_n hx hb dX6_move_154 rfl (lv_at hl 4 rfl) ?_
                                            refine lv_iconst (v := 4) hx hb dX6_move_155 (by decide) ?_
                                            refine lv_ishr hx hb dX6_move_156 ?_
                                            have hI0 : mI k (mu Mc3 mo (.inr (6, [.int 0, .ref cn, .ref ia, .ref dr, .ref en, .ref la, .ref wo, .int ni, .ref op, .ref mk, .ref ir, .int dn, .int md, .int pw, .int cm, .int wr, .ref se, .ref ec, .ref lc, .ref wc, .ref ol, .ref al, .int cs, .int hm9]))) mo cn ia dr en la wo op mk ir se ec lc wc ol al dn md := ⟨_, _, _, _, _, _, _, fcn, fia, fdr, fen, fla, fwo, fop, fmk, fir_3, fse, fec, flc, fol, fal, fwc, hap, (mu_self _ _ _), hmd, ⟨hrC, hrL, hrM⟩, ((mu_ne ne_cn_mo).trans kcn_3), ((mu_ne ne_ia_mo).trans kia_3), ((mu_ne ne_dr_mo).trans kdr_3), ((mu_ne ne_en_mo).trans ken_3), ((mu_ne ne_la_mo).trans kla_3), ((mu_ne ne_wo_mo).trans kwo_3), ((mu_ne ne_op_mo).trans kop_3), ((mu_ne ne_mk_mo).trans kmk_3), ((mu_ne ne_ir_mo).trans hir_3), ((mu_ne ne_se_mo).trans kse_3), ((mu_ne ne_ec_mo).trans kec_3), ((mu_ne ne_lc_mo).trans klc_3), ((mu_ne ne_wc_mo).trans kwc_3), ((mu_ne ne_ol_mo).trans kol_3), ((mu_ne ne_al_mo).trans kal_3)⟩
                                            have hb1R := hcR.bnd 1 (by omega) (by omega)
                                            refine m_kV (As := [.int (nI t9), .int (pa >>> (4 &&& 31))]) (rest := []) (rm := { frames := 1, cells := 0, slots := 0, locals := 24 }) ⟨hx, hb, hml, hown, hts⟩ (y_X6_lookUpSilently l D k z _ mo cn ia dr en la wo op mk ir se ec lc wc ol al dn md t9 (by omega) pa hp101 fcn fia fen uR ⟨((mu_ne ne_cn_mo).trans kcn_3), ((mu_ne ne_ia_mo).trans kia_3), ((mu_ne ne_en_mo).trans ken_3), euR, huR6⟩ cR hcR hI0) (cwV 2 hts gX6_move_X6_lookUpSilently rfl rfl rfl (by decide +kernel) ⟨Nat.le_of_ble_eq_true rfl, Nat.le_of_ble_eq_true rfl⟩) (m_recv hK hm (q := (RX6, TX6, 24)) rfl (mu_self _ _ _)) hz hcx hm hS rfl hl.1 rfl (Nat.le_of_ble_eq_true rfl) dX6_move_157 ⟨Nat.le_of_ble_eq_true rfl, Nat.le_of_ble_eq_true rfl⟩ (fun v M1 H locs hv hm hS => ?_)
                                            obtain ⟨hv1, hM1⟩ := hv
                                            rw [hM1] at hm
                                            subst hv1
                                            refine W.eq (g2 := F0 m 160 ls [.int (nI (cR 1))]) rfl ?_
                                            refine W.widen (k := 0) (n := 0) (Nat.le_of_ble_eq_true rfl) (Nat.le_of_ble_eq_true rfl) ?_
                                            have hm : mm D (AZ z) (mu Mc3 mo (.inr (6, [.int 0, .ref cn, .ref ia, .ref dr, .ref en, .ref la, .ref wo, .int ni, .ref op, .ref mk, .ref ir, .int dn, .int md, .int pw, .int cm, .int wr, .ref se, .ref ec, .ref lc, .ref wc, .ref ol, .ref al, .int cs, .int hm9]))) H := hm
                                            refine lv_istore (lv' := [(6, .int (nI (cR 1))), (5, .int (nI nb103)), (4, .int (nI nbR)), (0, .ref mo), (1, .int (nI t9)), (2, .int pa), (3, .int pb)]) hx hb dX6_move_160 hl (by decide) rfl (fun ls hl => ?_)
                                            refine lv_aload_n hx hb dX6_move_162 rfl (lv_at hl 3 rfl) ?_
                                            refine m_get (T := TX6) (N := 24) (ci := 6) (v := .ref en) hx hb hts wX6 hown hK hm (mu_self _ _ _) rfl 4 (by decide) f21 (fun _ h9 => h9) rfl dX6_move_163 ?_
                                            refine lv_bipush (v := 16) hx hb dX6_move_166 (by decide) ?_
                                            refine lv_iload hx hb dX6_move_168 (lv_at hl 0 rfl) ?_
                                            refine lv_imul hx hb dX6_move_170 ?_
                                            refine W.eq (g2 := F0 m 171 ls [.int (nI (16 * (cR 1))), .ref en]) (by rw [show ((16) * ((nI (cR 1))) : Int32) = nI (16 * (cR 1)) from pk_mul 16 (cR 1)]) ?_
                                            refine lv_iload_n hx hb dX6_move_171 rfl (lv_at hl 5 rfl) ?_
                                            refine lv_bipush (v := 15) hx hb dX6_move_172 (by decide) ?_
                                            refine lv_iand hx hb dX6_move_174 ?_
                                            obtain ⟨d106, hd106, hde106⟩ := pk_andE pa (m := 15) 4 (by decide)
                                            refine W.eq (g2 := F0 m 175 ls [.int (nI d106), .int (nI (16 * (cR 1))), .ref en]) (by rw [hde106]) ?_
                                            refine lv_iadd hx hb dX6_move_175 ?_
                                            refine W.eq (g2 := F0 m 176 ls [.int (nI ((16 * (cR 1)) + d106)), .ref en]) (by rw [show (((nI (16 * (cR 1)))) + ((nI d106)) : Int32) = nI ((16 * (cR 1)) + d106) from nI_add (16 * (cR 1)) d106]) ?_
                                            refine lv_iconst (v := 0) hx hb dX6_move_176 (by decide) ?_
                                            refine m_iast hx hb hK hm hS 0 ((mu_ne ne_en_mo).trans ken_3) rfl (vp_in_nI (by omega) (by decide)) dX6_move_177 (fun H locs hm hS => ?_)
                                            have hm : mm D (AZ z) (mu (mu Mc3 mo (.inr (6, [.int 0, .ref cn, .ref ia, .ref dr, .ref en, .ref la, .ref wo, .int ni, .ref op, .ref mk, .ref ir, .int dn, .int md, .int pw, .int cm, .int wr, .ref se, .ref ec, .ref lc, .ref wc, .ref ol, .ref al, .int cs, .int hm9]))) en (.inl (k 0, 51200, .inl (upd fen ((nI ((16 * (cR 1)) + d106))).toNatClampNeg 0)))) H := hm
                                            have hkp : kpx (fun a => a ∈ [mo, cn, ia, dr, en, la, wo, op, mk, ir, se, ec, lc, wc, ol, al]) M (mu (mu Mc3 mo (.inr (6, [.int 0, .ref cn, .ref ia, .ref dr, .ref en, .ref la, .ref wo, .int ni, .ref op, .ref mk, .ref ir, .int dn, .int md, .int pw, .int cm, .int wr, .ref se, .ref ec, .ref lc, .ref wc, .ref ol, .ref al, .int cs, .int hm9]))) en (.inl (k 0, 51200, .inl (upd fen ((nI ((16 * (cR 1)) + d106))).toNatClampNeg 0)))) := (hkp).self (by simp)
                                            refine lv_aload_n hx hb dX6_move_178 rfl (lv_at hl 3 rfl) ?_
                                            refine m_get (T := TX6) (N := 24) (ci := 6) (v := .ref en) hx hb hts wX6 hown hK hm ((mu_ne ne_mo_en).trans (mu_self _ _ _)) rfl 4 (by decide) f21 (fun _ h9 => h9) rfl dX6_move_179 ?_
                                            refine lv_bipush (v := 16) hx hb dX6_move_182 (by decide) ?_
                                            refine lv_iload hx hb dX6_move_184 (lv_at hl 1 rfl) ?_
                                            refine lv_imul hx hb dX6_move_186 ?_
                                            refine W.eq (g2 := F0 m 187 ls [.int (nI (16 * nb103)), .ref en]) (by rw [show ((16) * ((nI nb103)) : Int32) = nI (16 * nb103) from pk_mul 16 nb103]) ?_
                                            refine lv_iload_n hx hb dX6_move_187 rfl (lv_at hl 6 rfl) ?_
                                            refine lv_bipush (v := 15) hx hb dX6_move_188 (by decide) ?_
                                            refine lv_iand hx hb dX6_move_190 ?_
                                            obtain ⟨d107, hd107, hde107⟩ := pk_andE pb (m := 15) 4 (by decide)
                                            refine W.eq (g2 := F0 m 191 ls [.int (nI d107), .int (nI (16 * nb103)), .ref en]) (by rw [hde107]) ?_
                                            refine lv_iadd hx hb dX6_move_191 ?_
                                            refine W.eq (g2 := F0 m 192 ls [.int (nI ((16 * nb103) + d107)), .ref en]) (by rw [show (((nI (16 * nb103))) + ((nI d107)) : Int32) = nI ((16 * nb103) + d107) from nI_add (16 * nb103) d107]) ?_
                                            refine lv_aload_n hx hb dX6_move_192 rfl (lv_at hl 3 rfl) ?_
                                            refine m_get (T := TX6) (N := 24) (ci := 6) (v := .ref ia) hx hb hts wX6 hown hK hm ((mu_ne ne_mo_en).trans (mu_self _ _ _)) rfl 2 (by decide) f13 (fun _ h9 => h9) rfl dX6_move_193 ?_
                                            refine lv_iload hx hb dX6_move_196 (lv_at hl 2 rfl) ?_
                                            refine m_iald hx hb hK hm 0 ((mu_ne ne_ia_en).trans ((mu_ne ne_ia_mo).trans kia_3)) rfl (vp_in_nI (by omega) (by decide)) dX6_move_198 ?_
                                            refine m_iast hx hb hK hm hS 0 (mu_self _ _ _) rfl (vp_in_nI (by omega) (by decide)) dX6_move_199 (fun H locs hm hS => ?_)
                                            have hm : mm D (AZ z) (mu (mu (mu Mc3 mo (.inr (6, [.int 0, .ref cn, .ref ia, .ref dr, .ref en, .ref la, .ref wo, .int ni, .ref op, .ref mk, .ref ir, .int dn, .int md, .int pw, .int cm, .int wr, .ref se, .ref ec, .ref lc, .ref wc, .ref ol, .ref al, .int cs, .int hm9]))) en (.inl (k 0, 51200, .inl (upd fen ((nI ((16 * (cR 1)) + d106))).toNatClampNeg 0)))) en (.inl (k 0, 51200, .inl (upd (upd fen ((nI ((16 * (cR 1)) + d106))).toNatClampNeg 0) ((nI ((16 * nb103) + d107))).toNatClampNeg (fia ((nI nbR)).toNatClampNeg))))) H := hm
                                            have hkp : kpx (fun a => a ∈ [mo, cn, ia, dr, en, la, wo, op, mk, ir, se, ec, lc, wc, ol, al]) M (mu (mu (mu Mc3 mo (.inr (6, [.int 0, .ref cn, .ref ia, .ref dr, .ref en, .ref la, .ref wo, .int ni, .ref op, .ref mk, .ref ir, .int dn, .int md, .int pw, .int cm, .int wr, .ref se, .ref ec, .ref lc, .ref wc, .ref ol, .ref al, .int cs, .int hm9]))) en (.inl (k 0, 51200, .inl (upd fen ((nI ((16 * (cR 1)) + d106))).toNatClampNeg 0)))) en (.inl (k 0, 51200, .inl (upd (upd fen ((nI ((16 * (cR 1)) + d106))).toNatClampNeg 0) ((nI ((16 * nb103) + d107))).toNatClampNeg (fia ((nI nbR)).toNatClampNeg))))) := (hkp).self (by simp)
                                            refine lv_aload_n hx hb dX6_move_200 rfl (lv_at hl 3 rfl) ?_
                                            refine m_get (T := TX6) (N := 24) (ci := 6) (v := .ref dr) hx hb hts wX6 hown hK hm ((mu_ne ne_mo_en).trans ((mu_ne ne_mo_en).trans (mu_self _ _ _))) rfl 3 (by decide) f16 (fun _ h9 => h9) rfl dX6_move_201 ?_
                                            refine lv_iload hx hb dX6_move_204 (lv_at hl 2 rfl) ?_
                                            refine m_zald hx hb hK hm 2 ((mu_ne ne_dr_en).trans ((mu_ne ne_dr_en).trans ((mu_ne ne_dr_mo).trans kdr_3))) rfl (vp_in_nI (by omega) (by decide)) dX6_move_206 ?_
                                            refine W.zretN (v := (fdr ((nI nbR)).toNatClampNeg)) hx hb hr (fun t ht hW => ⟨⟨some (.int ((fdr ((nI nbR)).toNatClampNeg) &&& 1)), _, rfl, ?_, by rw [ht]; exact hm⟩, hS.F ht⟩) hS.2.2 dX6_move_207 hlocks
                                            exact ⟨⟨_, rfl⟩, ⟨_, _, _, _, _, _, _, fcn, fia, fdr, (upd (upd fen ((nI ((16 * (cR 1)) + d106))).toNatClampNeg 0) ((nI ((16 * nb103) + d107))).toNatClampNeg (fia ((nI nbR)).toNatClampNeg)), fla, fwo, fop, fmk, fir_3, fse, fec, flc, fol, fal, fwc, hap, ((mu_ne ne_mo_en).trans ((mu_ne ne_mo_en).trans (mu_self _ _ _))), hmd, ⟨hrC, hrL, hrM⟩, ((mu_ne ne_cn_en).trans ((mu_ne ne_cn_en).trans ((mu_ne ne_cn_mo).trans kcn_3))), ((mu_ne ne_ia_en).trans ((mu_ne ne_ia_en).trans ((mu_ne ne_ia_mo).trans kia_3))), ((mu_ne ne_dr_en).trans ((mu_ne ne_dr_en).trans ((mu_ne ne_dr_mo).trans kdr_3))), (mu_self _ _ _), ((mu_ne ne_la_en).trans ((mu_ne ne_la_en).trans ((mu_ne ne_la_mo).trans kla_3))), ((mu_ne ne_wo_en).trans ((mu_ne ne_wo_en).trans ((mu_ne ne_wo_mo).trans kwo_3))), ((mu_ne ne_op_en).trans ((mu_ne ne_op_en).trans ((mu_ne ne_op_mo).trans kop_3))), ((mu_ne ne_mk_en).trans ((mu_ne ne_mk_en).trans ((mu_ne ne_mk_mo).trans kmk_3))), ((mu_ne ne_ir_en).trans ((mu_ne ne_ir_en).trans ((mu_ne ne_ir_mo).trans hir_3))), ((mu_ne ne_se_en).trans ((mu_ne ne_se_en).trans ((mu_ne ne_se_mo).trans kse_3))), ((mu_ne ne_ec_en).trans ((mu_ne ne_ec_en).trans ((mu_ne ne_ec_mo).trans kec_3))), ((mu_ne ne_lc_en).trans ((mu_ne ne_lc_en).trans ((mu_ne ne_lc_mo).trans klc_3))), ((mu_ne ne_wc_en).trans ((mu_ne ne_wc_en).trans ((mu_ne ne_wc_mo).trans kwc_3))), ((mu_ne ne_ol_en).trans ((mu_ne ne_ol_en).trans ((mu_ne ne_ol_mo).trans kol_3))), ((mu_ne ne_al_en).trans ((mu_ne ne_al_en).trans ((mu_ne ne_al_mo).trans kal_3)))⟩, hkp⟩
                                          · first | exact absurd c22 (by decide) | exact absurd (by decide) c22
                                        · first | exact absurd c21 (by decide) | exact absurd (by decide) c21
                                      · have huc105 := Nat.le_trans hgb105 (bC_le _)
                                        subst hf105
                                        refine W.eq (g2 := F0 m 136 ls [.int (nI nb105), .ref mo]) rfl ?_
                                        refine W.widen (k := 0) (n := 0) (Nat.le_of_ble_eq_true rfl) (Nat.le_of_ble_eq_true rfl) ?_
                                        have hm : mm D (AZ z) Mc3 H := hm
                                        refine lv_if_lt (tgt := 143) hx hb dX6_move_136 (by decide) (fun c23 => ?_) (fun c23 => ?_)
                                        · have hqc23 : nb105 < 0 := nb_lt (a := nb105) (b := 0) (by omega) (by omega) c23
                                          omega
                                        · have hqc23 : 0 ≤ nb105 := nb_nlt (a := nb105) (b := 0) (by omega) (by omega) c23
                                          refine lv_iconst (v := 4) hx hb dX6_move_139 (by decide) ?_
                                          refine lv_goto (tgt := 144) hx hb dX6_move_140 (by decide) ?_
                                          refine m_kV (As := [.int 4]) (rest := []) (rm := { frames := 0, cells := 0, slots := 0, locals := 0 }) ⟨hx, hb, hml, hown, hts⟩ (s_X6_failsE l D k z _ mo cn ia dr en la wo op mk ir se ec lc wc ol al 0 ni dn md pw cm wr cs hm9 4 kmo_3) (cwV 1 hts gX6_move_X6_fails rfl rfl rfl (by decide +kernel) ⟨Nat.le_of_ble_eq_true rfl, Nat.le_of_ble_eq_true rfl⟩) (m_recv hK hm (q := (RX6, TX6, 24)) rfl kmo_3) hz hcx hm hS rfl hl.1 rfl (Nat.le_of_ble_eq_true rfl) dX6_move_144 ⟨Nat.le_of_ble_eq_true rfl, Nat.le_of_ble_eq_true rfl⟩ (fun v M1 H locs hv hm hS => ?_)
                                          obtain ⟨hv1, hM1⟩ := hv
                                          have hv1 : v = some (.int 1) := hv1.trans (by decide)
                                          subst hv1
                                          rw [hM1] at hm
                                          refine W.eq (g2 := F0 m 147 ls [.int 1]) rfl ?_
                                          refine W.widen (k := 0) (n := 0) (Nat.le_of_ble_eq_true rfl) (Nat.le_of_ble_eq_true rfl) ?_
                                          have hm : mm D (AZ z) (mu Mc3 mo (.inr (6, [.int 4, .ref cn, .ref ia, .ref dr, .ref en, .ref la, .ref wo, .int ni, .ref op, .ref mk, .ref ir, .int dn, .int md, .int pw, .int cm, .int wr, .ref se, .ref ec, .ref lc, .ref wc, .ref ol, .ref al, .int cs, .int hm9]))) H := hm
                                          have hkp : kpx (fun a => a ∈ [mo, cn, ia, dr, en, la, wo, op, mk, ir, se, ec, lc, wc, ol, al]) M (mu Mc3 mo (.inr (6, [.int 4, .ref cn, .ref ia, .ref dr, .ref en, .ref la, .ref wo, .int ni, .ref op, .ref mk, .ref ir, .int dn, .int md, .int pw, .int cm, .int wr, .ref se, .ref ec, .ref lc, .ref wc, .ref ol, .ref al, .int cs, .int hm9]))) := (hkp).self (by simp)
                                          refine lv_if_eq (tgt := 152) hx hb dX6_move_147 (by decide) (fun c24 => ?_) (fun c24 => ?_)
                                          · first | exact absurd c24 (by decide) | exact absurd (by decide) c24
                                          · refine lv_iconst (v := 0) hx hb dX6_move_150 (by decide) ?_
                                            refine W.zret hx hb hr rfl (fun t ht hW => ⟨⟨some (.int 0), _, rfl, ?_, by rw [ht]; exact hm⟩, hS.F ht⟩) hS.2.2 dX6_move_151
                                            exact ⟨⟨_, rfl⟩, ⟨_, _, _, _, _, _, _, fcn, fia, fdr, fen, fla, fwo, fop, fmk, fir_3, fse, fec, flc, fol, fal, fwc, hap, (mu_self _ _ _), hmd, ⟨hrC, hrL, hrM⟩, ((mu_ne ne_cn_mo).trans kcn_3), ((mu_ne ne_ia_mo).trans kia_3), ((mu_ne ne_dr_mo).trans kdr_3), ((mu_ne ne_en_mo).trans ken_3), ((mu_ne ne_la_mo).trans kla_3), ((mu_ne ne_wo_mo).trans kwo_3), ((mu_ne ne_op_mo).trans kop_3), ((mu_ne ne_mk_mo).trans kmk_3), ((mu_ne ne_ir_mo).trans hir_3), ((mu_ne ne_se_mo).trans kse_3), ((mu_ne ne_ec_mo).trans kec_3), ((mu_ne ne_lc_mo).trans klc_3), ((mu_ne ne_wc_mo).trans kwc_3), ((mu_ne ne_ol_mo).trans kol_3), ((mu_ne ne_al_mo).trans kal_3)⟩, hkp⟩
                                    · first | exact absurd c20 (by decide) | exact absurd (by decide) c20
                                  · refine lv_iconst (v := 4) hx hb dX6_move_111 (by decide) ?_
                                    refine lv_goto (tgt := 116) hx hb dX6_move_112 (by decide) ?_
                                    refine m_kV (As := [.int 4]) (rest := []) (rm := { frames := 0, cells := 0, slots := 0, locals := 0 }) ⟨hx, hb, hml, hown, hts⟩ (s_X6_failsE l D k z _ mo cn ia dr en la wo op mk ir se ec lc wc ol al 0 ni dn md pw cm wr cs hm9 4 kmo_2) (cwV 1 hts gX6_move_X6_fails rfl rfl rfl (by decide +kernel) ⟨Nat.le_of_ble_eq_true rfl, Nat.le_of_ble_eq_true rfl⟩) (m_recv hK hm (q := (RX6, TX6, 24)) rfl kmo_2) hz hcx hm hS rfl hl.1 rfl (Nat.le_of_ble_eq_true rfl) dX6_move_116 ⟨Nat.le_of_ble_eq_true rfl, Nat.le_of_ble_eq_true rfl⟩ (fun v M1 H locs hv hm hS => ?_)
                                    obtain ⟨hv1, hM1⟩ := hv
                                    have hv1 : v = some (.int 1) := hv1.trans (by decide)
                                    subst hv1
                                    rw [hM1] at hm
                                    refine W.eq (g2 := F0 m 119 ls [.int 1]) rfl ?_
                                    refine W.widen (k := 0) (n := 0) (Nat.le_of_ble_eq_true rfl) (Nat.le_of_ble_eq_true rfl) ?_
                                    have hm : mm D (AZ z) (mu Mc2 mo (.inr (6, [.int 4, .ref cn, .ref ia, .ref dr, .ref en, .ref la, .ref wo, .int ni, .ref op, .ref mk, .ref ir, .int dn, .int md, .int pw, .int cm, .int wr, .ref se, .ref ec, .ref lc, .ref wc, .ref ol, .ref al, .int cs, .int hm9]))) H := hm
                                    have hkp : kpx (fun a => a ∈ [mo, cn, ia, dr, en, la, wo, op, mk, ir, se, ec, lc, wc, ol, al]) M (mu Mc2 mo (.inr (6, [.int 4, .ref cn, .ref ia, .ref dr, .ref en, .ref la, .ref wo, .int ni, .ref op, .ref mk, .ref ir, .int dn, .int md, .int pw, .int cm, .int wr, .ref se, .ref ec, .ref lc, .ref wc, .ref ol, .ref al, .int cs, .int hm9]))) := (hkp).self (by simp)
                                    refine lv_if_eq (tgt := 124) hx hb dX6_move_119 (by decide) (fun c25 => ?_) (fun c25 => ?_)
                                    · first | exact absurd c25 (by decide) | exact absurd (by decide) c25
                                    · refine lv_iconst (v := 0) hx hb dX6_move_122 (by decide) ?_
                                      refine W.zret hx hb hr rfl (fun t ht hW => ⟨⟨some (.int 0), _, rfl, ?_, by rw [ht]; exact hm⟩, hS.F ht⟩) hS.2.2 dX6_move_123
                                      exact ⟨⟨_, rfl⟩, ⟨_, _, _, _, _, _, _, fcn, fia, fdr, fen, fla, fwo, fop, fmk, fir_2, fse, fec, flc, fol, fal, fwc, hap, (mu_self _ _ _), hmd, ⟨hrC, hrL, hrM⟩, ((mu_ne ne_cn_mo).trans kcn_2), ((mu_ne ne_ia_mo).trans kia_2), ((mu_ne ne_dr_mo).trans kdr_2), ((mu_ne ne_en_mo).trans ken_2), ((mu_ne ne_la_mo).trans kla_2), ((mu_ne ne_wo_mo).trans kwo_2), ((mu_ne ne_op_mo).trans kop_2), ((mu_ne ne_mk_mo).trans kmk_2), ((mu_ne ne_ir_mo).trans hir_2), ((mu_ne ne_se_mo).trans kse_2), ((mu_ne ne_ec_mo).trans kec_2), ((mu_ne ne_lc_mo).trans klc_2), ((mu_ne ne_wc_mo).trans kwc_2), ((mu_ne ne_ol_mo).trans kol_2), ((mu_ne ne_al_mo).trans kal_2)⟩, hkp⟩
                                · have hqc18 : nb103 < 0 := nb_nle (a := 0) (b := nb103) (by omega) (by omega) c18
                                  omega
                            · first | exact absurd c15 (by decide) | exact absurd (by decide) c15
                          · have hqc14 : nbR < 0 := nb_nle (a := 0) (b := nbR) (by omega) (by omega) c14
                            omega
                      · first | exact absurd c11 (by decide) | exact absurd (by decide) c11
                    · first | exact absurd c10 (by decide) | exact absurd (by decide) c10
                  · subst hx9
                    refine W.eq (g2 := F0 m 40 ls [.int 1, .ref mo]) rfl ?_
                    refine W.widen (k := 0) (n := 0) (Nat.le_of_ble_eq_true rfl) (Nat.le_of_ble_eq_true rfl) ?_
                    have hm : mm D (AZ z) M H := hm
                    refine lv_if_eq (tgt := 47) hx hb dX6_move_40 (by decide) (fun c26 => ?_) (fun c26 => ?_)
                    · first | exact absurd c26 (by decide) | exact absurd (by decide) c26
                    · refine lv_iconst (v := 2) hx hb dX6_move_43 (by decide) ?_
                      refine lv_goto (tgt := 48) hx hb dX6_move_44 (by decide) ?_
                      refine m_kV (As := [.int 2]) (rest := []) (rm := { frames := 0, cells := 0, slots := 0, locals := 0 }) ⟨hx, hb, hml, hown, hts⟩ (s_X6_failsE l D k z _ mo cn ia dr en la wo op mk ir se ec lc wc ol al cd ni dn md pw cm wr cs hm9 2 hM) (cwV 1 hts gX6_move_X6_fails rfl rfl rfl (by decide +kernel) ⟨Nat.le_of_ble_eq_true rfl, Nat.le_of_ble_eq_true rfl⟩) (m_recv hK hm (q := (RX6, TX6, 24)) rfl hM) hz hcx hm hS rfl hl.1 rfl (Nat.le_of_ble_eq_true rfl) dX6_move_48 ⟨Nat.le_of_ble_eq_true rfl, Nat.le_of_ble_eq_true rfl⟩ (fun v M1 H locs hv hm hS => ?_)
                      obtain ⟨hv1, hM1⟩ := hv
                      have hv1 : v = some (.int 1) := hv1.trans (by decide)
                      subst hv1
                      rw [hM1] at hm
                      refine W.eq (g2 := F0 m 51 ls [.int 1]) rfl ?_
                      refine W.widen (k := 0) (n := 0) (Nat.le_of_ble_eq_true rfl) (Nat.le_of_ble_eq_true rfl) ?_
                      have hm : mm D (AZ z) (mu M mo (.inr (6, [.int 2, .ref cn, .ref ia, .ref dr, .ref en, .ref la, .ref wo, .int ni, .ref op, .ref mk, .ref ir, .int dn, .int md, .int pw, .int cm, .int wr, .ref se, .ref ec, .ref lc, .ref wc, .ref ol, .ref al, .int cs, .int hm9]))) H := hm
                      have hkp : kpx (fun a => a ∈ [mo, cn, ia, dr, en, la, wo, op, mk, ir, se, ec, lc, wc, ol, al]) M (mu M mo (.inr (6, [.int 2, .ref cn, .ref ia, .ref dr, .ref en, .ref la, .ref wo, .int ni, .ref op, .ref mk, .ref ir, .int dn, .int md, .int pw, .int cm, .int wr, .ref se, .ref ec, .ref lc, .ref wc, .ref ol, .ref al, .int cs, .int hm9]))) := (hkp).self (by simp)
                      refine lv_if_eq (tgt := 56) hx hb dX6_move_51 (by decide) (fun c27 => ?_) (fun c27 => ?_)
                      · first | exact absurd c27 (by decide) | exact absurd (by decide) c27
                      · refine lv_iconst (v := 0) hx hb dX6_move_54 (by decide) ?_
                        refine W.zret hx hb hr rfl (fun t ht hW => ⟨⟨some (.int 0), _, rfl, ?_, by rw [ht]; exact hm⟩, hS.F ht⟩) hS.2.2 dX6_move_55
                        exact ⟨⟨_, rfl⟩, ⟨_, _, _, _, _, _, _, fcn, fia, fdr, fen, fla, fwo, fop, fmk, fir, fse, fec, flc, fol, fal, fwc, hap, (mu_self _ _ _), hmd, ⟨hrC, hrL, hrM⟩, ((mu_ne ne_cn_mo).trans hcn), ((mu_ne ne_ia_mo).trans hia), ((mu_ne ne_dr_mo).trans hdr), ((mu_ne ne_en_mo).trans hen), ((mu_ne ne_la_mo).trans hla), ((mu_ne ne_wo_mo).trans hwo), ((mu_ne ne_op_mo).trans hop), ((mu_ne ne_mk_mo).trans hmk), ((mu_ne ne_ir_mo).trans hir), ((mu_ne ne_se_mo).trans hse), ((mu_ne ne_ec_mo).trans hec), ((mu_ne ne_lc_mo).trans hlc), ((mu_ne ne_wc_mo).trans hwc), ((mu_ne ne_ol_mo).trans hol), ((mu_ne ne_al_mo).trans hal)⟩, hkp⟩
          · subst hv1
            refine W.eq (g2 := F0 m 24 ls [.int 0, .ref mo]) rfl ?_
            refine W.widen (k := 0) (n := 0) (Nat.le_of_ble_eq_true rfl) (Nat.le_of_ble_eq_true rfl) ?_
            have hm : mm D (AZ z) M H := hm
            refine lv_if_eq (tgt := 43) hx hb dX6_move_24 (by decide) (fun c28 => ?_) (fun c28 => ?_)
            · refine lv_iconst (v := 2) hx hb dX6_move_43 (by decide) ?_
              refine lv_goto (tgt := 48) hx hb dX6_move_44 (by decide) ?_
              refine m_kV (As := [.int 2]) (rest := []) (rm := { frames := 0, cells := 0, slots := 0, locals := 0 }) ⟨hx, hb, hml, hown, hts⟩ (s_X6_failsE l D k z _ mo cn ia dr en la wo op mk ir se ec lc wc ol al cd ni dn md pw cm wr cs hm9 2 hM) (cwV 1 hts gX6_move_X6_fails rfl rfl rfl (by decide +kernel) ⟨Nat.le_of_ble_eq_true rfl, Nat.le_of_ble_eq_true rfl⟩) (m_recv hK hm (q := (RX6, TX6, 24)) rfl hM) hz hcx hm hS rfl hl.1 rfl (Nat.le_of_ble_eq_true rfl) dX6_move_48 ⟨Nat.le_of_ble_eq_true rfl, Nat.le_of_ble_eq_true rfl⟩ (fun v M1 H locs hv hm hS => ?_)
              obtain ⟨hv1, hM1⟩ := hv
              have hv1 : v = some (.int 1) := hv1.trans (by decide)
              subst hv1
              rw [hM1] at hm
              refine W.eq (g2 := F0 m 51 ls [.int 1]) rfl ?_
              refine W.widen (k := 0) (n := 0) (Nat.le_of_ble_eq_true rfl) (Nat.le_of_ble_eq_true rfl) ?_
              have hm : mm D (AZ z) (mu M mo (.inr (6, [.int 2, .ref cn, .ref ia, .ref dr, .ref en, .ref la, .ref wo, .int ni, .ref op, .ref mk, .ref ir, .int dn, .int md, .int pw, .int cm, .int wr, .ref se, .ref ec, .ref lc, .ref wc, .ref ol, .ref al, .int cs, .int hm9]))) H := hm
              have hkp : kpx (fun a => a ∈ [mo, cn, ia, dr, en, la, wo, op, mk, ir, se, ec, lc, wc, ol, al]) M (mu M mo (.inr (6, [.int 2, .ref cn, .ref ia, .ref dr, .ref en, .ref la, .ref wo, .int ni, .ref op, .ref mk, .ref ir, .int dn, .int md, .int pw, .int cm, .int wr, .ref se, .ref ec, .ref lc, .ref wc, .ref ol, .ref al, .int cs, .int hm9]))) := (hkp).self (by simp)
              refine lv_if_eq (tgt := 56) hx hb dX6_move_51 (by decide) (fun c29 => ?_) (fun c29 => ?_)
              · first | exact absurd c29 (by decide) | exact absurd (by decide) c29
              · refine lv_iconst (v := 0) hx hb dX6_move_54 (by decide) ?_
                refine W.zret hx hb hr rfl (fun t ht hW => ⟨⟨some (.int 0), _, rfl, ?_, by rw [ht]; exact hm⟩, hS.F ht⟩) hS.2.2 dX6_move_55
                exact ⟨⟨_, rfl⟩, ⟨_, _, _, _, _, _, _, fcn, fia, fdr, fen, fla, fwo, fop, fmk, fir, fse, fec, flc, fol, fal, fwc, hap, (mu_self _ _ _), hmd, ⟨hrC, hrL, hrM⟩, ((mu_ne ne_cn_mo).trans hcn), ((mu_ne ne_ia_mo).trans hia), ((mu_ne ne_dr_mo).trans hdr), ((mu_ne ne_en_mo).trans hen), ((mu_ne ne_la_mo).trans hla), ((mu_ne ne_wo_mo).trans hwo), ((mu_ne ne_op_mo).trans hop), ((mu_ne ne_mk_mo).trans hmk), ((mu_ne ne_ir_mo).trans hir), ((mu_ne ne_se_mo).trans hse), ((mu_ne ne_ec_mo).trans hec), ((mu_ne ne_lc_mo).trans hlc), ((mu_ne ne_wc_mo).trans hwc), ((mu_ne ne_ol_mo).trans hol), ((mu_ne ne_al_mo).trans hal)⟩, hkp⟩
            · first | exact absurd c28 (by decide) | exact absurd (by decide) c28
      · subst hv1
        refine W.eq (g2 := F0 m 17 ls [.int 0, .ref mo]) rfl ?_
        refine W.widen (k := 0) (n := 0) (Nat.le_of_ble_eq_true rfl) (Nat.le_of_ble_eq_true rfl) ?_
        have hm : mm D (AZ z) M H := hm
        refine lv_if_eq (tgt := 43) hx hb dX6_move_17 (by decide) (fun c30 => ?_) (fun c30 => ?_)
        · refine lv_iconst (v := 2) hx hb dX6_move_43 (by decide) ?_
          refine lv_goto (tgt := 48) hx hb dX6_move_44 (by decide) ?_
          refine m_kV (As := [.int 2]) (rest := []) (rm := { frames := 0, cells := 0, slots := 0, locals := 0 }) ⟨hx, hb, hml, hown, hts⟩ (s_X6_failsE l D k z _ mo cn ia dr en la wo op mk ir se ec lc wc ol al cd ni dn md pw cm wr cs hm9 2 hM) (cwV 1 hts gX6_move_X6_fails rfl rfl rfl (by decide +kernel) ⟨Nat.le_of_ble_eq_true rfl, Nat.le_of_ble_eq_true rfl⟩) (m_recv hK hm (q := (RX6, TX6, 24)) rfl hM) hz hcx hm hS rfl hl.1 rfl (Nat.le_of_ble_eq_true rfl) dX6_move_48 ⟨Nat.le_of_ble_eq_true rfl, Nat.le_of_ble_eq_true rfl⟩ (fun v M1 H locs hv hm hS => ?_)
          obtain ⟨hv1, hM1⟩ := hv
          have hv1 : v = some (.int 1) := hv1.trans (by decide)
          subst hv1
          rw [hM1] at hm
          refine W.eq (g2 := F0 m 51 ls [.int 1]) rfl ?_
          refine W.widen (k := 0) (n := 0) (Nat.le_of_ble_eq_true rfl) (Nat.le_of_ble_eq_true rfl) ?_
          have hm : mm D (AZ z) (mu M mo (.inr (6, [.int 2, .ref cn, .ref ia, .ref dr, .ref en, .ref la, .ref wo, .int ni, .ref op, .ref mk, .ref ir, .int dn, .int md, .int pw, .int cm, .int wr, .ref se, .ref ec, .ref lc, .ref wc, .ref ol, .ref al, .int cs, .int hm9]))) H := hm
          have hkp : kpx (fun a => a ∈ [mo, cn, ia, dr, en, la, wo, op, mk, ir, se, ec, lc, wc, ol, al]) M (mu M mo (.inr (6, [.int 2, .ref cn, .ref ia, .ref dr, .ref en, .ref la, .ref wo, .int ni, .ref op, .ref mk, .ref ir, .int dn, .int md, .int pw, .int cm, .int wr, .ref se, .ref ec, .ref lc, .ref wc, .ref ol, .ref al, .int cs, .int hm9]))) := (hkp).self (by simp)
          refine lv_if_eq (tgt := 56) hx hb dX6_move_51 (by decide) (fun c31 => ?_) (fun c31 => ?_)
          · first | exact absurd c31 (by decide) | exact absurd (by decide) c31
          · refine lv_iconst (v := 0) hx hb dX6_move_54 (by decide) ?_
            refine W.zret hx hb hr rfl (fun t ht hW => ⟨⟨some (.int 0), _, rfl, ?_, by rw [ht]; exact hm⟩, hS.F ht⟩) hS.2.2 dX6_move_55
            exact ⟨⟨_, rfl⟩, ⟨_, _, _, _, _, _, _, fcn, fia, fdr, fen, fla, fwo, fop, fmk, fir, fse, fec, flc, fol, fal, fwc, hap, (mu_self _ _ _), hmd, ⟨hrC, hrL, hrM⟩, ((mu_ne ne_cn_mo).trans hcn), ((mu_ne ne_ia_mo).trans hia), ((mu_ne ne_dr_mo).trans hdr), ((mu_ne ne_en_mo).trans hen), ((mu_ne ne_la_mo).trans hla), ((mu_ne ne_wo_mo).trans hwo), ((mu_ne ne_op_mo).trans hop), ((mu_ne ne_mk_mo).trans hmk), ((mu_ne ne_ir_mo).trans hir), ((mu_ne ne_se_mo).trans hse), ((mu_ne ne_ec_mo).trans hec), ((mu_ne ne_lc_mo).trans hlc), ((mu_ne ne_wc_mo).trans hwc), ((mu_ne ne_ol_mo).trans hol), ((mu_ne ne_al_mo).trans hal)⟩, hkp⟩
        · first | exact absurd c30 (by decide) | exact absurd (by decide) c30
    · first | exact absurd c3 (by decide) | exact absurd (by decide) c3
