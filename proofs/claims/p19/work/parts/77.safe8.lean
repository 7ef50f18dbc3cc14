set_option maxHeartbeats 4000000 in
set_option maxRecDepth 100000 in
theorem s_X6_begin (l : Launch) (D : va_G) (k : Nat → ClassId) (z : Nat) (M : mM) (mo cn ia dr en la wo op mk ir se ec lc wc ol al : Nat) (dn md : Int32)  (hbd : md ≠ 0 → dn ≠ 0) (hI : mI k M mo cn ia dr en la wo op mk ir se ec lc wc ol al dn md) : mK l yX6_begin wsX6_begin ({ frames := 2, cells := 0, slots := 0, locals := 46 }) D k z [.ref mo] M (fun v M' => (∃ x, v = some (.int x)) ∧ mI k M' mo cn ia dr en la wo op mk ir se ec lc wc ol al dn md ∧ kpx (fun a => a ∈ [mo, cn, ia, dr, en, la, wo, op, mk, ir, se, ec, lc, wc, ol, al]) M M') := by
  refine Met.ofW (cc := cX6_begin) (maxL := 3) (ret := (some .int)) (by decide) rfl ?_
  intro p e s m args below meth c s₁ B hml hv
  obtain ⟨rfl, hz, hcx, hm⟩ := hv
  have hx := B.exec
  have hb := B.bytes
  have hr := B.returns
  have hts := atoms_spec (ws := wsX6_begin) B.pre
  have hown : s.vm.findClass RX6 = some m.cls := findClass_of_methodNamed B.named
  have hlocks := B.notSynchronized
  have hK := hcx.1
  have hS : va_S (AZ z) s.heap s.heap [] := va_S.rf
  have hA : ∀ q, s.heap.size ≤ q → AZ z q := fun q h => Nat.le_trans hz h
  have hl := lv_entry ([.ref mo]) (n := 3) (Nat.le_of_ble_eq_true rfl)
  rw [lg_entry_eq]
  generalize (lg_sl ([.ref mo]) ++ List.replicate (3 - (lg_sl ([.ref mo])).length) Slot.unset).toArray = ls at hl ⊢
  have hl : lv_has ls 3 [(0, .ref mo)] := hl
  have f35 := hts (.fieldLink RX6 35 "CommitTreeModel" "open" "[Z") (by decide +kernel)
  have f38 := hts (.fieldLink RX6 38 "CommitTreeModel" "marks" "[I") (by decide +kernel)
  have f42 := hts (.fieldLink RX6 42 "CommitTreeModel" "isRead" "[Z") (by decide +kernel)
  have f94 := hts (.fieldLink RX6 94 "CommitTreeModel" "down" "Z") (by decide +kernel)
  have wX6 : ∀ w ∈ wsX60, w ∈ wsX6_begin := by decide +kernel
  obtain ⟨cd, ni, pw, cm, wr, cs, hm9, fcn, fia, fdr, fen, fla, fwo, fop, fmk, fir, fse, fec, flc, fol, fal, fwc, hap, hM, hmd, ⟨hrC, hrL, hrM⟩, hcn, hia, hdr, hen, hla, hwo, hop, hmk, hir, hse, hec, hlc, hwc, hol, hal⟩ := id hI
  have ne_mo_cn : nq mo cn := pw_ne hap 0 1 (by decide) (Nat.le_of_ble_eq_true rfl)
  have ne_cn_mo : nq cn mo := Ne.symm ne_mo_cn
  have ne_mo_ia : nq mo ia := pw_ne hap 0 2 (by decide) (Nat.le_of_ble_eq_true rfl)
  have ne_ia_mo : nq ia mo := Ne.symm ne_mo_ia
  have ne_mo_dr : nq mo dr := pw_ne hap 0 3 (by decide) (Nat.le_of_ble_eq_true rfl)
  have ne_dr_mo : nq dr mo := Ne.symm ne_mo_dr
  have ne_mo_en : nq mo en := pw_ne hap 0 4 (by decide) (Nat.le_of_ble_eq_true rfl)
  have ne_en_mo : nq en mo := Ne.symm ne_mo_en
  have ne_mo_la : nq mo la := pw_ne hap 0 5 (by decide) (Nat.le_of_ble_eq_true rfl)
  have ne_la_mo : nq la mo := Ne.symm ne_mo_la
  have ne_mo_wo : nq mo wo := pw_ne hap 0 6 (by decide) (Nat.le_of_ble_eq_true rfl)
  have ne_wo_mo : nq wo mo := Ne.symm ne_mo_wo
  have ne_mo_op : nq mo op := pw_ne hap 0 7 (by decide) (Nat.le_of_ble_eq_true rfl)
  have ne_op_mo : nq op mo := Ne.symm ne_mo_op
  have ne_mo_mk : nq mo mk := pw_ne hap 0 8 (by decide) (Nat.le_of_ble_eq_true rfl)
  have ne_mk_mo : nq mk mo := Ne.symm ne_mo_mk
  have ne_mo_ir : nq mo ir := pw_ne hap 0 9 (by decide) (Nat.le_of_ble_eq_true rfl)
  have ne_ir_mo : nq ir mo := Ne.symm ne_mo_ir
  have ne_mo_se : nq mo se := pw_ne hap 0 10 (by decide) (Nat.le_of_ble_eq_true rfl)
  have ne_se_mo : nq se mo := Ne.symm ne_mo_se
  have ne_mo_ec : nq mo ec := pw_ne hap 0 11 (by decide) (Nat.le_of_ble_eq_true rfl)
  have ne_ec_mo : nq ec mo := Ne.symm ne_mo_ec
  have ne_mo_lc : nq mo lc := pw_ne hap 0 12 (by decide) (Nat.le_of_ble_eq_true rfl)
  have ne_lc_mo : nq lc mo := Ne.symm ne_mo_lc
  have ne_mo_wc : nq mo wc := pw_ne hap 0 13 (by decide) (Nat.le_of_ble_eq_true rfl)
  have ne_wc_mo : nq wc mo := Ne.symm ne_mo_wc
  have ne_mo_ol : nq mo ol := pw_ne hap 0 14 (by decide) (Nat.le_of_ble_eq_true rfl)
  have ne_ol_mo : nq ol mo := Ne.symm ne_mo_ol
  have ne_mo_al : nq mo al := pw_ne hap 0 15 (by decide) (Nat.le_of_ble_eq_true rfl)
  have ne_al_mo : nq al mo := Ne.symm ne_mo_al
  have ne_cn_ia : nq cn ia := pw_ne hap 1 2 (by decide) (Nat.le_of_ble_eq_true rfl)
  have ne_ia_cn : nq ia cn := Ne.symm ne_cn_ia
  have ne_cn_dr : nq cn dr := pw_ne hap 1 3 (by decide) (Nat.le_of_ble_eq_true rfl)
  have ne_dr_cn : nq dr cn := Ne.symm ne_cn_dr
  have ne_cn_en : nq cn en := pw_ne hap 1 4 (by decide) (Nat.le_of_ble_eq_true rfl)
  have ne_en_cn : nq en cn := Ne.symm ne_cn_en
  have ne_cn_la : nq cn la := pw_ne hap 1 5 (by decide) (Nat.le_of_ble_eq_true rfl)
  have ne_la_cn : nq la cn := Ne.symm ne_cn_la
  have ne_cn_wo : nq cn wo := pw_ne hap 1 6 (by decide) (Nat.le_of_ble_eq_true rfl)
  have ne_wo_cn : nq wo cn := Ne.symm ne_cn_wo
  have ne_cn_op : nq cn op := pw_ne hap 1 7 (by decide) (Nat.le_of_ble_eq_true rfl)
  have ne_op_cn : nq op cn := Ne.symm ne_cn_op
  have ne_cn_mk : nq cn mk := pw_ne hap 1 8 (by decide) (Nat.le_of_ble_eq_true rfl)
  have ne_mk_cn : nq mk cn := Ne.symm ne_cn_mk
  have ne_cn_ir : nq cn ir := pw_ne hap 1 9 (by decide) (Nat.le_of_ble_eq_true rfl)
  have ne_ir_cn : nq ir cn := Ne.symm ne_cn_ir
  have ne_cn_se : nq cn se := pw_ne hap 1 10 (by decide) (Nat.le_of_ble_eq_true rfl)
  have ne_se_cn : nq se cn := Ne.symm ne_cn_se
  have ne_cn_ec : nq cn ec := pw_ne hap 1 11 (by decide) (Nat.le_of_ble_eq_true rfl)
  have ne_ec_cn : nq ec cn := Ne.symm ne_cn_ec
  have ne_cn_lc : nq cn lc := pw_ne hap 1 12 (by decide) (Nat.le_of_ble_eq_true rfl)
  have ne_lc_cn : nq lc cn := Ne.symm ne_cn_lc
  have ne_cn_wc : nq cn wc := pw_ne hap 1 13 (by decide) (Nat.le_of_ble_eq_true rfl)
  have ne_wc_cn : nq wc cn := Ne.symm ne_cn_wc
  have ne_cn_ol : nq cn ol := pw_ne hap 1 14 (by decide) (Nat.le_of_ble_eq_true rfl)
  have ne_ol_cn : nq ol cn := Ne.symm ne_cn_ol
  have ne_cn_al : nq cn al := pw_ne hap 1 15 (by decide) (Nat.le_of_ble_eq_true rfl)
  have ne_al_cn : nq al cn := Ne.symm ne_cn_al
  have ne_ia_dr : nq ia dr := pw_ne hap 2 3 (by decide) (Nat.le_of_ble_eq_true rfl)
  have ne_dr_ia : nq dr ia := Ne.symm ne_ia_dr
  have ne_ia_en : nq ia en := pw_ne hap 2 4 (by decide) (Nat.le_of_ble_eq_true rfl)
  have ne_en_ia : nq en ia := Ne.symm ne_ia_en
  have ne_ia_la : nq ia la := pw_ne hap 2 5 (by decide) (Nat.le_of_ble_eq_true rfl)
  have ne_la_ia : nq la ia := Ne.symm ne_ia_la
  have ne_ia_wo : nq ia wo := pw_ne hap 2 6 (by decide) (Nat.le_of_ble_eq_true rfl)
  have ne_wo_ia : nq wo ia := Ne.symm ne_ia_wo
  have ne_ia_op : nq ia op := pw_ne hap 2 7 (by decide) (Nat.le_of_ble_eq_true rfl)
  have ne_op_ia : nq op ia := Ne.symm ne_ia_op
  have ne_ia_mk : nq ia mk := pw_ne hap 2 8 (by decide) (Nat.le_of_ble_eq_true rfl)
  have ne_mk_ia : nq mk ia := Ne.symm ne_ia_mk
  have ne_ia_ir : nq ia ir := pw_ne hap 2 9 (by decide) (Nat.le_of_ble_eq_true rfl)
  have ne_ir_ia : nq ir ia := Ne.symm ne_ia_ir
  have ne_ia_se : nq ia se := pw_ne hap 2 10 (by decide) (Nat.le_of_ble_eq_true rfl)
  have ne_se_ia : nq se ia := Ne.symm ne_ia_se
  have ne_ia_ec : nq ia ec := pw_ne hap 2 11 (by decide) (Nat.le_of_ble_eq_true rfl)
  have ne_ec_ia : nq ec ia := Ne.symm ne_ia_ec
  have ne_ia_lc : nq ia lc := pw_ne hap 2 12 (by decide) (Nat.le_of_ble_eq_true rfl)
  have ne_lc_ia : nq lc ia := Ne.symm ne_ia_lc
  have ne_ia_wc : nq ia wc := pw_ne hap 2 13 (by decide) (Nat.le_of_ble_eq_true rfl)
  have ne_wc_ia : nq wc ia := Ne.symm ne_ia_wc
  have ne_ia_ol : nq ia ol := pw_ne hap 2 14 (by decide) (Nat.le_of_ble_eq_true rfl)
  have ne_ol_ia : nq ol ia := Ne.symm ne_ia_ol
  have ne_ia_al : nq ia al := pw_ne hap 2 15 (by decide) (Nat.le_of_ble_eq_true rfl)
  have ne_al_ia : nq al ia := Ne.symm ne_ia_al
  have ne_dr_en : nq dr en := pw_ne hap 3 4 (by decide) (Nat.le_of_ble_eq_true rfl)
  have ne_en_dr : nq en dr := Ne.symm ne_dr_en
  have ne_dr_la : nq dr la := pw_ne hap 3 5 (by decide) (Nat.le_of_ble_eq_true rfl)
  have ne_la_dr : nq la dr := Ne.symm ne_dr_la
  have ne_dr_wo : nq dr wo := pw_ne hap 3 6 (by decide) (Nat.le_of_ble_eq_true rfl)
  have ne_wo_dr : nq wo dr := Ne.symm ne_dr_wo
  have ne_dr_op : nq dr op := pw_ne hap 3 7 (by decide) (Nat.le_of_ble_eq_true rfl)
  have ne_op_dr : nq op dr := Ne.symm ne_dr_op
  have ne_dr_mk : nq dr mk := pw_ne hap 3 8 (by decide) (Nat.le_of_ble_eq_true rfl)
  have ne_mk_dr : nq mk dr := Ne.symm ne_dr_mk
  have ne_dr_ir : nq dr ir := pw_ne hap 3 9 (by decide) (Nat.le_of_ble_eq_true rfl)
  have ne_ir_dr : nq ir dr := Ne.symm ne_dr_ir
  have ne_dr_se : nq dr se := pw_ne hap 3 10 (by decide) (Nat.le_of_ble_eq_true rfl)
  have ne_se_dr : nq se dr := Ne.symm ne_dr_se
  have ne_dr_ec : nq dr ec := pw_ne hap 3 11 (by decide) (Nat.le_of_ble_eq_true rfl)
  have ne_ec_dr : nq ec dr := Ne.symm ne_dr_ec
  have ne_dr_lc : nq dr lc := pw_ne hap 3 12 (by decide) (Nat.le_of_ble_eq_true rfl)
  have ne_lc_dr : nq lc dr := Ne.symm ne_dr_lc
  have ne_dr_wc : nq dr wc := pw_ne hap 3 13 (by decide) (Nat.le_of_ble_eq_true rfl)
  have ne_wc_dr : nq wc dr := Ne.symm ne_dr_wc
  have ne_dr_ol : nq dr ol := pw_ne hap 3 14 (by decide) (Nat.le_of_ble_eq_true rfl)
  have ne_ol_dr : nq ol dr := Ne.symm ne_dr_ol
  have ne_dr_al : nq dr al := pw_ne hap 3 15 (by decide) (Nat.le_of_ble_eq_true rfl)
  have ne_al_dr : nq al dr := Ne.symm ne_dr_al
  have ne_en_la : nq en la := pw_ne hap 4 5 (by decide) (Nat.le_of_ble_eq_true rfl)
  have ne_la_en : nq la en := Ne.symm ne_en_la
  have ne_en_wo : nq en wo := pw_ne hap 4 6 (by decide) (Nat.le_of_ble_eq_true rfl)
  have ne_wo_en : nq wo en := Ne.symm ne_en_wo
  have ne_en_op : nq en op := pw_ne hap 4 7 (by decide) (Nat.le_of_ble_eq_true rfl)
  have ne_op_en : nq op en := Ne.symm ne_en_op
  have ne_en_mk : nq en mk := pw_ne hap 4 8 (by decide) (Nat.le_of_ble_eq_true rfl)
  have ne_mk_en : nq mk en := Ne.symm ne_en_mk
  have ne_en_ir : nq en ir := pw_ne hap 4 9 (by decide) (Nat.le_of_ble_eq_true rfl)
  have ne_ir_en : nq ir en := Ne.symm ne_en_ir
  have ne_en_se : nq en se := pw_ne hap 4 10 (by decide) (Nat.le_of_ble_eq_true rfl)
  have ne_se_en : nq se en := Ne.symm ne_en_se
  have ne_en_ec : nq en ec := pw_ne hap 4 11 (by decide) (Nat.le_of_ble_eq_true rfl)
  have ne_ec_en : nq ec en := Ne.symm ne_en_ec
  have ne_en_lc : nq en lc := pw_ne hap 4 12 (by decide) (Nat.le_of_ble_eq_true rfl)
  have ne_lc_en : nq lc en := Ne.symm ne_en_lc
  have ne_en_wc : nq en wc := pw_ne hap 4 13 (by decide) (Nat.le_of_ble_eq_true rfl)
  have ne_wc_en : nq wc en := Ne.symm ne_en_wc
  have ne_en_ol : nq en ol := pw_ne hap 4 14 (by decide) (Nat.le_of_ble_eq_true rfl)
  have ne_ol_en : nq ol en := Ne.symm ne_en_ol
  have ne_en_al : nq en al := pw_ne hap 4 15 (by decide) (Nat.le_of_ble_eq_true rfl)
  have ne_al_en : nq al en := Ne.symm ne_en_al
  have ne_la_wo : nq la wo := pw_ne hap 5 6 (by decide) (Nat.le_of_ble_eq_true rfl)
  have ne_wo_la : nq wo la := Ne.symm ne_la_wo
  have ne_la_op : nq la op := pw_ne hap 5 7 (by decide) (Nat.le_of_ble_eq_true rfl)
  have ne_op_la : nq op la := Ne.symm ne_la_op
  have ne_la_mk : nq la mk := pw_ne hap 5 8 (by decide) (Nat.le_of_ble_eq_true rfl)
  have ne_mk_la : nq mk la := Ne.symm ne_la_mk
  have ne_la_ir : nq la ir := pw_ne hap 5 9 (by decide) (Nat.le_of_ble_eq_true rfl)
  have ne_ir_la : nq ir la := Ne.symm ne_la_ir
  have ne_la_se : nq la se := pw_ne hap 5 10 (by decide) (Nat.le_of_ble_eq_true rfl)
  have ne_se_la : nq se la := Ne.symm ne_la_se
  have ne_la_ec : nq la ec := pw_ne hap 5 11 (by decide) (Nat.le_of_ble_eq_true rfl)
  have ne_ec_la : nq ec la := Ne.symm ne_la_ec
  have ne_la_lc : nq la lc := pw_ne hap 5 12 (by decide) (Nat.le_of_ble_eq_true rfl)
  have ne_lc_la : nq lc la := Ne.symm ne_la_lc
  have ne_la_wc : nq la wc := pw_ne hap 5 13 (by decide) (Nat.le_of_ble_eq_true rfl)
  have ne_wc_la : nq wc la := Ne.symm ne_la_wc
  have ne_la_ol : nq la ol := pw_ne hap 5 14 (by decide) (Nat.le_of_ble_eq_true rfl)
  have ne_ol_la : nq ol la := Ne.symm ne_la_ol
  have ne_la_al : nq la al := pw_ne hap 5 15 (by decide) (Nat.le_of_ble_eq_true rfl)
  have ne_al_la : nq al la := Ne.symm ne_la_al
  have ne_wo_op : nq wo op := pw_ne hap 6 7 (by decide) (Nat.le_of_ble_eq_true rfl)
  have ne_op_wo : nq op wo := Ne.symm ne_wo_op
  have ne_wo_mk : nq wo mk := pw_ne hap 6 8 (by decide) (Nat.le_of_ble_eq_true rfl)
  have ne_mk_wo : nq mk wo := Ne.symm ne_wo_mk
  have ne_wo_ir : nq wo ir := pw_ne hap 6 9 (by decide) (Nat.le_of_ble_eq_true rfl)
  have ne_ir_wo : nq ir wo := Ne.symm ne_wo_ir
  have ne_wo_se : nq wo se := pw_ne hap 6 10 (by decide) (Nat.le_of_ble_eq_true rfl)
  have ne_se_wo : nq se wo := Ne.symm ne_wo_se
  have ne_wo_ec : nq wo ec := pw_ne hap 6 11 (by decide) (Nat.le_of_ble_eq_true rfl)
  have ne_ec_wo : nq ec wo := Ne.symm ne_wo_ec
  have ne_wo_lc : nq wo lc := pw_ne hap 6 12 (by decide) (Nat.le_of_ble_eq_true rfl)
  have ne_lc_wo : nq lc wo := Ne.symm ne_wo_lc
  have ne_wo_wc : nq wo wc := pw_ne hap 6 13 (by decide) (Nat.le_of_ble_eq_true rfl)
  have ne_wc_wo : nq wc wo := Ne.symm ne_wo_wc
  have ne_wo_ol : nq wo ol := pw_ne hap 6 14 (by decide) (Nat.le_of_ble_eq_true rfl)
  have ne_ol_wo : nq ol wo := Ne.symm ne_wo_ol
  have ne_wo_al : nq wo al := pw_ne hap 6 15 (by decide) (Nat.le_of_ble_eq_true rfl)
  have ne_al_wo : nq al wo := Ne.symm ne_wo_al
  have ne_op_mk : nq op mk := pw_ne hap 7 8 (by decide) (Nat.le_of_ble_eq_true rfl)
  have ne_mk_op : nq mk op := Ne.symm ne_op_mk
  have ne_op_ir : nq op ir := pw_ne hap 7 9 (by decide) (Nat.le_of_ble_eq_true rfl)
  have ne_ir_op : nq ir op := Ne.symm ne_op_ir
  have ne_op_se : nq op se := pw_ne hap 7 10 (by decide) (Nat.le_of_ble_eq_true rfl)
  have ne_se_op : nq se op := Ne.symm ne_op_se
  have ne_op_ec : nq op ec := pw_ne hap 7 11 (by decide) (Nat.le_of_ble_eq_true rfl)
  have ne_ec_op : nq ec op := Ne.symm ne_op_ec
  have ne_op_lc : nq op lc := pw_ne hap 7 12 (by decide) (Nat.le_of_ble_eq_true rfl)
  have ne_lc_op : nq lc op := Ne.symm ne_op_lc
  have ne_op_wc : nq op wc := pw_ne hap 7 13 (by decide) (Nat.le_of_ble_eq_true rfl)
  have ne_wc_op : nq wc op := Ne.symm ne_op_wc
  have ne_op_ol : nq op ol := pw_ne hap 7 14 (by decide) (Nat.le_of_ble_eq_true rfl)
  have ne_ol_op : nq ol op := Ne.symm ne_op_ol
  have ne_op_al : nq op al := pw_ne hap 7 15 (by decide) (Nat.le_of_ble_eq_true rfl)
  have ne_al_op : nq al op := Ne.symm ne_op_al
  have ne_mk_ir : nq mk ir := pw_ne hap 8 9 (by decide) (Nat.le_of_ble_eq_true rfl)
  have ne_ir_mk : nq ir mk := Ne.symm ne_mk_ir
  have ne_mk_se : nq mk se := pw_ne hap 8 10 (by decide) (Nat.le_of_ble_eq_true rfl)
  have ne_se_mk : nq se mk := Ne.symm ne_mk_se
  have ne_mk_ec : nq mk ec := pw_ne hap 8 11 (by decide) (Nat.le_of_ble_eq_true rfl)
  have ne_ec_mk : nq ec mk := Ne.symm ne_mk_ec
  have ne_mk_lc : nq mk lc := pw_ne hap 8 12 (by decide) (Nat.le_of_ble_eq_true rfl)
  have ne_lc_mk : nq lc mk := Ne.symm ne_mk_lc
  have ne_mk_wc : nq mk wc := pw_ne hap 8 13 (by decide) (Nat.le_of_ble_eq_true rfl)
  have ne_wc_mk : nq wc mk := Ne.symm ne_mk_wc
  have ne_mk_ol : nq mk ol := pw_ne hap 8 14 (by decide) (Nat.le_of_ble_eq_true rfl)
  have ne_ol_mk : nq ol mk := Ne.symm ne_mk_ol
  have ne_mk_al : nq mk al := pw_ne hap 8 15 (by decide) (Nat.le_of_ble_eq_true rfl)
  have ne_al_mk : nq al mk := Ne.symm ne_mk_al
  have ne_ir_se : nq ir se := pw_ne hap 9 10 (by decide) (Nat.le_of_ble_eq_true rfl)
  have ne_se_ir : nq se ir := Ne.symm ne_ir_se
  have ne_ir_ec : nq ir ec := pw_ne hap 9 11 (by decide) (Nat.le_of_ble_eq_true rfl)
  have ne_ec_ir : nq ec ir := Ne.symm ne_ir_ec
  have ne_ir_lc : nq ir lc := pw_ne hap 9 12 (by decide) (Nat.le_of_ble_eq_true rfl)
  have ne_lc_ir : nq lc ir := Ne.symm ne_ir_lc
  have ne_ir_wc : nq ir wc := pw_ne hap 9 13 (by decide) (Nat.le_of_ble_eq_true rfl)
  have ne_wc_ir : nq wc ir := Ne.symm ne_ir_wc
  have ne_ir_ol : nq ir ol := pw_ne hap 9 14 (by decide) (Nat.le_of_ble_eq_true rfl)
  have ne_ol_ir : nq ol ir := Ne.symm ne_ir_ol
  have ne_ir_al : nq ir al := pw_ne hap 9 15 (by decide) (Nat.le_of_ble_eq_true rfl)
  have ne_al_ir : nq al ir := Ne.symm ne_ir_al
  have ne_se_ec : nq se ec := pw_ne hap 10 11 (by decide) (Nat.le_of_ble_eq_true rfl)
  have ne_ec_se : nq ec se := Ne.symm ne_se_ec
  have ne_se_lc : nq se lc := pw_ne hap 10 12 (by decide) (Nat.le_of_ble_eq_true rfl)
  have ne_lc_se : nq lc se := Ne.symm ne_se_lc
  have ne_se_wc : nq se wc := pw_ne hap 10 13 (by decide) (Nat.le_of_ble_eq_true rfl)
  have ne_wc_se : nq wc se := Ne.symm ne_se_wc
  have ne_se_ol : nq se ol := pw_ne hap 10 14 (by decide) (Nat.le_of_ble_eq_true rfl)
  have ne_ol_se : nq ol se := Ne.symm ne_se_ol
  have ne_se_al : nq se al := pw_ne hap 10 15 (by decide) (Nat.le_of_ble_eq_true rfl)
  have ne_al_se : nq al se := Ne.symm ne_se_al
  have ne_ec_lc : nq ec lc := pw_ne hap 11 12 (by decide) (Nat.le_of_ble_eq_true rfl)
  have ne_lc_ec : nq lc ec := Ne.symm ne_ec_lc
  have ne_ec_wc : nq ec wc := pw_ne hap 11 13 (by decide) (Nat.le_of_ble_eq_true rfl)
  have ne_wc_ec : nq wc ec := Ne.symm ne_ec_wc
  have ne_ec_ol : nq ec ol := pw_ne hap 11 14 (by decide) (Nat.le_of_ble_eq_true rfl)
  have ne_ol_ec : nq ol ec := Ne.symm ne_ec_ol
  have ne_ec_al : nq ec al := pw_ne hap 11 15 (by decide) (Nat.le_of_ble_eq_true rfl)
  have ne_al_ec : nq al ec := Ne.symm ne_ec_al
  have ne_lc_wc : nq lc wc := pw_ne hap 12 13 (by decide) (Nat.le_of_ble_eq_true rfl)
  have ne_wc_lc : nq wc lc := Ne.symm ne_lc_wc
  have ne_lc_ol : nq lc ol := pw_ne hap 12 14 (by decide) (Nat.le_of_ble_eq_true rfl)
  have ne_ol_lc : nq ol lc := Ne.symm ne_lc_ol
  have ne_lc_al : nq lc al := pw_ne hap 12 15 (by decide) (Nat.le_of_ble_eq_true rfl)
  have ne_al_lc : nq al lc := Ne.symm ne_lc_al
  have ne_wc_ol : nq wc ol := pw_ne hap 13 14 (by decide) (Nat.le_of_ble_eq_true rfl)
  have ne_ol_wc : nq ol wc := Ne.symm ne_wc_ol
  have ne_wc_al : nq wc al := pw_ne hap 13 15 (by decide) (Nat.le_of_ble_eq_true rfl)
  have ne_al_wc : nq al wc := Ne.symm ne_wc_al
  have ne_ol_al : nq ol al := pw_ne hap 14 15 (by decide) (Nat.le_of_ble_eq_true rfl)
  have ne_al_ol : nq al ol := Ne.symm ne_ol_al
  have hkp : kpx (fun a => a ∈ [mo, cn, ia, dr, en, la, wo, op, mk, ir, se, ec, lc, wc, ol, al]) M M := kpx.refl _ _
  refine lv_iconst (v := 0) hx hb dX6_begin_0 (by decide) ?_
  refine lv_istore_n (lv' := [(1, .int 0), (0, .ref mo)]) hx hb dX6_begin_1 rfl hl (by decide) rfl (fun ls hl => ?_)
  refine W_loop (σ := Nat) (fun j H locs ls => (j ≤ 6) ∧ mm D (AZ z) M H ∧ va_S (AZ z) s.heap H locs ∧ lv_has ls 3 [(1, .int (nI j)), (0, .ref mo)]) (fun j => 6 - j) (fun j => 0) (fun j => 0) ?_ 0 _ _ _ ⟨Nat.zero_le _, hm, hS, lv_sub hl [0, 1] rfl⟩
  intro j H locs ls hI ih2
  obtain ⟨hj, hm, hS, hl⟩ := hI
  try dsimp only at hm hl ih2 ⊢
  refine lv_iload_n hx hb dX6_begin_2 rfl (lv_at hl 0 rfl) ?_
  refine lv_bipush (v := 6) hx hb dX6_begin_3 (by decide) ?_
  refine lv_icmp_ge (tgt := 23) hx hb dX6_begin_5 (by decide) (fun c1 => ?_) (fun c1 => ?_)
  · have hj6 : j = 6 := Nat.le_antisymm hj ((nI_leI (a := 6) (by decide) (by omega)).mp c1)
    refine lv_aload_n hx hb dX6_begin_23 rfl (lv_at hl 1 rfl) ?_
    refine lv_aload_n hx hb dX6_begin_24 rfl (lv_at hl 1 rfl) ?_
    refine m_get (T := TX6) (N := 24) (ci := 6) (v := .int dn) hx hb hts wX6 hown hK hm hM rfl 11 (by decide) f94 (fun _ h9 => h9) rfl dX6_begin_25 ?_
    refine lv_if_eq (tgt := 35) hx hb dX6_begin_28 (by decide) (fun c2 => ?_) (fun c2 => ?_)
    · refine lv_iload_n hx hb dX6_begin_35 rfl (lv_at hl 0 rfl) ?_
      refine lv_bipush (v := 6) hx hb dX6_begin_36 (by decide) ?_
      refine lv_icmp_ne (tgt := 45) hx hb dX6_begin_38 (by decide) (fun c3 => ?_) (fun c3 => ?_)
      · exact absurd (by rw [hj6]; rfl) c3
      · refine lv_iconst (v := 2) hx hb dX6_begin_41 (by decide) ?_
        refine lv_goto (tgt := 46) hx hb dX6_begin_42 (by decide) ?_
        refine m_kV (As := [.int 2]) (rest := []) (rm := { frames := 0, cells := 0, slots := 0, locals := 0 }) ⟨hx, hb, hml, hown, hts⟩ (s_X6_failsE l D k z _ mo cn ia dr en la wo op mk ir se ec lc wc ol al cd ni dn md pw cm wr cs hm9 2 hM) (cwV 1 hts gX6_begin_X6_fails rfl rfl rfl (by decide +kernel) ⟨Nat.le_of_ble_eq_true rfl, Nat.le_of_ble_eq_true rfl⟩) (m_recv hK hm (q := (RX6, TX6, 24)) rfl hM) hz hcx hm hS rfl hl.1 rfl (Nat.le_of_ble_eq_true rfl) dX6_begin_46 ⟨Nat.le_of_ble_eq_true rfl, Nat.le_of_ble_eq_true rfl⟩ (fun v M1 H locs hv hm hS => ?_)
        obtain ⟨hv1, hM1⟩ := hv
        have hv1 : v = some (.int 1) := hv1.trans (by decide)
        subst hv1
        rw [hM1] at hm
        refine W.eq (g2 := F0 m 49 ls [.int 1]) rfl ?_
        refine W.widen (k := 0) (n := 0) (Nat.le_of_ble_eq_true rfl) (Nat.le_of_ble_eq_true rfl) ?_
        have hm : mm D (AZ z) (mu M mo (.inr (6, [.int 2, .ref cn, .ref ia, .ref dr, .ref en, .ref la, .ref wo, .int ni, .ref op, .ref mk, .ref ir, .int dn, .int md, .int pw, .int cm, .int wr, .ref se, .ref ec, .ref lc, .ref wc, .ref ol, .ref al, .int cs, .int hm9]))) H := hm
        have hkp : kpx (fun a => a ∈ [mo, cn, ia, dr, en, la, wo, op, mk, ir, se, ec, lc, wc, ol, al]) M (mu M mo (.inr (6, [.int 2, .ref cn, .ref ia, .ref dr, .ref en, .ref la, .ref wo, .int ni, .ref op, .ref mk, .ref ir, .int dn, .int md, .int pw, .int cm, .int wr, .ref se, .ref ec, .ref lc, .ref wc, .ref ol, .ref al, .int cs, .int hm9]))) := (hkp).self (by simp)
        refine lv_if_eq (tgt := 54) hx hb dX6_begin_49 (by decide) (fun c4 => ?_) (fun c4 => ?_)
        · first | exact absurd c4 (by decide) | exact absurd (by decide) c4
        · refine lv_iconst (v := 0) hx hb dX6_begin_52 (by decide) ?_
          refine W.iret (v := 0) hx hb hr (fun t ht hW => ⟨⟨some (.int 0), _, rfl, ?_, by rw [ht]; exact hm⟩, hS.F ht⟩) hS.2.2 dX6_begin_53
          exact ⟨⟨_, rfl⟩, ⟨_, _, _, _, _, _, _, fcn, fia, fdr, fen, fla, fwo, fop, fmk, fir, fse, fec, flc, fol, fal, fwc, hap, (mu_self _ _ _), hmd, ⟨hrC, hrL, hrM⟩, ((mu_ne ne_cn_mo).trans hcn), ((mu_ne ne_ia_mo).trans hia), ((mu_ne ne_dr_mo).trans hdr), ((mu_ne ne_en_mo).trans hen), ((mu_ne ne_la_mo).trans hla), ((mu_ne ne_wo_mo).trans hwo), ((mu_ne ne_op_mo).trans hop), ((mu_ne ne_mk_mo).trans hmk), ((mu_ne ne_ir_mo).trans hir), ((mu_ne ne_se_mo).trans hse), ((mu_ne ne_ec_mo).trans hec), ((mu_ne ne_lc_mo).trans hlc), ((mu_ne ne_wc_mo).trans hwc), ((mu_ne ne_ol_mo).trans hol), ((mu_ne ne_al_mo).trans hal)⟩, hkp⟩
    · refine lv_iconst (v := 1) hx hb dX6_begin_31 (by decide) ?_
      refine lv_goto (tgt := 46) hx hb dX6_begin_32 (by decide) ?_
      refine m_kV (As := [.int 1]) (rest := []) (rm := { frames := 0, cells := 0, slots := 0, locals := 0 }) ⟨hx, hb, hml, hown, hts⟩ (s_X6_failsE l D k z _ mo cn ia dr en la wo op mk ir se ec lc wc ol al cd ni dn md pw cm wr cs hm9 1 hM) (cwV 1 hts gX6_begin_X6_fails rfl rfl rfl (by decide +kernel) ⟨Nat.le_of_ble_eq_true rfl, Nat.le_of_ble_eq_true rfl⟩) (m_recv hK hm (q := (RX6, TX6, 24)) rfl hM) hz hcx hm hS rfl hl.1 rfl (Nat.le_of_ble_eq_true rfl) dX6_begin_46 ⟨Nat.le_of_ble_eq_true rfl, Nat.le_of_ble_eq_true rfl⟩ (fun v M1 H locs hv hm hS => ?_)
      obtain ⟨hv1, hM1⟩ := hv
      have hv1 : v = some (.int 1) := hv1.trans (by decide)
      subst hv1
      rw [hM1] at hm
      refine W.eq (g2 := F0 m 49 ls [.int 1]) rfl ?_
      refine W.widen (k := 0) (n := 0) (Nat.le_of_ble_eq_true rfl) (Nat.le_of_ble_eq_true rfl) ?_
      have hm : mm D (AZ z) (mu M mo (.inr (6, [.int 1, .ref cn, .ref ia, .ref dr, .ref en, .ref la, .ref wo, .int ni, .ref op, .ref mk, .ref ir, .int dn, .int md, .int pw, .int cm, .int wr, .ref se, .ref ec, .ref lc, .ref wc, .ref ol, .ref al, .int cs, .int hm9]))) H := hm
      have hkp : kpx (fun a => a ∈ [mo, cn, ia, dr, en, la, wo, op, mk, ir, se, ec, lc, wc, ol, al]) M (mu M mo (.inr (6, [.int 1, .ref cn, .ref ia, .ref dr, .ref en, .ref la, .ref wo, .int ni, .ref op, .ref mk, .ref ir, .int dn, .int md, .int pw, .int cm, .int wr, .ref se, .ref ec, .ref lc, .ref wc, .ref ol, .ref al, .int cs, .int hm9]))) := (hkp).self (by simp)
      refine lv_if_eq (tgt := 54) hx hb dX6_begin_49 (by decide) (fun c5 => ?_) (fun c5 => ?_)
      · first | exact absurd c5 (by decide) | exact absurd (by decide) c5
      · refine lv_iconst (v := 0) hx hb dX6_begin_52 (by decide) ?_
        refine W.iret (v := 0) hx hb hr (fun t ht hW => ⟨⟨some (.int 0), _, rfl, ?_, by rw [ht]; exact hm⟩, hS.F ht⟩) hS.2.2 dX6_begin_53
        exact ⟨⟨_, rfl⟩, ⟨_, _, _, _, _, _, _, fcn, fia, fdr, fen, fla, fwo, fop, fmk, fir, fse, fec, flc, fol, fal, fwc, hap, (mu_self _ _ _), hmd, ⟨hrC, hrL, hrM⟩, ((mu_ne ne_cn_mo).trans hcn), ((mu_ne ne_ia_mo).trans hia), ((mu_ne ne_dr_mo).trans hdr), ((mu_ne ne_en_mo).trans hen), ((mu_ne ne_la_mo).trans hla), ((mu_ne ne_wo_mo).trans hwo), ((mu_ne ne_op_mo).trans hop), ((mu_ne ne_mk_mo).trans hmk), ((mu_ne ne_ir_mo).trans hir), ((mu_ne ne_se_mo).trans hse), ((mu_ne ne_ec_mo).trans hec), ((mu_ne ne_lc_mo).trans hlc), ((mu_ne ne_wc_mo).trans hwc), ((mu_ne ne_ol_mo).trans hol), ((mu_ne ne_al_mo).trans hal)⟩, hkp⟩
  · have hlt9 : j < 6 := Nat.lt_of_not_le fun q => c1 (nI_le (a := 6) q (by omega))
    refine lv_aload_n hx hb dX6_begin_8 rfl (lv_at hl 1 rfl) ?_
    refine m_get (T := TX6) (N := 24) (ci := 6) (v := .ref op) hx hb hts wX6 hown hK hm hM rfl 8 (by decide) f35 (fun _ h9 => h9) rfl dX6_begin_9 ?_
    refine lv_iload_n hx hb dX6_begin_12 rfl (lv_at hl 0 rfl) ?_
    refine m_zald hx hb hK hm 2 hop rfl (vp_in_nI (by omega) (by decide)) dX6_begin_13 ?_
    refine lv_if_eq (tgt := 23) hx hb dX6_begin_14 (by decide) (fun c6 => ?_) (fun c6 => ?_)
    · refine lv_aload_n hx hb dX6_begin_23 rfl (lv_at hl 1 rfl) ?_
      refine lv_aload_n hx hb dX6_begin_24 rfl (lv_at hl 1 rfl) ?_
      refine m_get (T := TX6) (N := 24) (ci := 6) (v := .int dn) hx hb hts wX6 hown hK hm hM rfl 11 (by decide) f94 (fun _ h9 => h9) rfl dX6_begin_25 ?_
      refine lv_if_eq (tgt := 35) hx hb dX6_begin_28 (by decide) (fun c7 => ?_) (fun c7 => ?_)
      · refine lv_iload_n hx hb dX6_begin_35 rfl (lv_at hl 0 rfl) ?_
        refine lv_bipush (v := 6) hx hb dX6_begin_36 (by decide) ?_
        refine lv_icmp_ne (tgt := 45) hx hb dX6_begin_38 (by decide) (fun c8 => ?_) (fun c8 => ?_)
        · refine lv_iconst (v := 0) hx hb dX6_begin_45 (by decide) ?_
          refine m_kV (As := [.int 0]) (rest := []) (rm := { frames := 0, cells := 0, slots := 0, locals := 0 }) ⟨hx, hb, hml, hown, hts⟩ (s_X6_failsE l D k z _ mo cn ia dr en la wo op mk ir se ec lc wc ol al cd ni dn md pw cm wr cs hm9 0 hM) (cwV 1 hts gX6_begin_X6_fails rfl rfl rfl (by decide +kernel) ⟨Nat.le_of_ble_eq_true rfl, Nat.le_of_ble_eq_true rfl⟩) (m_recv hK hm (q := (RX6, TX6, 24)) rfl hM) hz hcx hm hS rfl hl.1 rfl (Nat.le_of_ble_eq_true rfl) dX6_begin_46 ⟨Nat.le_of_ble_eq_true rfl, Nat.le_of_ble_eq_true rfl⟩ (fun v M1 H locs hv hm hS => ?_)
          obtain ⟨hv1, hM1⟩ := hv
          have hv1 : v = some (.int 0) := hv1.trans (by decide)
          subst hv1
          rw [hM1] at hm
          refine W.eq (g2 := F0 m 49 ls [.int 0]) rfl ?_
          refine W.widen (k := 0) (n := 0) (Nat.le_of_ble_eq_true rfl) (Nat.le_of_ble_eq_true rfl) ?_
          have hm : mm D (AZ z) (mu M mo (.inr (6, [.int 0, .ref cn, .ref ia, .ref dr, .ref en, .ref la, .ref wo, .int ni, .ref op, .ref mk, .ref ir, .int dn, .int md, .int pw, .int cm, .int wr, .ref se, .ref ec, .ref lc, .ref wc, .ref ol, .ref al, .int cs, .int hm9]))) H := hm
          have hkp : kpx (fun a => a ∈ [mo, cn, ia, dr, en, la, wo, op, mk, ir, se, ec, lc, wc, ol, al]) M (mu M mo (.inr (6, [.int 0, .ref cn, .ref ia, .ref dr, .ref en, .ref la, .ref wo, .int ni, .ref op, .ref mk, .ref ir, .int dn, .int md, .int pw, .int cm, .int wr, .ref se, .ref ec, .ref lc, .ref wc, .ref ol, .ref al, .int cs, .int hm9]))) := (hkp).self (by simp)
          refine lv_if_eq (tgt := 54) hx hb dX6_begin_49 (by decide) (fun c9 => ?_) (fun c9 => ?_)
          · refine lv_aload_n hx hb dX6_begin_54 rfl (lv_at hl 1 rfl) ?_
            refine m_get (T := TX6) (N := 24) (ci := 6) (v := .ref op) hx hb hts wX6 hown hK hm (mu_self _ _ _) rfl 8 (by decide) f35 (fun _ h9 => h9) rfl dX6_begin_55 ?_
            refine lv_iload_n hx hb dX6_begin_58 rfl (lv_at hl 0 rfl) ?_
            refine lv_iconst (v := 1) hx hb dX6_begin_59 (by decide) ?_
            refine m_zast hx hb hK hm hS 2 ((mu_ne ne_op_mo).trans hop) rfl (vp_in_nI (by omega) (by decide)) dX6_begin_60 (fun H locs hm hS => ?_)
            have hm : mm D (AZ z) (mu (mu M mo (.inr (6, [.int 0, .ref cn, .ref ia, .ref dr, .ref en, .ref la, .ref wo, .int ni, .ref op, .ref mk, .ref ir, .int dn, .int md, .int pw, .int cm, .int wr, .ref se, .ref ec, .ref lc, .ref wc, .ref ol, .ref al, .int cs, .int hm9]))) op (.inl (k 2, 6, .inl (upd fop ((nI j)).toNatClampNeg (vp_nar .boolean 1))))) H := hm
            have hkp : kpx (fun a => a ∈ [mo, cn, ia, dr, en, la, wo, op, mk, ir, se, ec, lc, wc, ol, al]) M (mu (mu M mo (.inr (6, [.int 0, .ref cn, .ref ia, .ref dr, .ref en, .ref la, .ref wo, .int ni, .ref op, .ref mk, .ref ir, .int dn, .int md, .int pw, .int cm, .int wr, .ref se, .ref ec, .ref lc, .ref wc, .ref ol, .ref al, .int cs, .int hm9]))) op (.inl (k 2, 6, .inl (upd fop ((nI j)).toNatClampNeg (vp_nar .boolean 1))))) := (hkp).self (by simp)
            refine lv_aload_n hx hb dX6_begin_61 rfl (lv_at hl 1 rfl) ?_
            refine m_get (T := TX6) (N := 24) (ci := 6) (v := .ref mk) hx hb hts wX6 hown hK hm ((mu_ne ne_mo_op).trans (mu_self _ _ _)) rfl 9 (by decide) f38 (fun _ h9 => h9) rfl dX6_begin_62 ?_
            refine lv_iload_n hx hb dX6_begin_65 rfl (lv_at hl 0 rfl) ?_
            refine lv_iconst (v := 0) hx hb dX6_begin_66 (by decide) ?_
            refine m_iast hx hb hK hm hS 0 ((mu_ne ne_mk_op).trans ((mu_ne ne_mk_mo).trans hmk)) rfl (vp_in_nI (by omega) (by decide)) dX6_begin_67 (fun H locs hm hS => ?_)
            have hrM : rng bM (upd fmk ((nI j)).toNatClampNeg 0) := (hrM).up _ 0 (show 0 ≤ 3 by omega)
            have hm : mm D (AZ z) (mu (mu (mu M mo (.inr (6, [.int 0, .ref cn, .ref ia, .ref dr, .ref en, .ref la, .ref wo, .int ni, .ref op, .ref mk, .ref ir, .int dn, .int md, .int pw, .int cm, .int wr, .ref se, .ref ec, .ref lc, .ref wc, .ref ol, .ref al, .int cs, .int hm9]))) op (.inl (k 2, 6, .inl (upd fop ((nI j)).toNatClampNeg (vp_nar .boolean 1))))) mk (.inl (k 0, 6, .inl (upd fmk ((nI j)).toNatClampNeg 0)))) H := hm
            have hkp : kpx (fun a => a ∈ [mo, cn, ia, dr, en, la, wo, op, mk, ir, se, ec, lc, wc, ol, al]) M (mu (mu (mu M mo (.inr (6, [.int 0, .ref cn, .ref ia, .ref dr, .ref en, .ref la, .ref wo, .int ni, .ref op, .ref mk, .ref ir, .int dn, .int md, .int pw, .int cm, .int wr, .ref se, .ref ec, .ref lc, .ref wc, .ref ol, .ref al, .int cs, .int hm9]))) op (.inl (k 2, 6, .inl (upd fop ((nI j)).toNatClampNeg (vp_nar .boolean 1))))) mk (.inl (k 0, 6, .inl (upd fmk ((nI j)).toNatClampNeg 0)))) := (hkp).self (by simp)
            refine lv_aload_n hx hb dX6_begin_68 rfl (lv_at hl 1 rfl) ?_
            refine lv_iconst (v := 1) hx hb dX6_begin_69 (by decide) ?_
            refine lv_iconst (v := 5) hx hb dX6_begin_70 (by decide) ?_
            refine lv_iload_n hx hb dX6_begin_71 rfl (lv_at hl 0 rfl) ?_
            refine lv_imul hx hb dX6_begin_72 ?_
            refine W.eq (g2 := F0 m 73 ls [.int (nI (5 * j)), .int 1, .ref mo]) (by rw [show ((5) * ((nI j)) : Int32) = nI (5 * j) from pk_mul 5 j]) ?_
            refine lv_iadd hx hb dX6_begin_73 ?_
            refine W.eq (g2 := F0 m 74 ls [.int (nI (1 + (5 * j))), .ref mo]) (by rw [show ((1) + ((nI (5 * j))) : Int32) = nI (1 + (5 * j)) from nI_add 1 (5 * j)]) ?_
            refine lv_iconst (v := 0) hx hb dX6_begin_74 (by decide) ?_
            have hI0 : mI k (mu (mu (mu M mo (.inr (6, [.int 0, .ref cn, .ref ia, .ref dr, .ref en, .ref la, .ref wo, .int ni, .ref op, .ref mk, .ref ir, .int dn, .int md, .int pw, .int cm, .int wr, .ref se, .ref ec, .ref lc, .ref wc, .ref ol, .ref al, .int cs, .int hm9]))) op (.inl (k 2, 6, .inl (upd fop ((nI j)).toNatClampNeg (vp_nar .boolean 1))))) mk (.inl (k 0, 6, .inl (upd fmk ((nI j)).toNatClampNeg 0)))) mo cn ia dr en la wo op mk ir se ec lc wc ol al dn md := ⟨_, _, _, _, _, _, _, fcn, fia, fdr, fen, fla, fwo, (upd fop ((nI j)).toNatClampNeg (vp_nar .boolean 1)), (upd fmk ((nI j)).toNatClampNeg 0), fir, fse, fec, flc, fol, fal, fwc, hap, ((mu_ne ne_mo_mk).trans ((mu_ne ne_mo_op).trans (mu_self _ _ _))), hmd, ⟨hrC, hrL, hrM⟩, ((mu_ne ne_cn_mk).trans ((mu_ne ne_cn_op).trans ((mu_ne ne_cn_mo).trans hcn))), ((mu_ne ne_ia_mk).trans ((mu_ne ne_ia_op).trans ((mu_ne ne_ia_mo).trans hia))), ((mu_ne ne_dr_mk).trans ((mu_ne ne_dr_op).trans ((mu_ne ne_dr_mo).trans hdr))), ((mu_ne ne_en_mk).trans ((mu_ne ne_en_op).trans ((mu_ne ne_en_mo).trans hen))), ((mu_ne ne_la_mk).trans ((mu_ne ne_la_op).trans ((mu_ne ne_la_mo).trans hla))), ((mu_ne ne_wo_mk).trans ((mu_ne ne_wo_op).trans ((mu_ne ne_wo_mo).trans hwo))), ((mu_ne ne_op_mk).trans (mu_self _ _ _)), (mu_self _ _ _), ((mu_ne ne_ir_mk).trans ((mu_ne ne_ir_op).trans ((mu_ne ne_ir_mo).trans hir))), ((mu_ne ne_se_mk).trans ((mu_ne ne_se_op).trans ((mu_ne ne_se_mo).trans hse))), ((mu_ne ne_ec_mk).trans ((mu_ne ne_ec_op).trans ((mu_ne ne_ec_mo).trans hec))), ((mu_ne ne_lc_mk).trans ((mu_ne ne_lc_op).trans ((mu_ne ne_lc_mo).trans hlc))), ((mu_ne ne_wc_mk).trans ((mu_ne ne_wc_op).trans ((mu_ne ne_wc_mo).trans hwc))), ((mu_ne ne_ol_mk).trans ((mu_ne ne_ol_op).trans ((mu_ne ne_ol_mo).trans hol))), ((mu_ne ne_al_mk).trans ((mu_ne ne_al_op).trans ((mu_ne ne_al_mo).trans hal)))⟩
            refine m_kV (As := [.int (nI (1 + (5 * j))), .int 0]) (rest := []) (rm := { frames := 1, cells := 0, slots := 0, locals := 23 }) ⟨hx, hb, hml, hown, hts⟩ (s_X6_copyTree l D k z _ mo cn ia dr en la wo op mk ir se ec lc wc ol al dn md (1 + (5 * j)) 0 (by omega) (by omega) (bC_0 _) (fun q => by omega) hI0) (cwV 2 hts gX6_begin_X6_copyTree rfl rfl rfl (by decide +kernel) ⟨Nat.le_of_ble_eq_true rfl, Nat.le_of_ble_eq_true rfl⟩) (m_recv hK hm (q := (RX6, TX6, 24)) rfl ((mu_ne ne_mo_mk).trans ((mu_ne ne_mo_op).trans (mu_self _ _ _)))) hz hcx hm hS rfl hl.1 rfl (Nat.le_of_ble_eq_true rfl) dX6_begin_75 ⟨Nat.le_of_ble_eq_true rfl, Nat.le_of_ble_eq_true rfl⟩ (fun v M1 H locs hv hm hS => ?_)
            obtain ⟨hv1, hI, hk9⟩ := hv
            subst hv1
            obtain ⟨_, _, _, _, _, _, _, fcn_1, fia_1, fdr_1, fen_1, fla_1, fwo_1, _, _, _, _, _, _, _, _, _, -, -, hmd_1, ⟨hrC_1, hrL_1, -⟩, hcn_1, hia_1, hdr_1, hen_1, hla_1, hwo_1, -, -, -, -, -, -, -, -, -⟩ := id hI
            have kmo_1 := hk9 _ _ (by simp only [List.mem_cons, List.not_mem_nil, or_false, not_or]; exact ⟨ne_mo_cn, ne_mo_ia, ne_mo_dr, ne_mo_en, ne_mo_la, ne_mo_wo⟩) ((mu_ne ne_mo_mk).trans ((mu_ne ne_mo_op).trans (mu_self _ _ _)))
            have kop_1 := hk9 _ _ (by simp only [List.mem_cons, List.not_mem_nil, or_false, not_or]; exact ⟨ne_op_cn, ne_op_ia, ne_op_dr, ne_op_en, ne_op_la, ne_op_wo⟩) ((mu_ne ne_op_mk).trans (mu_self _ _ _))
            have kmk_1 := hk9 _ _ (by simp only [List.mem_cons, List.not_mem_nil, or_false, not_or]; exact ⟨ne_mk_cn, ne_mk_ia, ne_mk_dr, ne_mk_en, ne_mk_la, ne_mk_wo⟩) (mu_self _ _ _)
            have kir_1 := hk9 _ _ (by simp only [List.mem_cons, List.not_mem_nil, or_false, not_or]; exact ⟨ne_ir_cn, ne_ir_ia, ne_ir_dr, ne_ir_en, ne_ir_la, ne_ir_wo⟩) ((mu_ne ne_ir_mk).trans ((mu_ne ne_ir_op).trans ((mu_ne ne_ir_mo).trans hir)))
            have kse_1 := hk9 _ _ (by simp only [List.mem_cons, List.not_mem_nil, or_false, not_or]; exact ⟨ne_se_cn, ne_se_ia, ne_se_dr, ne_se_en, ne_se_la, ne_se_wo⟩) ((mu_ne ne_se_mk).trans ((mu_ne ne_se_op).trans ((mu_ne ne_se_mo).trans hse)))
            have kec_1 := hk9 _ _ (by simp only [List.mem_cons, List.not_mem_nil, or_false, not_or]; exact ⟨ne_ec_cn, ne_ec_ia, ne_ec_dr, ne_ec_en, ne_ec_la, ne_ec_wo⟩) ((mu_ne ne_ec_mk).trans ((mu_ne ne_ec_op).trans ((mu_ne ne_ec_mo).trans hec)))
            have klc_1 := hk9 _ _ (by simp only [List.mem_cons, List.not_mem_nil, or_false, not_or]; exact ⟨ne_lc_cn, ne_lc_ia, ne_lc_dr, ne_lc_en, ne_lc_la, ne_lc_wo⟩) ((mu_ne ne_lc_mk).trans ((mu_ne ne_lc_op).trans ((mu_ne ne_lc_mo).trans hlc)))
            have kwc_1 := hk9 _ _ (by simp only [List.mem_cons, List.not_mem_nil, or_false, not_or]; exact ⟨ne_wc_cn, ne_wc_ia, ne_wc_dr, ne_wc_en, ne_wc_la, ne_wc_wo⟩) ((mu_ne ne_wc_mk).trans ((mu_ne ne_wc_op).trans ((mu_ne ne_wc_mo).trans hwc)))
            have kol_1 := hk9 _ _ (by simp only [List.mem_cons, List.not_mem_nil, or_false, not_or]; exact ⟨ne_ol_cn, ne_ol_ia, ne_ol_dr, ne_ol_en, ne_ol_la, ne_ol_wo⟩) ((mu_ne ne_ol_mk).trans ((mu_ne ne_ol_op).trans ((mu_ne ne_ol_mo).trans hol)))
            have kal_1 := hk9 _ _ (by simp only [List.mem_cons, List.not_mem_nil, or_false, not_or]; exact ⟨ne_al_cn, ne_al_ia, ne_al_dr, ne_al_en, ne_al_la, ne_al_wo⟩) ((mu_ne ne_al_mk).trans ((mu_ne ne_al_op).trans ((mu_ne ne_al_mo).trans hal)))
            have hkp := hkp.trans (hk9.mono (fun a ha => by simp only [List.mem_cons, List.not_mem_nil, or_false] at ha ⊢; rcases ha with q9 | q9 | q9 | q9 | q9 | q9 <;> simp [q9]))
            obtain ⟨Mc1, hMx⟩ : ∃ x : mM, x = M1 := ⟨M1, rfl⟩
            subst hMx
            refine W.eq (g2 := F0 m 78 ls []) rfl ?_
            refine W.widen (k := 0) (n := 0) (Nat.le_of_ble_eq_true rfl) (Nat.le_of_ble_eq_true rfl) ?_
            have hm : mm D (AZ z) Mc1 H := hm
            refine lv_aload_n hx hb dX6_begin_78 rfl (lv_at hl 1 rfl) ?_
            refine lv_iconst (v := 2) hx hb dX6_begin_79 (by decide) ?_
            refine lv_iconst (v := 5) hx hb dX6_begin_80 (by decide) ?_
            refine lv_iload_n hx hb dX6_begin_81 rfl (lv_at hl 0 rfl) ?_
            refine lv_imul hx hb dX6_begin_82 ?_
            refine W.eq (g2 := F0 m 83 ls [.int (nI (5 * j)), .int 2, .ref mo]) (by rw [show ((5) * ((nI j)) : Int32) = nI (5 * j) from pk_mul 5 j]) ?_
            refine lv_iadd hx hb dX6_begin_83 ?_
            refine W.eq (g2 := F0 m 84 ls [.int (nI (2 + (5 * j))), .ref mo]) (by rw [show ((2) + ((nI (5 * j))) : Int32) = nI (2 + (5 * j)) from nI_add 2 (5 * j)]) ?_
            refine lv_iconst (v := 0) hx hb dX6_begin_84 (by decide) ?_
            have hI0 : mI k Mc1 mo cn ia dr en la wo op mk ir se ec lc wc ol al dn md := ⟨_, _, _, _, _, _, _, fcn_1, fia_1, fdr_1, fen_1, fla_1, fwo_1, (upd fop ((nI j)).toNatClampNeg (vp_nar .boolean 1)), (upd fmk ((nI j)).toNatClampNeg 0), fir, fse, fec, flc, fol, fal, fwc, hap, kmo_1, hmd_1, ⟨hrC_1, hrL_1, hrM⟩, hcn_1, hia_1, hdr_1, hen_1, hla_1, hwo_1, kop_1, kmk_1, kir_1, kse_1, kec_1, klc_1, kwc_1, kol_1, kal_1⟩
            refine m_kV (As := [.int (nI (2 + (5 * j))), .int 0]) (rest := []) (rm := { frames := 1, cells := 0, slots := 0, locals := 23 }) ⟨hx, hb, hml, hown, hts⟩ (s_X6_copyTree l D k z _ mo cn ia dr en la wo op mk ir se ec lc wc ol al dn md (2 + (5 * j)) 0 (by omega) (by omega) (bC_0 _) (fun q => by omega) hI0) (cwV 2 hts gX6_begin_X6_copyTree rfl rfl rfl (by decide +kernel) ⟨Nat.le_of_ble_eq_true rfl, Nat.le_of_ble_eq_true rfl⟩) (m_recv hK hm (q := (RX6, TX6, 24)) rfl kmo_1) hz hcx hm hS rfl hl.1 rfl (Nat.le_of_ble_eq_true rfl) dX6_begin_85 ⟨Nat.le_of_ble_eq_true rfl, Nat.le_of_ble_eq_true rfl⟩ (fun v M1 H locs hv hm hS => ?_)
            obtain ⟨hv1, hI, hk9⟩ := hv
            subst hv1
            obtain ⟨_, _, _, _, _, _, _, fcn_2, fia_2, fdr_2, fen_2, fla_2, fwo_2, _, _, _, _, _, _, _, _, _, -, -, hmd_2, ⟨hrC_2, hrL_2, -⟩, hcn_2, hia_2, hdr_2, hen_2, hla_2, hwo_2, -, -, -, -, -, -, -, -, -⟩ := id hI
            have kmo_2 := hk9 _ _ (by simp only [List.mem_cons, List.not_mem_nil, or_false, not_or]; exact ⟨ne_mo_cn, ne_mo_ia, ne_mo_dr, ne_mo_en, ne_mo_la, ne_mo_wo⟩) kmo_1
            have kop_2 := hk9 _ _ (by simp only [List.mem_cons, List.not_mem_nil, or_false, not_or]; exact ⟨ne_op_cn, ne_op_ia, ne_op_dr, ne_op_en, ne_op_la, ne_op_wo⟩) kop_1
            have kmk_2 := hk9 _ _ (by simp only [List.mem_cons, List.not_mem_nil, or_false, not_or]; exact ⟨ne_mk_cn, ne_mk_ia, ne_mk_dr, ne_mk_en, ne_mk_la, ne_mk_wo⟩) kmk_1
            have kir_2 := hk9 _ _ (by simp only [List.mem_cons, List.not_mem_nil, or_false, not_or]; exact ⟨ne_ir_cn, ne_ir_ia, ne_ir_dr, ne_ir_en, ne_ir_la, ne_ir_wo⟩) kir_1
            have kse_2 := hk9 _ _ (by simp only [List.mem_cons, List.not_mem_nil, or_false, not_or]; exact ⟨ne_se_cn, ne_se_ia, ne_se_dr, ne_se_en, ne_se_la, ne_se_wo⟩) kse_1
            have kec_2 := hk9 _ _ (by simp only [List.mem_cons, List.not_mem_nil, or_false, not_or]; exact ⟨ne_ec_cn, ne_ec_ia, ne_ec_dr, ne_ec_en, ne_ec_la, ne_ec_wo⟩) kec_1
            have klc_2 := hk9 _ _ (by simp only [List.mem_cons, List.not_mem_nil, or_false, not_or]; exact ⟨ne_lc_cn, ne_lc_ia, ne_lc_dr, ne_lc_en, ne_lc_la, ne_lc_wo⟩) klc_1
            have kwc_2 := hk9 _ _ (by simp only [List.mem_cons, List.not_mem_nil, or_false, not_or]; exact ⟨ne_wc_cn, ne_wc_ia, ne_wc_dr, ne_wc_en, ne_wc_la, ne_wc_wo⟩) kwc_1
            have kol_2 := hk9 _ _ (by simp only [List.mem_cons, List.not_mem_nil, or_false, not_or]; exact ⟨ne_ol_cn, ne_ol_ia, ne_ol_dr, ne_ol_en, ne_ol_la, ne_ol_wo⟩) kol_1
            have kal_2 := hk9 _ _ (by simp only [List.mem_cons, List.not_mem_nil, or_false, not_or]; exact ⟨ne_al_cn, ne_al_ia, ne_al_dr, ne_al_en, ne_al_la, ne_al_wo⟩) kal_1
            have hkp := hkp.trans (hk9.mono (fun a ha => by simp only [List.mem_cons, List.not_mem_nil, or_false] at ha ⊢; rcases ha with q9 | q9 | q9 | q9 | q9 | q9 <;> simp [q9]))
            obtain ⟨Mc2, hMx⟩ : ∃ x : mM, x = M1 := ⟨M1, rfl⟩
            subst hMx
            refine W.eq (g2 := F0 m 88 ls []) rfl ?_
            refine W.widen (k := 0) (n := 0) (Nat.le_of_ble_eq_true rfl) (Nat.le_of_ble_eq_true rfl) ?_
            have hm : mm D (AZ z) Mc2 H := hm
            refine lv_iconst (v := 0) hx hb dX6_begin_88 (by decide) ?_
            refine lv_istore_n (lv' := [(2, .int 0), (1, .int (nI j)), (0, .ref mo)]) hx hb dX6_begin_89 rfl hl (by decide) rfl (fun ls hl => ?_)
            have hI0 : mI k Mc2 mo cn ia dr en la wo op mk ir se ec lc wc ol al dn md := ⟨_, _, _, _, _, _, _, fcn_2, fia_2, fdr_2, fen_2, fla_2, fwo_2, (upd fop ((nI j)).toNatClampNeg (vp_nar .boolean 1)), (upd fmk ((nI j)).toNatClampNeg 0), fir, fse, fec, flc, fol, fal, fwc, hap, kmo_2, hmd_2, ⟨hrC_2, hrL_2, hrM⟩, hcn_2, hia_2, hdr_2, hen_2, hla_2, hwo_2, kop_2, kmk_2, kir_2, kse_2, kec_2, klc_2, kwc_2, kol_2, kal_2⟩
            refine W_loop (σ := Nat × mM) (fun ⟨j2, Mj⟩ H locs ls => (j2 ≤ 9500) ∧ mI k Mj mo cn ia dr en la wo op mk ir se ec lc wc ol al dn md ∧ kpx (fun a => a ∈ [mo, cn, ia, dr, en, la, wo, op, mk, ir, se, ec, lc, wc, ol, al]) M Mj ∧ mm D (AZ z) Mj H ∧ va_S (AZ z) s.heap H locs ∧ lv_has ls 3 [(2, .int (nI j2)), (0, .ref mo), (1, .int (nI j))]) (fun ⟨j2, Mj⟩ => 9500 - j2) (fun _ => 0) (fun _ => 0) ?_ (0, Mc2) _ _ _ ⟨Nat.zero_le _, hI0, hkp, hm, hS, lv_sub hl [0, 2, 1] rfl⟩
            intro ⟨j2, Mj⟩ H locs ls hQ ih90
            obtain ⟨hj, hI, hkp, hm, hS, hl⟩ := hQ
            try dsimp only at hm hl ih90 ⊢
            obtain ⟨cd, ni, pw, cm, wr, cs, hm9, fcn, fia, fdr, fen, fla, fwo, fop, fmk, fir, fse, fec, flc, fol, fal, fwc, hap, hM, hmd, ⟨hrC, hrL, hrM⟩, hcn, hia, hdr, hen, hla, hwo, hop, hmk, hir, hse, hec, hlc, hwc, hol, hal⟩ := id hI
            have ne_mo_cn : nq mo cn := pw_ne hap 0 1 (by decide) (Nat.le_of_ble_eq_true rfl)
            have ne_cn_mo : nq cn mo := Ne.symm ne_mo_cn
            have ne_mo_ia : nq mo ia := pw_ne hap 0 2 (by decide) (Nat.le_of_ble_eq_true rfl)
            have ne_ia_mo : nq ia mo := Ne.symm ne_mo_ia
            have ne_mo_dr : nq mo dr := pw_ne hap 0 3 (by decide) (Nat.le_of_ble_eq_true rfl)
            have ne_dr_mo : nq dr mo := Ne.symm ne_mo_dr
            have ne_mo_en : nq mo en := pw_ne hap 0 4 (by decide) (Nat.le_of_ble_eq_true rfl)
            have ne_en_mo : nq en mo := Ne.symm ne_mo_en
            have ne_mo_la : nq mo la := pw_ne hap 0 5 (by decide) (Nat.le_of_ble_eq_true rfl)
            have ne_la_mo : nq la mo := Ne.symm ne_mo_la
            have ne_mo_wo : nq mo wo := pw_ne hap 0 6 (by decide) (Nat.le_of_ble_eq_true rfl)
            have ne_wo_mo : nq wo mo := Ne.symm ne_mo_wo
            have ne_mo_op : nq mo op := pw_ne hap 0 7 (by decide) (Nat.le_of_ble_eq_true rfl)
            have ne_op_mo : nq op mo := Ne.symm ne_mo_op
            have ne_mo_mk : nq mo mk := pw_ne hap 0 8 (by decide) (Nat.le_of_ble_eq_true rfl)
            have ne_mk_mo : nq mk mo := Ne.symm ne_mo_mk
            have ne_mo_ir : nq mo ir := pw_ne hap 0 9 (by decide) (Nat.le_of_ble_eq_true rfl)
            have ne_ir_mo : nq ir mo := Ne.symm ne_mo_ir
            have ne_mo_se : nq mo se := pw_ne hap 0 10 (by decide) (Nat.le_of_ble_eq_true rfl)
            have ne_se_mo : nq se mo := Ne.symm ne_mo_se
            have ne_mo_ec : nq mo ec := pw_ne hap 0 11 (by decide) (Nat.le_of_ble_eq_true rfl)
            have ne_ec_mo : nq ec mo := Ne.symm ne_mo_ec
            have ne_mo_lc : nq mo lc := pw_ne hap 0 12 (by decide) (Nat.le_of_ble_eq_true rfl)
            have ne_lc_mo : nq lc mo := Ne.symm ne_mo_lc
            have ne_mo_wc : nq mo wc := pw_ne hap 0 13 (by decide) (Nat.le_of_ble_eq_true rfl)
            have ne_wc_mo : nq wc mo := Ne.symm ne_mo_wc
            have ne_mo_ol : nq mo ol := pw_ne hap 0 14 (by decide) (Nat.le_of_ble_eq_true rfl)
            have ne_ol_mo : nq ol mo := Ne.symm ne_mo_ol
            have ne_mo_al : nq mo al := pw_ne hap 0 15 (by decide) (Nat.le_of_ble_eq_true rfl)
            have ne_al_mo : nq al mo := Ne.symm ne_mo_al
            have ne_cn_ia : nq cn ia := pw_ne hap 1 2 (by decide) (Nat.le_of_ble_eq_true rfl)
            have ne_ia_cn : nq ia cn := Ne.symm ne_cn_ia
            have ne_cn_dr : nq cn dr := pw_ne hap 1 3 (by decide) (Nat.le_of_ble_eq_true rfl)
            have ne_dr_cn : nq dr cn := Ne.symm ne_cn_dr
            have ne_cn_en : nq cn en := pw_ne hap 1 4 (by decide) (Nat.le_of_ble_eq_true rfl)
            have ne_en_cn : nq en cn := Ne.symm ne_cn_en
            have ne_cn_la : nq cn la := pw_ne hap 1 5 (by decide) (Nat.le_of_ble_eq_true rfl)
            have ne_la_cn : nq la cn := Ne.symm ne_cn_la
            have ne_cn_wo : nq cn wo := pw_ne hap 1 6 (by decide) (Nat.le_of_ble_eq_true rfl)
            have ne_wo_cn : nq wo cn := Ne.symm ne_cn_wo
            have ne_cn_op : nq cn op := pw_ne hap 1 7 (by decide) (Nat.le_of_ble_eq_true rfl)
            have ne_op_cn : nq op cn := Ne.symm ne_cn_op
            have ne_cn_mk : nq cn mk := pw_ne hap 1 8 (by decide) (Nat.le_of_ble_eq_true rfl)
            have ne_mk_cn : nq mk cn := Ne.symm ne_cn_mk
            have ne_cn_ir : nq cn ir := pw_ne hap 1 9 (by decide) (Nat.le_of_ble_eq_true rfl)
            have ne_ir_cn : nq ir cn := Ne.symm ne_cn_ir
            have ne_cn_se : nq cn se := pw_ne hap 1 10 (by decide) (Nat.le_of_ble_eq_true rfl)
            have ne_se_cn : nq se cn := Ne.symm ne_cn_se
            have ne_cn_ec : nq cn ec := pw_ne hap 1 11 (by decide) (Nat.le_of_ble_eq_true rfl)
            have ne_ec_cn : nq ec cn := Ne.symm ne_cn_ec
            have ne_cn_lc : nq cn lc := pw_ne hap 1 12 (by decide) (Nat.le_of_ble_eq_true rfl)
            have ne_lc_cn : nq lc cn := Ne.symm ne_cn_lc
            have ne_cn_wc : nq cn wc := pw_ne hap 1 13 (by decide) (Nat.le_of_ble_eq_true rfl)
            have ne_wc_cn : nq wc cn := Ne.symm ne_cn_wc
            have ne_cn_ol : nq cn ol := pw_ne hap 1 14 (by decide) (Nat.le_of_ble_eq_true rfl)
            have ne_ol_cn : nq ol cn := Ne.symm ne_cn_ol
            have ne_cn_al : nq cn al := pw_ne hap 1 15 (by decide) (Nat.le_of_ble_eq_true rfl)
            have ne_al_cn : nq al cn := Ne.symm ne_cn_al
            have ne_ia_dr : nq ia dr := pw_ne hap 2 3 (by decide) (Nat.le_of_ble_eq_true rfl)
            have ne_dr_ia : nq dr ia := Ne.symm ne_ia_dr
            have ne_ia_en : nq ia en := pw_ne hap 2 4 (by decide) (Nat.le_of_ble_eq_true rfl)
            have ne_en_ia : nq en ia := Ne.symm ne_ia_en
            have ne_ia_la : nq ia la := pw_ne hap 2 5 (by decide) (Nat.le_of_ble_eq_true rfl)
            have ne_la_ia : nq la ia := Ne.symm ne_ia_la
            have ne_ia_wo : nq ia wo := pw_ne hap 2 6 (by decide) (Nat.le_of_ble_eq_true rfl)
            have ne_wo_ia : nq wo ia := Ne.symm ne_ia_wo
            have ne_ia_op : nq ia op := pw_ne hap 2 7 (by decide) (Nat.le_of_ble_eq_true rfl)
            have ne_op_ia : nq op ia := Ne.symm ne_ia_op
            have ne_ia_mk : nq ia mk := pw_ne hap 2 8 (by decide) (Nat.le_of_ble_eq_true rfl)
            have ne_mk_ia : nq mk ia := Ne.symm ne_ia_mk
            have ne_ia_ir : nq ia ir := pw_ne hap 2 9 (by decide) (Nat.le_of_ble_eq_true rfl)
            have ne_ir_ia : nq ir ia := Ne.symm ne_ia_ir
            have ne_ia_se : nq ia se := pw_ne hap 2 10 (by decide) (Nat.le_of_ble_eq_true rfl)
            have ne_se_ia : nq se ia := Ne.symm ne_ia_se
            have ne_ia_ec : nq ia ec := pw_ne hap 2 11 (by decide) (Nat.le_of_ble_eq_true rfl)
            have ne_ec_ia : nq ec ia := Ne.symm ne_ia_ec
            have ne_ia_lc : nq ia lc := pw_ne hap 2 12 (by decide) (Nat.le_of_ble_eq_true rfl)
            have ne_lc_ia : nq lc ia := Ne.symm ne_ia_lc
            have ne_ia_wc : nq ia wc := pw_ne hap 2 13 (by decide) (Nat.le_of_ble_eq_true rfl)
            have ne_wc_ia : nq wc ia := Ne.symm ne_ia_wc
            have ne_ia_ol : nq ia ol := pw_ne hap 2 14 (by decide) (Nat.le_of_ble_eq_true rfl)
            have ne_ol_ia : nq ol ia := Ne.symm ne_ia_ol
            have ne_ia_al : nq ia al := pw_ne hap 2 15 (by decide) (Nat.le_of_ble_eq_true rfl)
            have ne_al_ia : nq al ia := Ne.symm ne_ia_al
            have ne_dr_en : nq dr en := pw_ne hap 3 4 (by decide) (Nat.le_of_ble_eq_true rfl)
            have ne_en_dr : nq en dr := Ne.symm ne_dr_en
            have ne_dr_la : nq dr la := pw_ne hap 3 5 (by decide) (Nat.le_of_ble_eq_true rfl)
            have ne_la_dr : nq la dr := Ne.symm ne_dr_la
            have ne_dr_wo : nq dr wo := pw_ne hap 3 6 (by decide) (Nat.le_of_ble_eq_true rfl)
            have ne_wo_dr : nq wo dr := Ne.symm ne_dr_wo
            have ne_dr_op : nq dr op := pw_ne hap 3 7 (by decide) (Nat.le_of_ble_eq_true rfl)
            have ne_op_dr : nq op dr := Ne.symm ne_dr_op
            have ne_dr_mk : nq dr mk := pw_ne hap 3 8 (by decide) (Nat.le_of_ble_eq_true rfl)
            have ne_mk_dr : nq mk dr := Ne.symm ne_dr_mk
            have ne_dr_ir : nq dr ir := pw_ne hap 3 9 (by decide) (Nat.le_of_ble_eq_true rfl)
            have ne_ir_dr : nq ir dr := Ne.symm ne_dr_ir
            have ne_dr_se : nq dr se := pw_ne hap 3 10 (by decide) (Nat.le_of_ble_eq_true rfl)
            have ne_se_dr : nq se dr := Ne.symm ne_dr_se
            have ne_dr_ec : nq dr ec := pw_ne hap 3 11 (by decide) (Nat.le_of_ble_eq_true rfl)
            have ne_ec_dr : nq ec dr := Ne.symm ne_dr_ec
            have ne_dr_lc : nq dr lc := pw_ne hap 3 12 (by decide) (Nat.le_of_ble_eq_true rfl)
            have ne_lc_dr : nq lc dr := Ne.symm ne_dr_lc
            have ne_dr_wc : nq dr wc := pw_ne hap 3 13 (by decide) (Nat.le_of_ble_eq_true rfl)
            have ne_wc_dr : nq wc dr := Ne.symm ne_dr_wc
            have ne_dr_ol : nq dr ol := pw_ne hap 3 14 (by decide) (Nat.le_of_ble_eq_true rfl)
            have ne_ol_dr : nq ol dr := Ne.symm ne_dr_ol
            have ne_dr_al : nq dr al := pw_ne hap 3 15 (by decide) (Nat.le_of_ble_eq_true rfl)
            have ne_al_dr : nq al dr := Ne.symm ne_dr_al
            have ne_en_la : nq en la := pw_ne hap 4 5 (by decide) (Nat.le_of_ble_eq_true rfl)
            have ne_la_en : nq la en := Ne.symm ne_en_la
            have ne_en_wo : nq en wo := pw_ne hap 4 6 (by decide) (Nat.le_of_ble_eq_true rfl)
            have ne_wo_en : nq wo en := Ne.symm ne_en_wo
            have ne_en_op : nq en op := pw_ne hap 4 7 (by decide) (Nat.le_of_ble_eq_true rfl)
            have ne_op_en : nq op en := Ne.symm ne_en_op
            have ne_en_mk : nq en mk := pw_ne hap 4 8 (by decide) (Nat.le_of_ble_eq_true rfl)
            have ne_mk_en : nq mk en := Ne.symm ne_en_mk
            have ne_en_ir : nq en ir := pw_ne hap 4 9 (by decide) (Nat.le_of_ble_eq_true rfl)
            have ne_ir_en : nq ir en := Ne.symm ne_en_ir
            have ne_en_se : nq en se := pw_ne hap 4 10 (by decide) (Nat.le_of_ble_eq_true rfl)
            have ne_se_en : nq se en := Ne.symm ne_en_se
            have ne_en_ec : nq en ec := pw_ne hap 4 11 (by decide) (Nat.le_of_ble_eq_true rfl)
            have ne_ec_en : nq ec en := Ne.symm ne_en_ec
            have ne_en_lc : nq en lc := pw_ne hap 4 12 (by decide) (Nat.le_of_ble_eq_true rfl)
            have ne_lc_en : nq lc en := Ne.symm ne_en_lc
            have ne_en_wc : nq en wc := pw_ne hap 4 13 (by decide) (Nat.le_of_ble_eq_true rfl)
            have ne_wc_en : nq wc en := Ne.symm ne_en_wc
            have ne_en_ol : nq en ol := pw_ne hap 4 14 (by decide) (Nat.le_of_ble_eq_true rfl)
            have ne_ol_en : nq ol en := Ne.symm ne_en_ol
            have ne_en_al : nq en al := pw_ne hap 4 15 (by decide) (Nat.le_of_ble_eq_true rfl)
            have ne_al_en : nq al en := Ne.symm ne_en_al
            have ne_la_wo : nq la wo := pw_ne hap 5 6 (by decide) (Nat.le_of_ble_eq_true rfl)
            have ne_wo_la : nq wo la := Ne.symm ne_la_wo
            have ne_la_op : nq la op := pw_ne hap 5 7 (by decide) (Nat.le_of_ble_eq_true rfl)
            have ne_op_la : nq op la := Ne.symm ne_la_op
            have ne_la_mk : nq la mk := pw_ne hap 5 8 (by decide) (Nat.le_of_ble_eq_true rfl)
            have ne_mk_la : nq mk la := Ne.symm ne_la_mk
            have ne_la_ir : nq la ir := pw_ne hap 5 9 (by decide) (Nat.le_of_ble_eq_true rfl)
            have ne_ir_la : nq ir la := Ne.symm ne_la_ir
            have ne_la_se : nq la se := pw_ne hap 5 10 (by decide) (Nat.le_of_ble_eq_true rfl)
            have ne_se_la : nq se la := Ne.symm ne_la_se
            have ne_la_ec : nq la ec := pw_ne hap 5 11 (by decide) (Nat.le_of_ble_eq_true rfl)
            have ne_ec_la : nq ec la := Ne.symm ne_la_ec
            have ne_la_lc : nq la lc := pw_ne hap 5 12 (by decide) (Nat.le_of_ble_eq_true rfl)
            have ne_lc_la : nq lc la := Ne.symm ne_la_lc
            have ne_la_wc : nq la wc := pw_ne hap 5 13 (by decide) (Nat.le_of_ble_eq_true rfl)
            have ne_wc_la : nq wc la := Ne.symm ne_la_wc
            have ne_la_ol : nq la ol := pw_ne hap 5 14 (by decide) (Nat.le_of_ble_eq_true rfl)
            have ne_ol_la : nq ol la := Ne.symm ne_la_ol
            have ne_la_al : nq la al := pw_ne hap 5 15 (by decide) (Nat.le_of_ble_eq_true rfl)
            have ne_al_la : nq al la := Ne.symm ne_la_al
            have ne_wo_op : nq wo op := pw_ne hap 6 7 (by decide) (Nat.le_of_ble_eq_true rfl)
            have ne_op_wo : nq op wo := Ne.symm ne_wo_op
            have ne_wo_mk : nq wo mk := pw_ne hap 6 8 (by decide) (Nat.le_of_ble_eq_true rfl)
            have ne_mk_wo : nq mk wo := Ne.symm ne_wo_mk
            have ne_wo_ir : nq wo ir := pw_ne hap 6 9 (by decide) (Nat.le_of_ble_eq_true rfl)
            have ne_ir_wo : nq ir wo := Ne.symm ne_wo_ir
            have ne_wo_se : nq wo se := pw_ne hap 6 10 (by decide) (Nat.le_of_ble_eq_true rfl)
            have ne_se_wo : nq se wo := Ne.symm ne_wo_se
            have ne_wo_ec : nq wo ec := pw_ne hap 6 11 (by decide) (Nat.le_of_ble_eq_true rfl)
            have ne_ec_wo : nq ec wo := Ne.symm ne_wo_ec
            have ne_wo_lc : nq wo lc := pw_ne hap 6 12 (by decide) (Nat.le_of_ble_eq_true rfl)
            have ne_lc_wo : nq lc wo := Ne.symm ne_wo_lc
            have ne_wo_wc : nq wo wc := pw_ne hap 6 13 (by decide) (Nat.le_of_ble_eq_true rfl)
            have ne_wc_wo : nq wc wo := Ne.symm ne_wo_wc
            have ne_wo_ol : nq wo ol := pw_ne hap 6 14 (by decide) (Nat.le_of_ble_eq_true rfl)
            have ne_ol_wo : nq ol wo := Ne.symm ne_wo_ol
            have ne_wo_al : nq wo al := pw_ne hap 6 15 (by decide) (Nat.le_of_ble_eq_true rfl)
            have ne_al_wo : nq al wo := Ne.symm ne_wo_al
            have ne_op_mk : nq op mk := pw_ne hap 7 8 (by decide) (Nat.le_of_ble_eq_true rfl)
            have ne_mk_op : nq mk op := Ne.symm ne_op_mk
            have ne_op_ir : nq op ir := pw_ne hap 7 9 (by decide) (Nat.le_of_ble_eq_true rfl)
            have ne_ir_op : nq ir op := Ne.symm ne_op_ir
            have ne_op_se : nq op se := pw_ne hap 7 10 (by decide) (Nat.le_of_ble_eq_true rfl)
            have ne_se_op : nq se op := Ne.symm ne_op_se
            have ne_op_ec : nq op ec := pw_ne hap 7 11 (by decide) (Nat.le_of_ble_eq_true rfl)
            have ne_ec_op : nq ec op := Ne.symm ne_op_ec
            have ne_op_lc : nq op lc := pw_ne hap 7 12 (by decide) (Nat.le_of_ble_eq_true rfl)
            have ne_lc_op : nq lc op := Ne.symm ne_op_lc
            have ne_op_wc : nq op wc := pw_ne hap 7 13 (by decide) (Nat.le_of_ble_eq_true rfl)
            have ne_wc_op : nq wc op := Ne.symm ne_op_wc
            have ne_op_ol : nq op ol := pw_ne hap 7 14 (by decide) (Nat.le_of_ble_eq_true rfl)
            have ne_ol_op : nq ol op := Ne.symm ne_op_ol
            have ne_op_al : nq op al := pw_ne hap 7 15 (by decide) (Nat.le_of_ble_eq_true rfl)
            have ne_al_op : nq al op := Ne.symm ne_op_al
            have ne_mk_ir : nq mk ir := pw_ne hap 8 9 (by decide) (Nat.le_of_ble_eq_true rfl)
            have ne_ir_mk : nq ir mk := Ne.symm ne_mk_ir
            have ne_mk_se : nq mk se := pw_ne hap 8 10 (by decide) (Nat.le_of_ble_eq_true rfl)
            have ne_se_mk : nq se mk := Ne.symm ne_mk_se
            have ne_mk_ec : nq mk ec := pw_ne hap 8 11 (by decide) (Nat.le_of_ble_eq_true rfl)
            have ne_ec_mk : nq ec mk := Ne.symm ne_mk_ec
            have ne_mk_lc : nq mk lc := pw_ne hap 8 12 (by decide) (Nat.le_of_ble_eq_true rfl)
            have ne_lc_mk : nq lc mk := Ne.symm ne_mk_lc
            have ne_mk_wc : nq mk wc := pw_ne hap 8 13 (by decide) (Nat.le_of_ble_eq_true rfl)
            have ne_wc_mk : nq wc mk := Ne.symm ne_mk_wc
            have ne_mk_ol : nq mk ol := pw_ne hap 8 14 (by decide) (Nat.le_of_ble_eq_true rfl)
            have ne_ol_mk : nq ol mk := Ne.symm ne_mk_ol
            have ne_mk_al : nq mk al := pw_ne hap 8 15 (by decide) (Nat.le_of_ble_eq_true rfl)
            have ne_al_mk : nq al mk := Ne.symm ne_mk_al
            have ne_ir_se : nq ir se := pw_ne hap 9 10 (by decide) (Nat.le_of_ble_eq_true rfl)
            have ne_se_ir : nq se ir := Ne.symm ne_ir_se
            have ne_ir_ec : nq ir ec := pw_ne hap 9 11 (by decide) (Nat.le_of_ble_eq_true rfl)
            have ne_ec_ir : nq ec ir := Ne.symm ne_ir_ec
            have ne_ir_lc : nq ir lc := pw_ne hap 9 12 (by decide) (Nat.le_of_ble_eq_true rfl)
            have ne_lc_ir : nq lc ir := Ne.symm ne_ir_lc
            have ne_ir_wc : nq ir wc := pw_ne hap 9 13 (by decide) (Nat.le_of_ble_eq_true rfl)
            have ne_wc_ir : nq wc ir := Ne.symm ne_ir_wc
            have ne_ir_ol : nq ir ol := pw_ne hap 9 14 (by decide) (Nat.le_of_ble_eq_true rfl)
            have ne_ol_ir : nq ol ir := Ne.symm ne_ir_ol
            have ne_ir_al : nq ir al := pw_ne hap 9 15 (by decide) (Nat.le_of_ble_eq_true rfl)
            have ne_al_ir : nq al ir := Ne.symm ne_ir_al
            have ne_se_ec : nq se ec := pw_ne hap 10 11 (by decide) (Nat.le_of_ble_eq_true rfl)
            have ne_ec_se : nq ec se := Ne.symm ne_se_ec
            have ne_se_lc : nq se lc := pw_ne hap 10 12 (by decide) (Nat.le_of_ble_eq_true rfl)
            have ne_lc_se : nq lc se := Ne.symm ne_se_lc
            have ne_se_wc : nq se wc := pw_ne hap 10 13 (by decide) (Nat.le_of_ble_eq_true rfl)
            have ne_wc_se : nq wc se := Ne.symm ne_se_wc
            have ne_se_ol : nq se ol := pw_ne hap 10 14 (by decide) (Nat.le_of_ble_eq_true rfl)
            have ne_ol_se : nq ol se := Ne.symm ne_se_ol
            have ne_se_al : nq se al := pw_ne hap 10 15 (by decide) (Nat.le_of_ble_eq_true rfl)
            have ne_al_se : nq al se := Ne.symm ne_se_al
            have ne_ec_lc : nq ec lc := pw_ne hap 11 12 (by decide) (Nat.le_of_ble_eq_true rfl)
            have ne_lc_ec : nq lc ec := Ne.symm ne_ec_lc
            have ne_ec_wc : nq ec wc := pw_ne hap 11 13 (by decide) (Nat.le_of_ble_eq_true rfl)
            have ne_wc_ec : nq wc ec := Ne.symm ne_ec_wc
            have ne_ec_ol : nq ec ol := pw_ne hap 11 14 (by decide) (Nat.le_of_ble_eq_true rfl)
            have ne_ol_ec : nq ol ec := Ne.symm ne_ec_ol
            have ne_ec_al : nq ec al := pw_ne hap 11 15 (by decide) (Nat.le_of_ble_eq_true rfl)
            have ne_al_ec : nq al ec := Ne.symm ne_ec_al
            have ne_lc_wc : nq lc wc := pw_ne hap 12 13 (by decide) (Nat.le_of_ble_eq_true rfl)
            have ne_wc_lc : nq wc lc := Ne.symm ne_lc_wc
            have ne_lc_ol : nq lc ol := pw_ne hap 12 14 (by decide) (Nat.le_of_ble_eq_true rfl)
            have ne_ol_lc : nq ol lc := Ne.symm ne_lc_ol
            have ne_lc_al : nq lc al := pw_ne hap 12 15 (by decide) (Nat.le_of_ble_eq_true rfl)
            have ne_al_lc : nq al lc := Ne.symm ne_lc_al
            have ne_wc_ol : nq wc ol := pw_ne hap 13 14 (by decide) (Nat.le_of_ble_eq_true rfl)
            have ne_ol_wc : nq ol wc := Ne.symm ne_wc_ol
            have ne_wc_al : nq wc al := pw_ne hap 13 15 (by decide) (Nat.le_of_ble_eq_true rfl)
            have ne_al_wc : nq al wc := Ne.symm ne_wc_al
            have ne_ol_al : nq ol al := pw_ne hap 14 15 (by decide) (Nat.le_of_ble_eq_true rfl)
            have ne_al_ol : nq al ol := Ne.symm ne_ol_al
            refine lv_iload_n hx hb dX6_begin_90 rfl (lv_at hl 0 rfl) ?_
            refine lv_sipush (v := 9500) hx hb dX6_begin_91 (by decide) ?_
            refine lv_icmp_ge (tgt := 116) hx hb dX6_begin_94 (by decide) (fun c10 => ?_) (fun c10 => ?_)
            · refine lv_iload_n hx hb dX6_begin_116 rfl (lv_at hl 2 rfl) ?_
              refine W.iret (v := (nI j)) hx hb hr (fun t ht hW => ⟨⟨some (.int (nI j)), _, rfl, ?_, by rw [ht]; exact hm⟩, hS.F ht⟩) hS.2.2 dX6_begin_117
              exact ⟨⟨_, rfl⟩, ⟨_, _, _, _, _, _, _, fcn, fia, fdr, fen, fla, fwo, fop, fmk, fir, fse, fec, flc, fol, fal, fwc, hap, hM, hmd, ⟨hrC, hrL, hrM⟩, hcn, hia, hdr, hen, hla, hwo, hop, hmk, hir, hse, hec, hlc, hwc, hol, hal⟩, hkp⟩
            · have hlt9 : j2 < 9500 := Nat.lt_of_not_le fun q => c10 (nI_le (a := 9500) q (by omega))
              refine lv_aload_n hx hb dX6_begin_97 rfl (lv_at hl 1 rfl) ?_
              refine m_get (T := TX6) (N := 24) (ci := 6) (v := .ref ir) hx hb hts wX6 hown hK hm hM rfl 10 (by decide) f42 (fun _ h9 => h9) rfl dX6_begin_98 ?_
              refine lv_sipush (v := 9500) hx hb dX6_begin_101 (by decide) ?_
              refine lv_iload_n hx hb dX6_begin_104 rfl (lv_at hl 2 rfl) ?_
              refine lv_imul hx hb dX6_begin_105 ?_
              refine W.eq (g2 := F0 m 106 ls [.int (nI (9500 * j)), .ref ir]) (by rw [show ((9500) * ((nI j)) : Int32) = nI (9500 * j) from pk_mul 9500 j]) ?_
              refine lv_iload_n hx hb dX6_begin_106 rfl (lv_at hl 0 rfl) ?_
              refine lv_iadd hx hb dX6_begin_107 ?_
              refine W.eq (g2 := F0 m 108 ls [.int (nI ((9500 * j) + j2)), .ref ir]) (by rw [show (((nI (9500 * j))) + ((nI j2)) : Int32) = nI ((9500 * j) + j2) from nI_add (9500 * j) j2]) ?_
              refine lv_iconst (v := 0) hx hb dX6_begin_108 (by decide) ?_
              refine m_zast hx hb hK hm hS 2 hir rfl (vp_in_nI (by omega) (by decide)) dX6_begin_109 (fun H locs hm hS => ?_)
              have hm : mm D (AZ z) (mu Mj ir (.inl (k 2, 57000, .inl (upd fir ((nI ((9500 * j) + j2))).toNatClampNeg (vp_nar .boolean 0))))) H := hm
              have hkp : kpx (fun a => a ∈ [mo, cn, ia, dr, en, la, wo, op, mk, ir, se, ec, lc, wc, ol, al]) M (mu Mj ir (.inl (k 2, 57000, .inl (upd fir ((nI ((9500 * j) + j2))).toNatClampNeg (vp_nar .boolean 0))))) := (hkp).self (by simp)
              refine lv_iinc (v := ((nI j2) + 1)) (lv' := [(2, .int ((nI j2) + 1)), (0, .ref mo), (1, .int (nI j))]) hx hb dX6_begin_110 hl (k := 0) rfl rfl (by decide) rfl (fun ls hl => ?_)
              refine lv_goto (tgt := 90) hx hb dX6_begin_113 (by decide) ?_
              rw [nI_1] at hl
              exact ih90 (j2 + 1, (mu Mj ir (.inl (k 2, 57000, .inl (upd fir ((nI ((9500 * j) + j2))).toNatClampNeg (vp_nar .boolean 0)))))) _ _ _ ⟨by omega, ⟨_, _, _, _, _, _, _, fcn, fia, fdr, fen, fla, fwo, fop, fmk, (upd fir ((nI ((9500 * j) + j2))).toNatClampNeg (vp_nar .boolean 0)), fse, fec, flc, fol, fal, fwc, hap, ((mu_ne ne_mo_ir).trans hM), hmd, ⟨hrC, hrL, hrM⟩, ((mu_ne ne_cn_ir).trans hcn), ((mu_ne ne_ia_ir).trans hia), ((mu_ne ne_dr_ir).trans hdr), ((mu_ne ne_en_ir).trans hen), ((mu_ne ne_la_ir).trans hla), ((mu_ne ne_wo_ir).trans hwo), ((mu_ne ne_op_ir).trans hop), ((mu_ne ne_mk_ir).trans hmk), (mu_self _ _ _), ((mu_ne ne_se_ir).trans hse), ((mu_ne ne_ec_ir).trans hec), ((mu_ne ne_lc_ir).trans hlc), ((mu_ne ne_wc_ir).trans hwc), ((mu_ne ne_ol_ir).trans hol), ((mu_ne ne_al_ir).trans hal)⟩, hkp, hm, hS, lv_sub hl [0, 1, 2] rfl⟩ (by show 9500 - (j2 + 1) < 9500 - j2; omega)
          · first | exact absurd c9 (by decide) | exact absurd (by decide) c9
        · exact absurd c8 (fun q => by have := nI_inj (a := j) (b := 6) (by omega) (by decide) q; omega)
      · refine lv_iconst (v := 1) hx hb dX6_begin_31 (by decide) ?_
        refine lv_goto (tgt := 46) hx hb dX6_begin_32 (by decide) ?_
        refine m_kV (As := [.int 1]) (rest := []) (rm := { frames := 0, cells := 0, slots := 0, locals := 0 }) ⟨hx, hb, hml, hown, hts⟩ (s_X6_failsE l D k z _ mo cn ia dr en la wo op mk ir se ec lc wc ol al cd ni dn md pw cm wr cs hm9 1 hM) (cwV 1 hts gX6_begin_X6_fails rfl rfl rfl (by decide +kernel) ⟨Nat.le_of_ble_eq_true rfl, Nat.le_of_ble_eq_true rfl⟩) (m_recv hK hm (q := (RX6, TX6, 24)) rfl hM) hz hcx hm hS rfl hl.1 rfl (Nat.le_of_ble_eq_true rfl) dX6_begin_46 ⟨Nat.le_of_ble_eq_true rfl, Nat.le_of_ble_eq_true rfl⟩ (fun v M1 H locs hv hm hS => ?_)
        obtain ⟨hv1, hM1⟩ := hv
        have hv1 : v = some (.int 1) := hv1.trans (by decide)
        subst hv1
        rw [hM1] at hm
        refine W.eq (g2 := F0 m 49 ls [.int 1]) rfl ?_
        refine W.widen (k := 0) (n := 0) (Nat.le_of_ble_eq_true rfl) (Nat.le_of_ble_eq_true rfl) ?_
        have hm : mm D (AZ z) (mu M mo (.inr (6, [.int 1, .ref cn, .ref ia, .ref dr, .ref en, .ref la, .ref wo, .int ni, .ref op, .ref mk, .ref ir, .int dn, .int md, .int pw, .int cm, .int wr, .ref se, .ref ec, .ref lc, .ref wc, .ref ol, .ref al, .int cs, .int hm9]))) H := hm
        have hkp : kpx (fun a => a ∈ [mo, cn, ia, dr, en, la, wo, op, mk, ir, se, ec, lc, wc, ol, al]) M (mu M mo (.inr (6, [.int 1, .ref cn, .ref ia, .ref dr, .ref en, .ref la, .ref wo, .int ni, .ref op, .ref mk, .ref ir, .int dn, .int md, .int pw, .int cm, .int wr, .ref se, .ref ec, .ref lc, .ref wc, .ref ol, .ref al, .int cs, .int hm9]))) := (hkp).self (by simp)
        refine lv_if_eq (tgt := 54) hx hb dX6_begin_49 (by decide) (fun c11 => ?_) (fun c11 => ?_)
        · first | exact absurd c11 (by decide) | exact absurd (by decide) c11
        · refine lv_iconst (v := 0) hx hb dX6_begin_52 (by decide) ?_
          refine W.iret (v := 0) hx hb hr (fun t ht hW => ⟨⟨some (.int 0), _, rfl, ?_, by rw [ht]; exact hm⟩, hS.F ht⟩) hS.2.2 dX6_begin_53
          exact ⟨⟨_, rfl⟩, ⟨_, _, _, _, _, _, _, fcn, fia, fdr, fen, fla, fwo, fop, fmk, fir, fse, fec, flc, fol, fal, fwc, hap, (mu_self _ _ _), hmd, ⟨hrC, hrL, hrM⟩, ((mu_ne ne_cn_mo).trans hcn), ((mu_ne ne_ia_mo).trans hia), ((mu_ne ne_dr_mo).trans hdr), ((mu_ne ne_en_mo).trans hen), ((mu_ne ne_la_mo).trans hla), ((mu_ne ne_wo_mo).trans hwo), ((mu_ne ne_op_mo).trans hop), ((mu_ne ne_mk_mo).trans hmk), ((mu_ne ne_ir_mo).trans hir), ((mu_ne ne_se_mo).trans hse), ((mu_ne ne_ec_mo).trans hec), ((mu_ne ne_lc_mo).trans hlc), ((mu_ne ne_wc_mo).trans hwc), ((mu_ne ne_ol_mo).trans hol), ((mu_ne ne_al_mo).trans hal)⟩, hkp⟩
    · refine lv_iinc (v := ((nI j) + 1)) (lv' := [(1, .int ((nI j) + 1)), (0, .ref mo)]) hx hb dX6_begin_17 hl (k := 0) rfl rfl (by decide) rfl (fun ls hl => ?_)
      refine lv_goto (tgt := 2) hx hb dX6_begin_20 (by decide) ?_
      rw [nI_1] at hl
      exact ih2 (j + 1) _ _ _ ⟨by omega, hm, hS, lv_sub hl [0, 1] rfl⟩ (by show 6 - (j + 1) < 6 - j; omega)

set_option maxHeartbeats 4000000 in
set_option maxRecDepth 100000 in
theorem s_X6_mark (l : Launch) (D : va_G) (k : Nat → ClassId) (z : Nat) (M : mM) (mo cn ia dr en la wo op mk ir se ec lc wc ol al : Nat) (dn md : Int32)  (tq : Int32) (hbd : md ≠ 0 → dn ≠ 0) (hI : mI k M mo cn ia dr en la wo op mk ir se ec lc wc ol al dn md) : mK l yX6_mark wsX6_mark ({ frames := 2, cells := 0, slots := 0, locals := 46 }) D k z [.ref mo, .int tq] M (fun v M' => (∃ x, v = some (.int x)) ∧ mI k M' mo cn ia dr en la wo op mk ir se ec lc wc ol al dn md ∧ kpx (fun a => a ∈ [mo, cn, ia, dr, en, la, wo, op, mk, ir, se, ec, lc, wc, ol, al]) M M') := by
  refine Met.ofW (cc := cX6_mark) (maxL := 2) (ret := (some .int)) (by decide) rfl ?_
  intro p e s m args below meth c s₁ B hml hv
  obtain ⟨rfl, hz, hcx, hm⟩ := hv
  have hx := B.exec
  have hb := B.bytes
  have hr := B.returns
  have hts := atoms_spec (ws := wsX6_mark) B.pre
  have hown : s.vm.findClass RX6 = some m.cls := findClass_of_methodNamed B.named
  have hlocks := B.notSynchronized
  have hK := hcx.1
  have hS : va_S (AZ z) s.heap s.heap [] := va_S.rf
  have hA : ∀ q, s.heap.size ≤ q → AZ z q := fun q h => Nat.le_trans hz h
  have hl := lv_entry ([.ref mo, .int tq]) (n := 2) (Nat.le_of_ble_eq_true rfl)
  rw [lg_entry_eq]
  generalize (lg_sl ([.ref mo, .int tq]) ++ List.replicate (2 - (lg_sl ([.ref mo, .int tq])).length) Slot.unset).toArray = ls at hl ⊢
  have hl : lv_has ls 2 [(0, .ref mo), (1, .int tq)] := hl
  have f38 := hts (.fieldLink RX6 38 "CommitTreeModel" "marks" "[I") (by decide +kernel)
  have wX6 : ∀ w ∈ wsX60, w ∈ wsX6_mark := by decide +kernel
  obtain ⟨cd, ni, pw, cm, wr, cs, hm9, fcn, fia, fdr, fen, fla, fwo, fop, fmk, fir, fse, fec, flc, fol, fal, fwc, hap, hM, hmd, ⟨hrC, hrL, hrM⟩, hcn, hia, hdr, hen, hla, hwo, hop, hmk, hir, hse, hec, hlc, hwc, hol, hal⟩ := id hI
  have ne_mo_cn : nq mo cn := pw_ne hap 0 1 (by decide) (Nat.le_of_ble_eq_true rfl)
  have ne_cn_mo : nq cn mo := Ne.symm ne_mo_cn
  have ne_mo_ia : nq mo ia := pw_ne hap 0 2 (by decide) (Nat.le_of_ble_eq_true rfl)
  have ne_ia_mo : nq ia mo := Ne.symm ne_mo_ia
  have ne_mo_dr : nq mo dr := pw_ne hap 0 3 (by decide) (Nat.le_of_ble_eq_true rfl)
  have ne_dr_mo : nq dr mo := Ne.symm ne_mo_dr
  have ne_mo_en : nq mo en := pw_ne hap 0 4 (by decide) (Nat.le_of_ble_eq_true rfl)
  have ne_en_mo : nq en mo := Ne.symm ne_mo_en
  have ne_mo_la : nq mo la := pw_ne hap 0 5 (by decide) (Nat.le_of_ble_eq_true rfl)
  have ne_la_mo : nq la mo := Ne.symm ne_mo_la
  have ne_mo_wo : nq mo wo := pw_ne hap 0 6 (by decide) (Nat.le_of_ble_eq_true rfl)
  have ne_wo_mo : nq wo mo := Ne.symm ne_mo_wo
  have ne_mo_op : nq mo op := pw_ne hap 0 7 (by decide) (Nat.le_of_ble_eq_true rfl)
  have ne_op_mo : nq op mo := Ne.symm ne_mo_op
  have ne_mo_mk : nq mo mk := pw_ne hap 0 8 (by decide) (Nat.le_of_ble_eq_true rfl)
  have ne_mk_mo : nq mk mo := Ne.symm ne_mo_mk
  have ne_mo_ir : nq mo ir := pw_ne hap 0 9 (by decide) (Nat.le_of_ble_eq_true rfl)
  have ne_ir_mo : nq ir mo := Ne.symm ne_mo_ir
  have ne_mo_se : nq mo se := pw_ne hap 0 10 (by decide) (Nat.le_of_ble_eq_true rfl)
  have ne_se_mo : nq se mo := Ne.symm ne_mo_se
  have ne_mo_ec : nq mo ec := pw_ne hap 0 11 (by decide) (Nat.le_of_ble_eq_true rfl)
  have ne_ec_mo : nq ec mo := Ne.symm ne_mo_ec
  have ne_mo_lc : nq mo lc := pw_ne hap 0 12 (by decide) (Nat.le_of_ble_eq_true rfl)
  have ne_lc_mo : nq lc mo := Ne.symm ne_mo_lc
  have ne_mo_wc : nq mo wc := pw_ne hap 0 13 (by decide) (Nat.le_of_ble_eq_true rfl)
  have ne_wc_mo : nq wc mo := Ne.symm ne_mo_wc
  have ne_mo_ol : nq mo ol := pw_ne hap 0 14 (by decide) (Nat.le_of_ble_eq_true rfl)
  have ne_ol_mo : nq ol mo := Ne.symm ne_mo_ol
  have ne_mo_al : nq mo al := pw_ne hap 0 15 (by decide) (Nat.le_of_ble_eq_true rfl)
  have ne_al_mo : nq al mo := Ne.symm ne_mo_al
  have ne_cn_ia : nq cn ia := pw_ne hap 1 2 (by decide) (Nat.le_of_ble_eq_true rfl)
  have ne_ia_cn : nq ia cn := Ne.symm ne_cn_ia
  have ne_cn_dr : nq cn dr := pw_ne hap 1 3 (by decide) (Nat.le_of_ble_eq_true rfl)
  have ne_dr_cn : nq dr cn := Ne.symm ne_cn_dr
  have ne_cn_en : nq cn en := pw_ne hap 1 4 (by decide) (Nat.le_of_ble_eq_true rfl)
  have ne_en_cn : nq en cn := Ne.symm ne_cn_en
  have ne_cn_la : nq cn la := pw_ne hap 1 5 (by decide) (Nat.le_of_ble_eq_true rfl)
  have ne_la_cn : nq la cn := Ne.symm ne_cn_la
  have ne_cn_wo : nq cn wo := pw_ne hap 1 6 (by decide) (Nat.le_of_ble_eq_true rfl)
  have ne_wo_cn : nq wo cn := Ne.symm ne_cn_wo
  have ne_cn_op : nq cn op := pw_ne hap 1 7 (by decide) (Nat.le_of_ble_eq_true rfl)
  have ne_op_cn : nq op cn := Ne.symm ne_cn_op
  have ne_cn_mk : nq cn mk := pw_ne hap 1 8 (by decide) (Nat.le_of_ble_eq_true rfl)
  have ne_mk_cn : nq mk cn := Ne.symm ne_cn_mk
  have ne_cn_ir : nq cn ir := pw_ne hap 1 9 (by decide) (Nat.le_of_ble_eq_true rfl)
  have ne_ir_cn : nq ir cn := Ne.symm ne_cn_ir
  have ne_cn_se : nq cn se := pw_ne hap 1 10 (by decide) (Nat.le_of_ble_eq_true rfl)
  have ne_se_cn : nq se cn := Ne.symm ne_cn_se
  have ne_cn_ec : nq cn ec := pw_ne hap 1 11 (by decide) (Nat.le_of_ble_eq_true rfl)
  have ne_ec_cn : nq ec cn := Ne.symm ne_cn_ec
  have ne_cn_lc : nq cn lc := pw_ne hap 1 12 (by decide) (Nat.le_of_ble_eq_true rfl)
  have ne_lc_cn : nq lc cn := Ne.symm ne_cn_lc
  have ne_cn_wc : nq cn wc := pw_ne hap 1 13 (by decide) (Nat.le_of_ble_eq_true rfl)
  have ne_wc_cn : nq wc cn := Ne.symm ne_cn_wc
  have ne_cn_ol : nq cn ol := pw_ne hap 1 14 (by decide) (Nat.le_of_ble_eq_true rfl)
  have ne_ol_cn : nq ol cn := Ne.symm ne_cn_ol
  have ne_cn_al : nq cn al := pw_ne hap 1 15 (by decide) (Nat.le_of_ble_eq_true rfl)
  have ne_al_cn : nq al cn := Ne.symm ne_cn_al
  have ne_ia_dr : nq ia dr := pw_ne hap 2 3 (by decide) (Nat.le_of_ble_eq_true rfl)
  have ne_dr_ia : nq dr ia := Ne.symm ne_ia_dr
  have ne_ia_en : nq ia en := pw_ne hap 2 4 (by decide) (Nat.le_of_ble_eq_true rfl)
  have ne_en_ia : nq en ia := Ne.symm ne_ia_en
  have ne_ia_la : nq ia la := pw_ne hap 2 5 (by decide) (Nat.le_of_ble_eq_true rfl)
  have ne_la_ia : nq la ia := Ne.symm ne_ia_la
  have ne_ia_wo : nq ia wo := pw_ne hap 2 6 (by decide) (Nat.le_of_ble_eq_true rfl)
  have ne_wo_ia : nq wo ia := Ne.symm ne_ia_wo
  have ne_ia_op : nq ia op := pw_ne hap 2 7 (by decide) (Nat.le_of_ble_eq_true rfl)
  have ne_op_ia : nq op ia := Ne.symm ne_ia_op
  have ne_ia_mk : nq ia mk := pw_ne hap 2 8 (by decide) (Nat.le_of_ble_eq_true rfl)
  have ne_mk_ia : nq mk ia := Ne.symm ne_ia_mk
  have ne_ia_ir : nq ia ir := pw_ne hap 2 9 (by decide) (Nat.le_of_ble_eq_true rfl)
  have ne_ir_ia : nq ir ia := Ne.symm ne_ia_ir
  have ne_ia_se : nq ia se := pw_ne hap 2 10 (by decide) (Nat.le_of_ble_eq_true rfl)
  have ne_se_ia : nq se ia := Ne.symm ne_ia_se
  have ne_ia_ec : nq ia ec := pw_ne hap 2 11 (by decide) (Nat.le_of_ble_eq_true rfl)
  have ne_ec_ia : nq ec ia := Ne.symm ne_ia_ec
  have ne_ia_lc : nq ia lc := pw_ne hap 2 12 (by decide) (Nat.le_of_ble_eq_true rfl)
  have ne_lc_ia : nq lc ia := Ne.symm ne_ia_lc
  have ne_ia_wc : nq ia wc := pw_ne hap 2 13 (by decide) (Nat.le_of_ble_eq_true rfl)
  have ne_wc_ia : nq wc ia := Ne.symm ne_ia_wc
  have ne_ia_ol : nq ia ol := pw_ne hap 2 14 (by decide) (Nat.le_of_ble_eq_true rfl)
  have ne_ol_ia : nq ol ia := Ne.symm ne_ia_ol
  have ne_ia_al : nq ia al := pw_ne hap 2 15 (by decide) (Nat.le_of_ble_eq_true rfl)
  have ne_al_ia : nq al ia := Ne.symm ne_ia_al
  have ne_dr_en : nq dr en := pw_ne hap 3 4 (by decide) (Nat.le_of_ble_eq_true rfl)
  have ne_en_dr : nq en dr := Ne.symm ne_dr_en
  have ne_dr_la : nq dr la := pw_ne hap 3 5 (by decide) (Nat.le_of_ble_eq_true rfl)
  have ne_la_dr : nq la dr := Ne.symm ne_dr_la
  have ne_dr_wo : nq dr wo := pw_ne hap 3 6 (by decide) (Nat.le_of_ble_eq_true rfl)
  have ne_wo_dr : nq wo dr := Ne.symm ne_dr_wo
  have ne_dr_op : nq dr op := pw_ne hap 3 7 (by decide) (Nat.le_of_ble_eq_true rfl)
  have ne_op_dr : nq op dr := Ne.symm ne_dr_op
  have ne_dr_mk : nq dr mk := pw_ne hap 3 8 (by decide) (Nat.le_of_ble_eq_true rfl)
  have ne_mk_dr : nq mk dr := Ne.symm ne_dr_mk
  have ne_dr_ir : nq dr ir := pw_ne hap 3 9 (by decide) (Nat.le_of_ble_eq_true rfl)
  have ne_ir_dr : nq ir dr := Ne.symm ne_dr_ir
  have ne_dr_se : nq dr se := pw_ne hap 3 10 (by decide) (Nat.le_of_ble_eq_true rfl)
  have ne_se_dr : nq se dr := Ne.symm ne_dr_se
  have ne_dr_ec : nq dr ec := pw_ne hap 3 11 (by decide) (Nat.le_of_ble_eq_true rfl)
  have ne_ec_dr : nq ec dr := Ne.symm ne_dr_ec
  have ne_dr_lc : nq dr lc := pw_ne hap 3 12 (by decide) (Nat.le_of_ble_eq_true rfl)
  have ne_lc_dr : nq lc dr := Ne.symm ne_dr_lc
  have ne_dr_wc : nq dr wc := pw_ne hap 3 13 (by decide) (Nat.le_of_ble_eq_true rfl)
  have ne_wc_dr : nq wc dr := Ne.symm ne_dr_wc
  have ne_dr_ol : nq dr ol := pw_ne hap 3 14 (by decide) (Nat.le_of_ble_eq_true rfl)
  have ne_ol_dr : nq ol dr := Ne.symm ne_dr_ol
  have ne_dr_al : nq dr al := pw_ne hap 3 15 (by decide) (Nat.le_of_ble_eq_true rfl)
  have ne_al_dr : nq al dr := Ne.symm ne_dr_al
  have ne_en_la : nq en la := pw_ne hap 4 5 (by decide) (Nat.le_of_ble_eq_true rfl)
  have ne_la_en : nq la en := Ne.symm ne_en_la
  have ne_en_wo : nq en wo := pw_ne hap 4 6 (by decide) (Nat.le_of_ble_eq_true rfl)
  have ne_wo_en : nq wo en := Ne.symm ne_en_wo
  have ne_en_op : nq en op := pw_ne hap 4 7 (by decide) (Nat.le_of_ble_eq_true rfl)
  have ne_op_en : nq op en := Ne.symm ne_en_op
  have ne_en_mk : nq en mk := pw_ne hap 4 8 (by decide) (Nat.le_of_ble_eq_true rfl)
  have ne_mk_en : nq mk en := Ne.symm ne_en_mk
  have ne_en_ir : nq en ir := pw_ne hap 4 9 (by decide) (Nat.le_of_ble_eq_true rfl)
  have ne_ir_en : nq ir en := Ne.symm ne_en_ir
  have ne_en_se : nq en se := pw_ne hap 4 10 (by decide) (Nat.le_of_ble_eq_true rfl)
  have ne_se_en : nq se en := Ne.symm ne_en_se
  have ne_en_ec : nq en ec := pw_ne hap 4 11 (by decide) (Nat.le_of_ble_eq_true rfl)
  have ne_ec_en : nq ec en := Ne.symm ne_en_ec
  have ne_en_lc : nq en lc := pw_ne hap 4 12 (by decide) (Nat.le_of_ble_eq_true rfl)
  have ne_lc_en : nq lc en := Ne.symm ne_en_lc
  have ne_en_wc : nq en wc := pw_ne hap 4 13 (by decide) (Nat.le_of_ble_eq_true rfl)
  have ne_wc_en : nq wc en := Ne.symm ne_en_wc
  have ne_en_ol : nq en ol := pw_ne hap 4 14 (by decide) (Nat.le_of_ble_eq_true rfl)
  have ne_ol_en : nq ol en := Ne.symm ne_en_ol
  have ne_en_al : nq en al := pw_ne hap 4 15 (by decide) (Nat.le_of_ble_eq_true rfl)
  have ne_al_en : nq al en := Ne.symm ne_en_al
  have ne_la_wo : nq la wo := pw_ne hap 5 6 (by decide) (Nat.le_of_ble_eq_true rfl)
  have ne_wo_la : nq wo la := Ne.symm ne_la_wo
  have ne_la_op : nq la op := pw_ne hap 5 7 (by decide) (Nat.le_of_ble_eq_true rfl)
  have ne_op_la : nq op la := Ne.symm ne_la_op
  have ne_la_mk : nq la mk := pw_ne hap 5 8 (by decide) (Nat.le_of_ble_eq_true rfl)
  have ne_mk_la : nq mk la := Ne.symm ne_la_mk
  have ne_la_ir : nq la ir := pw_ne hap 5 9 (by decide) (Nat.le_of_ble_eq_true rfl)
  have ne_ir_la : nq ir la := Ne.symm ne_la_ir
  have ne_la_se : nq la se := pw_ne hap 5 10 (by decide) (Nat.le_of_ble_eq_true rfl)
  have ne_se_la : nq se la := Ne.symm ne_la_se
  have ne_la_ec : nq la ec := pw_ne hap 5 11 (by decide) (Nat.le_of_ble_eq_true rfl)
  have ne_ec_la : nq ec la := Ne.symm ne_la_ec
  have ne_la_lc : nq la lc := pw_ne hap 5 12 (by decide) (Nat.le_of_ble_eq_true rfl)
  have ne_lc_la : nq lc la := Ne.symm ne_la_lc
  have ne_la_wc : nq la wc := pw_ne hap 5 13 (by decide) (Nat.le_of_ble_eq_true rfl)
  have ne_wc_la : nq wc la := Ne.symm ne_la_wc
  have ne_la_ol : nq la ol := pw_ne hap 5 14 (by decide) (Nat.le_of_ble_eq_true rfl)
  have ne_ol_la : nq ol la := Ne.symm ne_la_ol
  have ne_la_al : nq la al := pw_ne hap 5 15 (by decide) (Nat.le_of_ble_eq_true rfl)
  have ne_al_la : nq al la := Ne.symm ne_la_al
  have ne_wo_op : nq wo op := pw_ne hap 6 7 (by decide) (Nat.le_of_ble_eq_true rfl)
  have ne_op_wo : nq op wo := Ne.symm ne_wo_op
  have ne_wo_mk : nq wo mk := pw_ne hap 6 8 (by decide) (Nat.le_of_ble_eq_true rfl)
  have ne_mk_wo : nq mk wo := Ne.symm ne_wo_mk
  have ne_wo_ir : nq wo ir := pw_ne hap 6 9 (by decide) (Nat.le_of_ble_eq_true rfl)
  have ne_ir_wo : nq ir wo := Ne.symm ne_wo_ir
  have ne_wo_se : nq wo se := pw_ne hap 6 10 (by decide) (Nat.le_of_ble_eq_true rfl)
  have ne_se_wo : nq se wo := Ne.symm ne_wo_se
  have ne_wo_ec : nq wo ec := pw_ne hap 6 11 (by decide) (Nat.le_of_ble_eq_true rfl)
  have ne_ec_wo : nq ec wo := Ne.symm ne_wo_ec
  have ne_wo_lc : nq wo lc := pw_ne hap 6 12 (by decide) (Nat.le_of_ble_eq_true rfl)
  have ne_lc_wo : nq lc wo := Ne.symm ne_wo_lc
  have ne_wo_wc : nq wo wc := pw_ne hap 6 13 (by decide) (Nat.le_of_ble_eq_true rfl)
  have ne_wc_wo : nq wc wo := Ne.symm ne_wo_wc
  have ne_wo_ol : nq wo ol := pw_ne hap 6 14 (by decide) (Nat.le_of_ble_eq_true rfl)
  have ne_ol_wo : nq ol wo := Ne.symm ne_wo_ol
  have ne_wo_al : nq wo al := pw_ne hap 6 15 (by decide) (Nat.le_of_ble_eq_true rfl)
  have ne_al_wo : nq al wo := Ne.symm ne_wo_al
  have ne_op_mk : nq op mk := pw_ne hap 7 8 (by decide) (Nat.le_of_ble_eq_true rfl)
  have ne_mk_op : nq mk op := Ne.symm ne_op_mk
  have ne_op_ir : nq op ir := pw_ne hap 7 9 (by decide) (Nat.le_of_ble_eq_true rfl)
  have ne_ir_op : nq ir op := Ne.symm ne_op_ir
  have ne_op_se : nq op se := pw_ne hap 7 10 (by decide) (Nat.le_of_ble_eq_true rfl)
  have ne_se_op : nq se op := Ne.symm ne_op_se
  have ne_op_ec : nq op ec := pw_ne hap 7 11 (by decide) (Nat.le_of_ble_eq_true rfl)
  have ne_ec_op : nq ec op := Ne.symm ne_op_ec
  have ne_op_lc : nq op lc := pw_ne hap 7 12 (by decide) (Nat.le_of_ble_eq_true rfl)
  have ne_lc_op : nq lc op := Ne.symm ne_op_lc
  have ne_op_wc : nq op wc := pw_ne hap 7 13 (by decide) (Nat.le_of_ble_eq_true rfl)
  have ne_wc_op : nq wc op := Ne.symm ne_op_wc
  have ne_op_ol : nq op ol := pw_ne hap 7 14 (by decide) (Nat.le_of_ble_eq_true rfl)
  have ne_ol_op : nq ol op := Ne.symm ne_op_ol
  have ne_op_al : nq op al := pw_ne hap 7 15 (by decide) (Nat.le_of_ble_eq_true rfl)
  have ne_al_op : nq al op := Ne.symm ne_op_al
  have ne_mk_ir : nq mk ir := pw_ne hap 8 9 (by decide) (Nat.le_of_ble_eq_true rfl)
  have ne_ir_mk : nq ir mk := Ne.symm ne_mk_ir
  have ne_mk_se : nq mk se := pw_ne hap 8 10 (by decide) (Nat.le_of_ble_eq_true rfl)
  have ne_se_mk : nq se mk := Ne.symm ne_mk_se
  have ne_mk_ec : nq mk ec := pw_ne hap 8 11 (by decide) (Nat.le_of_ble_eq_true rfl)
  have ne_ec_mk : nq ec mk := Ne.symm ne_mk_ec
  have ne_mk_lc : nq mk lc := pw_ne hap 8 12 (by decide) (Nat.le_of_ble_eq_true rfl)
  have ne_lc_mk : nq lc mk := Ne.symm ne_mk_lc
  have ne_mk_wc : nq mk wc := pw_ne hap 8 13 (by decide) (Nat.le_of_ble_eq_true rfl)
  have ne_wc_mk : nq wc mk := Ne.symm ne_mk_wc
  have ne_mk_ol : nq mk ol := pw_ne hap 8 14 (by decide) (Nat.le_of_ble_eq_true rfl)
  have ne_ol_mk : nq ol mk := Ne.symm ne_mk_ol
  have ne_mk_al : nq mk al := pw_ne hap 8 15 (by decide) (Nat.le_of_ble_eq_true rfl)
  have ne_al_mk : nq al mk := Ne.symm ne_mk_al
  have ne_ir_se : nq ir se := pw_ne hap 9 10 (by decide) (Nat.le_of_ble_eq_true rfl)
  have ne_se_ir : nq se ir := Ne.symm ne_ir_se
  have ne_ir_ec : nq ir ec := pw_ne hap 9 11 (by decide) (Nat.le_of_ble_eq_true rfl)
  have ne_ec_ir : nq ec ir := Ne.symm ne_ir_ec
  have ne_ir_lc : nq ir lc := pw_ne hap 9 12 (by decide) (Nat.le_of_ble_eq_true rfl)
  have ne_lc_ir : nq lc ir := Ne.symm ne_ir_lc
  have ne_ir_wc : nq ir wc := pw_ne hap 9 13 (by decide) (Nat.le_of_ble_eq_true rfl)
  have ne_wc_ir : nq wc ir := Ne.symm ne_ir_wc
  have ne_ir_ol : nq ir ol := pw_ne hap 9 14 (by decide) (Nat.le_of_ble_eq_true rfl)
  have ne_ol_ir : nq ol ir := Ne.symm ne_ir_ol
  have ne_ir_al : nq ir al := pw_ne hap 9 15 (by decide) (Nat.le_of_ble_eq_true rfl)
  have ne_al_ir : nq al ir := Ne.symm ne_ir_al
  have ne_se_ec : nq se ec := pw_ne hap 10 11 (by decide) (Nat.le_of_ble_eq_true rfl)
  have ne_ec_se : nq ec se := Ne.symm ne_se_ec
  have ne_se_lc : nq se lc := pw_ne hap 10 12 (by decide) (Nat.le_of_ble_eq_true rfl)
  have ne_lc_se : nq lc se := Ne.symm ne_se_lc
  have ne_se_wc : nq se wc := pw_ne hap 10 13 (by decide) (Nat.le_of_ble_eq_true rfl)
  have ne_wc_se : nq wc se := Ne.symm ne_se_wc
  have ne_se_ol : nq se ol := pw_ne hap 10 14 (by decide) (Nat.le_of_ble_eq_true rfl)
  have ne_ol_se : nq ol se := Ne.symm ne_se_ol
  have ne_se_al : nq se al := pw_ne hap 10 15 (by decide) (Nat.le_of_ble_eq_true rfl)
  have ne_al_se : nq al se := Ne.symm ne_se_al
  have ne_ec_lc : nq ec lc := pw_ne hap 11 12 (by decide) (Nat.le_of_ble_eq_true rfl)
  have ne_lc_ec : nq lc ec := Ne.symm ne_ec_lc
  have ne_ec_wc : nq ec wc := pw_ne hap 11 13 (by decide) (Nat.le_of_ble_eq_true rfl)
  have ne_wc_ec : nq wc ec := Ne.symm ne_ec_wc
  have ne_ec_ol : nq ec ol := pw_ne hap 11 14 (by decide) (Nat.le_of_ble_eq_true rfl)
  have ne_ol_ec : nq ol ec := Ne.symm ne_ec_ol
  have ne_ec_al : nq ec al := pw_ne hap 11 15 (by decide) (Nat.le_of_ble_eq_true rfl)
  have ne_al_ec : nq al ec := Ne.symm ne_ec_al
  have ne_lc_wc : nq lc wc := pw_ne hap 12 13 (by decide) (Nat.le_of_ble_eq_true rfl)
  have ne_wc_lc : nq wc lc := Ne.symm ne_lc_wc
  have ne_lc_ol : nq lc ol := pw_ne hap 12 14 (by decide) (Nat.le_of_ble_eq_true rfl)
  have ne_ol_lc : nq ol lc := Ne.symm ne_lc_ol
  have ne_lc_al : nq lc al := pw_ne hap 12 15 (by decide) (Nat.le_of_ble_eq_true rfl)
  have ne_al_lc : nq al lc := Ne.symm ne_lc_al
  have ne_wc_ol : nq wc ol := pw_ne hap 13 14 (by decide) (Nat.le_of_ble_eq_true rfl)
  have ne_ol_wc : nq ol wc := Ne.symm ne_wc_ol
  have ne_wc_al : nq wc al := pw_ne hap 13 15 (by decide) (Nat.le_of_ble_eq_true rfl)
  have ne_al_wc : nq al wc := Ne.symm ne_wc_al
  have ne_ol_al : nq ol al := pw_ne hap 14 15 (by decide) (Nat.le_of_ble_eq_true rfl)
  have ne_al_ol : nq al ol := Ne.symm ne_ol_al
  have hkp : kpx (fun a => a ∈ [mo, cn, ia, dr, en, la, wo, op, mk, ir, se, ec, lc, wc, ol, al]) M M := kpx.refl _ _
  refine lv_aload_n hx hb dX6_mark_0 rfl (lv_at hl 0 rfl) ?_
  refine lv_aload_n hx hb dX6_mark_1 rfl (lv_at hl 0 rfl) ?_
  refine lv_iload_n hx hb dX6_mark_2 rfl (lv_at hl 1 rfl) ?_
  refine m_kV (As := [.int tq]) (rest := [.ref mo]) (rm := { frames := 0, cells := 0, slots := 0, locals := 0 }) ⟨hx, hb, hml, hown, hts⟩ (s_X6_isOpen l D k z _ mo cn ia dr en la wo op mk ir se ec lc wc ol al dn md tq hI) (cwV 1 hts gX6_mark_X6_isOpen rfl rfl rfl (by decide +kernel) ⟨Nat.le_of_ble_eq_true rfl, Nat.le_of_ble_eq_true rfl⟩) (m_recv hK hm (q := (RX6, TX6, 24)) rfl hM) hz hcx hm hS rfl hl.1 rfl (Nat.le_of_ble_eq_true rfl) dX6_mark_3 ⟨Nat.le_of_ble_eq_true rfl, Nat.le_of_ble_eq_true rfl⟩ (fun v M1 H locs hv hm hS => ?_)
  obtain ⟨hv2, hM1⟩ := hv
  rw [hM1] at hm
  rcases hv2 with hv1 | ⟨hv1, hdn, t9, ht9, htE⟩
  · subst hv1
    refine W.eq (g2 := F0 m 6 ls [.int 0, .ref mo]) rfl ?_
    refine W.widen (k := 0) (n := 0) (Nat.le_of_ble_eq_true rfl) (Nat.le_of_ble_eq_true rfl) ?_
    have hm : mm D (AZ z) M H := hm
    refine lv_if_ne (tgt := 13) hx hb dX6_mark_6 (by decide) (fun c1 => ?_) (fun c1 => ?_)
    · first | exact absurd c1 (by decide) | exact absurd (by decide) c1
    · refine lv_iconst (v := 1) hx hb dX6_mark_9 (by decide) ?_
      refine lv_goto (tgt := 28) hx hb dX6_mark_10 (by decide) ?_
      refine m_kV (As := [.int 1]) (rest := []) (rm := { frames := 0, cells := 0, slots := 0, locals := 0 }) ⟨hx, hb, hml, hown, hts⟩ (s_X6_failsE l D k z _ mo cn ia dr en la wo op mk ir se ec lc wc ol al cd ni dn md pw cm wr cs hm9 1 hM) (cwV 1 hts gX6_mark_X6_fails rfl rfl rfl (by decide +kernel) ⟨Nat.le_of_ble_eq_true rfl, Nat.le_of_ble_eq_true rfl⟩) (m_recv hK hm (q := (RX6, TX6, 24)) rfl hM) hz hcx hm hS rfl hl.1 rfl (Nat.le_of_ble_eq_true rfl) dX6_mark_28 ⟨Nat.le_of_ble_eq_true rfl, Nat.le_of_ble_eq_true rfl⟩ (fun v M1 H locs hv hm hS => ?_)
      obtain ⟨hv1, hM1⟩ := hv
      have hv1 : v = some (.int 1) := hv1.trans (by decide)
      subst hv1
      rw [hM1] at hm
      refine W.eq (g2 := F0 m 31 ls [.int 1]) rfl ?_
      refine W.widen (k := 0) (n := 0) (Nat.le_of_ble_eq_true rfl) (Nat.le_of_ble_eq_true rfl) ?_
      have hm : mm D (AZ z) (mu M mo (.inr (6, [.int 1, .ref cn, .ref ia, .ref dr, .ref en, .ref la, .ref wo, .int ni, .ref op, .ref mk, .ref ir, .int dn, .int md, .int pw, .int cm, .int wr, .ref se, .ref ec, .ref lc, .ref wc, .ref ol, .ref al, .int cs, .int hm9]))) H := hm
      have hkp : kpx (fun a => a ∈ [mo, cn, ia, dr, en, la, wo, op, mk, ir, se, ec, lc, wc, ol, al]) M (mu M mo (.inr (6, [.int 1, .ref cn, .ref ia, .ref dr, .ref en, .ref la, .ref wo, .int ni, .ref op, .ref mk, .ref ir, .int dn, .int md, .int pw, .int cm, .int wr, .ref se, .ref ec, .ref lc, .ref wc, .ref ol, .ref al, .int cs, .int hm9]))) := (hkp).self (by simp)
      refine lv_if_eq (tgt := 36) hx hb dX6_mark_31 (by decide) (fun c2 => ?_) (fun c2 => ?_)
      · first | exact absurd c2 (by decide) | exact absurd (by decide) c2
      · refine lv_iconst (v := 0) hx hb dX6_mark_34 (by decide) ?_
        refine W.iret (v := 0) hx hb hr (fun t ht hW => ⟨⟨some (.int 0), _, rfl, ?_, by rw [ht]; exact hm⟩, hS.F ht⟩) hS.2.2 dX6_mark_35
        exact ⟨⟨_, rfl⟩, ⟨_, _, _, _, _, _, _, fcn, fia, fdr, fen, fla, fwo, fop, fmk, fir, fse, fec, flc, fol, fal, fwc, hap, (mu_self _ _ _), hmd, ⟨hrC, hrL, hrM⟩, ((mu_ne ne_cn_mo).trans hcn), ((mu_ne ne_ia_mo).trans hia), ((mu_ne ne_dr_mo).trans hdr), ((mu_ne ne_en_mo).trans hen), ((mu_ne ne_la_mo).trans hla), ((mu_ne ne_wo_mo).trans hwo), ((mu_ne ne_op_mo).trans hop), ((mu_ne ne_mk_mo).trans hmk), ((mu_ne ne_ir_mo).trans hir), ((mu_ne ne_se_mo).trans hse), ((mu_ne ne_ec_mo).trans hec), ((mu_ne ne_lc_mo).trans hlc), ((mu_ne ne_wc_mo).trans hwc), ((mu_ne ne_ol_mo).trans hol), ((mu_ne ne_al_mo).trans hal)⟩, hkp⟩
  · subst hv1
    subst htE
    refine W.eq (g2 := F0 m 6 ls [.int 1, .ref mo]) rfl ?_
    refine W.widen (k := 0) (n := 0) (Nat.le_of_ble_eq_true rfl) (Nat.le_of_ble_eq_true rfl) ?_
    have hm : mm D (AZ z) M H := hm
    refine lv_if_ne (tgt := 13) hx hb dX6_mark_6 (by decide) (fun c3 => ?_) (fun c3 => ?_)
    · refine lv_aload_n hx hb dX6_mark_13 rfl (lv_at hl 0 rfl) ?_
      refine m_get (T := TX6) (N := 24) (ci := 6) (v := .ref mk) hx hb hts wX6 hown hK hm hM rfl 9 (by decide) f38 (fun _ h9 => h9) rfl dX6_mark_14 ?_
      refine lv_iload_n hx hb dX6_mark_17 rfl (lv_at hl 1 rfl) ?_
      refine m_iald hx hb hK hm 0 hmk rfl (vp_in_nI (by omega) (by decide)) dX6_mark_18 ?_
      obtain ⟨u4, hu4, eu4⟩ := hrM t9
      refine W.eq (g2 := F0 m 19 ls [.int (nI u4), .ref mo]) (by rw [show (fmk ((nI t9)).toNatClampNeg) = nI u4 from (congrArg fmk (show ((nI t9)).toNatClampNeg = t9 from nI_clamp (by omega))).trans eu4]) ?_
      have hb_u4 := hu4
      have hu4 : u4 ≤ 3 := hu4
      refine lv_iconst (v := 3) hx hb dX6_mark_19 (by decide) ?_
      refine lv_icmp_ne (tgt := 27) hx hb dX6_mark_20 (by decide) (fun c5 => ?_) (fun c5 => ?_)
      · have hu3 : u4 ≠ 3 := fun q => c5 (by rw [q]; rfl)
        refine lv_iconst (v := 0) hx hb dX6_mark_27 (by decide) ?_
        refine m_kV (As := [.int 0]) (rest := []) (rm := { frames := 0, cells := 0, slots := 0, locals := 0 }) ⟨hx, hb, hml, hown, hts⟩ (s_X6_failsE l D k z _ mo cn ia dr en la wo op mk ir se ec lc wc ol al cd ni dn md pw cm wr cs hm9 0 hM) (cwV 1 hts gX6_mark_X6_fails rfl rfl rfl (by decide +kernel) ⟨Nat.le_of_ble_eq_true rfl, Nat.le_of_ble_eq_true rfl⟩) (m_recv hK hm (q := (RX6, TX6, 24)) rfl hM) hz hcx hm hS rfl hl.1 rfl (Nat.le_of_ble_eq_true rfl) dX6_mark_28 ⟨Nat.le_of_ble_eq_true rfl, Nat.le_of_ble_eq_true rfl⟩ (fun v M1 H locs hv hm hS => ?_)
        obtain ⟨hv1, hM1⟩ := hv
        have hv1 : v = some (.int 0) := hv1.trans (by decide)
        subst hv1
        rw [hM1] at hm
        refine W.eq (g2 := F0 m 31 ls [.int 0]) rfl ?_
        refine W.widen (k := 0) (n := 0) (Nat.le_of_ble_eq_true rfl) (Nat.le_of_ble_eq_true rfl) ?_
        have hm : mm D (AZ z) (mu M mo (.inr (6, [.int 0, .ref cn, .ref ia, .ref dr, .ref en, .ref la, .ref wo, .int ni, .ref op, .ref mk, .ref ir, .int dn, .int md, .int pw, .int cm, .int wr, .ref se, .ref ec, .ref lc, .ref wc, .ref ol, .ref al, .int cs, .int hm9]))) H := hm
        have hkp : kpx (fun a => a ∈ [mo, cn, ia, dr, en, la, wo, op, mk, ir, se, ec, lc, wc, ol, al]) M (mu M mo (.inr (6, [.int 0, .ref cn, .ref ia, .ref dr, .ref en, .ref la, .ref wo, .int ni, .ref op, .ref mk, .ref ir, .int dn, .int md, .int pw, .int cm, .int wr, .ref se, .ref ec, .ref lc, .ref wc, .ref ol, .ref al, .int cs, .int hm9]))) := (hkp).self (by simp)
        refine lv_if_eq (tgt := 36) hx hb dX6_mark_31 (by decide) (fun c6 => ?_) (fun c6 => ?_)
        · refine lv_aload_n hx hb dX6_mark_36 rfl (lv_at hl 0 rfl) ?_
          refine lv_iconst (v := 3) hx hb dX6_mark_37 (by decide) ?_
          refine lv_iconst (v := 5) hx hb dX6_mark_38 (by decide) ?_
          refine lv_iload_n hx hb dX6_mark_39 rfl (lv_at hl 1 rfl) ?_
          refine lv_imul hx hb dX6_mark_40 ?_
          refine W.eq (g2 := F0 m 41 ls [.int (nI (5 * t9)), .int 3, .ref mo]) (by rw [show ((5) * ((nI t9)) : Int32) = nI (5 * t9) from pk_mul 5 t9]) ?_
          refine lv_iadd hx hb dX6_mark_41 ?_
          refine W.eq (g2 := F0 m 42 ls [.int (nI (3 + (5 * t9))), .ref mo]) (by rw [show ((3) + ((nI (5 * t9))) : Int32) = nI (3 + (5 * t9)) from nI_add 3 (5 * t9)]) ?_
          refine lv_aload_n hx hb dX6_mark_42 rfl (lv_at hl 0 rfl) ?_
          refine m_get (T := TX6) (N := 24) (ci := 6) (v := .ref mk) hx hb hts wX6 hown hK hm (mu_self _ _ _) rfl 9 (by decide) f38 (fun _ h9 => h9) rfl dX6_mark_43 ?_
          refine lv_iload_n hx hb dX6_mark_46 rfl (lv_at hl 1 rfl) ?_
          refine m_iald hx hb hK hm 0 ((mu_ne ne_mk_mo).trans hmk) rfl (vp_in_nI (by omega) (by decide)) dX6_mark_47 ?_
          obtain ⟨u7, hu7, eu7⟩ := hrM t9
          refine W.eq (g2 := F0 m 48 ls [.int (nI u7), .int (nI (3 + (5 * t9))), .ref mo]) (by rw [show (fmk ((nI t9)).toNatClampNeg) = nI u7 from (congrArg fmk (show ((nI t9)).toNatClampNeg = t9 from nI_clamp (by omega))).trans eu7]) ?_
          have hb_u7 := hu7
          have hu7 : u7 ≤ 3 := hu7
          have hs_u7 : u7 = u4 := nI_inj (by omega) (by omega) (eu7.symm.trans eu4)
          refine lv_iadd hx hb dX6_mark_48 ?_
          refine W.eq (g2 := F0 m 49 ls [.int (nI ((3 + (5 * t9)) + u7)), .ref mo]) (by rw [show (((nI (3 + (5 * t9)))) + ((nI u7)) : Int32) = nI ((3 + (5 * t9)) + u7) from nI_add (3 + (5 * t9)) u7]) ?_
          refine lv_iconst (v := 2) hx hb dX6_mark_49 (by decide) ?_
          refine lv_iconst (v := 5) hx hb dX6_mark_50 (by decide) ?_
          refine lv_iload_n hx hb dX6_mark_51 rfl (lv_at hl 1 rfl) ?_
          refine lv_imul hx hb dX6_mark_52 ?_
          refine W.eq (g2 := F0 m 53 ls [.int (nI (5 * t9)), .int 2, .int (nI ((3 + (5 * t9)) + u7)), .ref mo]) (by rw [show ((5) * ((nI t9)) : Int32) = nI (5 * t9) from pk_mul 5 t9]) ?_
          refine lv_iadd hx hb dX6_mark_53 ?_
          refine W.eq (g2 := F0 m 54 ls [.int (nI (2 + (5 * t9))), .int (nI ((3 + (5 * t9)) + u7)), .ref mo]) (by rw [show ((2) + ((nI (5 * t9))) : Int32) = nI (2 + (5 * t9)) from nI_add 2 (5 * t9)]) ?_
          have hI0 : mI k (mu M mo (.inr (6, [.int 0, .ref cn, .ref ia, .ref dr, .ref en, .ref la, .ref wo, .int ni, .ref op, .ref mk, .ref ir, .int dn, .int md, .int pw, .int cm, .int wr, .ref se, .ref ec, .ref lc, .ref wc, .ref ol, .ref al, .int cs, .int hm9]))) mo cn ia dr en la wo op mk ir se ec lc wc ol al dn md := ⟨_, _, _, _, _, _, _, fcn, fia, fdr, fen, fla, fwo, fop, fmk, fir, fse, fec, flc, fol, fal, fwc, hap, (mu_self _ _ _), hmd, ⟨hrC, hrL, hrM⟩, ((mu_ne ne_cn_mo).trans hcn), ((mu_ne ne_ia_mo).trans hia), ((mu_ne ne_dr_mo).trans hdr), ((mu_ne ne_en_mo).trans hen), ((mu_ne ne_la_mo).trans hla), ((mu_ne ne_wo_mo).trans hwo), ((mu_ne ne_op_mo).trans hop), ((mu_ne ne_mk_mo).trans hmk), ((mu_ne ne_ir_mo).trans hir), ((mu_ne ne_se_mo).trans hse), ((mu_ne ne_ec_mo).trans hec), ((mu_ne ne_lc_mo).trans hlc), ((mu_ne ne_wc_mo).trans hwc), ((mu_ne ne_ol_mo).trans hol), ((mu_ne ne_al_mo).trans hal)⟩
          refine m_kV (As := [.int (nI ((3 + (5 * t9)) + u7)), .int (nI (2 + (5 * t9)))]) (rest := []) (rm := { frames := 1, cells := 0, slots := 0, locals := 23 }) ⟨hx, hb, hml, hown, hts⟩ (s_X6_copyTree l D k z _ mo cn ia dr en la wo op mk ir se ec lc wc ol al dn md ((3 + (5 * t9)) + u7) (2 + (5 * t9)) (by omega) (by omega) (bC_v (by omega) (by omega)) (fun q => by omega) hI0) (cwV 2 hts gX6_mark_X6_copyTree rfl rfl rfl (by decide +kernel) ⟨Nat.le_of_ble_eq_true rfl, Nat.le_of_ble_eq_true rfl⟩) (m_recv hK hm (q := (RX6, TX6, 24)) rfl (mu_self _ _ _)) hz hcx hm hS rfl hl.1 rfl (Nat.le_of_ble_eq_true rfl) dX6_mark_54 ⟨Nat.le_of_ble_eq_true rfl, Nat.le_of_ble_eq_true rfl⟩ (fun v M1 H locs hv hm hS => ?_)
          obtain ⟨hv1, hI, hk9⟩ := hv
          subst hv1
          obtain ⟨_, _, _, _, _, _, _, fcn_1, fia_1, fdr_1, fen_1, fla_1, fwo_1, _, _, _, _, _, _, _, _, _, -, -, hmd_1, ⟨hrC_1, hrL_1, -⟩, hcn_1, hia_1, hdr_1, hen_1, hla_1, hwo_1, -, -, -, -, -, -, -, -, -⟩ := id hI
          have kmo_1 := hk9 _ _ (by simp only [List.mem_cons, List.not_mem_nil, or_false, not_or]; exact ⟨ne_mo_cn, ne_mo_ia, ne_mo_dr, ne_mo_en, ne_mo_la, ne_mo_wo⟩) (mu_self _ _ _)
          have kop_1 := hk9 _ _ (by simp only [List.mem_cons, List.not_mem_nil, or_false, not_or]; exact ⟨ne_op_cn, ne_op_ia, ne_op_dr, ne_op_en, ne_op_la, ne_op_wo⟩) ((mu_ne ne_op_mo).trans hop)
          have kmk_1 := hk9 _ _ (by simp only [List.mem_cons, List.not_mem_nil, or_false, not_or]; exact ⟨ne_mk_cn, ne_mk_ia, ne_mk_dr, ne_mk_en, ne_mk_la, ne_mk_wo⟩) ((mu_ne ne_mk_mo).trans hmk)
          have kir_1 := hk9 _ _ (by simp only [List.mem_cons, List.not_mem_nil, or_false, not_or]; exact ⟨ne_ir_cn, ne_ir_ia, ne_ir_dr, ne_ir_en, ne_ir_la, ne_ir_wo⟩) ((mu_ne ne_ir_mo).trans hir)
          have kse_1 := hk9 _ _ (by simp only [List.mem_cons, List.not_mem_nil, or_false, not_or]; exact ⟨ne_se_cn, ne_se_ia, ne_se_dr, ne_se_en, ne_se_la, ne_se_wo⟩) ((mu_ne ne_se_mo).trans hse)
          have kec_1 := hk9 _ _ (by simp only [List.mem_cons, List.not_mem_nil, or_false, not_or]; exact ⟨ne_ec_cn, ne_ec_ia, ne_ec_dr, ne_ec_en, ne_ec_la, ne_ec_wo⟩) ((mu_ne ne_ec_mo).trans hec)
          have klc_1 := hk9 _ _ (by simp only [List.mem_cons, List.not_mem_nil, or_false, not_or]; exact ⟨ne_lc_cn, ne_lc_ia, ne_lc_dr, ne_lc_en, ne_lc_la, ne_lc_wo⟩) ((mu_ne ne_lc_mo).trans hlc)
          have kwc_1 := hk9 _ _ (by simp only [List.mem_cons, List.not_mem_nil, or_false, not_or]; exact ⟨ne_wc_cn, ne_wc_ia, ne_wc_dr, ne_wc_en, ne_wc_la, ne_wc_wo⟩) ((mu_ne ne_wc_mo).trans hwc)
          have kol_1 := hk9 _ _ (by simp only [List.mem_cons, List.not_mem_nil, or_false, not_or]; exact ⟨ne_ol_cn, ne_ol_ia, ne_ol_dr, ne_ol_en, ne_ol_la, ne_ol_wo⟩) ((mu_ne ne_ol_mo).trans hol)
          have kal_1 := hk9 _ _ (by simp only [List.mem_cons, List.not_mem_nil, or_false, not_or]; exact ⟨ne_al_cn, ne_al_ia, ne_al_dr, ne_al_en, ne_al_la, ne_al_wo⟩) ((mu_ne ne_al_mo).trans hal)
          have hkp := hkp.trans (hk9.mono (fun a ha => by simp only [List.mem_cons, List.not_mem_nil, or_false] at ha ⊢; rcases ha with q9 | q9 | q9 | q9 | q9 | q9 <;> simp [q9]))
          obtain ⟨Mc1, hMx⟩ : ∃ x : mM, x = M1 := ⟨M1, rfl⟩
          subst hMx
          refine W.eq (g2 := F0 m 57 ls []) rfl ?_
          refine W.widen (k := 0) (n := 0) (Nat.le_of_ble_eq_true rfl) (Nat.le_of_ble_eq_true rfl) ?_
          have hm : mm D (AZ z) Mc1 H := hm
          refine lv_aload_n hx hb dX6_mark_57 rfl (lv_at hl 0 rfl) ?_
          refine m_get (T := TX6) (N := 24) (ci := 6) (v := .ref mk) hx hb hts wX6 hown hK hm kmo_1 rfl 9 (by decide) f38 (fun _ h9 => h9) rfl dX6_mark_58 ?_
          refine lv_iload_n hx hb dX6_mark_61 rfl (lv_at hl 1 rfl) ?_
          refine lv_dup2_11 hx hb dX6_mark_62 rfl rfl ?_
          refine m_iald hx hb hK hm 0 kmk_1 rfl (vp_in_nI (by omega) (by decide)) dX6_mark_63 ?_
          obtain ⟨u8, hu8, eu8⟩ := hrM t9
          refine W.eq (g2 := F0 m 64 ls [.int (nI u8), .int (nI t9), .ref mk]) (by rw [show (fmk ((nI t9)).toNatClampNeg) = nI u8 from (congrArg fmk (show ((nI t9)).toNatClampNeg = t9 from nI_clamp (by omega))).trans eu8]) ?_
          have hb_u8 := hu8
          have hu8 : u8 ≤ 3 := hu8
          have hs_u8 : u8 = u4 := nI_inj (by omega) (by omega) (eu8.symm.trans eu4)
          refine lv_iconst (v := 1) hx hb dX6_mark_64 (by decide) ?_
          refine lv_iadd hx hb dX6_mark_65 ?_
          refine W.eq (g2 := F0 m 66 ls [.int (nI (u8 + 1)), .int (nI t9), .ref mk]) (by rw [show (((nI u8)) + (1) : Int32) = nI (u8 + 1) from nI_add u8 1]) ?_
          refine m_iast hx hb hK hm hS 0 kmk_1 rfl (vp_in_nI (by omega) (by decide)) dX6_mark_66 (fun H locs hm hS => ?_)
          have hrM : rng bM (upd fmk ((nI t9)).toNatClampNeg (nI (u8 + 1))) := (hrM).up _ (u8 + 1) (show (u8 + 1) ≤ 3 by omega)
          have hm : mm D (AZ z) (mu Mc1 mk (.inl (k 0, 6, .inl (upd fmk ((nI t9)).toNatClampNeg (nI (u8 + 1)))))) H := hm
          have hkp : kpx (fun a => a ∈ [mo, cn, ia, dr, en, la, wo, op, mk, ir, se, ec, lc, wc, ol, al]) M (mu Mc1 mk (.inl (k 0, 6, .inl (upd fmk ((nI t9)).toNatClampNeg (nI (u8 + 1)))))) := (hkp).self (by simp)
          refine lv_aload_n hx hb dX6_mark_67 rfl (lv_at hl 0 rfl) ?_
          refine m_get (T := TX6) (N := 24) (ci := 6) (v := .ref mk) hx hb hts wX6 hown hK hm ((mu_ne ne_mo_mk).trans kmo_1) rfl 9 (by decide) f38 (fun _ h9 => h9) rfl dX6_mark_68 ?_
          refine lv_iload_n hx hb dX6_mark_71 rfl (lv_at hl 1 rfl) ?_
          refine m_iald hx hb hK hm 0 (mu_self _ _ _) rfl (vp_in_nI (by omega) (by decide)) dX6_mark_72 ?_
          obtain ⟨u9, hu9, eu9⟩ := hrM t9
          refine W.eq (g2 := F0 m 73 ls [.int (nI u9)]) (by rw [show ((upd fmk ((nI t9)).toNatClampNeg (nI (u8 + 1))) ((nI t9)).toNatClampNeg) = nI u9 from (congrArg (upd fmk ((nI t9)).toNatClampNeg (nI (u8 + 1))) (show ((nI t9)).toNatClampNeg = t9 from nI_clamp (by omega))).trans eu9]) ?_
          have hb_u9 := hu9
          have hu9 : u9 ≤ 3 := hu9
          refine W.iret (v := (nI u9)) hx hb hr (fun t ht hW => ⟨⟨some (.int (nI u9)), _, rfl, ?_, by rw [ht]; exact hm⟩, hS.F ht⟩) hS.2.2 dX6_mark_73
          exact ⟨⟨_, rfl⟩, ⟨_, _, _, _, _, _, _, fcn_1, fia_1, fdr_1, fen_1, fla_1, fwo_1, fop, (upd fmk ((nI t9)).toNatClampNeg (nI (u8 + 1))), fir, fse, fec, flc, fol, fal, fwc, hap, ((mu_ne ne_mo_mk).trans kmo_1), hmd_1, ⟨hrC_1, hrL_1, hrM⟩, ((mu_ne ne_cn_mk).trans hcn_1), ((mu_ne ne_ia_mk).trans hia_1), ((mu_ne ne_dr_mk).trans hdr_1), ((mu_ne ne_en_mk).trans hen_1), ((mu_ne ne_la_mk).trans hla_1), ((mu_ne ne_wo_mk).trans hwo_1), ((mu_ne ne_op_mk).trans kop_1), (mu_self _ _ _), ((mu_ne ne_ir_mk).trans kir_1), ((mu_ne ne_se_mk).trans kse_1), ((mu_ne ne_ec_mk).trans kec_1), ((mu_ne ne_lc_mk).trans klc_1), ((mu_ne ne_wc_mk).trans kwc_1), ((mu_ne ne_ol_mk).trans kol_1), ((mu_ne ne_al_mk).trans kal_1)⟩, hkp⟩
        · first | exact absurd c6 (by decide) | exact absurd (by decide) c6
      · refine lv_iconst (v := 2) hx hb dX6_mark_23 (by decide) ?_
        refine lv_goto (tgt := 28) hx hb dX6_mark_24 (by decide) ?_
        refine m_kV (As := [.int 2]) (rest := []) (rm := { frames := 0, cells := 0, slots := 0, locals := 0 }) ⟨hx, hb, hml, hown, hts⟩ (s_X6_failsE l D k z _ mo cn ia dr en la wo op mk ir se ec lc wc ol al cd ni dn md pw cm wr cs hm9 2 hM) (cwV 1 hts gX6_mark_X6_fails rfl rfl rfl (by decide +kernel) ⟨Nat.le_of_ble_eq_true rfl, Nat.le_of_ble_eq_true rfl⟩) (m_recv hK hm (q := (RX6, TX6, 24)) rfl hM) hz hcx hm hS rfl hl.1 rfl (Nat.le_of_ble_eq_true rfl) dX6_mark_28 ⟨Nat.le_of_ble_eq_true rfl, Nat.le_of_ble_eq_true rfl⟩ (fun v M1 H locs hv hm hS => ?_)
        obtain ⟨hv1, hM1⟩ := hv
        have hv1 : v = some (.int 1) := hv1.trans (by decide)
        subst hv1
        rw [hM1] at hm
        refine W.eq (g2 := F0 m 31 ls [.int 1]) rfl ?_
        refine W.widen (k := 0) (n := 0) (Nat.le_of_ble_eq_true rfl) (Nat.le_of_ble_eq_true rfl) ?_
        have hm : mm D (AZ z) (mu M mo (.inr (6, [.int 2, .ref cn, .ref ia, .ref dr, .ref en, .ref la, .ref wo, .int ni, .ref op, .ref mk, .ref ir, .int dn, .int md, .int pw, .int cm, .int wr, .ref se, .ref ec, .ref lc, .ref wc, .ref ol, .ref al, .int cs, .int hm9]))) H := hm
        have hkp : kpx (fun a => a ∈ [mo, cn, ia, dr, en, la, wo, op, mk, ir, se, ec, lc, wc, ol, al]) M (mu M mo (.inr (6, [.int 2, .ref cn, .ref ia, .ref dr, .ref en, .ref la, .ref wo, .int ni, .ref op, .ref mk, .ref ir, .int dn, .int md, .int pw, .int cm, .int wr, .ref se, .ref ec, .ref lc, .ref wc, .ref ol, .ref al, .int cs, .int hm9]))) := (hkp).self (by simp)
        refine lv_if_eq (tgt := 36) hx hb dX6_mark_31 (by decide) (fun c10 => ?_) (fun c10 => ?_)
        · first | exact absurd c10 (by decide) | exact absurd (by decide) c10
        · refine lv_iconst (v := 0) hx hb dX6_mark_34 (by decide) ?_
          refine W.iret (v := 0) hx hb hr (fun t ht hW => ⟨⟨some (.int 0), _, rfl, ?_, by rw [ht]; exact hm⟩, hS.F ht⟩) hS.2.2 dX6_mark_35
          exact ⟨⟨_, rfl⟩, ⟨_, _, _, _, _, _, _, fcn, fia, fdr, fen, fla, fwo, fop, fmk, fir, fse, fec, flc, fol, fal, fwc, hap, (mu_self _ _ _), hmd, ⟨hrC, hrL, hrM⟩, ((mu_ne ne_cn_mo).trans hcn), ((mu_ne ne_ia_mo).trans hia), ((mu_ne ne_dr_mo).trans hdr), ((mu_ne ne_en_mo).trans hen), ((mu_ne ne_la_mo).trans hla), ((mu_ne ne_wo_mo).trans hwo), ((mu_ne ne_op_mo).trans hop), ((mu_ne ne_mk_mo).trans hmk), ((mu_ne ne_ir_mo).trans hir), ((mu_ne ne_se_mo).trans hse), ((mu_ne ne_ec_mo).trans hec), ((mu_ne ne_lc_mo).trans hlc), ((mu_ne ne_wc_mo).trans hwc), ((mu_ne ne_ol_mo).trans hol), ((mu_ne ne_al_mo).trans hal)⟩, hkp⟩
    · first | exact absurd c3 (by decide) | exact absurd (by decide) c3
