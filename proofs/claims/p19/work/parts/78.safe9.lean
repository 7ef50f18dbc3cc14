set_option maxHeartbeats 4000000 in
set_option maxRecDepth 100000 in
theorem s_X6_back (l : Launch) (D : va_G) (k : Nat → ClassId) (z : Nat) (M : mM) (mo cn ia dr en la wo op mk ir se ec lc wc ol al : Nat) (dn md : Int32)  (tq : Int32) (hbd : md ≠ 0 → dn ≠ 0) (hI : mI k M mo cn ia dr en la wo op mk ir se ec lc wc ol al dn md) : mK l yX6_back wsX6_back ({ frames := 2, cells := 0, slots := 0, locals := 46 }) D k z [.ref mo, .int tq] M (fun v M' => (∃ x, v = some (.int x)) ∧ mI k M' mo cn ia dr en la wo op mk ir se ec lc wc ol al dn md ∧ kpx (fun a => a ∈ [mo, cn, ia, dr, en, la, wo, op, mk, ir, se, ec, lc, wc, ol, al]) M M') := by
  refine Met.ofW (cc := cX6_back) (maxL := 2) (ret := (some .int)) (by decide) rfl ?_
  intro p e s m args below meth c s₁ B hml hv
  obtain ⟨rfl, hz, hcx, hm⟩ := hv
  have hx := B.exec
  have hb := B.bytes
  have hr := B.returns
  have hts := atoms_spec (ws := wsX6_back) B.pre
  have hown : s.vm.findClass RX6 = some m.cls := findClass_of_methodNamed B.named
  have hlocks := B.notSynchronized
  have hK := hcx.1
  have hS : va_S (AZ z) s.heap s.heap [] := va_S.rf
  have hA : ∀ q, s.heap.size ≤ q → AZ z q := fun q h => Nat.le_trans hz h
  have hl := lv_entry ([.ref mo, .int tq]) (n := 2) (Nat.le_of_ble_eq_true rfl)
  rw [lg_entry_eq]
  generalize (lg_sl ([.ref mo, .int tq]) ++ List.replicate (2 - (lg_sl ([.ref mo, .int tq])).length) Slot.unset).toArray = ls at hl ⊢
  have hl : lv_has ls 2 [(0, .ref mo), (1, .int tq)] := hl
  have f38 := hts (.fieldLink RX6 38 "CommitTreeModel" "marks" "[I") (by decide +kernel)
  have wX6 : ∀ w ∈ wsX60, w ∈ wsX6_back := by decide +kernel
  obtain ⟨cd, ni, pw, cm, wr, cs, hm9, fcn, fia, fdr, fen, fla, fwo, fop, fmk, fir, fse, fec, flc, fol, fal, fwc, hap, hM, hmd, ⟨hrC, hrL, hrM⟩, hcn, hia, hdr, hen, hla, hwo, hop, hmk, hir, hse, hec, hlc, hwc, hol, hal⟩ := id hI
  have ne_mo_cn : nq mo cn := pw_ne hap 0 1 (by decide) (Nat.le_of_ble_eq_true rfl)
  have ne_cn_mo : nq cn mo := Ne.symm ne_mo_cn
  have ne_mo_ia : nq mo ia := pw_ne hap 0 2 (by decide) (Nat.le_of_ble_eq_true rfl)
  have ne_ia_mo : nq ia mo := Ne.symm ne_mo_ia
  have ne_mo_dr : nq mo dr := pw_ne hap 0 3 (by decide) (Nat.le_of_ble_eq_true rfl)
  have ne_dr_mo : nq dr mo := Ne.symm ne_mo_dr
  have ne_mo_en : nq mo en := pw_ne hap 0 4 (by decide) (Nat.le_of_ble_eq_true rfl)
  have ne_en_mo : nq en mo := Ne.symm ne_mo_en
  have ne_mo_la : nq mo la := pw_ne hap 0 5 (by decide) (Nat.le_of_ble_eq_true rfl)
  have ne_la_mo : nq la mo := Ne.symm ne_mo_la
  have ne_mo_wo : nq mo wo := pw_ne hap 0 6 (by decide) (Nat.le_of_ble_eq_true rfl)
  have ne_wo_mo : nq wo mo := Ne.symm ne_mo_wo
  have ne_mo_op : nq mo op := pw_ne hap 0 7 (by decide) (Nat.le_of_ble_eq_true rfl)
  have ne_op_mo : nq op mo := Ne.symm ne_mo_op
  have ne_mo_mk : nq mo mk := pw_ne hap 0 8 (by decide) (Nat.le_of_ble_eq_true rfl)
  have ne_mk_mo : nq mk mo := Ne.symm ne_mo_mk
  have ne_mo_ir : nq mo ir := pw_ne hap 0 9 (by decide) (Nat.le_of_ble_eq_true rfl)
  have ne_ir_mo : nq ir mo := Ne.symm ne_mo_ir
  have ne_mo_se : nq mo se := pw_ne hap 0 10 (by decide) (Nat.le_of_ble_eq_true rfl)
  have ne_se_mo : nq se mo := Ne.symm ne_mo_se
  have ne_mo_ec : nq mo ec := pw_ne hap 0 11 (by decide) (Nat.le_of_ble_eq_true rfl)
  have ne_ec_mo : nq ec mo := Ne.symm ne_mo_ec
  have ne_mo_lc : nq mo lc := pw_ne hap 0 12 (by decide) (Nat.le_of_ble_eq_true rfl)
  have ne_lc_mo : nq lc mo := Ne.symm ne_mo_lc
  have ne_mo_wc : nq mo wc := pw_ne hap 0 13 (by decide) (Nat.le_of_ble_eq_true rfl)
  have ne_wc_mo : nq wc mo := Ne.symm ne_mo_wc
  have ne_mo_ol : nq mo ol := pw_ne hap 0 14 (by decide) (Nat.le_of_ble_eq_true rfl)
  have ne_ol_mo : nq ol mo := Ne.symm ne_mo_ol
  have ne_mo_al : nq mo al := pw_ne hap 0 15 (by decide) (Nat.le_of_ble_eq_true rfl)
  have ne_al_mo : nq al mo := Ne.symm ne_mo_al
  have ne_cn_ia : nq cn ia := pw_ne hap 1 2 (by decide) (Nat.le_of_ble_eq_true rfl)
  have ne_ia_cn : nq ia cn := Ne.symm ne_cn_ia
  have ne_cn_dr : nq cn dr := pw_ne hap 1 3 (by decide) (Nat.le_of_ble_eq_true rfl)
  have ne_dr_cn : nq dr cn := Ne.symm ne_cn_dr
  have ne_cn_en : nq cn en := pw_ne hap 1 4 (by decide) (Nat.le_of_ble_eq_true rfl)
  have ne_en_cn : nq en cn := Ne.symm ne_cn_en
  have ne_cn_la : nq cn la := pw_ne hap 1 5 (by decide) (Nat.le_of_ble_eq_true rfl)
  have ne_la_cn : nq la cn := Ne.symm ne_cn_la
  have ne_cn_wo : nq cn wo := pw_ne hap 1 6 (by decide) (Nat.le_of_ble_eq_true rfl)
  have ne_wo_cn : nq wo cn := Ne.symm ne_cn_wo
  have ne_cn_op : nq cn op := pw_ne hap 1 7 (by decide) (Nat.le_of_ble_eq_true rfl)
  have ne_op_cn : nq op cn := Ne.symm ne_cn_op
  have ne_cn_mk : nq cn mk := pw_ne hap 1 8 (by decide) (Nat.le_of_ble_eq_true rfl)
  have ne_mk_cn : nq mk cn := Ne.symm ne_cn_mk
  have ne_cn_ir : nq cn ir := pw_ne hap 1 9 (by decide) (Nat.le_of_ble_eq_true rfl)
  have ne_ir_cn : nq ir cn := Ne.symm ne_cn_ir
  have ne_cn_se : nq cn se := pw_ne hap 1 10 (by decide) (Nat.le_of_ble_eq_true rfl)
  have ne_se_cn : nq se cn := Ne.symm ne_cn_se
  have ne_cn_ec : nq cn ec := pw_ne hap 1 11 (by decide) (Nat.le_of_ble_eq_true rfl)
  have ne_ec_cn : nq ec cn := Ne.symm ne_cn_ec
  have ne_cn_lc : nq cn lc := pw_ne hap 1 12 (by decide) (Nat.le_of_ble_eq_true rfl)
  have ne_lc_cn : nq lc cn := Ne.symm ne_cn_lc
  have ne_cn_wc : nq cn wc := pw_ne hap 1 13 (by decide) (Nat.le_of_ble_eq_true rfl)
  have ne_wc_cn : nq wc cn := Ne.symm ne_cn_wc
  have ne_cn_ol : nq cn ol := pw_ne hap 1 14 (by decide) (Nat.le_of_ble_eq_true rfl)
  have ne_ol_cn : nq ol cn := Ne.symm ne_cn_ol
  have ne_cn_al : nq cn al := pw_ne hap 1 15 (by decide) (Nat.le_of_ble_eq_true rfl)
  have ne_al_cn : nq al cn := Ne.symm ne_cn_al
  have ne_ia_dr : nq ia dr := pw_ne hap 2 3 (by decide) (Nat.le_of_ble_eq_true rfl)
  have ne_dr_ia : nq dr ia := Ne.symm ne_ia_dr
  have ne_ia_en : nq ia en := pw_ne hap 2 4 (by decide) (Nat.le_of_ble_eq_true rfl)
  have ne_en_ia : nq en ia := Ne.symm ne_ia_en
  have ne_ia_la : nq ia la := pw_ne hap 2 5 (by decide) (Nat.le_of_ble_eq_true rfl)
  have ne_la_ia : nq la ia := Ne.symm ne_ia_la
  have ne_ia_wo : nq ia wo := pw_ne hap 2 6 (by decide) (Nat.le_of_ble_eq_true rfl)
  have ne_wo_ia : nq wo ia := Ne.symm ne_ia_wo
  have ne_ia_op : nq ia op := pw_ne hap 2 7 (by decide) (Nat.le_of_ble_eq_true rfl)
  have ne_op_ia : nq op ia := Ne.symm ne_ia_op
  have ne_ia_mk : nq ia mk := pw_ne hap 2 8 (by decide) (Nat.le_of_ble_eq_true rfl)
  have ne_mk_ia : nq mk ia := Ne.symm ne_ia_mk
  have ne_ia_ir : nq ia ir := pw_ne hap 2 9 (by decide) (Nat.le_of_ble_eq_true rfl)
  have ne_ir_ia : nq ir ia := Ne.symm ne_ia_ir
  have ne_ia_se : nq ia se := pw_ne hap 2 10 (by decide) (Nat.le_of_ble_eq_true rfl)
  have ne_se_ia : nq se ia := Ne.symm ne_ia_se
  have ne_ia_ec : nq ia ec := pw_ne hap 2 11 (by decide) (Nat.le_of_ble_eq_true rfl)
  have ne_ec_ia : nq ec ia := Ne.symm ne_ia_ec
  have ne_ia_lc : nq ia lc := pw_ne hap 2 12 (by decide) (Nat.le_of_ble_eq_true rfl)
  have ne_lc_ia : nq lc ia := Ne.symm ne_ia_lc
  have ne_ia_wc : nq ia wc := pw_ne hap 2 13 (by decide) (Nat.le_of_ble_eq_true rfl)
  have ne_wc_ia : nq wc ia := Ne.symm ne_ia_wc
  have ne_ia_ol : nq ia ol := pw_ne hap 2 14 (by decide) (Nat.le_of_ble_eq_true rfl)
  have ne_ol_ia : nq ol ia := Ne.symm ne_ia_ol
  have ne_ia_al : nq ia al := pw_ne hap 2 15 (by decide) (Nat.le_of_ble_eq_true rfl)
  have ne_al_ia : nq al ia := Ne.symm ne_ia_al
  have ne_dr_en : nq dr en := pw_ne hap 3 4 (by decide) (Nat.le_of_ble_eq_true rfl)
  have ne_en_dr : nq en dr := Ne.symm ne_dr_en
  have ne_dr_la : nq dr la := pw_ne hap 3 5 (by decide) (Nat.le_of_ble_eq_true rfl)
  have ne_la_dr : nq la dr := Ne.symm ne_dr_la
  have ne_dr_wo : nq dr wo := pw_ne hap 3 6 (by decide) (Nat.le_of_ble_eq_true rfl)
  have ne_wo_dr : nq wo dr := Ne.symm ne_dr_wo
  have ne_dr_op : nq dr op := pw_ne hap 3 7 (by decide) (Nat.le_of_ble_eq_true rfl)
  have ne_op_dr : nq op dr := Ne.symm ne_dr_op
  have ne_dr_mk : nq dr mk := pw_ne hap 3 8 (by decide) (Nat.le_of_ble_eq_true rfl)
  have ne_mk_dr : nq mk dr := Ne.symm ne_dr_mk
  have ne_dr_ir : nq dr ir := pw_ne hap 3 9 (by decide) (Nat.le_of_ble_eq_true rfl)
  have ne_ir_dr : nq ir dr := Ne.symm ne_dr_ir
  have ne_dr_se : nq dr se := pw_ne hap 3 10 (by decide) (Nat.le_of_ble_eq_true rfl)
  have ne_se_dr : nq se dr := Ne.symm ne_dr_se
  have ne_dr_ec : nq dr ec := pw_ne hap 3 11 (by decide) (Nat.le_of_ble_eq_true rfl)
  have ne_ec_dr : nq ec dr := Ne.symm ne_dr_ec
  have ne_dr_lc : nq dr lc := pw_ne hap 3 12 (by decide) (Nat.le_of_ble_eq_true rfl)
  have ne_lc_dr : nq lc dr := Ne.symm ne_dr_lc
  have ne_dr_wc : nq dr wc := pw_ne hap 3 13 (by decide) (Nat.le_of_ble_eq_true rfl)
  have ne_wc_dr : nq wc dr := Ne.symm ne_dr_wc
  have ne_dr_ol : nq dr ol := pw_ne hap 3 14 (by decide) (Nat.le_of_ble_eq_true rfl)
  have ne_ol_dr : nq ol dr := Ne.symm ne_dr_ol
  have ne_dr_al : nq dr al := pw_ne hap 3 15 (by decide) (Nat.le_of_ble_eq_true rfl)
  have ne_al_dr : nq al dr := Ne.symm ne_dr_al
  have ne_en_la : nq en la := pw_ne hap 4 5 (by decide) (Nat.le_of_ble_eq_true rfl)
  have ne_la_en : nq la en := Ne.symm ne_en_la
  have ne_en_wo : nq en wo := pw_ne hap 4 6 (by decide) (Nat.le_of_ble_eq_true rfl)
  have ne_wo_en : nq wo en := Ne.symm ne_en_wo
  have ne_en_op : nq en op := pw_ne hap 4 7 (by decide) (Nat.le_of_ble_eq_true rfl)
  have ne_op_en : nq op en := Ne.symm ne_en_op
  have ne_en_mk : nq en mk := pw_ne hap 4 8 (by decide) (Nat.le_of_ble_eq_true rfl)
  have ne_mk_en : nq mk en := Ne.symm ne_en_mk
  have ne_en_ir : nq en ir := pw_ne hap 4 9 (by decide) (Nat.le_of_ble_eq_true rfl)
  have ne_ir_en : nq ir en := Ne.symm ne_en_ir
  have ne_en_se : nq en se := pw_ne hap 4 10 (by decide) (Nat.le_of_ble_eq_true rfl)
  have ne_se_en : nq se en := Ne.symm ne_en_se
  have ne_en_ec : nq en ec := pw_ne hap 4 11 (by decide) (Nat.le_of_ble_eq_true rfl)
  have ne_ec_en : nq ec en := Ne.symm ne_en_ec
  have ne_en_lc : nq en lc := pw_ne hap 4 12 (by decide) (Nat.le_of_ble_eq_true rfl)
  have ne_lc_en : nq lc en := Ne.symm ne_en_lc
  have ne_en_wc : nq en wc := pw_ne hap 4 13 (by decide) (Nat.le_of_ble_eq_true rfl)
  have ne_wc_en : nq wc en := Ne.symm ne_en_wc
  have ne_en_ol : nq en ol := pw_ne hap 4 14 (by decide) (Nat.le_of_ble_eq_true rfl)
  have ne_ol_en : nq ol en := Ne.symm ne_en_ol
  have ne_en_al : nq en al := pw_ne hap 4 15 (by decide) (Nat.le_of_ble_eq_true rfl)
  have ne_al_en : nq al en := Ne.symm ne_en_al
  have ne_la_wo : nq la wo := pw_ne hap 5 6 (by decide) (Nat.le_of_ble_eq_true rfl)
  have ne_wo_la : nq wo la := Ne.symm ne_la_wo
  have ne_la_op : nq la op := pw_ne hap 5 7 (by decide) (Nat.le_of_ble_eq_true rfl)
  have ne_op_la : nq op la := Ne.symm ne_la_op
  have ne_la_mk : nq la mk := pw_ne hap 5 8 (by decide) (Nat.le_of_ble_eq_true rfl)
  have ne_mk_la : nq mk la := Ne.symm ne_la_mk
  have ne_la_ir : nq la ir := pw_ne hap 5 9 (by decide) (Nat.le_of_ble_eq_true rfl)
  have ne_ir_la : nq ir la := Ne.symm ne_la_ir
  have ne_la_se : nq la se := pw_ne hap 5 10 (by decide) (Nat.le_of_ble_eq_true rfl)
  have ne_se_la : nq se la := Ne.symm ne_la_se
  have ne_la_ec : nq la ec := pw_ne hap 5 11 (by decide) (Nat.le_of_ble_eq_true rfl)
  have ne_ec_la : nq ec la := Ne.symm ne_la_ec
  have ne_la_lc : nq la lc := pw_ne hap 5 12 (by decide) (Nat.le_of_ble_eq_true rfl)
  have ne_lc_la : nq lc la := Ne.symm ne_la_lc
  have ne_la_wc : nq la wc := pw_ne hap 5 13 (by decide) (Nat.le_of_ble_eq_true rfl)
  have ne_wc_la : nq wc la := Ne.symm ne_la_wc
  have ne_la_ol : nq la ol := pw_ne hap 5 14 (by decide) (Nat.le_of_ble_eq_true rfl)
  have ne_ol_la : nq ol la := Ne.symm ne_la_ol
  have ne_la_al : nq la al := pw_ne hap 5 15 (by decide) (Nat.le_of_ble_eq_true rfl)
  have ne_al_la : nq al la := Ne.symm ne_la_al
  have ne_wo_op : nq wo op := pw_ne hap 6 7 (by decide) (Nat.le_of_ble_eq_true rfl)
  have ne_op_wo : nq op wo := Ne.symm ne_wo_op
  have ne_wo_mk : nq wo mk := pw_ne hap 6 8 (by decide) (Nat.le_of_ble_eq_true rfl)
  have ne_mk_wo : nq mk wo := Ne.symm ne_wo_mk
  have ne_wo_ir : nq wo ir := pw_ne hap 6 9 (by decide) (Nat.le_of_ble_eq_true rfl)
  have ne_ir_wo : nq ir wo := Ne.symm ne_wo_ir
  have ne_wo_se : nq wo se := pw_ne hap 6 10 (by decide) (Nat.le_of_ble_eq_true rfl)
  have ne_se_wo : nq se wo := Ne.symm ne_wo_se
  have ne_wo_ec : nq wo ec := pw_ne hap 6 11 (by decide) (Nat.le_of_ble_eq_true rfl)
  have ne_ec_wo : nq ec wo := Ne.symm ne_wo_ec
  have ne_wo_lc : nq wo lc := pw_ne hap 6 12 (by decide) (Nat.le_of_ble_eq_true rfl)
  have ne_lc_wo : nq lc wo := Ne.symm ne_wo_lc
  have ne_wo_wc : nq wo wc := pw_ne hap 6 13 (by decide) (Nat.le_of_ble_eq_true rfl)
  have ne_wc_wo : nq wc wo := Ne.symm ne_wo_wc
  have ne_wo_ol : nq wo ol := pw_ne hap 6 14 (by decide) (Nat.le_of_ble_eq_true rfl)
  have ne_ol_wo : nq ol wo := Ne.symm ne_wo_ol
  have ne_wo_al : nq wo al := pw_ne hap 6 15 (by decide) (Nat.le_of_ble_eq_true rfl)
  have ne_al_wo : nq al wo := Ne.symm ne_wo_al
  have ne_op_mk : nq op mk := pw_ne hap 7 8 (by decide) (Nat.le_of_ble_eq_true rfl)
  have ne_mk_op : nq mk op := Ne.symm ne_op_mk
  have ne_op_ir : nq op ir := pw_ne hap 7 9 (by decide) (Nat.le_of_ble_eq_true rfl)
  have ne_ir_op : nq ir op := Ne.symm ne_op_ir
  have ne_op_se : nq op se := pw_ne hap 7 10 (by decide) (Nat.le_of_ble_eq_true rfl)
  have ne_se_op : nq se op := Ne.symm ne_op_se
  have ne_op_ec : nq op ec := pw_ne hap 7 11 (by decide) (Nat.le_of_ble_eq_true rfl)
  have ne_ec_op : nq ec op := Ne.symm ne_op_ec
  have ne_op_lc : nq op lc := pw_ne hap 7 12 (by decide) (Nat.le_of_ble_eq_true rfl)
  have ne_lc_op : nq lc op := Ne.symm ne_op_lc
  have ne_op_wc : nq op wc := pw_ne hap 7 13 (by decide) (Nat.le_of_ble_eq_true rfl)
  have ne_wc_op : nq wc op := Ne.symm ne_op_wc
  have ne_op_ol : nq op ol := pw_ne hap 7 14 (by decide) (Nat.le_of_ble_eq_true rfl)
  have ne_ol_op : nq ol op := Ne.symm ne_op_ol
  have ne_op_al : nq op al := pw_ne hap 7 15 (by decide) (Nat.le_of_ble_eq_true rfl)
  have ne_al_op : nq al op := Ne.symm ne_op_al
  have ne_mk_ir : nq mk ir := pw_ne hap 8 9 (by decide) (Nat.le_of_ble_eq_true rfl)
  have ne_ir_mk : nq ir mk := Ne.symm ne_mk_ir
  have ne_mk_se : nq mk se := pw_ne hap 8 10 (by decide) (Nat.le_of_ble_eq_true rfl)
  have ne_se_mk : nq se mk := Ne.symm ne_mk_se
  have ne_mk_ec : nq mk ec := pw_ne hap 8 11 (by decide) (Nat.le_of_ble_eq_true rfl)
  have ne_ec_mk : nq ec mk := Ne.symm ne_mk_ec
  have ne_mk_lc : nq mk lc := pw_ne hap 8 12 (by decide) (Nat.le_of_ble_eq_true rfl)
  have ne_lc_mk : nq lc mk := Ne.symm ne_mk_lc
  have ne_mk_wc : nq mk wc := pw_ne hap 8 13 (by decide) (Nat.le_of_ble_eq_true rfl)
  have ne_wc_mk : nq wc mk := Ne.symm ne_mk_wc
  have ne_mk_ol : nq mk ol := pw_ne hap 8 14 (by decide) (Nat.le_of_ble_eq_true rfl)
  have ne_ol_mk : nq ol mk := Ne.symm ne_mk_ol
  have ne_mk_al : nq mk al := pw_ne hap 8 15 (by decide) (Nat.le_of_ble_eq_true rfl)
  have ne_al_mk : nq al mk := Ne.symm ne_mk_al
  have ne_ir_se : nq ir se := pw_ne hap 9 10 (by decide) (Nat.le_of_ble_eq_true rfl)
  have ne_se_ir : nq se ir := Ne.symm ne_ir_se
  have ne_ir_ec : nq ir ec := pw_ne hap 9 11 (by decide) (Nat.le_of_ble_eq_true rfl)
  have ne_ec_ir : nq ec ir := Ne.symm ne_ir_ec
  have ne_ir_lc : nq ir lc := pw_ne hap 9 12 (by decide) (Nat.le_of_ble_eq_true rfl)
  have ne_lc_ir : nq lc ir := Ne.symm ne_ir_lc
  have ne_ir_wc : nq ir wc := pw_ne hap 9 13 (by decide) (Nat.le_of_ble_eq_true rfl)
  have ne_wc_ir : nq wc ir := Ne.symm ne_ir_wc
  have ne_ir_ol : nq ir ol := pw_ne hap 9 14 (by decide) (Nat.le_of_ble_eq_true rfl)
  have ne_ol_ir : nq ol ir := Ne.symm ne_ir_ol
  have ne_ir_al : nq ir al := pw_ne hap 9 15 (by decide) (Nat.le_of_ble_eq_true rfl)
  have ne_al_ir : nq al ir := Ne.symm ne_ir_al
  have ne_se_ec : nq se ec := pw_ne hap 10 11 (by decide) (Nat.le_of_ble_eq_true rfl)
  have ne_ec_se : nq ec se := Ne.symm ne_se_ec
  have ne_se_lc : nq se lc := pw_ne hap 10 12 (by decide) (Nat.le_of_ble_eq_true rfl)
  have ne_lc_se : nq lc se := Ne.symm ne_se_lc
  have ne_se_wc : nq se wc := pw_ne hap 10 13 (by decide) (Nat.le_of_ble_eq_true rfl)
  have ne_wc_se : nq wc se := Ne.symm ne_se_wc
  have ne_se_ol : nq se ol := pw_ne hap 10 14 (by decide) (Nat.le_of_ble_eq_true rfl)
  have ne_ol_se : nq ol se := Ne.symm ne_se_ol
  have ne_se_al : nq se al := pw_ne hap 10 15 (by decide) (Nat.le_of_ble_eq_true rfl)
  have ne_al_se : nq al se := Ne.symm ne_se_al
  have ne_ec_lc : nq ec lc := pw_ne hap 11 12 (by decide) (Nat.le_of_ble_eq_true rfl)
  have ne_lc_ec : nq lc ec := Ne.symm ne_ec_lc
  have ne_ec_wc : nq ec wc := pw_ne hap 11 13 (by decide) (Nat.le_of_ble_eq_true rfl)
  have ne_wc_ec : nq wc ec := Ne.symm ne_ec_wc
  have ne_ec_ol : nq ec ol := pw_ne hap 11 14 (by decide) (Nat.le_of_ble_eq_true rfl)
  have ne_ol_ec : nq ol ec := Ne.symm ne_ec_ol
  have ne_ec_al : nq ec al := pw_ne hap 11 15 (by decide) (Nat.le_of_ble_eq_true rfl)
  have ne_al_ec : nq al ec := Ne.symm ne_ec_al
  have ne_lc_wc : nq lc wc := pw_ne hap 12 13 (by decide) (Nat.le_of_ble_eq_true rfl)
  have ne_wc_lc : nq wc lc := Ne.symm ne_lc_wc
  have ne_lc_ol : nq lc ol := pw_ne hap 12 14 (by decide) (Nat.le_of_ble_eq_true rfl)
  have ne_ol_lc : nq ol lc := Ne.symm ne_lc_ol
  have ne_lc_al : nq lc al := pw_ne hap 12 15 (by decide) (Nat.le_of_ble_eq_true rfl)
  have ne_al_lc : nq al lc := Ne.symm ne_lc_al
  have ne_wc_ol : nq wc ol := pw_ne hap 13 14 (by decide) (Nat.le_of_ble_eq_true rfl)
  have ne_ol_wc : nq ol wc := Ne.symm ne_wc_ol
  have ne_wc_al : nq wc al := pw_ne hap 13 15 (by decide) (Nat.le_of_ble_eq_true rfl)
  have ne_al_wc : nq al wc := Ne.symm ne_wc_al
  have ne_ol_al : nq ol al := pw_ne hap 14 15 (by decide) (Nat.le_of_ble_eq_true rfl)
  have ne_al_ol : nq al ol := Ne.symm ne_ol_al
  have hkp : kpx (fun a => a ∈ [mo, cn, ia, dr, en, la, wo, op, mk, ir, se, ec, lc, wc, ol, al]) M M := kpx.refl _ _
  refine lv_aload_n hx hb dX6_back_0 rfl (lv_at hl 0 rfl) ?_
  refine lv_aload_n hx hb dX6_back_1 rfl (lv_at hl 0 rfl) ?_
  refine lv_iload_n hx hb dX6_back_2 rfl (lv_at hl 1 rfl) ?_
  refine m_kV (As := [.int tq]) (rest := [.ref mo]) (rm := { frames := 0, cells := 0, slots := 0, locals := 0 }) ⟨hx, hb, hml, hown, hts⟩ (s_X6_isOpen l D k z _ mo cn ia dr en la wo op mk ir se ec lc wc ol al dn md tq hI) (cwV 1 hts gX6_back_X6_isOpen rfl rfl rfl (by decide +kernel) ⟨Nat.le_of_ble_eq_true rfl, Nat.le_of_ble_eq_true rfl⟩) (m_recv hK hm (q := (RX6, TX6, 24)) rfl hM) hz hcx hm hS rfl hl.1 rfl (Nat.le_of_ble_eq_true rfl) dX6_back_3 ⟨Nat.le_of_ble_eq_true rfl, Nat.le_of_ble_eq_true rfl⟩ (fun v M1 H locs hv hm hS => ?_)
  obtain ⟨hv2, hM1⟩ := hv
  rw [hM1] at hm
  rcases hv2 with hv1 | ⟨hv1, hdn, t9, ht9, htE⟩
  · subst hv1
    refine W.eq (g2 := F0 m 6 ls [.int 0, .ref mo]) rfl ?_
    refine W.widen (k := 0) (n := 0) (Nat.le_of_ble_eq_true rfl) (Nat.le_of_ble_eq_true rfl) ?_
    have hm : mm D (AZ z) M H := hm
    refine lv_if_ne (tgt := 13) hx hb dX6_back_6 (by decide) (fun c1 => ?_) (fun c1 => ?_)
    · first | exact absurd c1 (by decide) | exact absurd (by decide) c1
    · refine lv_iconst (v := 1) hx hb dX6_back_9 (by decide) ?_
      refine lv_goto (tgt := 27) hx hb dX6_back_10 (by decide) ?_
      refine m_kV (As := [.int 1]) (rest := []) (rm := { frames := 0, cells := 0, slots := 0, locals := 0 }) ⟨hx, hb, hml, hown, hts⟩ (s_X6_failsE l D k z _ mo cn ia dr en la wo op mk ir se ec lc wc ol al cd ni dn md pw cm wr cs hm9 1 hM) (cwV 1 hts gX6_back_X6_fails rfl rfl rfl (by decide +kernel) ⟨Nat.le_of_ble_eq_true rfl, Nat.le_of_ble_eq_true rfl⟩) (m_recv hK hm (q := (RX6, TX6, 24)) rfl hM) hz hcx hm hS rfl hl.1 rfl (Nat.le_of_ble_eq_true rfl) dX6_back_27 ⟨Nat.le_of_ble_eq_true rfl, Nat.le_of_ble_eq_true rfl⟩ (fun v M1 H locs hv hm hS => ?_)
      obtain ⟨hv1, hM1⟩ := hv
      have hv1 : v = some (.int 1) := hv1.trans (by decide)
      subst hv1
      rw [hM1] at hm
      refine W.eq (g2 := F0 m 30 ls [.int 1]) rfl ?_
      refine W.widen (k := 0) (n := 0) (Nat.le_of_ble_eq_true rfl) (Nat.le_of_ble_eq_true rfl) ?_
      have hm : mm D (AZ z) (mu M mo (.inr (6, [.int 1, .ref cn, .ref ia, .ref dr, .ref en, .ref la, .ref wo, .int ni, .ref op, .ref mk, .ref ir, .int dn, .int md, .int pw, .int cm, .int wr, .ref se, .ref ec, .ref lc, .ref wc, .ref ol, .ref al, .int cs, .int hm9]))) H := hm
      have hkp : kpx (fun a => a ∈ [mo, cn, ia, dr, en, la, wo, op, mk, ir, se, ec, lc, wc, ol, al]) M (mu M mo (.inr (6, [.int 1, .ref cn, .ref ia, .ref dr, .ref en, .ref la, .ref wo, .int ni, .ref op, .ref mk, .ref ir, .int dn, .int md, .int pw, .int cm, .int wr, .ref se, .ref ec, .ref lc, .ref wc, .ref ol, .ref al, .int cs, .int hm9]))) := (hkp).self (by simp)
      refine lv_if_eq (tgt := 35) hx hb dX6_back_30 (by decide) (fun c2 => ?_) (fun c2 => ?_)
      · first | exact absurd c2 (by decide) | exact absurd (by decide) c2
      · refine lv_iconst (v := 0) hx hb dX6_back_33 (by decide) ?_
        refine W.iret (v := 0) hx hb hr (fun t ht hW => ⟨⟨some (.int 0), _, rfl, ?_, by rw [ht]; exact hm⟩, hS.F ht⟩) hS.2.2 dX6_back_34
        exact ⟨⟨_, rfl⟩, ⟨_, _, _, _, _, _, _, fcn, fia, fdr, fen, fla, fwo, fop, fmk, fir, fse, fec, flc, fol, fal, fwc, hap, (mu_self _ _ _), hmd, ⟨hrC, hrL, hrM⟩, ((mu_ne ne_cn_mo).trans hcn), ((mu_ne ne_ia_mo).trans hia), ((mu_ne ne_dr_mo).trans hdr), ((mu_ne ne_en_mo).trans hen), ((mu_ne ne_la_mo).trans hla), ((mu_ne ne_wo_mo).trans hwo), ((mu_ne ne_op_mo).trans hop), ((mu_ne ne_mk_mo).trans hmk), ((mu_ne ne_ir_mo).trans hir), ((mu_ne ne_se_mo).trans hse), ((mu_ne ne_ec_mo).trans hec), ((mu_ne ne_lc_mo).trans hlc), ((mu_ne ne_wc_mo).trans hwc), ((mu_ne ne_ol_mo).trans hol), ((mu_ne ne_al_mo).trans hal)⟩, hkp⟩
  · subst hv1
    subst htE
    refine W.eq (g2 := F0 m 6 ls [.int 1, .ref mo]) rfl ?_
    refine W.widen (k := 0) (n := 0) (Nat.le_of_ble_eq_true rfl) (Nat.le_of_ble_eq_true rfl) ?_
    have hm : mm D (AZ z) M H := hm
    refine lv_if_ne (tgt := 13) hx hb dX6_back_6 (by decide) (fun c3 => ?_) (fun c3 => ?_)
    · refine lv_aload_n hx hb dX6_back_13 rfl (lv_at hl 0 rfl) ?_
      refine m_get (T := TX6) (N := 24) (ci := 6) (v := .ref mk) hx hb hts wX6 hown hK hm hM rfl 9 (by decide) f38 (fun _ h9 => h9) rfl dX6_back_14 ?_
      refine lv_iload_n hx hb dX6_back_17 rfl (lv_at hl 1 rfl) ?_
      refine m_iald hx hb hK hm 0 hmk rfl (vp_in_nI (by omega) (by decide)) dX6_back_18 ?_
      obtain ⟨u4, hu4, eu4⟩ := hrM t9
      refine W.eq (g2 := F0 m 19 ls [.int (nI u4), .ref mo]) (by rw [show (fmk ((nI t9)).toNatClampNeg) = nI u4 from (congrArg fmk (show ((nI t9)).toNatClampNeg = t9 from nI_clamp (by omega))).trans eu4]) ?_
      have hb_u4 := hu4
      have hu4 : u4 ≤ 3 := hu4
      refine lv_if_ne (tgt := 26) hx hb dX6_back_19 (by decide) (fun c5 => ?_) (fun c5 => ?_)
      · have hu0 : u4 ≠ 0 := fun q => c5 (by rw [q]; rfl)
        refine lv_iconst (v := 0) hx hb dX6_back_26 (by decide) ?_
        refine m_kV (As := [.int 0]) (rest := []) (rm := { frames := 0, cells := 0, slots := 0, locals := 0 }) ⟨hx, hb, hml, hown, hts⟩ (s_X6_failsE l D k z _ mo cn ia dr en la wo op mk ir se ec lc wc ol al cd ni dn md pw cm wr cs hm9 0 hM) (cwV 1 hts gX6_back_X6_fails rfl rfl rfl (by decide +kernel) ⟨Nat.le_of_ble_eq_true rfl, Nat.le_of_ble_eq_true rfl⟩) (m_recv hK hm (q := (RX6, TX6, 24)) rfl hM) hz hcx hm hS rfl hl.1 rfl (Nat.le_of_ble_eq_true rfl) dX6_back_27 ⟨Nat.le_of_ble_eq_true rfl, Nat.le_of_ble_eq_true rfl⟩ (fun v M1 H locs hv hm hS => ?_)
        obtain ⟨hv1, hM1⟩ := hv
        have hv1 : v = some (.int 0) := hv1.trans (by decide)
        subst hv1
        rw [hM1] at hm
        refine W.eq (g2 := F0 m 30 ls [.int 0]) rfl ?_
        refine W.widen (k := 0) (n := 0) (Nat.le_of_ble_eq_true rfl) (Nat.le_of_ble_eq_true rfl) ?_
        have hm : mm D (AZ z) (mu M mo (.inr (6, [.int 0, .ref cn, .ref ia, .ref dr, .ref en, .ref la, .ref wo, .int ni, .ref op, .ref mk, .ref ir, .int dn, .int md, .int pw, .int cm, .int wr, .ref se, .ref ec, .ref lc, .ref wc, .ref ol, .ref al, .int cs, .int hm9]))) H := hm
        have hkp : kpx (fun a => a ∈ [mo, cn, ia, dr, en, la, wo, op, mk, ir, se, ec, lc, wc, ol, al]) M (mu M mo (.inr (6, [.int 0, .ref cn, .ref ia, .ref dr, .ref en, .ref la, .ref wo, .int ni, .ref op, .ref mk, .ref ir, .int dn, .int md, .int pw, .int cm, .int wr, .ref se, .ref ec, .ref lc, .ref wc, .ref ol, .ref al, .int cs, .int hm9]))) := (hkp).self (by simp)
        refine lv_if_eq (tgt := 35) hx hb dX6_back_30 (by decide) (fun c6 => ?_) (fun c6 => ?_)
        · refine lv_aload_n hx hb dX6_back_35 rfl (lv_at hl 0 rfl) ?_
          refine m_get (T := TX6) (N := 24) (ci := 6) (v := .ref mk) hx hb hts wX6 hown hK hm (mu_self _ _ _) rfl 9 (by decide) f38 (fun _ h9 => h9) rfl dX6_back_36 ?_
          refine lv_iload_n hx hb dX6_back_39 rfl (lv_at hl 1 rfl) ?_
          refine lv_dup2_11 hx hb dX6_back_40 rfl rfl ?_
          refine m_iald hx hb hK hm 0 ((mu_ne ne_mk_mo).trans hmk) rfl (vp_in_nI (by omega) (by decide)) dX6_back_41 ?_
          obtain ⟨u7, hu7, eu7⟩ := hrM t9
          refine W.eq (g2 := F0 m 42 ls [.int (nI u7), .int (nI t9), .ref mk]) (by rw [show (fmk ((nI t9)).toNatClampNeg) = nI u7 from (congrArg fmk (show ((nI t9)).toNatClampNeg = t9 from nI_clamp (by omega))).trans eu7]) ?_
          have hb_u7 := hu7
          have hu7 : u7 ≤ 3 := hu7
          have hs_u7 : u7 = u4 := nI_inj (by omega) (by omega) (eu7.symm.trans eu4)
          refine lv_iconst (v := 1) hx hb dX6_back_42 (by decide) ?_
          refine lv_isub hx hb dX6_back_43 ?_
          refine W.eq (g2 := F0 m 44 ls [.int (nI (u7 - 1)), .int (nI t9), .ref mk]) (by rw [show (((nI u7)) - (1) : Int32) = nI (u7 - 1) from pk_sub (a := u7) (b := 1) (by omega)]) ?_
          refine m_iast hx hb hK hm hS 0 ((mu_ne ne_mk_mo).trans hmk) rfl (vp_in_nI (by omega) (by decide)) dX6_back_44 (fun H locs hm hS => ?_)
          have hrM : rng bM (upd fmk ((nI t9)).toNatClampNeg (nI (u7 - 1))) := (hrM).up _ (u7 - 1) (show (u7 - 1) ≤ 3 by omega)
          have hm : mm D (AZ z) (mu (mu M mo (.inr (6, [.int 0, .ref cn, .ref ia, .ref dr, .ref en, .ref la, .ref wo, .int ni, .ref op, .ref mk, .ref ir, .int dn, .int md, .int pw, .int cm, .int wr, .ref se, .ref ec, .ref lc, .ref wc, .ref ol, .ref al, .int cs, .int hm9]))) mk (.inl (k 0, 6, .inl (upd fmk ((nI t9)).toNatClampNeg (nI (u7 - 1)))))) H := hm
          have hkp : kpx (fun a => a ∈ [mo, cn, ia, dr, en, la, wo, op, mk, ir, se, ec, lc, wc, ol, al]) M (mu (mu M mo (.inr (6, [.int 0, .ref cn, .ref ia, .ref dr, .ref en, .ref la, .ref wo, .int ni, .ref op, .ref mk, .ref ir, .int dn, .int md, .int pw, .int cm, .int wr, .ref se, .ref ec, .ref lc, .ref wc, .ref ol, .ref al, .int cs, .int hm9]))) mk (.inl (k 0, 6, .inl (upd fmk ((nI t9)).toNatClampNeg (nI (u7 - 1)))))) := (hkp).self (by simp)
          refine lv_aload_n hx hb dX6_back_45 rfl (lv_at hl 0 rfl) ?_
          refine lv_iconst (v := 2) hx hb dX6_back_46 (by decide) ?_
          refine lv_iconst (v := 5) hx hb dX6_back_47 (by decide) ?_
          refine lv_iload_n hx hb dX6_back_48 rfl (lv_at hl 1 rfl) ?_
          refine lv_imul hx hb dX6_back_49 ?_
          refine W.eq (g2 := F0 m 50 ls [.int (nI (5 * t9)), .int 2, .ref mo]) (by rw [show ((5) * ((nI t9)) : Int32) = nI (5 * t9) from pk_mul 5 t9]) ?_
          refine lv_iadd hx hb dX6_back_50 ?_
          refine W.eq (g2 := F0 m 51 ls [.int (nI (2 + (5 * t9))), .ref mo]) (by rw [show ((2) + ((nI (5 * t9))) : Int32) = nI (2 + (5 * t9)) from nI_add 2 (5 * t9)]) ?_
          refine lv_iconst (v := 3) hx hb dX6_back_51 (by decide) ?_
          refine lv_iconst (v := 5) hx hb dX6_back_52 (by decide) ?_
          refine lv_iload_n hx hb dX6_back_53 rfl (lv_at hl 1 rfl) ?_
          refine lv_imul hx hb dX6_back_54 ?_
          refine W.eq (g2 := F0 m 55 ls [.int (nI (5 * t9)), .int 3, .int (nI (2 + (5 * t9))), .ref mo]) (by rw [show ((5) * ((nI t9)) : Int32) = nI (5 * t9) from pk_mul 5 t9]) ?_
          refine lv_iadd hx hb dX6_back_55 ?_
          refine W.eq (g2 := F0 m 56 ls [.int (nI (3 + (5 * t9))), .int (nI (2 + (5 * t9))), .ref mo]) (by rw [show ((3) + ((nI (5 * t9))) : Int32) = nI (3 + (5 * t9)) from nI_add 3 (5 * t9)]) ?_
          refine lv_aload_n hx hb dX6_back_56 rfl (lv_at hl 0 rfl) ?_
          refine m_get (T := TX6) (N := 24) (ci := 6) (v := .ref mk) hx hb hts wX6 hown hK hm ((mu_ne ne_mo_mk).trans (mu_self _ _ _)) rfl 9 (by decide) f38 (fun _ h9 => h9) rfl dX6_back_57 ?_
          refine lv_iload_n hx hb dX6_back_60 rfl (lv_at hl 1 rfl) ?_
          refine m_iald hx hb hK hm 0 (mu_self _ _ _) rfl (vp_in_nI (by omega) (by decide)) dX6_back_61 ?_
          obtain ⟨u8, hu8, eu8⟩ := hrM t9
          refine W.eq (g2 := F0 m 62 ls [.int (nI u8), .int (nI (3 + (5 * t9))), .int (nI (2 + (5 * t9))), .ref mo]) (by rw [show ((upd fmk ((nI t9)).toNatClampNeg (nI (u7 - 1))) ((nI t9)).toNatClampNeg) = nI u8 from (congrArg (upd fmk ((nI t9)).toNatClampNeg (nI (u7 - 1))) (show ((nI t9)).toNatClampNeg = t9 from nI_clamp (by omega))).trans eu8]) ?_
          have hb_u8 := hu8
          have hu8 : u8 ≤ 3 := hu8
          have hs_u8 : u8 = u7 - 1 := nI_inj (by omega) (by omega) (eu8.symm.trans (if_pos (nI_clamp (n := t9) (by omega)).symm))
          refine lv_iadd hx hb dX6_back_62 ?_
          refine W.eq (g2 := F0 m 63 ls [.int (nI ((3 + (5 * t9)) + u8)), .int (nI (2 + (5 * t9))), .ref mo]) (by rw [show (((nI (3 + (5 * t9)))) + ((nI u8)) : Int32) = nI ((3 + (5 * t9)) + u8) from nI_add (3 + (5 * t9)) u8]) ?_
          have hI0 : mI k (mu (mu M mo (.inr (6, [.int 0, .ref cn, .ref ia, .ref dr, .ref en, .ref la, .ref wo, .int ni, .ref op, .ref mk, .ref ir, .int dn, .int md, .int pw, .int cm, .int wr, .ref se, .ref ec, .ref lc, .ref wc, .ref ol, .ref al, .int cs, .int hm9]))) mk (.inl (k 0, 6, .inl (upd fmk ((nI t9)).toNatClampNeg (nI (u7 - 1)))))) mo cn ia dr en la wo op mk ir se ec lc wc ol al dn md := ⟨_, _, _, _, _, _, _, fcn, fia, fdr, fen, fla, fwo, fop, (upd fmk ((nI t9)).toNatClampNeg (nI (u7 - 1))), fir, fse, fec, flc, fol, fal, fwc, hap, ((mu_ne ne_mo_mk).trans (mu_self _ _ _)), hmd, ⟨hrC, hrL, hrM⟩, ((mu_ne ne_cn_mk).trans ((mu_ne ne_cn_mo).trans hcn)), ((mu_ne ne_ia_mk).trans ((mu_ne ne_ia_mo).trans hia)), ((mu_ne ne_dr_mk).trans ((mu_ne ne_dr_mo).trans hdr)), ((mu_ne ne_en_mk).trans ((mu_ne ne_en_mo).trans hen)), ((mu_ne ne_la_mk).trans ((mu_ne ne_la_mo).trans hla)), ((mu_ne ne_wo_mk).trans ((mu_ne ne_wo_mo).trans hwo)), ((mu_ne ne_op_mk).trans ((mu_ne ne_op_mo).trans hop)), (mu_self _ _ _), ((mu_ne ne_ir_mk).trans ((mu_ne ne_ir_mo).trans hir)), ((mu_ne ne_se_mk).trans ((mu_ne ne_se_mo).trans hse)), ((mu_ne ne_ec_mk).trans ((mu_ne ne_ec_mo).trans hec)), ((mu_ne ne_lc_mk).trans ((mu_ne ne_lc_mo).trans hlc)), ((mu_ne ne_wc_mk).trans ((mu_ne ne_wc_mo).trans hwc)), ((mu_ne ne_ol_mk).trans ((mu_ne ne_ol_mo).trans hol)), ((mu_ne ne_al_mk).trans ((mu_ne ne_al_mo).trans hal))⟩
          refine m_kV (As := [.int (nI (2 + (5 * t9))), .int (nI ((3 + (5 * t9)) + u8))]) (rest := []) (rm := { frames := 1, cells := 0, slots := 0, locals := 23 }) ⟨hx, hb, hml, hown, hts⟩ (s_X6_copyTree l D k z _ mo cn ia dr en la wo op mk ir se ec lc wc ol al dn md (2 + (5 * t9)) ((3 + (5 * t9)) + u8) (by omega) (by omega) (bC_v (by omega) (by omega)) (fun q => by omega) hI0) (cwV 2 hts gX6_back_X6_copyTree rfl rfl rfl (by decide +kernel) ⟨Nat.le_of_ble_eq_true rfl, Nat.le_of_ble_eq_true rfl⟩) (m_recv hK hm (q := (RX6, TX6, 24)) rfl ((mu_ne ne_mo_mk).trans (mu_self _ _ _))) hz hcx hm hS rfl hl.1 rfl (Nat.le_of_ble_eq_true rfl) dX6_back_63 ⟨Nat.le_of_ble_eq_true rfl, Nat.le_of_ble_eq_true rfl⟩ (fun v M1 H locs hv hm hS => ?_)
          obtain ⟨hv1, hI, hk9⟩ := hv
          subst hv1
          obtain ⟨_, _, _, _, _, _, _, fcn_1, fia_1, fdr_1, fen_1, fla_1, fwo_1, _, _, _, _, _, _, _, _, _, -, -, hmd_1, ⟨hrC_1, hrL_1, -⟩, hcn_1, hia_1, hdr_1, hen_1, hla_1, hwo_1, -, -, -, -, -, -, -, -, -⟩ := id hI
          have kmo_1 := hk9 _ _ (by simp only [List.mem_cons, List.not_mem_nil, or_false, not_or]; exact ⟨ne_mo_cn, ne_mo_ia, ne_mo_dr, ne_mo_en, ne_mo_la, ne_mo_wo⟩) ((mu_ne ne_mo_mk).trans (mu_self _ _ _))
          have kop_1 := hk9 _ _ (by simp only [List.mem_cons, List.not_mem_nil, or_false, not_or]; exact ⟨ne_op_cn, ne_op_ia, ne_op_dr, ne_op_en, ne_op_la, ne_op_wo⟩) ((mu_ne ne_op_mk).trans ((mu_ne ne_op_mo).trans hop))
          have kmk_1 := hk9 _ _ (by simp only [List.mem_cons, List.not_mem_nil, or_false, not_or]; exact ⟨ne_mk_cn, ne_mk_ia, ne_mk_dr, ne_mk_en, ne_mk_la, ne_mk_wo⟩) (mu_self _ _ _)
          have kir_1 := hk9 _ _ (by simp only [List.mem_cons, List.not_mem_nil, or_false, not_or]; exact ⟨ne_ir_cn, ne_ir_ia, ne_ir_dr, ne_ir_en, ne_ir_la, ne_ir_wo⟩) ((mu_ne ne_ir_mk).trans ((mu_ne ne_ir_mo).trans hir))
          have kse_1 := hk9 _ _ (by simp only [List.mem_cons, List.not_mem_nil, or_false, not_or]; exact ⟨ne_se_cn, ne_se_ia, ne_se_dr, ne_se_en, ne_se_la, ne_se_wo⟩) ((mu_ne ne_se_mk).trans ((mu_ne ne_se_mo).trans hse))
          have kec_1 := hk9 _ _ (by simp only [List.mem_cons, List.not_mem_nil, or_false, not_or]; exact ⟨ne_ec_cn, ne_ec_ia, ne_ec_dr, ne_ec_en, ne_ec_la, ne_ec_wo⟩) ((mu_ne ne_ec_mk).trans ((mu_ne ne_ec_mo).trans hec))
          have klc_1 := hk9 _ _ (by simp only [List.mem_cons, List.not_mem_nil, or_false, not_or]; exact ⟨ne_lc_cn, ne_lc_ia, ne_lc_dr, ne_lc_en, ne_lc_la, ne_lc_wo⟩) ((mu_ne ne_lc_mk).trans ((mu_ne ne_lc_mo).trans hlc))
          have kwc_1 := hk9 _ _ (by simp only [List.mem_cons, List.not_mem_nil, or_false, not_or]; exact ⟨ne_wc_cn, ne_wc_ia, ne_wc_dr, ne_wc_en, ne_wc_la, ne_wc_wo⟩) ((mu_ne ne_wc_mk).trans ((mu_ne ne_wc_mo).trans hwc))
          have kol_1 := hk9 _ _ (by simp only [List.mem_cons, List.not_mem_nil, or_false, not_or]; exact ⟨ne_ol_cn, ne_ol_ia, ne_ol_dr, ne_ol_en, ne_ol_la, ne_ol_wo⟩) ((mu_ne ne_ol_mk).trans ((mu_ne ne_ol_mo).trans hol))
          have kal_1 := hk9 _ _ (by simp only [List.mem_cons, List.not_mem_nil, or_false, not_or]; exact ⟨ne_al_cn, ne_al_ia, ne_al_dr, ne_al_en, ne_al_la, ne_al_wo⟩) ((mu_ne ne_al_mk).trans ((mu_ne ne_al_mo).trans hal))
          have hkp := hkp.trans (hk9.mono (fun a ha => by simp only [List.mem_cons, List.not_mem_nil, or_false] at ha ⊢; rcases ha with q9 | q9 | q9 | q9 | q9 | q9 <;> simp [q9]))
          obtain ⟨Mc1, hMx⟩ : ∃ x : mM, x = M1 := ⟨M1, rfl⟩
          subst hMx
          refine W.eq (g2 := F0 m 66 ls []) rfl ?_
          refine W.widen (k := 0) (n := 0) (Nat.le_of_ble_eq_true rfl) (Nat.le_of_ble_eq_true rfl) ?_
          have hm : mm D (AZ z) Mc1 H := hm
          refine lv_aload_n hx hb dX6_back_66 rfl (lv_at hl 0 rfl) ?_
          refine m_get (T := TX6) (N := 24) (ci := 6) (v := .ref mk) hx hb hts wX6 hown hK hm kmo_1 rfl 9 (by decide) f38 (fun _ h9 => h9) rfl dX6_back_67 ?_
          refine lv_iload_n hx hb dX6_back_70 rfl (lv_at hl 1 rfl) ?_
          refine m_iald hx hb hK hm 0 kmk_1 rfl (vp_in_nI (by omega) (by decide)) dX6_back_71 ?_
          obtain ⟨u9, hu9, eu9⟩ := hrM t9
          refine W.eq (g2 := F0 m 72 ls [.int (nI u9)]) (by rw [show ((upd fmk ((nI t9)).toNatClampNeg (nI (u7 - 1))) ((nI t9)).toNatClampNeg) = nI u9 from (congrArg (upd fmk ((nI t9)).toNatClampNeg (nI (u7 - 1))) (show ((nI t9)).toNatClampNeg = t9 from nI_clamp (by omega))).trans eu9]) ?_
          have hb_u9 := hu9
          have hu9 : u9 ≤ 3 := hu9
          refine W.iret (v := (nI u9)) hx hb hr (fun t ht hW => ⟨⟨some (.int (nI u9)), _, rfl, ?_, by rw [ht]; exact hm⟩, hS.F ht⟩) hS.2.2 dX6_back_72
          exact ⟨⟨_, rfl⟩, ⟨_, _, _, _, _, _, _, fcn_1, fia_1, fdr_1, fen_1, fla_1, fwo_1, fop, (upd fmk ((nI t9)).toNatClampNeg (nI (u7 - 1))), fir, fse, fec, flc, fol, fal, fwc, hap, kmo_1, hmd_1, ⟨hrC_1, hrL_1, hrM⟩, hcn_1, hia_1, hdr_1, hen_1, hla_1, hwo_1, kop_1, kmk_1, kir_1, kse_1, kec_1, klc_1, kwc_1, kol_1, kal_1⟩, hkp⟩
        · first | exact absurd c6 (by decide) | exact absurd (by decide) c6
      · refine lv_iconst (v := 2) hx hb dX6_back_22 (by decide) ?_
        refine lv_goto (tgt := 27) hx hb dX6_back_23 (by decide) ?_
        refine m_kV (As := [.int 2]) (rest := []) (rm := { frames := 0, cells := 0, slots := 0, locals := 0 }) ⟨hx, hb, hml, hown, hts⟩ (s_X6_failsE l D k z _ mo cn ia dr en la wo op mk ir se ec lc wc ol al cd ni dn md pw cm wr cs hm9 2 hM) (cwV 1 hts gX6_back_X6_fails rfl rfl rfl (by decide +kernel) ⟨Nat.le_of_ble_eq_true rfl, Nat.le_of_ble_eq_true rfl⟩) (m_recv hK hm (q := (RX6, TX6, 24)) rfl hM) hz hcx hm hS rfl hl.1 rfl (Nat.le_of_ble_eq_true rfl) dX6_back_27 ⟨Nat.le_of_ble_eq_true rfl, Nat.le_of_ble_eq_true rfl⟩ (fun v M1 H locs hv hm hS => ?_)
        obtain ⟨hv1, hM1⟩ := hv
        have hv1 : v = some (.int 1) := hv1.trans (by decide)
        subst hv1
        rw [hM1] at hm
        refine W.eq (g2 := F0 m 30 ls [.int 1]) rfl ?_
        refine W.widen (k := 0) (n := 0) (Nat.le_of_ble_eq_true rfl) (Nat.le_of_ble_eq_true rfl) ?_
        have hm : mm D (AZ z) (mu M mo (.inr (6, [.int 2, .ref cn, .ref ia, .ref dr, .ref en, .ref la, .ref wo, .int ni, .ref op, .ref mk, .ref ir, .int dn, .int md, .int pw, .int cm, .int wr, .ref se, .ref ec, .ref lc, .ref wc, .ref ol, .ref al, .int cs, .int hm9]))) H := hm
        have hkp : kpx (fun a => a ∈ [mo, cn, ia, dr, en, la, wo, op, mk, ir, se, ec, lc, wc, ol, al]) M (mu M mo (.inr (6, [.int 2, .ref cn, .ref ia, .ref dr, .ref en, .ref la, .ref wo, .int ni, .ref op, .ref mk, .ref ir, .int dn, .int md, .int pw, .int cm, .int wr, .ref se, .ref ec, .ref lc, .ref wc, .ref ol, .ref al, .int cs, .int hm9]))) := (hkp).self (by simp)
        refine lv_if_eq (tgt := 35) hx hb dX6_back_30 (by decide) (fun c10 => ?_) (fun c10 => ?_)
        · first | exact absurd c10 (by decide) | exact absurd (by decide) c10
        · refine lv_iconst (v := 0) hx hb dX6_back_33 (by decide) ?_
          refine W.iret (v := 0) hx hb hr (fun t ht hW => ⟨⟨some (.int 0), _, rfl, ?_, by rw [ht]; exact hm⟩, hS.F ht⟩) hS.2.2 dX6_back_34
          exact ⟨⟨_, rfl⟩, ⟨_, _, _, _, _, _, _, fcn, fia, fdr, fen, fla, fwo, fop, fmk, fir, fse, fec, flc, fol, fal, fwc, hap, (mu_self _ _ _), hmd, ⟨hrC, hrL, hrM⟩, ((mu_ne ne_cn_mo).trans hcn), ((mu_ne ne_ia_mo).trans hia), ((mu_ne ne_dr_mo).trans hdr), ((mu_ne ne_en_mo).trans hen), ((mu_ne ne_la_mo).trans hla), ((mu_ne ne_wo_mo).trans hwo), ((mu_ne ne_op_mo).trans hop), ((mu_ne ne_mk_mo).trans hmk), ((mu_ne ne_ir_mo).trans hir), ((mu_ne ne_se_mo).trans hse), ((mu_ne ne_ec_mo).trans hec), ((mu_ne ne_lc_mo).trans hlc), ((mu_ne ne_wc_mo).trans hwc), ((mu_ne ne_ol_mo).trans hol), ((mu_ne ne_al_mo).trans hal)⟩, hkp⟩
    · first | exact absurd c3 (by decide) | exact absurd (by decide) c3

set_option maxHeartbeats 4000000 in
set_option maxRecDepth 100000 in
theorem s_X6_count (l : Launch) (D : va_G) (k : Nat → ClassId) (z : Nat) (M : mM) (mo cn ia dr en la wo op mk ir se ec lc wc ol al : Nat) (dn md : Int32)  (w9 : Int32) (hbd : md ≠ 0 → dn ≠ 0) (hI : mI k M mo cn ia dr en la wo op mk ir se ec lc wc ol al dn md) : mK l yX6_count wsX6_count ({ frames := 1, cells := 0, slots := 0, locals := 23 }) D k z [.ref mo, .int w9] M (fun v M' => (∃ x, v = some (.int x)) ∧ mI k M' mo cn ia dr en la wo op mk ir se ec lc wc ol al dn md ∧ kpx (fun a => a ∈ [mo, cn, ia, dr, en, la, wo, op, mk, ir, se, ec, lc, wc, ol, al]) M M') := by
  refine Met.ofW (cc := cX6_count) (maxL := 4) (ret := (some .int)) (by decide) rfl ?_
  intro p e s m args below meth c s₁ B hml hv
  obtain ⟨rfl, hz, hcx, hm⟩ := hv
  have hx := B.exec
  have hb := B.bytes
  have hr := B.returns
  have hts := atoms_spec (ws := wsX6_count) B.pre
  have hown : s.vm.findClass RX6 = some m.cls := findClass_of_methodNamed B.named
  have hlocks := B.notSynchronized
  have hK := hcx.1
  have hS : va_S (AZ z) s.heap s.heap [] := va_S.rf
  have hA : ∀ q, s.heap.size ≤ q → AZ z q := fun q h => Nat.le_trans hz h
  have hl := lv_entry ([.ref mo, .int w9]) (n := 4) (Nat.le_of_ble_eq_true rfl)
  rw [lg_entry_eq]
  generalize (lg_sl ([.ref mo, .int w9]) ++ List.replicate (4 - (lg_sl ([.ref mo, .int w9])).length) Slot.unset).toArray = ls at hl ⊢
  have hl : lv_has ls 4 [(0, .ref mo), (1, .int w9)] := hl
  have f7 := hts (.fieldLink RX6 7 "CommitTreeModel" "counts" "[I") (by decide +kernel)
  have f35 := hts (.fieldLink RX6 35 "CommitTreeModel" "open" "[Z") (by decide +kernel)
  have f94 := hts (.fieldLink RX6 94 "CommitTreeModel" "down" "Z") (by decide +kernel)
  have f151 := hts (.fieldLink RX6 151 "CommitTreeModel" "written" "I") (by decide +kernel)
  have f157 := hts (.fieldLink RX6 157 "CommitTreeModel" "committed" "I") (by decide +kernel)
  have wX6 : ∀ w ∈ wsX60, w ∈ wsX6_count := by decide +kernel
  obtain ⟨cd, ni, pw, cm, wr, cs, hm9, fcn, fia, fdr, fen, fla, fwo, fop, fmk, fir, fse, fec, flc, fol, fal, fwc, hap, hM, hmd, ⟨hrC, hrL, hrM⟩, hcn, hia, hdr, hen, hla, hwo, hop, hmk, hir, hse, hec, hlc, hwc, hol, hal⟩ := id hI
  have ne_mo_cn : nq mo cn := pw_ne hap 0 1 (by decide) (Nat.le_of_ble_eq_true rfl)
  have ne_cn_mo : nq cn mo := Ne.symm ne_mo_cn
  have ne_mo_ia : nq mo ia := pw_ne hap 0 2 (by decide) (Nat.le_of_ble_eq_true rfl)
  have ne_ia_mo : nq ia mo := Ne.symm ne_mo_ia
  have ne_mo_dr : nq mo dr := pw_ne hap 0 3 (by decide) (Nat.le_of_ble_eq_true rfl)
  have ne_dr_mo : nq dr mo := Ne.symm ne_mo_dr
  have ne_mo_en : nq mo en := pw_ne hap 0 4 (by decide) (Nat.le_of_ble_eq_true rfl)
  have ne_en_mo : nq en mo := Ne.symm ne_mo_en
  have ne_mo_la : nq mo la := pw_ne hap 0 5 (by decide) (Nat.le_of_ble_eq_true rfl)
  have ne_la_mo : nq la mo := Ne.symm ne_mo_la
  have ne_mo_wo : nq mo wo := pw_ne hap 0 6 (by decide) (Nat.le_of_ble_eq_true rfl)
  have ne_wo_mo : nq wo mo := Ne.symm ne_mo_wo
  have ne_mo_op : nq mo op := pw_ne hap 0 7 (by decide) (Nat.le_of_ble_eq_true rfl)
  have ne_op_mo : nq op mo := Ne.symm ne_mo_op
  have ne_mo_mk : nq mo mk := pw_ne hap 0 8 (by decide) (Nat.le_of_ble_eq_true rfl)
  have ne_mk_mo : nq mk mo := Ne.symm ne_mo_mk
  have ne_mo_ir : nq mo ir := pw_ne hap 0 9 (by decide) (Nat.le_of_ble_eq_true rfl)
  have ne_ir_mo : nq ir mo := Ne.symm ne_mo_ir
  have ne_mo_se : nq mo se := pw_ne hap 0 10 (by decide) (Nat.le_of_ble_eq_true rfl)
  have ne_se_mo : nq se mo := Ne.symm ne_mo_se
  have ne_mo_ec : nq mo ec := pw_ne hap 0 11 (by decide) (Nat.le_of_ble_eq_true rfl)
  have ne_ec_mo : nq ec mo := Ne.symm ne_mo_ec
  have ne_mo_lc : nq mo lc := pw_ne hap 0 12 (by decide) (Nat.le_of_ble_eq_true rfl)
  have ne_lc_mo : nq lc mo := Ne.symm ne_mo_lc
  have ne_mo_wc : nq mo wc := pw_ne hap 0 13 (by decide) (Nat.le_of_ble_eq_true rfl)
  have ne_wc_mo : nq wc mo := Ne.symm ne_mo_wc
  have ne_mo_ol : nq mo ol := pw_ne hap 0 14 (by decide) (Nat.le_of_ble_eq_true rfl)
  have ne_ol_mo : nq ol mo := Ne.symm ne_mo_ol
  have ne_mo_al : nq mo al := pw_ne hap 0 15 (by decide) (Nat.le_of_ble_eq_true rfl)
  have ne_al_mo : nq al mo := Ne.symm ne_mo_al
  have ne_cn_ia : nq cn ia := pw_ne hap 1 2 (by decide) (Nat.le_of_ble_eq_true rfl)
  have ne_ia_cn : nq ia cn := Ne.symm ne_cn_ia
  have ne_cn_dr : nq cn dr := pw_ne hap 1 3 (by decide) (Nat.le_of_ble_eq_true rfl)
  have ne_dr_cn : nq dr cn := Ne.symm ne_cn_dr
  have ne_cn_en : nq cn en := pw_ne hap 1 4 (by decide) (Nat.le_of_ble_eq_true rfl)
  have ne_en_cn : nq en cn := Ne.symm ne_cn_en
  have ne_cn_la : nq cn la := pw_ne hap 1 5 (by decide) (Nat.le_of_ble_eq_true rfl)
  have ne_la_cn : nq la cn := Ne.symm ne_cn_la
  have ne_cn_wo : nq cn wo := pw_ne hap 1 6 (by decide) (Nat.le_of_ble_eq_true rfl)
  have ne_wo_cn : nq wo cn := Ne.symm ne_cn_wo
  have ne_cn_op : nq cn op := pw_ne hap 1 7 (by decide) (Nat.le_of_ble_eq_true rfl)
  have ne_op_cn : nq op cn := Ne.symm ne_cn_op
  have ne_cn_mk : nq cn mk := pw_ne hap 1 8 (by decide) (Nat.le_of_ble_eq_true rfl)
  have ne_mk_cn : nq mk cn := Ne.symm ne_cn_mk
  have ne_cn_ir : nq cn ir := pw_ne hap 1 9 (by decide) (Nat.le_of_ble_eq_true rfl)
  have ne_ir_cn : nq ir cn := Ne.symm ne_cn_ir
  have ne_cn_se : nq cn se := pw_ne hap 1 10 (by decide) (Nat.le_of_ble_eq_true rfl)
  have ne_se_cn : nq se cn := Ne.symm ne_cn_se
  have ne_cn_ec : nq cn ec := pw_ne hap 1 11 (by decide) (Nat.le_of_ble_eq_true rfl)
  have ne_ec_cn : nq ec cn := Ne.symm ne_cn_ec
  have ne_cn_lc : nq cn lc := pw_ne hap 1 12 (by decide) (Nat.le_of_ble_eq_true rfl)
  have ne_lc_cn : nq lc cn := Ne.symm ne_cn_lc
  have ne_cn_wc : nq cn wc := pw_ne hap 1 13 (by decide) (Nat.le_of_ble_eq_true rfl)
  have ne_wc_cn : nq wc cn := Ne.symm ne_cn_wc
  have ne_cn_ol : nq cn ol := pw_ne hap 1 14 (by decide) (Nat.le_of_ble_eq_true rfl)
  have ne_ol_cn : nq ol cn := Ne.symm ne_cn_ol
  have ne_cn_al : nq cn al := pw_ne hap 1 15 (by decide) (Nat.le_of_ble_eq_true rfl)
  have ne_al_cn : nq al cn := Ne.symm ne_cn_al
  have ne_ia_dr : nq ia dr := pw_ne hap 2 3 (by decide) (Nat.le_of_ble_eq_true rfl)
  have ne_dr_ia : nq dr ia := Ne.symm ne_ia_dr
  have ne_ia_en : nq ia en := pw_ne hap 2 4 (by decide) (Nat.le_of_ble_eq_true rfl)
  have ne_en_ia : nq en ia := Ne.symm ne_ia_en
  have ne_ia_la : nq ia la := pw_ne hap 2 5 (by decide) (Nat.le_of_ble_eq_true rfl)
  have ne_la_ia : nq la ia := Ne.symm ne_ia_la
  have ne_ia_wo : nq ia wo := pw_ne hap 2 6 (by decide) (Nat.le_of_ble_eq_true rfl)
  have ne_wo_ia : nq wo ia := Ne.symm ne_ia_wo
  have ne_ia_op : nq ia op := pw_ne hap 2 7 (by decide) (Nat.le_of_ble_eq_true rfl)
  have ne_op_ia : nq op ia := Ne.symm ne_ia_op
  have ne_ia_mk : nq ia mk := pw_ne hap 2 8 (by decide) (Nat.le_of_ble_eq_true rfl)
  have ne_mk_ia : nq mk ia := Ne.symm ne_ia_mk
  have ne_ia_ir : nq ia ir := pw_ne hap 2 9 (by decide) (Nat.le_of_ble_eq_true rfl)
  have ne_ir_ia : nq ir ia := Ne.symm ne_ia_ir
  have ne_ia_se : nq ia se := pw_ne hap 2 10 (by decide) (Nat.le_of_ble_eq_true rfl)
  have ne_se_ia : nq se ia := Ne.symm ne_ia_se
  have ne_ia_ec : nq ia ec := pw_ne hap 2 11 (by decide) (Nat.le_of_ble_eq_true rfl)
  have ne_ec_ia : nq ec ia := Ne.symm ne_ia_ec
  have ne_ia_lc : nq ia lc := pw_ne hap 2 12 (by decide) (Nat.le_of_ble_eq_true rfl)
  have ne_lc_ia : nq lc ia := Ne.symm ne_ia_lc
  have ne_ia_wc : nq ia wc := pw_ne hap 2 13 (by decide) (Nat.le_of_ble_eq_true rfl)
  have ne_wc_ia : nq wc ia := Ne.symm ne_ia_wc
  have ne_ia_ol : nq ia ol := pw_ne hap 2 14 (by decide) (Nat.le_of_ble_eq_true rfl)
  have ne_ol_ia : nq ol ia := Ne.symm ne_ia_ol
  have ne_ia_al : nq ia al := pw_ne hap 2 15 (by decide) (Nat.le_of_ble_eq_true rfl)
  have ne_al_ia : nq al ia := Ne.symm ne_ia_al
  have ne_dr_en : nq dr en := pw_ne hap 3 4 (by decide) (Nat.le_of_ble_eq_true rfl)
  have ne_en_dr : nq en dr := Ne.symm ne_dr_en
  have ne_dr_la : nq dr la := pw_ne hap 3 5 (by decide) (Nat.le_of_ble_eq_true rfl)
  have ne_la_dr : nq la dr := Ne.symm ne_dr_la
  have ne_dr_wo : nq dr wo := pw_ne hap 3 6 (by decide) (Nat.le_of_ble_eq_true rfl)
  have ne_wo_dr : nq wo dr := Ne.symm ne_dr_wo
  have ne_dr_op : nq dr op := pw_ne hap 3 7 (by decide) (Nat.le_of_ble_eq_true rfl)
  have ne_op_dr : nq op dr := Ne.symm ne_dr_op
  have ne_dr_mk : nq dr mk := pw_ne hap 3 8 (by decide) (Nat.le_of_ble_eq_true rfl)
  have ne_mk_dr : nq mk dr := Ne.symm ne_dr_mk
  have ne_dr_ir : nq dr ir := pw_ne hap 3 9 (by decide) (Nat.le_of_ble_eq_true rfl)
  have ne_ir_dr : nq ir dr := Ne.symm ne_dr_ir
  have ne_dr_se : nq dr se := pw_ne hap 3 10 (by decide) (Nat.le_of_ble_eq_true rfl)
  have ne_se_dr : nq se dr := Ne.symm ne_dr_se
  have ne_dr_ec : nq dr ec := pw_ne hap 3 11 (by decide) (Nat.le_of_ble_eq_true rfl)
  have ne_ec_dr : nq ec dr := Ne.symm ne_dr_ec
  have ne_dr_lc : nq dr lc := pw_ne hap 3 12 (by decide) (Nat.le_of_ble_eq_true rfl)
  have ne_lc_dr : nq lc dr := Ne.symm ne_dr_lc
  have ne_dr_wc : nq dr wc := pw_ne hap 3 13 (by decide) (Nat.le_of_ble_eq_true rfl)
  have ne_wc_dr : nq wc dr := Ne.symm ne_dr_wc
  have ne_dr_ol : nq dr ol := pw_ne hap 3 14 (by decide) (Nat.le_of_ble_eq_true rfl)
  have ne_ol_dr : nq ol dr := Ne.symm ne_dr_ol
  have ne_dr_al : nq dr al := pw_ne hap 3 15 (by decide) (Nat.le_of_ble_eq_true rfl)
  have ne_al_dr : nq al dr := Ne.symm ne_dr_al
  have ne_en_la : nq en la := pw_ne hap 4 5 (by decide) (Nat.le_of_ble_eq_true rfl)
  have ne_la_en : nq la en := Ne.symm ne_en_la
  have ne_en_wo : nq en wo := pw_ne hap 4 6 (by decide) (Nat.le_of_ble_eq_true rfl)
  have ne_wo_en : nq wo en := Ne.symm ne_en_wo
  have ne_en_op : nq en op := pw_ne hap 4 7 (by decide) (Nat.le_of_ble_eq_true rfl)
  have ne_op_en : nq op en := Ne.symm ne_en_op
  have ne_en_mk : nq en mk := pw_ne hap 4 8 (by decide) (Nat.le_of_ble_eq_true rfl)
  have ne_mk_en : nq mk en := Ne.symm ne_en_mk
  have ne_en_ir : nq en ir := pw_ne hap 4 9 (by decide) (Nat.le_of_ble_eq_true rfl)
  have ne_ir_en : nq ir en := Ne.symm ne_en_ir
  have ne_en_se : nq en se := pw_ne hap 4 10 (by decide) (Nat.le_of_ble_eq_true rfl)
  have ne_se_en : nq se en := Ne.symm ne_en_se
  have ne_en_ec : nq en ec := pw_ne hap 4 11 (by decide) (Nat.le_of_ble_eq_true rfl)
  have ne_ec_en : nq ec en := Ne.symm ne_en_ec
  have ne_en_lc : nq en lc := pw_ne hap 4 12 (by decide) (Nat.le_of_ble_eq_true rfl)
  have ne_lc_en : nq lc en := Ne.symm ne_en_lc
  have ne_en_wc : nq en wc := pw_ne hap 4 13 (by decide) (Nat.le_of_ble_eq_true rfl)
  have ne_wc_en : nq wc en := Ne.symm ne_en_wc
  have ne_en_ol : nq en ol := pw_ne hap 4 14 (by decide) (Nat.le_of_ble_eq_true rfl)
  have ne_ol_en : nq ol en := Ne.symm ne_en_ol
  have ne_en_al : nq en al := pw_ne hap 4 15 (by decide) (Nat.le_of_ble_eq_true rfl)
  have ne_al_en : nq al en := Ne.symm ne_en_al
  have ne_la_wo : nq la wo := pw_ne hap 5 6 (by decide) (Nat.le_of_ble_eq_true rfl)
  have ne_wo_la : nq wo la := Ne.symm ne_la_wo
  have ne_la_op : nq la op := pw_ne hap 5 7 (by decide) (Nat.le_of_ble_eq_true rfl)
  have ne_op_la : nq op la := Ne.symm ne_la_op
  have ne_la_mk : nq la mk := pw_ne hap 5 8 (by decide) (Nat.le_of_ble_eq_true rfl)
  have ne_mk_la : nq mk la := Ne.symm ne_la_mk
  have ne_la_ir : nq la ir := pw_ne hap 5 9 (by decide) (Nat.le_of_ble_eq_true rfl)
  have ne_ir_la : nq ir la := Ne.symm ne_la_ir
  have ne_la_se : nq la se := pw_ne hap 5 10 (by decide) (Nat.le_of_ble_eq_true rfl)
  have ne_se_la : nq se la := Ne.symm ne_la_se
  have ne_la_ec : nq la ec := pw_ne hap 5 11 (by decide) (Nat.le_of_ble_eq_true rfl)
  have ne_ec_la : nq ec la := Ne.symm ne_la_ec
  have ne_la_lc : nq la lc := pw_ne hap 5 12 (by decide) (Nat.le_of_ble_eq_true rfl)
  have ne_lc_la : nq lc la := Ne.symm ne_la_lc
  have ne_la_wc : nq la wc := pw_ne hap 5 13 (by decide) (Nat.le_of_ble_eq_true rfl)
  have ne_wc_la : nq wc la := Ne.symm ne_la_wc
  have ne_la_ol : nq la ol := pw_ne hap 5 14 (by decide) (Nat.le_of_ble_eq_true rfl)
  have ne_ol_la : nq ol la := Ne.symm ne_la_ol
  have ne_la_al : nq la al := pw_ne hap 5 15 (by decide) (Nat.le_of_ble_eq_true rfl)
  have ne_al_la : nq al la := Ne.symm ne_la_al
  have ne_wo_op : nq wo op := pw_ne hap 6 7 (by decide) (Nat.le_of_ble_eq_true rfl)
  have ne_op_wo : nq op wo := Ne.symm ne_wo_op
  have ne_wo_mk : nq wo mk := pw_ne hap 6 8 (by decide) (Nat.le_of_ble_eq_true rfl)
  have ne_mk_wo : nq mk wo := Ne.symm ne_wo_mk
  have ne_wo_ir : nq wo ir := pw_ne hap 6 9 (by decide) (Nat.le_of_ble_eq_true rfl)
  have ne_ir_wo : nq ir wo := Ne.symm ne_wo_ir
  have ne_wo_se : nq wo se := pw_ne hap 6 10 (by decide) (Nat.le_of_ble_eq_true rfl)
  have ne_se_wo : nq se wo := Ne.symm ne_wo_se
  have ne_wo_ec : nq wo ec := pw_ne hap 6 11 (by decide) (Nat.le_of_ble_eq_true rfl)
  have ne_ec_wo : nq ec wo := Ne.symm ne_wo_ec
  have ne_wo_lc : nq wo lc := pw_ne hap 6 12 (by decide) (Nat.le_of_ble_eq_true rfl)
  have ne_lc_wo : nq lc wo := Ne.symm ne_wo_lc
  have ne_wo_wc : nq wo wc := pw_ne hap 6 13 (by decide) (Nat.le_of_ble_eq_true rfl)
  have ne_wc_wo : nq wc wo := Ne.symm ne_wo_wc
  have ne_wo_ol : nq wo ol := pw_ne hap 6 14 (by decide) (Nat.le_of_ble_eq_true rfl)
  have ne_ol_wo : nq ol wo := Ne.symm ne_wo_ol
  have ne_wo_al : nq wo al := pw_ne hap 6 15 (by decide) (Nat.le_of_ble_eq_true rfl)
  have ne_al_wo : nq al wo := Ne.symm ne_wo_al
  have ne_op_mk : nq op mk := pw_ne hap 7 8 (by decide) (Nat.le_of_ble_eq_true rfl)
  have ne_mk_op : nq mk op := Ne.symm ne_op_mk
  have ne_op_ir : nq op ir := pw_ne hap 7 9 (by decide) (Nat.le_of_ble_eq_true rfl)
  have ne_ir_op : nq ir op := Ne.symm ne_op_ir
  have ne_op_se : nq op se := pw_ne hap 7 10 (by decide) (Nat.le_of_ble_eq_true rfl)
  have ne_se_op : nq se op := Ne.symm ne_op_se
  have ne_op_ec : nq op ec := pw_ne hap 7 11 (by decide) (Nat.le_of_ble_eq_true rfl)
  have ne_ec_op : nq ec op := Ne.symm ne_op_ec
  have ne_op_lc : nq op lc := pw_ne hap 7 12 (by decide) (Nat.le_of_ble_eq_true rfl)
  have ne_lc_op : nq lc op := Ne.symm ne_op_lc
  have ne_op_wc : nq op wc := pw_ne hap 7 13 (by decide) (Nat.le_of_ble_eq_true rfl)
  have ne_wc_op : nq wc op := Ne.symm ne_op_wc
  have ne_op_ol : nq op ol := pw_ne hap 7 14 (by decide) (Nat.le_of_ble_eq_true rfl)
  have ne_ol_op : nq ol op := Ne.symm ne_op_ol
  have ne_op_al : nq op al := pw_ne hap 7 15 (by decide) (Nat.le_of_ble_eq_true rfl)
  have ne_al_op : nq al op := Ne.symm ne_op_al
  have ne_mk_ir : nq mk ir := pw_ne hap 8 9 (by decide) (Nat.le_of_ble_eq_true rfl)
  have ne_ir_mk : nq ir mk := Ne.symm ne_mk_ir
  have ne_mk_se : nq mk se := pw_ne hap 8 10 (by decide) (Nat.le_of_ble_eq_true rfl)
  have ne_se_mk : nq se mk := Ne.symm ne_mk_se
  have ne_mk_ec : nq mk ec := pw_ne hap 8 11 (by decide) (Nat.le_of_ble_eq_true rfl)
  have ne_ec_mk : nq ec mk := Ne.symm ne_mk_ec
  have ne_mk_lc : nq mk lc := pw_ne hap 8 12 (by decide) (Nat.le_of_ble_eq_true rfl)
  have ne_lc_mk : nq lc mk := Ne.symm ne_mk_lc
  have ne_mk_wc : nq mk wc := pw_ne hap 8 13 (by decide) (Nat.le_of_ble_eq_true rfl)
  have ne_wc_mk : nq wc mk := Ne.symm ne_mk_wc
  have ne_mk_ol : nq mk ol := pw_ne hap 8 14 (by decide) (Nat.le_of_ble_eq_true rfl)
  have ne_ol_mk : nq ol mk := Ne.symm ne_mk_ol
  have ne_mk_al : nq mk al := pw_ne hap 8 15 (by decide) (Nat.le_of_ble_eq_true rfl)
  have ne_al_mk : nq al mk := Ne.symm ne_mk_al
  have ne_ir_se : nq ir se := pw_ne hap 9 10 (by decide) (Nat.le_of_ble_eq_true rfl)
  have ne_se_ir : nq se ir := Ne.symm ne_ir_se
  have ne_ir_ec : nq ir ec := pw_ne hap 9 11 (by decide) (Nat.le_of_ble_eq_true rfl)
  have ne_ec_ir : nq ec ir := Ne.symm ne_ir_ec
  have ne_ir_lc : nq ir lc := pw_ne hap 9 12 (by decide) (Nat.le_of_ble_eq_true rfl)
  have ne_lc_ir : nq lc ir := Ne.symm ne_ir_lc
  have ne_ir_wc : nq ir wc := pw_ne hap 9 13 (by decide) (Nat.le_of_ble_eq_true rfl)
  have ne_wc_ir : nq wc ir := Ne.symm ne_ir_wc
  have ne_ir_ol : nq ir ol := pw_ne hap 9 14 (by decide) (Nat.le_of_ble_eq_true rfl)
  have ne_ol_ir : nq ol ir := Ne.symm ne_ir_ol
  have ne_ir_al : nq ir al := pw_ne hap 9 15 (by decide) (Nat.le_of_ble_eq_true rfl)
  have ne_al_ir : nq al ir := Ne.symm ne_ir_al
  have ne_se_ec : nq se ec := pw_ne hap 10 11 (by decide) (Nat.le_of_ble_eq_true rfl)
  have ne_ec_se : nq ec se := Ne.symm ne_se_ec
  have ne_se_lc : nq se lc := pw_ne hap 10 12 (by decide) (Nat.le_of_ble_eq_true rfl)
  have ne_lc_se : nq lc se := Ne.symm ne_se_lc
  have ne_se_wc : nq se wc := pw_ne hap 10 13 (by decide) (Nat.le_of_ble_eq_true rfl)
  have ne_wc_se : nq wc se := Ne.symm ne_se_wc
  have ne_se_ol : nq se ol := pw_ne hap 10 14 (by decide) (Nat.le_of_ble_eq_true rfl)
  have ne_ol_se : nq ol se := Ne.symm ne_se_ol
  have ne_se_al : nq se al := pw_ne hap 10 15 (by decide) (Nat.le_of_ble_eq_true rfl)
  have ne_al_se : nq al se := Ne.symm ne_se_al
  have ne_ec_lc : nq ec lc := pw_ne hap 11 12 (by decide) (Nat.le_of_ble_eq_true rfl)
  have ne_lc_ec : nq lc ec := Ne.symm ne_ec_lc
  have ne_ec_wc : nq ec wc := pw_ne hap 11 13 (by decide) (Nat.le_of_ble_eq_true rfl)
  have ne_wc_ec : nq wc ec := Ne.symm ne_ec_wc
  have ne_ec_ol : nq ec ol := pw_ne hap 11 14 (by decide) (Nat.le_of_ble_eq_true rfl)
  have ne_ol_ec : nq ol ec := Ne.symm ne_ec_ol
  have ne_ec_al : nq ec al := pw_ne hap 11 15 (by decide) (Nat.le_of_ble_eq_true rfl)
  have ne_al_ec : nq al ec := Ne.symm ne_ec_al
  have ne_lc_wc : nq lc wc := pw_ne hap 12 13 (by decide) (Nat.le_of_ble_eq_true rfl)
  have ne_wc_lc : nq wc lc := Ne.symm ne_lc_wc
  have ne_lc_ol : nq lc ol := pw_ne hap 12 14 (by decide) (Nat.le_of_ble_eq_true rfl)
  have ne_ol_lc : nq ol lc := Ne.symm ne_lc_ol
  have ne_lc_al : nq lc al := pw_ne hap 12 15 (by decide) (Nat.le_of_ble_eq_true rfl)
  have ne_al_lc : nq al lc := Ne.symm ne_lc_al
  have ne_wc_ol : nq wc ol := pw_ne hap 13 14 (by decide) (Nat.le_of_ble_eq_true rfl)
  have ne_ol_wc : nq ol wc := Ne.symm ne_wc_ol
  have ne_wc_al : nq wc al := pw_ne hap 13 15 (by decide) (Nat.le_of_ble_eq_true rfl)
  have ne_al_wc : nq al wc := Ne.symm ne_wc_al
  have ne_ol_al : nq ol al := pw_ne hap 14 15 (by decide) (Nat.le_of_ble_eq_true rfl)
  have ne_al_ol : nq al ol := Ne.symm ne_ol_al
  have hkp : kpx (fun a => a ∈ [mo, cn, ia, dr, en, la, wo, op, mk, ir, se, ec, lc, wc, ol, al]) M M := kpx.refl _ _
  refine lv_aload_n hx hb dX6_count_0 rfl (lv_at hl 0 rfl) ?_
  refine lv_iload_n hx hb dX6_count_1 rfl (lv_at hl 1 rfl) ?_
  refine lv_if_lt (tgt := 10) hx hb dX6_count_2 (by decide) (fun c1 => ?_) (fun c1 => ?_)
  · refine lv_iconst (v := 1) hx hb dX6_count_10 (by decide) ?_
    refine lv_goto (tgt := 15) hx hb dX6_count_11 (by decide) ?_
    refine m_kV (As := [.int 1]) (rest := []) (rm := { frames := 0, cells := 0, slots := 0, locals := 0 }) ⟨hx, hb, hml, hown, hts⟩ (s_X6_failsE l D k z _ mo cn ia dr en la wo op mk ir se ec lc wc ol al cd ni dn md pw cm wr cs hm9 1 hM) (cwV 1 hts gX6_count_X6_fails rfl rfl rfl (by decide +kernel) ⟨Nat.le_of_ble_eq_true rfl, Nat.le_of_ble_eq_true rfl⟩) (m_recv hK hm (q := (RX6, TX6, 24)) rfl hM) hz hcx hm hS rfl hl.1 rfl (Nat.le_of_ble_eq_true rfl) dX6_count_15 ⟨Nat.le_of_ble_eq_true rfl, Nat.le_of_ble_eq_true rfl⟩ (fun v M1 H locs hv hm hS => ?_)
    obtain ⟨hv1, hM1⟩ := hv
    have hv1 : v = some (.int 1) := hv1.trans (by decide)
    subst hv1
    rw [hM1] at hm
    refine W.eq (g2 := F0 m 18 ls [.int 1]) rfl ?_
    refine W.widen (k := 0) (n := 0) (Nat.le_of_ble_eq_true rfl) (Nat.le_of_ble_eq_true rfl) ?_
    have hm : mm D (AZ z) (mu M mo (.inr (6, [.int 1, .ref cn, .ref ia, .ref dr, .ref en, .ref la, .ref wo, .int ni, .ref op, .ref mk, .ref ir, .int dn, .int md, .int pw, .int cm, .int wr, .ref se, .ref ec, .ref lc, .ref wc, .ref ol, .ref al, .int cs, .int hm9]))) H := hm
    have hkp : kpx (fun a => a ∈ [mo, cn, ia, dr, en, la, wo, op, mk, ir, se, ec, lc, wc, ol, al]) M (mu M mo (.inr (6, [.int 1, .ref cn, .ref ia, .ref dr, .ref en, .ref la, .ref wo, .int ni, .ref op, .ref mk, .ref ir, .int dn, .int md, .int pw, .int cm, .int wr, .ref se, .ref ec, .ref lc, .ref wc, .ref ol, .ref al, .int cs, .int hm9]))) := (hkp).self (by simp)
    refine lv_if_eq (tgt := 23) hx hb dX6_count_18 (by decide) (fun c2 => ?_) (fun c2 => ?_)
    · first | exact absurd c2 (by decide) | exact absurd (by decide) c2
    · refine lv_iconst (v := 0) hx hb dX6_count_21 (by decide) ?_
      refine W.iret (v := 0) hx hb hr (fun t ht hW => ⟨⟨some (.int 0), _, rfl, ?_, by rw [ht]; exact hm⟩, hS.F ht⟩) hS.2.2 dX6_count_22
      exact ⟨⟨_, rfl⟩, ⟨_, _, _, _, _, _, _, fcn, fia, fdr, fen, fla, fwo, fop, fmk, fir, fse, fec, flc, fol, fal, fwc, hap, (mu_self _ _ _), hmd, ⟨hrC, hrL, hrM⟩, ((mu_ne ne_cn_mo).trans hcn), ((mu_ne ne_ia_mo).trans hia), ((mu_ne ne_dr_mo).trans hdr), ((mu_ne ne_en_mo).trans hen), ((mu_ne ne_la_mo).trans hla), ((mu_ne ne_wo_mo).trans hwo), ((mu_ne ne_op_mo).trans hop), ((mu_ne ne_mk_mo).trans hmk), ((mu_ne ne_ir_mo).trans hir), ((mu_ne ne_se_mo).trans hse), ((mu_ne ne_ec_mo).trans hec), ((mu_ne ne_lc_mo).trans hlc), ((mu_ne ne_wc_mo).trans hwc), ((mu_ne ne_ol_mo).trans hol), ((mu_ne ne_al_mo).trans hal)⟩, hkp⟩
  · refine lv_iload_n hx hb dX6_count_5 rfl (lv_at hl 1 rfl) ?_
    refine lv_iconst (v := 5) hx hb dX6_count_6 (by decide) ?_
    refine lv_icmp_le (tgt := 14) hx hb dX6_count_7 (by decide) (fun c3 => ?_) (fun c3 => ?_)
    · refine lv_iconst (v := 0) hx hb dX6_count_14 (by decide) ?_
      refine m_kV (As := [.int 0]) (rest := []) (rm := { frames := 0, cells := 0, slots := 0, locals := 0 }) ⟨hx, hb, hml, hown, hts⟩ (s_X6_failsE l D k z _ mo cn ia dr en la wo op mk ir se ec lc wc ol al cd ni dn md pw cm wr cs hm9 0 hM) (cwV 1 hts gX6_count_X6_fails rfl rfl rfl (by decide +kernel) ⟨Nat.le_of_ble_eq_true rfl, Nat.le_of_ble_eq_true rfl⟩) (m_recv hK hm (q := (RX6, TX6, 24)) rfl hM) hz hcx hm hS rfl hl.1 rfl (Nat.le_of_ble_eq_true rfl) dX6_count_15 ⟨Nat.le_of_ble_eq_true rfl, Nat.le_of_ble_eq_true rfl⟩ (fun v M1 H locs hv hm hS => ?_)
      obtain ⟨hv1, hM1⟩ := hv
      have hv1 : v = some (.int 0) := hv1.trans (by decide)
      subst hv1
      rw [hM1] at hm
      refine W.eq (g2 := F0 m 18 ls [.int 0]) rfl ?_
      refine W.widen (k := 0) (n := 0) (Nat.le_of_ble_eq_true rfl) (Nat.le_of_ble_eq_true rfl) ?_
      have hm : mm D (AZ z) (mu M mo (.inr (6, [.int 0, .ref cn, .ref ia, .ref dr, .ref en, .ref la, .ref wo, .int ni, .ref op, .ref mk, .ref ir, .int dn, .int md, .int pw, .int cm, .int wr, .ref se, .ref ec, .ref lc, .ref wc, .ref ol, .ref al, .int cs, .int hm9]))) H := hm
      have hkp : kpx (fun a => a ∈ [mo, cn, ia, dr, en, la, wo, op, mk, ir, se, ec, lc, wc, ol, al]) M (mu M mo (.inr (6, [.int 0, .ref cn, .ref ia, .ref dr, .ref en, .ref la, .ref wo, .int ni, .ref op, .ref mk, .ref ir, .int dn, .int md, .int pw, .int cm, .int wr, .ref se, .ref ec, .ref lc, .ref wc, .ref ol, .ref al, .int cs, .int hm9]))) := (hkp).self (by simp)
      refine lv_if_eq (tgt := 23) hx hb dX6_count_18 (by decide) (fun c4 => ?_) (fun c4 => ?_)
      · refine lv_iconst (v := 0) hx hb dX6_count_23 (by decide) ?_
        refine lv_istore_n (lv' := [(2, .int 0), (0, .ref mo), (1, .int w9)]) hx hb dX6_count_24 rfl hl (by decide) rfl (fun ls hl => ?_)
        refine lv_iconst (v := 0) hx hb dX6_count_25 (by decide) ?_
        refine lv_istore_n (lv' := [(3, .int 0), (2, .int 0), (0, .ref mo), (1, .int w9)]) hx hb dX6_count_26 rfl hl (by decide) rfl (fun ls hl => ?_)
        refine W_loop (σ := Nat × Int32) (fun ⟨j, q9⟩ H locs ls => (j ≤ 6) ∧ mm D (AZ z) (mu M mo (.inr (6, [.int 0, .ref cn, .ref ia, .ref dr, .ref en, .ref la, .ref wo, .int ni, .ref op, .ref mk, .ref ir, .int dn, .int md, .int pw, .int cm, .int wr, .ref se, .ref ec, .ref lc, .ref wc, .ref ol, .ref al, .int cs, .int hm9]))) H ∧ va_S (AZ z) s.heap H locs ∧ lv_has ls 4 [(3, .int (nI j)), (2, .int q9), (0, .ref mo), (1, .int w9)]) (fun ⟨j, q9⟩ => 6 - j) (fun ⟨j, q9⟩ => 0) (fun ⟨j, q9⟩ => 0) ?_ (0, 0) _ _ _ ⟨Nat.zero_le _, hm, hS, lv_sub hl [0, 1, 2, 3] rfl⟩
        intro ⟨j, q9⟩ H locs ls hI ih27
        obtain ⟨hj, hm, hS, hl⟩ := hI
        try dsimp only at hm hl ih27 ⊢
        refine lv_iload_n hx hb dX6_count_27 rfl (lv_at hl 0 rfl) ?_
        refine lv_bipush (v := 6) hx hb dX6_count_28 (by decide) ?_
        refine lv_icmp_ge (tgt := 56) hx hb dX6_count_30 (by decide) (fun c5 => ?_) (fun c5 => ?_)
        · refine lv_iload_n hx hb dX6_count_56 rfl (lv_at hl 3 rfl) ?_
          refine lv_if_ne (tgt := 67) hx hb dX6_count_57 (by decide) (fun c6 => ?_) (fun c6 => ?_)
          · refine lv_iload_n hx hb dX6_count_67 rfl (lv_at hl 3 rfl) ?_
            refine lv_iconst (v := 1) hx hb dX6_count_68 (by decide) ?_
            refine lv_icmp_ne (tgt := 81) hx hb dX6_count_69 (by decide) (fun c7 => ?_) (fun c7 => ?_)
            · refine lv_iload_n hx hb dX6_count_81 rfl (lv_at hl 3 rfl) ?_
              refine lv_iconst (v := 2) hx hb dX6_count_82 (by decide) ?_
              refine lv_icmp_ne (tgt := 94) hx hb dX6_count_83 (by decide) (fun c8 => ?_) (fun c8 => ?_)
              · refine lv_iload_n hx hb dX6_count_94 rfl (lv_at hl 3 rfl) ?_
                refine lv_iconst (v := 3) hx hb dX6_count_95 (by decide) ?_
                refine lv_icmp_ne (tgt := 103) hx hb dX6_count_96 (by decide) (fun c9 => ?_) (fun c9 => ?_)
                · refine lv_iload_n hx hb dX6_count_103 rfl (lv_at hl 3 rfl) ?_
                  refine lv_iconst (v := 4) hx hb dX6_count_104 (by decide) ?_
                  refine lv_icmp_ne (tgt := 123) hx hb dX6_count_105 (by decide) (fun c10 => ?_) (fun c10 => ?_)
                  · refine lv_aload_n hx hb dX6_count_123 rfl (lv_at hl 2 rfl) ?_
                    refine m_get (T := TX6) (N := 24) (ci := 6) (v := .int wr) hx hb hts wX6 hown hK hm (mu_self _ _ _) rfl 15 (by decide) f151 (fun _ h9 => h9) rfl dX6_count_124 ?_
                    refine W.iret (v := wr) hx hb hr (fun t ht hW => ⟨⟨some (.int wr), _, rfl, ?_, by rw [ht]; exact hm⟩, hS.F ht⟩) hS.2.2 dX6_count_127
                    exact ⟨⟨_, rfl⟩, ⟨_, _, _, _, _, _, _, fcn, fia, fdr, fen, fla, fwo, fop, fmk, fir, fse, fec, flc, fol, fal, fwc, hap, (mu_self _ _ _), hmd, ⟨hrC, hrL, hrM⟩, ((mu_ne ne_cn_mo).trans hcn), ((mu_ne ne_ia_mo).trans hia), ((mu_ne ne_dr_mo).trans hdr), ((mu_ne ne_en_mo).trans hen), ((mu_ne ne_la_mo).trans hla), ((mu_ne ne_wo_mo).trans hwo), ((mu_ne ne_op_mo).trans hop), ((mu_ne ne_mk_mo).trans hmk), ((mu_ne ne_ir_mo).trans hir), ((mu_ne ne_se_mo).trans hse), ((mu_ne ne_ec_mo).trans hec), ((mu_ne ne_lc_mo).trans hlc), ((mu_ne ne_wc_mo).trans hwc), ((mu_ne ne_ol_mo).trans hol), ((mu_ne ne_al_mo).trans hal)⟩, hkp⟩
                  · refine lv_aload_n hx hb dX6_count_108 rfl (lv_at hl 2 rfl) ?_
                    refine m_get (T := TX6) (N := 24) (ci := 6) (v := .int dn) hx hb hts wX6 hown hK hm (mu_self _ _ _) rfl 11 (by decide) f94 (fun _ h9 => h9) rfl dX6_count_109 ?_
                    refine lv_if_eq (tgt := 119) hx hb dX6_count_112 (by decide) (fun c11 => ?_) (fun c11 => ?_)
                    · refine lv_iconst (v := 0) hx hb dX6_count_119 (by decide) ?_
                      refine lv_goto (tgt := 127) hx hb dX6_count_120 (by decide) ?_
                      refine W.iret (v := 0) hx hb hr (fun t ht hW => ⟨⟨some (.int 0), _, rfl, ?_, by rw [ht]; exact hm⟩, hS.F ht⟩) hS.2.2 dX6_count_127
                      exact ⟨⟨_, rfl⟩, ⟨_, _, _, _, _, _, _, fcn, fia, fdr, fen, fla, fwo, fop, fmk, fir, fse, fec, flc, fol, fal, fwc, hap, (mu_self _ _ _), hmd, ⟨hrC, hrL, hrM⟩, ((mu_ne ne_cn_mo).trans hcn), ((mu_ne ne_ia_mo).trans hia), ((mu_ne ne_dr_mo).trans hdr), ((mu_ne ne_en_mo).trans hen), ((mu_ne ne_la_mo).trans hla), ((mu_ne ne_wo_mo).trans hwo), ((mu_ne ne_op_mo).trans hop), ((mu_ne ne_mk_mo).trans hmk), ((mu_ne ne_ir_mo).trans hir), ((mu_ne ne_se_mo).trans hse), ((mu_ne ne_ec_mo).trans hec), ((mu_ne ne_lc_mo).trans hlc), ((mu_ne ne_wc_mo).trans hwc), ((mu_ne ne_ol_mo).trans hol), ((mu_ne ne_al_mo).trans hal)⟩, hkp⟩
                    · refine lv_iconst (v := 1) hx hb dX6_count_115 (by decide) ?_
                      refine lv_goto (tgt := 127) hx hb dX6_count_116 (by decide) ?_
                      refine W.iret (v := 1) hx hb hr (fun t ht hW => ⟨⟨some (.int 1), _, rfl, ?_, by rw [ht]; exact hm⟩, hS.F ht⟩) hS.2.2 dX6_count_127
                      exact ⟨⟨_, rfl⟩, ⟨_, _, _, _, _, _, _, fcn, fia, fdr, fen, fla, fwo, fop, fmk, fir, fse, fec, flc, fol, fal, fwc, hap, (mu_self _ _ _), hmd, ⟨hrC, hrL, hrM⟩, ((mu_ne ne_cn_mo).trans hcn), ((mu_ne ne_ia_mo).trans hia), ((mu_ne ne_dr_mo).trans hdr), ((mu_ne ne_en_mo).trans hen), ((mu_ne ne_la_mo).trans hla), ((mu_ne ne_wo_mo).trans hwo), ((mu_ne ne_op_mo).trans hop), ((mu_ne ne_mk_mo).trans hmk), ((mu_ne ne_ir_mo).trans hir), ((mu_ne ne_se_mo).trans hse), ((mu_ne ne_ec_mo).trans hec), ((mu_ne ne_lc_mo).trans hlc), ((mu_ne ne_wc_mo).trans hwc), ((mu_ne ne_ol_mo).trans hol), ((mu_ne ne_al_mo).trans hal)⟩, hkp⟩
                · refine lv_iload_n hx hb dX6_count_99 rfl (lv_at hl 1 rfl) ?_
                  refine lv_goto (tgt := 127) hx hb dX6_count_100 (by decide) ?_
                  refine W.iret (v := q9) hx hb hr (fun t ht hW => ⟨⟨some (.int q9), _, rfl, ?_, by rw [ht]; exact hm⟩, hS.F ht⟩) hS.2.2 dX6_count_127
                  exact ⟨⟨_, rfl⟩, ⟨_, _, _, _, _, _, _, fcn, fia, fdr, fen, fla, fwo, fop, fmk, fir, fse, fec, flc, fol, fal, fwc, hap, (mu_self _ _ _), hmd, ⟨hrC, hrL, hrM⟩, ((mu_ne ne_cn_mo).trans hcn), ((mu_ne ne_ia_mo).trans hia), ((mu_ne ne_dr_mo).trans hdr), ((mu_ne ne_en_mo).trans hen), ((mu_ne ne_la_mo).trans hla), ((mu_ne ne_wo_mo).trans hwo), ((mu_ne ne_op_mo).trans hop), ((mu_ne ne_mk_mo).trans hmk), ((mu_ne ne_ir_mo).trans hir), ((mu_ne ne_se_mo).trans hse), ((mu_ne ne_ec_mo).trans hec), ((mu_ne ne_lc_mo).trans hlc), ((mu_ne ne_wc_mo).trans hwc), ((mu_ne ne_ol_mo).trans hol), ((mu_ne ne_al_mo).trans hal)⟩, hkp⟩
              · refine lv_aload_n hx hb dX6_count_86 rfl (lv_at hl 2 rfl) ?_
                refine lv_iconst (v := 0) hx hb dX6_count_87 (by decide) ?_
                have hI0 : mI k (mu M mo (.inr (6, [.int 0, .ref cn, .ref ia, .ref dr, .ref en, .ref la, .ref wo, .int ni, .ref op, .ref mk, .ref ir, .int dn, .int md, .int pw, .int cm, .int wr, .ref se, .ref ec, .ref lc, .ref wc, .ref ol, .ref al, .int cs, .int hm9]))) mo cn ia dr en la wo op mk ir se ec lc wc ol al dn md := ⟨_, _, _, _, _, _, _, fcn, fia, fdr, fen, fla, fwo, fop, fmk, fir, fse, fec, flc, fol, fal, fwc, hap, (mu_self _ _ _), hmd, ⟨hrC, hrL, hrM⟩, ((mu_ne ne_cn_mo).trans hcn), ((mu_ne ne_ia_mo).trans hia), ((mu_ne ne_dr_mo).trans hdr), ((mu_ne ne_en_mo).trans hen), ((mu_ne ne_la_mo).trans hla), ((mu_ne ne_wo_mo).trans hwo), ((mu_ne ne_op_mo).trans hop), ((mu_ne ne_mk_mo).trans hmk), ((mu_ne ne_ir_mo).trans hir), ((mu_ne ne_se_mo).trans hse), ((mu_ne ne_ec_mo).trans hec), ((mu_ne ne_lc_mo).trans hlc), ((mu_ne ne_wc_mo).trans hwc), ((mu_ne ne_ol_mo).trans hol), ((mu_ne ne_al_mo).trans hal)⟩
                refine m_kV (As := [.int 0]) (rest := []) (rm := { frames := 0, cells := 0, slots := 0, locals := 0 }) ⟨hx, hb, hml, hown, hts⟩ (s_X6_blocks l D k z _ mo cn ia dr en la wo op mk ir se ec lc wc ol al dn md 0 (by omega) hI0) (cwV 1 hts gX6_count_X6_blocks rfl rfl rfl (by decide +kernel) ⟨Nat.le_of_ble_eq_true rfl, Nat.le_of_ble_eq_true rfl⟩) (m_recv hK hm (q := (RX6, TX6, 24)) rfl (mu_self _ _ _)) hz hcx hm hS rfl hl.1 rfl (Nat.le_of_ble_eq_true rfl) dX6_count_88 ⟨Nat.le_of_ble_eq_true rfl, Nat.le_of_ble_eq_true rfl⟩ (fun v M1 H locs hv hm hS => ?_)
                obtain ⟨⟨w12, hv1⟩, hM1⟩ := hv
                rw [hM1] at hm
                subst hv1
                refine W.eq (g2 := F0 m 91 ls [.int w12]) rfl ?_
                refine W.widen (k := 0) (n := 0) (Nat.le_of_ble_eq_true rfl) (Nat.le_of_ble_eq_true rfl) ?_
                have hm : mm D (AZ z) (mu M mo (.inr (6, [.int 0, .ref cn, .ref ia, .ref dr, .ref en, .ref la, .ref wo, .int ni, .ref op, .ref mk, .ref ir, .int dn, .int md, .int pw, .int cm, .int wr, .ref se, .ref ec, .ref lc, .ref wc, .ref ol, .ref al, .int cs, .int hm9]))) H := hm
                refine lv_goto (tgt := 127) hx hb dX6_count_91 (by decide) ?_
                refine W.iret (v := w12) hx hb hr (fun t ht hW => ⟨⟨some (.int w12), _, rfl, ?_, by rw [ht]; exact hm⟩, hS.F ht⟩) hS.2.2 dX6_count_127
                exact ⟨⟨_, rfl⟩, ⟨_, _, _, _, _, _, _, fcn, fia, fdr, fen, fla, fwo, fop, fmk, fir, fse, fec, flc, fol, fal, fwc, hap, (mu_self _ _ _), hmd, ⟨hrC, hrL, hrM⟩, ((mu_ne ne_cn_mo).trans hcn), ((mu_ne ne_ia_mo).trans hia), ((mu_ne ne_dr_mo).trans hdr), ((mu_ne ne_en_mo).trans hen), ((mu_ne ne_la_mo).trans hla), ((mu_ne ne_wo_mo).trans hwo), ((mu_ne ne_op_mo).trans hop), ((mu_ne ne_mk_mo).trans hmk), ((mu_ne ne_ir_mo).trans hir), ((mu_ne ne_se_mo).trans hse), ((mu_ne ne_ec_mo).trans hec), ((mu_ne ne_lc_mo).trans hlc), ((mu_ne ne_wc_mo).trans hwc), ((mu_ne ne_ol_mo).trans hol), ((mu_ne ne_al_mo).trans hal)⟩, hkp⟩
            · refine lv_aload_n hx hb dX6_count_72 rfl (lv_at hl 2 rfl) ?_
              refine m_get (T := TX6) (N := 24) (ci := 6) (v := .ref cn) hx hb hts wX6 hown hK hm (mu_self _ _ _) rfl 1 (by decide) f7 (fun _ h9 => h9) rfl dX6_count_73 ?_
              refine lv_iconst (v := 0) hx hb dX6_count_76 (by decide) ?_
              refine m_iald hx hb hK hm 0 ((mu_ne ne_cn_mo).trans hcn) rfl (by unfold vp_in; decide) dX6_count_77 ?_
              obtain ⟨u13, hu13, eu13⟩ := hrC 0
              refine W.eq (g2 := F0 m 78 ls [.int (nI u13)]) (by rw [show (fcn (0 : Int32).toNatClampNeg) = nI u13 from (congrArg fcn (show (0 : Int32).toNatClampNeg = 0 from rfl)).trans eu13]) ?_
              have hb_u13 := hu13
              have hu13 : u13 ≤ 100 := Nat.le_trans hu13 (bC_le _)
              refine lv_goto (tgt := 127) hx hb dX6_count_78 (by decide) ?_
              refine W.iret (v := (nI u13)) hx hb hr (fun t ht hW => ⟨⟨some (.int (nI u13)), _, rfl, ?_, by rw [ht]; exact hm⟩, hS.F ht⟩) hS.2.2 dX6_count_127
              exact ⟨⟨_, rfl⟩, ⟨_, _, _, _, _, _, _, fcn, fia, fdr, fen, fla, fwo, fop, fmk, fir, fse, fec, flc, fol, fal, fwc, hap, (mu_self _ _ _), hmd, ⟨hrC, hrL, hrM⟩, ((mu_ne ne_cn_mo).trans hcn), ((mu_ne ne_ia_mo).trans hia), ((mu_ne ne_dr_mo).trans hdr), ((mu_ne ne_en_mo).trans hen), ((mu_ne ne_la_mo).trans hla), ((mu_ne ne_wo_mo).trans hwo), ((mu_ne ne_op_mo).trans hop), ((mu_ne ne_mk_mo).trans hmk), ((mu_ne ne_ir_mo).trans hir), ((mu_ne ne_se_mo).trans hse), ((mu_ne ne_ec_mo).trans hec), ((mu_ne ne_lc_mo).trans hlc), ((mu_ne ne_wc_mo).trans hwc), ((mu_ne ne_ol_mo).trans hol), ((mu_ne ne_al_mo).trans hal)⟩, hkp⟩
          · refine lv_aload_n hx hb dX6_count_60 rfl (lv_at hl 2 rfl) ?_
            refine m_get (T := TX6) (N := 24) (ci := 6) (v := .int cm) hx hb hts wX6 hown hK hm (mu_self _ _ _) rfl 14 (by decide) f157 (fun _ h9 => h9) rfl dX6_count_61 ?_
            refine lv_goto (tgt := 127) hx hb dX6_count_64 (by decide) ?_
            refine W.iret (v := cm) hx hb hr (fun t ht hW => ⟨⟨some (.int cm), _, rfl, ?_, by rw [ht]; exact hm⟩, hS.F ht⟩) hS.2.2 dX6_count_127
            exact ⟨⟨_, rfl⟩, ⟨_, _, _, _, _, _, _, fcn, fia, fdr, fen, fla, fwo, fop, fmk, fir, fse, fec, flc, fol, fal, fwc, hap, (mu_self _ _ _), hmd, ⟨hrC, hrL, hrM⟩, ((mu_ne ne_cn_mo).trans hcn), ((mu_ne ne_ia_mo).trans hia), ((mu_ne ne_dr_mo).trans hdr), ((mu_ne ne_en_mo).trans hen), ((mu_ne ne_la_mo).trans hla), ((mu_ne ne_wo_mo).trans hwo), ((mu_ne ne_op_mo).trans hop), ((mu_ne ne_mk_mo).trans hmk), ((mu_ne ne_ir_mo).trans hir), ((mu_ne ne_se_mo).trans hse), ((mu_ne ne_ec_mo).trans hec), ((mu_ne ne_lc_mo).trans hlc), ((mu_ne ne_wc_mo).trans hwc), ((mu_ne ne_ol_mo).trans hol), ((mu_ne ne_al_mo).trans hal)⟩, hkp⟩
        · have hlt9 : j < 6 := Nat.lt_of_not_le fun q => c5 (nI_le (a := 6) q (by omega))
          refine lv_iload_n hx hb dX6_count_33 rfl (lv_at hl 1 rfl) ?_
          refine lv_aload_n hx hb dX6_count_34 rfl (lv_at hl 2 rfl) ?_
          refine m_get (T := TX6) (N := 24) (ci := 6) (v := .ref op) hx hb hts wX6 hown hK hm (mu_self _ _ _) rfl 8 (by decide) f35 (fun _ h9 => h9) rfl dX6_count_35 ?_
          refine lv_iload_n hx hb dX6_count_38 rfl (lv_at hl 0 rfl) ?_
          refine m_zald hx hb hK hm 2 ((mu_ne ne_op_mo).trans hop) rfl (vp_in_nI (by omega) (by decide)) dX6_count_39 ?_
          refine lv_if_eq (tgt := 47) hx hb dX6_count_40 (by decide) (fun c14 => ?_) (fun c14 => ?_)
          · refine lv_iconst (v := 0) hx hb dX6_count_47 (by decide) ?_
            refine lv_iadd hx hb dX6_count_48 ?_
            refine lv_istore_n (lv' := [(2, .int (q9 + 0)), (3, .int (nI j)), (0, .ref mo), (1, .int w9)]) hx hb dX6_count_49 rfl hl (by decide) rfl (fun ls hl => ?_)
            refine lv_iinc (v := ((nI j) + 1)) (lv' := [(3, .int ((nI j) + 1)), (2, .int (q9 + 0)), (0, .ref mo), (1, .int w9)]) hx hb dX6_count_50 hl (k := 1) rfl rfl (by decide) rfl (fun ls hl => ?_)
            refine lv_goto (tgt := 27) hx hb dX6_count_53 (by decide) ?_
            rw [nI_1] at hl
            exact ih27 (j + 1, (q9 + 0)) _ _ _ ⟨by omega, hm, hS, lv_sub hl [0, 1, 2, 3] rfl⟩ (by show 6 - (j + 1) < 6 - j; omega)
          · refine lv_iconst (v := 1) hx hb dX6_count_43 (by decide) ?_
            refine lv_goto (tgt := 48) hx hb dX6_count_44 (by decide) ?_
            refine lv_iadd hx hb dX6_count_48 ?_
            refine lv_istore_n (lv' := [(2, .int (q9 + 1)), (3, .int (nI j)), (0, .ref mo), (1, .int w9)]) hx hb dX6_count_49 rfl hl (by decide) rfl (fun ls hl => ?_)
            refine lv_iinc (v := ((nI j) + 1)) (lv' := [(3, .int ((nI j) + 1)), (2, .int (q9 + 1)), (0, .ref mo), (1, .int w9)]) hx hb dX6_count_50 hl (k := 1) rfl rfl (by decide) rfl (fun ls hl => ?_)
            refine lv_goto (tgt := 27) hx hb dX6_count_53 (by decide) ?_
            rw [nI_1] at hl
            exact ih27 (j + 1, (q9 + 1)) _ _ _ ⟨by omega, hm, hS, lv_sub hl [0, 1, 2, 3] rfl⟩ (by show 6 - (j + 1) < 6 - j; omega)
      · first | exact absurd c4 (by decide) | exact absurd (by decide) c4
    · refine lv_iconst (v := 1) hx hb dX6_count_10 (by decide) ?_
      refine lv_goto (tgt := 15) hx hb dX6_count_11 (by decide) ?_
      refine m_kV (As := [.int 1]) (rest := []) (rm := { frames := 0, cells := 0, slots := 0, locals := 0 }) ⟨hx, hb, hml, hown, hts⟩ (s_X6_failsE l D k z _ mo cn ia dr en la wo op mk ir se ec lc wc ol al cd ni dn md pw cm wr cs hm9 1 hM) (cwV 1 hts gX6_count_X6_fails rfl rfl rfl (by decide +kernel) ⟨Nat.le_of_ble_eq_true rfl, Nat.le_of_ble_eq_true rfl⟩) (m_recv hK hm (q := (RX6, TX6, 24)) rfl hM) hz hcx hm hS rfl hl.1 rfl (Nat.le_of_ble_eq_true rfl) dX6_count_15 ⟨Nat.le_of_ble_eq_true rfl, Nat.le_of_ble_eq_true rfl⟩ (fun v M1 H locs hv hm hS => ?_)
      obtain ⟨hv1, hM1⟩ := hv
      have hv1 : v = some (.int 1) := hv1.trans (by decide)
      subst hv1
      rw [hM1] at hm
      refine W.eq (g2 := F0 m 18 ls [.int 1]) rfl ?_
      refine W.widen (k := 0) (n := 0) (Nat.le_of_ble_eq_true rfl) (Nat.le_of_ble_eq_true rfl) ?_
      have hm : mm D (AZ z) (mu M mo (.inr (6, [.int 1, .ref cn, .ref ia, .ref dr, .ref en, .ref la, .ref wo, .int ni, .ref op, .ref mk, .ref ir, .int dn, .int md, .int pw, .int cm, .int wr, .ref se, .ref ec, .ref lc, .ref wc, .ref ol, .ref al, .int cs, .int hm9]))) H := hm
      have hkp : kpx (fun a => a ∈ [mo, cn, ia, dr, en, la, wo, op, mk, ir, se, ec, lc, wc, ol, al]) M (mu M mo (.inr (6, [.int 1, .ref cn, .ref ia, .ref dr, .ref en, .ref la, .ref wo, .int ni, .ref op, .ref mk, .ref ir, .int dn, .int md, .int pw, .int cm, .int wr, .ref se, .ref ec, .ref lc, .ref wc, .ref ol, .ref al, .int cs, .int hm9]))) := (hkp).self (by simp)
      refine lv_if_eq (tgt := 23) hx hb dX6_count_18 (by decide) (fun c15 => ?_) (fun c15 => ?_)
      · first | exact absurd c15 (by decide) | exact absurd (by decide) c15
      · refine lv_iconst (v := 0) hx hb dX6_count_21 (by decide) ?_
        refine W.iret (v := 0) hx hb hr (fun t ht hW => ⟨⟨some (.int 0), _, rfl, ?_, by rw [ht]; exact hm⟩, hS.F ht⟩) hS.2.2 dX6_count_22
        exact ⟨⟨_, rfl⟩, ⟨_, _, _, _, _, _, _, fcn, fia, fdr, fen, fla, fwo, fop, fmk, fir, fse, fec, flc, fol, fal, fwc, hap, (mu_self _ _ _), hmd, ⟨hrC, hrL, hrM⟩, ((mu_ne ne_cn_mo).trans hcn), ((mu_ne ne_ia_mo).trans hia), ((mu_ne ne_dr_mo).trans hdr), ((mu_ne ne_en_mo).trans hen), ((mu_ne ne_la_mo).trans hla), ((mu_ne ne_wo_mo).trans hwo), ((mu_ne ne_op_mo).trans hop), ((mu_ne ne_mk_mo).trans hmk), ((mu_ne ne_ir_mo).trans hir), ((mu_ne ne_se_mo).trans hse), ((mu_ne ne_ec_mo).trans hec), ((mu_ne ne_lc_mo).trans hlc), ((mu_ne ne_wc_mo).trans hwc), ((mu_ne ne_ol_mo).trans hol), ((mu_ne ne_al_mo).trans hal)⟩, hkp⟩

set_option maxHeartbeats 4000000 in
set_option maxRecDepth 100000 in
theorem s_X6_namesOf (l : Launch) (D : va_G) (k : Nat → ClassId) (z : Nat) (M : mM) (mo cn ia dr en la wo op mk ir se ec lc wc ol al : Nat) (dn md : Int32)  (n9 : Nat) (hn9 : n9 < 3200) (hI : mI k M mo cn ia dr en la wo op mk ir se ec lc wc ol al dn md) : mK l yX6_namesOf wsX6_namesOf ({ frames := 0, cells := 0, slots := 0, locals := 0 }) D k z [.ref mo, .int (nI n9)] M (fun v M' => (∃ x, v = some (.int x)) ∧ M' = M) := by
  refine Met.ofW (cc := cX6_namesOf) (maxL := 4) (ret := (some .int)) (by decide) rfl ?_
  intro p e s m args below meth c s₁ B hml hv
  obtain ⟨rfl, hz, hcx, hm⟩ := hv
  have hx := B.exec
  have hb := B.bytes
  have hr := B.returns
  have hts := atoms_spec (ws := wsX6_namesOf) B.pre
  have hown : s.vm.findClass RX6 = some m.cls := findClass_of_methodNamed B.named
  have hlocks := B.notSynchronized
  have hK := hcx.1
  have hS : va_S (AZ z) s.heap s.heap [] := va_S.rf
  have hA : ∀ q, s.heap.size ≤ q → AZ z q := fun q h => Nat.le_trans hz h
  have hl := lv_entry ([.ref mo, .int (nI n9)]) (n := 4) (Nat.le_of_ble_eq_true rfl)
  rw [lg_entry_eq]
  generalize (lg_sl ([.ref mo, .int (nI n9)]) ++ List.replicate (4 - (lg_sl ([.ref mo, .int (nI n9)])).length) Slot.unset).toArray = ls at hl ⊢
  have hl : lv_has ls 4 [(0, .ref mo), (1, .int (nI n9))] := hl
  have f21 := hts (.fieldLink RX6 21 "CommitTreeModel" "entries" "[I") (by decide +kernel)
  have wX6 : ∀ w ∈ wsX60, w ∈ wsX6_namesOf := by decide +kernel
  obtain ⟨cd, ni, pw, cm, wr, cs, hm9, fcn, fia, fdr, fen, fla, fwo, fop, fmk, fir, fse, fec, flc, fol, fal, fwc, hap, hM, hmd, ⟨hrC, hrL, hrM⟩, hcn, hia, hdr, hen, hla, hwo, hop, hmk, hir, hse, hec, hlc, hwc, hol, hal⟩ := id hI
  have ne_mo_cn : nq mo cn := pw_ne hap 0 1 (by decide) (Nat.le_of_ble_eq_true rfl)
  have ne_cn_mo : nq cn mo := Ne.symm ne_mo_cn
  have ne_mo_ia : nq mo ia := pw_ne hap 0 2 (by decide) (Nat.le_of_ble_eq_true rfl)
  have ne_ia_mo : nq ia mo := Ne.symm ne_mo_ia
  have ne_mo_dr : nq mo dr := pw_ne hap 0 3 (by decide) (Nat.le_of_ble_eq_true rfl)
  have ne_dr_mo : nq dr mo := Ne.symm ne_mo_dr
  have ne_mo_en : nq mo en := pw_ne hap 0 4 (by decide) (Nat.le_of_ble_eq_true rfl)
  have ne_en_mo : nq en mo := Ne.symm ne_mo_en
  have ne_mo_la : nq mo la := pw_ne hap 0 5 (by decide) (Nat.le_of_ble_eq_true rfl)
  have ne_la_mo : nq la mo := Ne.symm ne_mo_la
  have ne_mo_wo : nq mo wo := pw_ne hap 0 6 (by decide) (Nat.le_of_ble_eq_true rfl)
  have ne_wo_mo : nq wo mo := Ne.symm ne_mo_wo
  have ne_mo_op : nq mo op := pw_ne hap 0 7 (by decide) (Nat.le_of_ble_eq_true rfl)
  have ne_op_mo : nq op mo := Ne.symm ne_mo_op
  have ne_mo_mk : nq mo mk := pw_ne hap 0 8 (by decide) (Nat.le_of_ble_eq_true rfl)
  have ne_mk_mo : nq mk mo := Ne.symm ne_mo_mk
  have ne_mo_ir : nq mo ir := pw_ne hap 0 9 (by decide) (Nat.le_of_ble_eq_true rfl)
  have ne_ir_mo : nq ir mo := Ne.symm ne_mo_ir
  have ne_mo_se : nq mo se := pw_ne hap 0 10 (by decide) (Nat.le_of_ble_eq_true rfl)
  have ne_se_mo : nq se mo := Ne.symm ne_mo_se
  have ne_mo_ec : nq mo ec := pw_ne hap 0 11 (by decide) (Nat.le_of_ble_eq_true rfl)
  have ne_ec_mo : nq ec mo := Ne.symm ne_mo_ec
  have ne_mo_lc : nq mo lc := pw_ne hap 0 12 (by decide) (Nat.le_of_ble_eq_true rfl)
  have ne_lc_mo : nq lc mo := Ne.symm ne_mo_lc
  have ne_mo_wc : nq mo wc := pw_ne hap 0 13 (by decide) (Nat.le_of_ble_eq_true rfl)
  have ne_wc_mo : nq wc mo := Ne.symm ne_mo_wc
  have ne_mo_ol : nq mo ol := pw_ne hap 0 14 (by decide) (Nat.le_of_ble_eq_true rfl)
  have ne_ol_mo : nq ol mo := Ne.symm ne_mo_ol
  have ne_mo_al : nq mo al := pw_ne hap 0 15 (by decide) (Nat.le_of_ble_eq_true rfl)
  have ne_al_mo : nq al mo := Ne.symm ne_mo_al
  have ne_cn_ia : nq cn ia := pw_ne hap 1 2 (by decide) (Nat.le_of_ble_eq_true rfl)
  have ne_ia_cn : nq ia cn := Ne.symm ne_cn_ia
  have ne_cn_dr : nq cn dr := pw_ne hap 1 3 (by decide) (Nat.le_of_ble_eq_true rfl)
  have ne_dr_cn : nq dr cn := Ne.symm ne_cn_dr
  have ne_cn_en : nq cn en := pw_ne hap 1 4 (by decide) (Nat.le_of_ble_eq_true rfl)
  have ne_en_cn : nq en cn := Ne.symm ne_cn_en
  have ne_cn_la : nq cn la := pw_ne hap 1 5 (by decide) (Nat.le_of_ble_eq_true rfl)
  have ne_la_cn : nq la cn := Ne.symm ne_cn_la
  have ne_cn_wo : nq cn wo := pw_ne hap 1 6 (by decide) (Nat.le_of_ble_eq_true rfl)
  have ne_wo_cn : nq wo cn := Ne.symm ne_cn_wo
  have ne_cn_op : nq cn op := pw_ne hap 1 7 (by decide) (Nat.le_of_ble_eq_true rfl)
  have ne_op_cn : nq op cn := Ne.symm ne_cn_op
  have ne_cn_mk : nq cn mk := pw_ne hap 1 8 (by decide) (Nat.le_of_ble_eq_true rfl)
  have ne_mk_cn : nq mk cn := Ne.symm ne_cn_mk
  have ne_cn_ir : nq cn ir := pw_ne hap 1 9 (by decide) (Nat.le_of_ble_eq_true rfl)
  have ne_ir_cn : nq ir cn := Ne.symm ne_cn_ir
  have ne_cn_se : nq cn se := pw_ne hap 1 10 (by decide) (Nat.le_of_ble_eq_true rfl)
  have ne_se_cn : nq se cn := Ne.symm ne_cn_se
  have ne_cn_ec : nq cn ec := pw_ne hap 1 11 (by decide) (Nat.le_of_ble_eq_true rfl)
  have ne_ec_cn : nq ec cn := Ne.symm ne_cn_ec
  have ne_cn_lc : nq cn lc := pw_ne hap 1 12 (by decide) (Nat.le_of_ble_eq_true rfl)
  have ne_lc_cn : nq lc cn := Ne.symm ne_cn_lc
  have ne_cn_wc : nq cn wc := pw_ne hap 1 13 (by decide) (Nat.le_of_ble_eq_true rfl)
  have ne_wc_cn : nq wc cn := Ne.symm ne_cn_wc
  have ne_cn_ol : nq cn ol := pw_ne hap 1 14 (by decide) (Nat.le_of_ble_eq_true rfl)
  have ne_ol_cn : nq ol cn := Ne.symm ne_cn_ol
  have ne_cn_al : nq cn al := pw_ne hap 1 15 (by decide) (Nat.le_of_ble_eq_true rfl)
  have ne_al_cn : nq al cn := Ne.symm ne_cn_al
  have ne_ia_dr : nq ia dr := pw_ne hap 2 3 (by decide) (Nat.le_of_ble_eq_true rfl)
  have ne_dr_ia : nq dr ia := Ne.symm ne_ia_dr
  have ne_ia_en : nq ia en := pw_ne hap 2 4 (by decide) (Nat.le_of_ble_eq_true rfl)
  have ne_en_ia : nq en ia := Ne.symm ne_ia_en
  have ne_ia_la : nq ia la := pw_ne hap 2 5 (by decide) (Nat.le_of_ble_eq_true rfl)
  have ne_la_ia : nq la ia := Ne.symm ne_ia_la
  have ne_ia_wo : nq ia wo := pw_ne hap 2 6 (by decide) (Nat.le_of_ble_eq_true rfl)
  have ne_wo_ia : nq wo ia := Ne.symm ne_ia_wo
  have ne_ia_op : nq ia op := pw_ne hap 2 7 (by decide) (Nat.le_of_ble_eq_true rfl)
  have ne_op_ia : nq op ia := Ne.symm ne_ia_op
  have ne_ia_mk : nq ia mk := pw_ne hap 2 8 (by decide) (Nat.le_of_ble_eq_true rfl)
  have ne_mk_ia : nq mk ia := Ne.symm ne_ia_mk
  have ne_ia_ir : nq ia ir := pw_ne hap 2 9 (by decide) (Nat.le_of_ble_eq_true rfl)
  have ne_ir_ia : nq ir ia := Ne.symm ne_ia_ir
  have ne_ia_se : nq ia se := pw_ne hap 2 10 (by decide) (Nat.le_of_ble_eq_true rfl)
  have ne_se_ia : nq se ia := Ne.symm ne_ia_se
  have ne_ia_ec : nq ia ec := pw_ne hap 2 11 (by decide) (Nat.le_of_ble_eq_true rfl)
  have ne_ec_ia : nq ec ia := Ne.symm ne_ia_ec
  have ne_ia_lc : nq ia lc := pw_ne hap 2 12 (by decide) (Nat.le_of_ble_eq_true rfl)
  have ne_lc_ia : nq lc ia := Ne.symm ne_ia_lc
  have ne_ia_wc : nq ia wc := pw_ne hap 2 13 (by decide) (Nat.le_of_ble_eq_true rfl)
  have ne_wc_ia : nq wc ia := Ne.symm ne_ia_wc
  have ne_ia_ol : nq ia ol := pw_ne hap 2 14 (by decide) (Nat.le_of_ble_eq_true rfl)
  have ne_ol_ia : nq ol ia := Ne.symm ne_ia_ol
  have ne_ia_al : nq ia al := pw_ne hap 2 15 (by decide) (Nat.le_of_ble_eq_true rfl)
  have ne_al_ia : nq al ia := Ne.symm ne_ia_al
  have ne_dr_en : nq dr en := pw_ne hap 3 4 (by decide) (Nat.le_of_ble_eq_true rfl)
  have ne_en_dr : nq en dr := Ne.symm ne_dr_en
  have ne_dr_la : nq dr la := pw_ne hap 3 5 (by decide) (Nat.le_of_ble_eq_true rfl)
  have ne_la_dr : nq la dr := Ne.symm ne_dr_la
  have ne_dr_wo : nq dr wo := pw_ne hap 3 6 (by decide) (Nat.le_of_ble_eq_true rfl)
  have ne_wo_dr : nq wo dr := Ne.symm ne_dr_wo
  have ne_dr_op : nq dr op := pw_ne hap 3 7 (by decide) (Nat.le_of_ble_eq_true rfl)
  have ne_op_dr : nq op dr := Ne.symm ne_dr_op
  have ne_dr_mk : nq dr mk := pw_ne hap 3 8 (by decide) (Nat.le_of_ble_eq_true rfl)
  have ne_mk_dr : nq mk dr := Ne.symm ne_dr_mk
  have ne_dr_ir : nq dr ir := pw_ne hap 3 9 (by decide) (Nat.le_of_ble_eq_true rfl)
  have ne_ir_dr : nq ir dr := Ne.symm ne_dr_ir
  have ne_dr_se : nq dr se := pw_ne hap 3 10 (by decide) (Nat.le_of_ble_eq_true rfl)
  have ne_se_dr : nq se dr := Ne.symm ne_dr_se
  have ne_dr_ec : nq dr ec := pw_ne hap 3 11 (by decide) (Nat.le_of_ble_eq_true rfl)
  have ne_ec_dr : nq ec dr := Ne.symm ne_dr_ec
  have ne_dr_lc : nq dr lc := pw_ne hap 3 12 (by decide) (Nat.le_of_ble_eq_true rfl)
  have ne_lc_dr : nq lc dr := Ne.symm ne_dr_lc
  have ne_dr_wc : nq dr wc := pw_ne hap 3 13 (by decide) (Nat.le_of_ble_eq_true rfl)
  have ne_wc_dr : nq wc dr := Ne.symm ne_dr_wc
  have ne_dr_ol : nq dr ol := pw_ne hap 3 14 (by decide) (Nat.le_of_ble_eq_true rfl)
  have ne_ol_dr : nq ol dr := Ne.symm ne_dr_ol
  have ne_dr_al : nq dr al := pw_ne hap 3 15 (by decide) (Nat.le_of_ble_eq_true rfl)
  have ne_al_dr : nq al dr := Ne.symm ne_dr_al
  have ne_en_la : nq en la := pw_ne hap 4 5 (by decide) (Nat.le_of_ble_eq_true rfl)
  have ne_la_en : nq la en := Ne.symm ne_en_la
  have ne_en_wo : nq en wo := pw_ne hap 4 6 (by decide) (Nat.le_of_ble_eq_true rfl)
  have ne_wo_en : nq wo en := Ne.symm ne_en_wo
  have ne_en_op : nq en op := pw_ne hap 4 7 (by decide) (Nat.le_of_ble_eq_true rfl)
  have ne_op_en : nq op en := Ne.symm ne_en_op
  have ne_en_mk : nq en mk := pw_ne hap 4 8 (by decide) (Nat.le_of_ble_eq_true rfl)
  have ne_mk_en : nq mk en := Ne.symm ne_en_mk
  have ne_en_ir : nq en ir := pw_ne hap 4 9 (by decide) (Nat.le_of_ble_eq_true rfl)
  have ne_ir_en : nq ir en := Ne.symm ne_en_ir
  have ne_en_se : nq en se := pw_ne hap 4 10 (by decide) (Nat.le_of_ble_eq_true rfl)
  have ne_se_en : nq se en := Ne.symm ne_en_se
  have ne_en_ec : nq en ec := pw_ne hap 4 11 (by decide) (Nat.le_of_ble_eq_true rfl)
  have ne_ec_en : nq ec en := Ne.symm ne_en_ec
  have ne_en_lc : nq en lc := pw_ne hap 4 12 (by decide) (Nat.le_of_ble_eq_true rfl)
  have ne_lc_en : nq lc en := Ne.symm ne_en_lc
  have ne_en_wc : nq en wc := pw_ne hap 4 13 (by decide) (Nat.le_of_ble_eq_true rfl)
  have ne_wc_en : nq wc en := Ne.symm ne_en_wc
  have ne_en_ol : nq en ol := pw_ne hap 4 14 (by decide) (Nat.le_of_ble_eq_true rfl)
  have ne_ol_en : nq ol en := Ne.symm ne_en_ol
  have ne_en_al : nq en al := pw_ne hap 4 15 (by decide) (Nat.le_of_ble_eq_true rfl)
  have ne_al_en : nq al en := Ne.symm ne_en_al
  have ne_la_wo : nq la wo := pw_ne hap 5 6 (by decide) (Nat.le_of_ble_eq_true rfl)
  have ne_wo_la : nq wo la := Ne.symm ne_la_wo
  have ne_la_op : nq la op := pw_ne hap 5 7 (by decide) (Nat.le_of_ble_eq_true rfl)
  have ne_op_la : nq op la := Ne.symm ne_la_op
  have ne_la_mk : nq la mk := pw_ne hap 5 8 (by decide) (Nat.le_of_ble_eq_true rfl)
  have ne_mk_la : nq mk la := Ne.symm ne_la_mk
  have ne_la_ir : nq la ir := pw_ne hap 5 9 (by decide) (Nat.le_of_ble_eq_true rfl)
  have ne_ir_la : nq ir la := Ne.symm ne_la_ir
  have ne_la_se : nq la se := pw_ne hap 5 10 (by decide) (Nat.le_of_ble_eq_true rfl)
  have ne_se_la : nq se la := Ne.symm ne_la_se
  have ne_la_ec : nq la ec := pw_ne hap 5 11 (by decide) (Nat.le_of_ble_eq_true rfl)
  have ne_ec_la : nq ec la := Ne.symm ne_la_ec
  have ne_la_lc : nq la lc := pw_ne hap 5 12 (by decide) (Nat.le_of_ble_eq_true rfl)
  have ne_lc_la : nq lc la := Ne.symm ne_la_lc
  have ne_la_wc : nq la wc := pw_ne hap 5 13 (by decide) (Nat.le_of_ble_eq_true rfl)
  have ne_wc_la : nq wc la := Ne.symm ne_la_wc
  have ne_la_ol : nq la ol := pw_ne hap 5 14 (by decide) (Nat.le_of_ble_eq_true rfl)
  have ne_ol_la : nq ol la := Ne.symm ne_la_ol
  have ne_la_al : nq la al := pw_ne hap 5 15 (by decide) (Nat.le_of_ble_eq_true rfl)
  have ne_al_la : nq al la := Ne.symm ne_la_al
  have ne_wo_op : nq wo op := pw_ne hap 6 7 (by decide) (Nat.le_of_ble_eq_true rfl)
  have ne_op_wo : nq op wo := Ne.symm ne_wo_op
  have ne_wo_mk : nq wo mk := pw_ne hap 6 8 (by decide) (Nat.le_of_ble_eq_true rfl)
  have ne_mk_wo : nq mk wo := Ne.symm ne_wo_mk
  have ne_wo_ir : nq wo ir := pw_ne hap 6 9 (by decide) (Nat.le_of_ble_eq_true rfl)
  have ne_ir_wo : nq ir wo := Ne.symm ne_wo_ir
  have ne_wo_se : nq wo se := pw_ne hap 6 10 (by decide) (Nat.le_of_ble_eq_true rfl)
  have ne_se_wo : nq se wo := Ne.symm ne_wo_se
  have ne_wo_ec : nq wo ec := pw_ne hap 6 11 (by decide) (Nat.le_of_ble_eq_true rfl)
  have ne_ec_wo : nq ec wo := Ne.symm ne_wo_ec
  have ne_wo_lc : nq wo lc := pw_ne hap 6 12 (by decide) (Nat.le_of_ble_eq_true rfl)
  have ne_lc_wo : nq lc wo := Ne.symm ne_wo_lc
  have ne_wo_wc : nq wo wc := pw_ne hap 6 13 (by decide) (Nat.le_of_ble_eq_true rfl)
  have ne_wc_wo : nq wc wo := Ne.symm ne_wo_wc
  have ne_wo_ol : nq wo ol := pw_ne hap 6 14 (by decide) (Nat.le_of_ble_eq_true rfl)
  have ne_ol_wo : nq ol wo := Ne.symm ne_wo_ol
  have ne_wo_al : nq wo al := pw_ne hap 6 15 (by decide) (Nat.le_of_ble_eq_true rfl)
  have ne_al_wo : nq al wo := Ne.symm ne_wo_al
  have ne_op_mk : nq op mk := pw_ne hap 7 8 (by decide) (Nat.le_of_ble_eq_true rfl)
  have ne_mk_op : nq mk op := Ne.symm ne_op_mk
  have ne_op_ir : nq op ir := pw_ne hap 7 9 (by decide) (Nat.le_of_ble_eq_true rfl)
  have ne_ir_op : nq ir op := Ne.symm ne_op_ir
  have ne_op_se : nq op se := pw_ne hap 7 10 (by decide) (Nat.le_of_ble_eq_true rfl)
  have ne_se_op : nq se op := Ne.symm ne_op_se
  have ne_op_ec : nq op ec := pw_ne hap 7 11 (by decide) (Nat.le_of_ble_eq_true rfl)
  have ne_ec_op : nq ec op := Ne.symm ne_op_ec
  have ne_op_lc : nq op lc := pw_ne hap 7 12 (by decide) (Nat.le_of_ble_eq_true rfl)
  have ne_lc_op : nq lc op := Ne.symm ne_op_lc
  have ne_op_wc : nq op wc := pw_ne hap 7 13 (by decide) (Nat.le_of_ble_eq_true rfl)
  have ne_wc_op : nq wc op := Ne.symm ne_op_wc
  have ne_op_ol : nq op ol := pw_ne hap 7 14 (by decide) (Nat.le_of_ble_eq_true rfl)
  have ne_ol_op : nq ol op := Ne.symm ne_op_ol
  have ne_op_al : nq op al := pw_ne hap 7 15 (by decide) (Nat.le_of_ble_eq_true rfl)
  have ne_al_op : nq al op := Ne.symm ne_op_al
  have ne_mk_ir : nq mk ir := pw_ne hap 8 9 (by decide) (Nat.le_of_ble_eq_true rfl)
  have ne_ir_mk : nq ir mk := Ne.symm ne_mk_ir
  have ne_mk_se : nq mk se := pw_ne hap 8 10 (by decide) (Nat.le_of_ble_eq_true rfl)
  have ne_se_mk : nq se mk := Ne.symm ne_mk_se
  have ne_mk_ec : nq mk ec := pw_ne hap 8 11 (by decide) (Nat.le_of_ble_eq_true rfl)
  have ne_ec_mk : nq ec mk := Ne.symm ne_mk_ec
  have ne_mk_lc : nq mk lc := pw_ne hap 8 12 (by decide) (Nat.le_of_ble_eq_true rfl)
  have ne_lc_mk : nq lc mk := Ne.symm ne_mk_lc
  have ne_mk_wc : nq mk wc := pw_ne hap 8 13 (by decide) (Nat.le_of_ble_eq_true rfl)
  have ne_wc_mk : nq wc mk := Ne.symm ne_mk_wc
  have ne_mk_ol : nq mk ol := pw_ne hap 8 14 (by decide) (Nat.le_of_ble_eq_true rfl)
  have ne_ol_mk : nq ol mk := Ne.symm ne_mk_ol
  have ne_mk_al : nq mk al := pw_ne hap 8 15 (by decide) (Nat.le_of_ble_eq_true rfl)
  have ne_al_mk : nq al mk := Ne.symm ne_mk_al
  have ne_ir_se : nq ir se := pw_ne hap 9 10 (by decide) (Nat.le_of_ble_eq_true rfl)
  have ne_se_ir : nq se ir := Ne.symm ne_ir_se
  have ne_ir_ec : nq ir ec := pw_ne hap 9 11 (by decide) (Nat.le_of_ble_eq_true rfl)
  have ne_ec_ir : nq ec ir := Ne.symm ne_ir_ec
  have ne_ir_lc : nq ir lc := pw_ne hap 9 12 (by decide) (Nat.le_of_ble_eq_true rfl)
  have ne_lc_ir : nq lc ir := Ne.symm ne_ir_lc
  have ne_ir_wc : nq ir wc := pw_ne hap 9 13 (by decide) (Nat.le_of_ble_eq_true rfl)
  have ne_wc_ir : nq wc ir := Ne.symm ne_ir_wc
  have ne_ir_ol : nq ir ol := pw_ne hap 9 14 (by decide) (Nat.le_of_ble_eq_true rfl)
  have ne_ol_ir : nq ol ir := Ne.symm ne_ir_ol
  have ne_ir_al : nq ir al := pw_ne hap 9 15 (by decide) (Nat.le_of_ble_eq_true rfl)
  have ne_al_ir : nq al ir := Ne.symm ne_ir_al
  have ne_se_ec : nq se ec := pw_ne hap 10 11 (by decide) (Nat.le_of_ble_eq_true rfl)
  have ne_ec_se : nq ec se := Ne.symm ne_se_ec
  have ne_se_lc : nq se lc := pw_ne hap 10 12 (by decide) (Nat.le_of_ble_eq_true rfl)
  have ne_lc_se : nq lc se := Ne.symm ne_se_lc
  have ne_se_wc : nq se wc := pw_ne hap 10 13 (by decide) (Nat.le_of_ble_eq_true rfl)
  have ne_wc_se : nq wc se := Ne.symm ne_se_wc
  have ne_se_ol : nq se ol := pw_ne hap 10 14 (by decide) (Nat.le_of_ble_eq_true rfl)
  have ne_ol_se : nq ol se := Ne.symm ne_se_ol
  have ne_se_al : nq se al := pw_ne hap 10 15 (by decide) (Nat.le_of_ble_eq_true rfl)
  have ne_al_se : nq al se := Ne.symm ne_se_al
  have ne_ec_lc : nq ec lc := pw_ne hap 11 12 (by decide) (Nat.le_of_ble_eq_true rfl)
  have ne_lc_ec : nq lc ec := Ne.symm ne_ec_lc
  have ne_ec_wc : nq ec wc := pw_ne hap 11 13 (by decide) (Nat.le_of_ble_eq_true rfl)
  have ne_wc_ec : nq wc ec := Ne.symm ne_ec_wc
  have ne_ec_ol : nq ec ol := pw_ne hap 11 14 (by decide) (Nat.le_of_ble_eq_true rfl)
  have ne_ol_ec : nq ol ec := Ne.symm ne_ec_ol
  have ne_ec_al : nq ec al := pw_ne hap 11 15 (by decide) (Nat.le_of_ble_eq_true rfl)
  have ne_al_ec : nq al ec := Ne.symm ne_ec_al
  have ne_lc_wc : nq lc wc := pw_ne hap 12 13 (by decide) (Nat.le_of_ble_eq_true rfl)
  have ne_wc_lc : nq wc lc := Ne.symm ne_lc_wc
  have ne_lc_ol : nq lc ol := pw_ne hap 12 14 (by decide) (Nat.le_of_ble_eq_true rfl)
  have ne_ol_lc : nq ol lc := Ne.symm ne_lc_ol
  have ne_lc_al : nq lc al := pw_ne hap 12 15 (by decide) (Nat.le_of_ble_eq_true rfl)
  have ne_al_lc : nq al lc := Ne.symm ne_lc_al
  have ne_wc_ol : nq wc ol := pw_ne hap 13 14 (by decide) (Nat.le_of_ble_eq_true rfl)
  have ne_ol_wc : nq ol wc := Ne.symm ne_wc_ol
  have ne_wc_al : nq wc al := pw_ne hap 13 15 (by decide) (Nat.le_of_ble_eq_true rfl)
  have ne_al_wc : nq al wc := Ne.symm ne_wc_al
  have ne_ol_al : nq ol al := pw_ne hap 14 15 (by decide) (Nat.le_of_ble_eq_true rfl)
  have ne_al_ol : nq al ol := Ne.symm ne_ol_al
  refine lv_iconst (v := 0) hx hb dX6_namesOf_0 (by decide) ?_
  refine lv_istore_n (lv' := [(2, .int 0), (0, .ref mo), (1, .int (nI n9))]) hx hb dX6_namesOf_1 rfl hl (by decide) rfl (fun ls hl => ?_)
  refine lv_iconst (v := 1) hx hb dX6_namesOf_2 (by decide) ?_
  refine lv_istore_n (lv' := [(3, .int 1), (2, .int 0), (0, .ref mo), (1, .int (nI n9))]) hx hb dX6_namesOf_3 rfl hl (by decide) rfl (fun ls hl => ?_)
  refine W_loop (σ := Nat × Int32) (fun ⟨j, q9⟩ H locs ls => (j ≤ 15) ∧ mm D (AZ z) M H ∧ va_S (AZ z) s.heap H locs ∧ lv_has ls 4 [(3, .int (nI (1 + j))), (2, .int q9), (0, .ref mo), (1, .int (nI n9))]) (fun ⟨j, q9⟩ => 15 - j) (fun ⟨j, q9⟩ => 0) (fun ⟨j, q9⟩ => 0) ?_ (0, 0) _ _ _ ⟨Nat.zero_le _, hm, hS, lv_sub hl [0, 1, 2, 3] rfl⟩
  intro ⟨j, q9⟩ H locs ls hI ih4
  obtain ⟨hj, hm, hS, hl⟩ := hI
  try dsimp only at hm hl ih4 ⊢
  refine lv_iload_n hx hb dX6_namesOf_4 rfl (lv_at hl 0 rfl) ?_
  refine lv_bipush (v := 16) hx hb dX6_namesOf_5 (by decide) ?_
  refine lv_icmp_ge (tgt := 40) hx hb dX6_namesOf_7 (by decide) (fun c1 => ?_) (fun c1 => ?_)
  · refine lv_iload_n hx hb dX6_namesOf_40 rfl (lv_at hl 1 rfl) ?_
    refine W.iret (v := q9) hx hb hr (fun t ht hW => ⟨⟨some (.int q9), _, rfl, ?_, by rw [ht]; exact hm⟩, hS.F ht⟩) hS.2.2 dX6_namesOf_41
    exact ⟨⟨_, rfl⟩, rfl⟩
  · have hlt9 : j < 15 := by
      rcases Nat.lt_or_ge j 15 with q | q
      · exact q
      · exact absurd (nI_le (a := 16) (b := 1 + j) (by omega) (by omega)) c1
    refine lv_iload_n hx hb dX6_namesOf_10 rfl (lv_at hl 1 rfl) ?_
    refine lv_aload_n hx hb dX6_namesOf_11 rfl (lv_at hl 2 rfl) ?_
    refine m_get (T := TX6) (N := 24) (ci := 6) (v := .ref en) hx hb hts wX6 hown hK hm hM rfl 4 (by decide) f21 (fun _ h9 => h9) rfl dX6_namesOf_12 ?_
    refine lv_bipush (v := 16) hx hb dX6_namesOf_15 (by decide) ?_
    refine lv_iload_n hx hb dX6_namesOf_17 rfl (lv_at hl 3 rfl) ?_
    refine lv_imul hx hb dX6_namesOf_18 ?_
    refine W.eq (g2 := F0 m 19 ls [.int (nI (16 * n9)), .ref en, .int q9]) (by rw [show ((16) * ((nI n9)) : Int32) = nI (16 * n9) from pk_mul 16 n9]) ?_
    refine lv_iload_n hx hb dX6_namesOf_19 rfl (lv_at hl 0 rfl) ?_
    refine lv_iadd hx hb dX6_namesOf_20 ?_
    refine W.eq (g2 := F0 m 21 ls [.int (nI ((16 * n9) + (1 + j))), .ref en, .int q9]) (by rw [show (((nI (16 * n9))) + ((nI (1 + j))) : Int32) = nI ((16 * n9) + (1 + j)) from nI_add (16 * n9) (1 + j)]) ?_
    refine m_iald hx hb hK hm 0 hen rfl (vp_in_nI (by omega) (by decide)) dX6_namesOf_21 ?_
    refine lv_if_le (tgt := 31) hx hb dX6_namesOf_22 (by decide) (fun c2 => ?_) (fun c2 => ?_)
    · refine lv_iconst (v := 0) hx hb dX6_namesOf_31 (by decide) ?_
      refine lv_ior hx hb dX6_namesOf_32 ?_
      refine lv_istore_n (lv' := [(2, .int (q9 ||| 0)), (3, .int (nI (1 + j))), (0, .ref mo), (1, .int (nI n9))]) hx hb dX6_namesOf_33 rfl hl (by decide) rfl (fun ls hl => ?_)
      refine lv_iinc (v := ((nI (1 + j)) + 1)) (lv' := [(3, .int ((nI (1 + j)) + 1)), (2, .int (q9 ||| 0)), (0, .ref mo), (1, .int (nI n9))]) hx hb dX6_namesOf_34 hl (k := 1) rfl rfl (by decide) rfl (fun ls hl => ?_)
      refine lv_goto (tgt := 4) hx hb dX6_namesOf_37 (by decide) ?_
      rw [nI_1] at hl
      exact ih4 (j + 1, (q9 ||| 0)) _ _ _ ⟨by omega, hm, hS, lv_sub hl [0, 1, 2, 3] rfl⟩ (by show 15 - (j + 1) < 15 - j; omega)
    · refine lv_iconst (v := 1) hx hb dX6_namesOf_25 (by decide) ?_
      refine lv_iload_n hx hb dX6_namesOf_26 rfl (lv_at hl 0 rfl) ?_
      refine lv_ishl hx hb dX6_namesOf_27 ?_
      refine lv_goto (tgt := 32) hx hb dX6_namesOf_28 (by decide) ?_
      refine lv_ior hx hb dX6_namesOf_32 ?_
      refine lv_istore_n (lv' := [(2, .int (q9 ||| (1 <<< ((nI (1 + j)) &&& 31)))), (3, .int (nI (1 + j))), (0, .ref mo), (1, .int (nI n9))]) hx hb dX6_namesOf_33 rfl hl (by decide) rfl (fun ls hl => ?_)
      refine lv_iinc (v := ((nI (1 + j)) + 1)) (lv' := [(3, .int ((nI (1 + j)) + 1)), (2, .int (q9 ||| (1 <<< ((nI (1 + j)) &&& 31)))), (0, .ref mo), (1, .int (nI n9))]) hx hb dX6_namesOf_34 hl (k := 1) rfl rfl (by decide) rfl (fun ls hl => ?_)
      refine lv_goto (tgt := 4) hx hb dX6_namesOf_37 (by decide) ?_
      rw [nI_1] at hl
      exact ih4 (j + 1, (q9 ||| (1 <<< ((nI (1 + j)) &&& 31)))) _ _ _ ⟨by omega, hm, hS, lv_sub hl [0, 1, 2, 3] rfl⟩ (by show 15 - (j + 1) < 15 - j; omega)

theorem it_dec {p : Int32} (h : ¬ p ≤ 0) : (p >>> (4 &&& 31)).toInt.toNat < p.toInt.toNat := by
  rcases pk_ix p (n := 2147483647) (by decide) with q | q | ⟨n, hn, rfl⟩
  · exact absurd (Int32.le_of_lt q) h
  · have q1 : p = nI 2147483647 := Int32.le_antisymm (by
      have := Int32.toInt_le p
      exact Int32.le_iff_toInt_le.mpr this) q
    subst q1; decide
  · have hp : 0 < n := Nat.pos_of_ne_zero fun q => h (by rw [q]; decide)
    rw [pk_shrN (by omega) _ 4 (by decide)]
    have e1 : ∀ x, x < 2 ^ 31 → (nI x).toInt.toNat = x := fun x hx => nI_clamp hx
    rw [e1 _ (by omega), e1 _ (by omega)]
    omega

set_option maxHeartbeats 4000000 in
set_option maxRecDepth 100000 in
theorem s_X6_isThrough (l : Launch) (D : va_G) (k : Nat → ClassId) (z : Nat) (M : mM)  (path oth : Int32) : mK l yX6_isThrough wsX6_isThrough ({ frames := 0, cells := 0, slots := 0, locals := 0 }) D k z [.int path, .int oth] M (fun v M' => (∃ x, v = some (.int x) ∧ (x = 0 ∨ x = 1)) ∧ M' = M) := by
  refine Met.ofW (cc := cX6_isThrough) (maxL := 4) (ret := (some .boolean)) (by decide) rfl ?_
  intro p e s m args below meth c s₁ B hml hv
  obtain ⟨rfl, hz, hcx, hm⟩ := hv
  have hx := B.exec
  have hb := B.bytes
  have hr := B.returns
  have hts := atoms_spec (ws := wsX6_isThrough) B.pre
  have hown : s.vm.findClass RX6 = some m.cls := findClass_of_methodNamed B.named
  have hlocks := B.notSynchronized
  have hK := hcx.1
  have hS : va_S (AZ z) s.heap s.heap [] := va_S.rf
  have hA : ∀ q, s.heap.size ≤ q → AZ z q := fun q h => Nat.le_trans hz h
  have hl := lv_entry ([.int path, .int oth]) (n := 4) (Nat.le_of_ble_eq_true rfl)
  rw [lg_entry_eq]
  generalize (lg_sl ([.int path, .int oth]) ++ List.replicate (4 - (lg_sl ([.int path, .int oth])).length) Slot.unset).toArray = ls at hl ⊢
  have hl : lv_has ls 4 [(0, .int path), (1, .int oth)] := hl
  refine lv_iconst (v := 0) hx hb dX6_isThrough_0 (by decide) ?_
  refine lv_istore_n (lv' := [(2, .int 0), (0, .int path), (1, .int oth)]) hx hb dX6_isThrough_1 rfl hl (by decide) rfl (fun ls hl => ?_)
  refine lv_iload_n hx hb dX6_isThrough_2 rfl (lv_at hl 1 rfl) ?_
  refine lv_istore_n (lv' := [(3, .int path), (2, .int 0), (0, .int path), (1, .int oth)]) hx hb dX6_isThrough_3 rfl hl (by decide) rfl (fun ls hl => ?_)
  refine W_loop (σ := Int32 × Int32) (fun ⟨p9, q9⟩ H locs ls => (q9 = 0 ∨ q9 = 1) ∧ mm D (AZ z) M H ∧ va_S (AZ z) s.heap H locs ∧ lv_has ls 4 [(3, .int p9), (2, .int q9), (0, .int path), (1, .int oth)]) (fun ⟨p9, q9⟩ => p9.toInt.toNat) (fun _ => 0) (fun _ => 0) ?_ (path, 0) _ _ _ ⟨Or.inl rfl, hm, hS, lv_sub hl [0, 1, 2, 3] rfl⟩
  intro ⟨p9, q9⟩ H locs ls hQ ih4
  obtain ⟨hq9, hm, hS, hl⟩ := hQ
  try dsimp only at hm hl ih4 ⊢
  refine lv_iload_n hx hb dX6_isThrough_4 rfl (lv_at hl 0 rfl) ?_
  refine lv_if_le (tgt := 30) hx hb dX6_isThrough_5 (by decide) (fun c1 => ?_) (fun c1 => ?_)
  · refine lv_iload_n hx hb dX6_isThrough_30 rfl (lv_at hl 1 rfl) ?_
    refine W.zret hx hb hr (bo_n hq9) (fun t ht hW => ⟨⟨some (.int q9), _, rfl, ?_, by rw [ht]; exact hm⟩, hS.F ht⟩) hS.2.2 dX6_isThrough_31
    exact ⟨⟨_, rfl, hq9⟩, rfl⟩
  · refine lv_iload_n hx hb dX6_isThrough_8 rfl (lv_at hl 1 rfl) ?_
    refine lv_if_ne (tgt := 17) hx hb dX6_isThrough_9 (by decide) (fun c2 => ?_) (fun c2 => ?_)
    · refine lv_iconst (v := 1) hx hb dX6_isThrough_17 (by decide) ?_
      refine lv_goto (tgt := 22) hx hb dX6_isThrough_18 (by decide) ?_
      refine lv_istore_n (lv' := [(2, .int 1), (3, .int p9), (0, .int path), (1, .int oth)]) hx hb dX6_isThrough_22 rfl hl (by decide) rfl (fun ls hl => ?_)
      refine lv_iload_n hx hb dX6_isThrough_23 rfl (lv_at hl 1 rfl) ?_
      refine lv_iconst (v := 4) hx hb dX6_isThrough_24 (by decide) ?_
      refine lv_ishr hx hb dX6_isThrough_25 ?_
      refine lv_istore_n (lv' := [(3, .int (p9 >>> (4 &&& 31))), (2, .int 1), (0, .int path), (1, .int oth)]) hx hb dX6_isThrough_26 rfl hl (by decide) rfl (fun ls hl => ?_)
      refine lv_goto (tgt := 4) hx hb dX6_isThrough_27 (by decide) ?_
      exact ih4 ((p9 >>> (4 &&& 31)), 1) _ _ _ ⟨by first | exact Or.inl rfl | exact Or.inr rfl, hm, hS, lv_sub hl [0, 1, 2, 3] rfl⟩ (it_dec c1)
    · refine lv_iload_n hx hb dX6_isThrough_12 rfl (lv_at hl 0 rfl) ?_
      refine lv_iload_n hx hb dX6_isThrough_13 rfl (lv_at hl 3 rfl) ?_
      refine lv_icmp_ne (tgt := 21) hx hb dX6_isThrough_14 (by decide) (fun c3 => ?_) (fun c3 => ?_)
      · refine lv_iconst (v := 0) hx hb dX6_isThrough_21 (by decide) ?_
        refine lv_istore_n (lv' := [(2, .int 0), (3, .int p9), (0, .int path), (1, .int oth)]) hx hb dX6_isThrough_22 rfl hl (by decide) rfl (fun ls hl => ?_)
        refine lv_iload_n hx hb dX6_isThrough_23 rfl (lv_at hl 1 rfl) ?_
        refine lv_iconst (v := 4) hx hb dX6_isThrough_24 (by decide) ?_
        refine lv_ishr hx hb dX6_isThrough_25 ?_
        refine lv_istore_n (lv' := [(3, .int (p9 >>> (4 &&& 31))), (2, .int 0), (0, .int path), (1, .int oth)]) hx hb dX6_isThrough_26 rfl hl (by decide) rfl (fun ls hl => ?_)
        refine lv_goto (tgt := 4) hx hb dX6_isThrough_27 (by decide) ?_
        exact ih4 ((p9 >>> (4 &&& 31)), 0) _ _ _ ⟨by first | exact Or.inl rfl | exact Or.inr rfl, hm, hS, lv_sub hl [0, 1, 2, 3] rfl⟩ (it_dec c1)
      · refine lv_iconst (v := 1) hx hb dX6_isThrough_17 (by decide) ?_
        refine lv_goto (tgt := 22) hx hb dX6_isThrough_18 (by decide) ?_
        refine lv_istore_n (lv' := [(2, .int 1), (3, .int p9), (0, .int path), (1, .int oth)]) hx hb dX6_isThrough_22 rfl hl (by decide) rfl (fun ls hl => ?_)
        refine lv_iload_n hx hb dX6_isThrough_23 rfl (lv_at hl 1 rfl) ?_
        refine lv_iconst (v := 4) hx hb dX6_isThrough_24 (by decide) ?_
        refine lv_ishr hx hb dX6_isThrough_25 ?_
        refine lv_istore_n (lv' := [(3, .int (p9 >>> (4 &&& 31))), (2, .int 1), (0, .int path), (1, .int oth)]) hx hb dX6_isThrough_26 rfl hl (by decide) rfl (fun ls hl => ?_)
        refine lv_goto (tgt := 4) hx hb dX6_isThrough_27 (by decide) ?_
        exact ih4 ((p9 >>> (4 &&& 31)), 1) _ _ _ ⟨by first | exact Or.inl rfl | exact Or.inr rfl, hm, hS, lv_sub hl [0, 1, 2, 3] rfl⟩ (it_dec c1)
