set_option maxHeartbeats 4000000 in
set_option maxRecDepth 100000 in
theorem s_X6_write (l : Launch) (D : va_G) (k : Nat → ClassId) (z : Nat) (M : mM) (mo cn ia dr en la wo op mk ir se ec lc wc ol al : Nat) (dn md : Int32)  (tq path i9 w9 : Int32) (hbd : md ≠ 0 → dn ≠ 0) (hI : mI k M mo cn ia dr en la wo op mk ir se ec lc wc ol al dn md) : mK l yX6_write wsX6_write ({ frames := 5, cells := 0, slots := 0, locals := 122 }) D k z [.ref mo, .int tq, .int path, .int i9, .int w9] M (fun v M' => (∃ x, v = some (.int x)) ∧ mI k M' mo cn ia dr en la wo op mk ir se ec lc wc ol al dn md ∧ kpx (fun a => a ∈ [mo, cn, ia, dr, en, la, wo, op, mk, ir, se, ec, lc, wc, ol, al]) M M') := by
  refine Met.ofW (cc := cX6_write) (maxL := 6) (ret := (some .int)) (by decide) rfl ?_
  intro p e s m args below meth c s₁ B hml hv
  obtain ⟨rfl, hz, hcx, hm⟩ := hv
  have hx := B.exec
  have hb := B.bytes
  have hr := B.returns
  have hts := atoms_spec (ws := wsX6_write) B.pre
  have hown : s.vm.findClass RX6 = some m.cls := findClass_of_methodNamed B.named
  have hlocks := B.notSynchronized
  have hK := hcx.1
  have hS : va_S (AZ z) s.heap s.heap [] := va_S.rf
  have hA : ∀ q, s.heap.size ≤ q → AZ z q := fun q h => Nat.le_trans hz h
  have hl := lv_entry ([.ref mo, .int tq, .int path, .int i9, .int w9]) (n := 6) (Nat.le_of_ble_eq_true rfl)
  rw [lg_entry_eq]
  generalize (lg_sl ([.ref mo, .int tq, .int path, .int i9, .int w9]) ++ List.replicate (6 - (lg_sl ([.ref mo, .int tq, .int path, .int i9, .int w9])).length) Slot.unset).toArray = ls at hl ⊢
  have hl : lv_has ls 6 [(0, .ref mo), (1, .int tq), (2, .int path), (3, .int i9), (4, .int w9)] := hl
  have f24 := hts (.fieldLink RX6 24 "CommitTreeModel" "lengths" "[I") (by decide +kernel)
  have f28 := hts (.fieldLink RX6 28 "CommitTreeModel" "words" "[I") (by decide +kernel)
  have wX6 : ∀ w ∈ wsX60, w ∈ wsX6_write := by decide +kernel
  obtain ⟨cd, ni, pw, cm, wr, cs, hm9, fcn, fia, fdr, fen, fla, fwo, fop, fmk, fir, fse, fec, flc, fol, fal, fwc, hap, hM, hmd, ⟨hrC, hrL, hrM⟩, hcn, hia, hdr, hen, hla, hwo, hop, hmk, hir, hse, hec, hlc, hwc, hol, hal⟩ := id hI
  have ne_mo_cn : nq mo cn := pw_ne hap 0 1 (by decide) (Nat.le_of_ble_eq_true rfl)
  have ne_cn_mo : nq cn mo := Ne.symm ne_mo_cn
  have ne_mo_ia : nq mo ia := pw_ne hap 0 2 (by decide) (Nat.le_of_ble_eq_true rfl)
  have ne_ia_mo : nq ia mo := Ne.symm ne_mo_ia
  have ne_mo_dr : nq mo dr := pw_ne hap 0 3 (by decide) (Nat.le_of_ble_eq_true rfl)
  have ne_dr_mo : nq dr mo := Ne.symm ne_mo_dr
  have ne_mo_en : nq mo en := pw_ne hap 0 4 (by decide) (Nat.le_of_ble_eq_true rfl)
  have ne_en_mo : nq en mo := Ne.symm ne_mo_en
  have ne_mo_la : nq mo la := pw_ne hap 0 5 (by decide) (Nat.le_of_ble_eq_true rfl)
  have ne_la_mo : nq la mo := Ne.symm ne_mo_la
  have ne_mo_wo : nq mo wo := pw_ne hap 0 6 (by decide) (Nat.le_of_ble_eq_true rfl)
  have ne_wo_mo : nq wo mo := Ne.symm ne_mo_wo
  have ne_mo_op : nq mo op := pw_ne hap 0 7 (by decide) (Nat.le_of_ble_eq_true rfl)
  have ne_op_mo : nq op mo := Ne.symm ne_mo_op
  have ne_mo_mk : nq mo mk := pw_ne hap 0 8 (by decide) (Nat.le_of_ble_eq_true rfl)
  have ne_mk_mo : nq mk mo := Ne.symm ne_mo_mk
  have ne_mo_ir : nq mo ir := pw_ne hap 0 9 (by decide) (Nat.le_of_ble_eq_true rfl)
  have ne_ir_mo : nq ir mo := Ne.symm ne_mo_ir
  have ne_mo_se : nq mo se := pw_ne hap 0 10 (by decide) (Nat.le_of_ble_eq_true rfl)
  have ne_se_mo : nq se mo := Ne.symm ne_mo_se
  have ne_mo_ec : nq mo ec := pw_ne hap 0 11 (by decide) (Nat.le_of_ble_eq_true rfl)
  have ne_ec_mo : nq ec mo := Ne.symm ne_mo_ec
  have ne_mo_lc : nq mo lc := pw_ne hap 0 12 (by decide) (Nat.le_of_ble_eq_true rfl)
  have ne_lc_mo : nq lc mo := Ne.symm ne_mo_lc
  have ne_mo_wc : nq mo wc := pw_ne hap 0 13 (by decide) (Nat.le_of_ble_eq_true rfl)
  have ne_wc_mo : nq wc mo := Ne.symm ne_mo_wc
  have ne_mo_ol : nq mo ol := pw_ne hap 0 14 (by decide) (Nat.le_of_ble_eq_true rfl)
  have ne_ol_mo : nq ol mo := Ne.symm ne_mo_ol
  have ne_mo_al : nq mo al := pw_ne hap 0 15 (by decide) (Nat.le_of_ble_eq_true rfl)
  have ne_al_mo : nq al mo := Ne.symm ne_mo_al
  have ne_cn_ia : nq cn ia := pw_ne hap 1 2 (by decide) (Nat.le_of_ble_eq_true rfl)
  have ne_ia_cn : nq ia cn := Ne.symm ne_cn_ia
  have ne_cn_dr : nq cn dr := pw_ne hap 1 3 (by decide) (Nat.le_of_ble_eq_true rfl)
  have ne_dr_cn : nq dr cn := Ne.symm ne_cn_dr
  have ne_cn_en : nq cn en := pw_ne hap 1 4 (by decide) (Nat.le_of_ble_eq_true rfl)
  have ne_en_cn : nq en cn := Ne.symm ne_cn_en
  have ne_cn_la : nq cn la := pw_ne hap 1 5 (by decide) (Nat.le_of_ble_eq_true rfl)
  have ne_la_cn : nq la cn := Ne.symm ne_cn_la
  have ne_cn_wo : nq cn wo := pw_ne hap 1 6 (by decide) (Nat.le_of_ble_eq_true rfl)
  have ne_wo_cn : nq wo cn := Ne.symm ne_cn_wo
  have ne_cn_op : nq cn op := pw_ne hap 1 7 (by decide) (Nat.le_of_ble_eq_true rfl)
  have ne_op_cn : nq op cn := Ne.symm ne_cn_op
  have ne_cn_mk : nq cn mk := pw_ne hap 1 8 (by decide) (Nat.le_of_ble_eq_true rfl)
  have ne_mk_cn : nq mk cn := Ne.symm ne_cn_mk
  have ne_cn_ir : nq cn ir := pw_ne hap 1 9 (by decide) (Nat.le_of_ble_eq_true rfl)
  have ne_ir_cn : nq ir cn := Ne.symm ne_cn_ir
  have ne_cn_se : nq cn se := pw_ne hap 1 10 (by decide) (Nat.le_of_ble_eq_true rfl)
  have ne_se_cn : nq se cn := Ne.symm ne_cn_se
  have ne_cn_ec : nq cn ec := pw_ne hap 1 11 (by decide) (Nat.le_of_ble_eq_true rfl)
  have ne_ec_cn : nq ec cn := Ne.symm ne_cn_ec
  have ne_cn_lc : nq cn lc := pw_ne hap 1 12 (by decide) (Nat.le_of_ble_eq_true rfl)
  have ne_lc_cn : nq lc cn := Ne.symm ne_cn_lc
  have ne_cn_wc : nq cn wc := pw_ne hap 1 13 (by decide) (Nat.le_of_ble_eq_true rfl)
  have ne_wc_cn : nq wc cn := Ne.symm ne_cn_wc
  have ne_cn_ol : nq cn ol := pw_ne hap 1 14 (by decide) (Nat.le_of_ble_eq_true rfl)
  have ne_ol_cn : nq ol cn := Ne.symm ne_cn_ol
  have ne_cn_al : nq cn al := pw_ne hap 1 15 (by decide) (Nat.le_of_ble_eq_true rfl)
  have ne_al_cn : nq al cn := Ne.symm ne_cn_al
  have ne_ia_dr : nq ia dr := pw_ne hap 2 3 (by decide) (Nat.le_of_ble_eq_true rfl)
  have ne_dr_ia : nq dr ia := Ne.symm ne_ia_dr
  have ne_ia_en : nq ia en := pw_ne hap 2 4 (by decide) (Nat.le_of_ble_eq_true rfl)
  have ne_en_ia : nq en ia := Ne.symm ne_ia_en
  have ne_ia_la : nq ia la := pw_ne hap 2 5 (by decide) (Nat.le_of_ble_eq_true rfl)
  have ne_la_ia : nq la ia := Ne.symm ne_ia_la
  have ne_ia_wo : nq ia wo := pw_ne hap 2 6 (by decide) (Nat.le_of_ble_eq_true rfl)
  have ne_wo_ia : nq wo ia := Ne.symm ne_ia_wo
  have ne_ia_op : nq ia op := pw_ne hap 2 7 (by decide) (Nat.le_of_ble_eq_true rfl)
  have ne_op_ia : nq op ia := Ne.symm ne_ia_op
  have ne_ia_mk : nq ia mk := pw_ne hap 2 8 (by decide) (Nat.le_of_ble_eq_true rfl)
  have ne_mk_ia : nq mk ia := Ne.symm ne_ia_mk
  have ne_ia_ir : nq ia ir := pw_ne hap 2 9 (by decide) (Nat.le_of_ble_eq_true rfl)
  have ne_ir_ia : nq ir ia := Ne.symm ne_ia_ir
  have ne_ia_se : nq ia se := pw_ne hap 2 10 (by decide) (Nat.le_of_ble_eq_true rfl)
  have ne_se_ia : nq se ia := Ne.symm ne_ia_se
  have ne_ia_ec : nq ia ec := pw_ne hap 2 11 (by decide) (Nat.le_of_ble_eq_true rfl)
  have ne_ec_ia : nq ec ia := Ne.symm ne_ia_ec
  have ne_ia_lc : nq ia lc := pw_ne hap 2 12 (by decide) (Nat.le_of_ble_eq_true rfl)
  have ne_lc_ia : nq lc ia := Ne.symm ne_ia_lc
  have ne_ia_wc : nq ia wc := pw_ne hap 2 13 (by decide) (Nat.le_of_ble_eq_true rfl)
  have ne_wc_ia : nq wc ia := Ne.symm ne_ia_wc
  have ne_ia_ol : nq ia ol := pw_ne hap 2 14 (by decide) (Nat.le_of_ble_eq_true rfl)
  have ne_ol_ia : nq ol ia := Ne.symm ne_ia_ol
  have ne_ia_al : nq ia al := pw_ne hap 2 15 (by decide) (Nat.le_of_ble_eq_true rfl)
  have ne_al_ia : nq al ia := Ne.symm ne_ia_al
  have ne_dr_en : nq dr en := pw_ne hap 3 4 (by decide) (Nat.le_of_ble_eq_true rfl)
  have ne_en_dr : nq en dr := Ne.symm ne_dr_en
  have ne_dr_la : nq dr la := pw_ne hap 3 5 (by decide) (Nat.le_of_ble_eq_true rfl)
  have ne_la_dr : nq la dr := Ne.symm ne_dr_la
  have ne_dr_wo : nq dr wo := pw_ne hap 3 6 (by decide) (Nat.le_of_ble_eq_true rfl)
  have ne_wo_dr : nq wo dr := Ne.symm ne_dr_wo
  have ne_dr_op : nq dr op := pw_ne hap 3 7 (by decide) (Nat.le_of_ble_eq_true rfl)
  have ne_op_dr : nq op dr := Ne.symm ne_dr_op
  have ne_dr_mk : nq dr mk := pw_ne hap 3 8 (by decide) (Nat.le_of_ble_eq_true rfl)
  have ne_mk_dr : nq mk dr := Ne.symm ne_dr_mk
  have ne_dr_ir : nq dr ir := pw_ne hap 3 9 (by decide) (Nat.le_of_ble_eq_true rfl)
  have ne_ir_dr : nq ir dr := Ne.symm ne_dr_ir
  have ne_dr_se : nq dr se := pw_ne hap 3 10 (by decide) (Nat.le_of_ble_eq_true rfl)
  have ne_se_dr : nq se dr := Ne.symm ne_dr_se
  have ne_dr_ec : nq dr ec := pw_ne hap 3 11 (by decide) (Nat.le_of_ble_eq_true rfl)
  have ne_ec_dr : nq ec dr := Ne.symm ne_dr_ec
  have ne_dr_lc : nq dr lc := pw_ne hap 3 12 (by decide) (Nat.le_of_ble_eq_true rfl)
  have ne_lc_dr : nq lc dr := Ne.symm ne_dr_lc
  have ne_dr_wc : nq dr wc := pw_ne hap 3 13 (by decide) (Nat.le_of_ble_eq_true rfl)
  have ne_wc_dr : nq wc dr := Ne.symm ne_dr_wc
  have ne_dr_ol : nq dr ol := pw_ne hap 3 14 (by decide) (Nat.le_of_ble_eq_true rfl)
  have ne_ol_dr : nq ol dr := Ne.symm ne_dr_ol
  have ne_dr_al : nq dr al := pw_ne hap 3 15 (by decide) (Nat.le_of_ble_eq_true rfl)
  have ne_al_dr : nq al dr := Ne.symm ne_dr_al
  have ne_en_la : nq en la := pw_ne hap 4 5 (by decide) (Nat.le_of_ble_eq_true rfl)
  have ne_la_en : nq la en := Ne.symm ne_en_la
  have ne_en_wo : nq en wo := pw_ne hap 4 6 (by decide) (Nat.le_of_ble_eq_true rfl)
  have ne_wo_en : nq wo en := Ne.symm ne_en_wo
  have ne_en_op : nq en op := pw_ne hap 4 7 (by decide) (Nat.le_of_ble_eq_true rfl)
  have ne_op_en : nq op en := Ne.symm ne_en_op
  have ne_en_mk : nq en mk := pw_ne hap 4 8 (by decide) (Nat.le_of_ble_eq_true rfl)
  have ne_mk_en : nq mk en := Ne.symm ne_en_mk
  have ne_en_ir : nq en ir := pw_ne hap 4 9 (by decide) (Nat.le_of_ble_eq_true rfl)
  have ne_ir_en : nq ir en := Ne.symm ne_en_ir
  have ne_en_se : nq en se := pw_ne hap 4 10 (by decide) (Nat.le_of_ble_eq_true rfl)
  have ne_se_en : nq se en := Ne.symm ne_en_se
  have ne_en_ec : nq en ec := pw_ne hap 4 11 (by decide) (Nat.le_of_ble_eq_true rfl)
  have ne_ec_en : nq ec en := Ne.symm ne_en_ec
  have ne_en_lc : nq en lc := pw_ne hap 4 12 (by decide) (Nat.le_of_ble_eq_true rfl)
  have ne_lc_en : nq lc en := Ne.symm ne_en_lc
  have ne_en_wc : nq en wc := pw_ne hap 4 13 (by decide) (Nat.le_of_ble_eq_true rfl)
  have ne_wc_en : nq wc en := Ne.symm ne_en_wc
  have ne_en_ol : nq en ol := pw_ne hap 4 14 (by decide) (Nat.le_of_ble_eq_true rfl)
  have ne_ol_en : nq ol en := Ne.symm ne_en_ol
  have ne_en_al : nq en al := pw_ne hap 4 15 (by decide) (Nat.le_of_ble_eq_true rfl)
  have ne_al_en : nq al en := Ne.symm ne_en_al
  have ne_la_wo : nq la wo := pw_ne hap 5 6 (by decide) (Nat.le_of_ble_eq_true rfl)
  have ne_wo_la : nq wo la := Ne.symm ne_la_wo
  have ne_la_op : nq la op := pw_ne hap 5 7 (by decide) (Nat.le_of_ble_eq_true rfl)
  have ne_op_la : nq op la := Ne.symm ne_la_op
  have ne_la_mk : nq la mk := pw_ne hap 5 8 (by decide) (Nat.le_of_ble_eq_true rfl)
  have ne_mk_la : nq mk la := Ne.symm ne_la_mk
  have ne_la_ir : nq la ir := pw_ne hap 5 9 (by decide) (Nat.le_of_ble_eq_true rfl)
  have ne_ir_la : nq ir la := Ne.symm ne_la_ir
  have ne_la_se : nq la se := pw_ne hap 5 10 (by decide) (Nat.le_of_ble_eq_true rfl)
  have ne_se_la : nq se la := Ne.symm ne_la_se
  have ne_la_ec : nq la ec := pw_ne hap 5 11 (by decide) (Nat.le_of_ble_eq_true rfl)
  have ne_ec_la : nq ec la := Ne.symm ne_la_ec
  have ne_la_lc : nq la lc := pw_ne hap 5 12 (by decide) (Nat.le_of_ble_eq_true rfl)
  have ne_lc_la : nq lc la := Ne.symm ne_la_lc
  have ne_la_wc : nq la wc := pw_ne hap 5 13 (by decide) (Nat.le_of_ble_eq_true rfl)
  have ne_wc_la : nq wc la := Ne.symm ne_la_wc
  have ne_la_ol : nq la ol := pw_ne hap 5 14 (by decide) (Nat.le_of_ble_eq_true rfl)
  have ne_ol_la : nq ol la := Ne.symm ne_la_ol
  have ne_la_al : nq la al := pw_ne hap 5 15 (by decide) (Nat.le_of_ble_eq_true rfl)
  have ne_al_la : nq al la := Ne.symm ne_la_al
  have ne_wo_op : nq wo op := pw_ne hap 6 7 (by decide) (Nat.le_of_ble_eq_true rfl)
  have ne_op_wo : nq op wo := Ne.symm ne_wo_op
  have ne_wo_mk : nq wo mk := pw_ne hap 6 8 (by decide) (Nat.le_of_ble_eq_true rfl)
  have ne_mk_wo : nq mk wo := Ne.symm ne_wo_mk
  have ne_wo_ir : nq wo ir := pw_ne hap 6 9 (by decide) (Nat.le_of_ble_eq_true rfl)
  have ne_ir_wo : nq ir wo := Ne.symm ne_wo_ir
  have ne_wo_se : nq wo se := pw_ne hap 6 10 (by decide) (Nat.le_of_ble_eq_true rfl)
  have ne_se_wo : nq se wo := Ne.symm ne_wo_se
  have ne_wo_ec : nq wo ec := pw_ne hap 6 11 (by decide) (Nat.le_of_ble_eq_true rfl)
  have ne_ec_wo : nq ec wo := Ne.symm ne_wo_ec
  have ne_wo_lc : nq wo lc := pw_ne hap 6 12 (by decide) (Nat.le_of_ble_eq_true rfl)
  have ne_lc_wo : nq lc wo := Ne.symm ne_wo_lc
  have ne_wo_wc : nq wo wc := pw_ne hap 6 13 (by decide) (Nat.le_of_ble_eq_true rfl)
  have ne_wc_wo : nq wc wo := Ne.symm ne_wo_wc
  have ne_wo_ol : nq wo ol := pw_ne hap 6 14 (by decide) (Nat.le_of_ble_eq_true rfl)
  have ne_ol_wo : nq ol wo := Ne.symm ne_wo_ol
  have ne_wo_al : nq wo al := pw_ne hap 6 15 (by decide) (Nat.le_of_ble_eq_true rfl)
  have ne_al_wo : nq al wo := Ne.symm ne_wo_al
  have ne_op_mk : nq op mk := pw_ne hap 7 8 (by decide) (Nat.le_of_ble_eq_true rfl)
  have ne_mk_op : nq mk op := Ne.symm ne_op_mk
  have ne_op_ir : nq op ir := pw_ne hap 7 9 (by decide) (Nat.le_of_ble_eq_true rfl)
  have ne_ir_op : nq ir op := Ne.symm ne_op_ir
  have ne_op_se : nq op se := pw_ne hap 7 10 (by decide) (Nat.le_of_ble_eq_true rfl)
  have ne_se_op : nq se op := Ne.symm ne_op_se
  have ne_op_ec : nq op ec := pw_ne hap 7 11 (by decide) (Nat.le_of_ble_eq_true rfl)
  have ne_ec_op : nq ec op := Ne.symm ne_op_ec
  have ne_op_lc : nq op lc := pw_ne hap 7 12 (by decide) (Nat.le_of_ble_eq_true rfl)
  have ne_lc_op : nq lc op := Ne.symm ne_op_lc
  have ne_op_wc : nq op wc := pw_ne hap 7 13 (by decide) (Nat.le_of_ble_eq_true rfl)
  have ne_wc_op : nq wc op := Ne.symm ne_op_wc
  have ne_op_ol : nq op ol := pw_ne hap 7 14 (by decide) (Nat.le_of_ble_eq_true rfl)
  have ne_ol_op : nq ol op := Ne.symm ne_op_ol
  have ne_op_al : nq op al := pw_ne hap 7 15 (by decide) (Nat.le_of_ble_eq_true rfl)
  have ne_al_op : nq al op := Ne.symm ne_op_al
  have ne_mk_ir : nq mk ir := pw_ne hap 8 9 (by decide) (Nat.le_of_ble_eq_true rfl)
  have ne_ir_mk : nq ir mk := Ne.symm ne_mk_ir
  have ne_mk_se : nq mk se := pw_ne hap 8 10 (by decide) (Nat.le_of_ble_eq_true rfl)
  have ne_se_mk : nq se mk := Ne.symm ne_mk_se
  have ne_mk_ec : nq mk ec := pw_ne hap 8 11 (by decide) (Nat.le_of_ble_eq_true rfl)
  have ne_ec_mk : nq ec mk := Ne.symm ne_mk_ec
  have ne_mk_lc : nq mk lc := pw_ne hap 8 12 (by decide) (Nat.le_of_ble_eq_true rfl)
  have ne_lc_mk : nq lc mk := Ne.symm ne_mk_lc
  have ne_mk_wc : nq mk wc := pw_ne hap 8 13 (by decide) (Nat.le_of_ble_eq_true rfl)
  have ne_wc_mk : nq wc mk := Ne.symm ne_mk_wc
  have ne_mk_ol : nq mk ol := pw_ne hap 8 14 (by decide) (Nat.le_of_ble_eq_true rfl)
  have ne_ol_mk : nq ol mk := Ne.symm ne_mk_ol
  have ne_mk_al : nq mk al := pw_ne hap 8 15 (by decide) (Nat.le_of_ble_eq_true rfl)
  have ne_al_mk : nq al mk := Ne.symm ne_mk_al
  have ne_ir_se : nq ir se := pw_ne hap 9 10 (by decide) (Nat.le_of_ble_eq_true rfl)
  have ne_se_ir : nq se ir := Ne.symm ne_ir_se
  have ne_ir_ec : nq ir ec := pw_ne hap 9 11 (by decide) (Nat.le_of_ble_eq_true rfl)
  have ne_ec_ir : nq ec ir := Ne.symm ne_ir_ec
  have ne_ir_lc : nq ir lc := pw_ne hap 9 12 (by decide) (Nat.le_of_ble_eq_true rfl)
  have ne_lc_ir : nq lc ir := Ne.symm ne_ir_lc
  have ne_ir_wc : nq ir wc := pw_ne hap 9 13 (by decide) (Nat.le_of_ble_eq_true rfl)
  have ne_wc_ir : nq wc ir := Ne.symm ne_ir_wc
  have ne_ir_ol : nq ir ol := pw_ne hap 9 14 (by decide) (Nat.le_of_ble_eq_true rfl)
  have ne_ol_ir : nq ol ir := Ne.symm ne_ir_ol
  have ne_ir_al : nq ir al := pw_ne hap 9 15 (by decide) (Nat.le_of_ble_eq_true rfl)
  have ne_al_ir : nq al ir := Ne.symm ne_ir_al
  have ne_se_ec : nq se ec := pw_ne hap 10 11 (by decide) (Nat.le_of_ble_eq_true rfl)
  have ne_ec_se : nq ec se := Ne.symm ne_se_ec
  have ne_se_lc : nq se lc := pw_ne hap 10 12 (by decide) (Nat.le_of_ble_eq_true rfl)
  have ne_lc_se : nq lc se := Ne.symm ne_se_lc
  have ne_se_wc : nq se wc := pw_ne hap 10 13 (by decide) (Nat.le_of_ble_eq_true rfl)
  have ne_wc_se : nq wc se := Ne.symm ne_se_wc
  have ne_se_ol : nq se ol := pw_ne hap 10 14 (by decide) (Nat.le_of_ble_eq_true rfl)
  have ne_ol_se : nq ol se := Ne.symm ne_se_ol
  have ne_se_al : nq se al := pw_ne hap 10 15 (by decide) (Nat.le_of_ble_eq_true rfl)
  have ne_al_se : nq al se := Ne.symm ne_se_al
  have ne_ec_lc : nq ec lc := pw_ne hap 11 12 (by decide) (Nat.le_of_ble_eq_true rfl)
  have ne_lc_ec : nq lc ec := Ne.symm ne_ec_lc
  have ne_ec_wc : nq ec wc := pw_ne hap 11 13 (by decide) (Nat.le_of_ble_eq_true rfl)
  have ne_wc_ec : nq wc ec := Ne.symm ne_ec_wc
  have ne_ec_ol : nq ec ol := pw_ne hap 11 14 (by decide) (Nat.le_of_ble_eq_true rfl)
  have ne_ol_ec : nq ol ec := Ne.symm ne_ec_ol
  have ne_ec_al : nq ec al := pw_ne hap 11 15 (by decide) (Nat.le_of_ble_eq_true rfl)
  have ne_al_ec : nq al ec := Ne.symm ne_ec_al
  have ne_lc_wc : nq lc wc := pw_ne hap 12 13 (by decide) (Nat.le_of_ble_eq_true rfl)
  have ne_wc_lc : nq wc lc := Ne.symm ne_lc_wc
  have ne_lc_ol : nq lc ol := pw_ne hap 12 14 (by decide) (Nat.le_of_ble_eq_true rfl)
  have ne_ol_lc : nq ol lc := Ne.symm ne_lc_ol
  have ne_lc_al : nq lc al := pw_ne hap 12 15 (by decide) (Nat.le_of_ble_eq_true rfl)
  have ne_al_lc : nq al lc := Ne.symm ne_lc_al
  have ne_wc_ol : nq wc ol := pw_ne hap 13 14 (by decide) (Nat.le_of_ble_eq_true rfl)
  have ne_ol_wc : nq ol wc := Ne.symm ne_wc_ol
  have ne_wc_al : nq wc al := pw_ne hap 13 15 (by decide) (Nat.le_of_ble_eq_true rfl)
  have ne_al_wc : nq al wc := Ne.symm ne_wc_al
  have ne_ol_al : nq ol al := pw_ne hap 14 15 (by decide) (Nat.le_of_ble_eq_true rfl)
  have ne_al_ol : nq al ol := Ne.symm ne_ol_al
  have hkp : kpx (fun a => a ∈ [mo, cn, ia, dr, en, la, wo, op, mk, ir, se, ec, lc, wc, ol, al]) M M := kpx.refl _ _
  refine lv_aload_n hx hb dX6_write_0 rfl (lv_at hl 0 rfl) ?_
  refine lv_iload_n hx hb dX6_write_1 rfl (lv_at hl 1 rfl) ?_
  refine lv_iload_n hx hb dX6_write_2 rfl (lv_at hl 2 rfl) ?_
  refine lv_aload_n hx hb dX6_write_3 rfl (lv_at hl 0 rfl) ?_
  refine lv_iload_n hx hb dX6_write_4 rfl (lv_at hl 1 rfl) ?_
  refine m_kV (As := [.int tq]) (rest := [.int path, .int tq, .ref mo]) (rm := { frames := 0, cells := 0, slots := 0, locals := 0 }) ⟨hx, hb, hml, hown, hts⟩ (s_X6_isOpen l D k z _ mo cn ia dr en la wo op mk ir se ec lc wc ol al dn md tq hI) (cwV 1 hts gX6_write_X6_isOpen rfl rfl rfl (by decide +kernel) ⟨Nat.le_of_ble_eq_true rfl, Nat.le_of_ble_eq_true rfl⟩) (m_recv hK hm (q := (RX6, TX6, 24)) rfl hM) hz hcx hm hS rfl hl.1 rfl (Nat.le_of_ble_eq_true rfl) dX6_write_5 ⟨Nat.le_of_ble_eq_true rfl, Nat.le_of_ble_eq_true rfl⟩ (fun v M1 H locs hv hm hS => ?_)
  obtain ⟨hv2, hM1⟩ := hv
  rw [hM1] at hm
  rcases hv2 with hv1 | ⟨hv1, hdn, t9, ht9, htE⟩
  · subst hv1
    refine W.eq (g2 := F0 m 8 ls [.int 0, .int path, .int tq, .ref mo]) rfl ?_
    refine W.widen (k := 0) (n := 0) (Nat.le_of_ble_eq_true rfl) (Nat.le_of_ble_eq_true rfl) ?_
    have hm : mm D (AZ z) M H := hm
    refine lv_iconst (v := 1) hx hb dX6_write_8 (by decide) ?_
    have hI0 : mI k M mo cn ia dr en la wo op mk ir se ec lc wc ol al dn md := ⟨_, _, _, _, _, _, _, fcn, fia, fdr, fen, fla, fwo, fop, fmk, fir, fse, fec, flc, fol, fal, fwc, hap, hM, hmd, ⟨hrC, hrL, hrM⟩, hcn, hia, hdr, hen, hla, hwo, hop, hmk, hir, hse, hec, hlc, hwc, hol, hal⟩
    refine m_kV (As := [.int tq, .int path, .int 0, .int 1]) (rest := []) (rm := { frames := 1, cells := 0, slots := 0, locals := 21 }) ⟨hx, hb, hml, hown, hts⟩ (s_X6_file0 l D k z _ mo cn ia dr en la wo op mk ir se ec lc wc ol al dn md tq path 1 hI0) (cwV 4 hts gX6_write_X6_file rfl rfl rfl (by decide +kernel) ⟨Nat.le_of_ble_eq_true rfl, Nat.le_of_ble_eq_true rfl⟩) (m_recv hK hm (q := (RX6, TX6, 24)) rfl hM) hz hcx hm hS rfl hl.1 rfl (Nat.le_of_ble_eq_true rfl) dX6_write_9 ⟨Nat.le_of_ble_eq_true rfl, Nat.le_of_ble_eq_true rfl⟩ (fun v M1 H locs hv hm hS => ?_)
    obtain ⟨hv1, hI, hk9⟩ := hv
    subst hv1
    have hkp := hkp.trans hk9
    obtain ⟨Mc1, hMx⟩ : ∃ x : mM, x = M1 := ⟨M1, rfl⟩
    subst hMx
    obtain ⟨cd, ni, pw, cm, wr, cs, hm9, fcn, fia, fdr, fen, fla, fwo, fop, fmk, fir, fse, fec, flc, fol, fal, fwc, hap, hM, hmd, ⟨hrC, hrL, hrM⟩, hcn, hia, hdr, hen, hla, hwo, hop, hmk, hir, hse, hec, hlc, hwc, hol, hal⟩ := id hI
    have ne_mo_cn : nq mo cn := pw_ne hap 0 1 (by decide) (Nat.le_of_ble_eq_true rfl)
    have ne_cn_mo : nq cn mo := Ne.symm ne_mo_cn
    have ne_mo_ia : nq mo ia := pw_ne hap 0 2 (by decide) (Nat.le_of_ble_eq_true rfl)
    have ne_ia_mo : nq ia mo := Ne.symm ne_mo_ia
    have ne_mo_dr : nq mo dr := pw_ne hap 0 3 (by decide) (Nat.le_of_ble_eq_true rfl)
    have ne_dr_mo : nq dr mo := Ne.symm ne_mo_dr
    have ne_mo_en : nq mo en := pw_ne hap 0 4 (by decide) (Nat.le_of_ble_eq_true rfl)
    have ne_en_mo : nq en mo := Ne.symm ne_mo_en
    have ne_mo_la : nq mo la := pw_ne hap 0 5 (by decide) (Nat.le_of_ble_eq_true rfl)
    have ne_la_mo : nq la mo := Ne.symm ne_mo_la
    have ne_mo_wo : nq mo wo := pw_ne hap 0 6 (by decide) (Nat.le_of_ble_eq_true rfl)
    have ne_wo_mo : nq wo mo := Ne.symm ne_mo_wo
    have ne_mo_op : nq mo op := pw_ne hap 0 7 (by decide) (Nat.le_of_ble_eq_true rfl)
    have ne_op_mo : nq op mo := Ne.symm ne_mo_op
    have ne_mo_mk : nq mo mk := pw_ne hap 0 8 (by decide) (Nat.le_of_ble_eq_true rfl)
    have ne_mk_mo : nq mk mo := Ne.symm ne_mo_mk
    have ne_mo_ir : nq mo ir := pw_ne hap 0 9 (by decide) (Nat.le_of_ble_eq_true rfl)
    have ne_ir_mo : nq ir mo := Ne.symm ne_mo_ir
    have ne_mo_se : nq mo se := pw_ne hap 0 10 (by decide) (Nat.le_of_ble_eq_true rfl)
    have ne_se_mo : nq se mo := Ne.symm ne_mo_se
    have ne_mo_ec : nq mo ec := pw_ne hap 0 11 (by decide) (Nat.le_of_ble_eq_true rfl)
    have ne_ec_mo : nq ec mo := Ne.symm ne_mo_ec
    have ne_mo_lc : nq mo lc := pw_ne hap 0 12 (by decide) (Nat.le_of_ble_eq_true rfl)
    have ne_lc_mo : nq lc mo := Ne.symm ne_mo_lc
    have ne_mo_wc : nq mo wc := pw_ne hap 0 13 (by decide) (Nat.le_of_ble_eq_true rfl)
    have ne_wc_mo : nq wc mo := Ne.symm ne_mo_wc
    have ne_mo_ol : nq mo ol := pw_ne hap 0 14 (by decide) (Nat.le_of_ble_eq_true rfl)
    have ne_ol_mo : nq ol mo := Ne.symm ne_mo_ol
    have ne_mo_al : nq mo al := pw_ne hap 0 15 (by decide) (Nat.le_of_ble_eq_true rfl)
    have ne_al_mo : nq al mo := Ne.symm ne_mo_al
    have ne_cn_ia : nq cn ia := pw_ne hap 1 2 (by decide) (Nat.le_of_ble_eq_true rfl)
    have ne_ia_cn : nq ia cn := Ne.symm ne_cn_ia
    have ne_cn_dr : nq cn dr := pw_ne hap 1 3 (by decide) (Nat.le_of_ble_eq_true rfl)
    have ne_dr_cn : nq dr cn := Ne.symm ne_cn_dr
    have ne_cn_en : nq cn en := pw_ne hap 1 4 (by decide) (Nat.le_of_ble_eq_true rfl)
    have ne_en_cn : nq en cn := Ne.symm ne_cn_en
    have ne_cn_la : nq cn la := pw_ne hap 1 5 (by decide) (Nat.le_of_ble_eq_true rfl)
    have ne_la_cn : nq la cn := Ne.symm ne_cn_la
    have ne_cn_wo : nq cn wo := pw_ne hap 1 6 (by decide) (Nat.le_of_ble_eq_true rfl)
    have ne_wo_cn : nq wo cn := Ne.symm ne_cn_wo
    have ne_cn_op : nq cn op := pw_ne hap 1 7 (by decide) (Nat.le_of_ble_eq_true rfl)
    have ne_op_cn : nq op cn := Ne.symm ne_cn_op
    have ne_cn_mk : nq cn mk := pw_ne hap 1 8 (by decide) (Nat.le_of_ble_eq_true rfl)
    have ne_mk_cn : nq mk cn := Ne.symm ne_cn_mk
    have ne_cn_ir : nq cn ir := pw_ne hap 1 9 (by decide) (Nat.le_of_ble_eq_true rfl)
    have ne_ir_cn : nq ir cn := Ne.symm ne_cn_ir
    have ne_cn_se : nq cn se := pw_ne hap 1 10 (by decide) (Nat.le_of_ble_eq_true rfl)
    have ne_se_cn : nq se cn := Ne.symm ne_cn_se
    have ne_cn_ec : nq cn ec := pw_ne hap 1 11 (by decide) (Nat.le_of_ble_eq_true rfl)
    have ne_ec_cn : nq ec cn := Ne.symm ne_cn_ec
    have ne_cn_lc : nq cn lc := pw_ne hap 1 12 (by decide) (Nat.le_of_ble_eq_true rfl)
    have ne_lc_cn : nq lc cn := Ne.symm ne_cn_lc
    have ne_cn_wc : nq cn wc := pw_ne hap 1 13 (by decide) (Nat.le_of_ble_eq_true rfl)
    have ne_wc_cn : nq wc cn := Ne.symm ne_cn_wc
    have ne_cn_ol : nq cn ol := pw_ne hap 1 14 (by decide) (Nat.le_of_ble_eq_true rfl)
    have ne_ol_cn : nq ol cn := Ne.symm ne_cn_ol
    have ne_cn_al : nq cn al := pw_ne hap 1 15 (by decide) (Nat.le_of_ble_eq_true rfl)
    have ne_al_cn : nq al cn := Ne.symm ne_cn_al
    have ne_ia_dr : nq ia dr := pw_ne hap 2 3 (by decide) (Nat.le_of_ble_eq_true rfl)
    have ne_dr_ia : nq dr ia := Ne.symm ne_ia_dr
    have ne_ia_en : nq ia en := pw_ne hap 2 4 (by decide) (Nat.le_of_ble_eq_true rfl)
    have ne_en_ia : nq en ia := Ne.symm ne_ia_en
    have ne_ia_la : nq ia la := pw_ne hap 2 5 (by decide) (Nat.le_of_ble_eq_true rfl)
    have ne_la_ia : nq la ia := Ne.symm ne_ia_la
    have ne_ia_wo : nq ia wo := pw_ne hap 2 6 (by decide) (Nat.le_of_ble_eq_true rfl)
    have ne_wo_ia : nq wo ia := Ne.symm ne_ia_wo
    have ne_ia_op : nq ia op := pw_ne hap 2 7 (by decide) (Nat.le_of_ble_eq_true rfl)
    have ne_op_ia : nq op ia := Ne.symm ne_ia_op
    have ne_ia_mk : nq ia mk := pw_ne hap 2 8 (by decide) (Nat.le_of_ble_eq_true rfl)
    have ne_mk_ia : nq mk ia := Ne.symm ne_ia_mk
    have ne_ia_ir : nq ia ir := pw_ne hap 2 9 (by decide) (Nat.le_of_ble_eq_true rfl)
    have ne_ir_ia : nq ir ia := Ne.symm ne_ia_ir
    have ne_ia_se : nq ia se := pw_ne hap 2 10 (by decide) (Nat.le_of_ble_eq_true rfl)
    have ne_se_ia : nq se ia := Ne.symm ne_ia_se
    have ne_ia_ec : nq ia ec := pw_ne hap 2 11 (by decide) (Nat.le_of_ble_eq_true rfl)
    have ne_ec_ia : nq ec ia := Ne.symm ne_ia_ec
    have ne_ia_lc : nq ia lc := pw_ne hap 2 12 (by decide) (Nat.le_of_ble_eq_true rfl)
    have ne_lc_ia : nq lc ia := Ne.symm ne_ia_lc
    have ne_ia_wc : nq ia wc := pw_ne hap 2 13 (by decide) (Nat.le_of_ble_eq_true rfl)
    have ne_wc_ia : nq wc ia := Ne.symm ne_ia_wc
    have ne_ia_ol : nq ia ol := pw_ne hap 2 14 (by decide) (Nat.le_of_ble_eq_true rfl)
    have ne_ol_ia : nq ol ia := Ne.symm ne_ia_ol
    have ne_ia_al : nq ia al := pw_ne hap 2 15 (by decide) (Nat.le_of_ble_eq_true rfl)
    have ne_al_ia : nq al ia := Ne.symm ne_ia_al
    have ne_dr_en : nq dr en := pw_ne hap 3 4 (by decide) (Nat.le_of_ble_eq_true rfl)
    have ne_en_dr : nq en dr := Ne.symm ne_dr_en
    have ne_dr_la : nq dr la := pw_ne hap 3 5 (by decide) (Nat.le_of_ble_eq_true rfl)
    have ne_la_dr : nq la dr := Ne.symm ne_dr_la
    have ne_dr_wo : nq dr wo := pw_ne hap 3 6 (by decide) (Nat.le_of_ble_eq_true rfl)
    have ne_wo_dr : nq wo dr := Ne.symm ne_dr_wo
    have ne_dr_op : nq dr op := pw_ne hap 3 7 (by decide) (Nat.le_of_ble_eq_true rfl)
    have ne_op_dr : nq op dr := Ne.symm ne_dr_op
    have ne_dr_mk : nq dr mk := pw_ne hap 3 8 (by decide) (Nat.le_of_ble_eq_true rfl)
    have ne_mk_dr : nq mk dr := Ne.symm ne_dr_mk
    have ne_dr_ir : nq dr ir := pw_ne hap 3 9 (by decide) (Nat.le_of_ble_eq_true rfl)
    have ne_ir_dr : nq ir dr := Ne.symm ne_dr_ir
    have ne_dr_se : nq dr se := pw_ne hap 3 10 (by decide) (Nat.le_of_ble_eq_true rfl)
    have ne_se_dr : nq se dr := Ne.symm ne_dr_se
    have ne_dr_ec : nq dr ec := pw_ne hap 3 11 (by decide) (Nat.le_of_ble_eq_true rfl)
    have ne_ec_dr : nq ec dr := Ne.symm ne_dr_ec
    have ne_dr_lc : nq dr lc := pw_ne hap 3 12 (by decide) (Nat.le_of_ble_eq_true rfl)
    have ne_lc_dr : nq lc dr := Ne.symm ne_dr_lc
    have ne_dr_wc : nq dr wc := pw_ne hap 3 13 (by decide) (Nat.le_of_ble_eq_true rfl)
    have ne_wc_dr : nq wc dr := Ne.symm ne_dr_wc
    have ne_dr_ol : nq dr ol := pw_ne hap 3 14 (by decide) (Nat.le_of_ble_eq_true rfl)
    have ne_ol_dr : nq ol dr := Ne.symm ne_dr_ol
    have ne_dr_al : nq dr al := pw_ne hap 3 15 (by decide) (Nat.le_of_ble_eq_true rfl)
    have ne_al_dr : nq al dr := Ne.symm ne_dr_al
    have ne_en_la : nq en la := pw_ne hap 4 5 (by decide) (Nat.le_of_ble_eq_true rfl)
    have ne_la_en : nq la en := Ne.symm ne_en_la
    have ne_en_wo : nq en wo := pw_ne hap 4 6 (by decide) (Nat.le_of_ble_eq_true rfl)
    have ne_wo_en : nq wo en := Ne.symm ne_en_wo
    have ne_en_op : nq en op := pw_ne hap 4 7 (by decide) (Nat.le_of_ble_eq_true rfl)
    have ne_op_en : nq op en := Ne.symm ne_en_op
    have ne_en_mk : nq en mk := pw_ne hap 4 8 (by decide) (Nat.le_of_ble_eq_true rfl)
    have ne_mk_en : nq mk en := Ne.symm ne_en_mk
    have ne_en_ir : nq en ir := pw_ne hap 4 9 (by decide) (Nat.le_of_ble_eq_true rfl)
    have ne_ir_en : nq ir en := Ne.symm ne_en_ir
    have ne_en_se : nq en se := pw_ne hap 4 10 (by decide) (Nat.le_of_ble_eq_true rfl)
    have ne_se_en : nq se en := Ne.symm ne_en_se
    have ne_en_ec : nq en ec := pw_ne hap 4 11 (by decide) (Nat.le_of_ble_eq_true rfl)
    have ne_ec_en : nq ec en := Ne.symm ne_en_ec
    have ne_en_lc : nq en lc := pw_ne hap 4 12 (by decide) (Nat.le_of_ble_eq_true rfl)
    have ne_lc_en : nq lc en := Ne.symm ne_en_lc
    have ne_en_wc : nq en wc := pw_ne hap 4 13 (by decide) (Nat.le_of_ble_eq_true rfl)
    have ne_wc_en : nq wc en := Ne.symm ne_en_wc
    have ne_en_ol : nq en ol := pw_ne hap 4 14 (by decide) (Nat.le_of_ble_eq_true rfl)
    have ne_ol_en : nq ol en := Ne.symm ne_en_ol
    have ne_en_al : nq en al := pw_ne hap 4 15 (by decide) (Nat.le_of_ble_eq_true rfl)
    have ne_al_en : nq al en := Ne.symm ne_en_al
    have ne_la_wo : nq la wo := pw_ne hap 5 6 (by decide) (Nat.le_of_ble_eq_true rfl)
    have ne_wo_la : nq wo la := Ne.symm ne_la_wo
    have ne_la_op : nq la op := pw_ne hap 5 7 (by decide) (Nat.le_of_ble_eq_true rfl)
    have ne_op_la : nq op la := Ne.symm ne_la_op
    have ne_la_mk : nq la mk := pw_ne hap 5 8 (by decide) (Nat.le_of_ble_eq_true rfl)
    have ne_mk_la : nq mk la := Ne.symm ne_la_mk
    have ne_la_ir : nq la ir := pw_ne hap 5 9 (by decide) (Nat.le_of_ble_eq_true rfl)
    have ne_ir_la : nq ir la := Ne.symm ne_la_ir
    have ne_la_se : nq la se := pw_ne hap 5 10 (by decide) (Nat.le_of_ble_eq_true rfl)
    have ne_se_la : nq se la := Ne.symm ne_la_se
    have ne_la_ec : nq la ec := pw_ne hap 5 11 (by decide) (Nat.le_of_ble_eq_true rfl)
    have ne_ec_la : nq ec la := Ne.symm ne_la_ec
    have ne_la_lc : nq la lc := pw_ne hap 5 12 (by decide) (Nat.le_of_ble_eq_true rfl)
    have ne_lc_la : nq lc la := Ne.symm ne_la_lc
    have ne_la_wc : nq la wc := pw_ne hap 5 13 (by decide) (Nat.le_of_ble_eq_true rfl)
    have ne_wc_la : nq wc la := Ne.symm ne_la_wc
    have ne_la_ol : nq la ol := pw_ne hap 5 14 (by decide) (Nat.le_of_ble_eq_true rfl)
    have ne_ol_la : nq ol la := Ne.symm ne_la_ol
    have ne_la_al : nq la al := pw_ne hap 5 15 (by decide) (Nat.le_of_ble_eq_true rfl)
    have ne_al_la : nq al la := Ne.symm ne_la_al
    have ne_wo_op : nq wo op := pw_ne hap 6 7 (by decide) (Nat.le_of_ble_eq_true rfl)
    have ne_op_wo : nq op wo := Ne.symm ne_wo_op
    have ne_wo_mk : nq wo mk := pw_ne hap 6 8 (by decide) (Nat.le_of_ble_eq_true rfl)
    have ne_mk_wo : nq mk wo := Ne.symm ne_wo_mk
    have ne_wo_ir : nq wo ir := pw_ne hap 6 9 (by decide) (Nat.le_of_ble_eq_true rfl)
    have ne_ir_wo : nq ir wo := Ne.symm ne_wo_ir
    have ne_wo_se : nq wo se := pw_ne hap 6 10 (by decide) (Nat.le_of_ble_eq_true rfl)
    have ne_se_wo : nq se wo := Ne.symm ne_wo_se
    have ne_wo_ec : nq wo ec := pw_ne hap 6 11 (by decide) (Nat.le_of_ble_eq_true rfl)
    have ne_ec_wo : nq ec wo := Ne.symm ne_wo_ec
    have ne_wo_lc : nq wo lc := pw_ne hap 6 12 (by decide) (Nat.le_of_ble_eq_true rfl)
    have ne_lc_wo : nq lc wo := Ne.symm ne_wo_lc
    have ne_wo_wc : nq wo wc := pw_ne hap 6 13 (by decide) (Nat.le_of_ble_eq_true rfl)
    have ne_wc_wo : nq wc wo := Ne.symm ne_wo_wc
    have ne_wo_ol : nq wo ol := pw_ne hap 6 14 (by decide) (Nat.le_of_ble_eq_true rfl)
    have ne_ol_wo : nq ol wo := Ne.symm ne_wo_ol
    have ne_wo_al : nq wo al := pw_ne hap 6 15 (by decide) (Nat.le_of_ble_eq_true rfl)
    have ne_al_wo : nq al wo := Ne.symm ne_wo_al
    have ne_op_mk : nq op mk := pw_ne hap 7 8 (by decide) (Nat.le_of_ble_eq_true rfl)
    have ne_mk_op : nq mk op := Ne.symm ne_op_mk
    have ne_op_ir : nq op ir := pw_ne hap 7 9 (by decide) (Nat.le_of_ble_eq_true rfl)
    have ne_ir_op : nq ir op := Ne.symm ne_op_ir
    have ne_op_se : nq op se := pw_ne hap 7 10 (by decide) (Nat.le_of_ble_eq_true rfl)
    have ne_se_op : nq se op := Ne.symm ne_op_se
    have ne_op_ec : nq op ec := pw_ne hap 7 11 (by decide) (Nat.le_of_ble_eq_true rfl)
    have ne_ec_op : nq ec op := Ne.symm ne_op_ec
    have ne_op_lc : nq op lc := pw_ne hap 7 12 (by decide) (Nat.le_of_ble_eq_true rfl)
    have ne_lc_op : nq lc op := Ne.symm ne_op_lc
    have ne_op_wc : nq op wc := pw_ne hap 7 13 (by decide) (Nat.le_of_ble_eq_true rfl)
    have ne_wc_op : nq wc op := Ne.symm ne_op_wc
    have ne_op_ol : nq op ol := pw_ne hap 7 14 (by decide) (Nat.le_of_ble_eq_true rfl)
    have ne_ol_op : nq ol op := Ne.symm ne_op_ol
    have ne_op_al : nq op al := pw_ne hap 7 15 (by decide) (Nat.le_of_ble_eq_true rfl)
    have ne_al_op : nq al op := Ne.symm ne_op_al
    have ne_mk_ir : nq mk ir := pw_ne hap 8 9 (by decide) (Nat.le_of_ble_eq_true rfl)
    have ne_ir_mk : nq ir mk := Ne.symm ne_mk_ir
    have ne_mk_se : nq mk se := pw_ne hap 8 10 (by decide) (Nat.le_of_ble_eq_true rfl)
    have ne_se_mk : nq se mk := Ne.symm ne_mk_se
    have ne_mk_ec : nq mk ec := pw_ne hap 8 11 (by decide) (Nat.le_of_ble_eq_true rfl)
    have ne_ec_mk : nq ec mk := Ne.symm ne_mk_ec
    have ne_mk_lc : nq mk lc := pw_ne hap 8 12 (by decide) (Nat.le_of_ble_eq_true rfl)
    have ne_lc_mk : nq lc mk := Ne.symm ne_mk_lc
    have ne_mk_wc : nq mk wc := pw_ne hap 8 13 (by decide) (Nat.le_of_ble_eq_true rfl)
    have ne_wc_mk : nq wc mk := Ne.symm ne_mk_wc
    have ne_mk_ol : nq mk ol := pw_ne hap 8 14 (by decide) (Nat.le_of_ble_eq_true rfl)
    have ne_ol_mk : nq ol mk := Ne.symm ne_mk_ol
    have ne_mk_al : nq mk al := pw_ne hap 8 15 (by decide) (Nat.le_of_ble_eq_true rfl)
    have ne_al_mk : nq al mk := Ne.symm ne_mk_al
    have ne_ir_se : nq ir se := pw_ne hap 9 10 (by decide) (Nat.le_of_ble_eq_true rfl)
    have ne_se_ir : nq se ir := Ne.symm ne_ir_se
    have ne_ir_ec : nq ir ec := pw_ne hap 9 11 (by decide) (Nat.le_of_ble_eq_true rfl)
    have ne_ec_ir : nq ec ir := Ne.symm ne_ir_ec
    have ne_ir_lc : nq ir lc := pw_ne hap 9 12 (by decide) (Nat.le_of_ble_eq_true rfl)
    have ne_lc_ir : nq lc ir := Ne.symm ne_ir_lc
    have ne_ir_wc : nq ir wc := pw_ne hap 9 13 (by decide) (Nat.le_of_ble_eq_true rfl)
    have ne_wc_ir : nq wc ir := Ne.symm ne_ir_wc
    have ne_ir_ol : nq ir ol := pw_ne hap 9 14 (by decide) (Nat.le_of_ble_eq_true rfl)
    have ne_ol_ir : nq ol ir := Ne.symm ne_ir_ol
    have ne_ir_al : nq ir al := pw_ne hap 9 15 (by decide) (Nat.le_of_ble_eq_true rfl)
    have ne_al_ir : nq al ir := Ne.symm ne_ir_al
    have ne_se_ec : nq se ec := pw_ne hap 10 11 (by decide) (Nat.le_of_ble_eq_true rfl)
    have ne_ec_se : nq ec se := Ne.symm ne_se_ec
    have ne_se_lc : nq se lc := pw_ne hap 10 12 (by decide) (Nat.le_of_ble_eq_true rfl)
    have ne_lc_se : nq lc se := Ne.symm ne_se_lc
    have ne_se_wc : nq se wc := pw_ne hap 10 13 (by decide) (Nat.le_of_ble_eq_true rfl)
    have ne_wc_se : nq wc se := Ne.symm ne_se_wc
    have ne_se_ol : nq se ol := pw_ne hap 10 14 (by decide) (Nat.le_of_ble_eq_true rfl)
    have ne_ol_se : nq ol se := Ne.symm ne_se_ol
    have ne_se_al : nq se al := pw_ne hap 10 15 (by decide) (Nat.le_of_ble_eq_true rfl)
    have ne_al_se : nq al se := Ne.symm ne_se_al
    have ne_ec_lc : nq ec lc := pw_ne hap 11 12 (by decide) (Nat.le_of_ble_eq_true rfl)
    have ne_lc_ec : nq lc ec := Ne.symm ne_ec_lc
    have ne_ec_wc : nq ec wc := pw_ne hap 11 13 (by decide) (Nat.le_of_ble_eq_true rfl)
    have ne_wc_ec : nq wc ec := Ne.symm ne_ec_wc
    have ne_ec_ol : nq ec ol := pw_ne hap 11 14 (by decide) (Nat.le_of_ble_eq_true rfl)
    have ne_ol_ec : nq ol ec := Ne.symm ne_ec_ol
    have ne_ec_al : nq ec al := pw_ne hap 11 15 (by decide) (Nat.le_of_ble_eq_true rfl)
    have ne_al_ec : nq al ec := Ne.symm ne_ec_al
    have ne_lc_wc : nq lc wc := pw_ne hap 12 13 (by decide) (Nat.le_of_ble_eq_true rfl)
    have ne_wc_lc : nq wc lc := Ne.symm ne_lc_wc
    have ne_lc_ol : nq lc ol := pw_ne hap 12 14 (by decide) (Nat.le_of_ble_eq_true rfl)
    have ne_ol_lc : nq ol lc := Ne.symm ne_lc_ol
    have ne_lc_al : nq lc al := pw_ne hap 12 15 (by decide) (Nat.le_of_ble_eq_true rfl)
    have ne_al_lc : nq al lc := Ne.symm ne_lc_al
    have ne_wc_ol : nq wc ol := pw_ne hap 13 14 (by decide) (Nat.le_of_ble_eq_true rfl)
    have ne_ol_wc : nq ol wc := Ne.symm ne_wc_ol
    have ne_wc_al : nq wc al := pw_ne hap 13 15 (by decide) (Nat.le_of_ble_eq_true rfl)
    have ne_al_wc : nq al wc := Ne.symm ne_wc_al
    have ne_ol_al : nq ol al := pw_ne hap 14 15 (by decide) (Nat.le_of_ble_eq_true rfl)
    have ne_al_ol : nq al ol := Ne.symm ne_ol_al
    refine W.eq (g2 := F0 m 12 ls [.int (-1)]) rfl ?_
    refine W.widen (k := 0) (n := 0) (Nat.le_of_ble_eq_true rfl) (Nat.le_of_ble_eq_true rfl) ?_
    have hm : mm D (AZ z) Mc1 H := hm
    refine lv_istore (lv' := [(5, .int (-1)), (0, .ref mo), (1, .int tq), (2, .int path), (3, .int i9), (4, .int w9)]) hx hb dX6_write_12 hl (by decide) rfl (fun ls hl => ?_)
    refine lv_iload hx hb dX6_write_14 (lv_at hl 0 rfl) ?_
    refine lv_if_lt (tgt := 46) hx hb dX6_write_16 (by decide) (fun c1 => ?_) (fun c1 => ?_)
    · refine lv_iconst (v := 0) hx hb dX6_write_46 (by decide) ?_
      refine W.iret (v := 0) hx hb hr (fun t ht hW => ⟨⟨some (.int 0), _, rfl, ?_, by rw [ht]; exact hm⟩, hS.F ht⟩) hS.2.2 dX6_write_47
      exact ⟨⟨_, rfl⟩, ⟨_, _, _, _, _, _, _, fcn, fia, fdr, fen, fla, fwo, fop, fmk, fir, fse, fec, flc, fol, fal, fwc, hap, hM, hmd, ⟨hrC, hrL, hrM⟩, hcn, hia, hdr, hen, hla, hwo, hop, hmk, hir, hse, hec, hlc, hwc, hol, hal⟩, hkp⟩
    · first | exact absurd c1 (by decide) | exact absurd (by decide) c1
  · subst hv1
    subst htE
    refine W.eq (g2 := F0 m 8 ls [.int 1, .int path, .int (nI t9), .ref mo]) rfl ?_
    refine W.widen (k := 0) (n := 0) (Nat.le_of_ble_eq_true rfl) (Nat.le_of_ble_eq_true rfl) ?_
    have hm : mm D (AZ z) M H := hm
    refine lv_iconst (v := 1) hx hb dX6_write_8 (by decide) ?_
    have hI0 : mI k M mo cn ia dr en la wo op mk ir se ec lc wc ol al dn md := ⟨_, _, _, _, _, _, _, fcn, fia, fdr, fen, fla, fwo, fop, fmk, fir, fse, fec, flc, fol, fal, fwc, hap, hM, hmd, ⟨hrC, hrL, hrM⟩, hcn, hia, hdr, hen, hla, hwo, hop, hmk, hir, hse, hec, hlc, hwc, hol, hal⟩
    refine m_kV (As := [.int (nI t9), .int path, .int 1, .int 1]) (rest := []) (rm := { frames := 4, cells := 0, slots := 0, locals := 97 }) ⟨hx, hb, hml, hown, hts⟩ (s_X6_fileT l D k z _ mo cn ia dr en la wo op mk ir se ec lc wc ol al dn md t9 (by omega) path 1 hI0) (cwV 4 hts gX6_write_X6_file rfl rfl rfl (by decide +kernel) ⟨Nat.le_of_ble_eq_true rfl, Nat.le_of_ble_eq_true rfl⟩) (m_recv hK hm (q := (RX6, TX6, 24)) rfl hM) hz hcx hm hS rfl hl.1 rfl (Nat.le_of_ble_eq_true rfl) dX6_write_9 ⟨Nat.le_of_ble_eq_true rfl, Nat.le_of_ble_eq_true rfl⟩ (fun v M1 H locs hv hm hS => ?_)
    obtain ⟨⟨f9, hv1, hf9, hft⟩, hI, hk9⟩ := hv
    subst hv1
    have hkp := hkp.trans hk9
    obtain ⟨Mc2, hMx⟩ : ∃ x : mM, x = M1 := ⟨M1, rfl⟩
    subst hMx
    obtain ⟨cd, ni, pw, cm, wr, cs, hm9, fcn, fia, fdr, fen, fla, fwo, fop, fmk, fir, fse, fec, flc, fol, fal, fwc, hap, hM, hmd, ⟨hrC, hrL, hrM⟩, hcn, hia, hdr, hen, hla, hwo, hop, hmk, hir, hse, hec, hlc, hwc, hol, hal⟩ := id hI
    have ne_mo_cn : nq mo cn := pw_ne hap 0 1 (by decide) (Nat.le_of_ble_eq_true rfl)
    have ne_cn_mo : nq cn mo := Ne.symm ne_mo_cn
    have ne_mo_ia : nq mo ia := pw_ne hap 0 2 (by decide) (Nat.le_of_ble_eq_true rfl)
    have ne_ia_mo : nq ia mo := Ne.symm ne_mo_ia
    have ne_mo_dr : nq mo dr := pw_ne hap 0 3 (by decide) (Nat.le_of_ble_eq_true rfl)
    have ne_dr_mo : nq dr mo := Ne.symm ne_mo_dr
    have ne_mo_en : nq mo en := pw_ne hap 0 4 (by decide) (Nat.le_of_ble_eq_true rfl)
    have ne_en_mo : nq en mo := Ne.symm ne_mo_en
    have ne_mo_la : nq mo la := pw_ne hap 0 5 (by decide) (Nat.le_of_ble_eq_true rfl)
    have ne_la_mo : nq la mo := Ne.symm ne_mo_la
    have ne_mo_wo : nq mo wo := pw_ne hap 0 6 (by decide) (Nat.le_of_ble_eq_true rfl)
    have ne_wo_mo : nq wo mo := Ne.symm ne_mo_wo
    have ne_mo_op : nq mo op := pw_ne hap 0 7 (by decide) (Nat.le_of_ble_eq_true rfl)
    have ne_op_mo : nq op mo := Ne.symm ne_mo_op
    have ne_mo_mk : nq mo mk := pw_ne hap 0 8 (by decide) (Nat.le_of_ble_eq_true rfl)
    have ne_mk_mo : nq mk mo := Ne.symm ne_mo_mk
    have ne_mo_ir : nq mo ir := pw_ne hap 0 9 (by decide) (Nat.le_of_ble_eq_true rfl)
    have ne_ir_mo : nq ir mo := Ne.symm ne_mo_ir
    have ne_mo_se : nq mo se := pw_ne hap 0 10 (by decide) (Nat.le_of_ble_eq_true rfl)
    have ne_se_mo : nq se mo := Ne.symm ne_mo_se
    have ne_mo_ec : nq mo ec := pw_ne hap 0 11 (by decide) (Nat.le_of_ble_eq_true rfl)
    have ne_ec_mo : nq ec mo := Ne.symm ne_mo_ec
    have ne_mo_lc : nq mo lc := pw_ne hap 0 12 (by decide) (Nat.le_of_ble_eq_true rfl)
    have ne_lc_mo : nq lc mo := Ne.symm ne_mo_lc
    have ne_mo_wc : nq mo wc := pw_ne hap 0 13 (by decide) (Nat.le_of_ble_eq_true rfl)
    have ne_wc_mo : nq wc mo := Ne.symm ne_mo_wc
    have ne_mo_ol : nq mo ol := pw_ne hap 0 14 (by decide) (Nat.le_of_ble_eq_true rfl)
    have ne_ol_mo : nq ol mo := Ne.symm ne_mo_ol
    have ne_mo_al : nq mo al := pw_ne hap 0 15 (by decide) (Nat.le_of_ble_eq_true rfl)
    have ne_al_mo : nq al mo := Ne.symm ne_mo_al
    have ne_cn_ia : nq cn ia := pw_ne hap 1 2 (by decide) (Nat.le_of_ble_eq_true rfl)
    have ne_ia_cn : nq ia cn := Ne.symm ne_cn_ia
    have ne_cn_dr : nq cn dr := pw_ne hap 1 3 (by decide) (Nat.le_of_ble_eq_true rfl)
    have ne_dr_cn : nq dr cn := Ne.symm ne_cn_dr
    have ne_cn_en : nq cn en := pw_ne hap 1 4 (by decide) (Nat.le_of_ble_eq_true rfl)
    have ne_en_cn : nq en cn := Ne.symm ne_cn_en
    have ne_cn_la : nq cn la := pw_ne hap 1 5 (by decide) (Nat.le_of_ble_eq_true rfl)
    have ne_la_cn : nq la cn := Ne.symm ne_cn_la
    have ne_cn_wo : nq cn wo := pw_ne hap 1 6 (by decide) (Nat.le_of_ble_eq_true rfl)
    have ne_wo_cn : nq wo cn := Ne.symm ne_cn_wo
    have ne_cn_op : nq cn op := pw_ne hap 1 7 (by decide) (Nat.le_of_ble_eq_true rfl)
    have ne_op_cn : nq op cn := Ne.symm ne_cn_op
    have ne_cn_mk : nq cn mk := pw_ne hap 1 8 (by decide) (Nat.le_of_ble_eq_true rfl)
    have ne_mk_cn : nq mk cn := Ne.symm ne_cn_mk
    have ne_cn_ir : nq cn ir := pw_ne hap 1 9 (by decide) (Nat.le_of_ble_eq_true rfl)
    have ne_ir_cn : nq ir cn := Ne.symm ne_cn_ir
    have ne_cn_se : nq cn se := pw_ne hap 1 10 (by decide) (Nat.le_of_ble_eq_true rfl)
    have ne_se_cn : nq se cn := Ne.symm ne_cn_se
    have ne_cn_ec : nq cn ec := pw_ne hap 1 11 (by decide) (Nat.le_of_ble_eq_true rfl)
    have ne_ec_cn : nq ec cn := Ne.symm ne_cn_ec
    have ne_cn_lc : nq cn lc := pw_ne hap 1 12 (by decide) (Nat.le_of_ble_eq_true rfl)
    have ne_lc_cn : nq lc cn := Ne.symm ne_cn_lc
    have ne_cn_wc : nq cn wc := pw_ne hap 1 13 (by decide) (Nat.le_of_ble_eq_true rfl)
    have ne_wc_cn : nq wc cn := Ne.symm ne_cn_wc
    have ne_cn_ol : nq cn ol := pw_ne hap 1 14 (by decide) (Nat.le_of_ble_eq_true rfl)
    have ne_ol_cn : nq ol cn := Ne.symm ne_cn_ol
    have ne_cn_al : nq cn al := pw_ne hap 1 15 (by decide) (Nat.le_of_ble_eq_true rfl)
    have ne_al_cn : nq al cn := Ne.symm ne_cn_al
    have ne_ia_dr : nq ia dr := pw_ne hap 2 3 (by decide) (Nat.le_of_ble_eq_true rfl)
    have ne_dr_ia : nq dr ia := Ne.symm ne_ia_dr
    have ne_ia_en : nq ia en := pw_ne hap 2 4 (by decide) (Nat.le_of_ble_eq_true rfl)
    have ne_en_ia : nq en ia := Ne.symm ne_ia_en
    have ne_ia_la : nq ia la := pw_ne hap 2 5 (by decide) (Nat.le_of_ble_eq_true rfl)
    have ne_la_ia : nq la ia := Ne.symm ne_ia_la
    have ne_ia_wo : nq ia wo := pw_ne hap 2 6 (by decide) (Nat.le_of_ble_eq_true rfl)
    have ne_wo_ia : nq wo ia := Ne.symm ne_ia_wo
    have ne_ia_op : nq ia op := pw_ne hap 2 7 (by decide) (Nat.le_of_ble_eq_true rfl)
    have ne_op_ia : nq op ia := Ne.symm ne_ia_op
    have ne_ia_mk : nq ia mk := pw_ne hap 2 8 (by decide) (Nat.le_of_ble_eq_true rfl)
    have ne_mk_ia : nq mk ia := Ne.symm ne_ia_mk
    have ne_ia_ir : nq ia ir := pw_ne hap 2 9 (by decide) (Nat.le_of_ble_eq_true rfl)
    have ne_ir_ia : nq ir ia := Ne.symm ne_ia_ir
    have ne_ia_se : nq ia se := pw_ne hap 2 10 (by decide) (Nat.le_of_ble_eq_true rfl)
    have ne_se_ia : nq se ia := Ne.symm ne_ia_se
    have ne_ia_ec : nq ia ec := pw_ne hap 2 11 (by decide) (Nat.le_of_ble_eq_true rfl)
    have ne_ec_ia : nq ec ia := Ne.symm ne_ia_ec
    have ne_ia_lc : nq ia lc := pw_ne hap 2 12 (by decide) (Nat.le_of_ble_eq_true rfl)
    have ne_lc_ia : nq lc ia := Ne.symm ne_ia_lc
    have ne_ia_wc : nq ia wc := pw_ne hap 2 13 (by decide) (Nat.le_of_ble_eq_true rfl)
    have ne_wc_ia : nq wc ia := Ne.symm ne_ia_wc
    have ne_ia_ol : nq ia ol := pw_ne hap 2 14 (by decide) (Nat.le_of_ble_eq_true rfl)
    have ne_ol_ia : nq ol ia := Ne.symm ne_ia_ol
    have ne_ia_al : nq ia al := pw_ne hap 2 15 (by decide) (Nat.le_of_ble_eq_true rfl)
    have ne_al_ia : nq al ia := Ne.symm ne_ia_al
    have ne_dr_en : nq dr en := pw_ne hap 3 4 (by decide) (Nat.le_of_ble_eq_true rfl)
    have ne_en_dr : nq en dr := Ne.symm ne_dr_en
    have ne_dr_la : nq dr la := pw_ne hap 3 5 (by decide) (Nat.le_of_ble_eq_true rfl)
    have ne_la_dr : nq la dr := Ne.symm ne_dr_la
    have ne_dr_wo : nq dr wo := pw_ne hap 3 6 (by decide) (Nat.le_of_ble_eq_true rfl)
    have ne_wo_dr : nq wo dr := Ne.symm ne_dr_wo
    have ne_dr_op : nq dr op := pw_ne hap 3 7 (by decide) (Nat.le_of_ble_eq_true rfl)
    have ne_op_dr : nq op dr := Ne.symm ne_dr_op
    have ne_dr_mk : nq dr mk := pw_ne hap 3 8 (by decide) (Nat.le_of_ble_eq_true rfl)
    have ne_mk_dr : nq mk dr := Ne.symm ne_dr_mk
    have ne_dr_ir : nq dr ir := pw_ne hap 3 9 (by decide) (Nat.le_of_ble_eq_true rfl)
    have ne_ir_dr : nq ir dr := Ne.symm ne_dr_ir
    have ne_dr_se : nq dr se := pw_ne hap 3 10 (by decide) (Nat.le_of_ble_eq_true rfl)
    have ne_se_dr : nq se dr := Ne.symm ne_dr_se
    have ne_dr_ec : nq dr ec := pw_ne hap 3 11 (by decide) (Nat.le_of_ble_eq_true rfl)
    have ne_ec_dr : nq ec dr := Ne.symm ne_dr_ec
    have ne_dr_lc : nq dr lc := pw_ne hap 3 12 (by decide) (Nat.le_of_ble_eq_true rfl)
    have ne_lc_dr : nq lc dr := Ne.symm ne_dr_lc
    have ne_dr_wc : nq dr wc := pw_ne hap 3 13 (by decide) (Nat.le_of_ble_eq_true rfl)
    have ne_wc_dr : nq wc dr := Ne.symm ne_dr_wc
    have ne_dr_ol : nq dr ol := pw_ne hap 3 14 (by decide) (Nat.le_of_ble_eq_true rfl)
    have ne_ol_dr : nq ol dr := Ne.symm ne_dr_ol
    have ne_dr_al : nq dr al := pw_ne hap 3 15 (by decide) (Nat.le_of_ble_eq_true rfl)
    have ne_al_dr : nq al dr := Ne.symm ne_dr_al
    have ne_en_la : nq en la := pw_ne hap 4 5 (by decide) (Nat.le_of_ble_eq_true rfl)
    have ne_la_en : nq la en := Ne.symm ne_en_la
    have ne_en_wo : nq en wo := pw_ne hap 4 6 (by decide) (Nat.le_of_ble_eq_true rfl)
    have ne_wo_en : nq wo en := Ne.symm ne_en_wo
    have ne_en_op : nq en op := pw_ne hap 4 7 (by decide) (Nat.le_of_ble_eq_true rfl)
    have ne_op_en : nq op en := Ne.symm ne_en_op
    have ne_en_mk : nq en mk := pw_ne hap 4 8 (by decide) (Nat.le_of_ble_eq_true rfl)
    have ne_mk_en : nq mk en := Ne.symm ne_en_mk
    have ne_en_ir : nq en ir := pw_ne hap 4 9 (by decide) (Nat.le_of_ble_eq_true rfl)
    have ne_ir_en : nq ir en := Ne.symm ne_en_ir
    have ne_en_se : nq en se := pw_ne hap 4 10 (by decide) (Nat.le_of_ble_eq_true rfl)
    have ne_se_en : nq se en := Ne.symm ne_en_se
    have ne_en_ec : nq en ec := pw_ne hap 4 11 (by decide) (Nat.le_of_ble_eq_true rfl)
    have ne_ec_en : nq ec en := Ne.symm ne_en_ec
    have ne_en_lc : nq en lc := pw_ne hap 4 12 (by decide) (Nat.le_of_ble_eq_true rfl)
    have ne_lc_en : nq lc en := Ne.symm ne_en_lc
    have ne_en_wc : nq en wc := pw_ne hap 4 13 (by decide) (Nat.le_of_ble_eq_true rfl)
    have ne_wc_en : nq wc en := Ne.symm ne_en_wc
    have ne_en_ol : nq en ol := pw_ne hap 4 14 (by decide) (Nat.le_of_ble_eq_true rfl)
    have ne_ol_en : nq ol en := Ne.symm ne_en_ol
    have ne_en_al : nq en al := pw_ne hap 4 15 (by decide) (Nat.le_of_ble_eq_true rfl)
    have ne_al_en : nq al en := Ne.symm ne_en_al
    have ne_la_wo : nq la wo := pw_ne hap 5 6 (by decide) (Nat.le_of_ble_eq_true rfl)
    have ne_wo_la : nq wo la := Ne.symm ne_la_wo
    have ne_la_op : nq la op := pw_ne hap 5 7 (by decide) (Nat.le_of_ble_eq_true rfl)
    have ne_op_la : nq op la := Ne.symm ne_la_op
    have ne_la_mk : nq la mk := pw_ne hap 5 8 (by decide) (Nat.le_of_ble_eq_true rfl)
    have ne_mk_la : nq mk la := Ne.symm ne_la_mk
    have ne_la_ir : nq la ir := pw_ne hap 5 9 (by decide) (Nat.le_of_ble_eq_true rfl)
    have ne_ir_la : nq ir la := Ne.symm ne_la_ir
    have ne_la_se : nq la se := pw_ne hap 5 10 (by decide) (Nat.le_of_ble_eq_true rfl)
    have ne_se_la : nq se la := Ne.symm ne_la_se
    have ne_la_ec : nq la ec := pw_ne hap 5 11 (by decide) (Nat.le_of_ble_eq_true rfl)
    have ne_ec_la : nq ec la := Ne.symm ne_la_ec
    have ne_la_lc : nq la lc := pw_ne hap 5 12 (by decide) (Nat.le_of_ble_eq_true rfl)
    have ne_lc_la : nq lc la := Ne.symm ne_la_lc
    have ne_la_wc : nq la wc := pw_ne hap 5 13 (by decide) (Nat.le_of_ble_eq_true rfl)
    have ne_wc_la : nq wc la := Ne.symm ne_la_wc
    have ne_la_ol : nq la ol := pw_ne hap 5 14 (by decide) (Nat.le_of_ble_eq_true rfl)
    have ne_ol_la : nq ol la := Ne.symm ne_la_ol
    have ne_la_al : nq la al := pw_ne hap 5 15 (by decide) (Nat.le_of_ble_eq_true rfl)
    have ne_al_la : nq al la := Ne.symm ne_la_al
    have ne_wo_op : nq wo op := pw_ne hap 6 7 (by decide) (Nat.le_of_ble_eq_true rfl)
    have ne_op_wo : nq op wo := Ne.symm ne_wo_op
    have ne_wo_mk : nq wo mk := pw_ne hap 6 8 (by decide) (Nat.le_of_ble_eq_true rfl)
    have ne_mk_wo : nq mk wo := Ne.symm ne_wo_mk
    have ne_wo_ir : nq wo ir := pw_ne hap 6 9 (by decide) (Nat.le_of_ble_eq_true rfl)
    have ne_ir_wo : nq ir wo := Ne.symm ne_wo_ir
    have ne_wo_se : nq wo se := pw_ne hap 6 10 (by decide) (Nat.le_of_ble_eq_true rfl)
    have ne_se_wo : nq se wo := Ne.symm ne_wo_se
    have ne_wo_ec : nq wo ec := pw_ne hap 6 11 (by decide) (Nat.le_of_ble_eq_true rfl)
    have ne_ec_wo : nq ec wo := Ne.symm ne_wo_ec
    have ne_wo_lc : nq wo lc := pw_ne hap 6 12 (by decide) (Nat.le_of_ble_eq_true rfl)
    have ne_lc_wo : nq lc wo := Ne.symm ne_wo_lc
    have ne_wo_wc : nq wo wc := pw_ne hap 6 13 (by decide) (Nat.le_of_ble_eq_true rfl)
    have ne_wc_wo : nq wc wo := Ne.symm ne_wo_wc
    have ne_wo_ol : nq wo ol := pw_ne hap 6 14 (by decide) (Nat.le_of_ble_eq_true rfl)
    have ne_ol_wo : nq ol wo := Ne.symm ne_wo_ol
    have ne_wo_al : nq wo al := pw_ne hap 6 15 (by decide) (Nat.le_of_ble_eq_true rfl)
    have ne_al_wo : nq al wo := Ne.symm ne_wo_al
    have ne_op_mk : nq op mk := pw_ne hap 7 8 (by decide) (Nat.le_of_ble_eq_true rfl)
    have ne_mk_op : nq mk op := Ne.symm ne_op_mk
    have ne_op_ir : nq op ir := pw_ne hap 7 9 (by decide) (Nat.le_of_ble_eq_true rfl)
    have ne_ir_op : nq ir op := Ne.symm ne_op_ir
    have ne_op_se : nq op se := pw_ne hap 7 10 (by decide) (Nat.le_of_ble_eq_true rfl)
    have ne_se_op : nq se op := Ne.symm ne_op_se
    have ne_op_ec : nq op ec := pw_ne hap 7 11 (by decide) (Nat.le_of_ble_eq_true rfl)
    have ne_ec_op : nq ec op := Ne.symm ne_op_ec
    have ne_op_lc : nq op lc := pw_ne hap 7 12 (by decide) (Nat.le_of_ble_eq_true rfl)
    have ne_lc_op : nq lc op := Ne.symm ne_op_lc
    have ne_op_wc : nq op wc := pw_ne hap 7 13 (by decide) (Nat.le_of_ble_eq_true rfl)
    have ne_wc_op : nq wc op := Ne.symm ne_op_wc
    have ne_op_ol : nq op ol := pw_ne hap 7 14 (by decide) (Nat.le_of_ble_eq_true rfl)
    have ne_ol_op : nq ol op := Ne.symm ne_op_ol
    have ne_op_al : nq op al := pw_ne hap 7 15 (by decide) (Nat.le_of_ble_eq_true rfl)
    have ne_al_op : nq al op := Ne.symm ne_op_al
    have ne_mk_ir : nq mk ir := pw_ne hap 8 9 (by decide) (Nat.le_of_ble_eq_true rfl)
    have ne_ir_mk : nq ir mk := Ne.symm ne_mk_ir
    have ne_mk_se : nq mk se := pw_ne hap 8 10 (by decide) (Nat.le_of_ble_eq_true rfl)
    have ne_se_mk : nq se mk := Ne.symm ne_mk_se
    have ne_mk_ec : nq mk ec := pw_ne hap 8 11 (by decide) (Nat.le_of_ble_eq_true rfl)
    have ne_ec_mk : nq ec mk := Ne.symm ne_mk_ec
    have ne_mk_lc : nq mk lc := pw_ne hap 8 12 (by decide) (Nat.le_of_ble_eq_true rfl)
    have ne_lc_mk : nq lc mk := Ne.symm ne_mk_lc
    have ne_mk_wc : nq mk wc := pw_ne hap 8 13 (by decide) (Nat.le_of_ble_eq_true rfl)
    have ne_wc_mk : nq wc mk := Ne.symm ne_mk_wc
    have ne_mk_ol : nq mk ol := pw_ne hap 8 14 (by decide) (Nat.le_of_ble_eq_true rfl)
    have ne_ol_mk : nq ol mk := Ne.symm ne_mk_ol
    have ne_mk_al : nq mk al := pw_ne hap 8 15 (by decide) (Nat.le_of_ble_eq_true rfl)
    have ne_al_mk : nq al mk := Ne.symm ne_mk_al
    have ne_ir_se : nq ir se := pw_ne hap 9 10 (by decide) (Nat.le_of_ble_eq_true rfl)
    have ne_se_ir : nq se ir := Ne.symm ne_ir_se
    have ne_ir_ec : nq ir ec := pw_ne hap 9 11 (by decide) (Nat.le_of_ble_eq_true rfl)
    have ne_ec_ir : nq ec ir := Ne.symm ne_ir_ec
    have ne_ir_lc : nq ir lc := pw_ne hap 9 12 (by decide) (Nat.le_of_ble_eq_true rfl)
    have ne_lc_ir : nq lc ir := Ne.symm ne_ir_lc
    have ne_ir_wc : nq ir wc := pw_ne hap 9 13 (by decide) (Nat.le_of_ble_eq_true rfl)
    have ne_wc_ir : nq wc ir := Ne.symm ne_ir_wc
    have ne_ir_ol : nq ir ol := pw_ne hap 9 14 (by decide) (Nat.le_of_ble_eq_true rfl)
    have ne_ol_ir : nq ol ir := Ne.symm ne_ir_ol
    have ne_ir_al : nq ir al := pw_ne hap 9 15 (by decide) (Nat.le_of_ble_eq_true rfl)
    have ne_al_ir : nq al ir := Ne.symm ne_ir_al
    have ne_se_ec : nq se ec := pw_ne hap 10 11 (by decide) (Nat.le_of_ble_eq_true rfl)
    have ne_ec_se : nq ec se := Ne.symm ne_se_ec
    have ne_se_lc : nq se lc := pw_ne hap 10 12 (by decide) (Nat.le_of_ble_eq_true rfl)
    have ne_lc_se : nq lc se := Ne.symm ne_se_lc
    have ne_se_wc : nq se wc := pw_ne hap 10 13 (by decide) (Nat.le_of_ble_eq_true rfl)
    have ne_wc_se : nq wc se := Ne.symm ne_se_wc
    have ne_se_ol : nq se ol := pw_ne hap 10 14 (by decide) (Nat.le_of_ble_eq_true rfl)
    have ne_ol_se : nq ol se := Ne.symm ne_se_ol
    have ne_se_al : nq se al := pw_ne hap 10 15 (by decide) (Nat.le_of_ble_eq_true rfl)
    have ne_al_se : nq al se := Ne.symm ne_se_al
    have ne_ec_lc : nq ec lc := pw_ne hap 11 12 (by decide) (Nat.le_of_ble_eq_true rfl)
    have ne_lc_ec : nq lc ec := Ne.symm ne_ec_lc
    have ne_ec_wc : nq ec wc := pw_ne hap 11 13 (by decide) (Nat.le_of_ble_eq_true rfl)
    have ne_wc_ec : nq wc ec := Ne.symm ne_ec_wc
    have ne_ec_ol : nq ec ol := pw_ne hap 11 14 (by decide) (Nat.le_of_ble_eq_true rfl)
    have ne_ol_ec : nq ol ec := Ne.symm ne_ec_ol
    have ne_ec_al : nq ec al := pw_ne hap 11 15 (by decide) (Nat.le_of_ble_eq_true rfl)
    have ne_al_ec : nq al ec := Ne.symm ne_ec_al
    have ne_lc_wc : nq lc wc := pw_ne hap 12 13 (by decide) (Nat.le_of_ble_eq_true rfl)
    have ne_wc_lc : nq wc lc := Ne.symm ne_lc_wc
    have ne_lc_ol : nq lc ol := pw_ne hap 12 14 (by decide) (Nat.le_of_ble_eq_true rfl)
    have ne_ol_lc : nq ol lc := Ne.symm ne_lc_ol
    have ne_lc_al : nq lc al := pw_ne hap 12 15 (by decide) (Nat.le_of_ble_eq_true rfl)
    have ne_al_lc : nq al lc := Ne.symm ne_lc_al
    have ne_wc_ol : nq wc ol := pw_ne hap 13 14 (by decide) (Nat.le_of_ble_eq_true rfl)
    have ne_ol_wc : nq ol wc := Ne.symm ne_wc_ol
    have ne_wc_al : nq wc al := pw_ne hap 13 15 (by decide) (Nat.le_of_ble_eq_true rfl)
    have ne_al_wc : nq al wc := Ne.symm ne_wc_al
    have ne_ol_al : nq ol al := pw_ne hap 14 15 (by decide) (Nat.le_of_ble_eq_true rfl)
    have ne_al_ol : nq al ol := Ne.symm ne_ol_al
    rcases hf9 with hf9 | ⟨nb9, hb1, hb2, hf9⟩
    · subst hf9
      refine W.eq (g2 := F0 m 12 ls [.int (-1)]) rfl ?_
      refine W.widen (k := 0) (n := 0) (Nat.le_of_ble_eq_true rfl) (Nat.le_of_ble_eq_true rfl) ?_
      have hm : mm D (AZ z) Mc2 H := hm
      refine lv_istore (lv' := [(5, .int (-1)), (0, .ref mo), (1, .int (nI t9)), (2, .int path), (3, .int i9), (4, .int w9)]) hx hb dX6_write_12 hl (by decide) rfl (fun ls hl => ?_)
      refine lv_iload hx hb dX6_write_14 (lv_at hl 0 rfl) ?_
      refine lv_if_lt (tgt := 46) hx hb dX6_write_16 (by decide) (fun c2 => ?_) (fun c2 => ?_)
      · refine lv_iconst (v := 0) hx hb dX6_write_46 (by decide) ?_
        refine W.iret (v := 0) hx hb hr (fun t ht hW => ⟨⟨some (.int 0), _, rfl, ?_, by rw [ht]; exact hm⟩, hS.F ht⟩) hS.2.2 dX6_write_47
        exact ⟨⟨_, rfl⟩, ⟨_, _, _, _, _, _, _, fcn, fia, fdr, fen, fla, fwo, fop, fmk, fir, fse, fec, flc, fol, fal, fwc, hap, hM, hmd, ⟨hrC, hrL, hrM⟩, hcn, hia, hdr, hen, hla, hwo, hop, hmk, hir, hse, hec, hlc, hwc, hol, hal⟩, hkp⟩
      · first | exact absurd c2 (by decide) | exact absurd (by decide) c2
    · subst hf9
      refine W.eq (g2 := F0 m 12 ls [.int (nI nb9)]) rfl ?_
      refine W.widen (k := 0) (n := 0) (Nat.le_of_ble_eq_true rfl) (Nat.le_of_ble_eq_true rfl) ?_
      have hm : mm D (AZ z) Mc2 H := hm
      refine lv_istore (lv' := [(5, .int (nI nb9)), (0, .ref mo), (1, .int (nI t9)), (2, .int path), (3, .int i9), (4, .int w9)]) hx hb dX6_write_12 hl (by decide) rfl (fun ls hl => ?_)
      refine lv_iload hx hb dX6_write_14 (lv_at hl 0 rfl) ?_
      refine lv_if_lt (tgt := 46) hx hb dX6_write_16 (by decide) (fun c3 => ?_) (fun c3 => ?_)
      · refine lv_iconst (v := 0) hx hb dX6_write_46 (by decide) ?_
        refine W.iret (v := 0) hx hb hr (fun t ht hW => ⟨⟨some (.int 0), _, rfl, ?_, by rw [ht]; exact hm⟩, hS.F ht⟩) hS.2.2 dX6_write_47
        exact ⟨⟨_, rfl⟩, ⟨_, _, _, _, _, _, _, fcn, fia, fdr, fen, fla, fwo, fop, fmk, fir, fse, fec, flc, fol, fal, fwc, hap, hM, hmd, ⟨hrC, hrL, hrM⟩, hcn, hia, hdr, hen, hla, hwo, hop, hmk, hir, hse, hec, hlc, hwc, hol, hal⟩, hkp⟩
      · refine lv_aload_n hx hb dX6_write_19 rfl (lv_at hl 1 rfl) ?_
        refine lv_iload_n hx hb dX6_write_20 rfl (lv_at hl 4 rfl) ?_
        refine lv_if_lt (tgt := 35) hx hb dX6_write_21 (by decide) (fun c4 => ?_) (fun c4 => ?_)
        · refine lv_iconst (v := 5) hx hb dX6_write_35 (by decide) ?_
          refine lv_goto (tgt := 40) hx hb dX6_write_36 (by decide) ?_
          refine m_kV (As := [.int 5]) (rest := []) (rm := { frames := 0, cells := 0, slots := 0, locals := 0 }) ⟨hx, hb, hml, hown, hts⟩ (s_X6_failsE l D k z _ mo cn ia dr en la wo op mk ir se ec lc wc ol al cd ni dn md pw cm wr cs hm9 5 hM) (cwV 1 hts gX6_write_X6_fails rfl rfl rfl (by decide +kernel) ⟨Nat.le_of_ble_eq_true rfl, Nat.le_of_ble_eq_true rfl⟩) (m_recv hK hm (q := (RX6, TX6, 24)) rfl hM) hz hcx hm hS rfl hl.1 rfl (Nat.le_of_ble_eq_true rfl) dX6_write_40 ⟨Nat.le_of_ble_eq_true rfl, Nat.le_of_ble_eq_true rfl⟩ (fun v M1 H locs hv hm hS => ?_)
          obtain ⟨hv1, hM1⟩ := hv
          have hv1 : v = some (.int 1) := hv1.trans (by decide)
          subst hv1
          rw [hM1] at hm
          refine W.eq (g2 := F0 m 43 ls [.int 1]) rfl ?_
          refine W.widen (k := 0) (n := 0) (Nat.le_of_ble_eq_true rfl) (Nat.le_of_ble_eq_true rfl) ?_
          have hm : mm D (AZ z) (mu Mc2 mo (.inr (6, [.int 5, .ref cn, .ref ia, .ref dr, .ref en, .ref la, .ref wo, .int ni, .ref op, .ref mk, .ref ir, .int dn, .int md, .int pw, .int cm, .int wr, .ref se, .ref ec, .ref lc, .ref wc, .ref ol, .ref al, .int cs, .int hm9]))) H := hm
          have hkp : kpx (fun a => a ∈ [mo, cn, ia, dr, en, la, wo, op, mk, ir, se, ec, lc, wc, ol, al]) M (mu Mc2 mo (.inr (6, [.int 5, .ref cn, .ref ia, .ref dr, .ref en, .ref la, .ref wo, .int ni, .ref op, .ref mk, .ref ir, .int dn, .int md, .int pw, .int cm, .int wr, .ref se, .ref ec, .ref lc, .ref wc, .ref ol, .ref al, .int cs, .int hm9]))) := (hkp).self (by simp)
          refine lv_if_eq (tgt := 48) hx hb dX6_write_43 (by decide) (fun c5 => ?_) (fun c5 => ?_)
          · first | exact absurd c5 (by decide) | exact absurd (by decide) c5
          · refine lv_iconst (v := 0) hx hb dX6_write_46 (by decide) ?_
            refine W.iret (v := 0) hx hb hr (fun t ht hW => ⟨⟨some (.int 0), _, rfl, ?_, by rw [ht]; exact hm⟩, hS.F ht⟩) hS.2.2 dX6_write_47
            exact ⟨⟨_, rfl⟩, ⟨_, _, _, _, _, _, _, fcn, fia, fdr, fen, fla, fwo, fop, fmk, fir, fse, fec, flc, fol, fal, fwc, hap, (mu_self _ _ _), hmd, ⟨hrC, hrL, hrM⟩, ((mu_ne ne_cn_mo).trans hcn), ((mu_ne ne_ia_mo).trans hia), ((mu_ne ne_dr_mo).trans hdr), ((mu_ne ne_en_mo).trans hen), ((mu_ne ne_la_mo).trans hla), ((mu_ne ne_wo_mo).trans hwo), ((mu_ne ne_op_mo).trans hop), ((mu_ne ne_mk_mo).trans hmk), ((mu_ne ne_ir_mo).trans hir), ((mu_ne ne_se_mo).trans hse), ((mu_ne ne_ec_mo).trans hec), ((mu_ne ne_lc_mo).trans hlc), ((mu_ne ne_wc_mo).trans hwc), ((mu_ne ne_ol_mo).trans hol), ((mu_ne ne_al_mo).trans hal)⟩, hkp⟩
        · refine lv_iload_n hx hb dX6_write_24 rfl (lv_at hl 4 rfl) ?_
          refine lv_aload_n hx hb dX6_write_25 rfl (lv_at hl 1 rfl) ?_
          refine m_get (T := TX6) (N := 24) (ci := 6) (v := .ref la) hx hb hts wX6 hown hK hm hM rfl 5 (by decide) f24 (fun _ h9 => h9) rfl dX6_write_26 ?_
          refine lv_iload hx hb dX6_write_29 (lv_at hl 0 rfl) ?_
          refine m_iald hx hb hK hm 0 hla rfl (vp_in_nI (by omega) (by decide)) dX6_write_31 ?_
          obtain ⟨u6, hu6, eu6⟩ := hrL nb9
          refine W.eq (g2 := F0 m 32 ls [.int (nI u6), .int i9, .ref mo]) (by rw [show (fla ((nI nb9)).toNatClampNeg) = nI u6 from (congrArg fla (show ((nI nb9)).toNatClampNeg = nb9 from nI_clamp (by omega))).trans eu6]) ?_
          have hb_u6 := hu6
          have hu6 : u6 ≤ 64 := hu6
          refine lv_icmp_lt (tgt := 39) hx hb dX6_write_32 (by decide) (fun c7 => ?_) (fun c7 => ?_)
          · obtain ⟨e9, he9, heE⟩ : ∃ e9, e9 < u6 ∧ i9 = nI e9 := by
              rcases pk_ix i9 (n := u6) (by omega) with q | q | q
              · exact absurd q c4
              · first | exact absurd q (Int32.not_le.mpr c7) | exact absurd c7 (Int32.not_lt.mpr q) | exact absurd q c7
              · exact q
            subst heE
            refine lv_iconst (v := 0) hx hb dX6_write_39 (by decide) ?_
            refine m_kV (As := [.int 0]) (rest := []) (rm := { frames := 0, cells := 0, slots := 0, locals := 0 }) ⟨hx, hb, hml, hown, hts⟩ (s_X6_failsE l D k z _ mo cn ia dr en la wo op mk ir se ec lc wc ol al cd ni dn md pw cm wr cs hm9 0 hM) (cwV 1 hts gX6_write_X6_fails rfl rfl rfl (by decide +kernel) ⟨Nat.le_of_ble_eq_true rfl, Nat.le_of_ble_eq_true rfl⟩) (m_recv hK hm (q := (RX6, TX6, 24)) rfl hM) hz hcx hm hS rfl hl.1 rfl (Nat.le_of_ble_eq_true rfl) dX6_write_40 ⟨Nat.le_of_ble_eq_true rfl, Nat.le_of_ble_eq_true rfl⟩ (fun v M1 H locs hv hm hS => ?_)
            obtain ⟨hv1, hM1⟩ := hv
            have hv1 : v = some (.int 0) := hv1.trans (by decide)
            subst hv1
            rw [hM1] at hm
            refine W.eq (g2 := F0 m 43 ls [.int 0]) rfl ?_
            refine W.widen (k := 0) (n := 0) (Nat.le_of_ble_eq_true rfl) (Nat.le_of_ble_eq_true rfl) ?_
            have hm : mm D (AZ z) (mu Mc2 mo (.inr (6, [.int 0, .ref cn, .ref ia, .ref dr, .ref en, .ref la, .ref wo, .int ni, .ref op, .ref mk, .ref ir, .int dn, .int md, .int pw, .int cm, .int wr, .ref se, .ref ec, .ref lc, .ref wc, .ref ol, .ref al, .int cs, .int hm9]))) H := hm
            have hkp : kpx (fun a => a ∈ [mo, cn, ia, dr, en, la, wo, op, mk, ir, se, ec, lc, wc, ol, al]) M (mu Mc2 mo (.inr (6, [.int 0, .ref cn, .ref ia, .ref dr, .ref en, .ref la, .ref wo, .int ni, .ref op, .ref mk, .ref ir, .int dn, .int md, .int pw, .int cm, .int wr, .ref se, .ref ec, .ref lc, .ref wc, .ref ol, .ref al, .int cs, .int hm9]))) := (hkp).self (by simp)
            refine lv_if_eq (tgt := 48) hx hb dX6_write_43 (by decide) (fun c8 => ?_) (fun c8 => ?_)
            · refine lv_aload_n hx hb dX6_write_48 rfl (lv_at hl 1 rfl) ?_
              refine m_get (T := TX6) (N := 24) (ci := 6) (v := .ref wo) hx hb hts wX6 hown hK hm (mu_self _ _ _) rfl 6 (by decide) f28 (fun _ h9 => h9) rfl dX6_write_49 ?_
              refine lv_bipush (v := 64) hx hb dX6_write_52 (by decide) ?_
              refine lv_iload hx hb dX6_write_54 (lv_at hl 0 rfl) ?_
              refine lv_imul hx hb dX6_write_56 ?_
              refine W.eq (g2 := F0 m 57 ls [.int (nI (64 * nb9)), .ref wo]) (by rw [show ((64) * ((nI nb9)) : Int32) = nI (64 * nb9) from pk_mul 64 nb9]) ?_
              refine lv_iload_n hx hb dX6_write_57 rfl (lv_at hl 4 rfl) ?_
              refine lv_iadd hx hb dX6_write_58 ?_
              refine W.eq (g2 := F0 m 59 ls [.int (nI ((64 * nb9) + e9)), .ref wo]) (by rw [show (((nI (64 * nb9))) + ((nI e9)) : Int32) = nI ((64 * nb9) + e9) from nI_add (64 * nb9) e9]) ?_
              refine lv_iload hx hb dX6_write_59 (lv_at hl 5 rfl) ?_
              refine m_iast hx hb hK hm hS 0 ((mu_ne ne_wo_mo).trans hwo) rfl (vp_in_nI (by omega) (by decide)) dX6_write_61 (fun H locs hm hS => ?_)
              have hm : mm D (AZ z) (mu (mu Mc2 mo (.inr (6, [.int 0, .ref cn, .ref ia, .ref dr, .ref en, .ref la, .ref wo, .int ni, .ref op, .ref mk, .ref ir, .int dn, .int md, .int pw, .int cm, .int wr, .ref se, .ref ec, .ref lc, .ref wc, .ref ol, .ref al, .int cs, .int hm9]))) wo (.inl (k 0, 204800, .inl (upd fwo ((nI ((64 * nb9) + e9))).toNatClampNeg w9)))) H := hm
              have hkp : kpx (fun a => a ∈ [mo, cn, ia, dr, en, la, wo, op, mk, ir, se, ec, lc, wc, ol, al]) M (mu (mu Mc2 mo (.inr (6, [.int 0, .ref cn, .ref ia, .ref dr, .ref en, .ref la, .ref wo, .int ni, .ref op, .ref mk, .ref ir, .int dn, .int md, .int pw, .int cm, .int wr, .ref se, .ref ec, .ref lc, .ref wc, .ref ol, .ref al, .int cs, .int hm9]))) wo (.inl (k 0, 204800, .inl (upd fwo ((nI ((64 * nb9) + e9))).toNatClampNeg w9)))) := (hkp).self (by simp)
              refine lv_aload_n hx hb dX6_write_62 rfl (lv_at hl 1 rfl) ?_
              refine m_get (T := TX6) (N := 24) (ci := 6) (v := .ref la) hx hb hts wX6 hown hK hm ((mu_ne ne_mo_wo).trans (mu_self _ _ _)) rfl 5 (by decide) f24 (fun _ h9 => h9) rfl dX6_write_63 ?_
              refine lv_iload hx hb dX6_write_66 (lv_at hl 0 rfl) ?_
              refine m_iald hx hb hK hm 0 ((mu_ne ne_la_wo).trans ((mu_ne ne_la_mo).trans hla)) rfl (vp_in_nI (by omega) (by decide)) dX6_write_68 ?_
              obtain ⟨u9, hu9, eu9⟩ := hrL nb9
              refine W.eq (g2 := F0 m 69 ls [.int (nI u9)]) (by rw [show (fla ((nI nb9)).toNatClampNeg) = nI u9 from (congrArg fla (show ((nI nb9)).toNatClampNeg = nb9 from nI_clamp (by omega))).trans eu9]) ?_
              have hb_u9 := hu9
              have hu9 : u9 ≤ 64 := hu9
              refine W.iret (v := (nI u9)) hx hb hr (fun t ht hW => ⟨⟨some (.int (nI u9)), _, rfl, ?_, by rw [ht]; exact hm⟩, hS.F ht⟩) hS.2.2 dX6_write_69
              exact ⟨⟨_, rfl⟩, ⟨_, _, _, _, _, _, _, fcn, fia, fdr, fen, fla, (upd fwo ((nI ((64 * nb9) + e9))).toNatClampNeg w9), fop, fmk, fir, fse, fec, flc, fol, fal, fwc, hap, ((mu_ne ne_mo_wo).trans (mu_self _ _ _)), hmd, ⟨hrC, hrL, hrM⟩, ((mu_ne ne_cn_wo).trans ((mu_ne ne_cn_mo).trans hcn)), ((mu_ne ne_ia_wo).trans ((mu_ne ne_ia_mo).trans hia)), ((mu_ne ne_dr_wo).trans ((mu_ne ne_dr_mo).trans hdr)), ((mu_ne ne_en_wo).trans ((mu_ne ne_en_mo).trans hen)), ((mu_ne ne_la_wo).trans ((mu_ne ne_la_mo).trans hla)), (mu_self _ _ _), ((mu_ne ne_op_wo).trans ((mu_ne ne_op_mo).trans hop)), ((mu_ne ne_mk_wo).trans ((mu_ne ne_mk_mo).trans hmk)), ((mu_ne ne_ir_wo).trans ((mu_ne ne_ir_mo).trans hir)), ((mu_ne ne_se_wo).trans ((mu_ne ne_se_mo).trans hse)), ((mu_ne ne_ec_wo).trans ((mu_ne ne_ec_mo).trans hec)), ((mu_ne ne_lc_wo).trans ((mu_ne ne_lc_mo).trans hlc)), ((mu_ne ne_wc_wo).trans ((mu_ne ne_wc_mo).trans hwc)), ((mu_ne ne_ol_wo).trans ((mu_ne ne_ol_mo).trans hol)), ((mu_ne ne_al_wo).trans ((mu_ne ne_al_mo).trans hal))⟩, hkp⟩
            · first | exact absurd c8 (by decide) | exact absurd (by decide) c8
          · refine lv_iconst (v := 5) hx hb dX6_write_35 (by decide) ?_
            refine lv_goto (tgt := 40) hx hb dX6_write_36 (by decide) ?_
            refine m_kV (As := [.int 5]) (rest := []) (rm := { frames := 0, cells := 0, slots := 0, locals := 0 }) ⟨hx, hb, hml, hown, hts⟩ (s_X6_failsE l D k z _ mo cn ia dr en la wo op mk ir se ec lc wc ol al cd ni dn md pw cm wr cs hm9 5 hM) (cwV 1 hts gX6_write_X6_fails rfl rfl rfl (by decide +kernel) ⟨Nat.le_of_ble_eq_true rfl, Nat.le_of_ble_eq_true rfl⟩) (m_recv hK hm (q := (RX6, TX6, 24)) rfl hM) hz hcx hm hS rfl hl.1 rfl (Nat.le_of_ble_eq_true rfl) dX6_write_40 ⟨Nat.le_of_ble_eq_true rfl, Nat.le_of_ble_eq_true rfl⟩ (fun v M1 H locs hv hm hS => ?_)
            obtain ⟨hv1, hM1⟩ := hv
            have hv1 : v = some (.int 1) := hv1.trans (by decide)
            subst hv1
            rw [hM1] at hm
            refine W.eq (g2 := F0 m 43 ls [.int 1]) rfl ?_
            refine W.widen (k := 0) (n := 0) (Nat.le_of_ble_eq_true rfl) (Nat.le_of_ble_eq_true rfl) ?_
            have hm : mm D (AZ z) (mu Mc2 mo (.inr (6, [.int 5, .ref cn, .ref ia, .ref dr, .ref en, .ref la, .ref wo, .int ni, .ref op, .ref mk, .ref ir, .int dn, .int md, .int pw, .int cm, .int wr, .ref se, .ref ec, .ref lc, .ref wc, .ref ol, .ref al, .int cs, .int hm9]))) H := hm
            have hkp : kpx (fun a => a ∈ [mo, cn, ia, dr, en, la, wo, op, mk, ir, se, ec, lc, wc, ol, al]) M (mu Mc2 mo (.inr (6, [.int 5, .ref cn, .ref ia, .ref dr, .ref en, .ref la, .ref wo, .int ni, .ref op, .ref mk, .ref ir, .int dn, .int md, .int pw, .int cm, .int wr, .ref se, .ref ec, .ref lc, .ref wc, .ref ol, .ref al, .int cs, .int hm9]))) := (hkp).self (by simp)
            refine lv_if_eq (tgt := 48) hx hb dX6_write_43 (by decide) (fun c10 => ?_) (fun c10 => ?_)
            · first | exact absurd c10 (by decide) | exact absurd (by decide) c10
            · refine lv_iconst (v := 0) hx hb dX6_write_46 (by decide) ?_
              refine W.iret (v := 0) hx hb hr (fun t ht hW => ⟨⟨some (.int 0), _, rfl, ?_, by rw [ht]; exact hm⟩, hS.F ht⟩) hS.2.2 dX6_write_47
              exact ⟨⟨_, rfl⟩, ⟨_, _, _, _, _, _, _, fcn, fia, fdr, fen, fla, fwo, fop, fmk, fir, fse, fec, flc, fol, fal, fwc, hap, (mu_self _ _ _), hmd, ⟨hrC, hrL, hrM⟩, ((mu_ne ne_cn_mo).trans hcn), ((mu_ne ne_ia_mo).trans hia), ((mu_ne ne_dr_mo).trans hdr), ((mu_ne ne_en_mo).trans hen), ((mu_ne ne_la_mo).trans hla), ((mu_ne ne_wo_mo).trans hwo), ((mu_ne ne_op_mo).trans hop), ((mu_ne ne_mk_mo).trans hmk), ((mu_ne ne_ir_mo).trans hir), ((mu_ne ne_se_mo).trans hse), ((mu_ne ne_ec_mo).trans hec), ((mu_ne ne_lc_mo).trans hlc), ((mu_ne ne_wc_mo).trans hwc), ((mu_ne ne_ol_mo).trans hol), ((mu_ne ne_al_mo).trans hal)⟩, hkp⟩
