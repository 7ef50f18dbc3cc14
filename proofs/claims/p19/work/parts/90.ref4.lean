set_option maxHeartbeats 4000000 in
set_option maxRecDepth 100000 in
theorem s_X6_makeTree (l : Launch) (D : va_G) (k : Nat → ClassId) (z : Nat) (M : mM) (mo cn ia dr en la wo op mk ir se ec lc wc ol al : Nat) (dn md : Int32)  (t9 : Nat) (ht9 : t9 < 6) (hmd0 : md = 0) (hI : mI k M mo cn ia dr en la wo op mk ir se ec lc wc ol al dn md) : mK l yX6_makeTree wsX6_makeTree ({ frames := 2, cells := 0, slots := 0, locals := 49 }) D k z [.ref mo, .int (nI t9)] M (fun v M' => (v = none) ∧ mI k M' mo cn ia dr en la wo op mk ir se ec lc wc ol al dn md ∧ kpx (fun a => a ∈ [mo, cn, ia, dr, en, la, wo, op, mk, ir, se, ec, lc, wc, ol, al]) M M') := by
  refine Met.ofW (cc := cX6_makeTree) (maxL := 8) (ret := none) (by decide) rfl ?_
  intro p e s m args below meth c s₁ B hml hv
  obtain ⟨rfl, hz, hcx, hm⟩ := hv
  have hx := B.exec
  have hb := B.bytes
  have hr := B.returns
  have hts := atoms_spec (ws := wsX6_makeTree) B.pre
  have hown : s.vm.findClass RX6 = some m.cls := findClass_of_methodNamed B.named
  have hlocks := B.notSynchronized
  have hK := hcx.1
  have hS : va_S (AZ z) s.heap s.heap [] := va_S.rf
  have hA : ∀ q, s.heap.size ≤ q → AZ z q := fun q h => Nat.le_trans hz h
  have hl := lv_entry ([.ref mo, .int (nI t9)]) (n := 8) (Nat.le_of_ble_eq_true rfl)
  rw [lg_entry_eq]
  generalize (lg_sl ([.ref mo, .int (nI t9)]) ++ List.replicate (8 - (lg_sl ([.ref mo, .int (nI t9)])).length) Slot.unset).toArray = ls at hl ⊢
  have hl : lv_has ls 8 [(0, .ref mo), (1, .int (nI t9))] := hl
  have f7 := hts (.fieldLink RX6 7 "CommitTreeModel" "counts" "[I") (by decide +kernel)
  have f13 := hts (.fieldLink RX6 13 "CommitTreeModel" "ids" "[I") (by decide +kernel)
  have f16 := hts (.fieldLink RX6 16 "CommitTreeModel" "dirs" "[Z") (by decide +kernel)
  have f24 := hts (.fieldLink RX6 24 "CommitTreeModel" "lengths" "[I") (by decide +kernel)
  have f48 := hts (.fieldLink RX6 48 "CommitTreeModel" "self" "[Z") (by decide +kernel)
  have f51 := hts (.fieldLink RX6 51 "CommitTreeModel" "entryComes" "[I") (by decide +kernel)
  have f54 := hts (.fieldLink RX6 54 "CommitTreeModel" "lengthComes" "[Z") (by decide +kernel)
  have f57 := hts (.fieldLink RX6 57 "CommitTreeModel" "wordComes" "[J") (by decide +kernel)
  have f61 := hts (.fieldLink RX6 61 "CommitTreeModel" "oldLength" "[I") (by decide +kernel)
  have f118 := hts (.fieldLink RX6 118 "CommitTreeModel" "comes" "I") (by decide +kernel)
  have wX6 : ∀ w ∈ wsX60, w ∈ wsX6_makeTree := by decide +kernel
  obtain ⟨cd, ni, pw, cm, wr, cs, hm9, fcn, fia, fdr, fen, fla, fwo, fop, fmk, fir, fse, fec, flc, fol, fal, fwc, hap, hM, hmd, ⟨hrC, hrL, hrM⟩, hcn, hia, hdr, hen, hla, hwo, hop, hmk, hir, hse, hec, hlc, hwc, hol, hal⟩ := id hI
  have ne_mo_cn : nq mo cn := pw_ne hap 0 1 (by decide) (Nat.le_of_ble_eq_true rfl)
  have ne_cn_mo : nq cn mo := Ne.symm ne_mo_cn
  have ne_mo_ia : nq mo ia := pw_ne hap 0 2 (by decide) (Nat.le_of_ble_eq_true rfl)
  have ne_ia_mo : nq ia mo := Ne.symm ne_mo_ia
  have ne_mo_dr : nq mo dr := pw_ne hap 0 3 (by decide) (Nat.le_of_ble_eq_true rfl)
  have ne_dr_mo : nq dr mo := Ne.symm ne_mo_dr
  have ne_mo_en : nq mo en := pw_ne hap 0 4 (by decide) (Nat.le_of_ble_eq_true rfl)
  have ne_en_mo : nq en mo := Ne.symm ne_mo_en
  have ne_mo_la : nq mo la := pw_ne hap 0 5 (by decide) (Nat.le_of_ble_eq_true rfl)
  have ne_la_mo : nq la mo := Ne.symm ne_mo_la
  have ne_mo_wo : nq mo wo := pw_ne hap 0 6 (by decide) (Nat.le_of_ble_eq_true rfl)
  have ne_wo_mo : nq wo mo := Ne.symm ne_mo_wo
  have ne_mo_op : nq mo op := pw_ne hap 0 7 (by decide) (Nat.le_of_ble_eq_true rfl)
  have ne_op_mo : nq op mo := Ne.symm ne_mo_op
  have ne_mo_mk : nq mo mk := pw_ne hap 0 8 (by decide) (Nat.le_of_ble_eq_true rfl)
  have ne_mk_mo : nq mk mo := Ne.symm ne_mo_mk
  have ne_mo_ir : nq mo ir := pw_ne hap 0 9 (by decide) (Nat.le_of_ble_eq_true rfl)
  have ne_ir_mo : nq ir mo := Ne.symm ne_mo_ir
  have ne_mo_se : nq mo se := pw_ne hap 0 10 (by decide) (Nat.le_of_ble_eq_true rfl)
  have ne_se_mo : nq se mo := Ne.symm ne_mo_se
  have ne_mo_ec : nq mo ec := pw_ne hap 0 11 (by decide) (Nat.le_of_ble_eq_true rfl)
  have ne_ec_mo : nq ec mo := Ne.symm ne_mo_ec
  have ne_mo_lc : nq mo lc := pw_ne hap 0 12 (by decide) (Nat.le_of_ble_eq_true rfl)
  have ne_lc_mo : nq lc mo := Ne.symm ne_mo_lc
  have ne_mo_wc : nq mo wc := pw_ne hap 0 13 (by decide) (Nat.le_of_ble_eq_true rfl)
  have ne_wc_mo : nq wc mo := Ne.symm ne_mo_wc
  have ne_mo_ol : nq mo ol := pw_ne hap 0 14 (by decide) (Nat.le_of_ble_eq_true rfl)
  have ne_ol_mo : nq ol mo := Ne.symm ne_mo_ol
  have ne_mo_al : nq mo al := pw_ne hap 0 15 (by decide) (Nat.le_of_ble_eq_true rfl)
  have ne_al_mo : nq al mo := Ne.symm ne_mo_al
  have ne_cn_ia : nq cn ia := pw_ne hap 1 2 (by decide) (Nat.le_of_ble_eq_true rfl)
  have ne_ia_cn : nq ia cn := Ne.symm ne_cn_ia
  have ne_cn_dr : nq cn dr := pw_ne hap 1 3 (by decide) (Nat.le_of_ble_eq_true rfl)
  have ne_dr_cn : nq dr cn := Ne.symm ne_cn_dr
  have ne_cn_en : nq cn en := pw_ne hap 1 4 (by decide) (Nat.le_of_ble_eq_true rfl)
  have ne_en_cn : nq en cn := Ne.symm ne_cn_en
  have ne_cn_la : nq cn la := pw_ne hap 1 5 (by decide) (Nat.le_of_ble_eq_true rfl)
  have ne_la_cn : nq la cn := Ne.symm ne_cn_la
  have ne_cn_wo : nq cn wo := pw_ne hap 1 6 (by decide) (Nat.le_of_ble_eq_true rfl)
  have ne_wo_cn : nq wo cn := Ne.symm ne_cn_wo
  have ne_cn_op : nq cn op := pw_ne hap 1 7 (by decide) (Nat.le_of_ble_eq_true rfl)
  have ne_op_cn : nq op cn := Ne.symm ne_cn_op
  have ne_cn_mk : nq cn mk := pw_ne hap 1 8 (by decide) (Nat.le_of_ble_eq_true rfl)
  have ne_mk_cn : nq mk cn := Ne.symm ne_cn_mk
  have ne_cn_ir : nq cn ir := pw_ne hap 1 9 (by decide) (Nat.le_of_ble_eq_true rfl)
  have ne_ir_cn : nq ir cn := Ne.symm ne_cn_ir
  have ne_cn_se : nq cn se := pw_ne hap 1 10 (by decide) (Nat.le_of_ble_eq_true rfl)
  have ne_se_cn : nq se cn := Ne.symm ne_cn_se
  have ne_cn_ec : nq cn ec := pw_ne hap 1 11 (by decide) (Nat.le_of_ble_eq_true rfl)
  have ne_ec_cn : nq ec cn := Ne.symm ne_cn_ec
  have ne_cn_lc : nq cn lc := pw_ne hap 1 12 (by decide) (Nat.le_of_ble_eq_true rfl)
  have ne_lc_cn : nq lc cn := Ne.symm ne_cn_lc
  have ne_cn_wc : nq cn wc := pw_ne hap 1 13 (by decide) (Nat.le_of_ble_eq_true rfl)
  have ne_wc_cn : nq wc cn := Ne.symm ne_cn_wc
  have ne_cn_ol : nq cn ol := pw_ne hap 1 14 (by decide) (Nat.le_of_ble_eq_true rfl)
  have ne_ol_cn : nq ol cn := Ne.symm ne_cn_ol
  have ne_cn_al : nq cn al := pw_ne hap 1 15 (by decide) (Nat.le_of_ble_eq_true rfl)
  have ne_al_cn : nq al cn := Ne.symm ne_cn_al
  have ne_ia_dr : nq ia dr := pw_ne hap 2 3 (by decide) (Nat.le_of_ble_eq_true rfl)
  have ne_dr_ia : nq dr ia := Ne.symm ne_ia_dr
  have ne_ia_en : nq ia en := pw_ne hap 2 4 (by decide) (Nat.le_of_ble_eq_true rfl)
  have ne_en_ia : nq en ia := Ne.symm ne_ia_en
  have ne_ia_la : nq ia la := pw_ne hap 2 5 (by decide) (Nat.le_of_ble_eq_true rfl)
  have ne_la_ia : nq la ia := Ne.symm ne_ia_la
  have ne_ia_wo : nq ia wo := pw_ne hap 2 6 (by decide) (Nat.le_of_ble_eq_true rfl)
  have ne_wo_ia : nq wo ia := Ne.symm ne_ia_wo
  have ne_ia_op : nq ia op := pw_ne hap 2 7 (by decide) (Nat.le_of_ble_eq_true rfl)
  have ne_op_ia : nq op ia := Ne.symm ne_ia_op
  have ne_ia_mk : nq ia mk := pw_ne hap 2 8 (by decide) (Nat.le_of_ble_eq_true rfl)
  have ne_mk_ia : nq mk ia := Ne.symm ne_ia_mk
  have ne_ia_ir : nq ia ir := pw_ne hap 2 9 (by decide) (Nat.le_of_ble_eq_true rfl)
  have ne_ir_ia : nq ir ia := Ne.symm ne_ia_ir
  have ne_ia_se : nq ia se := pw_ne hap 2 10 (by decide) (Nat.le_of_ble_eq_true rfl)
  have ne_se_ia : nq se ia := Ne.symm ne_ia_se
  have ne_ia_ec : nq ia ec := pw_ne hap 2 11 (by decide) (Nat.le_of_ble_eq_true rfl)
  have ne_ec_ia : nq ec ia := Ne.symm ne_ia_ec
  have ne_ia_lc : nq ia lc := pw_ne hap 2 12 (by decide) (Nat.le_of_ble_eq_true rfl)
  have ne_lc_ia : nq lc ia := Ne.symm ne_ia_lc
  have ne_ia_wc : nq ia wc := pw_ne hap 2 13 (by decide) (Nat.le_of_ble_eq_true rfl)
  have ne_wc_ia : nq wc ia := Ne.symm ne_ia_wc
  have ne_ia_ol : nq ia ol := pw_ne hap 2 14 (by decide) (Nat.le_of_ble_eq_true rfl)
  have ne_ol_ia : nq ol ia := Ne.symm ne_ia_ol
  have ne_ia_al : nq ia al := pw_ne hap 2 15 (by decide) (Nat.le_of_ble_eq_true rfl)
  have ne_al_ia : nq al ia := Ne.symm ne_ia_al
  have ne_dr_en : nq dr en := pw_ne hap 3 4 (by decide) (Nat.le_of_ble_eq_true rfl)
  have ne_en_dr : nq en dr := Ne.symm ne_dr_en
  have ne_dr_la : nq dr la := pw_ne hap 3 5 (by decide) (Nat.le_of_ble_eq_true rfl)
  have ne_la_dr : nq la dr := Ne.symm ne_dr_la
  have ne_dr_wo : nq dr wo := pw_ne hap 3 6 (by decide) (Nat.le_of_ble_eq_true rfl)
  have ne_wo_dr : nq wo dr := Ne.symm ne_dr_wo
  have ne_dr_op : nq dr op := pw_ne hap 3 7 (by decide) (Nat.le_of_ble_eq_true rfl)
  have ne_op_dr : nq op dr := Ne.symm ne_dr_op
  have ne_dr_mk : nq dr mk := pw_ne hap 3 8 (by decide) (Nat.le_of_ble_eq_true rfl)
  have ne_mk_dr : nq mk dr := Ne.symm ne_dr_mk
  have ne_dr_ir : nq dr ir := pw_ne hap 3 9 (by decide) (Nat.le_of_ble_eq_true rfl)
  have ne_ir_dr : nq ir dr := Ne.symm ne_dr_ir
  have ne_dr_se : nq dr se := pw_ne hap 3 10 (by decide) (Nat.le_of_ble_eq_true rfl)
  have ne_se_dr : nq se dr := Ne.symm ne_dr_se
  have ne_dr_ec : nq dr ec := pw_ne hap 3 11 (by decide) (Nat.le_of_ble_eq_true rfl)
  have ne_ec_dr : nq ec dr := Ne.symm ne_dr_ec
  have ne_dr_lc : nq dr lc := pw_ne hap 3 12 (by decide) (Nat.le_of_ble_eq_true rfl)
  have ne_lc_dr : nq lc dr := Ne.symm ne_dr_lc
  have ne_dr_wc : nq dr wc := pw_ne hap 3 13 (by decide) (Nat.le_of_ble_eq_true rfl)
  have ne_wc_dr : nq wc dr := Ne.symm ne_dr_wc
  have ne_dr_ol : nq dr ol := pw_ne hap 3 14 (by decide) (Nat.le_of_ble_eq_true rfl)
  have ne_ol_dr : nq ol dr := Ne.symm ne_dr_ol
  have ne_dr_al : nq dr al := pw_ne hap 3 15 (by decide) (Nat.le_of_ble_eq_true rfl)
  have ne_al_dr : nq al dr := Ne.symm ne_dr_al
  have ne_en_la : nq en la := pw_ne hap 4 5 (by decide) (Nat.le_of_ble_eq_true rfl)
  have ne_la_en : nq la en := Ne.symm ne_en_la
  have ne_en_wo : nq en wo := pw_ne hap 4 6 (by decide) (Nat.le_of_ble_eq_true rfl)
  have ne_wo_en : nq wo en := Ne.symm ne_en_wo
  have ne_en_op : nq en op := pw_ne hap 4 7 (by decide) (Nat.le_of_ble_eq_true rfl)
  have ne_op_en : nq op en := Ne.symm ne_en_op
  have ne_en_mk : nq en mk := pw_ne hap 4 8 (by decide) (Nat.le_of_ble_eq_true rfl)
  have ne_mk_en : nq mk en := Ne.symm ne_en_mk
  have ne_en_ir : nq en ir := pw_ne hap 4 9 (by decide) (Nat.le_of_ble_eq_true rfl)
  have ne_ir_en : nq ir en := Ne.symm ne_en_ir
  have ne_en_se : nq en se := pw_ne hap 4 10 (by decide) (Nat.le_of_ble_eq_true rfl)
  have ne_se_en : nq se en := Ne.symm ne_en_se
  have ne_en_ec : nq en ec := pw_ne hap 4 11 (by decide) (Nat.le_of_ble_eq_true rfl)
  have ne_ec_en : nq ec en := Ne.symm ne_en_ec
  have ne_en_lc : nq en lc := pw_ne hap 4 12 (by decide) (Nat.le_of_ble_eq_true rfl)
  have ne_lc_en : nq lc en := Ne.symm ne_en_lc
  have ne_en_wc : nq en wc := pw_ne hap 4 13 (by decide) (Nat.le_of_ble_eq_true rfl)
  have ne_wc_en : nq wc en := Ne.symm ne_en_wc
  have ne_en_ol : nq en ol := pw_ne hap 4 14 (by decide) (Nat.le_of_ble_eq_true rfl)
  have ne_ol_en : nq ol en := Ne.symm ne_en_ol
  have ne_en_al : nq en al := pw_ne hap 4 15 (by decide) (Nat.le_of_ble_eq_true rfl)
  have ne_al_en : nq al en := Ne.symm ne_en_al
  have ne_la_wo : nq la wo := pw_ne hap 5 6 (by decide) (Nat.le_of_ble_eq_true rfl)
  have ne_wo_la : nq wo la := Ne.symm ne_la_wo
  have ne_la_op : nq la op := pw_ne hap 5 7 (by decide) (Nat.le_of_ble_eq_true rfl)
  have ne_op_la : nq op la := Ne.symm ne_la_op
  have ne_la_mk : nq la mk := pw_ne hap 5 8 (by decide) (Nat.le_of_ble_eq_true rfl)
  have ne_mk_la : nq mk la := Ne.symm ne_la_mk
  have ne_la_ir : nq la ir := pw_ne hap 5 9 (by decide) (Nat.le_of_ble_eq_true rfl)
  have ne_ir_la : nq ir la := Ne.symm ne_la_ir
  have ne_la_se : nq la se := pw_ne hap 5 10 (by decide) (Nat.le_of_ble_eq_true rfl)
  have ne_se_la : nq se la := Ne.symm ne_la_se
  have ne_la_ec : nq la ec := pw_ne hap 5 11 (by decide) (Nat.le_of_ble_eq_true rfl)
  have ne_ec_la : nq ec la := Ne.symm ne_la_ec
  have ne_la_lc : nq la lc := pw_ne hap 5 12 (by decide) (Nat.le_of_ble_eq_true rfl)
  have ne_lc_la : nq lc la := Ne.symm ne_la_lc
  have ne_la_wc : nq la wc := pw_ne hap 5 13 (by decide) (Nat.le_of_ble_eq_true rfl)
  have ne_wc_la : nq wc la := Ne.symm ne_la_wc
  have ne_la_ol : nq la ol := pw_ne hap 5 14 (by decide) (Nat.le_of_ble_eq_true rfl)
  have ne_ol_la : nq ol la := Ne.symm ne_la_ol
  have ne_la_al : nq la al := pw_ne hap 5 15 (by decide) (Nat.le_of_ble_eq_true rfl)
  have ne_al_la : nq al la := Ne.symm ne_la_al
  have ne_wo_op : nq wo op := pw_ne hap 6 7 (by decide) (Nat.le_of_ble_eq_true rfl)
  have ne_op_wo : nq op wo := Ne.symm ne_wo_op
  have ne_wo_mk : nq wo mk := pw_ne hap 6 8 (by decide) (Nat.le_of_ble_eq_true rfl)
  have ne_mk_wo : nq mk wo := Ne.symm ne_wo_mk
  have ne_wo_ir : nq wo ir := pw_ne hap 6 9 (by decide) (Nat.le_of_ble_eq_true rfl)
  have ne_ir_wo : nq ir wo := Ne.symm ne_wo_ir
  have ne_wo_se : nq wo se := pw_ne hap 6 10 (by decide) (Nat.le_of_ble_eq_true rfl)
  have ne_se_wo : nq se wo := Ne.symm ne_wo_se
  have ne_wo_ec : nq wo ec := pw_ne hap 6 11 (by decide) (Nat.le_of_ble_eq_true rfl)
  have ne_ec_wo : nq ec wo := Ne.symm ne_wo_ec
  have ne_wo_lc : nq wo lc := pw_ne hap 6 12 (by decide) (Nat.le_of_ble_eq_true rfl)
  have ne_lc_wo : nq lc wo := Ne.symm ne_wo_lc
  have ne_wo_wc : nq wo wc := pw_ne hap 6 13 (by decide) (Nat.le_of_ble_eq_true rfl)
  have ne_wc_wo : nq wc wo := Ne.symm ne_wo_wc
  have ne_wo_ol : nq wo ol := pw_ne hap 6 14 (by decide) (Nat.le_of_ble_eq_true rfl)
  have ne_ol_wo : nq ol wo := Ne.symm ne_wo_ol
  have ne_wo_al : nq wo al := pw_ne hap 6 15 (by decide) (Nat.le_of_ble_eq_true rfl)
  have ne_al_wo : nq al wo := Ne.symm ne_wo_al
  have ne_op_mk : nq op mk := pw_ne hap 7 8 (by decide) (Nat.le_of_ble_eq_true rfl)
  have ne_mk_op : nq mk op := Ne.symm ne_op_mk
  have ne_op_ir : nq op ir := pw_ne hap 7 9 (by decide) (Nat.le_of_ble_eq_true rfl)
  have ne_ir_op : nq ir op := Ne.symm ne_op_ir
  have ne_op_se : nq op se := pw_ne hap 7 10 (by decide) (Nat.le_of_ble_eq_true rfl)
  have ne_se_op : nq se op := Ne.symm ne_op_se
  have ne_op_ec : nq op ec := pw_ne hap 7 11 (by decide) (Nat.le_of_ble_eq_true rfl)
  have ne_ec_op : nq ec op := Ne.symm ne_op_ec
  have ne_op_lc : nq op lc := pw_ne hap 7 12 (by decide) (Nat.le_of_ble_eq_true rfl)
  have ne_lc_op : nq lc op := Ne.symm ne_op_lc
  have ne_op_wc : nq op wc := pw_ne hap 7 13 (by decide) (Nat.le_of_ble_eq_true rfl)
  have ne_wc_op : nq wc op := Ne.symm ne_op_wc
  have ne_op_ol : nq op ol := pw_ne hap 7 14 (by decide) (Nat.le_of_ble_eq_true rfl)
  have ne_ol_op : nq ol op := Ne.symm ne_op_ol
  have ne_op_al : nq op al := pw_ne hap 7 15 (by decide) (Nat.le_of_ble_eq_true rfl)
  have ne_al_op : nq al op := Ne.symm ne_op_al
  have ne_mk_ir : nq mk ir := pw_ne hap 8 9 (by decide) (Nat.le_of_ble_eq_true rfl)
  have ne_ir_mk : nq ir mk := Ne.symm ne_mk_ir
  have ne_mk_se : nq mk se := pw_ne hap 8 10 (by decide) (Nat.le_of_ble_eq_true rfl)
  have ne_se_mk : nq se mk := Ne.symm ne_mk_se
  have ne_mk_ec : nq mk ec := pw_ne hap 8 11 (by decide) (Nat.le_of_ble_eq_true rfl)
  have ne_ec_mk : nq ec mk := Ne.symm ne_mk_ec
  have ne_mk_lc : nq mk lc := pw_ne hap 8 12 (by decide) (Nat.le_of_ble_eq_true rfl)
  have ne_lc_mk : nq lc mk := Ne.symm ne_mk_lc
  have ne_mk_wc : nq mk wc := pw_ne hap 8 13 (by decide) (Nat.le_of_ble_eq_true rfl)
  have ne_wc_mk : nq wc mk := Ne.symm ne_mk_wc
  have ne_mk_ol : nq mk ol := pw_ne hap 8 14 (by decide) (Nat.le_of_ble_eq_true rfl)
  have ne_ol_mk : nq ol mk := Ne.symm ne_mk_ol
  have ne_mk_al : nq mk al := pw_ne hap 8 15 (by decide) (Nat.le_of_ble_eq_true rfl)
  have ne_al_mk : nq al mk := Ne.symm ne_mk_al
  have ne_ir_se : nq ir se := pw_ne hap 9 10 (by decide) (Nat.le_of_ble_eq_true rfl)
  have ne_se_ir : nq se ir := Ne.symm ne_ir_se
  have ne_ir_ec : nq ir ec := pw_ne hap 9 11 (by decide) (Nat.le_of_ble_eq_true rfl)
  have ne_ec_ir : nq ec ir := Ne.symm ne_ir_ec
  have ne_ir_lc : nq ir lc := pw_ne hap 9 12 (by decide) (Nat.le_of_ble_eq_true rfl)
  have ne_lc_ir : nq lc ir := Ne.symm ne_ir_lc
  have ne_ir_wc : nq ir wc := pw_ne hap 9 13 (by decide) (Nat.le_of_ble_eq_true rfl)
  have ne_wc_ir : nq wc ir := Ne.symm ne_ir_wc
  have ne_ir_ol : nq ir ol := pw_ne hap 9 14 (by decide) (Nat.le_of_ble_eq_true rfl)
  have ne_ol_ir : nq ol ir := Ne.symm ne_ir_ol
  have ne_ir_al : nq ir al := pw_ne hap 9 15 (by decide) (Nat.le_of_ble_eq_true rfl)
  have ne_al_ir : nq al ir := Ne.symm ne_ir_al
  have ne_se_ec : nq se ec := pw_ne hap 10 11 (by decide) (Nat.le_of_ble_eq_true rfl)
  have ne_ec_se : nq ec se := Ne.symm ne_se_ec
  have ne_se_lc : nq se lc := pw_ne hap 10 12 (by decide) (Nat.le_of_ble_eq_true rfl)
  have ne_lc_se : nq lc se := Ne.symm ne_se_lc
  have ne_se_wc : nq se wc := pw_ne hap 10 13 (by decide) (Nat.le_of_ble_eq_true rfl)
  have ne_wc_se : nq wc se := Ne.symm ne_se_wc
  have ne_se_ol : nq se ol := pw_ne hap 10 14 (by decide) (Nat.le_of_ble_eq_true rfl)
  have ne_ol_se : nq ol se := Ne.symm ne_se_ol
  have ne_se_al : nq se al := pw_ne hap 10 15 (by decide) (Nat.le_of_ble_eq_true rfl)
  have ne_al_se : nq al se := Ne.symm ne_se_al
  have ne_ec_lc : nq ec lc := pw_ne hap 11 12 (by decide) (Nat.le_of_ble_eq_true rfl)
  have ne_lc_ec : nq lc ec := Ne.symm ne_ec_lc
  have ne_ec_wc : nq ec wc := pw_ne hap 11 13 (by decide) (Nat.le_of_ble_eq_true rfl)
  have ne_wc_ec : nq wc ec := Ne.symm ne_ec_wc
  have ne_ec_ol : nq ec ol := pw_ne hap 11 14 (by decide) (Nat.le_of_ble_eq_true rfl)
  have ne_ol_ec : nq ol ec := Ne.symm ne_ec_ol
  have ne_ec_al : nq ec al := pw_ne hap 11 15 (by decide) (Nat.le_of_ble_eq_true rfl)
  have ne_al_ec : nq al ec := Ne.symm ne_ec_al
  have ne_lc_wc : nq lc wc := pw_ne hap 12 13 (by decide) (Nat.le_of_ble_eq_true rfl)
  have ne_wc_lc : nq wc lc := Ne.symm ne_lc_wc
  have ne_lc_ol : nq lc ol := pw_ne hap 12 14 (by decide) (Nat.le_of_ble_eq_true rfl)
  have ne_ol_lc : nq ol lc := Ne.symm ne_lc_ol
  have ne_lc_al : nq lc al := pw_ne hap 12 15 (by decide) (Nat.le_of_ble_eq_true rfl)
  have ne_al_lc : nq al lc := Ne.symm ne_lc_al
  have ne_wc_ol : nq wc ol := pw_ne hap 13 14 (by decide) (Nat.le_of_ble_eq_true rfl)
  have ne_ol_wc : nq ol wc := Ne.symm ne_wc_ol
  have ne_wc_al : nq wc al := pw_ne hap 13 15 (by decide) (Nat.le_of_ble_eq_true rfl)
  have ne_al_wc : nq al wc := Ne.symm ne_wc_al
  have ne_ol_al : nq ol al := pw_ne hap 14 15 (by decide) (Nat.le_of_ble_eq_true rfl)
  have ne_al_ol : nq al ol := Ne.symm ne_ol_al
  have hkp : kpx (fun a => a ∈ [mo, cn, ia, dr, en, la, wo, op, mk, ir, se, ec, lc, wc, ol, al]) M M := kpx.refl _ _
  refine lv_aload_n hx hb dX6_makeTree_0 rfl (lv_at hl 0 rfl) ?_
  refine lv_bipush (v := 31) hx hb dX6_makeTree_1 (by decide) ?_
  refine lv_iconst (v := 0) hx hb dX6_makeTree_3 (by decide) ?_
  have hI0 : mI k M mo cn ia dr en la wo op mk ir se ec lc wc ol al dn md := ⟨_, _, _, _, _, _, _, fcn, fia, fdr, fen, fla, fwo, fop, fmk, fir, fse, fec, flc, fol, fal, fwc, hap, hM, hmd, ⟨hrC, hrL, hrM⟩, hcn, hia, hdr, hen, hla, hwo, hop, hmk, hir, hse, hec, hlc, hwc, hol, hal⟩
  refine m_kV (As := [.int 31, .int 0]) (rest := []) (rm := { frames := 1, cells := 0, slots := 0, locals := 23 }) ⟨hx, hb, hml, hown, hts⟩ (x_X6_copyTree310 l D k z _ mo cn ia dr en la wo op mk ir se ec lc wc ol al dn md hmd0 hI0) (cwV 2 hts gX6_makeTree_X6_copyTree rfl rfl rfl (by decide +kernel) ⟨Nat.le_of_ble_eq_true rfl, Nat.le_of_ble_eq_true rfl⟩) (m_recv hK hm (q := (RX6, TX6, 24)) rfl hM) hz hcx hm hS rfl hl.1 rfl (Nat.le_of_ble_eq_true rfl) dX6_makeTree_4 ⟨Nat.le_of_ble_eq_true rfl, Nat.le_of_ble_eq_true rfl⟩ (fun v M1 H locs hv hm hS => ?_)
  obtain ⟨hv1, hI9, hk9⟩ := hv
  obtain ⟨_, _, _, _, _, _, _, fcn_1, fia_1, fdr_1, fen_1, fla_1, fwo_1, _, _, _, _, _, _, _, _, _, -, -, hmd_1, ⟨hrC_1, hrL_1, -⟩, hcn_1, hia_1, hdr_1, hen_1, hla_1, hwo_1, -, -, -, -, -, -, -, -, -⟩ := id hI9
  have kmo_1 := hk9 _ _ (by simp only [List.mem_cons, List.not_mem_nil, or_false, not_or]; exact ⟨ne_mo_cn, ne_mo_ia, ne_mo_dr, ne_mo_en, ne_mo_la, ne_mo_wo⟩) hM
  have kop_1 := hk9 _ _ (by simp only [List.mem_cons, List.not_mem_nil, or_false, not_or]; exact ⟨ne_op_cn, ne_op_ia, ne_op_dr, ne_op_en, ne_op_la, ne_op_wo⟩) hop
  have kmk_1 := hk9 _ _ (by simp only [List.mem_cons, List.not_mem_nil, or_false, not_or]; exact ⟨ne_mk_cn, ne_mk_ia, ne_mk_dr, ne_mk_en, ne_mk_la, ne_mk_wo⟩) hmk
  have kir_1 := hk9 _ _ (by simp only [List.mem_cons, List.not_mem_nil, or_false, not_or]; exact ⟨ne_ir_cn, ne_ir_ia, ne_ir_dr, ne_ir_en, ne_ir_la, ne_ir_wo⟩) hir
  have kse_1 := hk9 _ _ (by simp only [List.mem_cons, List.not_mem_nil, or_false, not_or]; exact ⟨ne_se_cn, ne_se_ia, ne_se_dr, ne_se_en, ne_se_la, ne_se_wo⟩) hse
  have kec_1 := hk9 _ _ (by simp only [List.mem_cons, List.not_mem_nil, or_false, not_or]; exact ⟨ne_ec_cn, ne_ec_ia, ne_ec_dr, ne_ec_en, ne_ec_la, ne_ec_wo⟩) hec
  have klc_1 := hk9 _ _ (by simp only [List.mem_cons, List.not_mem_nil, or_false, not_or]; exact ⟨ne_lc_cn, ne_lc_ia, ne_lc_dr, ne_lc_en, ne_lc_la, ne_lc_wo⟩) hlc
  have kwc_1 := hk9 _ _ (by simp only [List.mem_cons, List.not_mem_nil, or_false, not_or]; exact ⟨ne_wc_cn, ne_wc_ia, ne_wc_dr, ne_wc_en, ne_wc_la, ne_wc_wo⟩) hwc
  have kol_1 := hk9 _ _ (by simp only [List.mem_cons, List.not_mem_nil, or_false, not_or]; exact ⟨ne_ol_cn, ne_ol_ia, ne_ol_dr, ne_ol_en, ne_ol_la, ne_ol_wo⟩) hol
  have kal_1 := hk9 _ _ (by simp only [List.mem_cons, List.not_mem_nil, or_false, not_or]; exact ⟨ne_al_cn, ne_al_ia, ne_al_dr, ne_al_en, ne_al_la, ne_al_wo⟩) hal
  have hkp := hkp.trans (hk9.mono (fun a ha => by simp only [List.mem_cons, List.not_mem_nil, or_false] at ha ⊢; rcases ha with q9 | q9 | q9 | q9 | q9 | q9 <;> simp [q9]))
  obtain ⟨Mc1, hMx⟩ : ∃ x : mM, x = M1 := ⟨M1, rfl⟩
  subst hMx
  obtain ⟨hv1, hc31⟩ := hv1
  subst hv1
  refine W.eq (g2 := F0 m 7 ls []) rfl ?_
  refine W.widen (k := 0) (n := 0) (Nat.le_of_ble_eq_true rfl) (Nat.le_of_ble_eq_true rfl) ?_
  have hm : mm D (AZ z) Mc1 H := hm
  refine lv_aload_n hx hb dX6_makeTree_7 rfl (lv_at hl 0 rfl) ?_
  refine lv_iconst (v := 0) hx hb dX6_makeTree_8 (by decide) ?_
  refine m_put (T := TX6) (N := 24) (ci := 6) (v := .int 0) (ty := .int) hx hb hts wX6 tyX6 tyX6_ok nmX6 hown hK hm hS kmo_1 rfl 22 (by decide) f118 (fun _ h9 => h9) rfl (by decide +kernel) rfl rfl (Nat.le_of_ble_eq_true rfl) dX6_makeTree_9 (fun H locs hm hS => ?_)
  have hm : mm D (AZ z) (mu Mc1 mo (.inr (6, [.int cd, .ref cn, .ref ia, .ref dr, .ref en, .ref la, .ref wo, .int ni, .ref op, .ref mk, .ref ir, .int dn, .int md, .int pw, .int cm, .int wr, .ref se, .ref ec, .ref lc, .ref wc, .ref ol, .ref al, .int 0, .int hm9]))) H := hm
  have hkp : kpx (fun a => a ∈ [mo, cn, ia, dr, en, la, wo, op, mk, ir, se, ec, lc, wc, ol, al]) M (mu Mc1 mo (.inr (6, [.int cd, .ref cn, .ref ia, .ref dr, .ref en, .ref la, .ref wo, .int ni, .ref op, .ref mk, .ref ir, .int dn, .int md, .int pw, .int cm, .int wr, .ref se, .ref ec, .ref lc, .ref wc, .ref ol, .ref al, .int 0, .int hm9]))) := (hkp).self (by simp)
  refine lv_iconst (v := 0) hx hb dX6_makeTree_12 (by decide) ?_
  refine lv_istore_n (lv' := [(2, .int 0), (0, .ref mo), (1, .int (nI t9))]) hx hb dX6_makeTree_13 rfl hl (by decide) rfl (fun ls hl => ?_)
  have hI0 : mI k (mu Mc1 mo (.inr (6, [.int cd, .ref cn, .ref ia, .ref dr, .ref en, .ref la, .ref wo, .int ni, .ref op, .ref mk, .ref ir, .int dn, .int md, .int pw, .int cm, .int wr, .ref se, .ref ec, .ref lc, .ref wc, .ref ol, .ref al, .int 0, .int hm9]))) mo cn ia dr en la wo op mk ir se ec lc wc ol al dn md := ⟨_, _, _, _, _, _, _, fcn_1, fia_1, fdr_1, fen_1, fla_1, fwo_1, fop, fmk, fir, fse, fec, flc, fol, fal, fwc, hap, (mu_self _ _ _), hmd_1, ⟨hrC_1, hrL_1, hrM⟩, ((mu_ne ne_cn_mo).trans hcn_1), ((mu_ne ne_ia_mo).trans hia_1), ((mu_ne ne_dr_mo).trans hdr_1), ((mu_ne ne_en_mo).trans hen_1), ((mu_ne ne_la_mo).trans hla_1), ((mu_ne ne_wo_mo).trans hwo_1), ((mu_ne ne_op_mo).trans kop_1), ((mu_ne ne_mk_mo).trans kmk_1), ((mu_ne ne_ir_mo).trans kir_1), ((mu_ne ne_se_mo).trans kse_1), ((mu_ne ne_ec_mo).trans kec_1), ((mu_ne ne_lc_mo).trans klc_1), ((mu_ne ne_wc_mo).trans kwc_1), ((mu_ne ne_ol_mo).trans kol_1), ((mu_ne ne_al_mo).trans kal_1)⟩
  refine W_loop (σ := Nat × mM) (fun ⟨j14, Ml14⟩ H locs ls => (0 ≤ j14 ∧ j14 < 2147483000) ∧ (mI k Ml14 mo cn ia dr en la wo op mk ir se ec lc wc ol al dn md) ∧ (kpx (fun a => a ∈ [mo, cn, ia, dr, en, la, wo, op, mk, ir, se, ec, lc, wc, ol, al]) M Ml14) ∧ (kpx (fun a => a ∈ [se, ec, lc, wc, ol]) (mu Mc1 mo (.inr (6, [.int cd, .ref cn, .ref ia, .ref dr, .ref en, .ref la, .ref wo, .int ni, .ref op, .ref mk, .ref ir, .int dn, .int md, .int pw, .int cm, .int wr, .ref se, .ref ec, .ref lc, .ref wc, .ref ol, .ref al, .int 0, .int hm9]))) Ml14) ∧ mm D (AZ z) Ml14 H ∧ va_S (AZ z) s.heap H locs ∧ lv_has ls 8 [(2, .int (nI j14)), (0, .ref mo), (1, .int (nI t9))]) (fun ⟨j14, Ml14⟩ => 2147483648 - j14) (fun _ => 0) (fun _ => 0) ?_ (0, (mu Mc1 mo (.inr (6, [.int cd, .ref cn, .ref ia, .ref dr, .ref en, .ref la, .ref wo, .int ni, .ref op, .ref mk, .ref ir, .int dn, .int md, .int pw, .int cm, .int wr, .ref se, .ref ec, .ref lc, .ref wc, .ref ol, .ref al, .int 0, .int hm9])))) _ _ _ ⟨⟨Nat.le_refl _, by omega⟩, hI0, hkp, (kpx.refl _ _), hm, hS, lv_sub hl [0, 1, 2] rfl⟩
  intro ⟨j14, Ml14⟩ H locs ls hQ ih14
  obtain ⟨hj14, hI, hkp, hkl14, hm, hS, hl⟩ := hQ
  try dsimp only at hm hl ih14 hj14 hI hkp hkl14 ⊢
  obtain ⟨_, _, _, _, _, _, _, _, _, _, _, _, _, _, _, _, fse_2, fec_2, flc_2, fol_2, _, fwc_2, -, -, hmd_2, ⟨-, -, -⟩, -, -, -, -, -, -, -, -, -, hse_2, hec_2, hlc_2, hwc_2, hol_2, -⟩ := id hI
  have kmo_2 := hkl14 _ _ (by simp only [List.mem_cons, List.not_mem_nil, or_false, not_or]; exact ⟨ne_mo_se, ne_mo_ec, ne_mo_lc, ne_mo_wc, ne_mo_ol⟩) (mu_self _ _ _)
  have kcn_2 := hkl14 _ _ (by simp only [List.mem_cons, List.not_mem_nil, or_false, not_or]; exact ⟨ne_cn_se, ne_cn_ec, ne_cn_lc, ne_cn_wc, ne_cn_ol⟩) ((mu_ne ne_cn_mo).trans hcn_1)
  have kia_2 := hkl14 _ _ (by simp only [List.mem_cons, List.not_mem_nil, or_false, not_or]; exact ⟨ne_ia_se, ne_ia_ec, ne_ia_lc, ne_ia_wc, ne_ia_ol⟩) ((mu_ne ne_ia_mo).trans hia_1)
  have kdr_2 := hkl14 _ _ (by simp only [List.mem_cons, List.not_mem_nil, or_false, not_or]; exact ⟨ne_dr_se, ne_dr_ec, ne_dr_lc, ne_dr_wc, ne_dr_ol⟩) ((mu_ne ne_dr_mo).trans hdr_1)
  have ken_2 := hkl14 _ _ (by simp only [List.mem_cons, List.not_mem_nil, or_false, not_or]; exact ⟨ne_en_se, ne_en_ec, ne_en_lc, ne_en_wc, ne_en_ol⟩) ((mu_ne ne_en_mo).trans hen_1)
  have kla_2 := hkl14 _ _ (by simp only [List.mem_cons, List.not_mem_nil, or_false, not_or]; exact ⟨ne_la_se, ne_la_ec, ne_la_lc, ne_la_wc, ne_la_ol⟩) ((mu_ne ne_la_mo).trans hla_1)
  have kwo_2 := hkl14 _ _ (by simp only [List.mem_cons, List.not_mem_nil, or_false, not_or]; exact ⟨ne_wo_se, ne_wo_ec, ne_wo_lc, ne_wo_wc, ne_wo_ol⟩) ((mu_ne ne_wo_mo).trans hwo_1)
  have kop_2 := hkl14 _ _ (by simp only [List.mem_cons, List.not_mem_nil, or_false, not_or]; exact ⟨ne_op_se, ne_op_ec, ne_op_lc, ne_op_wc, ne_op_ol⟩) ((mu_ne ne_op_mo).trans kop_1)
  have kmk_2 := hkl14 _ _ (by simp only [List.mem_cons, List.not_mem_nil, or_false, not_or]; exact ⟨ne_mk_se, ne_mk_ec, ne_mk_lc, ne_mk_wc, ne_mk_ol⟩) ((mu_ne ne_mk_mo).trans kmk_1)
  have kir_2 := hkl14 _ _ (by simp only [List.mem_cons, List.not_mem_nil, or_false, not_or]; exact ⟨ne_ir_se, ne_ir_ec, ne_ir_lc, ne_ir_wc, ne_ir_ol⟩) ((mu_ne ne_ir_mo).trans kir_1)
  have kal_2 := hkl14 _ _ (by simp only [List.mem_cons, List.not_mem_nil, or_false, not_or]; exact ⟨ne_al_se, ne_al_ec, ne_al_lc, ne_al_wc, ne_al_ol⟩) ((mu_ne ne_al_mo).trans kal_1)
  refine lv_iload_n hx hb dX6_makeTree_14 rfl (lv_at hl 0 rfl) ?_
  refine lv_bipush (v := 100) hx hb dX6_makeTree_15 (by decide) ?_
  refine lv_icmp_ge (tgt := 80) hx hb dX6_makeTree_17 (by decide) (fun c1 => ?_) (fun c1 => ?_)
  · have hqc1 : 100 ≤ j14 := nb_le (a := 100) (b := j14) (by omega) (by omega) c1
    refine lv_iconst (v := 2) hx hb dX6_makeTree_80 (by decide) ?_
    refine lv_iconst (v := 5) hx hb dX6_makeTree_81 (by decide) ?_
    refine lv_iload_n hx hb dX6_makeTree_82 rfl (lv_at hl 2 rfl) ?_
    refine lv_imul hx hb dX6_makeTree_83 ?_
    refine W.eq (g2 := F0 m 84 ls [.int (nI (5 * t9)), .int 2]) (by rw [show ((5) * ((nI t9)) : Int32) = nI (5 * t9) from pk_mul 5 t9]) ?_
    refine lv_iadd hx hb dX6_makeTree_84 ?_
    refine W.eq (g2 := F0 m 85 ls [.int (nI (2 + (5 * t9)))]) (by rw [show ((2) + ((nI (5 * t9))) : Int32) = nI (2 + (5 * t9)) from nI_add 2 (5 * t9)]) ?_
    refine lv_istore_n (lv' := [(2, .int (nI (2 + (5 * t9)))), (0, .ref mo), (1, .int (nI t9))]) hx hb dX6_makeTree_85 rfl hl (by decide) rfl (fun ls hl => ?_)
    refine lv_bipush (v := 100) hx hb dX6_makeTree_86 (by decide) ?_
    refine lv_iload_n hx hb dX6_makeTree_88 rfl (lv_at hl 0 rfl) ?_
    refine lv_imul hx hb dX6_makeTree_89 ?_
    refine W.eq (g2 := F0 m 90 ls [.int (nI (100 * (2 + (5 * t9))))]) (by rw [show ((100) * ((nI (2 + (5 * t9)))) : Int32) = nI (100 * (2 + (5 * t9))) from pk_mul 100 (2 + (5 * t9))]) ?_
    refine lv_istore_n (lv' := [(3, .int (nI (100 * (2 + (5 * t9))))), (2, .int (nI (2 + (5 * t9)))), (0, .ref mo), (1, .int (nI t9))]) hx hb dX6_makeTree_90 rfl hl (by decide) rfl (fun ls hl => ?_)
    have hI0 : mI k Ml14 mo cn ia dr en la wo op mk ir se ec lc wc ol al dn md := ⟨_, _, _, _, _, _, _, fcn_1, fia_1, fdr_1, fen_1, fla_1, fwo_1, fop, fmk, fir, fse_2, fec_2, flc_2, fol_2, fal, fwc_2, hap, kmo_2, hmd_1, ⟨hrC_1, hrL_1, hrM⟩, kcn_2, kia_2, kdr_2, ken_2, kla_2, kwo_2, kop_2, kmk_2, kir_2, hse_2, hec_2, hlc_2, hwc_2, hol_2, kal_2⟩
    refine W_loop (σ := Nat × mM) (fun ⟨j91, Ml91⟩ H locs ls => ((100 * (2 + (5 * t9))) ≤ j91 ∧ j91 < 2147483000) ∧ (mI k Ml91 mo cn ia dr en la wo op mk ir se ec lc wc ol al dn md) ∧ (kpx (fun a => a ∈ [mo, cn, ia, dr, en, la, wo, op, mk, ir, se, ec, lc, wc, ol, al]) M Ml91) ∧ (kpx (fun a => a ∈ [mo, cn, ia, dr, la, en, wo, se, ec, lc, wc]) Ml14 Ml91) ∧ (cnt31 k Ml91 cn (40 + (j91 - 100 * (2 + 5 * t9)))) ∧ mm D (AZ z) Ml91 H ∧ va_S (AZ z) s.heap H locs ∧ lv_has ls 8 [(3, .int (nI j91)), (2, .int (nI (2 + (5 * t9)))), (0, .ref mo), (1, .int (nI t9))]) (fun ⟨j91, Ml91⟩ => 2147483648 - j91) (fun _ => 0) (fun _ => 0) ?_ ((100 * (2 + (5 * t9))), Ml14) _ _ _ ⟨⟨Nat.le_refl _, by omega⟩, hI0, hkp, (kpx.refl _ _), ((hc31.of ((kcn_2).trans (hcn_1).symm)).up (by omega)), hm, hS, lv_sub hl [0, 1, 2, 3] rfl⟩
    intro ⟨j91, Ml91⟩ H locs ls hQ ih91
    obtain ⟨hj91, hI, hkp, hkl91, hc31, hm, hS, hl⟩ := hQ
    try dsimp only at hm hl ih91 hj91 hI hkp hkl91 hc31 ⊢
    obtain ⟨cd_3, ni_3, pw_3, cm_3, wr_3, cs_3, hm9_3, fcn_3, fia_3, fdr_3, fen_3, fla_3, fwo_3, _, _, _, fse_3, fec_3, flc_3, _, _, fwc_3, -, hM_3, hmd_3, ⟨hrC_3, hrL_3, -⟩, hcn_3, hia_3, hdr_3, hen_3, hla_3, hwo_3, -, -, -, hse_3, hec_3, hlc_3, hwc_3, -, -⟩ := id hI
    have kop_3 := hkl91 _ _ (by simp only [List.mem_cons, List.not_mem_nil, or_false, not_or]; exact ⟨ne_op_mo, ne_op_cn, ne_op_ia, ne_op_dr, ne_op_la, ne_op_en, ne_op_wo, ne_op_se, ne_op_ec, ne_op_lc, ne_op_wc⟩) kop_2
    have kmk_3 := hkl91 _ _ (by simp only [List.mem_cons, List.not_mem_nil, or_false, not_or]; exact ⟨ne_mk_mo, ne_mk_cn, ne_mk_ia, ne_mk_dr, ne_mk_la, ne_mk_en, ne_mk_wo, ne_mk_se, ne_mk_ec, ne_mk_lc, ne_mk_wc⟩) kmk_2
    have kir_3 := hkl91 _ _ (by simp only [List.mem_cons, List.not_mem_nil, or_false, not_or]; exact ⟨ne_ir_mo, ne_ir_cn, ne_ir_ia, ne_ir_dr, ne_ir_la, ne_ir_en, ne_ir_wo, ne_ir_se, ne_ir_ec, ne_ir_lc, ne_ir_wc⟩) kir_2
    have kol_3 := hkl91 _ _ (by simp only [List.mem_cons, List.not_mem_nil, or_false, not_or]; exact ⟨ne_ol_mo, ne_ol_cn, ne_ol_ia, ne_ol_dr, ne_ol_la, ne_ol_en, ne_ol_wo, ne_ol_se, ne_ol_ec, ne_ol_lc, ne_ol_wc⟩) hol_2
    have kal_3 := hkl91 _ _ (by simp only [List.mem_cons, List.not_mem_nil, or_false, not_or]; exact ⟨ne_al_mo, ne_al_cn, ne_al_ia, ne_al_dr, ne_al_la, ne_al_en, ne_al_wo, ne_al_se, ne_al_ec, ne_al_lc, ne_al_wc⟩) kal_2
    refine lv_iload_n hx hb dX6_makeTree_91 rfl (lv_at hl 0 rfl) ?_
    refine lv_bipush (v := 100) hx hb dX6_makeTree_92 (by decide) ?_
    refine lv_iload_n hx hb dX6_makeTree_94 rfl (lv_at hl 1 rfl) ?_
    refine lv_imul hx hb dX6_makeTree_95 ?_
    refine W.eq (g2 := F0 m 96 ls [.int (nI (100 * (2 + (5 * t9)))), .int (nI j91)]) (by rw [show ((100) * ((nI (2 + (5 * t9)))) : Int32) = nI (100 * (2 + (5 * t9))) from pk_mul 100 (2 + (5 * t9))]) ?_
    refine lv_aload_n hx hb dX6_makeTree_96 rfl (lv_at hl 2 rfl) ?_
    refine m_get (T := TX6) (N := 24) (ci := 6) (v := .ref cn) hx hb hts wX6 hown hK hm hM_3 rfl 1 (by decide) f7 (fun _ h9 => h9) rfl dX6_makeTree_97 ?_
    refine lv_iload_n hx hb dX6_makeTree_100 rfl (lv_at hl 1 rfl) ?_
    refine m_iald hx hb hK hm 0 hcn_3 rfl (vp_in_nI (by omega) (by decide)) dX6_makeTree_101 ?_
    obtain ⟨u2, hu2, eu2⟩ := hrC_3 (2 + (5 * t9))
    refine W.eq (g2 := F0 m 102 ls [.int (nI u2), .int (nI (100 * (2 + (5 * t9)))), .int (nI j91)]) (by rw [show (fcn_3 ((nI (2 + (5 * t9)))).toNatClampNeg) = nI u2 from (congrArg fcn_3 (show ((nI (2 + (5 * t9)))).toNatClampNeg = (2 + (5 * t9)) from nI_clamp (by omega))).trans eu2]) ?_
    have hb_u2 := hu2
    have hu2 : u2 ≤ 100 := Nat.le_trans hu2 (bC_le _)
    have hsu2 : u2 ≤ 60 := Nat.le_trans hb_u2 (bC_60 (by omega))
    refine lv_iadd hx hb dX6_makeTree_102 ?_
    refine W.eq (g2 := F0 m 103 ls [.int (nI ((100 * (2 + (5 * t9))) + u2)), .int (nI j91)]) (by rw [show (((nI (100 * (2 + (5 * t9))))) + ((nI u2)) : Int32) = nI ((100 * (2 + (5 * t9))) + u2) from nI_add (100 * (2 + (5 * t9))) u2]) ?_
    refine lv_icmp_ge (tgt := 293) hx hb dX6_makeTree_103 (by decide) (fun c3 => ?_) (fun c3 => ?_)
    · have hqc3 : ((100 * (2 + (5 * t9))) + u2) ≤ j91 := nb_le (a := ((100 * (2 + (5 * t9))) + u2)) (b := j91) (by omega) (by omega) c3
      refine lv_aload_n hx hb dX6_makeTree_293 rfl (lv_at hl 2 rfl) ?_
      have hI0 : mI k Ml91 mo cn ia dr en la wo op mk ir se ec lc wc ol al dn md := ⟨_, _, _, _, _, _, _, fcn_3, fia_3, fdr_3, fen_3, fla_3, fwo_3, fop, fmk, fir, fse_3, fec_3, flc_3, fol_2, fal, fwc_3, hap, hM_3, hmd_3, ⟨hrC_3, hrL_3, hrM⟩, hcn_3, hia_3, hdr_3, hen_3, hla_3, hwo_3, kop_3, kmk_3, kir_3, hse_3, hec_3, hlc_3, hwc_3, kol_3, kal_3⟩
      refine m_kV (As := []) (rest := []) (rm := { frames := 1, cells := 0, slots := 0, locals := 24 }) ⟨hx, hb, hml, hown, hts⟩ (s_X6_sweep l D k z _ mo cn ia dr en la wo op mk ir se ec lc wc ol al dn md hmd0 hI0) (cwV 0 hts gX6_makeTree_X6_sweep rfl rfl rfl (by decide +kernel) ⟨Nat.le_of_ble_eq_true rfl, Nat.le_of_ble_eq_true rfl⟩) (m_recv hK hm (q := (RX6, TX6, 24)) rfl hM_3) hz hcx hm hS rfl hl.1 rfl (Nat.le_of_ble_eq_true rfl) dX6_makeTree_294 ⟨Nat.le_of_ble_eq_true rfl, Nat.le_of_ble_eq_true rfl⟩ (fun v M1 H locs hv hm hS => ?_)
      obtain ⟨hv1, hI9, hk9⟩ := hv
      obtain ⟨cd_4, ni_4, pw_4, cm_4, wr_4, cs_4, hm9_4, fcn_4, fia_4, fdr_4, fen_4, fla_4, fwo_4, fop_4, fmk_4, fir_4, fse_4, fec_4, flc_4, fol_4, fal_4, fwc_4, -, hM_4, hmd_4, ⟨hrC_4, hrL_4, hrM_4⟩, hcn_4, hia_4, hdr_4, hen_4, hla_4, hwo_4, hop_4, hmk_4, hir_4, hse_4, hec_4, hlc_4, hwc_4, hol_4, hal_4⟩ := id hI9
      have hkp := hkp.trans hk9
      obtain ⟨Mc2, hMx⟩ : ∃ x : mM, x = M1 := ⟨M1, rfl⟩
      subst hMx
      subst hv1
      refine W.eq (g2 := F0 m 297 ls []) rfl ?_
      refine W.widen (k := 0) (n := 0) (Nat.le_of_ble_eq_true rfl) (Nat.le_of_ble_eq_true rfl) ?_
      have hm : mm D (AZ z) Mc2 H := hm
      refine W.vret hx hb hr (fun t ht hW => ⟨⟨none, _, rfl, ?_, by rw [ht]; exact hm⟩, hS.F ht⟩) hS.2.2 dX6_makeTree_297
      exact ⟨rfl, ⟨_, _, _, _, _, _, _, fcn_4, fia_4, fdr_4, fen_4, fla_4, fwo_4, fop_4, fmk_4, fir_4, fse_4, fec_4, flc_4, fol_4, fal_4, fwc_4, hap, hM_4, hmd_4, ⟨hrC_4, hrL_4, hrM_4⟩, hcn_4, hia_4, hdr_4, hen_4, hla_4, hwo_4, hop_4, hmk_4, hir_4, hse_4, hec_4, hlc_4, hwc_4, hol_4, hal_4⟩, hkp⟩
    · have hqc3 : j91 < ((100 * (2 + (5 * t9))) + u2) := nb_nle (a := ((100 * (2 + (5 * t9))) + u2)) (b := j91) (by omega) (by omega) c3
      refine lv_aload_n hx hb dX6_makeTree_106 rfl (lv_at hl 2 rfl) ?_
      refine lv_iconst (v := 1) hx hb dX6_makeTree_107 (by decide) ?_
      refine lv_iconst (v := 5) hx hb dX6_makeTree_108 (by decide) ?_
      refine lv_iload_n hx hb dX6_makeTree_109 rfl (lv_at hl 3 rfl) ?_
      refine lv_imul hx hb dX6_makeTree_110 ?_
      refine W.eq (g2 := F0 m 111 ls [.int (nI (5 * t9)), .int 1, .ref mo]) (by rw [show ((5) * ((nI t9)) : Int32) = nI (5 * t9) from pk_mul 5 t9]) ?_
      refine lv_iadd hx hb dX6_makeTree_111 ?_
      refine W.eq (g2 := F0 m 112 ls [.int (nI (1 + (5 * t9))), .ref mo]) (by rw [show ((1) + ((nI (5 * t9))) : Int32) = nI (1 + (5 * t9)) from nI_add 1 (5 * t9)]) ?_
      refine lv_aload_n hx hb dX6_makeTree_112 rfl (lv_at hl 2 rfl) ?_
      refine m_get (T := TX6) (N := 24) (ci := 6) (v := .ref ia) hx hb hts wX6 hown hK hm hM_3 rfl 2 (by decide) f13 (fun _ h9 => h9) rfl dX6_makeTree_113 ?_
      refine lv_iload_n hx hb dX6_makeTree_116 rfl (lv_at hl 0 rfl) ?_
      refine m_iald hx hb hK hm 0 hia_3 rfl (vp_in_nI (by omega) (by decide)) dX6_makeTree_117 ?_
      have hI0 : mI k Ml91 mo cn ia dr en la wo op mk ir se ec lc wc ol al dn md := ⟨_, _, _, _, _, _, _, fcn_3, fia_3, fdr_3, fen_3, fla_3, fwo_3, fop, fmk, fir, fse_3, fec_3, flc_3, fol_2, fal, fwc_3, hap, hM_3, hmd_3, ⟨hrC_3, hrL_3, hrM⟩, hcn_3, hia_3, hdr_3, hen_3, hla_3, hwo_3, kop_3, kmk_3, kir_3, hse_3, hec_3, hlc_3, hwc_3, kol_3, kal_3⟩
      refine m_kV (As := [.int (nI (1 + (5 * t9))), .int (fia_3 ((nI j91)).toNatClampNeg)]) (rest := []) (rm := { frames := 0, cells := 0, slots := 0, locals := 0 }) ⟨hx, hb, hml, hown, hts⟩ (x_X6_find l D k z _ mo cn ia dr en la wo op mk ir se ec lc wc ol al dn md (1 + (5 * t9)) (by omega) (fia_3 ((nI j91)).toNatClampNeg) hI0) (cwV 2 hts gX6_makeTree_X6_find rfl rfl rfl (by decide +kernel) ⟨Nat.le_of_ble_eq_true rfl, Nat.le_of_ble_eq_true rfl⟩) (m_recv hK hm (q := (RX6, TX6, 24)) rfl hM_3) hz hcx hm hS rfl hl.1 rfl (Nat.le_of_ble_eq_true rfl) dX6_makeTree_118 ⟨Nat.le_of_ble_eq_true rfl, Nat.le_of_ble_eq_true rfl⟩ (fun v M1 H locs hv hm hS => ?_)
      obtain ⟨⟨f102, hv1, hf102⟩, hM1⟩ := hv
      rw [hM1] at hm
      subst hv1
      rcases hf102 with hf102 | ⟨nb102, uc102, g102, hg102, hgu102, hgb102, hb102a, hb102b, hf102⟩
      · subst hf102
        refine W.eq (g2 := F0 m 121 ls [.int (-1)]) rfl ?_
        refine W.widen (k := 0) (n := 0) (Nat.le_of_ble_eq_true rfl) (Nat.le_of_ble_eq_true rfl) ?_
        have hm : mm D (AZ z) Ml91 H := hm
        refine lv_istore (lv' := [(4, .int (-1)), (3, .int (nI j91)), (2, .int (nI (2 + (5 * t9)))), (0, .ref mo), (1, .int (nI t9))]) hx hb dX6_makeTree_121 hl (by decide) rfl (fun ls hl => ?_)
        refine lv_aload_n hx hb dX6_makeTree_123 rfl (lv_at hl 3 rfl) ?_
        refine lv_bipush (v := 31) hx hb dX6_makeTree_124 (by decide) ?_
        refine lv_aload_n hx hb dX6_makeTree_126 rfl (lv_at hl 3 rfl) ?_
        refine m_get (T := TX6) (N := 24) (ci := 6) (v := .ref ia) hx hb hts wX6 hown hK hm hM_3 rfl 2 (by decide) f13 (fun _ h9 => h9) rfl dX6_makeTree_127 ?_
        refine lv_iload_n hx hb dX6_makeTree_130 rfl (lv_at hl 1 rfl) ?_
        refine m_iald hx hb hK hm 0 hia_3 rfl (vp_in_nI (by omega) (by decide)) dX6_makeTree_131 ?_
        have hI0 : mI k Ml91 mo cn ia dr en la wo op mk ir se ec lc wc ol al dn md := ⟨_, _, _, _, _, _, _, fcn_3, fia_3, fdr_3, fen_3, fla_3, fwo_3, fop, fmk, fir, fse_3, fec_3, flc_3, fol_2, fal, fwc_3, hap, hM_3, hmd_3, ⟨hrC_3, hrL_3, hrM⟩, hcn_3, hia_3, hdr_3, hen_3, hla_3, hwo_3, kop_3, kmk_3, kir_3, hse_3, hec_3, hlc_3, hwc_3, kol_3, kal_3⟩
        refine m_kV (As := [.int 31, .int (fia_3 ((nI j91)).toNatClampNeg)]) (rest := []) (rm := { frames := 0, cells := 0, slots := 0, locals := 0 }) ⟨hx, hb, hml, hown, hts⟩ (x_X6_find l D k z _ mo cn ia dr en la wo op mk ir se ec lc wc ol al dn md 31 (by omega) (fia_3 ((nI j91)).toNatClampNeg) hI0) (cwV 2 hts gX6_makeTree_X6_find rfl rfl rfl (by decide +kernel) ⟨Nat.le_of_ble_eq_true rfl, Nat.le_of_ble_eq_true rfl⟩) (m_recv hK hm (q := (RX6, TX6, 24)) rfl hM_3) hz hcx hm hS rfl hl.1 rfl (Nat.le_of_ble_eq_true rfl) dX6_makeTree_132 ⟨Nat.le_of_ble_eq_true rfl, Nat.le_of_ble_eq_true rfl⟩ (fun v M1 H locs hv hm hS => ?_)
        obtain ⟨⟨f103, hv1, hf103⟩, hM1⟩ := hv
        rw [hM1] at hm
        subst hv1
        rcases hf103 with hf103 | ⟨nb103, uc103, g103, hg103, hgu103, hgb103, hb103a, hb103b, hf103⟩
        · subst hf103
          refine W.eq (g2 := F0 m 135 ls [.int (-1)]) rfl ?_
          refine W.widen (k := 0) (n := 0) (Nat.le_of_ble_eq_true rfl) (Nat.le_of_ble_eq_true rfl) ?_
          have hm : mm D (AZ z) Ml91 H := hm
          refine lv_istore (lv' := [(5, .int (-1)), (4, .int (-1)), (3, .int (nI j91)), (2, .int (nI (2 + (5 * t9)))), (0, .ref mo), (1, .int (nI t9))]) hx hb dX6_makeTree_135 hl (by decide) rfl (fun ls hl => ?_)
          refine lv_iload hx hb dX6_makeTree_137 (lv_at hl 1 rfl) ?_
          refine lv_if_ge (tgt := 154) hx hb dX6_makeTree_139 (by decide) (fun c4 => ?_) (fun c4 => ?_)
          · first | exact absurd c4 (by decide) | exact absurd (by decide) c4
          · refine lv_iload hx hb dX6_makeTree_142 (lv_at hl 0 rfl) ?_
            refine lv_if_ge (tgt := 154) hx hb dX6_makeTree_144 (by decide) (fun c5 => ?_) (fun c5 => ?_)
            · first | exact absurd c5 (by decide) | exact absurd (by decide) c5
            · refine lv_aload_n hx hb dX6_makeTree_147 rfl (lv_at hl 4 rfl) ?_
              refine lv_iload_n hx hb dX6_makeTree_148 rfl (lv_at hl 2 rfl) ?_
              have hI0 : mI k Ml91 mo cn ia dr en la wo op mk ir se ec lc wc ol al dn md := ⟨_, _, _, _, _, _, _, fcn_3, fia_3, fdr_3, fen_3, fla_3, fwo_3, fop, fmk, fir, fse_3, fec_3, flc_3, fol_2, fal, fwc_3, hap, hM_3, hmd_3, ⟨hrC_3, hrL_3, hrM⟩, hcn_3, hia_3, hdr_3, hen_3, hla_3, hwo_3, kop_3, kmk_3, kir_3, hse_3, hec_3, hlc_3, hwc_3, kol_3, kal_3⟩
              refine m_kV (As := [.int (nI j91)]) (rest := []) (rm := { frames := 0, cells := 0, slots := 0, locals := 0 }) ⟨hx, hb, hml, hown, hts⟩ (x_X6_addNode l D k z _ mo cn ia dr en la wo op mk ir se ec lc wc ol al dn md j91 (40 + (j91 - 100 * (2 + 5 * t9))) (by omega) (by omega) (hc31.of ((hcn_3).trans (hcn_3).symm)) hmd0 hI0) (cwV 1 hts gX6_makeTree_X6_addNode rfl rfl rfl (by decide +kernel) ⟨Nat.le_of_ble_eq_true rfl, Nat.le_of_ble_eq_true rfl⟩) (m_recv hK hm (q := (RX6, TX6, 24)) rfl hM_3) hz hcx hm hS rfl hl.1 rfl (Nat.le_of_ble_eq_true rfl) dX6_makeTree_149 ⟨Nat.le_of_ble_eq_true rfl, Nat.le_of_ble_eq_true rfl⟩ (fun v M1 H locs hv hm hS => ?_)
              obtain ⟨hv1, hI9, hk9⟩ := hv
              obtain ⟨cd_5, ni_5, pw_5, cm_5, wr_5, cs_5, hm9_5, fcn_5, fia_5, fdr_5, fen_5, fla_5, fwo_5, _, _, _, fse_5, _, _, _, _, _, -, hM_5, hmd_5, ⟨hrC_5, hrL_5, -⟩, hcn_5, hia_5, hdr_5, hen_5, hla_5, hwo_5, -, -, -, hse_5, -, -, -, -, -⟩ := id hI9
              have kop_5 := hk9 _ _ (by simp only [List.mem_cons, List.not_mem_nil, or_false, not_or]; exact ⟨ne_op_mo, ne_op_cn, ne_op_ia, ne_op_dr, ne_op_la, ne_op_en, ne_op_wo, ne_op_se⟩) kop_3
              have kmk_5 := hk9 _ _ (by simp only [List.mem_cons, List.not_mem_nil, or_false, not_or]; exact ⟨ne_mk_mo, ne_mk_cn, ne_mk_ia, ne_mk_dr, ne_mk_la, ne_mk_en, ne_mk_wo, ne_mk_se⟩) kmk_3
              have kir_5 := hk9 _ _ (by simp only [List.mem_cons, List.not_mem_nil, or_false, not_or]; exact ⟨ne_ir_mo, ne_ir_cn, ne_ir_ia, ne_ir_dr, ne_ir_la, ne_ir_en, ne_ir_wo, ne_ir_se⟩) kir_3
              have kec_5 := hk9 _ _ (by simp only [List.mem_cons, List.not_mem_nil, or_false, not_or]; exact ⟨ne_ec_mo, ne_ec_cn, ne_ec_ia, ne_ec_dr, ne_ec_la, ne_ec_en, ne_ec_wo, ne_ec_se⟩) hec_3
              have klc_5 := hk9 _ _ (by simp only [List.mem_cons, List.not_mem_nil, or_false, not_or]; exact ⟨ne_lc_mo, ne_lc_cn, ne_lc_ia, ne_lc_dr, ne_lc_la, ne_lc_en, ne_lc_wo, ne_lc_se⟩) hlc_3
              have kwc_5 := hk9 _ _ (by simp only [List.mem_cons, List.not_mem_nil, or_false, not_or]; exact ⟨ne_wc_mo, ne_wc_cn, ne_wc_ia, ne_wc_dr, ne_wc_la, ne_wc_en, ne_wc_wo, ne_wc_se⟩) hwc_3
              have kol_5 := hk9 _ _ (by simp only [List.mem_cons, List.not_mem_nil, or_false, not_or]; exact ⟨ne_ol_mo, ne_ol_cn, ne_ol_ia, ne_ol_dr, ne_ol_la, ne_ol_en, ne_ol_wo, ne_ol_se⟩) kol_3
              have kal_5 := hk9 _ _ (by simp only [List.mem_cons, List.not_mem_nil, or_false, not_or]; exact ⟨ne_al_mo, ne_al_cn, ne_al_ia, ne_al_dr, ne_al_la, ne_al_en, ne_al_wo, ne_al_se⟩) kal_3
              have hkp := hkp.trans (hk9.mono (fun a ha => by simp only [List.mem_cons, List.not_mem_nil, or_false] at ha ⊢; rcases ha with q9 | q9 | q9 | q9 | q9 | q9 | q9 | q9 <;> simp [q9]))
              have hkl91 := hkl91.trans (hk9.mono (fun a ha => by simp only [List.mem_cons, List.not_mem_nil, or_false] at ha ⊢; rcases ha with q9 | q9 | q9 | q9 | q9 | q9 | q9 | q9 <;> simp [q9]))
              obtain ⟨Mc3, hMx⟩ : ∃ x : mM, x = M1 := ⟨M1, rfl⟩
              subst hMx
              obtain ⟨⟨r9, hv1, hr9a, hr9b⟩, hc32⟩ := hv1
              subst hv1
              refine W.eq (g2 := F0 m 152 ls [.int (nI r9)]) rfl ?_
              refine W.widen (k := 0) (n := 0) (Nat.le_of_ble_eq_true rfl) (Nat.le_of_ble_eq_true rfl) ?_
              have hm : mm D (AZ z) Mc3 H := hm
              refine lv_istore (lv' := [(5, .int (nI r9)), (4, .int (-1)), (3, .int (nI j91)), (2, .int (nI (2 + (5 * t9)))), (0, .ref mo), (1, .int (nI t9))]) hx hb dX6_makeTree_152 hl (by decide) rfl (fun ls hl => ?_)
              refine lv_iconst (v := 0) hx hb dX6_makeTree_154 (by decide) ?_
              refine lv_istore (lv' := [(6, .int 0), (5, .int (nI r9)), (4, .int (-1)), (3, .int (nI j91)), (2, .int (nI (2 + (5 * t9)))), (0, .ref mo), (1, .int (nI t9))]) hx hb dX6_makeTree_155 hl (by decide) rfl (fun ls hl => ?_)
              have hI0 : mI k Mc3 mo cn ia dr en la wo op mk ir se ec lc wc ol al dn md := ⟨_, _, _, _, _, _, _, fcn_5, fia_5, fdr_5, fen_5, fla_5, fwo_5, fop, fmk, fir, fse_5, fec_3, flc_3, fol_2, fal, fwc_3, hap, hM_5, hmd_5, ⟨hrC_5, hrL_5, hrM⟩, hcn_5, hia_5, hdr_5, hen_5, hla_5, hwo_5, kop_5, kmk_5, kir_5, hse_5, kec_5, klc_5, kwc_5, kol_5, kal_5⟩
              refine W_loop (σ := Nat × mM) (fun ⟨j157, Ml157⟩ H locs ls => (0 ≤ j157 ∧ j157 < 2147483000) ∧ (mI k Ml157 mo cn ia dr en la wo op mk ir se ec lc wc ol al dn md) ∧ (kpx (fun a => a ∈ [mo, cn, ia, dr, en, la, wo, op, mk, ir, se, ec, lc, wc, ol, al]) M Ml157) ∧ (kpx (fun a => a ∈ [mo, en, la, wo, ec, lc, wc]) Mc3 Ml157) ∧ mm D (AZ z) Ml157 H ∧ va_S (AZ z) s.heap H locs ∧ lv_has ls 8 [(6, .int (nI j157)), (5, .int (nI r9)), (4, .int (-1)), (3, .int (nI j91)), (2, .int (nI (2 + (5 * t9)))), (0, .ref mo), (1, .int (nI t9))]) (fun ⟨j157, Ml157⟩ => 2147483648 - j157) (fun _ => 0) (fun _ => 0) ?_ (0, Mc3) _ _ _ ⟨⟨Nat.le_refl _, by omega⟩, hI0, hkp, (kpx.refl _ _), hm, hS, lv_sub hl [0, 1, 2, 3, 4, 5, 6] rfl⟩
              intro ⟨j157, Ml157⟩ H locs ls hQ ih157
              obtain ⟨hj157, hI, hkp, hkl157, hm, hS, hl⟩ := hQ
              try dsimp only at hm hl ih157 hj157 hI hkp hkl157 ⊢
              obtain ⟨cd_6, ni_6, pw_6, cm_6, wr_6, cs_6, hm9_6, _, _, _, fen_6, fla_6, fwo_6, _, _, _, _, fec_6, flc_6, _, _, fwc_6, -, hM_6, hmd_6, ⟨-, hrL_6, -⟩, -, -, -, hen_6, hla_6, hwo_6, -, -, -, -, hec_6, hlc_6, hwc_6, -, -⟩ := id hI
              have kcn_6 := hkl157 _ _ (by simp only [List.mem_cons, List.not_mem_nil, or_false, not_or]; exact ⟨ne_cn_mo, ne_cn_en, ne_cn_la, ne_cn_wo, ne_cn_ec, ne_cn_lc, ne_cn_wc⟩) hcn_5
              have kia_6 := hkl157 _ _ (by simp only [List.mem_cons, List.not_mem_nil, or_false, not_or]; exact ⟨ne_ia_mo, ne_ia_en, ne_ia_la, ne_ia_wo, ne_ia_ec, ne_ia_lc, ne_ia_wc⟩) hia_5
              have kdr_6 := hkl157 _ _ (by simp only [List.mem_cons, List.not_mem_nil, or_false, not_or]; exact ⟨ne_dr_mo, ne_dr_en, ne_dr_la, ne_dr_wo, ne_dr_ec, ne_dr_lc, ne_dr_wc⟩) hdr_5
              have kop_6 := hkl157 _ _ (by simp only [List.mem_cons, List.not_mem_nil, or_false, not_or]; exact ⟨ne_op_mo, ne_op_en, ne_op_la, ne_op_wo, ne_op_ec, ne_op_lc, ne_op_wc⟩) kop_5
              have kmk_6 := hkl157 _ _ (by simp only [List.mem_cons, List.not_mem_nil, or_false, not_or]; exact ⟨ne_mk_mo, ne_mk_en, ne_mk_la, ne_mk_wo, ne_mk_ec, ne_mk_lc, ne_mk_wc⟩) kmk_5
              have kir_6 := hkl157 _ _ (by simp only [List.mem_cons, List.not_mem_nil, or_false, not_or]; exact ⟨ne_ir_mo, ne_ir_en, ne_ir_la, ne_ir_wo, ne_ir_ec, ne_ir_lc, ne_ir_wc⟩) kir_5
              have kse_6 := hkl157 _ _ (by simp only [List.mem_cons, List.not_mem_nil, or_false, not_or]; exact ⟨ne_se_mo, ne_se_en, ne_se_la, ne_se_wo, ne_se_ec, ne_se_lc, ne_se_wc⟩) hse_5
              have kol_6 := hkl157 _ _ (by simp only [List.mem_cons, List.not_mem_nil, or_false, not_or]; exact ⟨ne_ol_mo, ne_ol_en, ne_ol_la, ne_ol_wo, ne_ol_ec, ne_ol_lc, ne_ol_wc⟩) kol_5
              have kal_6 := hkl157 _ _ (by simp only [List.mem_cons, List.not_mem_nil, or_false, not_or]; exact ⟨ne_al_mo, ne_al_en, ne_al_la, ne_al_wo, ne_al_ec, ne_al_lc, ne_al_wc⟩) kal_5
              have hkl91 := hkl91.trans (hkl157.mono (fun a ha => by simp only [List.mem_cons, List.not_mem_nil, or_false] at ha ⊢; rcases ha with q9 | q9 | q9 | q9 | q9 | q9 | q9 <;> simp [q9]))
              refine lv_iload hx hb dX6_makeTree_157 (lv_at hl 0 rfl) ?_
              refine lv_bipush (v := 95) hx hb dX6_makeTree_159 (by decide) ?_
              refine lv_icmp_ge (tgt := 287) hx hb dX6_makeTree_161 (by decide) (fun c6 => ?_) (fun c6 => ?_)
              · have hqc6 : 95 ≤ j157 := nb_le (a := 95) (b := j157) (by omega) (by omega) c6
                refine lv_iinc (v := ((nI j91) + 1)) (lv' := [(3, .int ((nI j91) + 1)), (6, .int (nI j157)), (5, .int (nI r9)), (4, .int (-1)), (2, .int (nI (2 + (5 * t9)))), (0, .ref mo), (1, .int (nI t9))]) hx hb dX6_makeTree_287 hl (k := 3) rfl rfl (by decide) rfl (fun ls hl => ?_)
                refine lv_goto (tgt := 91) hx hb dX6_makeTree_290 (by decide) ?_
                rw [nI_1] at hl
                exact ih91 (j91 + 1, Ml157) _ _ _ ⟨⟨by omega, by omega⟩, ⟨_, _, _, _, _, _, _, fcn_5, fia_5, fdr_5, fen_6, fla_6, fwo_6, fop, fmk, fir, fse_5, fec_6, flc_6, fol_2, fal, fwc_6, hap, hM_6, hmd_5, ⟨hrC_5, hrL_6, hrM⟩, kcn_6, kia_6, kdr_6, hen_6, hla_6, hwo_6, kop_6, kmk_6, kir_6, kse_6, hec_6, hlc_6, hwc_6, kol_6, kal_6⟩, hkp, hkl91, ((hc32.of ((kcn_6).trans (hcn_5).symm)).up (by omega)), hm, hS, lv_sub hl [0, 4, 5, 6] rfl⟩ (by show 2147483648 - (j91 + 1) < 2147483648 - j91; omega)
              · have hqc6 : j157 < 95 := nb_nle (a := 95) (b := j157) (by omega) (by omega) c6
                refine lv_iload hx hb dX6_makeTree_164 (lv_at hl 1 rfl) ?_
                refine lv_if_lt (tgt := 287) hx hb dX6_makeTree_166 (by decide) (fun c7 => ?_) (fun c7 => ?_)
                · have hqc7 : r9 < 0 := nb_lt (a := r9) (b := 0) (by omega) (by omega) c7
                  omega
                · have hqc7 : 0 ≤ r9 := nb_nlt (a := r9) (b := 0) (by omega) (by omega) c7
                  refine lv_aload_n hx hb dX6_makeTree_169 rfl (lv_at hl 5 rfl) ?_
                  refine m_get (T := TX6) (N := 24) (ci := 6) (v := .ref dr) hx hb hts wX6 hown hK hm hM_6 rfl 3 (by decide) f16 (fun _ h9 => h9) rfl dX6_makeTree_170 ?_
                  refine lv_iload_n hx hb dX6_makeTree_173 rfl (lv_at hl 3 rfl) ?_
                  refine m_zald hx hb hK hm 2 kdr_6 rfl (vp_in_nI (by omega) (by decide)) dX6_makeTree_174 ?_
                  refine lv_iload hx hb dX6_makeTree_175 (lv_at hl 0 rfl) ?_
                  refine m_kS (As := [.int (fdr_5 ((nI j91)).toNatClampNeg), .int (nI j157)]) (rest := []) (rm := { frames := 0, cells := 0, slots := 0, locals := 0 }) ⟨hx, hb, hml, hown, hts⟩ (s_X6_hasCode l D k z _ (fdr_5 ((nI j91)).toNatClampNeg) (nI j157)) (cwS 2 hts gX6_makeTree_X6_hasCode rfl rfl rfl (by decide +kernel) ⟨Nat.le_of_ble_eq_true rfl, Nat.le_of_ble_eq_true rfl⟩) hz hcx hm hS rfl hl.1 rfl (Nat.le_of_ble_eq_true rfl) dX6_makeTree_177 ⟨Nat.le_of_ble_eq_true rfl, Nat.le_of_ble_eq_true rfl⟩ (fun v M1 H locs hv hm hS => ?_)
                  obtain ⟨⟨w8, hv1⟩, hM1⟩ := hv
                  rw [hM1] at hm
                  subst hv1
                  refine W.eq (g2 := F0 m 180 ls [.int w8]) rfl ?_
                  refine W.widen (k := 0) (n := 0) (Nat.le_of_ble_eq_true rfl) (Nat.le_of_ble_eq_true rfl) ?_
                  have hm : mm D (AZ z) Ml157 H := hm
                  refine lv_if_eq (tgt := 201) hx hb dX6_makeTree_180 (by decide) (fun c9 => ?_) (fun c9 => ?_)
                  · refine lv_iconst (v := 0) hx hb dX6_makeTree_201 (by decide) ?_
                    refine lv_istore (lv' := [(7, .int 0), (6, .int (nI j157)), (5, .int (nI r9)), (4, .int (-1)), (3, .int (nI j91)), (2, .int (nI (2 + (5 * t9)))), (0, .ref mo), (1, .int (nI t9))]) hx hb dX6_makeTree_202 hl (by decide) rfl (fun ls hl => ?_)
                    refine lv_iload hx hb dX6_makeTree_204 (lv_at hl 0 rfl) ?_
                    refine lv_if_eq (tgt := 281) hx hb dX6_makeTree_206 (by decide) (fun c10 => ?_) (fun c10 => ?_)
                    · refine lv_iinc (v := ((nI j157) + 1)) (lv' := [(6, .int ((nI j157) + 1)), (7, .int 0), (5, .int (nI r9)), (4, .int (-1)), (3, .int (nI j91)), (2, .int (nI (2 + (5 * t9)))), (0, .ref mo), (1, .int (nI t9))]) hx hb dX6_makeTree_281 hl (k := 1) rfl rfl (by decide) rfl (fun ls hl => ?_)
                      refine lv_goto (tgt := 157) hx hb dX6_makeTree_284 (by decide) ?_
                      rw [nI_1] at hl
                      exact ih157 (j157 + 1, Ml157) _ _ _ ⟨⟨by omega, by omega⟩, ⟨_, _, _, _, _, _, _, fcn_5, fia_5, fdr_5, fen_6, fla_6, fwo_6, fop, fmk, fir, fse_5, fec_6, flc_6, fol_2, fal, fwc_6, hap, hM_6, hmd_5, ⟨hrC_5, hrL_6, hrM⟩, kcn_6, kia_6, kdr_6, hen_6, hla_6, hwo_6, kop_6, kmk_6, kir_6, kse_6, hec_6, hlc_6, hwc_6, kol_6, kal_6⟩, hkp, hkl157, hm, hS, lv_sub hl [0, 2, 3, 4, 5, 6, 7] rfl⟩ (by show 2147483648 - (j157 + 1) < 2147483648 - j157; omega)
                    · first | exact absurd c10 (by decide) | exact absurd (by decide) c10
                  · refine lv_iload hx hb dX6_makeTree_183 (lv_at hl 0 rfl) ?_
                    refine lv_bipush (v := 15) hx hb dX6_makeTree_185 (by decide) ?_
                    refine lv_icmp_lt (tgt := 197) hx hb dX6_makeTree_187 (by decide) (fun c11 => ?_) (fun c11 => ?_)
                    · have hqc11 : j157 < 15 := nb_lt (a := j157) (b := 15) (by omega) (by omega) c11
                      refine lv_iconst (v := 1) hx hb dX6_makeTree_197 (by decide) ?_
                      refine lv_goto (tgt := 202) hx hb dX6_makeTree_198 (by decide) ?_
                      refine lv_istore (lv' := [(7, .int 1), (6, .int (nI j157)), (5, .int (nI r9)), (4, .int (-1)), (3, .int (nI j91)), (2, .int (nI (2 + (5 * t9)))), (0, .ref mo), (1, .int (nI t9))]) hx hb dX6_makeTree_202 hl (by decide) rfl (fun ls hl => ?_)
                      refine lv_iload hx hb dX6_makeTree_204 (lv_at hl 0 rfl) ?_
                      refine lv_if_eq (tgt := 281) hx hb dX6_makeTree_206 (by decide) (fun c12 => ?_) (fun c12 => ?_)
                      · first | exact absurd c12 (by decide) | exact absurd (by decide) c12
                      · refine lv_aload_n hx hb dX6_makeTree_209 rfl (lv_at hl 6 rfl) ?_
                        refine lv_iload_n hx hb dX6_makeTree_210 rfl (lv_at hl 4 rfl) ?_
                        refine lv_iload hx hb dX6_makeTree_211 (lv_at hl 1 rfl) ?_
                        have hI0 : mI k Ml157 mo cn ia dr en la wo op mk ir se ec lc wc ol al dn md := ⟨_, _, _, _, _, _, _, fcn_5, fia_5, fdr_5, fen_6, fla_6, fwo_6, fop, fmk, fir, fse_5, fec_6, flc_6, fol_2, fal, fwc_6, hap, hM_6, hmd_5, ⟨hrC_5, hrL_6, hrM⟩, kcn_6, kia_6, kdr_6, hen_6, hla_6, hwo_6, kop_6, kmk_6, kir_6, kse_6, hec_6, hlc_6, hwc_6, kol_6, kal_6⟩
                        refine m_kV (As := [.int (nI j91), .int (nI j157)]) (rest := []) (rm := { frames := 0, cells := 0, slots := 0, locals := 0 }) ⟨hx, hb, hml, hown, hts⟩ (s_X6_valueOf l D k z _ mo cn ia dr en la wo op mk ir se ec lc wc ol al dn md j91 j157 (by omega) (by omega) hI0) (cwV 2 hts gX6_makeTree_X6_valueOf rfl rfl rfl (by decide +kernel) ⟨Nat.le_of_ble_eq_true rfl, Nat.le_of_ble_eq_true rfl⟩) (m_recv hK hm (q := (RX6, TX6, 24)) rfl hM_6) hz hcx hm hS rfl hl.1 rfl (Nat.le_of_ble_eq_true rfl) dX6_makeTree_213 ⟨Nat.le_of_ble_eq_true rfl, Nat.le_of_ble_eq_true rfl⟩ (fun v M1 H locs hv hm hS => ?_)
                        obtain ⟨⟨w13, hv1, ew13⟩, hM1⟩ := hv
                        rw [hM1] at hm
                        subst hv1
                        refine W.eq (g2 := F0 m 216 ls [.int w13]) rfl ?_
                        refine W.widen (k := 0) (n := 0) (Nat.le_of_ble_eq_true rfl) (Nat.le_of_ble_eq_true rfl) ?_
                        have hm : mm D (AZ z) Ml157 H := hm
                        refine lv_iload hx hb dX6_makeTree_216 (lv_at hl 3 rfl) ?_
                        refine lv_if_ge (tgt := 225) hx hb dX6_makeTree_218 (by decide) (fun c14 => ?_) (fun c14 => ?_)
                        · first | exact absurd c14 (by decide) | exact absurd (by decide) c14
                        · refine lv_iconst (v := 0) hx hb dX6_makeTree_221 (by decide) ?_
                          refine lv_goto (tgt := 233) hx hb dX6_makeTree_222 (by decide) ?_
                          refine lv_icmp_eq (tgt := 281) hx hb dX6_makeTree_233 (by decide) (fun c15 => ?_) (fun c15 => ?_)
                          · refine lv_iinc (v := ((nI j157) + 1)) (lv' := [(6, .int ((nI j157) + 1)), (7, .int 1), (5, .int (nI r9)), (4, .int (-1)), (3, .int (nI j91)), (2, .int (nI (2 + (5 * t9)))), (0, .ref mo), (1, .int (nI t9))]) hx hb dX6_makeTree_281 hl (k := 1) rfl rfl (by decide) rfl (fun ls hl => ?_)
                            refine lv_goto (tgt := 157) hx hb dX6_makeTree_284 (by decide) ?_
                            rw [nI_1] at hl
                            exact ih157 (j157 + 1, Ml157) _ _ _ ⟨⟨by omega, by omega⟩, ⟨_, _, _, _, _, _, _, fcn_5, fia_5, fdr_5, fen_6, fla_6, fwo_6, fop, fmk, fir, fse_5, fec_6, flc_6, fol_2, fal, fwc_6, hap, hM_6, hmd_5, ⟨hrC_5, hrL_6, hrM⟩, kcn_6, kia_6, kdr_6, hen_6, hla_6, hwo_6, kop_6, kmk_6, kir_6, kse_6, hec_6, hlc_6, hwc_6, kol_6, kal_6⟩, hkp, hkl157, hm, hS, lv_sub hl [0, 2, 3, 4, 5, 6, 7] rfl⟩ (by show 2147483648 - (j157 + 1) < 2147483648 - j157; omega)
                          · refine lv_aload_n hx hb dX6_makeTree_236 rfl (lv_at hl 6 rfl) ?_
                            refine lv_iload hx hb dX6_makeTree_237 (lv_at hl 2 rfl) ?_
                            refine lv_iload hx hb dX6_makeTree_239 (lv_at hl 1 rfl) ?_
                            have hI0 : mI k Ml157 mo cn ia dr en la wo op mk ir se ec lc wc ol al dn md := ⟨_, _, _, _, _, _, _, fcn_5, fia_5, fdr_5, fen_6, fla_6, fwo_6, fop, fmk, fir, fse_5, fec_6, flc_6, fol_2, fal, fwc_6, hap, hM_6, hmd_5, ⟨hrC_5, hrL_6, hrM⟩, kcn_6, kia_6, kdr_6, hen_6, hla_6, hwo_6, kop_6, kmk_6, kir_6, kse_6, hec_6, hlc_6, hwc_6, kol_6, kal_6⟩
                            refine m_kV (As := [.int (nI r9), .int (nI j157)]) (rest := []) (rm := { frames := 0, cells := 0, slots := 0, locals := 0 }) ⟨hx, hb, hml, hown, hts⟩ (s_X6_valueOf l D k z _ mo cn ia dr en la wo op mk ir se ec lc wc ol al dn md r9 j157 (by omega) (by omega) hI0) (cwV 2 hts gX6_makeTree_X6_valueOf rfl rfl rfl (by decide +kernel) ⟨Nat.le_of_ble_eq_true rfl, Nat.le_of_ble_eq_true rfl⟩) (m_recv hK hm (q := (RX6, TX6, 24)) rfl hM_6) hz hcx hm hS rfl hl.1 rfl (Nat.le_of_ble_eq_true rfl) dX6_makeTree_241 ⟨Nat.le_of_ble_eq_true rfl, Nat.le_of_ble_eq_true rfl⟩ (fun v M1 H locs hv hm hS => ?_)
                            obtain ⟨⟨w16, hv1, ew16⟩, hM1⟩ := hv
                            rw [hM1] at hm
                            subst hv1
                            refine W.eq (g2 := F0 m 244 ls [.int w16]) rfl ?_
                            refine W.widen (k := 0) (n := 0) (Nat.le_of_ble_eq_true rfl) (Nat.le_of_ble_eq_true rfl) ?_
                            have hm : mm D (AZ z) Ml157 H := hm
                            refine lv_aload_n hx hb dX6_makeTree_244 rfl (lv_at hl 6 rfl) ?_
                            refine lv_iload_n hx hb dX6_makeTree_245 rfl (lv_at hl 4 rfl) ?_
                            refine lv_iload hx hb dX6_makeTree_246 (lv_at hl 1 rfl) ?_
                            have hI0 : mI k Ml157 mo cn ia dr en la wo op mk ir se ec lc wc ol al dn md := ⟨_, _, _, _, _, _, _, fcn_5, fia_5, fdr_5, fen_6, fla_6, fwo_6, fop, fmk, fir, fse_5, fec_6, flc_6, fol_2, fal, fwc_6, hap, hM_6, hmd_5, ⟨hrC_5, hrL_6, hrM⟩, kcn_6, kia_6, kdr_6, hen_6, hla_6, hwo_6, kop_6, kmk_6, kir_6, kse_6, hec_6, hlc_6, hwc_6, kol_6, kal_6⟩
                            refine m_kV (As := [.int (nI j91), .int (nI j157)]) (rest := [.int w16]) (rm := { frames := 0, cells := 0, slots := 0, locals := 0 }) ⟨hx, hb, hml, hown, hts⟩ (s_X6_valueOf l D k z _ mo cn ia dr en la wo op mk ir se ec lc wc ol al dn md j91 j157 (by omega) (by omega) hI0) (cwV 2 hts gX6_makeTree_X6_valueOf rfl rfl rfl (by decide +kernel) ⟨Nat.le_of_ble_eq_true rfl, Nat.le_of_ble_eq_true rfl⟩) (m_recv hK hm (q := (RX6, TX6, 24)) rfl hM_6) hz hcx hm hS rfl hl.1 rfl (Nat.le_of_ble_eq_true rfl) dX6_makeTree_248 ⟨Nat.le_of_ble_eq_true rfl, Nat.le_of_ble_eq_true rfl⟩ (fun v M1 H locs hv hm hS => ?_)
                            obtain ⟨⟨w17, hv1, ew17⟩, hM1⟩ := hv
                            rw [hM1] at hm
                            subst hv1
                            refine W.eq (g2 := F0 m 251 ls [.int w17, .int w16]) rfl ?_
                            refine W.widen (k := 0) (n := 0) (Nat.le_of_ble_eq_true rfl) (Nat.le_of_ble_eq_true rfl) ?_
                            have hm : mm D (AZ z) Ml157 H := hm
                            refine lv_icmp_eq (tgt := 281) hx hb dX6_makeTree_251 (by decide) (fun c18 => ?_) (fun c18 => ?_)
                            · refine lv_iinc (v := ((nI j157) + 1)) (lv' := [(6, .int ((nI j157) + 1)), (7, .int 1), (5, .int (nI r9)), (4, .int (-1)), (3, .int (nI j91)), (2, .int (nI (2 + (5 * t9)))), (0, .ref mo), (1, .int (nI t9))]) hx hb dX6_makeTree_281 hl (k := 1) rfl rfl (by decide) rfl (fun ls hl => ?_)
                              refine lv_goto (tgt := 157) hx hb dX6_makeTree_284 (by decide) ?_
                              rw [nI_1] at hl
                              exact ih157 (j157 + 1, Ml157) _ _ _ ⟨⟨by omega, by omega⟩, ⟨_, _, _, _, _, _, _, fcn_5, fia_5, fdr_5, fen_6, fla_6, fwo_6, fop, fmk, fir, fse_5, fec_6, flc_6, fol_2, fal, fwc_6, hap, hM_6, hmd_5, ⟨hrC_5, hrL_6, hrM⟩, kcn_6, kia_6, kdr_6, hen_6, hla_6, hwo_6, kop_6, kmk_6, kir_6, kse_6, hec_6, hlc_6, hwc_6, kol_6, kal_6⟩, hkp, hkl157, hm, hS, lv_sub hl [0, 2, 3, 4, 5, 6, 7] rfl⟩ (by show 2147483648 - (j157 + 1) < 2147483648 - j157; omega)
                            · refine lv_aload_n hx hb dX6_makeTree_254 rfl (lv_at hl 6 rfl) ?_
                              refine lv_iload hx hb dX6_makeTree_255 (lv_at hl 2 rfl) ?_
                              refine lv_iload hx hb dX6_makeTree_257 (lv_at hl 1 rfl) ?_
                              refine lv_aload_n hx hb dX6_makeTree_259 rfl (lv_at hl 6 rfl) ?_
                              refine lv_iload_n hx hb dX6_makeTree_260 rfl (lv_at hl 4 rfl) ?_
                              refine lv_iload hx hb dX6_makeTree_261 (lv_at hl 1 rfl) ?_
                              have hI0 : mI k Ml157 mo cn ia dr en la wo op mk ir se ec lc wc ol al dn md := ⟨_, _, _, _, _, _, _, fcn_5, fia_5, fdr_5, fen_6, fla_6, fwo_6, fop, fmk, fir, fse_5, fec_6, flc_6, fol_2, fal, fwc_6, hap, hM_6, hmd_5, ⟨hrC_5, hrL_6, hrM⟩, kcn_6, kia_6, kdr_6, hen_6, hla_6, hwo_6, kop_6, kmk_6, kir_6, kse_6, hec_6, hlc_6, hwc_6, kol_6, kal_6⟩
                              refine m_kV (As := [.int (nI j91), .int (nI j157)]) (rest := [.int (nI j157), .int (nI r9), .ref mo]) (rm := { frames := 0, cells := 0, slots := 0, locals := 0 }) ⟨hx, hb, hml, hown, hts⟩ (s_X6_valueOf l D k z _ mo cn ia dr en la wo op mk ir se ec lc wc ol al dn md j91 j157 (by omega) (by omega) hI0) (cwV 2 hts gX6_makeTree_X6_valueOf rfl rfl rfl (by decide +kernel) ⟨Nat.le_of_ble_eq_true rfl, Nat.le_of_ble_eq_true rfl⟩) (m_recv hK hm (q := (RX6, TX6, 24)) rfl hM_6) hz hcx hm hS rfl hl.1 rfl (Nat.le_of_ble_eq_true rfl) dX6_makeTree_263 ⟨Nat.le_of_ble_eq_true rfl, Nat.le_of_ble_eq_true rfl⟩ (fun v M1 H locs hv hm hS => ?_)
                              obtain ⟨⟨w19, hv1, ew19⟩, hM1⟩ := hv
                              rw [hM1] at hm
                              subst hv1
                              refine W.eq (g2 := F0 m 266 ls [.int w19, .int (nI j157), .int (nI r9), .ref mo]) rfl ?_
                              refine W.widen (k := 0) (n := 0) (Nat.le_of_ble_eq_true rfl) (Nat.le_of_ble_eq_true rfl) ?_
                              have hm : mm D (AZ z) Ml157 H := hm
                              have hI0 : mI k Ml157 mo cn ia dr en la wo op mk ir se ec lc wc ol al dn md := ⟨_, _, _, _, _, _, _, fcn_5, fia_5, fdr_5, fen_6, fla_6, fwo_6, fop, fmk, fir, fse_5, fec_6, flc_6, fol_2, fal, fwc_6, hap, hM_6, hmd_5, ⟨hrC_5, hrL_6, hrM⟩, kcn_6, kia_6, kdr_6, hen_6, hla_6, hwo_6, kop_6, kmk_6, kir_6, kse_6, hec_6, hlc_6, hwc_6, kol_6, kal_6⟩
                              refine m_kV (As := [.int (nI r9), .int (nI j157), .int w19]) (rest := []) (rm := { frames := 0, cells := 0, slots := 0, locals := 0 }) ⟨hx, hb, hml, hown, hts⟩ (x_X6_setValue l D k z _ mo cn ia dr en la wo op mk ir se ec lc wc ol al dn md r9 j157 w19 (by omega) (by omega) (by omega) ew19 hI0) (cwV 3 hts gX6_makeTree_X6_setValue rfl rfl rfl (by decide +kernel) ⟨Nat.le_of_ble_eq_true rfl, Nat.le_of_ble_eq_true rfl⟩) (m_recv hK hm (q := (RX6, TX6, 24)) rfl hM_6) hz hcx hm hS rfl hl.1 rfl (Nat.le_of_ble_eq_true rfl) dX6_makeTree_266 ⟨Nat.le_of_ble_eq_true rfl, Nat.le_of_ble_eq_true rfl⟩ (fun v M1 H locs hv hm hS => ?_)
                              obtain ⟨hv1, hI9, hk9⟩ := hv
                              obtain ⟨_, _, _, _, _, _, _, _, _, _, fen_7, fla_7, fwo_7, _, _, _, _, _, _, _, _, _, -, -, hmd_7, ⟨-, hrL_7, -⟩, -, -, -, hen_7, hla_7, hwo_7, -, -, -, -, -, -, -, -, -⟩ := id hI9
                              have kmo_7 := hk9 _ _ (by simp only [List.mem_cons, List.not_mem_nil, or_false, not_or]; exact ⟨ne_mo_en, ne_mo_la, ne_mo_wo⟩) hM_6
                              have kcn_7 := hk9 _ _ (by simp only [List.mem_cons, List.not_mem_nil, or_false, not_or]; exact ⟨ne_cn_en, ne_cn_la, ne_cn_wo⟩) kcn_6
                              have kia_7 := hk9 _ _ (by simp only [List.mem_cons, List.not_mem_nil, or_false, not_or]; exact ⟨ne_ia_en, ne_ia_la, ne_ia_wo⟩) kia_6
                              have kdr_7 := hk9 _ _ (by simp only [List.mem_cons, List.not_mem_nil, or_false, not_or]; exact ⟨ne_dr_en, ne_dr_la, ne_dr_wo⟩) kdr_6
                              have kop_7 := hk9 _ _ (by simp only [List.mem_cons, List.not_mem_nil, or_false, not_or]; exact ⟨ne_op_en, ne_op_la, ne_op_wo⟩) kop_6
                              have kmk_7 := hk9 _ _ (by simp only [List.mem_cons, List.not_mem_nil, or_false, not_or]; exact ⟨ne_mk_en, ne_mk_la, ne_mk_wo⟩) kmk_6
                              have kir_7 := hk9 _ _ (by simp only [List.mem_cons, List.not_mem_nil, or_false, not_or]; exact ⟨ne_ir_en, ne_ir_la, ne_ir_wo⟩) kir_6
                              have kse_7 := hk9 _ _ (by simp only [List.mem_cons, List.not_mem_nil, or_false, not_or]; exact ⟨ne_se_en, ne_se_la, ne_se_wo⟩) kse_6
                              have kec_7 := hk9 _ _ (by simp only [List.mem_cons, List.not_mem_nil, or_false, not_or]; exact ⟨ne_ec_en, ne_ec_la, ne_ec_wo⟩) hec_6
                              have klc_7 := hk9 _ _ (by simp only [List.mem_cons, List.not_mem_nil, or_false, not_or]; exact ⟨ne_lc_en, ne_lc_la, ne_lc_wo⟩) hlc_6
                              have kwc_7 := hk9 _ _ (by simp only [List.mem_cons, List.not_mem_nil, or_false, not_or]; exact ⟨ne_wc_en, ne_wc_la, ne_wc_wo⟩) hwc_6
                              have kol_7 := hk9 _ _ (by simp only [List.mem_cons, List.not_mem_nil, or_false, not_or]; exact ⟨ne_ol_en, ne_ol_la, ne_ol_wo⟩) kol_6
                              have kal_7 := hk9 _ _ (by simp only [List.mem_cons, List.not_mem_nil, or_false, not_or]; exact ⟨ne_al_en, ne_al_la, ne_al_wo⟩) kal_6
                              have hkp := hkp.trans (hk9.mono (fun a ha => by simp only [List.mem_cons, List.not_mem_nil, or_false] at ha ⊢; rcases ha with q9 | q9 | q9 <;> simp [q9]))
                              have hkl91 := hkl91.trans (hk9.mono (fun a ha => by simp only [List.mem_cons, List.not_mem_nil, or_false] at ha ⊢; rcases ha with q9 | q9 | q9 <;> simp [q9]))
                              have hkl157 := hkl157.trans (hk9.mono (fun a ha => by simp only [List.mem_cons, List.not_mem_nil, or_false] at ha ⊢; rcases ha with q9 | q9 | q9 <;> simp [q9]))
                              obtain ⟨Mc4, hMx⟩ : ∃ x : mM, x = M1 := ⟨M1, rfl⟩
                              subst hMx
                              subst hv1
                              refine W.eq (g2 := F0 m 269 ls []) rfl ?_
                              refine W.widen (k := 0) (n := 0) (Nat.le_of_ble_eq_true rfl) (Nat.le_of_ble_eq_true rfl) ?_
                              have hm : mm D (AZ z) Mc4 H := hm
                              refine lv_aload_n hx hb dX6_makeTree_269 rfl (lv_at hl 6 rfl) ?_
                              refine lv_iload hx hb dX6_makeTree_270 (lv_at hl 2 rfl) ?_
                              refine lv_sipush (v := 3100) hx hb dX6_makeTree_272 (by decide) ?_
                              refine lv_isub hx hb dX6_makeTree_275 ?_
                              refine W.eq (g2 := F0 m 276 ls [.int (nI (r9 - 3100)), .ref mo]) (by rw [show (((nI r9)) - (3100) : Int32) = nI (r9 - 3100) from pk_sub (a := r9) (b := 3100) (by omega)]) ?_
                              refine lv_iload hx hb dX6_makeTree_276 (lv_at hl 1 rfl) ?_
                              have hI0 : mI k Mc4 mo cn ia dr en la wo op mk ir se ec lc wc ol al dn md := ⟨_, _, _, _, _, _, _, fcn_5, fia_5, fdr_5, fen_7, fla_7, fwo_7, fop, fmk, fir, fse_5, fec_6, flc_6, fol_2, fal, fwc_6, hap, kmo_7, hmd_5, ⟨hrC_5, hrL_7, hrM⟩, kcn_7, kia_7, kdr_7, hen_7, hla_7, hwo_7, kop_7, kmk_7, kir_7, kse_7, kec_7, klc_7, kwc_7, kol_7, kal_7⟩
                              refine m_kV (As := [.int (nI (r9 - 3100)), .int (nI j157)]) (rest := []) (rm := { frames := 0, cells := 0, slots := 0, locals := 0 }) ⟨hx, hb, hml, hown, hts⟩ (x_X6_come l D k z _ mo cn ia dr en la wo op mk ir se ec lc wc ol al dn md (r9 - 3100) j157 (by omega) (by omega) hI0) (cwV 2 hts gX6_makeTree_X6_come rfl rfl rfl (by decide +kernel) ⟨Nat.le_of_ble_eq_true rfl, Nat.le_of_ble_eq_true rfl⟩) (m_recv hK hm (q := (RX6, TX6, 24)) rfl kmo_7) hz hcx hm hS rfl hl.1 rfl (Nat.le_of_ble_eq_true rfl) dX6_makeTree_278 ⟨Nat.le_of_ble_eq_true rfl, Nat.le_of_ble_eq_true rfl⟩ (fun v M1 H locs hv hm hS => ?_)
                              obtain ⟨hv1, hI9, hk9⟩ := hv
                              obtain ⟨cd_8, ni_8, pw_8, cm_8, wr_8, cs_8, hm9_8, _, _, _, _, _, _, _, _, _, _, fec_8, flc_8, _, _, fwc_8, -, hM_8, hmd_8, ⟨-, -, -⟩, -, -, -, -, -, -, -, -, -, -, hec_8, hlc_8, hwc_8, -, -⟩ := id hI9
                              have kcn_8 := hk9 _ _ (by simp only [List.mem_cons, List.not_mem_nil, or_false, not_or]; exact ⟨ne_cn_mo, ne_cn_ec, ne_cn_lc, ne_cn_wc⟩) kcn_7
                              have kia_8 := hk9 _ _ (by simp only [List.mem_cons, List.not_mem_nil, or_false, not_or]; exact ⟨ne_ia_mo, ne_ia_ec, ne_ia_lc, ne_ia_wc⟩) kia_7
                              have kdr_8 := hk9 _ _ (by simp only [List.mem_cons, List.not_mem_nil, or_false, not_or]; exact ⟨ne_dr_mo, ne_dr_ec, ne_dr_lc, ne_dr_wc⟩) kdr_7
                              have ken_8 := hk9 _ _ (by simp only [List.mem_cons, List.not_mem_nil, or_false, not_or]; exact ⟨ne_en_mo, ne_en_ec, ne_en_lc, ne_en_wc⟩) hen_7
                              have kla_8 := hk9 _ _ (by simp only [List.mem_cons, List.not_mem_nil, or_false, not_or]; exact ⟨ne_la_mo, ne_la_ec, ne_la_lc, ne_la_wc⟩) hla_7
                              have kwo_8 := hk9 _ _ (by simp only [List.mem_cons, List.not_mem_nil, or_false, not_or]; exact ⟨ne_wo_mo, ne_wo_ec, ne_wo_lc, ne_wo_wc⟩) hwo_7
                              have kop_8 := hk9 _ _ (by simp only [List.mem_cons, List.not_mem_nil, or_false, not_or]; exact ⟨ne_op_mo, ne_op_ec, ne_op_lc, ne_op_wc⟩) kop_7
                              have kmk_8 := hk9 _ _ (by simp only [List.mem_cons, List.not_mem_nil, or_false, not_or]; exact ⟨ne_mk_mo, ne_mk_ec, ne_mk_lc, ne_mk_wc⟩) kmk_7
                              have kir_8 := hk9 _ _ (by simp only [List.mem_cons, List.not_mem_nil, or_false, not_or]; exact ⟨ne_ir_mo, ne_ir_ec, ne_ir_lc, ne_ir_wc⟩) kir_7
                              have kse_8 := hk9 _ _ (by simp only [List.mem_cons, List.not_mem_nil, or_false, not_or]; exact ⟨ne_se_mo, ne_se_ec, ne_se_lc, ne_se_wc⟩) kse_7
                              have kol_8 := hk9 _ _ (by simp only [List.mem_cons, List.not_mem_nil, or_false, not_or]; exact ⟨ne_ol_mo, ne_ol_ec, ne_ol_lc, ne_ol_wc⟩) kol_7
                              have kal_8 := hk9 _ _ (by simp only [List.mem_cons, List.not_mem_nil, or_false, not_or]; exact ⟨ne_al_mo, ne_al_ec, ne_al_lc, ne_al_wc⟩) kal_7
                              have hkp := hkp.trans (hk9.mono (fun a ha => by simp only [List.mem_cons, List.not_mem_nil, or_false] at ha ⊢; rcases ha with q9 | q9 | q9 | q9 <;> simp [q9]))
                              have hkl91 := hkl91.trans (hk9.mono (fun a ha => by simp only [List.mem_cons, List.not_mem_nil, or_false] at ha ⊢; rcases ha with q9 | q9 | q9 | q9 <;> simp [q9]))
                              have hkl157 := hkl157.trans (hk9.mono (fun a ha => by simp only [List.mem_cons, List.not_mem_nil, or_false] at ha ⊢; rcases ha with q9 | q9 | q9 | q9 <;> simp [q9]))
                              obtain ⟨Mc5, hMx⟩ : ∃ x : mM, x = M1 := ⟨M1, rfl⟩
                              subst hMx
                              subst hv1
                              refine W.eq (g2 := F0 m 281 ls []) rfl ?_
                              refine W.widen (k := 0) (n := 0) (Nat.le_of_ble_eq_true rfl) (Nat.le_of_ble_eq_true rfl) ?_
                              have hm : mm D (AZ z) Mc5 H := hm
                              refine lv_iinc (v := ((nI j157) + 1)) (lv' := [(6, .int ((nI j157) + 1)), (7, .int 1), (5, .int (nI r9)), (4, .int (-1)), (3, .int (nI j91)), (2, .int (nI (2 + (5 * t9)))), (0, .ref mo), (1, .int (nI t9))]) hx hb dX6_makeTree_281 hl (k := 1) rfl rfl (by decide) rfl (fun ls hl => ?_)
                              refine lv_goto (tgt := 157) hx hb dX6_makeTree_284 (by decide) ?_
                              rw [nI_1] at hl
                              exact ih157 (j157 + 1, Mc5) _ _ _ ⟨⟨by omega, by omega⟩, ⟨_, _, _, _, _, _, _, fcn_5, fia_5, fdr_5, fen_7, fla_7, fwo_7, fop, fmk, fir, fse_5, fec_8, flc_8, fol_2, fal, fwc_8, hap, hM_8, hmd_5, ⟨hrC_5, hrL_7, hrM⟩, kcn_8, kia_8, kdr_8, ken_8, kla_8, kwo_8, kop_8, kmk_8, kir_8, kse_8, hec_8, hlc_8, hwc_8, kol_8, kal_8⟩, hkp, hkl157, hm, hS, lv_sub hl [0, 2, 3, 4, 5, 6, 7] rfl⟩ (by show 2147483648 - (j157 + 1) < 2147483648 - j157; omega)
                    · have hqc11 : 15 ≤ j157 := nb_nlt (a := j157) (b := 15) (by omega) (by omega) c11
                      refine lv_iload hx hb dX6_makeTree_190 (lv_at hl 0 rfl) ?_
                      refine lv_bipush (v := 29) hx hb dX6_makeTree_192 (by decide) ?_
                      refine lv_icmp_le (tgt := 201) hx hb dX6_makeTree_194 (by decide) (fun c20 => ?_) (fun c20 => ?_)
                      · have hqc20 : j157 ≤ 29 := nb_le (a := j157) (b := 29) (by omega) (by omega) c20
                        refine lv_iconst (v := 0) hx hb dX6_makeTree_201 (by decide) ?_
                        refine lv_istore (lv' := [(7, .int 0), (6, .int (nI j157)), (5, .int (nI r9)), (4, .int (-1)), (3, .int (nI j91)), (2, .int (nI (2 + (5 * t9)))), (0, .ref mo), (1, .int (nI t9))]) hx hb dX6_makeTree_202 hl (by decide) rfl (fun ls hl => ?_)
                        refine lv_iload hx hb dX6_makeTree_204 (lv_at hl 0 rfl) ?_
                        refine lv_if_eq (tgt := 281) hx hb dX6_makeTree_206 (by decide) (fun c21 => ?_) (fun c21 => ?_)
                        · refine lv_iinc (v := ((nI j157) + 1)) (lv' := [(6, .int ((nI j157) + 1)), (7, .int 0), (5, .int (nI r9)), (4, .int (-1)), (3, .int (nI j91)), (2, .int (nI (2 + (5 * t9)))), (0, .ref mo), (1, .int (nI t9))]) hx hb dX6_makeTree_281 hl (k := 1) rfl rfl (by decide) rfl (fun ls hl => ?_)
                          refine lv_goto (tgt := 157) hx hb dX6_makeTree_284 (by decide) ?_
                          rw [nI_1] at hl
                          exact ih157 (j157 + 1, Ml157) _ _ _ ⟨⟨by omega, by omega⟩, ⟨_, _, _, _, _, _, _, fcn_5, fia_5, fdr_5, fen_6, fla_6, fwo_6, fop, fmk, fir, fse_5, fec_6, flc_6, fol_2, fal, fwc_6, hap, hM_6, hmd_5, ⟨hrC_5, hrL_6, hrM⟩, kcn_6, kia_6, kdr_6, hen_6, hla_6, hwo_6, kop_6, kmk_6, kir_6, kse_6, hec_6, hlc_6, hwc_6, kol_6, kal_6⟩, hkp, hkl157, hm, hS, lv_sub hl [0, 2, 3, 4, 5, 6, 7] rfl⟩ (by show 2147483648 - (j157 + 1) < 2147483648 - j157; omega)
                        · first | exact absurd c21 (by decide) | exact absurd (by decide) c21
                      · have hqc20 : 29 < j157 := nb_nle (a := j157) (b := 29) (by omega) (by omega) c20
                        refine lv_iconst (v := 1) hx hb dX6_makeTree_197 (by decide) ?_
                        refine lv_goto (tgt := 202) hx hb dX6_makeTree_198 (by decide) ?_
                        refine lv_istore (lv' := [(7, .int 1), (6, .int (nI j157)), (5, .int (nI r9)), (4, .int (-1)), (3, .int (nI j91)), (2, .int (nI (2 + (5 * t9)))), (0, .ref mo), (1, .int (nI t9))]) hx hb dX6_makeTree_202 hl (by decide) rfl (fun ls hl => ?_)
                        refine lv_iload hx hb dX6_makeTree_204 (lv_at hl 0 rfl) ?_
                        refine lv_if_eq (tgt := 281) hx hb dX6_makeTree_206 (by decide) (fun c22 => ?_) (fun c22 => ?_)
                        · first | exact absurd c22 (by decide) | exact absurd (by decide) c22
                        · refine lv_aload_n hx hb dX6_makeTree_209 rfl (lv_at hl 6 rfl) ?_
                          refine lv_iload_n hx hb dX6_makeTree_210 rfl (lv_at hl 4 rfl) ?_
                          refine lv_iload hx hb dX6_makeTree_211 (lv_at hl 1 rfl) ?_
                          have hI0 : mI k Ml157 mo cn ia dr en la wo op mk ir se ec lc wc ol al dn md := ⟨_, _, _, _, _, _, _, fcn_5, fia_5, fdr_5, fen_6, fla_6, fwo_6, fop, fmk, fir, fse_5, fec_6, flc_6, fol_2, fal, fwc_6, hap, hM_6, hmd_5, ⟨hrC_5, hrL_6, hrM⟩, kcn_6, kia_6, kdr_6, hen_6, hla_6, hwo_6, kop_6, kmk_6, kir_6, kse_6, hec_6, hlc_6, hwc_6, kol_6, kal_6⟩
                          refine m_kV (As := [.int (nI j91), .int (nI j157)]) (rest := []) (rm := { frames := 0, cells := 0, slots := 0, locals := 0 }) ⟨hx, hb, hml, hown, hts⟩ (s_X6_valueOf l D k z _ mo cn ia dr en la wo op mk ir se ec lc wc ol al dn md j91 j157 (by omega) (by omega) hI0) (cwV 2 hts gX6_makeTree_X6_valueOf rfl rfl rfl (by decide +kernel) ⟨Nat.le_of_ble_eq_true rfl, Nat.le_of_ble_eq_true rfl⟩) (m_recv hK hm (q := (RX6, TX6, 24)) rfl hM_6) hz hcx hm hS rfl hl.1 rfl (Nat.le_of_ble_eq_true rfl) dX6_makeTree_213 ⟨Nat.le_of_ble_eq_true rfl, Nat.le_of_ble_eq_true rfl⟩ (fun v M1 H locs hv hm hS => ?_)
                          obtain ⟨⟨w23, hv1, ew23⟩, hM1⟩ := hv
                          rw [hM1] at hm
                          subst hv1
                          refine W.eq (g2 := F0 m 216 ls [.int w23]) rfl ?_
                          refine W.widen (k := 0) (n := 0) (Nat.le_of_ble_eq_true rfl) (Nat.le_of_ble_eq_true rfl) ?_
                          have hm : mm D (AZ z) Ml157 H := hm
                          refine lv_iload hx hb dX6_makeTree_216 (lv_at hl 3 rfl) ?_
                          refine lv_if_ge (tgt := 225) hx hb dX6_makeTree_218 (by decide) (fun c24 => ?_) (fun c24 => ?_)
                          · first | exact absurd c24 (by decide) | exact absurd (by decide) c24
                          · refine lv_iconst (v := 0) hx hb dX6_makeTree_221 (by decide) ?_
                            refine lv_goto (tgt := 233) hx hb dX6_makeTree_222 (by decide) ?_
                            refine lv_icmp_eq (tgt := 281) hx hb dX6_makeTree_233 (by decide) (fun c25 => ?_) (fun c25 => ?_)
                            · refine lv_iinc (v := ((nI j157) + 1)) (lv' := [(6, .int ((nI j157) + 1)), (7, .int 1), (5, .int (nI r9)), (4, .int (-1)), (3, .int (nI j91)), (2, .int (nI (2 + (5 * t9)))), (0, .ref mo), (1, .int (nI t9))]) hx hb dX6_makeTree_281 hl (k := 1) rfl rfl (by decide) rfl (fun ls hl => ?_)
                              refine lv_goto (tgt := 157) hx hb dX6_makeTree_284 (by decide) ?_
                              rw [nI_1] at hl
                              exact ih157 (j157 + 1, Ml157) _ _ _ ⟨⟨by omega, by omega⟩, ⟨_, _, _, _, _, _, _, fcn_5, fia_5, fdr_5, fen_6, fla_6, fwo_6, fop, fmk, fir, fse_5, fec_6, flc_6, fol_2, fal, fwc_6, hap, hM_6, hmd_5, ⟨hrC_5, hrL_6, hrM⟩, kcn_6, kia_6, kdr_6, hen_6, hla_6, hwo_6, kop_6, kmk_6, kir_6, kse_6, hec_6, hlc_6, hwc_6, kol_6, kal_6⟩, hkp, hkl157, hm, hS, lv_sub hl [0, 2, 3, 4, 5, 6, 7] rfl⟩ (by show 2147483648 - (j157 + 1) < 2147483648 - j157; omega)
                            · refine lv_aload_n hx hb dX6_makeTree_236 rfl (lv_at hl 6 rfl) ?_
                              refine lv_iload hx hb dX6_makeTree_237 (lv_at hl 2 rfl) ?_
                              refine lv_iload hx hb dX6_makeTree_239 (lv_at hl 1 rfl) ?_
                              have hI0 : mI k Ml157 mo cn ia dr en la wo op mk ir se ec lc wc ol al dn md := ⟨_, _, _, _, _, _, _, fcn_5, fia_5, fdr_5, fen_6, fla_6, fwo_6, fop, fmk, fir, fse_5, fec_6, flc_6, fol_2, fal, fwc_6, hap, hM_6, hmd_5, ⟨hrC_5, hrL_6, hrM⟩, kcn_6, kia_6, kdr_6, hen_6, hla_6, hwo_6, kop_6, kmk_6, kir_6, kse_6, hec_6, hlc_6, hwc_6, kol_6, kal_6⟩
                              refine m_kV (As := [.int (nI r9), .int (nI j157)]) (rest := []) (rm := { frames := 0, cells := 0, slots := 0, locals := 0 }) ⟨hx, hb, hml, hown, hts⟩ (s_X6_valueOf l D k z _ mo cn ia dr en la wo op mk ir se ec lc wc ol al dn md r9 j157 (by omega) (by omega) hI0) (cwV 2 hts gX6_makeTree_X6_valueOf rfl rfl rfl (by decide +kernel) ⟨Nat.le_of_ble_eq_true rfl, Nat.le_of_ble_eq_true rfl⟩) (m_recv hK hm (q := (RX6, TX6, 24)) rfl hM_6) hz hcx hm hS rfl hl.1 rfl (Nat.le_of_ble_eq_true rfl) dX6_makeTree_241 ⟨Nat.le_of_ble_eq_true rfl, Nat.le_of_ble_eq_true rfl⟩ (fun v M1 H locs hv hm hS => ?_)
                              obtain ⟨⟨w26, hv1, ew26⟩, hM1⟩ := hv
                              rw [hM1] at hm
                              subst hv1
                              refine W.eq (g2 := F0 m 244 ls [.int w26]) rfl ?_
                              refine W.widen (k := 0) (n := 0) (Nat.le_of_ble_eq_true rfl) (Nat.le_of_ble_eq_true rfl) ?_
                              have hm : mm D (AZ z) Ml157 H := hm
                              refine lv_aload_n hx hb dX6_makeTree_244 rfl (lv_at hl 6 rfl) ?_
                              refine lv_iload_n hx hb dX6_makeTree_245 rfl (lv_at hl 4 rfl) ?_
                              refine lv_iload hx hb dX6_makeTree_246 (lv_at hl 1 rfl) ?_
                              have hI0 : mI k Ml157 mo cn ia dr en la wo op mk ir se ec lc wc ol al dn md := ⟨_, _, _, _, _, _, _, fcn_5, fia_5, fdr_5, fen_6, fla_6, fwo_6, fop, fmk, fir, fse_5, fec_6, flc_6, fol_2, fal, fwc_6, hap, hM_6, hmd_5, ⟨hrC_5, hrL_6, hrM⟩, kcn_6, kia_6, kdr_6, hen_6, hla_6, hwo_6, kop_6, kmk_6, kir_6, kse_6, hec_6, hlc_6, hwc_6, kol_6, kal_6⟩
                              refine m_kV (As := [.int (nI j91), .int (nI j157)]) (rest := [.int w26]) (rm := { frames := 0, cells := 0, slots := 0, locals := 0 }) ⟨hx, hb, hml, hown, hts⟩ (s_X6_valueOf l D k z _ mo cn ia dr en la wo op mk ir se ec lc wc ol al dn md j91 j157 (by omega) (by omega) hI0) (cwV 2 hts gX6_makeTree_X6_valueOf rfl rfl rfl (by decide +kernel) ⟨Nat.le_of_ble_eq_true rfl, Nat.le_of_ble_eq_true rfl⟩) (m_recv hK hm (q := (RX6, TX6, 24)) rfl hM_6) hz hcx hm hS rfl hl.1 rfl (Nat.le_of_ble_eq_true rfl) dX6_makeTree_248 ⟨Nat.le_of_ble_eq_true rfl, Nat.le_of_ble_eq_true rfl⟩ (fun v M1 H locs hv hm hS => ?_)
                              obtain ⟨⟨w27, hv1, ew27⟩, hM1⟩ := hv
                              rw [hM1] at hm
                              subst hv1
                              refine W.eq (g2 := F0 m 251 ls [.int w27, .int w26]) rfl ?_
                              refine W.widen (k := 0) (n := 0) (Nat.le_of_ble_eq_true rfl) (Nat.le_of_ble_eq_true rfl) ?_
                              have hm : mm D (AZ z) Ml157 H := hm
                              refine lv_icmp_eq (tgt := 281) hx hb dX6_makeTree_251 (by decide) (fun c28 => ?_) (fun c28 => ?_)
                              · refine lv_iinc (v := ((nI j157) + 1)) (lv' := [(6, .int ((nI j157) + 1)), (7, .int 1), (5, .int (nI r9)), (4, .int (-1)), (3, .int (nI j91)), (2, .int (nI (2 + (5 * t9)))), (0, .ref mo), (1, .int (nI t9))]) hx hb dX6_makeTree_281 hl (k := 1) rfl rfl (by decide) rfl (fun ls hl => ?_)
                                refine lv_goto (tgt := 157) hx hb dX6_makeTree_284 (by decide) ?_
                                rw [nI_1] at hl
                                exact ih157 (j157 + 1, Ml157) _ _ _ ⟨⟨by omega, by omega⟩, ⟨_, _, _, _, _, _, _, fcn_5, fia_5, fdr_5, fen_6, fla_6, fwo_6, fop, fmk, fir, fse_5, fec_6, flc_6, fol_2, fal, fwc_6, hap, hM_6, hmd_5, ⟨hrC_5, hrL_6, hrM⟩, kcn_6, kia_6, kdr_6, hen_6, hla_6, hwo_6, kop_6, kmk_6, kir_6, kse_6, hec_6, hlc_6, hwc_6, kol_6, kal_6⟩, hkp, hkl157, hm, hS, lv_sub hl [0, 2, 3, 4, 5, 6, 7] rfl⟩ (by show 2147483648 - (j157 + 1) < 2147483648 - j157; omega)
                              · refine lv_aload_n hx hb dX6_makeTree_254 rfl (lv_at hl 6 rfl) ?_
                                refine lv_iload hx hb dX6_makeTree_255 (lv_at hl 2 rfl) ?_
                                refine lv_iload hx hb dX6_makeTree_257 (lv_at hl 1 rfl) ?_
                                refine lv_aload_n hx hb dX6_makeTree_259 rfl (lv_at hl 6 rfl) ?_
                                refine lv_iload_n hx hb dX6_makeTree_260 rfl (lv_at hl 4 rfl) ?_
                                refine lv_iload hx hb dX6_makeTree_261 (lv_at hl 1 rfl) ?_
                                have hI0 : mI k Ml157 mo cn ia dr en la wo op mk ir se ec lc wc ol al dn md := ⟨_, _, _, _, _, _, _, fcn_5, fia_5, fdr_5, fen_6, fla_6, fwo_6, fop, fmk, fir, fse_5, fec_6, flc_6, fol_2, fal, fwc_6, hap, hM_6, hmd_5, ⟨hrC_5, hrL_6, hrM⟩, kcn_6, kia_6, kdr_6, hen_6, hla_6, hwo_6, kop_6, kmk_6, kir_6, kse_6, hec_6, hlc_6, hwc_6, kol_6, kal_6⟩
                                refine m_kV (As := [.int (nI j91), .int (nI j157)]) (rest := [.int (nI j157), .int (nI r9), .ref mo]) (rm := { frames := 0, cells := 0, slots := 0, locals := 0 }) ⟨hx, hb, hml, hown, hts⟩ (s_X6_valueOf l D k z _ mo cn ia dr en la wo op mk ir se ec lc wc ol al dn md j91 j157 (by omega) (by omega) hI0) (cwV 2 hts gX6_makeTree_X6_valueOf rfl rfl rfl (by decide +kernel) ⟨Nat.le_of_ble_eq_true rfl, Nat.le_of_ble_eq_true rfl⟩) (m_recv hK hm (q := (RX6, TX6, 24)) rfl hM_6) hz hcx hm hS rfl hl.1 rfl (Nat.le_of_ble_eq_true rfl) dX6_makeTree_263 ⟨Nat.le_of_ble_eq_true rfl, Nat.le_of_ble_eq_true rfl⟩ (fun v M1 H locs hv hm hS => ?_)
                                obtain ⟨⟨w29, hv1, ew29⟩, hM1⟩ := hv
                                rw [hM1] at hm
                                subst hv1
                                refine W.eq (g2 := F0 m 266 ls [.int w29, .int (nI j157), .int (nI r9), .ref mo]) rfl ?_
                                refine W.widen (k := 0) (n := 0) (Nat.le_of_ble_eq_true rfl) (Nat.le_of_ble_eq_true rfl) ?_
                                have hm : mm D (AZ z) Ml157 H := hm
                                have hI0 : mI k Ml157 mo cn ia dr en la wo op mk ir se ec lc wc ol al dn md := ⟨_, _, _, _, _, _, _, fcn_5, fia_5, fdr_5, fen_6, fla_6, fwo_6, fop, fmk, fir, fse_5, fec_6, flc_6, fol_2, fal, fwc_6, hap, hM_6, hmd_5, ⟨hrC_5, hrL_6, hrM⟩, kcn_6, kia_6, kdr_6, hen_6, hla_6, hwo_6, kop_6, kmk_6, kir_6, kse_6, hec_6, hlc_6, hwc_6, kol_6, kal_6⟩
                                refine m_kV (As := [.int (nI r9), .int (nI j157), .int w29]) (rest := []) (rm := { frames := 0, cells := 0, slots := 0, locals := 0 }) ⟨hx, hb, hml, hown, hts⟩ (x_X6_setValue l D k z _ mo cn ia dr en la wo op mk ir se ec lc wc ol al dn md r9 j157 w29 (by omega) (by omega) (by omega) ew29 hI0) (cwV 3 hts gX6_makeTree_X6_setValue rfl rfl rfl (by decide +kernel) ⟨Nat.le_of_ble_eq_true rfl, Nat.le_of_ble_eq_true rfl⟩) (m_recv hK hm (q := (RX6, TX6, 24)) rfl hM_6) hz hcx hm hS rfl hl.1 rfl (Nat.le_of_ble_eq_true rfl) dX6_makeTree_266 ⟨Nat.le_of_ble_eq_true rfl, Nat.le_of_ble_eq_true rfl⟩ (fun v M1 H locs hv hm hS => ?_)
                                obtain ⟨hv1, hI9, hk9⟩ := hv
                                obtain ⟨_, _, _, _, _, _, _, _, _, _, fen_9, fla_9, fwo_9, _, _, _, _, _, _, _, _, _, -, -, hmd_9, ⟨-, hrL_9, -⟩, -, -, -, hen_9, hla_9, hwo_9, -, -, -, -, -, -, -, -, -⟩ := id hI9
                                have kmo_9 := hk9 _ _ (by simp only [List.mem_cons, List.not_mem_nil, or_false, not_or]; exact ⟨ne_mo_en, ne_mo_la, ne_mo_wo⟩) hM_6
                                have kcn_9 := hk9 _ _ (by simp only [List.mem_cons, List.not_mem_nil, or_false, not_or]; exact ⟨ne_cn_en, ne_cn_la, ne_cn_wo⟩) kcn_6
                                have kia_9 := hk9 _ _ (by simp only [List.mem_cons, List.not_mem_nil, or_false, not_or]; exact ⟨ne_ia_en, ne_ia_la, ne_ia_wo⟩) kia_6
                                have kdr_9 := hk9 _ _ (by simp only [List.mem_cons, List.not_mem_nil, or_false, not_or]; exact ⟨ne_dr_en, ne_dr_la, ne_dr_wo⟩) kdr_6
                                have kop_9 := hk9 _ _ (by simp only [List.mem_cons, List.not_mem_nil, or_false, not_or]; exact ⟨ne_op_en, ne_op_la, ne_op_wo⟩) kop_6
                                have kmk_9 := hk9 _ _ (by simp only [List.mem_cons, List.not_mem_nil, or_false, not_or]; exact ⟨ne_mk_en, ne_mk_la, ne_mk_wo⟩) kmk_6
                                have kir_9 := hk9 _ _ (by simp only [List.mem_cons, List.not_mem_nil, or_false, not_or]; exact ⟨ne_ir_en, ne_ir_la, ne_ir_wo⟩) kir_6
                                have kse_9 := hk9 _ _ (by simp only [List.mem_cons, List.not_mem_nil, or_false, not_or]; exact ⟨ne_se_en, ne_se_la, ne_se_wo⟩) kse_6
                                have kec_9 := hk9 _ _ (by simp only [List.mem_cons, List.not_mem_nil, or_false, not_or]; exact ⟨ne_ec_en, ne_ec_la, ne_ec_wo⟩) hec_6
                                have klc_9 := hk9 _ _ (by simp only [List.mem_cons, List.not_mem_nil, or_false, not_or]; exact ⟨ne_lc_en, ne_lc_la, ne_lc_wo⟩) hlc_6
                                have kwc_9 := hk9 _ _ (by simp only [List.mem_cons, List.not_mem_nil, or_false, not_or]; exact ⟨ne_wc_en, ne_wc_la, ne_wc_wo⟩) hwc_6
                                have kol_9 := hk9 _ _ (by simp only [List.mem_cons, List.not_mem_nil, or_false, not_or]; exact ⟨ne_ol_en, ne_ol_la, ne_ol_wo⟩) kol_6
                                have kal_9 := hk9 _ _ (by simp only [List.mem_cons, List.not_mem_nil, or_false, not_or]; exact ⟨ne_al_en, ne_al_la, ne_al_wo⟩) kal_6
                                have hkp := hkp.trans (hk9.mono (fun a ha => by simp only [List.mem_cons, List.not_mem_nil, or_false] at ha ⊢; rcases ha with q9 | q9 | q9 <;> simp [q9]))
                                have hkl91 := hkl91.trans (hk9.mono (fun a ha => by simp only [List.mem_cons, List.not_mem_nil, or_false] at ha ⊢; rcases ha with q9 | q9 | q9 <;> simp [q9]))
                                have hkl157 := hkl157.trans (hk9.mono (fun a ha => by simp only [List.mem_cons, List.not_mem_nil, or_false] at ha ⊢; rcases ha with q9 | q9 | q9 <;> simp [q9]))
                                obtain ⟨Mc6, hMx⟩ : ∃ x : mM, x = M1 := ⟨M1, rfl⟩
                                subst hMx
                                subst hv1
                                refine W.eq (g2 := F0 m 269 ls []) rfl ?_
                                refine W.widen (k := 0) (n := 0) (Nat.le_of_ble_eq_true rfl) (Nat.le_of_ble_eq_true rfl) ?_
                                have hm : mm D (AZ z) Mc6 H := hm
                                refine lv_aload_n hx hb dX6_makeTree_269 rfl (lv_at hl 6 rfl) ?_
                                refine lv_iload hx hb dX6_makeTree_270 (lv_at hl 2 rfl) ?_
                                refine lv_sipush (v := 3100) hx hb dX6_makeTree_272 (by decide) ?_
                                refine lv_isub hx hb dX6_makeTree_275 ?_
                                refine W.eq (g2 := F0 m 276 ls [.int (nI (r9 - 3100)), .ref mo]) (by rw [show (((nI r9)) - (3100) : Int32) = nI (r9 - 3100) from pk_sub (a := r9) (b := 3100) (by omega)]) ?_
                                refine lv_iload hx hb dX6_makeTree_276 (lv_at hl 1 rfl) ?_
                                have hI0 : mI k Mc6 mo cn ia dr en la wo op mk ir se ec lc wc ol al dn md := ⟨_, _, _, _, _, _, _, fcn_5, fia_5, fdr_5, fen_9, fla_9, fwo_9, fop, fmk, fir, fse_5, fec_6, flc_6, fol_2, fal, fwc_6, hap, kmo_9, hmd_5, ⟨hrC_5, hrL_9, hrM⟩, kcn_9, kia_9, kdr_9, hen_9, hla_9, hwo_9, kop_9, kmk_9, kir_9, kse_9, kec_9, klc_9, kwc_9, kol_9, kal_9⟩
                                refine m_kV (As := [.int (nI (r9 - 3100)), .int (nI j157)]) (rest := []) (rm := { frames := 0, cells := 0, slots := 0, locals := 0 }) ⟨hx, hb, hml, hown, hts⟩ (x_X6_come l D k z _ mo cn ia dr en la wo op mk ir se ec lc wc ol al dn md (r9 - 3100) j157 (by omega) (by omega) hI0) (cwV 2 hts gX6_makeTree_X6_come rfl rfl rfl (by decide +kernel) ⟨Nat.le_of_ble_eq_true rfl, Nat.le_of_ble_eq_true rfl⟩) (m_recv hK hm (q := (RX6, TX6, 24)) rfl kmo_9) hz hcx hm hS rfl hl.1 rfl (Nat.le_of_ble_eq_true rfl) dX6_makeTree_278 ⟨Nat.le_of_ble_eq_true rfl, Nat.le_of_ble_eq_true rfl⟩ (fun v M1 H locs hv hm hS => ?_)
                                obtain ⟨hv1, hI9, hk9⟩ := hv
                                obtain ⟨cd_10, ni_10, pw_10, cm_10, wr_10, cs_10, hm9_10, _, _, _, _, _, _, _, _, _, _, fec_10, flc_10, _, _, fwc_10, -, hM_10, hmd_10, ⟨-, -, -⟩, -, -, -, -, -, -, -, -, -, -, hec_10, hlc_10, hwc_10, -, -⟩ := id hI9
                                have kcn_10 := hk9 _ _ (by simp only [List.mem_cons, List.not_mem_nil, or_false, not_or]; exact ⟨ne_cn_mo, ne_cn_ec, ne_cn_lc, ne_cn_wc⟩) kcn_9
                                have kia_10 := hk9 _ _ (by simp only [List.mem_cons, List.not_mem_nil, or_false, not_or]; exact ⟨ne_ia_mo, ne_ia_ec, ne_ia_lc, ne_ia_wc⟩) kia_9
                                have kdr_10 := hk9 _ _ (by simp only [List.mem_cons, List.not_mem_nil, or_false, not_or]; exact ⟨ne_dr_mo, ne_dr_ec, ne_dr_lc, ne_dr_wc⟩) kdr_9
                                have ken_10 := hk9 _ _ (by simp only [List.mem_cons, List.not_mem_nil, or_false, not_or]; exact ⟨ne_en_mo, ne_en_ec, ne_en_lc, ne_en_wc⟩) hen_9
                                have kla_10 := hk9 _ _ (by simp only [List.mem_cons, List.not_mem_nil, or_false, not_or]; exact ⟨ne_la_mo, ne_la_ec, ne_la_lc, ne_la_wc⟩) hla_9
                                have kwo_10 := hk9 _ _ (by simp only [List.mem_cons, List.not_mem_nil, or_false, not_or]; exact ⟨ne_wo_mo, ne_wo_ec, ne_wo_lc, ne_wo_wc⟩) hwo_9
                                have kop_10 := hk9 _ _ (by simp only [List.mem_cons, List.not_mem_nil, or_false, not_or]; exact ⟨ne_op_mo, ne_op_ec, ne_op_lc, ne_op_wc⟩) kop_9
                                have kmk_10 := hk9 _ _ (by simp only [List.mem_cons, List.not_mem_nil, or_false, not_or]; exact ⟨ne_mk_mo, ne_mk_ec, ne_mk_lc, ne_mk_wc⟩) kmk_9
                                have kir_10 := hk9 _ _ (by simp only [List.mem_cons, List.not_mem_nil, or_false, not_or]; exact ⟨ne_ir_mo, ne_ir_ec, ne_ir_lc, ne_ir_wc⟩) kir_9
                                have kse_10 := hk9 _ _ (by simp only [List.mem_cons, List.not_mem_nil, or_false, not_or]; exact ⟨ne_se_mo, ne_se_ec, ne_se_lc, ne_se_wc⟩) kse_9
                                have kol_10 := hk9 _ _ (by simp only [List.mem_cons, List.not_mem_nil, or_false, not_or]; exact ⟨ne_ol_mo, ne_ol_ec, ne_ol_lc, ne_ol_wc⟩) kol_9
                                have kal_10 := hk9 _ _ (by simp only [List.mem_cons, List.not_mem_nil, or_false, not_or]; exact ⟨ne_al_mo, ne_al_ec, ne_al_lc, ne_al_wc⟩) kal_9
                                have hkp := hkp.trans (hk9.mono (fun a ha => by simp only [List.mem_cons, List.not_mem_nil, or_false] at ha ⊢; rcases ha with q9 | q9 | q9 | q9 <;> simp [q9]))
                                have hkl91 := hkl91.trans (hk9.mono (fun a ha => by simp only [List.mem_cons, List.not_mem_nil, or_false] at ha ⊢; rcases ha with q9 | q9 | q9 | q9 <;> simp [q9]))
                                have hkl157 := hkl157.trans (hk9.mono (fun a ha => by simp only [List.mem_cons, List.not_mem_nil, or_false] at ha ⊢; rcases ha with q9 | q9 | q9 | q9 <;> simp [q9]))
                                obtain ⟨Mc7, hMx⟩ : ∃ x : mM, x = M1 := ⟨M1, rfl⟩
                                subst hMx
                                subst hv1
                                refine W.eq (g2 := F0 m 281 ls []) rfl ?_
                                refine W.widen (k := 0) (n := 0) (Nat.le_of_ble_eq_true rfl) (Nat.le_of_ble_eq_true rfl) ?_
                                have hm : mm D (AZ z) Mc7 H := hm
                                refine lv_iinc (v := ((nI j157) + 1)) (lv' := [(6, .int ((nI j157) + 1)), (7, .int 1), (5, .int (nI r9)), (4, .int (-1)), (3, .int (nI j91)), (2, .int (nI (2 + (5 * t9)))), (0, .ref mo), (1, .int (nI t9))]) hx hb dX6_makeTree_281 hl (k := 1) rfl rfl (by decide) rfl (fun ls hl => ?_)
                                refine lv_goto (tgt := 157) hx hb dX6_makeTree_284 (by decide) ?_
                                rw [nI_1] at hl
                                exact ih157 (j157 + 1, Mc7) _ _ _ ⟨⟨by omega, by omega⟩, ⟨_, _, _, _, _, _, _, fcn_5, fia_5, fdr_5, fen_9, fla_9, fwo_9, fop, fmk, fir, fse_5, fec_10, flc_10, fol_2, fal, fwc_10, hap, hM_10, hmd_5, ⟨hrC_5, hrL_9, hrM⟩, kcn_10, kia_10, kdr_10, ken_10, kla_10, kwo_10, kop_10, kmk_10, kir_10, kse_10, hec_10, hlc_10, hwc_10, kol_10, kal_10⟩, hkp, hkl157, hm, hS, lv_sub hl [0, 2, 3, 4, 5, 6, 7] rfl⟩ (by show 2147483648 - (j157 + 1) < 2147483648 - j157; omega)
        · have huc103 := Nat.le_trans hgb103 (bC_le _)
          subst hf103
          refine W.eq (g2 := F0 m 135 ls [.int (nI nb103)]) rfl ?_
          refine W.widen (k := 0) (n := 0) (Nat.le_of_ble_eq_true rfl) (Nat.le_of_ble_eq_true rfl) ?_
          have hm : mm D (AZ z) Ml91 H := hm
          refine lv_istore (lv' := [(5, .int (nI nb103)), (4, .int (-1)), (3, .int (nI j91)), (2, .int (nI (2 + (5 * t9)))), (0, .ref mo), (1, .int (nI t9))]) hx hb dX6_makeTree_135 hl (by decide) rfl (fun ls hl => ?_)
          refine lv_iload hx hb dX6_makeTree_137 (lv_at hl 1 rfl) ?_
          refine lv_if_ge (tgt := 154) hx hb dX6_makeTree_139 (by decide) (fun c30 => ?_) (fun c30 => ?_)
          · first | exact absurd c30 (by decide) | exact absurd (by decide) c30
          · refine lv_iload hx hb dX6_makeTree_142 (lv_at hl 0 rfl) ?_
            refine lv_if_ge (tgt := 154) hx hb dX6_makeTree_144 (by decide) (fun c31 => ?_) (fun c31 => ?_)
            · have hqc31 : 0 ≤ nb103 := nb_le (a := 0) (b := nb103) (by omega) (by omega) c31
              refine lv_iconst (v := 0) hx hb dX6_makeTree_154 (by decide) ?_
              refine lv_istore (lv' := [(6, .int 0), (5, .int (nI nb103)), (4, .int (-1)), (3, .int (nI j91)), (2, .int (nI (2 + (5 * t9)))), (0, .ref mo), (1, .int (nI t9))]) hx hb dX6_makeTree_155 hl (by decide) rfl (fun ls hl => ?_)
              have hI0 : mI k Ml91 mo cn ia dr en la wo op mk ir se ec lc wc ol al dn md := ⟨_, _, _, _, _, _, _, fcn_3, fia_3, fdr_3, fen_3, fla_3, fwo_3, fop, fmk, fir, fse_3, fec_3, flc_3, fol_2, fal, fwc_3, hap, hM_3, hmd_3, ⟨hrC_3, hrL_3, hrM⟩, hcn_3, hia_3, hdr_3, hen_3, hla_3, hwo_3, kop_3, kmk_3, kir_3, hse_3, hec_3, hlc_3, hwc_3, kol_3, kal_3⟩
              refine W_loop (σ := Nat × mM) (fun ⟨j157, Ml157⟩ H locs ls => (0 ≤ j157 ∧ j157 < 2147483000) ∧ (mI k Ml157 mo cn ia dr en la wo op mk ir se ec lc wc ol al dn md) ∧ (kpx (fun a => a ∈ [mo, cn, ia, dr, en, la, wo, op, mk, ir, se, ec, lc, wc, ol, al]) M Ml157) ∧ (kpx (fun a => a ∈ [mo, en, la, wo, ec, lc, wc]) Ml91 Ml157) ∧ mm D (AZ z) Ml157 H ∧ va_S (AZ z) s.heap H locs ∧ lv_has ls 8 [(6, .int (nI j157)), (5, .int (nI nb103)), (4, .int (-1)), (3, .int (nI j91)), (2, .int (nI (2 + (5 * t9)))), (0, .ref mo), (1, .int (nI t9))]) (fun ⟨j157, Ml157⟩ => 2147483648 - j157) (fun _ => 0) (fun _ => 0) ?_ (0, Ml91) _ _ _ ⟨⟨Nat.le_refl _, by omega⟩, hI0, hkp, (kpx.refl _ _), hm, hS, lv_sub hl [0, 1, 2, 3, 4, 5, 6] rfl⟩
              intro ⟨j157, Ml157⟩ H locs ls hQ ih157
              obtain ⟨hj157, hI, hkp, hkl157, hm, hS, hl⟩ := hQ
              try dsimp only at hm hl ih157 hj157 hI hkp hkl157 ⊢
              obtain ⟨cd_11, ni_11, pw_11, cm_11, wr_11, cs_11, hm9_11, _, _, _, fen_11, fla_11, fwo_11, _, _, _, _, fec_11, flc_11, _, _, fwc_11, -, hM_11, hmd_11, ⟨-, hrL_11, -⟩, -, -, -, hen_11, hla_11, hwo_11, -, -, -, -, hec_11, hlc_11, hwc_11, -, -⟩ := id hI
              have kcn_11 := hkl157 _ _ (by simp only [List.mem_cons, List.not_mem_nil, or_false, not_or]; exact ⟨ne_cn_mo, ne_cn_en, ne_cn_la, ne_cn_wo, ne_cn_ec, ne_cn_lc, ne_cn_wc⟩) hcn_3
              have kia_11 := hkl157 _ _ (by simp only [List.mem_cons, List.not_mem_nil, or_false, not_or]; exact ⟨ne_ia_mo, ne_ia_en, ne_ia_la, ne_ia_wo, ne_ia_ec, ne_ia_lc, ne_ia_wc⟩) hia_3
              have kdr_11 := hkl157 _ _ (by simp only [List.mem_cons, List.not_mem_nil, or_false, not_or]; exact ⟨ne_dr_mo, ne_dr_en, ne_dr_la, ne_dr_wo, ne_dr_ec, ne_dr_lc, ne_dr_wc⟩) hdr_3
              have kop_11 := hkl157 _ _ (by simp only [List.mem_cons, List.not_mem_nil, or_false, not_or]; exact ⟨ne_op_mo, ne_op_en, ne_op_la, ne_op_wo, ne_op_ec, ne_op_lc, ne_op_wc⟩) kop_3
              have kmk_11 := hkl157 _ _ (by simp only [List.mem_cons, List.not_mem_nil, or_false, not_or]; exact ⟨ne_mk_mo, ne_mk_en, ne_mk_la, ne_mk_wo, ne_mk_ec, ne_mk_lc, ne_mk_wc⟩) kmk_3
              have kir_11 := hkl157 _ _ (by simp only [List.mem_cons, List.not_mem_nil, or_false, not_or]; exact ⟨ne_ir_mo, ne_ir_en, ne_ir_la, ne_ir_wo, ne_ir_ec, ne_ir_lc, ne_ir_wc⟩) kir_3
              have kse_11 := hkl157 _ _ (by simp only [List.mem_cons, List.not_mem_nil, or_false, not_or]; exact ⟨ne_se_mo, ne_se_en, ne_se_la, ne_se_wo, ne_se_ec, ne_se_lc, ne_se_wc⟩) hse_3
              have kol_11 := hkl157 _ _ (by simp only [List.mem_cons, List.not_mem_nil, or_false, not_or]; exact ⟨ne_ol_mo, ne_ol_en, ne_ol_la, ne_ol_wo, ne_ol_ec, ne_ol_lc, ne_ol_wc⟩) kol_3
              have kal_11 := hkl157 _ _ (by simp only [List.mem_cons, List.not_mem_nil, or_false, not_or]; exact ⟨ne_al_mo, ne_al_en, ne_al_la, ne_al_wo, ne_al_ec, ne_al_lc, ne_al_wc⟩) kal_3
              have hkl91 := hkl91.trans (hkl157.mono (fun a ha => by simp only [List.mem_cons, List.not_mem_nil, or_false] at ha ⊢; rcases ha with q9 | q9 | q9 | q9 | q9 | q9 | q9 <;> simp [q9]))
              refine lv_iload hx hb dX6_makeTree_157 (lv_at hl 0 rfl) ?_
              refine lv_bipush (v := 95) hx hb dX6_makeTree_159 (by decide) ?_
              refine lv_icmp_ge (tgt := 287) hx hb dX6_makeTree_161 (by decide) (fun c32 => ?_) (fun c32 => ?_)
              · have hqc32 : 95 ≤ j157 := nb_le (a := 95) (b := j157) (by omega) (by omega) c32
                refine lv_iinc (v := ((nI j91) + 1)) (lv' := [(3, .int ((nI j91) + 1)), (6, .int (nI j157)), (5, .int (nI nb103)), (4, .int (-1)), (2, .int (nI (2 + (5 * t9)))), (0, .ref mo), (1, .int (nI t9))]) hx hb dX6_makeTree_287 hl (k := 3) rfl rfl (by decide) rfl (fun ls hl => ?_)
                refine lv_goto (tgt := 91) hx hb dX6_makeTree_290 (by decide) ?_
                rw [nI_1] at hl
                exact ih91 (j91 + 1, Ml157) _ _ _ ⟨⟨by omega, by omega⟩, ⟨_, _, _, _, _, _, _, fcn_3, fia_3, fdr_3, fen_11, fla_11, fwo_11, fop, fmk, fir, fse_3, fec_11, flc_11, fol_2, fal, fwc_11, hap, hM_11, hmd_3, ⟨hrC_3, hrL_11, hrM⟩, kcn_11, kia_11, kdr_11, hen_11, hla_11, hwo_11, kop_11, kmk_11, kir_11, kse_11, hec_11, hlc_11, hwc_11, kol_11, kal_11⟩, hkp, hkl91, ((hc31.of ((kcn_11).trans (hcn_3).symm)).up (by omega)), hm, hS, lv_sub hl [0, 4, 5, 6] rfl⟩ (by show 2147483648 - (j91 + 1) < 2147483648 - j91; omega)
              · have hqc32 : j157 < 95 := nb_nle (a := 95) (b := j157) (by omega) (by omega) c32
                refine lv_iload hx hb dX6_makeTree_164 (lv_at hl 1 rfl) ?_
                refine lv_if_lt (tgt := 287) hx hb dX6_makeTree_166 (by decide) (fun c33 => ?_) (fun c33 => ?_)
                · have hqc33 : nb103 < 0 := nb_lt (a := nb103) (b := 0) (by omega) (by omega) c33
                  omega
                · have hqc33 : 0 ≤ nb103 := nb_nlt (a := nb103) (b := 0) (by omega) (by omega) c33
                  refine lv_aload_n hx hb dX6_makeTree_169 rfl (lv_at hl 5 rfl) ?_
                  refine m_get (T := TX6) (N := 24) (ci := 6) (v := .ref dr) hx hb hts wX6 hown hK hm hM_11 rfl 3 (by decide) f16 (fun _ h9 => h9) rfl dX6_makeTree_170 ?_
                  refine lv_iload_n hx hb dX6_makeTree_173 rfl (lv_at hl 3 rfl) ?_
                  refine m_zald hx hb hK hm 2 kdr_11 rfl (vp_in_nI (by omega) (by decide)) dX6_makeTree_174 ?_
                  refine lv_iload hx hb dX6_makeTree_175 (lv_at hl 0 rfl) ?_
                  refine m_kS (As := [.int (fdr_3 ((nI j91)).toNatClampNeg), .int (nI j157)]) (rest := []) (rm := { frames := 0, cells := 0, slots := 0, locals := 0 }) ⟨hx, hb, hml, hown, hts⟩ (s_X6_hasCode l D k z _ (fdr_3 ((nI j91)).toNatClampNeg) (nI j157)) (cwS 2 hts gX6_makeTree_X6_hasCode rfl rfl rfl (by decide +kernel) ⟨Nat.le_of_ble_eq_true rfl, Nat.le_of_ble_eq_true rfl⟩) hz hcx hm hS rfl hl.1 rfl (Nat.le_of_ble_eq_true rfl) dX6_makeTree_177 ⟨Nat.le_of_ble_eq_true rfl, Nat.le_of_ble_eq_true rfl⟩ (fun v M1 H locs hv hm hS => ?_)
                  obtain ⟨⟨w34, hv1⟩, hM1⟩ := hv
                  rw [hM1] at hm
                  subst hv1
                  refine W.eq (g2 := F0 m 180 ls [.int w34]) rfl ?_
                  refine W.widen (k := 0) (n := 0) (Nat.le_of_ble_eq_true rfl) (Nat.le_of_ble_eq_true rfl) ?_
                  have hm : mm D (AZ z) Ml157 H := hm
                  refine lv_if_eq (tgt := 201) hx hb dX6_makeTree_180 (by decide) (fun c35 => ?_) (fun c35 => ?_)
                  · refine lv_iconst (v := 0) hx hb dX6_makeTree_201 (by decide) ?_
                    refine lv_istore (lv' := [(7, .int 0), (6, .int (nI j157)), (5, .int (nI nb103)), (4, .int (-1)), (3, .int (nI j91)), (2, .int (nI (2 + (5 * t9)))), (0, .ref mo), (1, .int (nI t9))]) hx hb dX6_makeTree_202 hl (by decide) rfl (fun ls hl => ?_)
                    refine lv_iload hx hb dX6_makeTree_204 (lv_at hl 0 rfl) ?_
                    refine lv_if_eq (tgt := 281) hx hb dX6_makeTree_206 (by decide) (fun c36 => ?_) (fun c36 => ?_)
                    · refine lv_iinc (v := ((nI j157) + 1)) (lv' := [(6, .int ((nI j157) + 1)), (7, .int 0), (5, .int (nI nb103)), (4, .int (-1)), (3, .int (nI j91)), (2, .int (nI (2 + (5 * t9)))), (0, .ref mo), (1, .int (nI t9))]) hx hb dX6_makeTree_281 hl (k := 1) rfl rfl (by decide) rfl (fun ls hl => ?_)
                      refine lv_goto (tgt := 157) hx hb dX6_makeTree_284 (by decide) ?_
                      rw [nI_1] at hl
                      exact ih157 (j157 + 1, Ml157) _ _ _ ⟨⟨by omega, by omega⟩, ⟨_, _, _, _, _, _, _, fcn_3, fia_3, fdr_3, fen_11, fla_11, fwo_11, fop, fmk, fir, fse_3, fec_11, flc_11, fol_2, fal, fwc_11, hap, hM_11, hmd_3, ⟨hrC_3, hrL_11, hrM⟩, kcn_11, kia_11, kdr_11, hen_11, hla_11, hwo_11, kop_11, kmk_11, kir_11, kse_11, hec_11, hlc_11, hwc_11, kol_11, kal_11⟩, hkp, hkl157, hm, hS, lv_sub hl [0, 2, 3, 4, 5, 6, 7] rfl⟩ (by show 2147483648 - (j157 + 1) < 2147483648 - j157; omega)
                    · first | exact absurd c36 (by decide) | exact absurd (by decide) c36
                  · refine lv_iload hx hb dX6_makeTree_183 (lv_at hl 0 rfl) ?_
                    refine lv_bipush (v := 15) hx hb dX6_makeTree_185 (by decide) ?_
                    refine lv_icmp_lt (tgt := 197) hx hb dX6_makeTree_187 (by decide) (fun c37 => ?_) (fun c37 => ?_)
                    · have hqc37 : j157 < 15 := nb_lt (a := j157) (b := 15) (by omega) (by omega) c37
                      refine lv_iconst (v := 1) hx hb dX6_makeTree_197 (by decide) ?_
                      refine lv_goto (tgt := 202) hx hb dX6_makeTree_198 (by decide) ?_
                      refine lv_istore (lv' := [(7, .int 1), (6, .int (nI j157)), (5, .int (nI nb103)), (4, .int (-1)), (3, .int (nI j91)), (2, .int (nI (2 + (5 * t9)))), (0, .ref mo), (1, .int (nI t9))]) hx hb dX6_makeTree_202 hl (by decide) rfl (fun ls hl => ?_)
                      refine lv_iload hx hb dX6_makeTree_204 (lv_at hl 0 rfl) ?_
                      refine lv_if_eq (tgt := 281) hx hb dX6_makeTree_206 (by decide) (fun c38 => ?_) (fun c38 => ?_)
                      · first | exact absurd c38 (by decide) | exact absurd (by decide) c38
                      · refine lv_aload_n hx hb dX6_makeTree_209 rfl (lv_at hl 6 rfl) ?_
                        refine lv_iload_n hx hb dX6_makeTree_210 rfl (lv_at hl 4 rfl) ?_
                        refine lv_iload hx hb dX6_makeTree_211 (lv_at hl 1 rfl) ?_
                        have hI0 : mI k Ml157 mo cn ia dr en la wo op mk ir se ec lc wc ol al dn md := ⟨_, _, _, _, _, _, _, fcn_3, fia_3, fdr_3, fen_11, fla_11, fwo_11, fop, fmk, fir, fse_3, fec_11, flc_11, fol_2, fal, fwc_11, hap, hM_11, hmd_3, ⟨hrC_3, hrL_11, hrM⟩, kcn_11, kia_11, kdr_11, hen_11, hla_11, hwo_11, kop_11, kmk_11, kir_11, kse_11, hec_11, hlc_11, hwc_11, kol_11, kal_11⟩
                        refine m_kV (As := [.int (nI j91), .int (nI j157)]) (rest := []) (rm := { frames := 0, cells := 0, slots := 0, locals := 0 }) ⟨hx, hb, hml, hown, hts⟩ (s_X6_valueOf l D k z _ mo cn ia dr en la wo op mk ir se ec lc wc ol al dn md j91 j157 (by omega) (by omega) hI0) (cwV 2 hts gX6_makeTree_X6_valueOf rfl rfl rfl (by decide +kernel) ⟨Nat.le_of_ble_eq_true rfl, Nat.le_of_ble_eq_true rfl⟩) (m_recv hK hm (q := (RX6, TX6, 24)) rfl hM_11) hz hcx hm hS rfl hl.1 rfl (Nat.le_of_ble_eq_true rfl) dX6_makeTree_213 ⟨Nat.le_of_ble_eq_true rfl, Nat.le_of_ble_eq_true rfl⟩ (fun v M1 H locs hv hm hS => ?_)
                        obtain ⟨⟨w39, hv1, ew39⟩, hM1⟩ := hv
                        rw [hM1] at hm
                        subst hv1
                        refine W.eq (g2 := F0 m 216 ls [.int w39]) rfl ?_
                        refine W.widen (k := 0) (n := 0) (Nat.le_of_ble_eq_true rfl) (Nat.le_of_ble_eq_true rfl) ?_
                        have hm : mm D (AZ z) Ml157 H := hm
                        refine lv_iload hx hb dX6_makeTree_216 (lv_at hl 3 rfl) ?_
                        refine lv_if_ge (tgt := 225) hx hb dX6_makeTree_218 (by decide) (fun c40 => ?_) (fun c40 => ?_)
                        · first | exact absurd c40 (by decide) | exact absurd (by decide) c40
                        · refine lv_iconst (v := 0) hx hb dX6_makeTree_221 (by decide) ?_
                          refine lv_goto (tgt := 233) hx hb dX6_makeTree_222 (by decide) ?_
                          refine lv_icmp_eq (tgt := 281) hx hb dX6_makeTree_233 (by decide) (fun c41 => ?_) (fun c41 => ?_)
                          · refine lv_iinc (v := ((nI j157) + 1)) (lv' := [(6, .int ((nI j157) + 1)), (7, .int 1), (5, .int (nI nb103)), (4, .int (-1)), (3, .int (nI j91)), (2, .int (nI (2 + (5 * t9)))), (0, .ref mo), (1, .int (nI t9))]) hx hb dX6_makeTree_281 hl (k := 1) rfl rfl (by decide) rfl (fun ls hl => ?_)
                            refine lv_goto (tgt := 157) hx hb dX6_makeTree_284 (by decide) ?_
                            rw [nI_1] at hl
                            exact ih157 (j157 + 1, Ml157) _ _ _ ⟨⟨by omega, by omega⟩, ⟨_, _, _, _, _, _, _, fcn_3, fia_3, fdr_3, fen_11, fla_11, fwo_11, fop, fmk, fir, fse_3, fec_11, flc_11, fol_2, fal, fwc_11, hap, hM_11, hmd_3, ⟨hrC_3, hrL_11, hrM⟩, kcn_11, kia_11, kdr_11, hen_11, hla_11, hwo_11, kop_11, kmk_11, kir_11, kse_11, hec_11, hlc_11, hwc_11, kol_11, kal_11⟩, hkp, hkl157, hm, hS, lv_sub hl [0, 2, 3, 4, 5, 6, 7] rfl⟩ (by show 2147483648 - (j157 + 1) < 2147483648 - j157; omega)
                          · refine lv_aload_n hx hb dX6_makeTree_236 rfl (lv_at hl 6 rfl) ?_
                            refine lv_iload hx hb dX6_makeTree_237 (lv_at hl 2 rfl) ?_
                            refine lv_iload hx hb dX6_makeTree_239 (lv_at hl 1 rfl) ?_
                            have hI0 : mI k Ml157 mo cn ia dr en la wo op mk ir se ec lc wc ol al dn md := ⟨_, _, _, _, _, _, _, fcn_3, fia_3, fdr_3, fen_11, fla_11, fwo_11, fop, fmk, fir, fse_3, fec_11, flc_11, fol_2, fal, fwc_11, hap, hM_11, hmd_3, ⟨hrC_3, hrL_11, hrM⟩, kcn_11, kia_11, kdr_11, hen_11, hla_11, hwo_11, kop_11, kmk_11, kir_11, kse_11, hec_11, hlc_11, hwc_11, kol_11, kal_11⟩
                            refine m_kV (As := [.int (nI nb103), .int (nI j157)]) (rest := []) (rm := { frames := 0, cells := 0, slots := 0, locals := 0 }) ⟨hx, hb, hml, hown, hts⟩ (s_X6_valueOf l D k z _ mo cn ia dr en la wo op mk ir se ec lc wc ol al dn md nb103 j157 (by omega) (by omega) hI0) (cwV 2 hts gX6_makeTree_X6_valueOf rfl rfl rfl (by decide +kernel) ⟨Nat.le_of_ble_eq_true rfl, Nat.le_of_ble_eq_true rfl⟩) (m_recv hK hm (q := (RX6, TX6, 24)) rfl hM_11) hz hcx hm hS rfl hl.1 rfl (Nat.le_of_ble_eq_true rfl) dX6_makeTree_241 ⟨Nat.le_of_ble_eq_true rfl, Nat.le_of_ble_eq_true rfl⟩ (fun v M1 H locs hv hm hS => ?_)
                            obtain ⟨⟨w42, hv1, ew42⟩, hM1⟩ := hv
                            rw [hM1] at hm
                            subst hv1
                            refine W.eq (g2 := F0 m 244 ls [.int w42]) rfl ?_
                            refine W.widen (k := 0) (n := 0) (Nat.le_of_ble_eq_true rfl) (Nat.le_of_ble_eq_true rfl) ?_
                            have hm : mm D (AZ z) Ml157 H := hm
                            refine lv_aload_n hx hb dX6_makeTree_244 rfl (lv_at hl 6 rfl) ?_
                            refine lv_iload_n hx hb dX6_makeTree_245 rfl (lv_at hl 4 rfl) ?_
                            refine lv_iload hx hb dX6_makeTree_246 (lv_at hl 1 rfl) ?_
                            have hI0 : mI k Ml157 mo cn ia dr en la wo op mk ir se ec lc wc ol al dn md := ⟨_, _, _, _, _, _, _, fcn_3, fia_3, fdr_3, fen_11, fla_11, fwo_11, fop, fmk, fir, fse_3, fec_11, flc_11, fol_2, fal, fwc_11, hap, hM_11, hmd_3, ⟨hrC_3, hrL_11, hrM⟩, kcn_11, kia_11, kdr_11, hen_11, hla_11, hwo_11, kop_11, kmk_11, kir_11, kse_11, hec_11, hlc_11, hwc_11, kol_11, kal_11⟩
                            refine m_kV (As := [.int (nI j91), .int (nI j157)]) (rest := [.int w42]) (rm := { frames := 0, cells := 0, slots := 0, locals := 0 }) ⟨hx, hb, hml, hown, hts⟩ (s_X6_valueOf l D k z _ mo cn ia dr en la wo op mk ir se ec lc wc ol al dn md j91 j157 (by omega) (by omega) hI0) (cwV 2 hts gX6_makeTree_X6_valueOf rfl rfl rfl (by decide +kernel) ⟨Nat.le_of_ble_eq_true rfl, Nat.le_of_ble_eq_true rfl⟩) (m_recv hK hm (q := (RX6, TX6, 24)) rfl hM_11) hz hcx hm hS rfl hl.1 rfl (Nat.le_of_ble_eq_true rfl) dX6_makeTree_248 ⟨Nat.le_of_ble_eq_true rfl, Nat.le_of_ble_eq_true rfl⟩ (fun v M1 H locs hv hm hS => ?_)
                            obtain ⟨⟨w43, hv1, ew43⟩, hM1⟩ := hv
                            rw [hM1] at hm
                            subst hv1
                            refine W.eq (g2 := F0 m 251 ls [.int w43, .int w42]) rfl ?_
                            refine W.widen (k := 0) (n := 0) (Nat.le_of_ble_eq_true rfl) (Nat.le_of_ble_eq_true rfl) ?_
                            have hm : mm D (AZ z) Ml157 H := hm
                            refine lv_icmp_eq (tgt := 281) hx hb dX6_makeTree_251 (by decide) (fun c44 => ?_) (fun c44 => ?_)
                            · refine lv_iinc (v := ((nI j157) + 1)) (lv' := [(6, .int ((nI j157) + 1)), (7, .int 1), (5, .int (nI nb103)), (4, .int (-1)), (3, .int (nI j91)), (2, .int (nI (2 + (5 * t9)))), (0, .ref mo), (1, .int (nI t9))]) hx hb dX6_makeTree_281 hl (k := 1) rfl rfl (by decide) rfl (fun ls hl => ?_)
                              refine lv_goto (tgt := 157) hx hb dX6_makeTree_284 (by decide) ?_
                              rw [nI_1] at hl
                              exact ih157 (j157 + 1, Ml157) _ _ _ ⟨⟨by omega, by omega⟩, ⟨_, _, _, _, _, _, _, fcn_3, fia_3, fdr_3, fen_11, fla_11, fwo_11, fop, fmk, fir, fse_3, fec_11, flc_11, fol_2, fal, fwc_11, hap, hM_11, hmd_3, ⟨hrC_3, hrL_11, hrM⟩, kcn_11, kia_11, kdr_11, hen_11, hla_11, hwo_11, kop_11, kmk_11, kir_11, kse_11, hec_11, hlc_11, hwc_11, kol_11, kal_11⟩, hkp, hkl157, hm, hS, lv_sub hl [0, 2, 3, 4, 5, 6, 7] rfl⟩ (by show 2147483648 - (j157 + 1) < 2147483648 - j157; omega)
                            · refine lv_aload_n hx hb dX6_makeTree_254 rfl (lv_at hl 6 rfl) ?_
                              refine lv_iload hx hb dX6_makeTree_255 (lv_at hl 2 rfl) ?_
                              refine lv_iload hx hb dX6_makeTree_257 (lv_at hl 1 rfl) ?_
                              refine lv_aload_n hx hb dX6_makeTree_259 rfl (lv_at hl 6 rfl) ?_
                              refine lv_iload_n hx hb dX6_makeTree_260 rfl (lv_at hl 4 rfl) ?_
                              refine lv_iload hx hb dX6_makeTree_261 (lv_at hl 1 rfl) ?_
                              have hI0 : mI k Ml157 mo cn ia dr en la wo op mk ir se ec lc wc ol al dn md := ⟨_, _, _, _, _, _, _, fcn_3, fia_3, fdr_3, fen_11, fla_11, fwo_11, fop, fmk, fir, fse_3, fec_11, flc_11, fol_2, fal, fwc_11, hap, hM_11, hmd_3, ⟨hrC_3, hrL_11, hrM⟩, kcn_11, kia_11, kdr_11, hen_11, hla_11, hwo_11, kop_11, kmk_11, kir_11, kse_11, hec_11, hlc_11, hwc_11, kol_11, kal_11⟩
                              refine m_kV (As := [.int (nI j91), .int (nI j157)]) (rest := [.int (nI j157), .int (nI nb103), .ref mo]) (rm := { frames := 0, cells := 0, slots := 0, locals := 0 }) ⟨hx, hb, hml, hown, hts⟩ (s_X6_valueOf l D k z _ mo cn ia dr en la wo op mk ir se ec lc wc ol al dn md j91 j157 (by omega) (by omega) hI0) (cwV 2 hts gX6_makeTree_X6_valueOf rfl rfl rfl (by decide +kernel) ⟨Nat.le_of_ble_eq_true rfl, Nat.le_of_ble_eq_true rfl⟩) (m_recv hK hm (q := (RX6, TX6, 24)) rfl hM_11) hz hcx hm hS rfl hl.1 rfl (Nat.le_of_ble_eq_true rfl) dX6_makeTree_263 ⟨Nat.le_of_ble_eq_true rfl, Nat.le_of_ble_eq_true rfl⟩ (fun v M1 H locs hv hm hS => ?_)
                              obtain ⟨⟨w45, hv1, ew45⟩, hM1⟩ := hv
                              rw [hM1] at hm
                              subst hv1
                              refine W.eq (g2 := F0 m 266 ls [.int w45, .int (nI j157), .int (nI nb103), .ref mo]) rfl ?_
                              refine W.widen (k := 0) (n := 0) (Nat.le_of_ble_eq_true rfl) (Nat.le_of_ble_eq_true rfl) ?_
                              have hm : mm D (AZ z) Ml157 H := hm
                              have hI0 : mI k Ml157 mo cn ia dr en la wo op mk ir se ec lc wc ol al dn md := ⟨_, _, _, _, _, _, _, fcn_3, fia_3, fdr_3, fen_11, fla_11, fwo_11, fop, fmk, fir, fse_3, fec_11, flc_11, fol_2, fal, fwc_11, hap, hM_11, hmd_3, ⟨hrC_3, hrL_11, hrM⟩, kcn_11, kia_11, kdr_11, hen_11, hla_11, hwo_11, kop_11, kmk_11, kir_11, kse_11, hec_11, hlc_11, hwc_11, kol_11, kal_11⟩
                              refine m_kV (As := [.int (nI nb103), .int (nI j157), .int w45]) (rest := []) (rm := { frames := 0, cells := 0, slots := 0, locals := 0 }) ⟨hx, hb, hml, hown, hts⟩ (x_X6_setValue l D k z _ mo cn ia dr en la wo op mk ir se ec lc wc ol al dn md nb103 j157 w45 (by omega) (by omega) (by omega) ew45 hI0) (cwV 3 hts gX6_makeTree_X6_setValue rfl rfl rfl (by decide +kernel) ⟨Nat.le_of_ble_eq_true rfl, Nat.le_of_ble_eq_true rfl⟩) (m_recv hK hm (q := (RX6, TX6, 24)) rfl hM_11) hz hcx hm hS rfl hl.1 rfl (Nat.le_of_ble_eq_true rfl) dX6_makeTree_266 ⟨Nat.le_of_ble_eq_true rfl, Nat.le_of_ble_eq_true rfl⟩ (fun v M1 H locs hv hm hS => ?_)
                              obtain ⟨hv1, hI9, hk9⟩ := hv
                              obtain ⟨_, _, _, _, _, _, _, _, _, _, fen_12, fla_12, fwo_12, _, _, _, _, _, _, _, _, _, -, -, hmd_12, ⟨-, hrL_12, -⟩, -, -, -, hen_12, hla_12, hwo_12, -, -, -, -, -, -, -, -, -⟩ := id hI9
                              have kmo_12 := hk9 _ _ (by simp only [List.mem_cons, List.not_mem_nil, or_false, not_or]; exact ⟨ne_mo_en, ne_mo_la, ne_mo_wo⟩) hM_11
                              have kcn_12 := hk9 _ _ (by simp only [List.mem_cons, List.not_mem_nil, or_false, not_or]; exact ⟨ne_cn_en, ne_cn_la, ne_cn_wo⟩) kcn_11
                              have kia_12 := hk9 _ _ (by simp only [List.mem_cons, List.not_mem_nil, or_false, not_or]; exact ⟨ne_ia_en, ne_ia_la, ne_ia_wo⟩) kia_11
                              have kdr_12 := hk9 _ _ (by simp only [List.mem_cons, List.not_mem_nil, or_false, not_or]; exact ⟨ne_dr_en, ne_dr_la, ne_dr_wo⟩) kdr_11
                              have kop_12 := hk9 _ _ (by simp only [List.mem_cons, List.not_mem_nil, or_false, not_or]; exact ⟨ne_op_en, ne_op_la, ne_op_wo⟩) kop_11
                              have kmk_12 := hk9 _ _ (by simp only [List.mem_cons, List.not_mem_nil, or_false, not_or]; exact ⟨ne_mk_en, ne_mk_la, ne_mk_wo⟩) kmk_11
                              have kir_12 := hk9 _ _ (by simp only [List.mem_cons, List.not_mem_nil, or_false, not_or]; exact ⟨ne_ir_en, ne_ir_la, ne_ir_wo⟩) kir_11
                              have kse_12 := hk9 _ _ (by simp only [List.mem_cons, List.not_mem_nil, or_false, not_or]; exact ⟨ne_se_en, ne_se_la, ne_se_wo⟩) kse_11
                              have kec_12 := hk9 _ _ (by simp only [List.mem_cons, List.not_mem_nil, or_false, not_or]; exact ⟨ne_ec_en, ne_ec_la, ne_ec_wo⟩) hec_11
                              have klc_12 := hk9 _ _ (by simp only [List.mem_cons, List.not_mem_nil, or_false, not_or]; exact ⟨ne_lc_en, ne_lc_la, ne_lc_wo⟩) hlc_11
                              have kwc_12 := hk9 _ _ (by simp only [List.mem_cons, List.not_mem_nil, or_false, not_or]; exact ⟨ne_wc_en, ne_wc_la, ne_wc_wo⟩) hwc_11
                              have kol_12 := hk9 _ _ (by simp only [List.mem_cons, List.not_mem_nil, or_false, not_or]; exact ⟨ne_ol_en, ne_ol_la, ne_ol_wo⟩) kol_11
                              have kal_12 := hk9 _ _ (by simp only [List.mem_cons, List.not_mem_nil, or_false, not_or]; exact ⟨ne_al_en, ne_al_la, ne_al_wo⟩) kal_11
                              have hkp := hkp.trans (hk9.mono (fun a ha => by simp only [List.mem_cons, List.not_mem_nil, or_false] at ha ⊢; rcases ha with q9 | q9 | q9 <;> simp [q9]))
                              have hkl91 := hkl91.trans (hk9.mono (fun a ha => by simp only [List.mem_cons, List.not_mem_nil, or_false] at ha ⊢; rcases ha with q9 | q9 | q9 <;> simp [q9]))
                              have hkl157 := hkl157.trans (hk9.mono (fun a ha => by simp only [List.mem_cons, List.not_mem_nil, or_false] at ha ⊢; rcases ha with q9 | q9 | q9 <;> simp [q9]))
                              obtain ⟨Mc8, hMx⟩ : ∃ x : mM, x = M1 := ⟨M1, rfl⟩
                              subst hMx
                              subst hv1
                              refine W.eq (g2 := F0 m 269 ls []) rfl ?_
                              refine W.widen (k := 0) (n := 0) (Nat.le_of_ble_eq_true rfl) (Nat.le_of_ble_eq_true rfl) ?_
                              have hm : mm D (AZ z) Mc8 H := hm
                              refine lv_aload_n hx hb dX6_makeTree_269 rfl (lv_at hl 6 rfl) ?_
                              refine lv_iload hx hb dX6_makeTree_270 (lv_at hl 2 rfl) ?_
                              refine lv_sipush (v := 3100) hx hb dX6_makeTree_272 (by decide) ?_
                              refine lv_isub hx hb dX6_makeTree_275 ?_
                              refine W.eq (g2 := F0 m 276 ls [.int (nI (nb103 - 3100)), .ref mo]) (by rw [show (((nI nb103)) - (3100) : Int32) = nI (nb103 - 3100) from pk_sub (a := nb103) (b := 3100) (by omega)]) ?_
                              refine lv_iload hx hb dX6_makeTree_276 (lv_at hl 1 rfl) ?_
                              have hI0 : mI k Mc8 mo cn ia dr en la wo op mk ir se ec lc wc ol al dn md := ⟨_, _, _, _, _, _, _, fcn_3, fia_3, fdr_3, fen_12, fla_12, fwo_12, fop, fmk, fir, fse_3, fec_11, flc_11, fol_2, fal, fwc_11, hap, kmo_12, hmd_3, ⟨hrC_3, hrL_12, hrM⟩, kcn_12, kia_12, kdr_12, hen_12, hla_12, hwo_12, kop_12, kmk_12, kir_12, kse_12, kec_12, klc_12, kwc_12, kol_12, kal_12⟩
                              refine m_kV (As := [.int (nI (nb103 - 3100)), .int (nI j157)]) (rest := []) (rm := { frames := 0, cells := 0, slots := 0, locals := 0 }) ⟨hx, hb, hml, hown, hts⟩ (x_X6_come l D k z _ mo cn ia dr en la wo op mk ir se ec lc wc ol al dn md (nb103 - 3100) j157 (by omega) (by omega) hI0) (cwV 2 hts gX6_makeTree_X6_come rfl rfl rfl (by decide +kernel) ⟨Nat.le_of_ble_eq_true rfl, Nat.le_of_ble_eq_true rfl⟩) (m_recv hK hm (q := (RX6, TX6, 24)) rfl kmo_12) hz hcx hm hS rfl hl.1 rfl (Nat.le_of_ble_eq_true rfl) dX6_makeTree_278 ⟨Nat.le_of_ble_eq_true rfl, Nat.le_of_ble_eq_true rfl⟩ (fun v M1 H locs hv hm hS => ?_)
                              obtain ⟨hv1, hI9, hk9⟩ := hv
                              obtain ⟨cd_13, ni_13, pw_13, cm_13, wr_13, cs_13, hm9_13, _, _, _, _, _, _, _, _, _, _, fec_13, flc_13, _, _, fwc_13, -, hM_13, hmd_13, ⟨-, -, -⟩, -, -, -, -, -, -, -, -, -, -, hec_13, hlc_13, hwc_13, -, -⟩ := id hI9
                              have kcn_13 := hk9 _ _ (by simp only [List.mem_cons, List.not_mem_nil, or_false, not_or]; exact ⟨ne_cn_mo, ne_cn_ec, ne_cn_lc, ne_cn_wc⟩) kcn_12
                              have kia_13 := hk9 _ _ (by simp only [List.mem_cons, List.not_mem_nil, or_false, not_or]; exact ⟨ne_ia_mo, ne_ia_ec, ne_ia_lc, ne_ia_wc⟩) kia_12
                              have kdr_13 := hk9 _ _ (by simp only [List.mem_cons, List.not_mem_nil, or_false, not_or]; exact ⟨ne_dr_mo, ne_dr_ec, ne_dr_lc, ne_dr_wc⟩) kdr_12
                              have ken_13 := hk9 _ _ (by simp only [List.mem_cons, List.not_mem_nil, or_false, not_or]; exact ⟨ne_en_mo, ne_en_ec, ne_en_lc, ne_en_wc⟩) hen_12
                              have kla_13 := hk9 _ _ (by simp only [List.mem_cons, List.not_mem_nil, or_false, not_or]; exact ⟨ne_la_mo, ne_la_ec, ne_la_lc, ne_la_wc⟩) hla_12
                              have kwo_13 := hk9 _ _ (by simp only [List.mem_cons, List.not_mem_nil, or_false, not_or]; exact ⟨ne_wo_mo, ne_wo_ec, ne_wo_lc, ne_wo_wc⟩) hwo_12
                              have kop_13 := hk9 _ _ (by simp only [List.mem_cons, List.not_mem_nil, or_false, not_or]; exact ⟨ne_op_mo, ne_op_ec, ne_op_lc, ne_op_wc⟩) kop_12
                              have kmk_13 := hk9 _ _ (by simp only [List.mem_cons, List.not_mem_nil, or_false, not_or]; exact ⟨ne_mk_mo, ne_mk_ec, ne_mk_lc, ne_mk_wc⟩) kmk_12
                              have kir_13 := hk9 _ _ (by simp only [List.mem_cons, List.not_mem_nil, or_false, not_or]; exact ⟨ne_ir_mo, ne_ir_ec, ne_ir_lc, ne_ir_wc⟩) kir_12
                              have kse_13 := hk9 _ _ (by simp only [List.mem_cons, List.not_mem_nil, or_false, not_or]; exact ⟨ne_se_mo, ne_se_ec, ne_se_lc, ne_se_wc⟩) kse_12
                              have kol_13 := hk9 _ _ (by simp only [List.mem_cons, List.not_mem_nil, or_false, not_or]; exact ⟨ne_ol_mo, ne_ol_ec, ne_ol_lc, ne_ol_wc⟩) kol_12
                              have kal_13 := hk9 _ _ (by simp only [List.mem_cons, List.not_mem_nil, or_false, not_or]; exact ⟨ne_al_mo, ne_al_ec, ne_al_lc, ne_al_wc⟩) kal_12
                              have hkp := hkp.trans (hk9.mono (fun a ha => by simp only [List.mem_cons, List.not_mem_nil, or_false] at ha ⊢; rcases ha with q9 | q9 | q9 | q9 <;> simp [q9]))
                              have hkl91 := hkl91.trans (hk9.mono (fun a ha => by simp only [List.mem_cons, List.not_mem_nil, or_false] at ha ⊢; rcases ha with q9 | q9 | q9 | q9 <;> simp [q9]))
                              have hkl157 := hkl157.trans (hk9.mono (fun a ha => by simp only [List.mem_cons, List.not_mem_nil, or_false] at ha ⊢; rcases ha with q9 | q9 | q9 | q9 <;> simp [q9]))
                              obtain ⟨Mc9, hMx⟩ : ∃ x : mM, x = M1 := ⟨M1, rfl⟩
                              subst hMx
                              subst hv1
                              refine W.eq (g2 := F0 m 281 ls []) rfl ?_
                              refine W.widen (k := 0) (n := 0) (Nat.le_of_ble_eq_true rfl) (Nat.le_of_ble_eq_true rfl) ?_
                              have hm : mm D (AZ z) Mc9 H := hm
                              refine lv_iinc (v := ((nI j157) + 1)) (lv' := [(6, .int ((nI j157) + 1)), (7, .int 1), (5, .int (nI nb103)), (4, .int (-1)), (3, .int (nI j91)), (2, .int (nI (2 + (5 * t9)))), (0, .ref mo), (1, .int (nI t9))]) hx hb dX6_makeTree_281 hl (k := 1) rfl rfl (by decide) rfl (fun ls hl => ?_)
                              refine lv_goto (tgt := 157) hx hb dX6_makeTree_284 (by decide) ?_
                              rw [nI_1] at hl
                              exact ih157 (j157 + 1, Mc9) _ _ _ ⟨⟨by omega, by omega⟩, ⟨_, _, _, _, _, _, _, fcn_3, fia_3, fdr_3, fen_12, fla_12, fwo_12, fop, fmk, fir, fse_3, fec_13, flc_13, fol_2, fal, fwc_13, hap, hM_13, hmd_3, ⟨hrC_3, hrL_12, hrM⟩, kcn_13, kia_13, kdr_13, ken_13, kla_13, kwo_13, kop_13, kmk_13, kir_13, kse_13, hec_13, hlc_13, hwc_13, kol_13, kal_13⟩, hkp, hkl157, hm, hS, lv_sub hl [0, 2, 3, 4, 5, 6, 7] rfl⟩ (by show 2147483648 - (j157 + 1) < 2147483648 - j157; omega)
                    · have hqc37 : 15 ≤ j157 := nb_nlt (a := j157) (b := 15) (by omega) (by omega) c37
                      refine lv_iload hx hb dX6_makeTree_190 (lv_at hl 0 rfl) ?_
                      refine lv_bipush (v := 29) hx hb dX6_makeTree_192 (by decide) ?_
                      refine lv_icmp_le (tgt := 201) hx hb dX6_makeTree_194 (by decide) (fun c46 => ?_) (fun c46 => ?_)
                      · have hqc46 : j157 ≤ 29 := nb_le (a := j157) (b := 29) (by omega) (by omega) c46
                        refine lv_iconst (v := 0) hx hb dX6_makeTree_201 (by decide) ?_
                        refine lv_istore (lv' := [(7, .int 0), (6, .int (nI j157)), (5, .int (nI nb103)), (4, .int (-1)), (3, .int (nI j91)), (2, .int (nI (2 + (5 * t9)))), (0, .ref mo), (1, .int (nI t9))]) hx hb dX6_makeTree_202 hl (by decide) rfl (fun ls hl => ?_)
                        refine lv_iload hx hb dX6_makeTree_204 (lv_at hl 0 rfl) ?_
                        refine lv_if_eq (tgt := 281) hx hb dX6_makeTree_206 (by decide) (fun c47 => ?_) (fun c47 => ?_)
                        · refine lv_iinc (v := ((nI j157) + 1)) (lv' := [(6, .int ((nI j157) + 1)), (7, .int 0), (5, .int (nI nb103)), (4, .int (-1)), (3, .int (nI j91)), (2, .int (nI (2 + (5 * t9)))), (0, .ref mo), (1, .int (nI t9))]) hx hb dX6_makeTree_281 hl (k := 1) rfl rfl (by decide) rfl (fun ls hl => ?_)
                          refine lv_goto (tgt := 157) hx hb dX6_makeTree_284 (by decide) ?_
                          rw [nI_1] at hl
                          exact ih157 (j157 + 1, Ml157) _ _ _ ⟨⟨by omega, by omega⟩, ⟨_, _, _, _, _, _, _, fcn_3, fia_3, fdr_3, fen_11, fla_11, fwo_11, fop, fmk, fir, fse_3, fec_11, flc_11, fol_2, fal, fwc_11, hap, hM_11, hmd_3, ⟨hrC_3, hrL_11, hrM⟩, kcn_11, kia_11, kdr_11, hen_11, hla_11, hwo_11, kop_11, kmk_11, kir_11, kse_11, hec_11, hlc_11, hwc_11, kol_11, kal_11⟩, hkp, hkl157, hm, hS, lv_sub hl [0, 2, 3, 4, 5, 6, 7] rfl⟩ (by show 2147483648 - (j157 + 1) < 2147483648 - j157; omega)
                        · first | exact absurd c47 (by decide) | exact absurd (by decide) c47
                      · have hqc46 : 29 < j157 := nb_nle (a := j157) (b := 29) (by omega) (by omega) c46
                        refine lv_iconst (v := 1) hx hb dX6_makeTree_197 (by decide) ?_
                        refine lv_goto (tgt := 202) hx hb dX6_makeTree_198 (by decide) ?_
                        refine lv_istore (lv' := [(7, .int 1), (6, .int (nI j157)), (5, .int (nI nb103)), (4, .int (-1)), (3, .int (nI j91)), (2, .int (nI (2 + (5 * t9)))), (0, .ref mo), (1, .int (nI t9))]) hx hb dX6_makeTree_202 hl (by decide) rfl (fun ls hl => ?_)
                        refine lv_iload hx hb dX6_makeTree_204 (lv_at hl 0 rfl) ?_
                        refine lv_if_eq (tgt := 281) hx hb dX6_makeTree_206 (by decide) (fun c48 => ?_) (fun c48 => ?_)
                        · first | exact absurd c48 (by decide) | exact absurd (by decide) c48
                        · refine lv_aload_n hx hb dX6_makeTree_209 rfl (lv_at hl 6 rfl) ?_
                          refine lv_iload_n hx hb dX6_makeTree_210 rfl (lv_at hl 4 rfl) ?_
                          refine lv_iload hx hb dX6_makeTree_211 (lv_at hl 1 rfl) ?_
                          have hI0 : mI k Ml157 mo cn ia dr en la wo op mk ir se ec lc wc ol al dn md := ⟨_, _, _, _, _, _, _, fcn_3, fia_3, fdr_3, fen_11, fla_11, fwo_11, fop, fmk, fir, fse_3, fec_11, flc_11, fol_2, fal, fwc_11, hap, hM_11, hmd_3, ⟨hrC_3, hrL_11, hrM⟩, kcn_11, kia_11, kdr_11, hen_11, hla_11, hwo_11, kop_11, kmk_11, kir_11, kse_11, hec_11, hlc_11, hwc_11, kol_11, kal_11⟩
                          refine m_kV (As := [.int (nI j91), .int (nI j157)]) (rest := []) (rm := { frames := 0, cells := 0, slots := 0, locals := 0 }) ⟨hx, hb, hml, hown, hts⟩ (s_X6_valueOf l D k z _ mo cn ia dr en la wo op mk ir se ec lc wc ol al dn md j91 j157 (by omega) (by omega) hI0) (cwV 2 hts gX6_makeTree_X6_valueOf rfl rfl rfl (by decide +kernel) ⟨Nat.le_of_ble_eq_true rfl, Nat.le_of_ble_eq_true rfl⟩) (m_recv hK hm (q := (RX6, TX6, 24)) rfl hM_11) hz hcx hm hS rfl hl.1 rfl (Nat.le_of_ble_eq_true rfl) dX6_makeTree_213 ⟨Nat.le_of_ble_eq_true rfl, Nat.le_of_ble_eq_true rfl⟩ (fun v M1 H locs hv hm hS => ?_)
                          obtain ⟨⟨w49, hv1, ew49⟩, hM1⟩ := hv
                          rw [hM1] at hm
                          subst hv1
                          refine W.eq (g2 := F0 m 216 ls [.int w49]) rfl ?_
                          refine W.widen (k := 0) (n := 0) (Nat.le_of_ble_eq_true rfl) (Nat.le_of_ble_eq_true rfl) ?_
                          have hm : mm D (AZ z) Ml157 H := hm
                          refine lv_iload hx hb dX6_makeTree_216 (lv_at hl 3 rfl) ?_
                          refine lv_if_ge (tgt := 225) hx hb dX6_makeTree_218 (by decide) (fun c50 => ?_) (fun c50 => ?_)
                          · first | exact absurd c50 (by decide) | exact absurd (by decide) c50
                          · refine lv_iconst (v := 0) hx hb dX6_makeTree_221 (by decide) ?_
                            refine lv_goto (tgt := 233) hx hb dX6_makeTree_222 (by decide) ?_
                            refine lv_icmp_eq (tgt := 281) hx hb dX6_makeTree_233 (by decide) (fun c51 => ?_) (fun c51 => ?_)
                            · refine lv_iinc (v := ((nI j157) + 1)) (lv' := [(6, .int ((nI j157) + 1)), (7, .int 1), (5, .int (nI nb103)), (4, .int (-1)), (3, .int (nI j91)), (2, .int (nI (2 + (5 * t9)))), (0, .ref mo), (1, .int (nI t9))]) hx hb dX6_makeTree_281 hl (k := 1) rfl rfl (by decide) rfl (fun ls hl => ?_)
                              refine lv_goto (tgt := 157) hx hb dX6_makeTree_284 (by decide) ?_
                              rw [nI_1] at hl
                              exact ih157 (j157 + 1, Ml157) _ _ _ ⟨⟨by omega, by omega⟩, ⟨_, _, _, _, _, _, _, fcn_3, fia_3, fdr_3, fen_11, fla_11, fwo_11, fop, fmk, fir, fse_3, fec_11, flc_11, fol_2, fal, fwc_11, hap, hM_11, hmd_3, ⟨hrC_3, hrL_11, hrM⟩, kcn_11, kia_11, kdr_11, hen_11, hla_11, hwo_11, kop_11, kmk_11, kir_11, kse_11, hec_11, hlc_11, hwc_11, kol_11, kal_11⟩, hkp, hkl157, hm, hS, lv_sub hl [0, 2, 3, 4, 5, 6, 7] rfl⟩ (by show 2147483648 - (j157 + 1) < 2147483648 - j157; omega)
                            · refine lv_aload_n hx hb dX6_makeTree_236 rfl (lv_at hl 6 rfl) ?_
                              refine lv_iload hx hb dX6_makeTree_237 (lv_at hl 2 rfl) ?_
                              refine lv_iload hx hb dX6_makeTree_239 (lv_at hl 1 rfl) ?_
                              have hI0 : mI k Ml157 mo cn ia dr en la wo op mk ir se ec lc wc ol al dn md := ⟨_, _, _, _, _, _, _, fcn_3, fia_3, fdr_3, fen_11, fla_11, fwo_11, fop, fmk, fir, fse_3, fec_11, flc_11, fol_2, fal, fwc_11, hap, hM_11, hmd_3, ⟨hrC_3, hrL_11, hrM⟩, kcn_11, kia_11, kdr_11, hen_11, hla_11, hwo_11, kop_11, kmk_11, kir_11, kse_11, hec_11, hlc_11, hwc_11, kol_11, kal_11⟩
                              refine m_kV (As := [.int (nI nb103), .int (nI j157)]) (rest := []) (rm := { frames := 0, cells := 0, slots := 0, locals := 0 }) ⟨hx, hb, hml, hown, hts⟩ (s_X6_valueOf l D k z _ mo cn ia dr en la wo op mk ir se ec lc wc ol al dn md nb103 j157 (by omega) (by omega) hI0) (cwV 2 hts gX6_makeTree_X6_valueOf rfl rfl rfl (by decide +kernel) ⟨Nat.le_of_ble_eq_true rfl, Nat.le_of_ble_eq_true rfl⟩) (m_recv hK hm (q := (RX6, TX6, 24)) rfl hM_11) hz hcx hm hS rfl hl.1 rfl (Nat.le_of_ble_eq_true rfl) dX6_makeTree_241 ⟨Nat.le_of_ble_eq_true rfl, Nat.le_of_ble_eq_true rfl⟩ (fun v M1 H locs hv hm hS => ?_)
                              obtain ⟨⟨w52, hv1, ew52⟩, hM1⟩ := hv
                              rw [hM1] at hm
                              subst hv1
                              refine W.eq (g2 := F0 m 244 ls [.int w52]) rfl ?_
                              refine W.widen (k := 0) (n := 0) (Nat.le_of_ble_eq_true rfl) (Nat.le_of_ble_eq_true rfl) ?_
                              have hm : mm D (AZ z) Ml157 H := hm
                              refine lv_aload_n hx hb dX6_makeTree_244 rfl (lv_at hl 6 rfl) ?_
                              refine lv_iload_n hx hb dX6_makeTree_245 rfl (lv_at hl 4 rfl) ?_
                              refine lv_iload hx hb dX6_makeTree_246 (lv_at hl 1 rfl) ?_
                              have hI0 : mI k Ml157 mo cn ia dr en la wo op mk ir se ec lc wc ol al dn md := ⟨_, _, _, _, _, _, _, fcn_3, fia_3, fdr_3, fen_11, fla_11, fwo_11, fop, fmk, fir, fse_3, fec_11, flc_11, fol_2, fal, fwc_11, hap, hM_11, hmd_3, ⟨hrC_3, hrL_11, hrM⟩, kcn_11, kia_11, kdr_11, hen_11, hla_11, hwo_11, kop_11, kmk_11, kir_11, kse_11, hec_11, hlc_11, hwc_11, kol_11, kal_11⟩
                              refine m_kV (As := [.int (nI j91), .int (nI j157)]) (rest := [.int w52]) (rm := { frames := 0, cells := 0, slots := 0, locals := 0 }) ⟨hx, hb, hml, hown, hts⟩ (s_X6_valueOf l D k z _ mo cn ia dr en la wo op mk ir se ec lc wc ol al dn md j91 j157 (by omega) (by omega) hI0) (cwV 2 hts gX6_makeTree_X6_valueOf rfl rfl rfl (by decide +kernel) ⟨Nat.le_of_ble_eq_true rfl, Nat.le_of_ble_eq_true rfl⟩) (m_recv hK hm (q := (RX6, TX6, 24)) rfl hM_11) hz hcx hm hS rfl hl.1 rfl (Nat.le_of_ble_eq_true rfl) dX6_makeTree_248 ⟨Nat.le_of_ble_eq_true rfl, Nat.le_of_ble_eq_true rfl⟩ (fun v M1 H locs hv hm hS => ?_)
                              obtain ⟨⟨w53, hv1, ew53⟩, hM1⟩ := hv
                              rw [hM1] at hm
                              subst hv1
                              refine W.eq (g2 := F0 m 251 ls [.int w53, .int w52]) rfl ?_
                              refine W.widen (k := 0) (n := 0) (Nat.le_of_ble_eq_true rfl) (Nat.le_of_ble_eq_true rfl) ?_
                              have hm : mm D (AZ z) Ml157 H := hm
                              refine lv_icmp_eq (tgt := 281) hx hb dX6_makeTree_251 (by decide) (fun c54 => ?_) (fun c54 => ?_)
                              · refine lv_iinc (v := ((nI j157) + 1)) (lv' := [(6, .int ((nI j157) + 1)), (7, .int 1), (5, .int (nI nb103)), (4, .int (-1)), (3, .int (nI j91)), (2, .int (nI (2 + (5 * t9)))), (0, .ref mo), (1, .int (nI t9))]) hx hb dX6_makeTree_281 hl (k := 1) rfl rfl (by decide) rfl (fun ls hl => ?_)
                                refine lv_goto (tgt := 157) hx hb dX6_makeTree_284 (by decide) ?_
                                rw [nI_1] at hl
                                exact ih157 (j157 + 1, Ml157) _ _ _ ⟨⟨by omega, by omega⟩, ⟨_, _, _, _, _, _, _, fcn_3, fia_3, fdr_3, fen_11, fla_11, fwo_11, fop, fmk, fir, fse_3, fec_11, flc_11, fol_2, fal, fwc_11, hap, hM_11, hmd_3, ⟨hrC_3, hrL_11, hrM⟩, kcn_11, kia_11, kdr_11, hen_11, hla_11, hwo_11, kop_11, kmk_11, kir_11, kse_11, hec_11, hlc_11, hwc_11, kol_11, kal_11⟩, hkp, hkl157, hm, hS, lv_sub hl [0, 2, 3, 4, 5, 6, 7] rfl⟩ (by show 2147483648 - (j157 + 1) < 2147483648 - j157; omega)
                              · refine lv_aload_n hx hb dX6_makeTree_254 rfl (lv_at hl 6 rfl) ?_
                                refine lv_iload hx hb dX6_makeTree_255 (lv_at hl 2 rfl) ?_
                                refine lv_iload hx hb dX6_makeTree_257 (lv_at hl 1 rfl) ?_
                                refine lv_aload_n hx hb dX6_makeTree_259 rfl (lv_at hl 6 rfl) ?_
                                refine lv_iload_n hx hb dX6_makeTree_260 rfl (lv_at hl 4 rfl) ?_
                                refine lv_iload hx hb dX6_makeTree_261 (lv_at hl 1 rfl) ?_
                                have hI0 : mI k Ml157 mo cn ia dr en la wo op mk ir se ec lc wc ol al dn md := ⟨_, _, _, _, _, _, _, fcn_3, fia_3, fdr_3, fen_11, fla_11, fwo_11, fop, fmk, fir, fse_3, fec_11, flc_11, fol_2, fal, fwc_11, hap, hM_11, hmd_3, ⟨hrC_3, hrL_11, hrM⟩, kcn_11, kia_11, kdr_11, hen_11, hla_11, hwo_11, kop_11, kmk_11, kir_11, kse_11, hec_11, hlc_11, hwc_11, kol_11, kal_11⟩
                                refine m_kV (As := [.int (nI j91), .int (nI j157)]) (rest := [.int (nI j157), .int (nI nb103), .ref mo]) (rm := { frames := 0, cells := 0, slots := 0, locals := 0 }) ⟨hx, hb, hml, hown, hts⟩ (s_X6_valueOf l D k z _ mo cn ia dr en la wo op mk ir se ec lc wc ol al dn md j91 j157 (by omega) (by omega) hI0) (cwV 2 hts gX6_makeTree_X6_valueOf rfl rfl rfl (by decide +kernel) ⟨Nat.le_of_ble_eq_true rfl, Nat.le_of_ble_eq_true rfl⟩) (m_recv hK hm (q := (RX6, TX6, 24)) rfl hM_11) hz hcx hm hS rfl hl.1 rfl (Nat.le_of_ble_eq_true rfl) dX6_makeTree_263 ⟨Nat.le_of_ble_eq_true rfl, Nat.le_of_ble_eq_true rfl⟩ (fun v M1 H locs hv hm hS => ?_)
                                obtain ⟨⟨w55, hv1, ew55⟩, hM1⟩ := hv
                                rw [hM1] at hm
                                subst hv1
                                refine W.eq (g2 := F0 m 266 ls [.int w55, .int (nI j157), .int (nI nb103), .ref mo]) rfl ?_
                                refine W.widen (k := 0) (n := 0) (Nat.le_of_ble_eq_true rfl) (Nat.le_of_ble_eq_true rfl) ?_
                                have hm : mm D (AZ z) Ml157 H := hm
                                have hI0 : mI k Ml157 mo cn ia dr en la wo op mk ir se ec lc wc ol al dn md := ⟨_, _, _, _, _, _, _, fcn_3, fia_3, fdr_3, fen_11, fla_11, fwo_11, fop, fmk, fir, fse_3, fec_11, flc_11, fol_2, fal, fwc_11, hap, hM_11, hmd_3, ⟨hrC_3, hrL_11, hrM⟩, kcn_11, kia_11, kdr_11, hen_11, hla_11, hwo_11, kop_11, kmk_11, kir_11, kse_11, hec_11, hlc_11, hwc_11, kol_11, kal_11⟩
                                refine m_kV (As := [.int (nI nb103), .int (nI j157), .int w55]) (rest := []) (rm := { frames := 0, cells := 0, slots := 0, locals := 0 }) ⟨hx, hb, hml, hown, hts⟩ (x_X6_setValue l D k z _ mo cn ia dr en la wo op mk ir se ec lc wc ol al dn md nb103 j157 w55 (by omega) (by omega) (by omega) ew55 hI0) (cwV 3 hts gX6_makeTree_X6_setValue rfl rfl rfl (by decide +kernel) ⟨Nat.le_of_ble_eq_true rfl, Nat.le_of_ble_eq_true rfl⟩) (m_recv hK hm (q := (RX6, TX6, 24)) rfl hM_11) hz hcx hm hS rfl hl.1 rfl (Nat.le_of_ble_eq_true rfl) dX6_makeTree_266 ⟨Nat.le_of_ble_eq_true rfl, Nat.le_of_ble_eq_true rfl⟩ (fun v M1 H locs hv hm hS => ?_)
                                obtain ⟨hv1, hI9, hk9⟩ := hv
                                obtain ⟨_, _, _, _, _, _, _, _, _, _, fen_14, fla_14, fwo_14, _, _, _, _, _, _, _, _, _, -, -, hmd_14, ⟨-, hrL_14, -⟩, -, -, -, hen_14, hla_14, hwo_14, -, -, -, -, -, -, -, -, -⟩ := id hI9
                                have kmo_14 := hk9 _ _ (by simp only [List.mem_cons, List.not_mem_nil, or_false, not_or]; exact ⟨ne_mo_en, ne_mo_la, ne_mo_wo⟩) hM_11
                                have kcn_14 := hk9 _ _ (by simp only [List.mem_cons, List.not_mem_nil, or_false, not_or]; exact ⟨ne_cn_en, ne_cn_la, ne_cn_wo⟩) kcn_11
                                have kia_14 := hk9 _ _ (by simp only [List.mem_cons, List.not_mem_nil, or_false, not_or]; exact ⟨ne_ia_en, ne_ia_la, ne_ia_wo⟩) kia_11
                                have kdr_14 := hk9 _ _ (by simp only [List.mem_cons, List.not_mem_nil, or_false, not_or]; exact ⟨ne_dr_en, ne_dr_la, ne_dr_wo⟩) kdr_11
                                have kop_14 := hk9 _ _ (by simp only [List.mem_cons, List.not_mem_nil, or_false, not_or]; exact ⟨ne_op_en, ne_op_la, ne_op_wo⟩) kop_11
                                have kmk_14 := hk9 _ _ (by simp only [List.mem_cons, List.not_mem_nil, or_false, not_or]; exact ⟨ne_mk_en, ne_mk_la, ne_mk_wo⟩) kmk_11
                                have kir_14 := hk9 _ _ (by simp only [List.mem_cons, List.not_mem_nil, or_false, not_or]; exact ⟨ne_ir_en, ne_ir_la, ne_ir_wo⟩) kir_11
                                have kse_14 := hk9 _ _ (by simp only [List.mem_cons, List.not_mem_nil, or_false, not_or]; exact ⟨ne_se_en, ne_se_la, ne_se_wo⟩) kse_11
                                have kec_14 := hk9 _ _ (by simp only [List.mem_cons, List.not_mem_nil, or_false, not_or]; exact ⟨ne_ec_en, ne_ec_la, ne_ec_wo⟩) hec_11
                                have klc_14 := hk9 _ _ (by simp only [List.mem_cons, List.not_mem_nil, or_false, not_or]; exact ⟨ne_lc_en, ne_lc_la, ne_lc_wo⟩) hlc_11
                                have kwc_14 := hk9 _ _ (by simp only [List.mem_cons, List.not_mem_nil, or_false, not_or]; exact ⟨ne_wc_en, ne_wc_la, ne_wc_wo⟩) hwc_11
                                have kol_14 := hk9 _ _ (by simp only [List.mem_cons, List.not_mem_nil, or_false, not_or]; exact ⟨ne_ol_en, ne_ol_la, ne_ol_wo⟩) kol_11
                                have kal_14 := hk9 _ _ (by simp only [List.mem_cons, List.not_mem_nil, or_false, not_or]; exact ⟨ne_al_en, ne_al_la, ne_al_wo⟩) kal_11
                                have hkp := hkp.trans (hk9.mono (fun a ha => by simp only [List.mem_cons, List.not_mem_nil, or_false] at ha ⊢; rcases ha with q9 | q9 | q9 <;> simp [q9]))
                                have hkl91 := hkl91.trans (hk9.mono (fun a ha => by simp only [List.mem_cons, List.not_mem_nil, or_false] at ha ⊢; rcases ha with q9 | q9 | q9 <;> simp [q9]))
                                have hkl157 := hkl157.trans (hk9.mono (fun a ha => by simp only [List.mem_cons, List.not_mem_nil, or_false] at ha ⊢; rcases ha with q9 | q9 | q9 <;> simp [q9]))
                                obtain ⟨Mc10, hMx⟩ : ∃ x : mM, x = M1 := ⟨M1, rfl⟩
                                subst hMx
                                subst hv1
                                refine W.eq (g2 := F0 m 269 ls []) rfl ?_
                                refine W.widen (k := 0) (n := 0) (Nat.le_of_ble_eq_true rfl) (Nat.le_of_ble_eq_true rfl) ?_
                                have hm : mm D (AZ z) Mc10 H := hm
                                refine lv_aload_n hx hb dX6_makeTree_269 rfl (lv_at hl 6 rfl) ?_
                                refine lv_iload hx hb dX6_makeTree_270 (lv_at hl 2 rfl) ?_
                                refine lv_sipush (v := 3100) hx hb dX6_makeTree_272 (by decide) ?_
                                refine lv_isub hx hb dX6_makeTree_275 ?_
                                refine W.eq (g2 := F0 m 276 ls [.int (nI (nb103 - 3100)), .ref mo]) (by rw [show (((nI nb103)) - (3100) : Int32) = nI (nb103 - 3100) from pk_sub (a := nb103) (b := 3100) (by omega)]) ?_
                                refine lv_iload hx hb dX6_makeTree_276 (lv_at hl 1 rfl) ?_
                                have hI0 : mI k Mc10 mo cn ia dr en la wo op mk ir se ec lc wc ol al dn md := ⟨_, _, _, _, _, _, _, fcn_3, fia_3, fdr_3, fen_14, fla_14, fwo_14, fop, fmk, fir, fse_3, fec_11, flc_11, fol_2, fal, fwc_11, hap, kmo_14, hmd_3, ⟨hrC_3, hrL_14, hrM⟩, kcn_14, kia_14, kdr_14, hen_14, hla_14, hwo_14, kop_14, kmk_14, kir_14, kse_14, kec_14, klc_14, kwc_14, kol_14, kal_14⟩
                                refine m_kV (As := [.int (nI (nb103 - 3100)), .int (nI j157)]) (rest := []) (rm := { frames := 0, cells := 0, slots := 0, locals := 0 }) ⟨hx, hb, hml, hown, hts⟩ (x_X6_come l D k z _ mo cn ia dr en la wo op mk ir se ec lc wc ol al dn md (nb103 - 3100) j157 (by omega) (by omega) hI0) (cwV 2 hts gX6_makeTree_X6_come rfl rfl rfl (by decide +kernel) ⟨Nat.le_of_ble_eq_true rfl, Nat.le_of_ble_eq_true rfl⟩) (m_recv hK hm (q := (RX6, TX6, 24)) rfl kmo_14) hz hcx hm hS rfl hl.1 rfl (Nat.le_of_ble_eq_true rfl) dX6_makeTree_278 ⟨Nat.le_of_ble_eq_true rfl, Nat.le_of_ble_eq_true rfl⟩ (fun v M1 H locs hv hm hS => ?_)
                                obtain ⟨hv1, hI9, hk9⟩ := hv
                                obtain ⟨cd_15, ni_15, pw_15, cm_15, wr_15, cs_15, hm9_15, _, _, _, _, _, _, _, _, _, _, fec_15, flc_15, _, _, fwc_15, -, hM_15, hmd_15, ⟨-, -, -⟩, -, -, -, -, -, -, -, -, -, -, hec_15, hlc_15, hwc_15, -, -⟩ := id hI9
                                have kcn_15 := hk9 _ _ (by simp only [List.mem_cons, List.not_mem_nil, or_false, not_or]; exact ⟨ne_cn_mo, ne_cn_ec, ne_cn_lc, ne_cn_wc⟩) kcn_14
                                have kia_15 := hk9 _ _ (by simp only [List.mem_cons, List.not_mem_nil, or_false, not_or]; exact ⟨ne_ia_mo, ne_ia_ec, ne_ia_lc, ne_ia_wc⟩) kia_14
                                have kdr_15 := hk9 _ _ (by simp only [List.mem_cons, List.not_mem_nil, or_false, not_or]; exact ⟨ne_dr_mo, ne_dr_ec, ne_dr_lc, ne_dr_wc⟩) kdr_14
                                have ken_15 := hk9 _ _ (by simp only [List.mem_cons, List.not_mem_nil, or_false, not_or]; exact ⟨ne_en_mo, ne_en_ec, ne_en_lc, ne_en_wc⟩) hen_14
                                have kla_15 := hk9 _ _ (by simp only [List.mem_cons, List.not_mem_nil, or_false, not_or]; exact ⟨ne_la_mo, ne_la_ec, ne_la_lc, ne_la_wc⟩) hla_14
                                have kwo_15 := hk9 _ _ (by simp only [List.mem_cons, List.not_mem_nil, or_false, not_or]; exact ⟨ne_wo_mo, ne_wo_ec, ne_wo_lc, ne_wo_wc⟩) hwo_14
                                have kop_15 := hk9 _ _ (by simp only [List.mem_cons, List.not_mem_nil, or_false, not_or]; exact ⟨ne_op_mo, ne_op_ec, ne_op_lc, ne_op_wc⟩) kop_14
                                have kmk_15 := hk9 _ _ (by simp only [List.mem_cons, List.not_mem_nil, or_false, not_or]; exact ⟨ne_mk_mo, ne_mk_ec, ne_mk_lc, ne_mk_wc⟩) kmk_14
                                have kir_15 := hk9 _ _ (by simp only [List.mem_cons, List.not_mem_nil, or_false, not_or]; exact ⟨ne_ir_mo, ne_ir_ec, ne_ir_lc, ne_ir_wc⟩) kir_14
                                have kse_15 := hk9 _ _ (by simp only [List.mem_cons, List.not_mem_nil, or_false, not_or]; exact ⟨ne_se_mo, ne_se_ec, ne_se_lc, ne_se_wc⟩) kse_14
                                have kol_15 := hk9 _ _ (by simp only [List.mem_cons, List.not_mem_nil, or_false, not_or]; exact ⟨ne_ol_mo, ne_ol_ec, ne_ol_lc, ne_ol_wc⟩) kol_14
                                have kal_15 := hk9 _ _ (by simp only [List.mem_cons, List.not_mem_nil, or_false, not_or]; exact ⟨ne_al_mo, ne_al_ec, ne_al_lc, ne_al_wc⟩) kal_14
                                have hkp := hkp.trans (hk9.mono (fun a ha => by simp only [List.mem_cons, List.not_mem_nil, or_false] at ha ⊢; rcases ha with q9 | q9 | q9 | q9 <;> simp [q9]))
                                have hkl91 := hkl91.trans (hk9.mono (fun a ha => by simp only [List.mem_cons, List.not_mem_nil, or_false] at ha ⊢; rcases ha with q9 | q9 | q9 | q9 <;> simp [q9]))
                                have hkl157 := hkl157.trans (hk9.mono (fun a ha => by simp only [List.mem_cons, List.not_mem_nil, or_false] at ha ⊢; rcases ha with q9 | q9 | q9 | q9 <;> simp [q9]))
                                obtain ⟨Mc11, hMx⟩ : ∃ x : mM, x = M1 := ⟨M1, rfl⟩
                                subst hMx
                                subst hv1
                                refine W.eq (g2 := F0 m 281 ls []) rfl ?_
                                refine W.widen (k := 0) (n := 0) (Nat.le_of_ble_eq_true rfl) (Nat.le_of_ble_eq_true rfl) ?_
                                have hm : mm D (AZ z) Mc11 H := hm
                                refine lv_iinc (v := ((nI j157) + 1)) (lv' := [(6, .int ((nI j157) + 1)), (7, .int 1), (5, .int (nI nb103)), (4, .int (-1)), (3, .int (nI j91)), (2, .int (nI (2 + (5 * t9)))), (0, .ref mo), (1, .int (nI t9))]) hx hb dX6_makeTree_281 hl (k := 1) rfl rfl (by decide) rfl (fun ls hl => ?_)
                                refine lv_goto (tgt := 157) hx hb dX6_makeTree_284 (by decide) ?_
                                rw [nI_1] at hl
                                exact ih157 (j157 + 1, Mc11) _ _ _ ⟨⟨by omega, by omega⟩, ⟨_, _, _, _, _, _, _, fcn_3, fia_3, fdr_3, fen_14, fla_14, fwo_14, fop, fmk, fir, fse_3, fec_15, flc_15, fol_2, fal, fwc_15, hap, hM_15, hmd_3, ⟨hrC_3, hrL_14, hrM⟩, kcn_15, kia_15, kdr_15, ken_15, kla_15, kwo_15, kop_15, kmk_15, kir_15, kse_15, hec_15, hlc_15, hwc_15, kol_15, kal_15⟩, hkp, hkl157, hm, hS, lv_sub hl [0, 2, 3, 4, 5, 6, 7] rfl⟩ (by show 2147483648 - (j157 + 1) < 2147483648 - j157; omega)
            · have hqc31 : nb103 < 0 := nb_nle (a := 0) (b := nb103) (by omega) (by omega) c31
              omega
      · have huc102 := Nat.le_trans hgb102 (bC_le _)
        subst hf102
        refine W.eq (g2 := F0 m 121 ls [.int (nI nb102)]) rfl ?_
        refine W.widen (k := 0) (n := 0) (Nat.le_of_ble_eq_true rfl) (Nat.le_of_ble_eq_true rfl) ?_
        have hm : mm D (AZ z) Ml91 H := hm
        refine lv_istore (lv' := [(4, .int (nI nb102)), (3, .int (nI j91)), (2, .int (nI (2 + (5 * t9)))), (0, .ref mo), (1, .int (nI t9))]) hx hb dX6_makeTree_121 hl (by decide) rfl (fun ls hl => ?_)
        refine lv_aload_n hx hb dX6_makeTree_123 rfl (lv_at hl 3 rfl) ?_
        refine lv_bipush (v := 31) hx hb dX6_makeTree_124 (by decide) ?_
        refine lv_aload_n hx hb dX6_makeTree_126 rfl (lv_at hl 3 rfl) ?_
        refine m_get (T := TX6) (N := 24) (ci := 6) (v := .ref ia) hx hb hts wX6 hown hK hm hM_3 rfl 2 (by decide) f13 (fun _ h9 => h9) rfl dX6_makeTree_127 ?_
        refine lv_iload_n hx hb dX6_makeTree_130 rfl (lv_at hl 1 rfl) ?_
        refine m_iald hx hb hK hm 0 hia_3 rfl (vp_in_nI (by omega) (by decide)) dX6_makeTree_131 ?_
        have hI0 : mI k Ml91 mo cn ia dr en la wo op mk ir se ec lc wc ol al dn md := ⟨_, _, _, _, _, _, _, fcn_3, fia_3, fdr_3, fen_3, fla_3, fwo_3, fop, fmk, fir, fse_3, fec_3, flc_3, fol_2, fal, fwc_3, hap, hM_3, hmd_3, ⟨hrC_3, hrL_3, hrM⟩, hcn_3, hia_3, hdr_3, hen_3, hla_3, hwo_3, kop_3, kmk_3, kir_3, hse_3, hec_3, hlc_3, hwc_3, kol_3, kal_3⟩
        refine m_kV (As := [.int 31, .int (fia_3 ((nI j91)).toNatClampNeg)]) (rest := []) (rm := { frames := 0, cells := 0, slots := 0, locals := 0 }) ⟨hx, hb, hml, hown, hts⟩ (x_X6_find l D k z _ mo cn ia dr en la wo op mk ir se ec lc wc ol al dn md 31 (by omega) (fia_3 ((nI j91)).toNatClampNeg) hI0) (cwV 2 hts gX6_makeTree_X6_find rfl rfl rfl (by decide +kernel) ⟨Nat.le_of_ble_eq_true rfl, Nat.le_of_ble_eq_true rfl⟩) (m_recv hK hm (q := (RX6, TX6, 24)) rfl hM_3) hz hcx hm hS rfl hl.1 rfl (Nat.le_of_ble_eq_true rfl) dX6_makeTree_132 ⟨Nat.le_of_ble_eq_true rfl, Nat.le_of_ble_eq_true rfl⟩ (fun v M1 H locs hv hm hS => ?_)
        obtain ⟨⟨f104, hv1, hf104⟩, hM1⟩ := hv
        rw [hM1] at hm
        subst hv1
        rcases hf104 with hf104 | ⟨nb104, uc104, g104, hg104, hgu104, hgb104, hb104a, hb104b, hf104⟩
        · subst hf104
          refine W.eq (g2 := F0 m 135 ls [.int (-1)]) rfl ?_
          refine W.widen (k := 0) (n := 0) (Nat.le_of_ble_eq_true rfl) (Nat.le_of_ble_eq_true rfl) ?_
          have hm : mm D (AZ z) Ml91 H := hm
          refine lv_istore (lv' := [(5, .int (-1)), (4, .int (nI nb102)), (3, .int (nI j91)), (2, .int (nI (2 + (5 * t9)))), (0, .ref mo), (1, .int (nI t9))]) hx hb dX6_makeTree_135 hl (by decide) rfl (fun ls hl => ?_)
          refine lv_iload hx hb dX6_makeTree_137 (lv_at hl 1 rfl) ?_
          refine lv_if_ge (tgt := 154) hx hb dX6_makeTree_139 (by decide) (fun c56 => ?_) (fun c56 => ?_)
          · have hqc56 : 0 ≤ nb102 := nb_le (a := 0) (b := nb102) (by omega) (by omega) c56
            refine lv_iconst (v := 0) hx hb dX6_makeTree_154 (by decide) ?_
            refine lv_istore (lv' := [(6, .int 0), (5, .int (-1)), (4, .int (nI nb102)), (3, .int (nI j91)), (2, .int (nI (2 + (5 * t9)))), (0, .ref mo), (1, .int (nI t9))]) hx hb dX6_makeTree_155 hl (by decide) rfl (fun ls hl => ?_)
            have hI0 : mI k Ml91 mo cn ia dr en la wo op mk ir se ec lc wc ol al dn md := ⟨_, _, _, _, _, _, _, fcn_3, fia_3, fdr_3, fen_3, fla_3, fwo_3, fop, fmk, fir, fse_3, fec_3, flc_3, fol_2, fal, fwc_3, hap, hM_3, hmd_3, ⟨hrC_3, hrL_3, hrM⟩, hcn_3, hia_3, hdr_3, hen_3, hla_3, hwo_3, kop_3, kmk_3, kir_3, hse_3, hec_3, hlc_3, hwc_3, kol_3, kal_3⟩
            refine W_loop (σ := Nat × mM) (fun ⟨j157, Ml157⟩ H locs ls => (0 ≤ j157 ∧ j157 < 2147483000) ∧ (mI k Ml157 mo cn ia dr en la wo op mk ir se ec lc wc ol al dn md) ∧ (kpx (fun a => a ∈ [mo, cn, ia, dr, en, la, wo, op, mk, ir, se, ec, lc, wc, ol, al]) M Ml157) ∧ (kpx (fun a => a ∈ [mo, en, la, wo, ec, lc, wc]) Ml91 Ml157) ∧ mm D (AZ z) Ml157 H ∧ va_S (AZ z) s.heap H locs ∧ lv_has ls 8 [(6, .int (nI j157)), (5, .int (-1)), (4, .int (nI nb102)), (3, .int (nI j91)), (2, .int (nI (2 + (5 * t9)))), (0, .ref mo), (1, .int (nI t9))]) (fun ⟨j157, Ml157⟩ => 2147483648 - j157) (fun _ => 0) (fun _ => 0) ?_ (0, Ml91) _ _ _ ⟨⟨Nat.le_refl _, by omega⟩, hI0, hkp, (kpx.refl _ _), hm, hS, lv_sub hl [0, 1, 2, 3, 4, 5, 6] rfl⟩
            intro ⟨j157, Ml157⟩ H locs ls hQ ih157
            obtain ⟨hj157, hI, hkp, hkl157, hm, hS, hl⟩ := hQ
            try dsimp only at hm hl ih157 hj157 hI hkp hkl157 ⊢
            obtain ⟨cd_16, ni_16, pw_16, cm_16, wr_16, cs_16, hm9_16, _, _, _, fen_16, fla_16, fwo_16, _, _, _, _, fec_16, flc_16, _, _, fwc_16, -, hM_16, hmd_16, ⟨-, hrL_16, -⟩, -, -, -, hen_16, hla_16, hwo_16, -, -, -, -, hec_16, hlc_16, hwc_16, -, -⟩ := id hI
            have kcn_16 := hkl157 _ _ (by simp only [List.mem_cons, List.not_mem_nil, or_false, not_or]; exact ⟨ne_cn_mo, ne_cn_en, ne_cn_la, ne_cn_wo, ne_cn_ec, ne_cn_lc, ne_cn_wc⟩) hcn_3
            have kia_16 := hkl157 _ _ (by simp only [List.mem_cons, List.not_mem_nil, or_false, not_or]; exact ⟨ne_ia_mo, ne_ia_en, ne_ia_la, ne_ia_wo, ne_ia_ec, ne_ia_lc, ne_ia_wc⟩) hia_3
            have kdr_16 := hkl157 _ _ (by simp only [List.mem_cons, List.not_mem_nil, or_false, not_or]; exact ⟨ne_dr_mo, ne_dr_en, ne_dr_la, ne_dr_wo, ne_dr_ec, ne_dr_lc, ne_dr_wc⟩) hdr_3
            have kop_16 := hkl157 _ _ (by simp only [List.mem_cons, List.not_mem_nil, or_false, not_or]; exact ⟨ne_op_mo, ne_op_en, ne_op_la, ne_op_wo, ne_op_ec, ne_op_lc, ne_op_wc⟩) kop_3
            have kmk_16 := hkl157 _ _ (by simp only [List.mem_cons, List.not_mem_nil, or_false, not_or]; exact ⟨ne_mk_mo, ne_mk_en, ne_mk_la, ne_mk_wo, ne_mk_ec, ne_mk_lc, ne_mk_wc⟩) kmk_3
            have kir_16 := hkl157 _ _ (by simp only [List.mem_cons, List.not_mem_nil, or_false, not_or]; exact ⟨ne_ir_mo, ne_ir_en, ne_ir_la, ne_ir_wo, ne_ir_ec, ne_ir_lc, ne_ir_wc⟩) kir_3
            have kse_16 := hkl157 _ _ (by simp only [List.mem_cons, List.not_mem_nil, or_false, not_or]; exact ⟨ne_se_mo, ne_se_en, ne_se_la, ne_se_wo, ne_se_ec, ne_se_lc, ne_se_wc⟩) hse_3
            have kol_16 := hkl157 _ _ (by simp only [List.mem_cons, List.not_mem_nil, or_false, not_or]; exact ⟨ne_ol_mo, ne_ol_en, ne_ol_la, ne_ol_wo, ne_ol_ec, ne_ol_lc, ne_ol_wc⟩) kol_3
            have kal_16 := hkl157 _ _ (by simp only [List.mem_cons, List.not_mem_nil, or_false, not_or]; exact ⟨ne_al_mo, ne_al_en, ne_al_la, ne_al_wo, ne_al_ec, ne_al_lc, ne_al_wc⟩) kal_3
            have hkl91 := hkl91.trans (hkl157.mono (fun a ha => by simp only [List.mem_cons, List.not_mem_nil, or_false] at ha ⊢; rcases ha with q9 | q9 | q9 | q9 | q9 | q9 | q9 <;> simp [q9]))
            refine lv_iload hx hb dX6_makeTree_157 (lv_at hl 0 rfl) ?_
            refine lv_bipush (v := 95) hx hb dX6_makeTree_159 (by decide) ?_
            refine lv_icmp_ge (tgt := 287) hx hb dX6_makeTree_161 (by decide) (fun c57 => ?_) (fun c57 => ?_)
            · have hqc57 : 95 ≤ j157 := nb_le (a := 95) (b := j157) (by omega) (by omega) c57
              refine lv_iinc (v := ((nI j91) + 1)) (lv' := [(3, .int ((nI j91) + 1)), (6, .int (nI j157)), (5, .int (-1)), (4, .int (nI nb102)), (2, .int (nI (2 + (5 * t9)))), (0, .ref mo), (1, .int (nI t9))]) hx hb dX6_makeTree_287 hl (k := 3) rfl rfl (by decide) rfl (fun ls hl => ?_)
              refine lv_goto (tgt := 91) hx hb dX6_makeTree_290 (by decide) ?_
              rw [nI_1] at hl
              exact ih91 (j91 + 1, Ml157) _ _ _ ⟨⟨by omega, by omega⟩, ⟨_, _, _, _, _, _, _, fcn_3, fia_3, fdr_3, fen_16, fla_16, fwo_16, fop, fmk, fir, fse_3, fec_16, flc_16, fol_2, fal, fwc_16, hap, hM_16, hmd_3, ⟨hrC_3, hrL_16, hrM⟩, kcn_16, kia_16, kdr_16, hen_16, hla_16, hwo_16, kop_16, kmk_16, kir_16, kse_16, hec_16, hlc_16, hwc_16, kol_16, kal_16⟩, hkp, hkl91, ((hc31.of ((kcn_16).trans (hcn_3).symm)).up (by omega)), hm, hS, lv_sub hl [0, 4, 5, 6] rfl⟩ (by show 2147483648 - (j91 + 1) < 2147483648 - j91; omega)
            · have hqc57 : j157 < 95 := nb_nle (a := 95) (b := j157) (by omega) (by omega) c57
              refine lv_iload hx hb dX6_makeTree_164 (lv_at hl 1 rfl) ?_
              refine lv_if_lt (tgt := 287) hx hb dX6_makeTree_166 (by decide) (fun c58 => ?_) (fun c58 => ?_)
              · refine lv_iinc (v := ((nI j91) + 1)) (lv' := [(3, .int ((nI j91) + 1)), (6, .int (nI j157)), (5, .int (-1)), (4, .int (nI nb102)), (2, .int (nI (2 + (5 * t9)))), (0, .ref mo), (1, .int (nI t9))]) hx hb dX6_makeTree_287 hl (k := 3) rfl rfl (by decide) rfl (fun ls hl => ?_)
                refine lv_goto (tgt := 91) hx hb dX6_makeTree_290 (by decide) ?_
                rw [nI_1] at hl
                exact ih91 (j91 + 1, Ml157) _ _ _ ⟨⟨by omega, by omega⟩, ⟨_, _, _, _, _, _, _, fcn_3, fia_3, fdr_3, fen_16, fla_16, fwo_16, fop, fmk, fir, fse_3, fec_16, flc_16, fol_2, fal, fwc_16, hap, hM_16, hmd_3, ⟨hrC_3, hrL_16, hrM⟩, kcn_16, kia_16, kdr_16, hen_16, hla_16, hwo_16, kop_16, kmk_16, kir_16, kse_16, hec_16, hlc_16, hwc_16, kol_16, kal_16⟩, hkp, hkl91, ((hc31.of ((kcn_16).trans (hcn_3).symm)).up (by omega)), hm, hS, lv_sub hl [0, 4, 5, 6] rfl⟩ (by show 2147483648 - (j91 + 1) < 2147483648 - j91; omega)
              · first | exact absurd c58 (by decide) | exact absurd (by decide) c58
          · have hqc56 : nb102 < 0 := nb_nle (a := 0) (b := nb102) (by omega) (by omega) c56
            omega
        · have huc104 := Nat.le_trans hgb104 (bC_le _)
          subst hf104
          refine W.eq (g2 := F0 m 135 ls [.int (nI nb104)]) rfl ?_
          refine W.widen (k := 0) (n := 0) (Nat.le_of_ble_eq_true rfl) (Nat.le_of_ble_eq_true rfl) ?_
          have hm : mm D (AZ z) Ml91 H := hm
          refine lv_istore (lv' := [(5, .int (nI nb104)), (4, .int (nI nb102)), (3, .int (nI j91)), (2, .int (nI (2 + (5 * t9)))), (0, .ref mo), (1, .int (nI t9))]) hx hb dX6_makeTree_135 hl (by decide) rfl (fun ls hl => ?_)
          refine lv_iload hx hb dX6_makeTree_137 (lv_at hl 1 rfl) ?_
          refine lv_if_ge (tgt := 154) hx hb dX6_makeTree_139 (by decide) (fun c59 => ?_) (fun c59 => ?_)
          · have hqc59 : 0 ≤ nb102 := nb_le (a := 0) (b := nb102) (by omega) (by omega) c59
            refine lv_iconst (v := 0) hx hb dX6_makeTree_154 (by decide) ?_
            refine lv_istore (lv' := [(6, .int 0), (5, .int (nI nb104)), (4, .int (nI nb102)), (3, .int (nI j91)), (2, .int (nI (2 + (5 * t9)))), (0, .ref mo), (1, .int (nI t9))]) hx hb dX6_makeTree_155 hl (by decide) rfl (fun ls hl => ?_)
            have hI0 : mI k Ml91 mo cn ia dr en la wo op mk ir se ec lc wc ol al dn md := ⟨_, _, _, _, _, _, _, fcn_3, fia_3, fdr_3, fen_3, fla_3, fwo_3, fop, fmk, fir, fse_3, fec_3, flc_3, fol_2, fal, fwc_3, hap, hM_3, hmd_3, ⟨hrC_3, hrL_3, hrM⟩, hcn_3, hia_3, hdr_3, hen_3, hla_3, hwo_3, kop_3, kmk_3, kir_3, hse_3, hec_3, hlc_3, hwc_3, kol_3, kal_3⟩
            refine W_loop (σ := Nat × mM) (fun ⟨j157, Ml157⟩ H locs ls => (0 ≤ j157 ∧ j157 < 2147483000) ∧ (mI k Ml157 mo cn ia dr en la wo op mk ir se ec lc wc ol al dn md) ∧ (kpx (fun a => a ∈ [mo, cn, ia, dr, en, la, wo, op, mk, ir, se, ec, lc, wc, ol, al]) M Ml157) ∧ (kpx (fun a => a ∈ [mo, en, la, wo, ec, lc, wc]) Ml91 Ml157) ∧ mm D (AZ z) Ml157 H ∧ va_S (AZ z) s.heap H locs ∧ lv_has ls 8 [(6, .int (nI j157)), (5, .int (nI nb104)), (4, .int (nI nb102)), (3, .int (nI j91)), (2, .int (nI (2 + (5 * t9)))), (0, .ref mo), (1, .int (nI t9))]) (fun ⟨j157, Ml157⟩ => 2147483648 - j157) (fun _ => 0) (fun _ => 0) ?_ (0, Ml91) _ _ _ ⟨⟨Nat.le_refl _, by omega⟩, hI0, hkp, (kpx.refl _ _), hm, hS, lv_sub hl [0, 1, 2, 3, 4, 5, 6] rfl⟩
            intro ⟨j157, Ml157⟩ H locs ls hQ ih157
            obtain ⟨hj157, hI, hkp, hkl157, hm, hS, hl⟩ := hQ
            try dsimp only at hm hl ih157 hj157 hI hkp hkl157 ⊢
            obtain ⟨cd_17, ni_17, pw_17, cm_17, wr_17, cs_17, hm9_17, _, _, _, fen_17, fla_17, fwo_17, _, _, _, _, fec_17, flc_17, _, _, fwc_17, -, hM_17, hmd_17, ⟨-, hrL_17, -⟩, -, -, -, hen_17, hla_17, hwo_17, -, -, -, -, hec_17, hlc_17, hwc_17, -, -⟩ := id hI
            have kcn_17 := hkl157 _ _ (by simp only [List.mem_cons, List.not_mem_nil, or_false, not_or]; exact ⟨ne_cn_mo, ne_cn_en, ne_cn_la, ne_cn_wo, ne_cn_ec, ne_cn_lc, ne_cn_wc⟩) hcn_3
            have kia_17 := hkl157 _ _ (by simp only [List.mem_cons, List.not_mem_nil, or_false, not_or]; exact ⟨ne_ia_mo, ne_ia_en, ne_ia_la, ne_ia_wo, ne_ia_ec, ne_ia_lc, ne_ia_wc⟩) hia_3
            have kdr_17 := hkl157 _ _ (by simp only [List.mem_cons, List.not_mem_nil, or_false, not_or]; exact ⟨ne_dr_mo, ne_dr_en, ne_dr_la, ne_dr_wo, ne_dr_ec, ne_dr_lc, ne_dr_wc⟩) hdr_3
            have kop_17 := hkl157 _ _ (by simp only [List.mem_cons, List.not_mem_nil, or_false, not_or]; exact ⟨ne_op_mo, ne_op_en, ne_op_la, ne_op_wo, ne_op_ec, ne_op_lc, ne_op_wc⟩) kop_3
            have kmk_17 := hkl157 _ _ (by simp only [List.mem_cons, List.not_mem_nil, or_false, not_or]; exact ⟨ne_mk_mo, ne_mk_en, ne_mk_la, ne_mk_wo, ne_mk_ec, ne_mk_lc, ne_mk_wc⟩) kmk_3
            have kir_17 := hkl157 _ _ (by simp only [List.mem_cons, List.not_mem_nil, or_false, not_or]; exact ⟨ne_ir_mo, ne_ir_en, ne_ir_la, ne_ir_wo, ne_ir_ec, ne_ir_lc, ne_ir_wc⟩) kir_3
            have kse_17 := hkl157 _ _ (by simp only [List.mem_cons, List.not_mem_nil, or_false, not_or]; exact ⟨ne_se_mo, ne_se_en, ne_se_la, ne_se_wo, ne_se_ec, ne_se_lc, ne_se_wc⟩) hse_3
            have kol_17 := hkl157 _ _ (by simp only [List.mem_cons, List.not_mem_nil, or_false, not_or]; exact ⟨ne_ol_mo, ne_ol_en, ne_ol_la, ne_ol_wo, ne_ol_ec, ne_ol_lc, ne_ol_wc⟩) kol_3
            have kal_17 := hkl157 _ _ (by simp only [List.mem_cons, List.not_mem_nil, or_false, not_or]; exact ⟨ne_al_mo, ne_al_en, ne_al_la, ne_al_wo, ne_al_ec, ne_al_lc, ne_al_wc⟩) kal_3
            have hkl91 := hkl91.trans (hkl157.mono (fun a ha => by simp only [List.mem_cons, List.not_mem_nil, or_false] at ha ⊢; rcases ha with q9 | q9 | q9 | q9 | q9 | q9 | q9 <;> simp [q9]))
            refine lv_iload hx hb dX6_makeTree_157 (lv_at hl 0 rfl) ?_
            refine lv_bipush (v := 95) hx hb dX6_makeTree_159 (by decide) ?_
            refine lv_icmp_ge (tgt := 287) hx hb dX6_makeTree_161 (by decide) (fun c60 => ?_) (fun c60 => ?_)
            · have hqc60 : 95 ≤ j157 := nb_le (a := 95) (b := j157) (by omega) (by omega) c60
              refine lv_iinc (v := ((nI j91) + 1)) (lv' := [(3, .int ((nI j91) + 1)), (6, .int (nI j157)), (5, .int (nI nb104)), (4, .int (nI nb102)), (2, .int (nI (2 + (5 * t9)))), (0, .ref mo), (1, .int (nI t9))]) hx hb dX6_makeTree_287 hl (k := 3) rfl rfl (by decide) rfl (fun ls hl => ?_)
              refine lv_goto (tgt := 91) hx hb dX6_makeTree_290 (by decide) ?_
              rw [nI_1] at hl
              exact ih91 (j91 + 1, Ml157) _ _ _ ⟨⟨by omega, by omega⟩, ⟨_, _, _, _, _, _, _, fcn_3, fia_3, fdr_3, fen_17, fla_17, fwo_17, fop, fmk, fir, fse_3, fec_17, flc_17, fol_2, fal, fwc_17, hap, hM_17, hmd_3, ⟨hrC_3, hrL_17, hrM⟩, kcn_17, kia_17, kdr_17, hen_17, hla_17, hwo_17, kop_17, kmk_17, kir_17, kse_17, hec_17, hlc_17, hwc_17, kol_17, kal_17⟩, hkp, hkl91, ((hc31.of ((kcn_17).trans (hcn_3).symm)).up (by omega)), hm, hS, lv_sub hl [0, 4, 5, 6] rfl⟩ (by show 2147483648 - (j91 + 1) < 2147483648 - j91; omega)
            · have hqc60 : j157 < 95 := nb_nle (a := 95) (b := j157) (by omega) (by omega) c60
              refine lv_iload hx hb dX6_makeTree_164 (lv_at hl 1 rfl) ?_
              refine lv_if_lt (tgt := 287) hx hb dX6_makeTree_166 (by decide) (fun c61 => ?_) (fun c61 => ?_)
              · have hqc61 : nb104 < 0 := nb_lt (a := nb104) (b := 0) (by omega) (by omega) c61
                omega
              · have hqc61 : 0 ≤ nb104 := nb_nlt (a := nb104) (b := 0) (by omega) (by omega) c61
                refine lv_aload_n hx hb dX6_makeTree_169 rfl (lv_at hl 5 rfl) ?_
                refine m_get (T := TX6) (N := 24) (ci := 6) (v := .ref dr) hx hb hts wX6 hown hK hm hM_17 rfl 3 (by decide) f16 (fun _ h9 => h9) rfl dX6_makeTree_170 ?_
                refine lv_iload_n hx hb dX6_makeTree_173 rfl (lv_at hl 3 rfl) ?_
                refine m_zald hx hb hK hm 2 kdr_17 rfl (vp_in_nI (by omega) (by decide)) dX6_makeTree_174 ?_
                refine lv_iload hx hb dX6_makeTree_175 (lv_at hl 0 rfl) ?_
                refine m_kS (As := [.int (fdr_3 ((nI j91)).toNatClampNeg), .int (nI j157)]) (rest := []) (rm := { frames := 0, cells := 0, slots := 0, locals := 0 }) ⟨hx, hb, hml, hown, hts⟩ (s_X6_hasCode l D k z _ (fdr_3 ((nI j91)).toNatClampNeg) (nI j157)) (cwS 2 hts gX6_makeTree_X6_hasCode rfl rfl rfl (by decide +kernel) ⟨Nat.le_of_ble_eq_true rfl, Nat.le_of_ble_eq_true rfl⟩) hz hcx hm hS rfl hl.1 rfl (Nat.le_of_ble_eq_true rfl) dX6_makeTree_177 ⟨Nat.le_of_ble_eq_true rfl, Nat.le_of_ble_eq_true rfl⟩ (fun v M1 H locs hv hm hS => ?_)
                obtain ⟨⟨w62, hv1⟩, hM1⟩ := hv
                rw [hM1] at hm
                subst hv1
                refine W.eq (g2 := F0 m 180 ls [.int w62]) rfl ?_
                refine W.widen (k := 0) (n := 0) (Nat.le_of_ble_eq_true rfl) (Nat.le_of_ble_eq_true rfl) ?_
                have hm : mm D (AZ z) Ml157 H := hm
                refine lv_if_eq (tgt := 201) hx hb dX6_makeTree_180 (by decide) (fun c63 => ?_) (fun c63 => ?_)
                · refine lv_iconst (v := 0) hx hb dX6_makeTree_201 (by decide) ?_
                  refine lv_istore (lv' := [(7, .int 0), (6, .int (nI j157)), (5, .int (nI nb104)), (4, .int (nI nb102)), (3, .int (nI j91)), (2, .int (nI (2 + (5 * t9)))), (0, .ref mo), (1, .int (nI t9))]) hx hb dX6_makeTree_202 hl (by decide) rfl (fun ls hl => ?_)
                  refine lv_iload hx hb dX6_makeTree_204 (lv_at hl 0 rfl) ?_
                  refine lv_if_eq (tgt := 281) hx hb dX6_makeTree_206 (by decide) (fun c64 => ?_) (fun c64 => ?_)
                  · refine lv_iinc (v := ((nI j157) + 1)) (lv' := [(6, .int ((nI j157) + 1)), (7, .int 0), (5, .int (nI nb104)), (4, .int (nI nb102)), (3, .int (nI j91)), (2, .int (nI (2 + (5 * t9)))), (0, .ref mo), (1, .int (nI t9))]) hx hb dX6_makeTree_281 hl (k := 1) rfl rfl (by decide) rfl (fun ls hl => ?_)
                    refine lv_goto (tgt := 157) hx hb dX6_makeTree_284 (by decide) ?_
                    rw [nI_1] at hl
                    exact ih157 (j157 + 1, Ml157) _ _ _ ⟨⟨by omega, by omega⟩, ⟨_, _, _, _, _, _, _, fcn_3, fia_3, fdr_3, fen_17, fla_17, fwo_17, fop, fmk, fir, fse_3, fec_17, flc_17, fol_2, fal, fwc_17, hap, hM_17, hmd_3, ⟨hrC_3, hrL_17, hrM⟩, kcn_17, kia_17, kdr_17, hen_17, hla_17, hwo_17, kop_17, kmk_17, kir_17, kse_17, hec_17, hlc_17, hwc_17, kol_17, kal_17⟩, hkp, hkl157, hm, hS, lv_sub hl [0, 2, 3, 4, 5, 6, 7] rfl⟩ (by show 2147483648 - (j157 + 1) < 2147483648 - j157; omega)
                  · first | exact absurd c64 (by decide) | exact absurd (by decide) c64
                · refine lv_iload hx hb dX6_makeTree_183 (lv_at hl 0 rfl) ?_
                  refine lv_bipush (v := 15) hx hb dX6_makeTree_185 (by decide) ?_
                  refine lv_icmp_lt (tgt := 197) hx hb dX6_makeTree_187 (by decide) (fun c65 => ?_) (fun c65 => ?_)
                  · have hqc65 : j157 < 15 := nb_lt (a := j157) (b := 15) (by omega) (by omega) c65
                    refine lv_iconst (v := 1) hx hb dX6_makeTree_197 (by decide) ?_
                    refine lv_goto (tgt := 202) hx hb dX6_makeTree_198 (by decide) ?_
                    refine lv_istore (lv' := [(7, .int 1), (6, .int (nI j157)), (5, .int (nI nb104)), (4, .int (nI nb102)), (3, .int (nI j91)), (2, .int (nI (2 + (5 * t9)))), (0, .ref mo), (1, .int (nI t9))]) hx hb dX6_makeTree_202 hl (by decide) rfl (fun ls hl => ?_)
                    refine lv_iload hx hb dX6_makeTree_204 (lv_at hl 0 rfl) ?_
                    refine lv_if_eq (tgt := 281) hx hb dX6_makeTree_206 (by decide) (fun c66 => ?_) (fun c66 => ?_)
                    · first | exact absurd c66 (by decide) | exact absurd (by decide) c66
                    · refine lv_aload_n hx hb dX6_makeTree_209 rfl (lv_at hl 6 rfl) ?_
                      refine lv_iload_n hx hb dX6_makeTree_210 rfl (lv_at hl 4 rfl) ?_
                      refine lv_iload hx hb dX6_makeTree_211 (lv_at hl 1 rfl) ?_
                      have hI0 : mI k Ml157 mo cn ia dr en la wo op mk ir se ec lc wc ol al dn md := ⟨_, _, _, _, _, _, _, fcn_3, fia_3, fdr_3, fen_17, fla_17, fwo_17, fop, fmk, fir, fse_3, fec_17, flc_17, fol_2, fal, fwc_17, hap, hM_17, hmd_3, ⟨hrC_3, hrL_17, hrM⟩, kcn_17, kia_17, kdr_17, hen_17, hla_17, hwo_17, kop_17, kmk_17, kir_17, kse_17, hec_17, hlc_17, hwc_17, kol_17, kal_17⟩
                      refine m_kV (As := [.int (nI j91), .int (nI j157)]) (rest := []) (rm := { frames := 0, cells := 0, slots := 0, locals := 0 }) ⟨hx, hb, hml, hown, hts⟩ (s_X6_valueOf l D k z _ mo cn ia dr en la wo op mk ir se ec lc wc ol al dn md j91 j157 (by omega) (by omega) hI0) (cwV 2 hts gX6_makeTree_X6_valueOf rfl rfl rfl (by decide +kernel) ⟨Nat.le_of_ble_eq_true rfl, Nat.le_of_ble_eq_true rfl⟩) (m_recv hK hm (q := (RX6, TX6, 24)) rfl hM_17) hz hcx hm hS rfl hl.1 rfl (Nat.le_of_ble_eq_true rfl) dX6_makeTree_213 ⟨Nat.le_of_ble_eq_true rfl, Nat.le_of_ble_eq_true rfl⟩ (fun v M1 H locs hv hm hS => ?_)
                      obtain ⟨⟨w67, hv1, ew67⟩, hM1⟩ := hv
                      rw [hM1] at hm
                      subst hv1
                      refine W.eq (g2 := F0 m 216 ls [.int w67]) rfl ?_
                      refine W.widen (k := 0) (n := 0) (Nat.le_of_ble_eq_true rfl) (Nat.le_of_ble_eq_true rfl) ?_
                      have hm : mm D (AZ z) Ml157 H := hm
                      refine lv_iload hx hb dX6_makeTree_216 (lv_at hl 3 rfl) ?_
                      refine lv_if_ge (tgt := 225) hx hb dX6_makeTree_218 (by decide) (fun c68 => ?_) (fun c68 => ?_)
                      · have hqc68 : 0 ≤ nb102 := nb_le (a := 0) (b := nb102) (by omega) (by omega) c68
                        refine lv_aload_n hx hb dX6_makeTree_225 rfl (lv_at hl 6 rfl) ?_
                        refine lv_iload hx hb dX6_makeTree_226 (lv_at hl 3 rfl) ?_
                        refine lv_iload hx hb dX6_makeTree_228 (lv_at hl 1 rfl) ?_
                        have hI0 : mI k Ml157 mo cn ia dr en la wo op mk ir se ec lc wc ol al dn md := ⟨_, _, _, _, _, _, _, fcn_3, fia_3, fdr_3, fen_17, fla_17, fwo_17, fop, fmk, fir, fse_3, fec_17, flc_17, fol_2, fal, fwc_17, hap, hM_17, hmd_3, ⟨hrC_3, hrL_17, hrM⟩, kcn_17, kia_17, kdr_17, hen_17, hla_17, hwo_17, kop_17, kmk_17, kir_17, kse_17, hec_17, hlc_17, hwc_17, kol_17, kal_17⟩
                        refine m_kV (As := [.int (nI nb102), .int (nI j157)]) (rest := [.int w67]) (rm := { frames := 0, cells := 0, slots := 0, locals := 0 }) ⟨hx, hb, hml, hown, hts⟩ (s_X6_valueOf l D k z _ mo cn ia dr en la wo op mk ir se ec lc wc ol al dn md nb102 j157 (by omega) (by omega) hI0) (cwV 2 hts gX6_makeTree_X6_valueOf rfl rfl rfl (by decide +kernel) ⟨Nat.le_of_ble_eq_true rfl, Nat.le_of_ble_eq_true rfl⟩) (m_recv hK hm (q := (RX6, TX6, 24)) rfl hM_17) hz hcx hm hS rfl hl.1 rfl (Nat.le_of_ble_eq_true rfl) dX6_makeTree_230 ⟨Nat.le_of_ble_eq_true rfl, Nat.le_of_ble_eq_true rfl⟩ (fun v M1 H locs hv hm hS => ?_)
                        obtain ⟨⟨w69, hv1, ew69⟩, hM1⟩ := hv
                        rw [hM1] at hm
                        subst hv1
                        refine W.eq (g2 := F0 m 233 ls [.int w69, .int w67]) rfl ?_
                        refine W.widen (k := 0) (n := 0) (Nat.le_of_ble_eq_true rfl) (Nat.le_of_ble_eq_true rfl) ?_
                        have hm : mm D (AZ z) Ml157 H := hm
                        refine lv_icmp_eq (tgt := 281) hx hb dX6_makeTree_233 (by decide) (fun c70 => ?_) (fun c70 => ?_)
                        · refine lv_iinc (v := ((nI j157) + 1)) (lv' := [(6, .int ((nI j157) + 1)), (7, .int 1), (5, .int (nI nb104)), (4, .int (nI nb102)), (3, .int (nI j91)), (2, .int (nI (2 + (5 * t9)))), (0, .ref mo), (1, .int (nI t9))]) hx hb dX6_makeTree_281 hl (k := 1) rfl rfl (by decide) rfl (fun ls hl => ?_)
                          refine lv_goto (tgt := 157) hx hb dX6_makeTree_284 (by decide) ?_
                          rw [nI_1] at hl
                          exact ih157 (j157 + 1, Ml157) _ _ _ ⟨⟨by omega, by omega⟩, ⟨_, _, _, _, _, _, _, fcn_3, fia_3, fdr_3, fen_17, fla_17, fwo_17, fop, fmk, fir, fse_3, fec_17, flc_17, fol_2, fal, fwc_17, hap, hM_17, hmd_3, ⟨hrC_3, hrL_17, hrM⟩, kcn_17, kia_17, kdr_17, hen_17, hla_17, hwo_17, kop_17, kmk_17, kir_17, kse_17, hec_17, hlc_17, hwc_17, kol_17, kal_17⟩, hkp, hkl157, hm, hS, lv_sub hl [0, 2, 3, 4, 5, 6, 7] rfl⟩ (by show 2147483648 - (j157 + 1) < 2147483648 - j157; omega)
                        · refine lv_aload_n hx hb dX6_makeTree_236 rfl (lv_at hl 6 rfl) ?_
                          refine lv_iload hx hb dX6_makeTree_237 (lv_at hl 2 rfl) ?_
                          refine lv_iload hx hb dX6_makeTree_239 (lv_at hl 1 rfl) ?_
                          have hI0 : mI k Ml157 mo cn ia dr en la wo op mk ir se ec lc wc ol al dn md := ⟨_, _, _, _, _, _, _, fcn_3, fia_3, fdr_3, fen_17, fla_17, fwo_17, fop, fmk, fir, fse_3, fec_17, flc_17, fol_2, fal, fwc_17, hap, hM_17, hmd_3, ⟨hrC_3, hrL_17, hrM⟩, kcn_17, kia_17, kdr_17, hen_17, hla_17, hwo_17, kop_17, kmk_17, kir_17, kse_17, hec_17, hlc_17, hwc_17, kol_17, kal_17⟩
                          refine m_kV (As := [.int (nI nb104), .int (nI j157)]) (rest := []) (rm := { frames := 0, cells := 0, slots := 0, locals := 0 }) ⟨hx, hb, hml, hown, hts⟩ (s_X6_valueOf l D k z _ mo cn ia dr en la wo op mk ir se ec lc wc ol al dn md nb104 j157 (by omega) (by omega) hI0) (cwV 2 hts gX6_makeTree_X6_valueOf rfl rfl rfl (by decide +kernel) ⟨Nat.le_of_ble_eq_true rfl, Nat.le_of_ble_eq_true rfl⟩) (m_recv hK hm (q := (RX6, TX6, 24)) rfl hM_17) hz hcx hm hS rfl hl.1 rfl (Nat.le_of_ble_eq_true rfl) dX6_makeTree_241 ⟨Nat.le_of_ble_eq_true rfl, Nat.le_of_ble_eq_true rfl⟩ (fun v M1 H locs hv hm hS => ?_)
                          obtain ⟨⟨w71, hv1, ew71⟩, hM1⟩ := hv
                          rw [hM1] at hm
                          subst hv1
                          refine W.eq (g2 := F0 m 244 ls [.int w71]) rfl ?_
                          refine W.widen (k := 0) (n := 0) (Nat.le_of_ble_eq_true rfl) (Nat.le_of_ble_eq_true rfl) ?_
                          have hm : mm D (AZ z) Ml157 H := hm
                          refine lv_aload_n hx hb dX6_makeTree_244 rfl (lv_at hl 6 rfl) ?_
                          refine lv_iload_n hx hb dX6_makeTree_245 rfl (lv_at hl 4 rfl) ?_
                          refine lv_iload hx hb dX6_makeTree_246 (lv_at hl 1 rfl) ?_
                          have hI0 : mI k Ml157 mo cn ia dr en la wo op mk ir se ec lc wc ol al dn md := ⟨_, _, _, _, _, _, _, fcn_3, fia_3, fdr_3, fen_17, fla_17, fwo_17, fop, fmk, fir, fse_3, fec_17, flc_17, fol_2, fal, fwc_17, hap, hM_17, hmd_3, ⟨hrC_3, hrL_17, hrM⟩, kcn_17, kia_17, kdr_17, hen_17, hla_17, hwo_17, kop_17, kmk_17, kir_17, kse_17, hec_17, hlc_17, hwc_17, kol_17, kal_17⟩
                          refine m_kV (As := [.int (nI j91), .int (nI j157)]) (rest := [.int w71]) (rm := { frames := 0, cells := 0, slots := 0, locals := 0 }) ⟨hx, hb, hml, hown, hts⟩ (s_X6_valueOf l D k z _ mo cn ia dr en la wo op mk ir se ec lc wc ol al dn md j91 j157 (by omega) (by omega) hI0) (cwV 2 hts gX6_makeTree_X6_valueOf rfl rfl rfl (by decide +kernel) ⟨Nat.le_of_ble_eq_true rfl, Nat.le_of_ble_eq_true rfl⟩) (m_recv hK hm (q := (RX6, TX6, 24)) rfl hM_17) hz hcx hm hS rfl hl.1 rfl (Nat.le_of_ble_eq_true rfl) dX6_makeTree_248 ⟨Nat.le_of_ble_eq_true rfl, Nat.le_of_ble_eq_true rfl⟩ (fun v M1 H locs hv hm hS => ?_)
                          obtain ⟨⟨w72, hv1, ew72⟩, hM1⟩ := hv
                          rw [hM1] at hm
                          subst hv1
                          refine W.eq (g2 := F0 m 251 ls [.int w72, .int w71]) rfl ?_
                          refine W.widen (k := 0) (n := 0) (Nat.le_of_ble_eq_true rfl) (Nat.le_of_ble_eq_true rfl) ?_
                          have hm : mm D (AZ z) Ml157 H := hm
                          refine lv_icmp_eq (tgt := 281) hx hb dX6_makeTree_251 (by decide) (fun c73 => ?_) (fun c73 => ?_)
                          · refine lv_iinc (v := ((nI j157) + 1)) (lv' := [(6, .int ((nI j157) + 1)), (7, .int 1), (5, .int (nI nb104)), (4, .int (nI nb102)), (3, .int (nI j91)), (2, .int (nI (2 + (5 * t9)))), (0, .ref mo), (1, .int (nI t9))]) hx hb dX6_makeTree_281 hl (k := 1) rfl rfl (by decide) rfl (fun ls hl => ?_)
                            refine lv_goto (tgt := 157) hx hb dX6_makeTree_284 (by decide) ?_
                            rw [nI_1] at hl
                            exact ih157 (j157 + 1, Ml157) _ _ _ ⟨⟨by omega, by omega⟩, ⟨_, _, _, _, _, _, _, fcn_3, fia_3, fdr_3, fen_17, fla_17, fwo_17, fop, fmk, fir, fse_3, fec_17, flc_17, fol_2, fal, fwc_17, hap, hM_17, hmd_3, ⟨hrC_3, hrL_17, hrM⟩, kcn_17, kia_17, kdr_17, hen_17, hla_17, hwo_17, kop_17, kmk_17, kir_17, kse_17, hec_17, hlc_17, hwc_17, kol_17, kal_17⟩, hkp, hkl157, hm, hS, lv_sub hl [0, 2, 3, 4, 5, 6, 7] rfl⟩ (by show 2147483648 - (j157 + 1) < 2147483648 - j157; omega)
                          · refine lv_aload_n hx hb dX6_makeTree_254 rfl (lv_at hl 6 rfl) ?_
                            refine lv_iload hx hb dX6_makeTree_255 (lv_at hl 2 rfl) ?_
                            refine lv_iload hx hb dX6_makeTree_257 (lv_at hl 1 rfl) ?_
                            refine lv_aload_n hx hb dX6_makeTree_259 rfl (lv_at hl 6 rfl) ?_
                            refine lv_iload_n hx hb dX6_makeTree_260 rfl (lv_at hl 4 rfl) ?_
                            refine lv_iload hx hb dX6_makeTree_261 (lv_at hl 1 rfl) ?_
                            have hI0 : mI k Ml157 mo cn ia dr en la wo op mk ir se ec lc wc ol al dn md := ⟨_, _, _, _, _, _, _, fcn_3, fia_3, fdr_3, fen_17, fla_17, fwo_17, fop, fmk, fir, fse_3, fec_17, flc_17, fol_2, fal, fwc_17, hap, hM_17, hmd_3, ⟨hrC_3, hrL_17, hrM⟩, kcn_17, kia_17, kdr_17, hen_17, hla_17, hwo_17, kop_17, kmk_17, kir_17, kse_17, hec_17, hlc_17, hwc_17, kol_17, kal_17⟩
                            refine m_kV (As := [.int (nI j91), .int (nI j157)]) (rest := [.int (nI j157), .int (nI nb104), .ref mo]) (rm := { frames := 0, cells := 0, slots := 0, locals := 0 }) ⟨hx, hb, hml, hown, hts⟩ (s_X6_valueOf l D k z _ mo cn ia dr en la wo op mk ir se ec lc wc ol al dn md j91 j157 (by omega) (by omega) hI0) (cwV 2 hts gX6_makeTree_X6_valueOf rfl rfl rfl (by decide +kernel) ⟨Nat.le_of_ble_eq_true rfl, Nat.le_of_ble_eq_true rfl⟩) (m_recv hK hm (q := (RX6, TX6, 24)) rfl hM_17) hz hcx hm hS rfl hl.1 rfl (Nat.le_of_ble_eq_true rfl) dX6_makeTree_263 ⟨Nat.le_of_ble_eq_true rfl, Nat.le_of_ble_eq_true rfl⟩ (fun v M1 H locs hv hm hS => ?_)
                            obtain ⟨⟨w74, hv1, ew74⟩, hM1⟩ := hv
                            rw [hM1] at hm
                            subst hv1
                            refine W.eq (g2 := F0 m 266 ls [.int w74, .int (nI j157), .int (nI nb104), .ref mo]) rfl ?_
                            refine W.widen (k := 0) (n := 0) (Nat.le_of_ble_eq_true rfl) (Nat.le_of_ble_eq_true rfl) ?_
                            have hm : mm D (AZ z) Ml157 H := hm
                            have hI0 : mI k Ml157 mo cn ia dr en la wo op mk ir se ec lc wc ol al dn md := ⟨_, _, _, _, _, _, _, fcn_3, fia_3, fdr_3, fen_17, fla_17, fwo_17, fop, fmk, fir, fse_3, fec_17, flc_17, fol_2, fal, fwc_17, hap, hM_17, hmd_3, ⟨hrC_3, hrL_17, hrM⟩, kcn_17, kia_17, kdr_17, hen_17, hla_17, hwo_17, kop_17, kmk_17, kir_17, kse_17, hec_17, hlc_17, hwc_17, kol_17, kal_17⟩
                            refine m_kV (As := [.int (nI nb104), .int (nI j157), .int w74]) (rest := []) (rm := { frames := 0, cells := 0, slots := 0, locals := 0 }) ⟨hx, hb, hml, hown, hts⟩ (x_X6_setValue l D k z _ mo cn ia dr en la wo op mk ir se ec lc wc ol al dn md nb104 j157 w74 (by omega) (by omega) (by omega) ew74 hI0) (cwV 3 hts gX6_makeTree_X6_setValue rfl rfl rfl (by decide +kernel) ⟨Nat.le_of_ble_eq_true rfl, Nat.le_of_ble_eq_true rfl⟩) (m_recv hK hm (q := (RX6, TX6, 24)) rfl hM_17) hz hcx hm hS rfl hl.1 rfl (Nat.le_of_ble_eq_true rfl) dX6_makeTree_266 ⟨Nat.le_of_ble_eq_true rfl, Nat.le_of_ble_eq_true rfl⟩ (fun v M1 H locs hv hm hS => ?_)
                            obtain ⟨hv1, hI9, hk9⟩ := hv
                            obtain ⟨_, _, _, _, _, _, _, _, _, _, fen_18, fla_18, fwo_18, _, _, _, _, _, _, _, _, _, -, -, hmd_18, ⟨-, hrL_18, -⟩, -, -, -, hen_18, hla_18, hwo_18, -, -, -, -, -, -, -, -, -⟩ := id hI9
                            have kmo_18 := hk9 _ _ (by simp only [List.mem_cons, List.not_mem_nil, or_false, not_or]; exact ⟨ne_mo_en, ne_mo_la, ne_mo_wo⟩) hM_17
                            have kcn_18 := hk9 _ _ (by simp only [List.mem_cons, List.not_mem_nil, or_false, not_or]; exact ⟨ne_cn_en, ne_cn_la, ne_cn_wo⟩) kcn_17
                            have kia_18 := hk9 _ _ (by simp only [List.mem_cons, List.not_mem_nil, or_false, not_or]; exact ⟨ne_ia_en, ne_ia_la, ne_ia_wo⟩) kia_17
                            have kdr_18 := hk9 _ _ (by simp only [List.mem_cons, List.not_mem_nil, or_false, not_or]; exact ⟨ne_dr_en, ne_dr_la, ne_dr_wo⟩) kdr_17
                            have kop_18 := hk9 _ _ (by simp only [List.mem_cons, List.not_mem_nil, or_false, not_or]; exact ⟨ne_op_en, ne_op_la, ne_op_wo⟩) kop_17
                            have kmk_18 := hk9 _ _ (by simp only [List.mem_cons, List.not_mem_nil, or_false, not_or]; exact ⟨ne_mk_en, ne_mk_la, ne_mk_wo⟩) kmk_17
                            have kir_18 := hk9 _ _ (by simp only [List.mem_cons, List.not_mem_nil, or_false, not_or]; exact ⟨ne_ir_en, ne_ir_la, ne_ir_wo⟩) kir_17
                            have kse_18 := hk9 _ _ (by simp only [List.mem_cons, List.not_mem_nil, or_false, not_or]; exact ⟨ne_se_en, ne_se_la, ne_se_wo⟩) kse_17
                            have kec_18 := hk9 _ _ (by simp only [List.mem_cons, List.not_mem_nil, or_false, not_or]; exact ⟨ne_ec_en, ne_ec_la, ne_ec_wo⟩) hec_17
                            have klc_18 := hk9 _ _ (by simp only [List.mem_cons, List.not_mem_nil, or_false, not_or]; exact ⟨ne_lc_en, ne_lc_la, ne_lc_wo⟩) hlc_17
                            have kwc_18 := hk9 _ _ (by simp only [List.mem_cons, List.not_mem_nil, or_false, not_or]; exact ⟨ne_wc_en, ne_wc_la, ne_wc_wo⟩) hwc_17
                            have kol_18 := hk9 _ _ (by simp only [List.mem_cons, List.not_mem_nil, or_false, not_or]; exact ⟨ne_ol_en, ne_ol_la, ne_ol_wo⟩) kol_17
                            have kal_18 := hk9 _ _ (by simp only [List.mem_cons, List.not_mem_nil, or_false, not_or]; exact ⟨ne_al_en, ne_al_la, ne_al_wo⟩) kal_17
                            have hkp := hkp.trans (hk9.mono (fun a ha => by simp only [List.mem_cons, List.not_mem_nil, or_false] at ha ⊢; rcases ha with q9 | q9 | q9 <;> simp [q9]))
                            have hkl91 := hkl91.trans (hk9.mono (fun a ha => by simp only [List.mem_cons, List.not_mem_nil, or_false] at ha ⊢; rcases ha with q9 | q9 | q9 <;> simp [q9]))
                            have hkl157 := hkl157.trans (hk9.mono (fun a ha => by simp only [List.mem_cons, List.not_mem_nil, or_false] at ha ⊢; rcases ha with q9 | q9 | q9 <;> simp [q9]))
                            obtain ⟨Mc12, hMx⟩ : ∃ x : mM, x = M1 := ⟨M1, rfl⟩
                            subst hMx
                            subst hv1
                            refine W.eq (g2 := F0 m 269 ls []) rfl ?_
                            refine W.widen (k := 0) (n := 0) (Nat.le_of_ble_eq_true rfl) (Nat.le_of_ble_eq_true rfl) ?_
                            have hm : mm D (AZ z) Mc12 H := hm
                            refine lv_aload_n hx hb dX6_makeTree_269 rfl (lv_at hl 6 rfl) ?_
                            refine lv_iload hx hb dX6_makeTree_270 (lv_at hl 2 rfl) ?_
                            refine lv_sipush (v := 3100) hx hb dX6_makeTree_272 (by decide) ?_
                            refine lv_isub hx hb dX6_makeTree_275 ?_
                            refine W.eq (g2 := F0 m 276 ls [.int (nI (nb104 - 3100)), .ref mo]) (by rw [show (((nI nb104)) - (3100) : Int32) = nI (nb104 - 3100) from pk_sub (a := nb104) (b := 3100) (by omega)]) ?_
                            refine lv_iload hx hb dX6_makeTree_276 (lv_at hl 1 rfl) ?_
                            have hI0 : mI k Mc12 mo cn ia dr en la wo op mk ir se ec lc wc ol al dn md := ⟨_, _, _, _, _, _, _, fcn_3, fia_3, fdr_3, fen_18, fla_18, fwo_18, fop, fmk, fir, fse_3, fec_17, flc_17, fol_2, fal, fwc_17, hap, kmo_18, hmd_3, ⟨hrC_3, hrL_18, hrM⟩, kcn_18, kia_18, kdr_18, hen_18, hla_18, hwo_18, kop_18, kmk_18, kir_18, kse_18, kec_18, klc_18, kwc_18, kol_18, kal_18⟩
                            refine m_kV (As := [.int (nI (nb104 - 3100)), .int (nI j157)]) (rest := []) (rm := { frames := 0, cells := 0, slots := 0, locals := 0 }) ⟨hx, hb, hml, hown, hts⟩ (x_X6_come l D k z _ mo cn ia dr en la wo op mk ir se ec lc wc ol al dn md (nb104 - 3100) j157 (by omega) (by omega) hI0) (cwV 2 hts gX6_makeTree_X6_come rfl rfl rfl (by decide +kernel) ⟨Nat.le_of_ble_eq_true rfl, Nat.le_of_ble_eq_true rfl⟩) (m_recv hK hm (q := (RX6, TX6, 24)) rfl kmo_18) hz hcx hm hS rfl hl.1 rfl (Nat.le_of_ble_eq_true rfl) dX6_makeTree_278 ⟨Nat.le_of_ble_eq_true rfl, Nat.le_of_ble_eq_true rfl⟩ (fun v M1 H locs hv hm hS => ?_)
                            obtain ⟨hv1, hI9, hk9⟩ := hv
                            obtain ⟨cd_19, ni_19, pw_19, cm_19, wr_19, cs_19, hm9_19, _, _, _, _, _, _, _, _, _, _, fec_19, flc_19, _, _, fwc_19, -, hM_19, hmd_19, ⟨-, -, -⟩, -, -, -, -, -, -, -, -, -, -, hec_19, hlc_19, hwc_19, -, -⟩ := id hI9
                            have kcn_19 := hk9 _ _ (by simp only [List.mem_cons, List.not_mem_nil, or_false, not_or]; exact ⟨ne_cn_mo, ne_cn_ec, ne_cn_lc, ne_cn_wc⟩) kcn_18
                            have kia_19 := hk9 _ _ (by simp only [List.mem_cons, List.not_mem_nil, or_false, not_or]; exact ⟨ne_ia_mo, ne_ia_ec, ne_ia_lc, ne_ia_wc⟩) kia_18
                            have kdr_19 := hk9 _ _ (by simp only [List.mem_cons, List.not_mem_nil, or_false, not_or]; exact ⟨ne_dr_mo, ne_dr_ec, ne_dr_lc, ne_dr_wc⟩) kdr_18
                            have ken_19 := hk9 _ _ (by simp only [List.mem_cons, List.not_mem_nil, or_false, not_or]; exact ⟨ne_en_mo, ne_en_ec, ne_en_lc, ne_en_wc⟩) hen_18
                            have kla_19 := hk9 _ _ (by simp only [List.mem_cons, List.not_mem_nil, or_false, not_or]; exact ⟨ne_la_mo, ne_la_ec, ne_la_lc, ne_la_wc⟩) hla_18
                            have kwo_19 := hk9 _ _ (by simp only [List.mem_cons, List.not_mem_nil, or_false, not_or]; exact ⟨ne_wo_mo, ne_wo_ec, ne_wo_lc, ne_wo_wc⟩) hwo_18
                            have kop_19 := hk9 _ _ (by simp only [List.mem_cons, List.not_mem_nil, or_false, not_or]; exact ⟨ne_op_mo, ne_op_ec, ne_op_lc, ne_op_wc⟩) kop_18
                            have kmk_19 := hk9 _ _ (by simp only [List.mem_cons, List.not_mem_nil, or_false, not_or]; exact ⟨ne_mk_mo, ne_mk_ec, ne_mk_lc, ne_mk_wc⟩) kmk_18
                            have kir_19 := hk9 _ _ (by simp only [List.mem_cons, List.not_mem_nil, or_false, not_or]; exact ⟨ne_ir_mo, ne_ir_ec, ne_ir_lc, ne_ir_wc⟩) kir_18
                            have kse_19 := hk9 _ _ (by simp only [List.mem_cons, List.not_mem_nil, or_false, not_or]; exact ⟨ne_se_mo, ne_se_ec, ne_se_lc, ne_se_wc⟩) kse_18
                            have kol_19 := hk9 _ _ (by simp only [List.mem_cons, List.not_mem_nil, or_false, not_or]; exact ⟨ne_ol_mo, ne_ol_ec, ne_ol_lc, ne_ol_wc⟩) kol_18
                            have kal_19 := hk9 _ _ (by simp only [List.mem_cons, List.not_mem_nil, or_false, not_or]; exact ⟨ne_al_mo, ne_al_ec, ne_al_lc, ne_al_wc⟩) kal_18
                            have hkp := hkp.trans (hk9.mono (fun a ha => by simp only [List.mem_cons, List.not_mem_nil, or_false] at ha ⊢; rcases ha with q9 | q9 | q9 | q9 <;> simp [q9]))
                            have hkl91 := hkl91.trans (hk9.mono (fun a ha => by simp only [List.mem_cons, List.not_mem_nil, or_false] at ha ⊢; rcases ha with q9 | q9 | q9 | q9 <;> simp [q9]))
                            have hkl157 := hkl157.trans (hk9.mono (fun a ha => by simp only [List.mem_cons, List.not_mem_nil, or_false] at ha ⊢; rcases ha with q9 | q9 | q9 | q9 <;> simp [q9]))
                            obtain ⟨Mc13, hMx⟩ : ∃ x : mM, x = M1 := ⟨M1, rfl⟩
                            subst hMx
                            subst hv1
                            refine W.eq (g2 := F0 m 281 ls []) rfl ?_
                            refine W.widen (k := 0) (n := 0) (Nat.le_of_ble_eq_true rfl) (Nat.le_of_ble_eq_true rfl) ?_
                            have hm : mm D (AZ z) Mc13 H := hm
                            refine lv_iinc (v := ((nI j157) + 1)) (lv' := [(6, .int ((nI j157) + 1)), (7, .int 1), (5, .int (nI nb104)), (4, .int (nI nb102)), (3, .int (nI j91)), (2, .int (nI (2 + (5 * t9)))), (0, .ref mo), (1, .int (nI t9))]) hx hb dX6_makeTree_281 hl (k := 1) rfl rfl (by decide) rfl (fun ls hl => ?_)
                            refine lv_goto (tgt := 157) hx hb dX6_makeTree_284 (by decide) ?_
                            rw [nI_1] at hl
                            exact ih157 (j157 + 1, Mc13) _ _ _ ⟨⟨by omega, by omega⟩, ⟨_, _, _, _, _, _, _, fcn_3, fia_3, fdr_3, fen_18, fla_18, fwo_18, fop, fmk, fir, fse_3, fec_19, flc_19, fol_2, fal, fwc_19, hap, hM_19, hmd_3, ⟨hrC_3, hrL_18, hrM⟩, kcn_19, kia_19, kdr_19, ken_19, kla_19, kwo_19, kop_19, kmk_19, kir_19, kse_19, hec_19, hlc_19, hwc_19, kol_19, kal_19⟩, hkp, hkl157, hm, hS, lv_sub hl [0, 2, 3, 4, 5, 6, 7] rfl⟩ (by show 2147483648 - (j157 + 1) < 2147483648 - j157; omega)
                      · have hqc68 : nb102 < 0 := nb_nle (a := 0) (b := nb102) (by omega) (by omega) c68
                        omega
                  · have hqc65 : 15 ≤ j157 := nb_nlt (a := j157) (b := 15) (by omega) (by omega) c65
                    refine lv_iload hx hb dX6_makeTree_190 (lv_at hl 0 rfl) ?_
                    refine lv_bipush (v := 29) hx hb dX6_makeTree_192 (by decide) ?_
                    refine lv_icmp_le (tgt := 201) hx hb dX6_makeTree_194 (by decide) (fun c75 => ?_) (fun c75 => ?_)
                    · have hqc75 : j157 ≤ 29 := nb_le (a := j157) (b := 29) (by omega) (by omega) c75
                      refine lv_iconst (v := 0) hx hb dX6_makeTree_201 (by decide) ?_
                      refine lv_istore (lv' := [(7, .int 0), (6, .int (nI j157)), (5, .int (nI nb104)), (4, .int (nI nb102)), (3, .int (nI j91)), (2, .int (nI (2 + (5 * t9)))), (0, .ref mo), (1, .int (nI t9))]) hx hb dX6_makeTree_202 hl (by decide) rfl (fun ls hl => ?_)
                      refine lv_iload hx hb dX6_makeTree_204 (lv_at hl 0 rfl) ?_
                      refine lv_if_eq (tgt := 281) hx hb dX6_makeTree_206 (by decide) (fun c76 => ?_) (fun c76 => ?_)
                      · refine lv_iinc (v := ((nI j157) + 1)) (lv' := [(6, .int ((nI j157) + 1)), (7, .int 0), (5, .int (nI nb104)), (4, .int (nI nb102)), (3, .int (nI j91)), (2, .int (nI (2 + (5 * t9)))), (0, .ref mo), (1, .int (nI t9))]) hx hb dX6_makeTree_281 hl (k := 1) rfl rfl (by decide) rfl (fun ls hl => ?_)
                        refine lv_goto (tgt := 157) hx hb dX6_makeTree_284 (by decide) ?_
                        rw [nI_1] at hl
                        exact ih157 (j157 + 1, Ml157) _ _ _ ⟨⟨by omega, by omega⟩, ⟨_, _, _, _, _, _, _, fcn_3, fia_3, fdr_3, fen_17, fla_17, fwo_17, fop, fmk, fir, fse_3, fec_17, flc_17, fol_2, fal, fwc_17, hap, hM_17, hmd_3, ⟨hrC_3, hrL_17, hrM⟩, kcn_17, kia_17, kdr_17, hen_17, hla_17, hwo_17, kop_17, kmk_17, kir_17, kse_17, hec_17, hlc_17, hwc_17, kol_17, kal_17⟩, hkp, hkl157, hm, hS, lv_sub hl [0, 2, 3, 4, 5, 6, 7] rfl⟩ (by show 2147483648 - (j157 + 1) < 2147483648 - j157; omega)
                      · first | exact absurd c76 (by decide) | exact absurd (by decide) c76
                    · have hqc75 : 29 < j157 := nb_nle (a := j157) (b := 29) (by omega) (by omega) c75
                      refine lv_iconst (v := 1) hx hb dX6_makeTree_197 (by decide) ?_
                      refine lv_goto (tgt := 202) hx hb dX6_makeTree_198 (by decide) ?_
                      refine lv_istore (lv' := [(7, .int 1), (6, .int (nI j157)), (5, .int (nI nb104)), (4, .int (nI nb102)), (3, .int (nI j91)), (2, .int (nI (2 + (5 * t9)))), (0, .ref mo), (1, .int (nI t9))]) hx hb dX6_makeTree_202 hl (by decide) rfl (fun ls hl => ?_)
                      refine lv_iload hx hb dX6_makeTree_204 (lv_at hl 0 rfl) ?_
                      refine lv_if_eq (tgt := 281) hx hb dX6_makeTree_206 (by decide) (fun c77 => ?_) (fun c77 => ?_)
                      · first | exact absurd c77 (by decide) | exact absurd (by decide) c77
                      · refine lv_aload_n hx hb dX6_makeTree_209 rfl (lv_at hl 6 rfl) ?_
                        refine lv_iload_n hx hb dX6_makeTree_210 rfl (lv_at hl 4 rfl) ?_
                        refine lv_iload hx hb dX6_makeTree_211 (lv_at hl 1 rfl) ?_
                        have hI0 : mI k Ml157 mo cn ia dr en la wo op mk ir se ec lc wc ol al dn md := ⟨_, _, _, _, _, _, _, fcn_3, fia_3, fdr_3, fen_17, fla_17, fwo_17, fop, fmk, fir, fse_3, fec_17, flc_17, fol_2, fal, fwc_17, hap, hM_17, hmd_3, ⟨hrC_3, hrL_17, hrM⟩, kcn_17, kia_17, kdr_17, hen_17, hla_17, hwo_17, kop_17, kmk_17, kir_17, kse_17, hec_17, hlc_17, hwc_17, kol_17, kal_17⟩
                        refine m_kV (As := [.int (nI j91), .int (nI j157)]) (rest := []) (rm := { frames := 0, cells := 0, slots := 0, locals := 0 }) ⟨hx, hb, hml, hown, hts⟩ (s_X6_valueOf l D k z _ mo cn ia dr en la wo op mk ir se ec lc wc ol al dn md j91 j157 (by omega) (by omega) hI0) (cwV 2 hts gX6_makeTree_X6_valueOf rfl rfl rfl (by decide +kernel) ⟨Nat.le_of_ble_eq_true rfl, Nat.le_of_ble_eq_true rfl⟩) (m_recv hK hm (q := (RX6, TX6, 24)) rfl hM_17) hz hcx hm hS rfl hl.1 rfl (Nat.le_of_ble_eq_true rfl) dX6_makeTree_213 ⟨Nat.le_of_ble_eq_true rfl, Nat.le_of_ble_eq_true rfl⟩ (fun v M1 H locs hv hm hS => ?_)
                        obtain ⟨⟨w78, hv1, ew78⟩, hM1⟩ := hv
                        rw [hM1] at hm
                        subst hv1
                        refine W.eq (g2 := F0 m 216 ls [.int w78]) rfl ?_
                        refine W.widen (k := 0) (n := 0) (Nat.le_of_ble_eq_true rfl) (Nat.le_of_ble_eq_true rfl) ?_
                        have hm : mm D (AZ z) Ml157 H := hm
                        refine lv_iload hx hb dX6_makeTree_216 (lv_at hl 3 rfl) ?_
                        refine lv_if_ge (tgt := 225) hx hb dX6_makeTree_218 (by decide) (fun c79 => ?_) (fun c79 => ?_)
                        · have hqc79 : 0 ≤ nb102 := nb_le (a := 0) (b := nb102) (by omega) (by omega) c79
                          refine lv_aload_n hx hb dX6_makeTree_225 rfl (lv_at hl 6 rfl) ?_
                          refine lv_iload hx hb dX6_makeTree_226 (lv_at hl 3 rfl) ?_
                          refine lv_iload hx hb dX6_makeTree_228 (lv_at hl 1 rfl) ?_
                          have hI0 : mI k Ml157 mo cn ia dr en la wo op mk ir se ec lc wc ol al dn md := ⟨_, _, _, _, _, _, _, fcn_3, fia_3, fdr_3, fen_17, fla_17, fwo_17, fop, fmk, fir, fse_3, fec_17, flc_17, fol_2, fal, fwc_17, hap, hM_17, hmd_3, ⟨hrC_3, hrL_17, hrM⟩, kcn_17, kia_17, kdr_17, hen_17, hla_17, hwo_17, kop_17, kmk_17, kir_17, kse_17, hec_17, hlc_17, hwc_17, kol_17, kal_17⟩
                          refine m_kV (As := [.int (nI nb102), .int (nI j157)]) (rest := [.int w78]) (rm := { frames := 0, cells := 0, slots := 0, locals := 0 }) ⟨hx, hb, hml, hown, hts⟩ (s_X6_valueOf l D k z _ mo cn ia dr en la wo op mk ir se ec lc wc ol al dn md nb102 j157 (by omega) (by omega) hI0) (cwV 2 hts gX6_makeTree_X6_valueOf rfl rfl rfl (by decide +kernel) ⟨Nat.le_of_ble_eq_true rfl, Nat.le_of_ble_eq_true rfl⟩) (m_recv hK hm (q := (RX6, TX6, 24)) rfl hM_17) hz hcx hm hS rfl hl.1 rfl (Nat.le_of_ble_eq_true rfl) dX6_makeTree_230 ⟨Nat.le_of_ble_eq_true rfl, Nat.le_of_ble_eq_true rfl⟩ (fun v M1 H locs hv hm hS => ?_)
                          obtain ⟨⟨w80, hv1, ew80⟩, hM1⟩ := hv
                          rw [hM1] at hm
                          subst hv1
                          refine W.eq (g2 := F0 m 233 ls [.int w80, .int w78]) rfl ?_
                          refine W.widen (k := 0) (n := 0) (Nat.le_of_ble_eq_true rfl) (Nat.le_of_ble_eq_true rfl) ?_
                          have hm : mm D (AZ z) Ml157 H := hm
                          refine lv_icmp_eq (tgt := 281) hx hb dX6_makeTree_233 (by decide) (fun c81 => ?_) (fun c81 => ?_)
                          · refine lv_iinc (v := ((nI j157) + 1)) (lv' := [(6, .int ((nI j157) + 1)), (7, .int 1), (5, .int (nI nb104)), (4, .int (nI nb102)), (3, .int (nI j91)), (2, .int (nI (2 + (5 * t9)))), (0, .ref mo), (1, .int (nI t9))]) hx hb dX6_makeTree_281 hl (k := 1) rfl rfl (by decide) rfl (fun ls hl => ?_)
                            refine lv_goto (tgt := 157) hx hb dX6_makeTree_284 (by decide) ?_
                            rw [nI_1] at hl
                            exact ih157 (j157 + 1, Ml157) _ _ _ ⟨⟨by omega, by omega⟩, ⟨_, _, _, _, _, _, _, fcn_3, fia_3, fdr_3, fen_17, fla_17, fwo_17, fop, fmk, fir, fse_3, fec_17, flc_17, fol_2, fal, fwc_17, hap, hM_17, hmd_3, ⟨hrC_3, hrL_17, hrM⟩, kcn_17, kia_17, kdr_17, hen_17, hla_17, hwo_17, kop_17, kmk_17, kir_17, kse_17, hec_17, hlc_17, hwc_17, kol_17, kal_17⟩, hkp, hkl157, hm, hS, lv_sub hl [0, 2, 3, 4, 5, 6, 7] rfl⟩ (by show 2147483648 - (j157 + 1) < 2147483648 - j157; omega)
                          · refine lv_aload_n hx hb dX6_makeTree_236 rfl (lv_at hl 6 rfl) ?_
                            refine lv_iload hx hb dX6_makeTree_237 (lv_at hl 2 rfl) ?_
                            refine lv_iload hx hb dX6_makeTree_239 (lv_at hl 1 rfl) ?_
                            have hI0 : mI k Ml157 mo cn ia dr en la wo op mk ir se ec lc wc ol al dn md := ⟨_, _, _, _, _, _, _, fcn_3, fia_3, fdr_3, fen_17, fla_17, fwo_17, fop, fmk, fir, fse_3, fec_17, flc_17, fol_2, fal, fwc_17, hap, hM_17, hmd_3, ⟨hrC_3, hrL_17, hrM⟩, kcn_17, kia_17, kdr_17, hen_17, hla_17, hwo_17, kop_17, kmk_17, kir_17, kse_17, hec_17, hlc_17, hwc_17, kol_17, kal_17⟩
                            refine m_kV (As := [.int (nI nb104), .int (nI j157)]) (rest := []) (rm := { frames := 0, cells := 0, slots := 0, locals := 0 }) ⟨hx, hb, hml, hown, hts⟩ (s_X6_valueOf l D k z _ mo cn ia dr en la wo op mk ir se ec lc wc ol al dn md nb104 j157 (by omega) (by omega) hI0) (cwV 2 hts gX6_makeTree_X6_valueOf rfl rfl rfl (by decide +kernel) ⟨Nat.le_of_ble_eq_true rfl, Nat.le_of_ble_eq_true rfl⟩) (m_recv hK hm (q := (RX6, TX6, 24)) rfl hM_17) hz hcx hm hS rfl hl.1 rfl (Nat.le_of_ble_eq_true rfl) dX6_makeTree_241 ⟨Nat.le_of_ble_eq_true rfl, Nat.le_of_ble_eq_true rfl⟩ (fun v M1 H locs hv hm hS => ?_)
                            obtain ⟨⟨w82, hv1, ew82⟩, hM1⟩ := hv
                            rw [hM1] at hm
                            subst hv1
                            refine W.eq (g2 := F0 m 244 ls [.int w82]) rfl ?_
                            refine W.widen (k := 0) (n := 0) (Nat.le_of_ble_eq_true rfl) (Nat.le_of_ble_eq_true rfl) ?_
                            have hm : mm D (AZ z) Ml157 H := hm
                            refine lv_aload_n hx hb dX6_makeTree_244 rfl (lv_at hl 6 rfl) ?_
                            refine lv_iload_n hx hb dX6_makeTree_245 rfl (lv_at hl 4 rfl) ?_
                            refine lv_iload hx hb dX6_makeTree_246 (lv_at hl 1 rfl) ?_
                            have hI0 : mI k Ml157 mo cn ia dr en la wo op mk ir se ec lc wc ol al dn md := ⟨_, _, _, _, _, _, _, fcn_3, fia_3, fdr_3, fen_17, fla_17, fwo_17, fop, fmk, fir, fse_3, fec_17, flc_17, fol_2, fal, fwc_17, hap, hM_17, hmd_3, ⟨hrC_3, hrL_17, hrM⟩, kcn_17, kia_17, kdr_17, hen_17, hla_17, hwo_17, kop_17, kmk_17, kir_17, kse_17, hec_17, hlc_17, hwc_17, kol_17, kal_17⟩
                            refine m_kV (As := [.int (nI j91), .int (nI j157)]) (rest := [.int w82]) (rm := { frames := 0, cells := 0, slots := 0, locals := 0 }) ⟨hx, hb, hml, hown, hts⟩ (s_X6_valueOf l D k z _ mo cn ia dr en la wo op mk ir se ec lc wc ol al dn md j91 j157 (by omega) (by omega) hI0) (cwV 2 hts gX6_makeTree_X6_valueOf rfl rfl rfl (by decide +kernel) ⟨Nat.le_of_ble_eq_true rfl, Nat.le_of_ble_eq_true rfl⟩) (m_recv hK hm (q := (RX6, TX6, 24)) rfl hM_17) hz hcx hm hS rfl hl.1 rfl (Nat.le_of_ble_eq_true rfl) dX6_makeTree_248 ⟨Nat.le_of_ble_eq_true rfl, Nat.le_of_ble_eq_true rfl⟩ (fun v M1 H locs hv hm hS => ?_)
                            obtain ⟨⟨w83, hv1, ew83⟩, hM1⟩ := hv
                            rw [hM1] at hm
                            subst hv1
                            refine W.eq (g2 := F0 m 251 ls [.int w83, .int w82]) rfl ?_
                            refine W.widen (k := 0) (n := 0) (Nat.le_of_ble_eq_true rfl) (Nat.le_of_ble_eq_true rfl) ?_
                            have hm : mm D (AZ z) Ml157 H := hm
                            refine lv_icmp_eq (tgt := 281) hx hb dX6_makeTree_251 (by decide) (fun c84 => ?_) (fun c84 => ?_)
                            · refine lv_iinc (v := ((nI j157) + 1)) (lv' := [(6, .int ((nI j157) + 1)), (7, .int 1), (5, .int (nI nb104)), (4, .int (nI nb102)), (3, .int (nI j91)), (2, .int (nI (2 + (5 * t9)))), (0, .ref mo), (1, .int (nI t9))]) hx hb dX6_makeTree_281 hl (k := 1) rfl rfl (by decide) rfl (fun ls hl => ?_)
                              refine lv_goto (tgt := 157) hx hb dX6_makeTree_284 (by decide) ?_
                              rw [nI_1] at hl
                              exact ih157 (j157 + 1, Ml157) _ _ _ ⟨⟨by omega, by omega⟩, ⟨_, _, _, _, _, _, _, fcn_3, fia_3, fdr_3, fen_17, fla_17, fwo_17, fop, fmk, fir, fse_3, fec_17, flc_17, fol_2, fal, fwc_17, hap, hM_17, hmd_3, ⟨hrC_3, hrL_17, hrM⟩, kcn_17, kia_17, kdr_17, hen_17, hla_17, hwo_17, kop_17, kmk_17, kir_17, kse_17, hec_17, hlc_17, hwc_17, kol_17, kal_17⟩, hkp, hkl157, hm, hS, lv_sub hl [0, 2, 3, 4, 5, 6, 7] rfl⟩ (by show 2147483648 - (j157 + 1) < 2147483648 - j157; omega)
                            · refine lv_aload_n hx hb dX6_makeTree_254 rfl (lv_at hl 6 rfl) ?_
                              refine lv_iload hx hb dX6_makeTree_255 (lv_at hl 2 rfl) ?_
                              refine lv_iload hx hb dX6_makeTree_257 (lv_at hl 1 rfl) ?_
                              refine lv_aload_n hx hb dX6_makeTree_259 rfl (lv_at hl 6 rfl) ?_
                              refine lv_iload_n hx hb dX6_makeTree_260 rfl (lv_at hl 4 rfl) ?_
                              refine lv_iload hx hb dX6_makeTree_261 (lv_at hl 1 rfl) ?_
                              have hI0 : mI k Ml157 mo cn ia dr en la wo op mk ir se ec lc wc ol al dn md := ⟨_, _, _, _, _, _, _, fcn_3, fia_3, fdr_3, fen_17, fla_17, fwo_17, fop, fmk, fir, fse_3, fec_17, flc_17, fol_2, fal, fwc_17, hap, hM_17, hmd_3, ⟨hrC_3, hrL_17, hrM⟩, kcn_17, kia_17, kdr_17, hen_17, hla_17, hwo_17, kop_17, kmk_17, kir_17, kse_17, hec_17, hlc_17, hwc_17, kol_17, kal_17⟩
                              refine m_kV (As := [.int (nI j91), .int (nI j157)]) (rest := [.int (nI j157), .int (nI nb104), .ref mo]) (rm := { frames := 0, cells := 0, slots := 0, locals := 0 }) ⟨hx, hb, hml, hown, hts⟩ (s_X6_valueOf l D k z _ mo cn ia dr en la wo op mk ir se ec lc wc ol al dn md j91 j157 (by omega) (by omega) hI0) (cwV 2 hts gX6_makeTree_X6_valueOf rfl rfl rfl (by decide +kernel) ⟨Nat.le_of_ble_eq_true rfl, Nat.le_of_ble_eq_true rfl⟩) (m_recv hK hm (q := (RX6, TX6, 24)) rfl hM_17) hz hcx hm hS rfl hl.1 rfl (Nat.le_of_ble_eq_true rfl) dX6_makeTree_263 ⟨Nat.le_of_ble_eq_true rfl, Nat.le_of_ble_eq_true rfl⟩ (fun v M1 H locs hv hm hS => ?_)
                              obtain ⟨⟨w85, hv1, ew85⟩, hM1⟩ := hv
                              rw [hM1] at hm
                              subst hv1
                              refine W.eq (g2 := F0 m 266 ls [.int w85, .int (nI j157), .int (nI nb104), .ref mo]) rfl ?_
                              refine W.widen (k := 0) (n := 0) (Nat.le_of_ble_eq_true rfl) (Nat.le_of_ble_eq_true rfl) ?_
                              have hm : mm D (AZ z) Ml157 H := hm
                              have hI0 : mI k Ml157 mo cn ia dr en la wo op mk ir se ec lc wc ol al dn md := ⟨_, _, _, _, _, _, _, fcn_3, fia_3, fdr_3, fen_17, fla_17, fwo_17, fop, fmk, fir, fse_3, fec_17, flc_17, fol_2, fal, fwc_17, hap, hM_17, hmd_3, ⟨hrC_3, hrL_17, hrM⟩, kcn_17, kia_17, kdr_17, hen_17, hla_17, hwo_17, kop_17, kmk_17, kir_17, kse_17, hec_17, hlc_17, hwc_17, kol_17, kal_17⟩
                              refine m_kV (As := [.int (nI nb104), .int (nI j157), .int w85]) (rest := []) (rm := { frames := 0, cells := 0, slots := 0, locals := 0 }) ⟨hx, hb, hml, hown, hts⟩ (x_X6_setValue l D k z _ mo cn ia dr en la wo op mk ir se ec lc wc ol al dn md nb104 j157 w85 (by omega) (by omega) (by omega) ew85 hI0) (cwV 3 hts gX6_makeTree_X6_setValue rfl rfl rfl (by decide +kernel) ⟨Nat.le_of_ble_eq_true rfl, Nat.le_of_ble_eq_true rfl⟩) (m_recv hK hm (q := (RX6, TX6, 24)) rfl hM_17) hz hcx hm hS rfl hl.1 rfl (Nat.le_of_ble_eq_true rfl) dX6_makeTree_266 ⟨Nat.le_of_ble_eq_true rfl, Nat.le_of_ble_eq_true rfl⟩ (fun v M1 H locs hv hm hS => ?_)
                              obtain ⟨hv1, hI9, hk9⟩ := hv
                              obtain ⟨_, _, _, _, _, _, _, _, _, _, fen_20, fla_20, fwo_20, _, _, _, _, _, _, _, _, _, -, -, hmd_20, ⟨-, hrL_20, -⟩, -, -, -, hen_20, hla_20, hwo_20, -, -, -, -, -, -, -, -, -⟩ := id hI9
                              have kmo_20 := hk9 _ _ (by simp only [List.mem_cons, List.not_mem_nil, or_false, not_or]; exact ⟨ne_mo_en, ne_mo_la, ne_mo_wo⟩) hM_17
                              have kcn_20 := hk9 _ _ (by simp only [List.mem_cons, List.not_mem_nil, or_false, not_or]; exact ⟨ne_cn_en, ne_cn_la, ne_cn_wo⟩) kcn_17
                              have kia_20 := hk9 _ _ (by simp only [List.mem_cons, List.not_mem_nil, or_false, not_or]; exact ⟨ne_ia_en, ne_ia_la, ne_ia_wo⟩) kia_17
                              have kdr_20 := hk9 _ _ (by simp only [List.mem_cons, List.not_mem_nil, or_false, not_or]; exact ⟨ne_dr_en, ne_dr_la, ne_dr_wo⟩) kdr_17
                              have kop_20 := hk9 _ _ (by simp only [List.mem_cons, List.not_mem_nil, or_false, not_or]; exact ⟨ne_op_en, ne_op_la, ne_op_wo⟩) kop_17
                              have kmk_20 := hk9 _ _ (by simp only [List.mem_cons, List.not_mem_nil, or_false, not_or]; exact ⟨ne_mk_en, ne_mk_la, ne_mk_wo⟩) kmk_17
                              have kir_20 := hk9 _ _ (by simp only [List.mem_cons, List.not_mem_nil, or_false, not_or]; exact ⟨ne_ir_en, ne_ir_la, ne_ir_wo⟩) kir_17
                              have kse_20 := hk9 _ _ (by simp only [List.mem_cons, List.not_mem_nil, or_false, not_or]; exact ⟨ne_se_en, ne_se_la, ne_se_wo⟩) kse_17
                              have kec_20 := hk9 _ _ (by simp only [List.mem_cons, List.not_mem_nil, or_false, not_or]; exact ⟨ne_ec_en, ne_ec_la, ne_ec_wo⟩) hec_17
                              have klc_20 := hk9 _ _ (by simp only [List.mem_cons, List.not_mem_nil, or_false, not_or]; exact ⟨ne_lc_en, ne_lc_la, ne_lc_wo⟩) hlc_17
                              have kwc_20 := hk9 _ _ (by simp only [List.mem_cons, List.not_mem_nil, or_false, not_or]; exact ⟨ne_wc_en, ne_wc_la, ne_wc_wo⟩) hwc_17
                              have kol_20 := hk9 _ _ (by simp only [List.mem_cons, List.not_mem_nil, or_false, not_or]; exact ⟨ne_ol_en, ne_ol_la, ne_ol_wo⟩) kol_17
                              have kal_20 := hk9 _ _ (by simp only [List.mem_cons, List.not_mem_nil, or_false, not_or]; exact ⟨ne_al_en, ne_al_la, ne_al_wo⟩) kal_17
                              have hkp := hkp.trans (hk9.mono (fun a ha => by simp only [List.mem_cons, List.not_mem_nil, or_false] at ha ⊢; rcases ha with q9 | q9 | q9 <;> simp [q9]))
                              have hkl91 := hkl91.trans (hk9.mono (fun a ha => by simp only [List.mem_cons, List.not_mem_nil, or_false] at ha ⊢; rcases ha with q9 | q9 | q9 <;> simp [q9]))
                              have hkl157 := hkl157.trans (hk9.mono (fun a ha => by simp only [List.mem_cons, List.not_mem_nil, or_false] at ha ⊢; rcases ha with q9 | q9 | q9 <;> simp [q9]))
                              obtain ⟨Mc14, hMx⟩ : ∃ x : mM, x = M1 := ⟨M1, rfl⟩
                              subst hMx
                              subst hv1
                              refine W.eq (g2 := F0 m 269 ls []) rfl ?_
                              refine W.widen (k := 0) (n := 0) (Nat.le_of_ble_eq_true rfl) (Nat.le_of_ble_eq_true rfl) ?_
                              have hm : mm D (AZ z) Mc14 H := hm
                              refine lv_aload_n hx hb dX6_makeTree_269 rfl (lv_at hl 6 rfl) ?_
                              refine lv_iload hx hb dX6_makeTree_270 (lv_at hl 2 rfl) ?_
                              refine lv_sipush (v := 3100) hx hb dX6_makeTree_272 (by decide) ?_
                              refine lv_isub hx hb dX6_makeTree_275 ?_
                              refine W.eq (g2 := F0 m 276 ls [.int (nI (nb104 - 3100)), .ref mo]) (by rw [show (((nI nb104)) - (3100) : Int32) = nI (nb104 - 3100) from pk_sub (a := nb104) (b := 3100) (by omega)]) ?_
                              refine lv_iload hx hb dX6_makeTree_276 (lv_at hl 1 rfl) ?_
                              have hI0 : mI k Mc14 mo cn ia dr en la wo op mk ir se ec lc wc ol al dn md := ⟨_, _, _, _, _, _, _, fcn_3, fia_3, fdr_3, fen_20, fla_20, fwo_20, fop, fmk, fir, fse_3, fec_17, flc_17, fol_2, fal, fwc_17, hap, kmo_20, hmd_3, ⟨hrC_3, hrL_20, hrM⟩, kcn_20, kia_20, kdr_20, hen_20, hla_20, hwo_20, kop_20, kmk_20, kir_20, kse_20, kec_20, klc_20, kwc_20, kol_20, kal_20⟩
                              refine m_kV (As := [.int (nI (nb104 - 3100)), .int (nI j157)]) (rest := []) (rm := { frames := 0, cells := 0, slots := 0, locals := 0 }) ⟨hx, hb, hml, hown, hts⟩ (x_X6_come l D k z _ mo cn ia dr en la wo op mk ir se ec lc wc ol al dn md (nb104 - 3100) j157 (by omega) (by omega) hI0) (cwV 2 hts gX6_makeTree_X6_come rfl rfl rfl (by decide +kernel) ⟨Nat.le_of_ble_eq_true rfl, Nat.le_of_ble_eq_true rfl⟩) (m_recv hK hm (q := (RX6, TX6, 24)) rfl kmo_20) hz hcx hm hS rfl hl.1 rfl (Nat.le_of_ble_eq_true rfl) dX6_makeTree_278 ⟨Nat.le_of_ble_eq_true rfl, Nat.le_of_ble_eq_true rfl⟩ (fun v M1 H locs hv hm hS => ?_)
                              obtain ⟨hv1, hI9, hk9⟩ := hv
                              obtain ⟨cd_21, ni_21, pw_21, cm_21, wr_21, cs_21, hm9_21, _, _, _, _, _, _, _, _, _, _, fec_21, flc_21, _, _, fwc_21, -, hM_21, hmd_21, ⟨-, -, -⟩, -, -, -, -, -, -, -, -, -, -, hec_21, hlc_21, hwc_21, -, -⟩ := id hI9
                              have kcn_21 := hk9 _ _ (by simp only [List.mem_cons, List.not_mem_nil, or_false, not_or]; exact ⟨ne_cn_mo, ne_cn_ec, ne_cn_lc, ne_cn_wc⟩) kcn_20
                              have kia_21 := hk9 _ _ (by simp only [List.mem_cons, List.not_mem_nil, or_false, not_or]; exact ⟨ne_ia_mo, ne_ia_ec, ne_ia_lc, ne_ia_wc⟩) kia_20
                              have kdr_21 := hk9 _ _ (by simp only [List.mem_cons, List.not_mem_nil, or_false, not_or]; exact ⟨ne_dr_mo, ne_dr_ec, ne_dr_lc, ne_dr_wc⟩) kdr_20
                              have ken_21 := hk9 _ _ (by simp only [List.mem_cons, List.not_mem_nil, or_false, not_or]; exact ⟨ne_en_mo, ne_en_ec, ne_en_lc, ne_en_wc⟩) hen_20
                              have kla_21 := hk9 _ _ (by simp only [List.mem_cons, List.not_mem_nil, or_false, not_or]; exact ⟨ne_la_mo, ne_la_ec, ne_la_lc, ne_la_wc⟩) hla_20
                              have kwo_21 := hk9 _ _ (by simp only [List.mem_cons, List.not_mem_nil, or_false, not_or]; exact ⟨ne_wo_mo, ne_wo_ec, ne_wo_lc, ne_wo_wc⟩) hwo_20
                              have kop_21 := hk9 _ _ (by simp only [List.mem_cons, List.not_mem_nil, or_false, not_or]; exact ⟨ne_op_mo, ne_op_ec, ne_op_lc, ne_op_wc⟩) kop_20
                              have kmk_21 := hk9 _ _ (by simp only [List.mem_cons, List.not_mem_nil, or_false, not_or]; exact ⟨ne_mk_mo, ne_mk_ec, ne_mk_lc, ne_mk_wc⟩) kmk_20
                              have kir_21 := hk9 _ _ (by simp only [List.mem_cons, List.not_mem_nil, or_false, not_or]; exact ⟨ne_ir_mo, ne_ir_ec, ne_ir_lc, ne_ir_wc⟩) kir_20
                              have kse_21 := hk9 _ _ (by simp only [List.mem_cons, List.not_mem_nil, or_false, not_or]; exact ⟨ne_se_mo, ne_se_ec, ne_se_lc, ne_se_wc⟩) kse_20
                              have kol_21 := hk9 _ _ (by simp only [List.mem_cons, List.not_mem_nil, or_false, not_or]; exact ⟨ne_ol_mo, ne_ol_ec, ne_ol_lc, ne_ol_wc⟩) kol_20
                              have kal_21 := hk9 _ _ (by simp only [List.mem_cons, List.not_mem_nil, or_false, not_or]; exact ⟨ne_al_mo, ne_al_ec, ne_al_lc, ne_al_wc⟩) kal_20
                              have hkp := hkp.trans (hk9.mono (fun a ha => by simp only [List.mem_cons, List.not_mem_nil, or_false] at ha ⊢; rcases ha with q9 | q9 | q9 | q9 <;> simp [q9]))
                              have hkl91 := hkl91.trans (hk9.mono (fun a ha => by simp only [List.mem_cons, List.not_mem_nil, or_false] at ha ⊢; rcases ha with q9 | q9 | q9 | q9 <;> simp [q9]))
                              have hkl157 := hkl157.trans (hk9.mono (fun a ha => by simp only [List.mem_cons, List.not_mem_nil, or_false] at ha ⊢; rcases ha with q9 | q9 | q9 | q9 <;> simp [q9]))
                              obtain ⟨Mc15, hMx⟩ : ∃ x : mM, x = M1 := ⟨M1, rfl⟩
                              subst hMx
                              subst hv1
                              refine W.eq (g2 := F0 m 281 ls []) rfl ?_
                              refine W.widen (k := 0) (n := 0) (Nat.le_of_ble_eq_true rfl) (Nat.le_of_ble_eq_true rfl) ?_
                              have hm : mm D (AZ z) Mc15 H := hm
                              refine lv_iinc (v := ((nI j157) + 1)) (lv' := [(6, .int ((nI j157) + 1)), (7, .int 1), (5, .int (nI nb104)), (4, .int (nI nb102)), (3, .int (nI j91)), (2, .int (nI (2 + (5 * t9)))), (0, .ref mo), (1, .int (nI t9))]) hx hb dX6_makeTree_281 hl (k := 1) rfl rfl (by decide) rfl (fun ls hl => ?_)
                              refine lv_goto (tgt := 157) hx hb dX6_makeTree_284 (by decide) ?_
                              rw [nI_1] at hl
                              exact ih157 (j157 + 1, Mc15) _ _ _ ⟨⟨by omega, by omega⟩, ⟨_, _, _, _, _, _, _, fcn_3, fia_3, fdr_3, fen_20, fla_20, fwo_20, fop, fmk, fir, fse_3, fec_21, flc_21, fol_2, fal, fwc_21, hap, hM_21, hmd_3, ⟨hrC_3, hrL_20, hrM⟩, kcn_21, kia_21, kdr_21, ken_21, kla_21, kwo_21, kop_21, kmk_21, kir_21, kse_21, hec_21, hlc_21, hwc_21, kol_21, kal_21⟩, hkp, hkl157, hm, hS, lv_sub hl [0, 2, 3, 4, 5, 6, 7] rfl⟩ (by show 2147483648 - (j157 + 1) < 2147483648 - j157; omega)
                        · have hqc79 : nb102 < 0 := nb_nle (a := 0) (b := nb102) (by omega) (by omega) c79
                          omega
          · have hqc59 : nb102 < 0 := nb_nle (a := 0) (b := nb102) (by omega) (by omega) c59
            omega
  · have hqc1 : j14 < 100 := nb_nle (a := 100) (b := j14) (by omega) (by omega) c1
    refine lv_aload_n hx hb dX6_makeTree_20 rfl (lv_at hl 1 rfl) ?_
    refine m_get (T := TX6) (N := 24) (ci := 6) (v := .ref se) hx hb hts wX6 hown hK hm kmo_2 rfl 16 (by decide) f48 (fun _ h9 => h9) rfl dX6_makeTree_21 ?_
    refine lv_iload_n hx hb dX6_makeTree_24 rfl (lv_at hl 0 rfl) ?_
    refine lv_iconst (v := 0) hx hb dX6_makeTree_25 (by decide) ?_
    refine m_zast hx hb hK hm hS 2 hse_2 rfl (vp_in_nI (by omega) (by decide)) dX6_makeTree_26 (fun H locs hm hS => ?_)
    have hm : mm D (AZ z) (mu Ml14 se (.inl (k 2, 100, .inl (upd fse_2 ((nI j14)).toNatClampNeg (vp_nar .boolean 0))))) H := hm
    have hkp : kpx (fun a => a ∈ [mo, cn, ia, dr, en, la, wo, op, mk, ir, se, ec, lc, wc, ol, al]) M (mu Ml14 se (.inl (k 2, 100, .inl (upd fse_2 ((nI j14)).toNatClampNeg (vp_nar .boolean 0))))) := (hkp).self (by simp)
    have hkl14 : kpx (fun a => a ∈ [se, ec, lc, wc, ol]) (mu Mc1 mo (.inr (6, [.int cd, .ref cn, .ref ia, .ref dr, .ref en, .ref la, .ref wo, .int ni, .ref op, .ref mk, .ref ir, .int dn, .int md, .int pw, .int cm, .int wr, .ref se, .ref ec, .ref lc, .ref wc, .ref ol, .ref al, .int 0, .int hm9]))) (mu Ml14 se (.inl (k 2, 100, .inl (upd fse_2 ((nI j14)).toNatClampNeg (vp_nar .boolean 0))))) := hkl14.self (by simp)
    refine lv_aload_n hx hb dX6_makeTree_27 rfl (lv_at hl 1 rfl) ?_
    refine m_get (T := TX6) (N := 24) (ci := 6) (v := .ref ec) hx hb hts wX6 hown hK hm ((mu_ne ne_mo_se).trans kmo_2) rfl 17 (by decide) f51 (fun _ h9 => h9) rfl dX6_makeTree_28 ?_
    refine lv_iload_n hx hb dX6_makeTree_31 rfl (lv_at hl 0 rfl) ?_
    refine lv_iconst (v := 0) hx hb dX6_makeTree_32 (by decide) ?_
    refine m_iast hx hb hK hm hS 0 ((mu_ne ne_ec_se).trans hec_2) rfl (vp_in_nI (by omega) (by decide)) dX6_makeTree_33 (fun H locs hm hS => ?_)
    have hm : mm D (AZ z) (mu (mu Ml14 se (.inl (k 2, 100, .inl (upd fse_2 ((nI j14)).toNatClampNeg (vp_nar .boolean 0))))) ec (.inl (k 0, 100, .inl (upd fec_2 ((nI j14)).toNatClampNeg 0)))) H := hm
    have hkp : kpx (fun a => a ∈ [mo, cn, ia, dr, en, la, wo, op, mk, ir, se, ec, lc, wc, ol, al]) M (mu (mu Ml14 se (.inl (k 2, 100, .inl (upd fse_2 ((nI j14)).toNatClampNeg (vp_nar .boolean 0))))) ec (.inl (k 0, 100, .inl (upd fec_2 ((nI j14)).toNatClampNeg 0)))) := (hkp).self (by simp)
    have hkl14 : kpx (fun a => a ∈ [se, ec, lc, wc, ol]) (mu Mc1 mo (.inr (6, [.int cd, .ref cn, .ref ia, .ref dr, .ref en, .ref la, .ref wo, .int ni, .ref op, .ref mk, .ref ir, .int dn, .int md, .int pw, .int cm, .int wr, .ref se, .ref ec, .ref lc, .ref wc, .ref ol, .ref al, .int 0, .int hm9]))) (mu (mu Ml14 se (.inl (k 2, 100, .inl (upd fse_2 ((nI j14)).toNatClampNeg (vp_nar .boolean 0))))) ec (.inl (k 0, 100, .inl (upd fec_2 ((nI j14)).toNatClampNeg 0)))) := hkl14.self (by simp)
    refine lv_aload_n hx hb dX6_makeTree_34 rfl (lv_at hl 1 rfl) ?_
    refine m_get (T := TX6) (N := 24) (ci := 6) (v := .ref lc) hx hb hts wX6 hown hK hm ((mu_ne ne_mo_ec).trans ((mu_ne ne_mo_se).trans kmo_2)) rfl 18 (by decide) f54 (fun _ h9 => h9) rfl dX6_makeTree_35 ?_
    refine lv_iload_n hx hb dX6_makeTree_38 rfl (lv_at hl 0 rfl) ?_
    refine lv_iconst (v := 0) hx hb dX6_makeTree_39 (by decide) ?_
    refine m_zast hx hb hK hm hS 2 ((mu_ne ne_lc_ec).trans ((mu_ne ne_lc_se).trans hlc_2)) rfl (vp_in_nI (by omega) (by decide)) dX6_makeTree_40 (fun H locs hm hS => ?_)
    have hm : mm D (AZ z) (mu (mu (mu Ml14 se (.inl (k 2, 100, .inl (upd fse_2 ((nI j14)).toNatClampNeg (vp_nar .boolean 0))))) ec (.inl (k 0, 100, .inl (upd fec_2 ((nI j14)).toNatClampNeg 0)))) lc (.inl (k 2, 100, .inl (upd flc_2 ((nI j14)).toNatClampNeg (vp_nar .boolean 0))))) H := hm
    have hkp : kpx (fun a => a ∈ [mo, cn, ia, dr, en, la, wo, op, mk, ir, se, ec, lc, wc, ol, al]) M (mu (mu (mu Ml14 se (.inl (k 2, 100, .inl (upd fse_2 ((nI j14)).toNatClampNeg (vp_nar .boolean 0))))) ec (.inl (k 0, 100, .inl (upd fec_2 ((nI j14)).toNatClampNeg 0)))) lc (.inl (k 2, 100, .inl (upd flc_2 ((nI j14)).toNatClampNeg (vp_nar .boolean 0))))) := (hkp).self (by simp)
    have hkl14 : kpx (fun a => a ∈ [se, ec, lc, wc, ol]) (mu Mc1 mo (.inr (6, [.int cd, .ref cn, .ref ia, .ref dr, .ref en, .ref la, .ref wo, .int ni, .ref op, .ref mk, .ref ir, .int dn, .int md, .int pw, .int cm, .int wr, .ref se, .ref ec, .ref lc, .ref wc, .ref ol, .ref al, .int 0, .int hm9]))) (mu (mu (mu Ml14 se (.inl (k 2, 100, .inl (upd fse_2 ((nI j14)).toNatClampNeg (vp_nar .boolean 0))))) ec (.inl (k 0, 100, .inl (upd fec_2 ((nI j14)).toNatClampNeg 0)))) lc (.inl (k 2, 100, .inl (upd flc_2 ((nI j14)).toNatClampNeg (vp_nar .boolean 0))))) := hkl14.self (by simp)
    refine lv_aload_n hx hb dX6_makeTree_41 rfl (lv_at hl 1 rfl) ?_
    refine m_get (T := TX6) (N := 24) (ci := 6) (v := .ref wc) hx hb hts wX6 hown hK hm ((mu_ne ne_mo_lc).trans ((mu_ne ne_mo_ec).trans ((mu_ne ne_mo_se).trans kmo_2))) rfl 19 (by decide) f57 (fun _ h9 => h9) rfl dX6_makeTree_42 ?_
    refine lv_iload_n hx hb dX6_makeTree_45 rfl (lv_at hl 0 rfl) ?_
    refine lv_lconst (v := 0) hx hb dX6_makeTree_46 (by decide) ?_
    refine m_last hx hb hK hm hS 1 ((mu_ne ne_wc_lc).trans ((mu_ne ne_wc_ec).trans ((mu_ne ne_wc_se).trans hwc_2))) rfl (vp_in_nI (by omega) (by decide)) dX6_makeTree_47 (fun H locs hm hS => ?_)
    have hm : mm D (AZ z) (mu (mu (mu (mu Ml14 se (.inl (k 2, 100, .inl (upd fse_2 ((nI j14)).toNatClampNeg (vp_nar .boolean 0))))) ec (.inl (k 0, 100, .inl (upd fec_2 ((nI j14)).toNatClampNeg 0)))) lc (.inl (k 2, 100, .inl (upd flc_2 ((nI j14)).toNatClampNeg (vp_nar .boolean 0))))) wc (.inl (k 1, 100, .inr (.inl (vp_updL fwc_2 ((nI j14)).toNatClampNeg 0))))) H := hm
    have hkp : kpx (fun a => a ∈ [mo, cn, ia, dr, en, la, wo, op, mk, ir, se, ec, lc, wc, ol, al]) M (mu (mu (mu (mu Ml14 se (.inl (k 2, 100, .inl (upd fse_2 ((nI j14)).toNatClampNeg (vp_nar .boolean 0))))) ec (.inl (k 0, 100, .inl (upd fec_2 ((nI j14)).toNatClampNeg 0)))) lc (.inl (k 2, 100, .inl (upd flc_2 ((nI j14)).toNatClampNeg (vp_nar .boolean 0))))) wc (.inl (k 1, 100, .inr (.inl (vp_updL fwc_2 ((nI j14)).toNatClampNeg 0))))) := (hkp).self (by simp)
    have hkl14 : kpx (fun a => a ∈ [se, ec, lc, wc, ol]) (mu Mc1 mo (.inr (6, [.int cd, .ref cn, .ref ia, .ref dr, .ref en, .ref la, .ref wo, .int ni, .ref op, .ref mk, .ref ir, .int dn, .int md, .int pw, .int cm, .int wr, .ref se, .ref ec, .ref lc, .ref wc, .ref ol, .ref al, .int 0, .int hm9]))) (mu (mu (mu (mu Ml14 se (.inl (k 2, 100, .inl (upd fse_2 ((nI j14)).toNatClampNeg (vp_nar .boolean 0))))) ec (.inl (k 0, 100, .inl (upd fec_2 ((nI j14)).toNatClampNeg 0)))) lc (.inl (k 2, 100, .inl (upd flc_2 ((nI j14)).toNatClampNeg (vp_nar .boolean 0))))) wc (.inl (k 1, 100, .inr (.inl (vp_updL fwc_2 ((nI j14)).toNatClampNeg 0))))) := hkl14.self (by simp)
    refine lv_aload_n hx hb dX6_makeTree_48 rfl (lv_at hl 1 rfl) ?_
    refine m_get (T := TX6) (N := 24) (ci := 6) (v := .ref ol) hx hb hts wX6 hown hK hm ((mu_ne ne_mo_wc).trans ((mu_ne ne_mo_lc).trans ((mu_ne ne_mo_ec).trans ((mu_ne ne_mo_se).trans kmo_2)))) rfl 20 (by decide) f61 (fun _ h9 => h9) rfl dX6_makeTree_49 ?_
    refine lv_iload_n hx hb dX6_makeTree_52 rfl (lv_at hl 0 rfl) ?_
    refine lv_iload_n hx hb dX6_makeTree_53 rfl (lv_at hl 0 rfl) ?_
    refine lv_aload_n hx hb dX6_makeTree_54 rfl (lv_at hl 1 rfl) ?_
    refine m_get (T := TX6) (N := 24) (ci := 6) (v := .ref cn) hx hb hts wX6 hown hK hm ((mu_ne ne_mo_wc).trans ((mu_ne ne_mo_lc).trans ((mu_ne ne_mo_ec).trans ((mu_ne ne_mo_se).trans kmo_2)))) rfl 1 (by decide) f7 (fun _ h9 => h9) rfl dX6_makeTree_55 ?_
    refine lv_iconst (v := 0) hx hb dX6_makeTree_58 (by decide) ?_
    refine m_iald hx hb hK hm 0 ((mu_ne ne_cn_wc).trans ((mu_ne ne_cn_lc).trans ((mu_ne ne_cn_ec).trans ((mu_ne ne_cn_se).trans kcn_2)))) rfl (by unfold vp_in; decide) dX6_makeTree_59 ?_
    obtain ⟨u86, hu86, eu86⟩ := hrC_1 0
    refine W.eq (g2 := F0 m 60 ls [.int (nI u86), .int (nI j14), .int (nI j14), .ref ol]) (by rw [show (fcn_1 (0 : Int32).toNatClampNeg) = nI u86 from (congrArg fcn_1 (show (0 : Int32).toNatClampNeg = 0 from rfl)).trans eu86]) ?_
    have hb_u86 := hu86
    have hu86 : u86 ≤ 100 := Nat.le_trans hu86 (bC_le _)
    have hsu86 : u86 ≤ 40 := hb_u86
    refine lv_icmp_ge (tgt := 72) hx hb dX6_makeTree_60 (by decide) (fun c87 => ?_) (fun c87 => ?_)
    · have hqc87 : u86 ≤ j14 := nb_le (a := u86) (b := j14) (by omega) (by omega) c87
      refine lv_iconst (v := 0) hx hb dX6_makeTree_72 (by decide) ?_
      refine m_iast hx hb hK hm hS 0 ((mu_ne ne_ol_wc).trans ((mu_ne ne_ol_lc).trans ((mu_ne ne_ol_ec).trans ((mu_ne ne_ol_se).trans hol_2)))) rfl (vp_in_nI (by omega) (by decide)) dX6_makeTree_73 (fun H locs hm hS => ?_)
      have hm : mm D (AZ z) (mu (mu (mu (mu (mu Ml14 se (.inl (k 2, 100, .inl (upd fse_2 ((nI j14)).toNatClampNeg (vp_nar .boolean 0))))) ec (.inl (k 0, 100, .inl (upd fec_2 ((nI j14)).toNatClampNeg 0)))) lc (.inl (k 2, 100, .inl (upd flc_2 ((nI j14)).toNatClampNeg (vp_nar .boolean 0))))) wc (.inl (k 1, 100, .inr (.inl (vp_updL fwc_2 ((nI j14)).toNatClampNeg 0))))) ol (.inl (k 0, 100, .inl (upd fol_2 ((nI j14)).toNatClampNeg 0)))) H := hm
      have hkp : kpx (fun a => a ∈ [mo, cn, ia, dr, en, la, wo, op, mk, ir, se, ec, lc, wc, ol, al]) M (mu (mu (mu (mu (mu Ml14 se (.inl (k 2, 100, .inl (upd fse_2 ((nI j14)).toNatClampNeg (vp_nar .boolean 0))))) ec (.inl (k 0, 100, .inl (upd fec_2 ((nI j14)).toNatClampNeg 0)))) lc (.inl (k 2, 100, .inl (upd flc_2 ((nI j14)).toNatClampNeg (vp_nar .boolean 0))))) wc (.inl (k 1, 100, .inr (.inl (vp_updL fwc_2 ((nI j14)).toNatClampNeg 0))))) ol (.inl (k 0, 100, .inl (upd fol_2 ((nI j14)).toNatClampNeg 0)))) := (hkp).self (by simp)
      have hkl14 : kpx (fun a => a ∈ [se, ec, lc, wc, ol]) (mu Mc1 mo (.inr (6, [.int cd, .ref cn, .ref ia, .ref dr, .ref en, .ref la, .ref wo, .int ni, .ref op, .ref mk, .ref ir, .int dn, .int md, .int pw, .int cm, .int wr, .ref se, .ref ec, .ref lc, .ref wc, .ref ol, .ref al, .int 0, .int hm9]))) (mu (mu (mu (mu (mu Ml14 se (.inl (k 2, 100, .inl (upd fse_2 ((nI j14)).toNatClampNeg (vp_nar .boolean 0))))) ec (.inl (k 0, 100, .inl (upd fec_2 ((nI j14)).toNatClampNeg 0)))) lc (.inl (k 2, 100, .inl (upd flc_2 ((nI j14)).toNatClampNeg (vp_nar .boolean 0))))) wc (.inl (k 1, 100, .inr (.inl (vp_updL fwc_2 ((nI j14)).toNatClampNeg 0))))) ol (.inl (k 0, 100, .inl (upd fol_2 ((nI j14)).toNatClampNeg 0)))) := hkl14.self (by simp)
      refine lv_iinc (v := ((nI j14) + 1)) (lv' := [(2, .int ((nI j14) + 1)), (0, .ref mo), (1, .int (nI t9))]) hx hb dX6_makeTree_74 hl (k := 0) rfl rfl (by decide) rfl (fun ls hl => ?_)
      refine lv_goto (tgt := 14) hx hb dX6_makeTree_77 (by decide) ?_
      rw [nI_1] at hl
      exact ih14 (j14 + 1, (mu (mu (mu (mu (mu Ml14 se (.inl (k 2, 100, .inl (upd fse_2 ((nI j14)).toNatClampNeg (vp_nar .boolean 0))))) ec (.inl (k 0, 100, .inl (upd fec_2 ((nI j14)).toNatClampNeg 0)))) lc (.inl (k 2, 100, .inl (upd flc_2 ((nI j14)).toNatClampNeg (vp_nar .boolean 0))))) wc (.inl (k 1, 100, .inr (.inl (vp_updL fwc_2 ((nI j14)).toNatClampNeg 0))))) ol (.inl (k 0, 100, .inl (upd fol_2 ((nI j14)).toNatClampNeg 0))))) _ _ _ ⟨⟨by omega, by omega⟩, ⟨_, _, _, _, _, _, _, fcn_1, fia_1, fdr_1, fen_1, fla_1, fwo_1, fop, fmk, fir, (upd fse_2 ((nI j14)).toNatClampNeg (vp_nar .boolean 0)), (upd fec_2 ((nI j14)).toNatClampNeg 0), (upd flc_2 ((nI j14)).toNatClampNeg (vp_nar .boolean 0)), (upd fol_2 ((nI j14)).toNatClampNeg 0), fal, (vp_updL fwc_2 ((nI j14)).toNatClampNeg 0), hap, ((mu_ne ne_mo_ol).trans ((mu_ne ne_mo_wc).trans ((mu_ne ne_mo_lc).trans ((mu_ne ne_mo_ec).trans ((mu_ne ne_mo_se).trans kmo_2))))), hmd_1, ⟨hrC_1, hrL_1, hrM⟩, ((mu_ne ne_cn_ol).trans ((mu_ne ne_cn_wc).trans ((mu_ne ne_cn_lc).trans ((mu_ne ne_cn_ec).trans ((mu_ne ne_cn_se).trans kcn_2))))), ((mu_ne ne_ia_ol).trans ((mu_ne ne_ia_wc).trans ((mu_ne ne_ia_lc).trans ((mu_ne ne_ia_ec).trans ((mu_ne ne_ia_se).trans kia_2))))), ((mu_ne ne_dr_ol).trans ((mu_ne ne_dr_wc).trans ((mu_ne ne_dr_lc).trans ((mu_ne ne_dr_ec).trans ((mu_ne ne_dr_se).trans kdr_2))))), ((mu_ne ne_en_ol).trans ((mu_ne ne_en_wc).trans ((mu_ne ne_en_lc).trans ((mu_ne ne_en_ec).trans ((mu_ne ne_en_se).trans ken_2))))), ((mu_ne ne_la_ol).trans ((mu_ne ne_la_wc).trans ((mu_ne ne_la_lc).trans ((mu_ne ne_la_ec).trans ((mu_ne ne_la_se).trans kla_2))))), ((mu_ne ne_wo_ol).trans ((mu_ne ne_wo_wc).trans ((mu_ne ne_wo_lc).trans ((mu_ne ne_wo_ec).trans ((mu_ne ne_wo_se).trans kwo_2))))), ((mu_ne ne_op_ol).trans ((mu_ne ne_op_wc).trans ((mu_ne ne_op_lc).trans ((mu_ne ne_op_ec).trans ((mu_ne ne_op_se).trans kop_2))))), ((mu_ne ne_mk_ol).trans ((mu_ne ne_mk_wc).trans ((mu_ne ne_mk_lc).trans ((mu_ne ne_mk_ec).trans ((mu_ne ne_mk_se).trans kmk_2))))), ((mu_ne ne_ir_ol).trans ((mu_ne ne_ir_wc).trans ((mu_ne ne_ir_lc).trans ((mu_ne ne_ir_ec).trans ((mu_ne ne_ir_se).trans kir_2))))), ((mu_ne ne_se_ol).trans ((mu_ne ne_se_wc).trans ((mu_ne ne_se_lc).trans ((mu_ne ne_se_ec).trans (mu_self _ _ _))))), ((mu_ne ne_ec_ol).trans ((mu_ne ne_ec_wc).trans ((mu_ne ne_ec_lc).trans (mu_self _ _ _)))), ((mu_ne ne_lc_ol).trans ((mu_ne ne_lc_wc).trans (mu_self _ _ _))), ((mu_ne ne_wc_ol).trans (mu_self _ _ _)), (mu_self _ _ _), ((mu_ne ne_al_ol).trans ((mu_ne ne_al_wc).trans ((mu_ne ne_al_lc).trans ((mu_ne ne_al_ec).trans ((mu_ne ne_al_se).trans kal_2)))))⟩, hkp, hkl14, hm, hS, lv_sub hl [0, 1, 2] rfl⟩ (by show 2147483648 - (j14 + 1) < 2147483648 - j14; omega)
    · have hqc87 : j14 < u86 := nb_nle (a := u86) (b := j14) (by omega) (by omega) c87
      refine lv_aload_n hx hb dX6_makeTree_63 rfl (lv_at hl 1 rfl) ?_
      refine m_get (T := TX6) (N := 24) (ci := 6) (v := .ref la) hx hb hts wX6 hown hK hm ((mu_ne ne_mo_wc).trans ((mu_ne ne_mo_lc).trans ((mu_ne ne_mo_ec).trans ((mu_ne ne_mo_se).trans kmo_2)))) rfl 5 (by decide) f24 (fun _ h9 => h9) rfl dX6_makeTree_64 ?_
      refine lv_iload_n hx hb dX6_makeTree_67 rfl (lv_at hl 0 rfl) ?_
      refine m_iald hx hb hK hm 0 ((mu_ne ne_la_wc).trans ((mu_ne ne_la_lc).trans ((mu_ne ne_la_ec).trans ((mu_ne ne_la_se).trans kla_2)))) rfl (vp_in_nI (by omega) (by decide)) dX6_makeTree_68 ?_
      obtain ⟨u88, hu88, eu88⟩ := hrL_1 j14
      refine W.eq (g2 := F0 m 69 ls [.int (nI u88), .int (nI j14), .ref ol]) (by rw [show (fla_1 ((nI j14)).toNatClampNeg) = nI u88 from (congrArg fla_1 (show ((nI j14)).toNatClampNeg = j14 from nI_clamp (by omega))).trans eu88]) ?_
      have hb_u88 := hu88
      have hu88 : u88 ≤ 64 := hu88
      refine lv_goto (tgt := 73) hx hb dX6_makeTree_69 (by decide) ?_
      refine m_iast hx hb hK hm hS 0 ((mu_ne ne_ol_wc).trans ((mu_ne ne_ol_lc).trans ((mu_ne ne_ol_ec).trans ((mu_ne ne_ol_se).trans hol_2)))) rfl (vp_in_nI (by omega) (by decide)) dX6_makeTree_73 (fun H locs hm hS => ?_)
      have hm : mm D (AZ z) (mu (mu (mu (mu (mu Ml14 se (.inl (k 2, 100, .inl (upd fse_2 ((nI j14)).toNatClampNeg (vp_nar .boolean 0))))) ec (.inl (k 0, 100, .inl (upd fec_2 ((nI j14)).toNatClampNeg 0)))) lc (.inl (k 2, 100, .inl (upd flc_2 ((nI j14)).toNatClampNeg (vp_nar .boolean 0))))) wc (.inl (k 1, 100, .inr (.inl (vp_updL fwc_2 ((nI j14)).toNatClampNeg 0))))) ol (.inl (k 0, 100, .inl (upd fol_2 ((nI j14)).toNatClampNeg (nI u88))))) H := hm
      have hkp : kpx (fun a => a ∈ [mo, cn, ia, dr, en, la, wo, op, mk, ir, se, ec, lc, wc, ol, al]) M (mu (mu (mu (mu (mu Ml14 se (.inl (k 2, 100, .inl (upd fse_2 ((nI j14)).toNatClampNeg (vp_nar .boolean 0))))) ec (.inl (k 0, 100, .inl (upd fec_2 ((nI j14)).toNatClampNeg 0)))) lc (.inl (k 2, 100, .inl (upd flc_2 ((nI j14)).toNatClampNeg (vp_nar .boolean 0))))) wc (.inl (k 1, 100, .inr (.inl (vp_updL fwc_2 ((nI j14)).toNatClampNeg 0))))) ol (.inl (k 0, 100, .inl (upd fol_2 ((nI j14)).toNatClampNeg (nI u88))))) := (hkp).self (by simp)
      have hkl14 : kpx (fun a => a ∈ [se, ec, lc, wc, ol]) (mu Mc1 mo (.inr (6, [.int cd, .ref cn, .ref ia, .ref dr, .ref en, .ref la, .ref wo, .int ni, .ref op, .ref mk, .ref ir, .int dn, .int md, .int pw, .int cm, .int wr, .ref se, .ref ec, .ref lc, .ref wc, .ref ol, .ref al, .int 0, .int hm9]))) (mu (mu (mu (mu (mu Ml14 se (.inl (k 2, 100, .inl (upd fse_2 ((nI j14)).toNatClampNeg (vp_nar .boolean 0))))) ec (.inl (k 0, 100, .inl (upd fec_2 ((nI j14)).toNatClampNeg 0)))) lc (.inl (k 2, 100, .inl (upd flc_2 ((nI j14)).toNatClampNeg (vp_nar .boolean 0))))) wc (.inl (k 1, 100, .inr (.inl (vp_updL fwc_2 ((nI j14)).toNatClampNeg 0))))) ol (.inl (k 0, 100, .inl (upd fol_2 ((nI j14)).toNatClampNeg (nI u88))))) := hkl14.self (by simp)
      refine lv_iinc (v := ((nI j14) + 1)) (lv' := [(2, .int ((nI j14) + 1)), (0, .ref mo), (1, .int (nI t9))]) hx hb dX6_makeTree_74 hl (k := 0) rfl rfl (by decide) rfl (fun ls hl => ?_)
      refine lv_goto (tgt := 14) hx hb dX6_makeTree_77 (by decide) ?_
      rw [nI_1] at hl
      exact ih14 (j14 + 1, (mu (mu (mu (mu (mu Ml14 se (.inl (k 2, 100, .inl (upd fse_2 ((nI j14)).toNatClampNeg (vp_nar .boolean 0))))) ec (.inl (k 0, 100, .inl (upd fec_2 ((nI j14)).toNatClampNeg 0)))) lc (.inl (k 2, 100, .inl (upd flc_2 ((nI j14)).toNatClampNeg (vp_nar .boolean 0))))) wc (.inl (k 1, 100, .inr (.inl (vp_updL fwc_2 ((nI j14)).toNatClampNeg 0))))) ol (.inl (k 0, 100, .inl (upd fol_2 ((nI j14)).toNatClampNeg (nI u88)))))) _ _ _ ⟨⟨by omega, by omega⟩, ⟨_, _, _, _, _, _, _, fcn_1, fia_1, fdr_1, fen_1, fla_1, fwo_1, fop, fmk, fir, (upd fse_2 ((nI j14)).toNatClampNeg (vp_nar .boolean 0)), (upd fec_2 ((nI j14)).toNatClampNeg 0), (upd flc_2 ((nI j14)).toNatClampNeg (vp_nar .boolean 0)), (upd fol_2 ((nI j14)).toNatClampNeg (nI u88)), fal, (vp_updL fwc_2 ((nI j14)).toNatClampNeg 0), hap, ((mu_ne ne_mo_ol).trans ((mu_ne ne_mo_wc).trans ((mu_ne ne_mo_lc).trans ((mu_ne ne_mo_ec).trans ((mu_ne ne_mo_se).trans kmo_2))))), hmd_1, ⟨hrC_1, hrL_1, hrM⟩, ((mu_ne ne_cn_ol).trans ((mu_ne ne_cn_wc).trans ((mu_ne ne_cn_lc).trans ((mu_ne ne_cn_ec).trans ((mu_ne ne_cn_se).trans kcn_2))))), ((mu_ne ne_ia_ol).trans ((mu_ne ne_ia_wc).trans ((mu_ne ne_ia_lc).trans ((mu_ne ne_ia_ec).trans ((mu_ne ne_ia_se).trans kia_2))))), ((mu_ne ne_dr_ol).trans ((mu_ne ne_dr_wc).trans ((mu_ne ne_dr_lc).trans ((mu_ne ne_dr_ec).trans ((mu_ne ne_dr_se).trans kdr_2))))), ((mu_ne ne_en_ol).trans ((mu_ne ne_en_wc).trans ((mu_ne ne_en_lc).trans ((mu_ne ne_en_ec).trans ((mu_ne ne_en_se).trans ken_2))))), ((mu_ne ne_la_ol).trans ((mu_ne ne_la_wc).trans ((mu_ne ne_la_lc).trans ((mu_ne ne_la_ec).trans ((mu_ne ne_la_se).trans kla_2))))), ((mu_ne ne_wo_ol).trans ((mu_ne ne_wo_wc).trans ((mu_ne ne_wo_lc).trans ((mu_ne ne_wo_ec).trans ((mu_ne ne_wo_se).trans kwo_2))))), ((mu_ne ne_op_ol).trans ((mu_ne ne_op_wc).trans ((mu_ne ne_op_lc).trans ((mu_ne ne_op_ec).trans ((mu_ne ne_op_se).trans kop_2))))), ((mu_ne ne_mk_ol).trans ((mu_ne ne_mk_wc).trans ((mu_ne ne_mk_lc).trans ((mu_ne ne_mk_ec).trans ((mu_ne ne_mk_se).trans kmk_2))))), ((mu_ne ne_ir_ol).trans ((mu_ne ne_ir_wc).trans ((mu_ne ne_ir_lc).trans ((mu_ne ne_ir_ec).trans ((mu_ne ne_ir_se).trans kir_2))))), ((mu_ne ne_se_ol).trans ((mu_ne ne_se_wc).trans ((mu_ne ne_se_lc).trans ((mu_ne ne_se_ec).trans (mu_self _ _ _))))), ((mu_ne ne_ec_ol).trans ((mu_ne ne_ec_wc).trans ((mu_ne ne_ec_lc).trans (mu_self _ _ _)))), ((mu_ne ne_lc_ol).trans ((mu_ne ne_lc_wc).trans (mu_self _ _ _))), ((mu_ne ne_wc_ol).trans (mu_self _ _ _)), (mu_self _ _ _), ((mu_ne ne_al_ol).trans ((mu_ne ne_al_wc).trans ((mu_ne ne_al_lc).trans ((mu_ne ne_al_ec).trans ((mu_ne ne_al_se).trans kal_2)))))⟩, hkp, hkl14, hm, hS, lv_sub hl [0, 1, 2] rfl⟩ (by show 2147483648 - (j14 + 1) < 2147483648 - j14; omega)
