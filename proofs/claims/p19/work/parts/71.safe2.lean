set_option maxHeartbeats 4000000 in
set_option maxRecDepth 100000 in
theorem s_X6_copyNode (l : Launch) (D : va_G) (k : Nat → ClassId) (z : Nat) (M : mM) (mo cn ia dr en la wo op mk ir se ec lc wc ol al : Nat) (dn md : Int32)  (a9 b9 : Nat) (ha9 : a9 < 3200) (hb9 : b9 < 3200) (hI : mI k M mo cn ia dr en la wo op mk ir se ec lc wc ol al dn md) : mK l yX6_copyNode wsX6_copyNode ({ frames := 0, cells := 0, slots := 0, locals := 0 }) D k z [.ref mo, .int (nI a9), .int (nI b9)] M (fun v M' => (v = none) ∧ mI k M' mo cn ia dr en la wo op mk ir se ec lc wc ol al dn md ∧ kpx (fun a => a ∈ [ia, dr, en, la, wo]) M M') := by
  refine Met.ofW (cc := cX6_copyNode) (maxL := 4) (ret := none) (by decide) rfl ?_
  intro p e s m args below meth c s₁ B hml hv
  obtain ⟨rfl, hz, hcx, hm⟩ := hv
  have hx := B.exec
  have hb := B.bytes
  have hr := B.returns
  have hts := atoms_spec (ws := wsX6_copyNode) B.pre
  have hown : s.vm.findClass RX6 = some m.cls := findClass_of_methodNamed B.named
  have hlocks := B.notSynchronized
  have hK := hcx.1
  have hS : va_S (AZ z) s.heap s.heap [] := va_S.rf
  have hA : ∀ q, s.heap.size ≤ q → AZ z q := fun q h => Nat.le_trans hz h
  have hl := lv_entry ([.ref mo, .int (nI a9), .int (nI b9)]) (n := 4) (Nat.le_of_ble_eq_true rfl)
  rw [lg_entry_eq]
  generalize (lg_sl ([.ref mo, .int (nI a9), .int (nI b9)]) ++ List.replicate (4 - (lg_sl ([.ref mo, .int (nI a9), .int (nI b9)])).length) Slot.unset).toArray = ls at hl ⊢
  have hl : lv_has ls 4 [(0, .ref mo), (1, .int (nI a9)), (2, .int (nI b9))] := hl
  have f13 := hts (.fieldLink RX6 13 "CommitTreeModel" "ids" "[I") (by decide +kernel)
  have f16 := hts (.fieldLink RX6 16 "CommitTreeModel" "dirs" "[Z") (by decide +kernel)
  have f21 := hts (.fieldLink RX6 21 "CommitTreeModel" "entries" "[I") (by decide +kernel)
  have f24 := hts (.fieldLink RX6 24 "CommitTreeModel" "lengths" "[I") (by decide +kernel)
  have f28 := hts (.fieldLink RX6 28 "CommitTreeModel" "words" "[I") (by decide +kernel)
  have wX6 : ∀ w ∈ wsX60, w ∈ wsX6_copyNode := by decide +kernel
  obtain ⟨cd, ni, pw, cm, wr, cs, hm9, fcn, fia, fdr, fen, fla, fwo, fop, fmk, fir, fse, fec, flc, fol, fal, fwc, hap, hM, hmd, ⟨hrC, hrL, hrM⟩, hcn, hia, hdr, hen, hla, hwo, hop, hmk, hir, hse, hec, hlc, hwc, hol, hal⟩ := id hI
  have ne_mo_cn : nq mo cn := pw_ne hap 0 1 (by decide) (Nat.le_of_ble_eq_true rfl)
  have ne_cn_mo : nq cn mo := Ne.symm ne_mo_cn
  have ne_mo_ia : nq mo ia := pw_ne hap 0 2 (by decide) (Nat.le_of_ble_eq_true rfl)
  have ne_ia_mo : nq ia mo := Ne.symm ne_mo_ia
  have ne_mo_dr : nq mo dr := pw_ne hap 0 3 (by decide) (Nat.le_of_ble_eq_true rfl)
  have ne_dr_mo : nq dr mo := Ne.symm ne_mo_dr
  have ne_mo_en : nq mo en := pw_ne hap 0 4 (by decide) (Nat.le_of_ble_eq_true rfl)
  have ne_en_mo : nq en mo := Ne.symm ne_mo_en
  have ne_mo_la : nq mo la := pw_ne hap 0 5 (by decide) (Nat.le_of_ble_eq_true rfl)
  have ne_la_mo : nq la mo := Ne.symm ne_mo_la
  have ne_mo_wo : nq mo wo := pw_ne hap 0 6 (by decide) (Nat.le_of_ble_eq_true rfl)
  have ne_wo_mo : nq wo mo := Ne.symm ne_mo_wo
  have ne_mo_op : nq mo op := pw_ne hap 0 7 (by decide) (Nat.le_of_ble_eq_true rfl)
  have ne_op_mo : nq op mo := Ne.symm ne_mo_op
  have ne_mo_mk : nq mo mk := pw_ne hap 0 8 (by decide) (Nat.le_of_ble_eq_true rfl)
  have ne_mk_mo : nq mk mo := Ne.symm ne_mo_mk
  have ne_mo_ir : nq mo ir := pw_ne hap 0 9 (by decide) (Nat.le_of_ble_eq_true rfl)
  have ne_ir_mo : nq ir mo := Ne.symm ne_mo_ir
  have ne_mo_se : nq mo se := pw_ne hap 0 10 (by decide) (Nat.le_of_ble_eq_true rfl)
  have ne_se_mo : nq se mo := Ne.symm ne_mo_se
  have ne_mo_ec : nq mo ec := pw_ne hap 0 11 (by decide) (Nat.le_of_ble_eq_true rfl)
  have ne_ec_mo : nq ec mo := Ne.symm ne_mo_ec
  have ne_mo_lc : nq mo lc := pw_ne hap 0 12 (by decide) (Nat.le_of_ble_eq_true rfl)
  have ne_lc_mo : nq lc mo := Ne.symm ne_mo_lc
  have ne_mo_wc : nq mo wc := pw_ne hap 0 13 (by decide) (Nat.le_of_ble_eq_true rfl)
  have ne_wc_mo : nq wc mo := Ne.symm ne_mo_wc
  have ne_mo_ol : nq mo ol := pw_ne hap 0 14 (by decide) (Nat.le_of_ble_eq_true rfl)
  have ne_ol_mo : nq ol mo := Ne.symm ne_mo_ol
  have ne_mo_al : nq mo al := pw_ne hap 0 15 (by decide) (Nat.le_of_ble_eq_true rfl)
  have ne_al_mo : nq al mo := Ne.symm ne_mo_al
  have ne_cn_ia : nq cn ia := pw_ne hap 1 2 (by decide) (Nat.le_of_ble_eq_true rfl)
  have ne_ia_cn : nq ia cn := Ne.symm ne_cn_ia
  have ne_cn_dr : nq cn dr := pw_ne hap 1 3 (by decide) (Nat.le_of_ble_eq_true rfl)
  have ne_dr_cn : nq dr cn := Ne.symm ne_cn_dr
  have ne_cn_en : nq cn en := pw_ne hap 1 4 (by decide) (Nat.le_of_ble_eq_true rfl)
  have ne_en_cn : nq en cn := Ne.symm ne_cn_en
  have ne_cn_la : nq cn la := pw_ne hap 1 5 (by decide) (Nat.le_of_ble_eq_true rfl)
  have ne_la_cn : nq la cn := Ne.symm ne_cn_la
  have ne_cn_wo : nq cn wo := pw_ne hap 1 6 (by decide) (Nat.le_of_ble_eq_true rfl)
  have ne_wo_cn : nq wo cn := Ne.symm ne_cn_wo
  have ne_cn_op : nq cn op := pw_ne hap 1 7 (by decide) (Nat.le_of_ble_eq_true rfl)
  have ne_op_cn : nq op cn := Ne.symm ne_cn_op
  have ne_cn_mk : nq cn mk := pw_ne hap 1 8 (by decide) (Nat.le_of_ble_eq_true rfl)
  have ne_mk_cn : nq mk cn := Ne.symm ne_cn_mk
  have ne_cn_ir : nq cn ir := pw_ne hap 1 9 (by decide) (Nat.le_of_ble_eq_true rfl)
  have ne_ir_cn : nq ir cn := Ne.symm ne_cn_ir
  have ne_cn_se : nq cn se := pw_ne hap 1 10 (by decide) (Nat.le_of_ble_eq_true rfl)
  have ne_se_cn : nq se cn := Ne.symm ne_cn_se
  have ne_cn_ec : nq cn ec := pw_ne hap 1 11 (by decide) (Nat.le_of_ble_eq_true rfl)
  have ne_ec_cn : nq ec cn := Ne.symm ne_cn_ec
  have ne_cn_lc : nq cn lc := pw_ne hap 1 12 (by decide) (Nat.le_of_ble_eq_true rfl)
  have ne_lc_cn : nq lc cn := Ne.symm ne_cn_lc
  have ne_cn_wc : nq cn wc := pw_ne hap 1 13 (by decide) (Nat.le_of_ble_eq_true rfl)
  have ne_wc_cn : nq wc cn := Ne.symm ne_cn_wc
  have ne_cn_ol : nq cn ol := pw_ne hap 1 14 (by decide) (Nat.le_of_ble_eq_true rfl)
  have ne_ol_cn : nq ol cn := Ne.symm ne_cn_ol
  have ne_cn_al : nq cn al := pw_ne hap 1 15 (by decide) (Nat.le_of_ble_eq_true rfl)
  have ne_al_cn : nq al cn := Ne.symm ne_cn_al
  have ne_ia_dr : nq ia dr := pw_ne hap 2 3 (by decide) (Nat.le_of_ble_eq_true rfl)
  have ne_dr_ia : nq dr ia := Ne.symm ne_ia_dr
  have ne_ia_en : nq ia en := pw_ne hap 2 4 (by decide) (Nat.le_of_ble_eq_true rfl)
  have ne_en_ia : nq en ia := Ne.symm ne_ia_en
  have ne_ia_la : nq ia la := pw_ne hap 2 5 (by decide) (Nat.le_of_ble_eq_true rfl)
  have ne_la_ia : nq la ia := Ne.symm ne_ia_la
  have ne_ia_wo : nq ia wo := pw_ne hap 2 6 (by decide) (Nat.le_of_ble_eq_true rfl)
  have ne_wo_ia : nq wo ia := Ne.symm ne_ia_wo
  have ne_ia_op : nq ia op := pw_ne hap 2 7 (by decide) (Nat.le_of_ble_eq_true rfl)
  have ne_op_ia : nq op ia := Ne.symm ne_ia_op
  have ne_ia_mk : nq ia mk := pw_ne hap 2 8 (by decide) (Nat.le_of_ble_eq_true rfl)
  have ne_mk_ia : nq mk ia := Ne.symm ne_ia_mk
  have ne_ia_ir : nq ia ir := pw_ne hap 2 9 (by decide) (Nat.le_of_ble_eq_true rfl)
  have ne_ir_ia : nq ir ia := Ne.symm ne_ia_ir
  have ne_ia_se : nq ia se := pw_ne hap 2 10 (by decide) (Nat.le_of_ble_eq_true rfl)
  have ne_se_ia : nq se ia := Ne.symm ne_ia_se
  have ne_ia_ec : nq ia ec := pw_ne hap 2 11 (by decide) (Nat.le_of_ble_eq_true rfl)
  have ne_ec_ia : nq ec ia := Ne.symm ne_ia_ec
  have ne_ia_lc : nq ia lc := pw_ne hap 2 12 (by decide) (Nat.le_of_ble_eq_true rfl)
  have ne_lc_ia : nq lc ia := Ne.symm ne_ia_lc
  have ne_ia_wc : nq ia wc := pw_ne hap 2 13 (by decide) (Nat.le_of_ble_eq_true rfl)
  have ne_wc_ia : nq wc ia := Ne.symm ne_ia_wc
  have ne_ia_ol : nq ia ol := pw_ne hap 2 14 (by decide) (Nat.le_of_ble_eq_true rfl)
  have ne_ol_ia : nq ol ia := Ne.symm ne_ia_ol
  have ne_ia_al : nq ia al := pw_ne hap 2 15 (by decide) (Nat.le_of_ble_eq_true rfl)
  have ne_al_ia : nq al ia := Ne.symm ne_ia_al
  have ne_dr_en : nq dr en := pw_ne hap 3 4 (by decide) (Nat.le_of_ble_eq_true rfl)
  have ne_en_dr : nq en dr := Ne.symm ne_dr_en
  have ne_dr_la : nq dr la := pw_ne hap 3 5 (by decide) (Nat.le_of_ble_eq_true rfl)
  have ne_la_dr : nq la dr := Ne.symm ne_dr_la
  have ne_dr_wo : nq dr wo := pw_ne hap 3 6 (by decide) (Nat.le_of_ble_eq_true rfl)
  have ne_wo_dr : nq wo dr := Ne.symm ne_dr_wo
  have ne_dr_op : nq dr op := pw_ne hap 3 7 (by decide) (Nat.le_of_ble_eq_true rfl)
  have ne_op_dr : nq op dr := Ne.symm ne_dr_op
  have ne_dr_mk : nq dr mk := pw_ne hap 3 8 (by decide) (Nat.le_of_ble_eq_true rfl)
  have ne_mk_dr : nq mk dr := Ne.symm ne_dr_mk
  have ne_dr_ir : nq dr ir := pw_ne hap 3 9 (by decide) (Nat.le_of_ble_eq_true rfl)
  have ne_ir_dr : nq ir dr := Ne.symm ne_dr_ir
  have ne_dr_se : nq dr se := pw_ne hap 3 10 (by decide) (Nat.le_of_ble_eq_true rfl)
  have ne_se_dr : nq se dr := Ne.symm ne_dr_se
  have ne_dr_ec : nq dr ec := pw_ne hap 3 11 (by decide) (Nat.le_of_ble_eq_true rfl)
  have ne_ec_dr : nq ec dr := Ne.symm ne_dr_ec
  have ne_dr_lc : nq dr lc := pw_ne hap 3 12 (by decide) (Nat.le_of_ble_eq_true rfl)
  have ne_lc_dr : nq lc dr := Ne.symm ne_dr_lc
  have ne_dr_wc : nq dr wc := pw_ne hap 3 13 (by decide) (Nat.le_of_ble_eq_true rfl)
  have ne_wc_dr : nq wc dr := Ne.symm ne_dr_wc
  have ne_dr_ol : nq dr ol := pw_ne hap 3 14 (by decide) (Nat.le_of_ble_eq_true rfl)
  have ne_ol_dr : nq ol dr := Ne.symm ne_dr_ol
  have ne_dr_al : nq dr al := pw_ne hap 3 15 (by decide) (Nat.le_of_ble_eq_true rfl)
  have ne_al_dr : nq al dr := Ne.symm ne_dr_al
  have ne_en_la : nq en la := pw_ne hap 4 5 (by decide) (Nat.le_of_ble_eq_true rfl)
  have ne_la_en : nq la en := Ne.symm ne_en_la
  have ne_en_wo : nq en wo := pw_ne hap 4 6 (by decide) (Nat.le_of_ble_eq_true rfl)
  have ne_wo_en : nq wo en := Ne.symm ne_en_wo
  have ne_en_op : nq en op := pw_ne hap 4 7 (by decide) (Nat.le_of_ble_eq_true rfl)
  have ne_op_en : nq op en := Ne.symm ne_en_op
  have ne_en_mk : nq en mk := pw_ne hap 4 8 (by decide) (Nat.le_of_ble_eq_true rfl)
  have ne_mk_en : nq mk en := Ne.symm ne_en_mk
  have ne_en_ir : nq en ir := pw_ne hap 4 9 (by decide) (Nat.le_of_ble_eq_true rfl)
  have ne_ir_en : nq ir en := Ne.symm ne_en_ir
  have ne_en_se : nq en se := pw_ne hap 4 10 (by decide) (Nat.le_of_ble_eq_true rfl)
  have ne_se_en : nq se en := Ne.symm ne_en_se
  have ne_en_ec : nq en ec := pw_ne hap 4 11 (by decide) (Nat.le_of_ble_eq_true rfl)
  have ne_ec_en : nq ec en := Ne.symm ne_en_ec
  have ne_en_lc : nq en lc := pw_ne hap 4 12 (by decide) (Nat.le_of_ble_eq_true rfl)
  have ne_lc_en : nq lc en := Ne.symm ne_en_lc
  have ne_en_wc : nq en wc := pw_ne hap 4 13 (by decide) (Nat.le_of_ble_eq_true rfl)
  have ne_wc_en : nq wc en := Ne.symm ne_en_wc
  have ne_en_ol : nq en ol := pw_ne hap 4 14 (by decide) (Nat.le_of_ble_eq_true rfl)
  have ne_ol_en : nq ol en := Ne.symm ne_en_ol
  have ne_en_al : nq en al := pw_ne hap 4 15 (by decide) (Nat.le_of_ble_eq_true rfl)
  have ne_al_en : nq al en := Ne.symm ne_en_al
  have ne_la_wo : nq la wo := pw_ne hap 5 6 (by decide) (Nat.le_of_ble_eq_true rfl)
  have ne_wo_la : nq wo la := Ne.symm ne_la_wo
  have ne_la_op : nq la op := pw_ne hap 5 7 (by decide) (Nat.le_of_ble_eq_true rfl)
  have ne_op_la : nq op la := Ne.symm ne_la_op
  have ne_la_mk : nq la mk := pw_ne hap 5 8 (by decide) (Nat.le_of_ble_eq_true rfl)
  have ne_mk_la : nq mk la := Ne.symm ne_la_mk
  have ne_la_ir : nq la ir := pw_ne hap 5 9 (by decide) (Nat.le_of_ble_eq_true rfl)
  have ne_ir_la : nq ir la := Ne.symm ne_la_ir
  have ne_la_se : nq la se := pw_ne hap 5 10 (by decide) (Nat.le_of_ble_eq_true rfl)
  have ne_se_la : nq se la := Ne.symm ne_la_se
  have ne_la_ec : nq la ec := pw_ne hap 5 11 (by decide) (Nat.le_of_ble_eq_true rfl)
  have ne_ec_la : nq ec la := Ne.symm ne_la_ec
  have ne_la_lc : nq la lc := pw_ne hap 5 12 (by decide) (Nat.le_of_ble_eq_true rfl)
  have ne_lc_la : nq lc la := Ne.symm ne_la_lc
  have ne_la_wc : nq la wc := pw_ne hap 5 13 (by decide) (Nat.le_of_ble_eq_true rfl)
  have ne_wc_la : nq wc la := Ne.symm ne_la_wc
  have ne_la_ol : nq la ol := pw_ne hap 5 14 (by decide) (Nat.le_of_ble_eq_true rfl)
  have ne_ol_la : nq ol la := Ne.symm ne_la_ol
  have ne_la_al : nq la al := pw_ne hap 5 15 (by decide) (Nat.le_of_ble_eq_true rfl)
  have ne_al_la : nq al la := Ne.symm ne_la_al
  have ne_wo_op : nq wo op := pw_ne hap 6 7 (by decide) (Nat.le_of_ble_eq_true rfl)
  have ne_op_wo : nq op wo := Ne.symm ne_wo_op
  have ne_wo_mk : nq wo mk := pw_ne hap 6 8 (by decide) (Nat.le_of_ble_eq_true rfl)
  have ne_mk_wo : nq mk wo := Ne.symm ne_wo_mk
  have ne_wo_ir : nq wo ir := pw_ne hap 6 9 (by decide) (Nat.le_of_ble_eq_true rfl)
  have ne_ir_wo : nq ir wo := Ne.symm ne_wo_ir
  have ne_wo_se : nq wo se := pw_ne hap 6 10 (by decide) (Nat.le_of_ble_eq_true rfl)
  have ne_se_wo : nq se wo := Ne.symm ne_wo_se
  have ne_wo_ec : nq wo ec := pw_ne hap 6 11 (by decide) (Nat.le_of_ble_eq_true rfl)
  have ne_ec_wo : nq ec wo := Ne.symm ne_wo_ec
  have ne_wo_lc : nq wo lc := pw_ne hap 6 12 (by decide) (Nat.le_of_ble_eq_true rfl)
  have ne_lc_wo : nq lc wo := Ne.symm ne_wo_lc
  have ne_wo_wc : nq wo wc := pw_ne hap 6 13 (by decide) (Nat.le_of_ble_eq_true rfl)
  have ne_wc_wo : nq wc wo := Ne.symm ne_wo_wc
  have ne_wo_ol : nq wo ol := pw_ne hap 6 14 (by decide) (Nat.le_of_ble_eq_true rfl)
  have ne_ol_wo : nq ol wo := Ne.symm ne_wo_ol
  have ne_wo_al : nq wo al := pw_ne hap 6 15 (by decide) (Nat.le_of_ble_eq_true rfl)
  have ne_al_wo : nq al wo := Ne.symm ne_wo_al
  have ne_op_mk : nq op mk := pw_ne hap 7 8 (by decide) (Nat.le_of_ble_eq_true rfl)
  have ne_mk_op : nq mk op := Ne.symm ne_op_mk
  have ne_op_ir : nq op ir := pw_ne hap 7 9 (by decide) (Nat.le_of_ble_eq_true rfl)
  have ne_ir_op : nq ir op := Ne.symm ne_op_ir
  have ne_op_se : nq op se := pw_ne hap 7 10 (by decide) (Nat.le_of_ble_eq_true rfl)
  have ne_se_op : nq se op := Ne.symm ne_op_se
  have ne_op_ec : nq op ec := pw_ne hap 7 11 (by decide) (Nat.le_of_ble_eq_true rfl)
  have ne_ec_op : nq ec op := Ne.symm ne_op_ec
  have ne_op_lc : nq op lc := pw_ne hap 7 12 (by decide) (Nat.le_of_ble_eq_true rfl)
  have ne_lc_op : nq lc op := Ne.symm ne_op_lc
  have ne_op_wc : nq op wc := pw_ne hap 7 13 (by decide) (Nat.le_of_ble_eq_true rfl)
  have ne_wc_op : nq wc op := Ne.symm ne_op_wc
  have ne_op_ol : nq op ol := pw_ne hap 7 14 (by decide) (Nat.le_of_ble_eq_true rfl)
  have ne_ol_op : nq ol op := Ne.symm ne_op_ol
  have ne_op_al : nq op al := pw_ne hap 7 15 (by decide) (Nat.le_of_ble_eq_true rfl)
  have ne_al_op : nq al op := Ne.symm ne_op_al
  have ne_mk_ir : nq mk ir := pw_ne hap 8 9 (by decide) (Nat.le_of_ble_eq_true rfl)
  have ne_ir_mk : nq ir mk := Ne.symm ne_mk_ir
  have ne_mk_se : nq mk se := pw_ne hap 8 10 (by decide) (Nat.le_of_ble_eq_true rfl)
  have ne_se_mk : nq se mk := Ne.symm ne_mk_se
  have ne_mk_ec : nq mk ec := pw_ne hap 8 11 (by decide) (Nat.le_of_ble_eq_true rfl)
  have ne_ec_mk : nq ec mk := Ne.symm ne_mk_ec
  have ne_mk_lc : nq mk lc := pw_ne hap 8 12 (by decide) (Nat.le_of_ble_eq_true rfl)
  have ne_lc_mk : nq lc mk := Ne.symm ne_mk_lc
  have ne_mk_wc : nq mk wc := pw_ne hap 8 13 (by decide) (Nat.le_of_ble_eq_true rfl)
  have ne_wc_mk : nq wc mk := Ne.symm ne_mk_wc
  have ne_mk_ol : nq mk ol := pw_ne hap 8 14 (by decide) (Nat.le_of_ble_eq_true rfl)
  have ne_ol_mk : nq ol mk := Ne.symm ne_mk_ol
  have ne_mk_al : nq mk al := pw_ne hap 8 15 (by decide) (Nat.le_of_ble_eq_true rfl)
  have ne_al_mk : nq al mk := Ne.symm ne_mk_al
  have ne_ir_se : nq ir se := pw_ne hap 9 10 (by decide) (Nat.le_of_ble_eq_true rfl)
  have ne_se_ir : nq se ir := Ne.symm ne_ir_se
  have ne_ir_ec : nq ir ec := pw_ne hap 9 11 (by decide) (Nat.le_of_ble_eq_true rfl)
  have ne_ec_ir : nq ec ir := Ne.symm ne_ir_ec
  have ne_ir_lc : nq ir lc := pw_ne hap 9 12 (by decide) (Nat.le_of_ble_eq_true rfl)
  have ne_lc_ir : nq lc ir := Ne.symm ne_ir_lc
  have ne_ir_wc : nq ir wc := pw_ne hap 9 13 (by decide) (Nat.le_of_ble_eq_true rfl)
  have ne_wc_ir : nq wc ir := Ne.symm ne_ir_wc
  have ne_ir_ol : nq ir ol := pw_ne hap 9 14 (by decide) (Nat.le_of_ble_eq_true rfl)
  have ne_ol_ir : nq ol ir := Ne.symm ne_ir_ol
  have ne_ir_al : nq ir al := pw_ne hap 9 15 (by decide) (Nat.le_of_ble_eq_true rfl)
  have ne_al_ir : nq al ir := Ne.symm ne_ir_al
  have ne_se_ec : nq se ec := pw_ne hap 10 11 (by decide) (Nat.le_of_ble_eq_true rfl)
  have ne_ec_se : nq ec se := Ne.symm ne_se_ec
  have ne_se_lc : nq se lc := pw_ne hap 10 12 (by decide) (Nat.le_of_ble_eq_true rfl)
  have ne_lc_se : nq lc se := Ne.symm ne_se_lc
  have ne_se_wc : nq se wc := pw_ne hap 10 13 (by decide) (Nat.le_of_ble_eq_true rfl)
  have ne_wc_se : nq wc se := Ne.symm ne_se_wc
  have ne_se_ol : nq se ol := pw_ne hap 10 14 (by decide) (Nat.le_of_ble_eq_true rfl)
  have ne_ol_se : nq ol se := Ne.symm ne_se_ol
  have ne_se_al : nq se al := pw_ne hap 10 15 (by decide) (Nat.le_of_ble_eq_true rfl)
  have ne_al_se : nq al se := Ne.symm ne_se_al
  have ne_ec_lc : nq ec lc := pw_ne hap 11 12 (by decide) (Nat.le_of_ble_eq_true rfl)
  have ne_lc_ec : nq lc ec := Ne.symm ne_ec_lc
  have ne_ec_wc : nq ec wc := pw_ne hap 11 13 (by decide) (Nat.le_of_ble_eq_true rfl)
  have ne_wc_ec : nq wc ec := Ne.symm ne_ec_wc
  have ne_ec_ol : nq ec ol := pw_ne hap 11 14 (by decide) (Nat.le_of_ble_eq_true rfl)
  have ne_ol_ec : nq ol ec := Ne.symm ne_ec_ol
  have ne_ec_al : nq ec al := pw_ne hap 11 15 (by decide) (Nat.le_of_ble_eq_true rfl)
  have ne_al_ec : nq al ec := Ne.symm ne_ec_al
  have ne_lc_wc : nq lc wc := pw_ne hap 12 13 (by decide) (Nat.le_of_ble_eq_true rfl)
  have ne_wc_lc : nq wc lc := Ne.symm ne_lc_wc
  have ne_lc_ol : nq lc ol := pw_ne hap 12 14 (by decide) (Nat.le_of_ble_eq_true rfl)
  have ne_ol_lc : nq ol lc := Ne.symm ne_lc_ol
  have ne_lc_al : nq lc al := pw_ne hap 12 15 (by decide) (Nat.le_of_ble_eq_true rfl)
  have ne_al_lc : nq al lc := Ne.symm ne_lc_al
  have ne_wc_ol : nq wc ol := pw_ne hap 13 14 (by decide) (Nat.le_of_ble_eq_true rfl)
  have ne_ol_wc : nq ol wc := Ne.symm ne_wc_ol
  have ne_wc_al : nq wc al := pw_ne hap 13 15 (by decide) (Nat.le_of_ble_eq_true rfl)
  have ne_al_wc : nq al wc := Ne.symm ne_wc_al
  have ne_ol_al : nq ol al := pw_ne hap 14 15 (by decide) (Nat.le_of_ble_eq_true rfl)
  have ne_al_ol : nq al ol := Ne.symm ne_ol_al
  have hkp : kpx (fun a => a ∈ [ia, dr, en, la, wo]) M M := kpx.refl _ _
  refine lv_aload_n hx hb dX6_copyNode_0 rfl (lv_at hl 0 rfl) ?_
  refine m_get (T := TX6) (N := 24) (ci := 6) (v := .ref ia) hx hb hts wX6 hown hK hm hM rfl 2 (by decide) f13 (fun _ h9 => h9) rfl dX6_copyNode_1 ?_
  refine lv_iload_n hx hb dX6_copyNode_4 rfl (lv_at hl 1 rfl) ?_
  refine lv_aload_n hx hb dX6_copyNode_5 rfl (lv_at hl 0 rfl) ?_
  refine m_get (T := TX6) (N := 24) (ci := 6) (v := .ref ia) hx hb hts wX6 hown hK hm hM rfl 2 (by decide) f13 (fun _ h9 => h9) rfl dX6_copyNode_6 ?_
  refine lv_iload_n hx hb dX6_copyNode_9 rfl (lv_at hl 2 rfl) ?_
  refine m_iald hx hb hK hm 0 hia rfl (vp_in_nI (by omega) (by decide)) dX6_copyNode_10 ?_
  refine m_iast hx hb hK hm hS 0 hia rfl (vp_in_nI (by omega) (by decide)) dX6_copyNode_11 (fun H locs hm hS => ?_)
  have hm : mm D (AZ z) (mu M ia (.inl (k 0, 3200, .inl (upd fia ((nI a9)).toNatClampNeg (fia ((nI b9)).toNatClampNeg))))) H := hm
  have hkp : kpx (fun a => a ∈ [ia, dr, en, la, wo]) M (mu M ia (.inl (k 0, 3200, .inl (upd fia ((nI a9)).toNatClampNeg (fia ((nI b9)).toNatClampNeg))))) := (hkp).self (by simp)
  refine lv_aload_n hx hb dX6_copyNode_12 rfl (lv_at hl 0 rfl) ?_
  refine m_get (T := TX6) (N := 24) (ci := 6) (v := .ref dr) hx hb hts wX6 hown hK hm ((mu_ne ne_mo_ia).trans hM) rfl 3 (by decide) f16 (fun _ h9 => h9) rfl dX6_copyNode_13 ?_
  refine lv_iload_n hx hb dX6_copyNode_16 rfl (lv_at hl 1 rfl) ?_
  refine lv_aload_n hx hb dX6_copyNode_17 rfl (lv_at hl 0 rfl) ?_
  refine m_get (T := TX6) (N := 24) (ci := 6) (v := .ref dr) hx hb hts wX6 hown hK hm ((mu_ne ne_mo_ia).trans hM) rfl 3 (by decide) f16 (fun _ h9 => h9) rfl dX6_copyNode_18 ?_
  refine lv_iload_n hx hb dX6_copyNode_21 rfl (lv_at hl 2 rfl) ?_
  refine m_zald hx hb hK hm 2 ((mu_ne ne_dr_ia).trans hdr) rfl (vp_in_nI (by omega) (by decide)) dX6_copyNode_22 ?_
  refine m_zast hx hb hK hm hS 2 ((mu_ne ne_dr_ia).trans hdr) rfl (vp_in_nI (by omega) (by decide)) dX6_copyNode_23 (fun H locs hm hS => ?_)
  have hm : mm D (AZ z) (mu (mu M ia (.inl (k 0, 3200, .inl (upd fia ((nI a9)).toNatClampNeg (fia ((nI b9)).toNatClampNeg))))) dr (.inl (k 2, 3200, .inl (upd fdr ((nI a9)).toNatClampNeg (vp_nar .boolean (fdr ((nI b9)).toNatClampNeg)))))) H := hm
  have hkp : kpx (fun a => a ∈ [ia, dr, en, la, wo]) M (mu (mu M ia (.inl (k 0, 3200, .inl (upd fia ((nI a9)).toNatClampNeg (fia ((nI b9)).toNatClampNeg))))) dr (.inl (k 2, 3200, .inl (upd fdr ((nI a9)).toNatClampNeg (vp_nar .boolean (fdr ((nI b9)).toNatClampNeg)))))) := (hkp).self (by simp)
  refine lv_aload_n hx hb dX6_copyNode_24 rfl (lv_at hl 0 rfl) ?_
  refine m_get (T := TX6) (N := 24) (ci := 6) (v := .ref la) hx hb hts wX6 hown hK hm ((mu_ne ne_mo_dr).trans ((mu_ne ne_mo_ia).trans hM)) rfl 5 (by decide) f24 (fun _ h9 => h9) rfl dX6_copyNode_25 ?_
  refine lv_iload_n hx hb dX6_copyNode_28 rfl (lv_at hl 1 rfl) ?_
  refine lv_aload_n hx hb dX6_copyNode_29 rfl (lv_at hl 0 rfl) ?_
  refine m_get (T := TX6) (N := 24) (ci := 6) (v := .ref la) hx hb hts wX6 hown hK hm ((mu_ne ne_mo_dr).trans ((mu_ne ne_mo_ia).trans hM)) rfl 5 (by decide) f24 (fun _ h9 => h9) rfl dX6_copyNode_30 ?_
  refine lv_iload_n hx hb dX6_copyNode_33 rfl (lv_at hl 2 rfl) ?_
  refine m_iald hx hb hK hm 0 ((mu_ne ne_la_dr).trans ((mu_ne ne_la_ia).trans hla)) rfl (vp_in_nI (by omega) (by decide)) dX6_copyNode_34 ?_
  obtain ⟨u1, hu1, eu1⟩ := hrL b9
  refine W.eq (g2 := F0 m 35 ls [.int (nI u1), .int (nI a9), .ref la]) (by rw [show (fla ((nI b9)).toNatClampNeg) = nI u1 from (congrArg fla (show ((nI b9)).toNatClampNeg = b9 from nI_clamp (by omega))).trans eu1]) ?_
  have hb_u1 := hu1
  have hu1 : u1 ≤ 64 := hu1
  refine m_iast hx hb hK hm hS 0 ((mu_ne ne_la_dr).trans ((mu_ne ne_la_ia).trans hla)) rfl (vp_in_nI (by omega) (by decide)) dX6_copyNode_35 (fun H locs hm hS => ?_)
  have hrL : rng bL (upd fla ((nI a9)).toNatClampNeg (nI u1)) := (hrL).up _ u1 (show u1 ≤ 64 by omega)
  have hm : mm D (AZ z) (mu (mu (mu M ia (.inl (k 0, 3200, .inl (upd fia ((nI a9)).toNatClampNeg (fia ((nI b9)).toNatClampNeg))))) dr (.inl (k 2, 3200, .inl (upd fdr ((nI a9)).toNatClampNeg (vp_nar .boolean (fdr ((nI b9)).toNatClampNeg)))))) la (.inl (k 0, 3200, .inl (upd fla ((nI a9)).toNatClampNeg (nI u1))))) H := hm
  have hkp : kpx (fun a => a ∈ [ia, dr, en, la, wo]) M (mu (mu (mu M ia (.inl (k 0, 3200, .inl (upd fia ((nI a9)).toNatClampNeg (fia ((nI b9)).toNatClampNeg))))) dr (.inl (k 2, 3200, .inl (upd fdr ((nI a9)).toNatClampNeg (vp_nar .boolean (fdr ((nI b9)).toNatClampNeg)))))) la (.inl (k 0, 3200, .inl (upd fla ((nI a9)).toNatClampNeg (nI u1))))) := (hkp).self (by simp)
  refine lv_iconst (v := 0) hx hb dX6_copyNode_36 (by decide) ?_
  refine lv_istore_n (lv' := [(3, .int 0), (0, .ref mo), (1, .int (nI a9)), (2, .int (nI b9))]) hx hb dX6_copyNode_37 rfl hl (by decide) rfl (fun ls hl => ?_)
  have hI0 : mI k (mu (mu (mu M ia (.inl (k 0, 3200, .inl (upd fia ((nI a9)).toNatClampNeg (fia ((nI b9)).toNatClampNeg))))) dr (.inl (k 2, 3200, .inl (upd fdr ((nI a9)).toNatClampNeg (vp_nar .boolean (fdr ((nI b9)).toNatClampNeg)))))) la (.inl (k 0, 3200, .inl (upd fla ((nI a9)).toNatClampNeg (nI u1))))) mo cn ia dr en la wo op mk ir se ec lc wc ol al dn md := ⟨_, _, _, _, _, _, _, fcn, (upd fia ((nI a9)).toNatClampNeg (fia ((nI b9)).toNatClampNeg)), (upd fdr ((nI a9)).toNatClampNeg (vp_nar .boolean (fdr ((nI b9)).toNatClampNeg))), fen, (upd fla ((nI a9)).toNatClampNeg (nI u1)), fwo, fop, fmk, fir, fse, fec, flc, fol, fal, fwc, hap, ((mu_ne ne_mo_la).trans ((mu_ne ne_mo_dr).trans ((mu_ne ne_mo_ia).trans hM))), hmd, ⟨hrC, hrL, hrM⟩, ((mu_ne ne_cn_la).trans ((mu_ne ne_cn_dr).trans ((mu_ne ne_cn_ia).trans hcn))), ((mu_ne ne_ia_la).trans ((mu_ne ne_ia_dr).trans (mu_self _ _ _))), ((mu_ne ne_dr_la).trans (mu_self _ _ _)), ((mu_ne ne_en_la).trans ((mu_ne ne_en_dr).trans ((mu_ne ne_en_ia).trans hen))), (mu_self _ _ _), ((mu_ne ne_wo_la).trans ((mu_ne ne_wo_dr).trans ((mu_ne ne_wo_ia).trans hwo))), ((mu_ne ne_op_la).trans ((mu_ne ne_op_dr).trans ((mu_ne ne_op_ia).trans hop))), ((mu_ne ne_mk_la).trans ((mu_ne ne_mk_dr).trans ((mu_ne ne_mk_ia).trans hmk))), ((mu_ne ne_ir_la).trans ((mu_ne ne_ir_dr).trans ((mu_ne ne_ir_ia).trans hir))), ((mu_ne ne_se_la).trans ((mu_ne ne_se_dr).trans ((mu_ne ne_se_ia).trans hse))), ((mu_ne ne_ec_la).trans ((mu_ne ne_ec_dr).trans ((mu_ne ne_ec_ia).trans hec))), ((mu_ne ne_lc_la).trans ((mu_ne ne_lc_dr).trans ((mu_ne ne_lc_ia).trans hlc))), ((mu_ne ne_wc_la).trans ((mu_ne ne_wc_dr).trans ((mu_ne ne_wc_ia).trans hwc))), ((mu_ne ne_ol_la).trans ((mu_ne ne_ol_dr).trans ((mu_ne ne_ol_ia).trans hol))), ((mu_ne ne_al_la).trans ((mu_ne ne_al_dr).trans ((mu_ne ne_al_ia).trans hal)))⟩
  refine W_loop (σ := Nat × mM) (fun ⟨j, Mj⟩ H locs ls => (j ≤ 16) ∧ mI k Mj mo cn ia dr en la wo op mk ir se ec lc wc ol al dn md ∧ kpx (fun a => a ∈ [ia, dr, en, la, wo]) M Mj ∧ mm D (AZ z) Mj H ∧ va_S (AZ z) s.heap H locs ∧ lv_has ls 4 [(3, .int (nI j)), (0, .ref mo), (1, .int (nI a9)), (2, .int (nI b9))]) (fun ⟨j, Mj⟩ => 16 - j) (fun _ => 0) (fun _ => 0) ?_ (0, (mu (mu (mu M ia (.inl (k 0, 3200, .inl (upd fia ((nI a9)).toNatClampNeg (fia ((nI b9)).toNatClampNeg))))) dr (.inl (k 2, 3200, .inl (upd fdr ((nI a9)).toNatClampNeg (vp_nar .boolean (fdr ((nI b9)).toNatClampNeg)))))) la (.inl (k 0, 3200, .inl (upd fla ((nI a9)).toNatClampNeg (nI u1)))))) _ _ _ ⟨Nat.zero_le _, hI0, hkp, hm, hS, lv_sub hl [0, 1, 2, 3] rfl⟩
  intro ⟨j, Mj⟩ H locs ls hQ ih38
  obtain ⟨hj, hI, hkp, hm, hS, hl⟩ := hQ
  try dsimp only at hm hl ih38 ⊢
  obtain ⟨cd, ni, pw, cm, wr, cs, hm9, fcn, fia, fdr, fen, fla, fwo, fop, fmk, fir, fse, fec, flc, fol, fal, fwc, hap, hM, hmd, ⟨hrC, hrL, hrM⟩, hcn, hia, hdr, hen, hla, hwo, hop, hmk, hir, hse, hec, hlc, hwc, hol, hal⟩ := id hI
  have ne_mo_cn : nq mo cn := pw_ne hap 0 1 (by decide) (Nat.le_of_ble_eq_true rfl)
  have ne_cn_mo : nq cn mo := Ne.symm ne_mo_cn
  have ne_mo_ia : nq mo ia := pw_ne hap 0 2 (by decide) (Nat.le_of_ble_eq_true rfl)
  have ne_ia_mo : nq ia mo := Ne.symm ne_mo_ia
  have ne_mo_dr : nq mo dr := pw_ne hap 0 3 (by decide) (Nat.le_of_ble_eq_true rfl)
  have ne_dr_mo : nq dr mo := Ne.symm ne_mo_dr
  have ne_mo_en : nq mo en := pw_ne hap 0 4 (by decide) (Nat.le_of_ble_eq_true rfl)
  have ne_en_mo : nq en mo := Ne.symm ne_mo_en
  have ne_mo_la : nq mo la := pw_ne hap 0 5 (by decide) (Nat.le_of_ble_eq_true rfl)
  have ne_la_mo : nq la mo := Ne.symm ne_mo_la
  have ne_mo_wo : nq mo wo := pw_ne hap 0 6 (by decide) (Nat.le_of_ble_eq_true rfl)
  have ne_wo_mo : nq wo mo := Ne.symm ne_mo_wo
  have ne_mo_op : nq mo op := pw_ne hap 0 7 (by decide) (Nat.le_of_ble_eq_true rfl)
  have ne_op_mo : nq op mo := Ne.symm ne_mo_op
  have ne_mo_mk : nq mo mk := pw_ne hap 0 8 (by decide) (Nat.le_of_ble_eq_true rfl)
  have ne_mk_mo : nq mk mo := Ne.symm ne_mo_mk
  have ne_mo_ir : nq mo ir := pw_ne hap 0 9 (by decide) (Nat.le_of_ble_eq_true rfl)
  have ne_ir_mo : nq ir mo := Ne.symm ne_mo_ir
  have ne_mo_se : nq mo se := pw_ne hap 0 10 (by decide) (Nat.le_of_ble_eq_true rfl)
  have ne_se_mo : nq se mo := Ne.symm ne_mo_se
  have ne_mo_ec : nq mo ec := pw_ne hap 0 11 (by decide) (Nat.le_of_ble_eq_true rfl)
  have ne_ec_mo : nq ec mo := Ne.symm ne_mo_ec
  have ne_mo_lc : nq mo lc := pw_ne hap 0 12 (by decide) (Nat.le_of_ble_eq_true rfl)
  have ne_lc_mo : nq lc mo := Ne.symm ne_mo_lc
  have ne_mo_wc : nq mo wc := pw_ne hap 0 13 (by decide) (Nat.le_of_ble_eq_true rfl)
  have ne_wc_mo : nq wc mo := Ne.symm ne_mo_wc
  have ne_mo_ol : nq mo ol := pw_ne hap 0 14 (by decide) (Nat.le_of_ble_eq_true rfl)
  have ne_ol_mo : nq ol mo := Ne.symm ne_mo_ol
  have ne_mo_al : nq mo al := pw_ne hap 0 15 (by decide) (Nat.le_of_ble_eq_true rfl)
  have ne_al_mo : nq al mo := Ne.symm ne_mo_al
  have ne_cn_ia : nq cn ia := pw_ne hap 1 2 (by decide) (Nat.le_of_ble_eq_true rfl)
  have ne_ia_cn : nq ia cn := Ne.symm ne_cn_ia
  have ne_cn_dr : nq cn dr := pw_ne hap 1 3 (by decide) (Nat.le_of_ble_eq_true rfl)
  have ne_dr_cn : nq dr cn := Ne.symm ne_cn_dr
  have ne_cn_en : nq cn en := pw_ne hap 1 4 (by decide) (Nat.le_of_ble_eq_true rfl)
  have ne_en_cn : nq en cn := Ne.symm ne_cn_en
  have ne_cn_la : nq cn la := pw_ne hap 1 5 (by decide) (Nat.le_of_ble_eq_true rfl)
  have ne_la_cn : nq la cn := Ne.symm ne_cn_la
  have ne_cn_wo : nq cn wo := pw_ne hap 1 6 (by decide) (Nat.le_of_ble_eq_true rfl)
  have ne_wo_cn : nq wo cn := Ne.symm ne_cn_wo
  have ne_cn_op : nq cn op := pw_ne hap 1 7 (by decide) (Nat.le_of_ble_eq_true rfl)
  have ne_op_cn : nq op cn := Ne.symm ne_cn_op
  have ne_cn_mk : nq cn mk := pw_ne hap 1 8 (by decide) (Nat.le_of_ble_eq_true rfl)
  have ne_mk_cn : nq mk cn := Ne.symm ne_cn_mk
  have ne_cn_ir : nq cn ir := pw_ne hap 1 9 (by decide) (Nat.le_of_ble_eq_true rfl)
  have ne_ir_cn : nq ir cn := Ne.symm ne_cn_ir
  have ne_cn_se : nq cn se := pw_ne hap 1 10 (by decide) (Nat.le_of_ble_eq_true rfl)
  have ne_se_cn : nq se cn := Ne.symm ne_cn_se
  have ne_cn_ec : nq cn ec := pw_ne hap 1 11 (by decide) (Nat.le_of_ble_eq_true rfl)
  have ne_ec_cn : nq ec cn := Ne.symm ne_cn_ec
  have ne_cn_lc : nq cn lc := pw_ne hap 1 12 (by decide) (Nat.le_of_ble_eq_true rfl)
  have ne_lc_cn : nq lc cn := Ne.symm ne_cn_lc
  have ne_cn_wc : nq cn wc := pw_ne hap 1 13 (by decide) (Nat.le_of_ble_eq_true rfl)
  have ne_wc_cn : nq wc cn := Ne.symm ne_cn_wc
  have ne_cn_ol : nq cn ol := pw_ne hap 1 14 (by decide) (Nat.le_of_ble_eq_true rfl)
  have ne_ol_cn : nq ol cn := Ne.symm ne_cn_ol
  have ne_cn_al : nq cn al := pw_ne hap 1 15 (by decide) (Nat.le_of_ble_eq_true rfl)
  have ne_al_cn : nq al cn := Ne.symm ne_cn_al
  have ne_ia_dr : nq ia dr := pw_ne hap 2 3 (by decide) (Nat.le_of_ble_eq_true rfl)
  have ne_dr_ia : nq dr ia := Ne.symm ne_ia_dr
  have ne_ia_en : nq ia en := pw_ne hap 2 4 (by decide) (Nat.le_of_ble_eq_true rfl)
  have ne_en_ia : nq en ia := Ne.symm ne_ia_en
  have ne_ia_la : nq ia la := pw_ne hap 2 5 (by decide) (Nat.le_of_ble_eq_true rfl)
  have ne_la_ia : nq la ia := Ne.symm ne_ia_la
  have ne_ia_wo : nq ia wo := pw_ne hap 2 6 (by decide) (Nat.le_of_ble_eq_true rfl)
  have ne_wo_ia : nq wo ia := Ne.symm ne_ia_wo
  have ne_ia_op : nq ia op := pw_ne hap 2 7 (by decide) (Nat.le_of_ble_eq_true rfl)
  have ne_op_ia : nq op ia := Ne.symm ne_ia_op
  have ne_ia_mk : nq ia mk := pw_ne hap 2 8 (by decide) (Nat.le_of_ble_eq_true rfl)
  have ne_mk_ia : nq mk ia := Ne.symm ne_ia_mk
  have ne_ia_ir : nq ia ir := pw_ne hap 2 9 (by decide) (Nat.le_of_ble_eq_true rfl)
  have ne_ir_ia : nq ir ia := Ne.symm ne_ia_ir
  have ne_ia_se : nq ia se := pw_ne hap 2 10 (by decide) (Nat.le_of_ble_eq_true rfl)
  have ne_se_ia : nq se ia := Ne.symm ne_ia_se
  have ne_ia_ec : nq ia ec := pw_ne hap 2 11 (by decide) (Nat.le_of_ble_eq_true rfl)
  have ne_ec_ia : nq ec ia := Ne.symm ne_ia_ec
  have ne_ia_lc : nq ia lc := pw_ne hap 2 12 (by decide) (Nat.le_of_ble_eq_true rfl)
  have ne_lc_ia : nq lc ia := Ne.symm ne_ia_lc
  have ne_ia_wc : nq ia wc := pw_ne hap 2 13 (by decide) (Nat.le_of_ble_eq_true rfl)
  have ne_wc_ia : nq wc ia := Ne.symm ne_ia_wc
  have ne_ia_ol : nq ia ol := pw_ne hap 2 14 (by decide) (Nat.le_of_ble_eq_true rfl)
  have ne_ol_ia : nq ol ia := Ne.symm ne_ia_ol
  have ne_ia_al : nq ia al := pw_ne hap 2 15 (by decide) (Nat.le_of_ble_eq_true rfl)
  have ne_al_ia : nq al ia := Ne.symm ne_ia_al
  have ne_dr_en : nq dr en := pw_ne hap 3 4 (by decide) (Nat.le_of_ble_eq_true rfl)
  have ne_en_dr : nq en dr := Ne.symm ne_dr_en
  have ne_dr_la : nq dr la := pw_ne hap 3 5 (by decide) (Nat.le_of_ble_eq_true rfl)
  have ne_la_dr : nq la dr := Ne.symm ne_dr_la
  have ne_dr_wo : nq dr wo := pw_ne hap 3 6 (by decide) (Nat.le_of_ble_eq_true rfl)
  have ne_wo_dr : nq wo dr := Ne.symm ne_dr_wo
  have ne_dr_op : nq dr op := pw_ne hap 3 7 (by decide) (Nat.le_of_ble_eq_true rfl)
  have ne_op_dr : nq op dr := Ne.symm ne_dr_op
  have ne_dr_mk : nq dr mk := pw_ne hap 3 8 (by decide) (Nat.le_of_ble_eq_true rfl)
  have ne_mk_dr : nq mk dr := Ne.symm ne_dr_mk
  have ne_dr_ir : nq dr ir := pw_ne hap 3 9 (by decide) (Nat.le_of_ble_eq_true rfl)
  have ne_ir_dr : nq ir dr := Ne.symm ne_dr_ir
  have ne_dr_se : nq dr se := pw_ne hap 3 10 (by decide) (Nat.le_of_ble_eq_true rfl)
  have ne_se_dr : nq se dr := Ne.symm ne_dr_se
  have ne_dr_ec : nq dr ec := pw_ne hap 3 11 (by decide) (Nat.le_of_ble_eq_true rfl)
  have ne_ec_dr : nq ec dr := Ne.symm ne_dr_ec
  have ne_dr_lc : nq dr lc := pw_ne hap 3 12 (by decide) (Nat.le_of_ble_eq_true rfl)
  have ne_lc_dr : nq lc dr := Ne.symm ne_dr_lc
  have ne_dr_wc : nq dr wc := pw_ne hap 3 13 (by decide) (Nat.le_of_ble_eq_true rfl)
  have ne_wc_dr : nq wc dr := Ne.symm ne_dr_wc
  have ne_dr_ol : nq dr ol := pw_ne hap 3 14 (by decide) (Nat.le_of_ble_eq_true rfl)
  have ne_ol_dr : nq ol dr := Ne.symm ne_dr_ol
  have ne_dr_al : nq dr al := pw_ne hap 3 15 (by decide) (Nat.le_of_ble_eq_true rfl)
  have ne_al_dr : nq al dr := Ne.symm ne_dr_al
  have ne_en_la : nq en la := pw_ne hap 4 5 (by decide) (Nat.le_of_ble_eq_true rfl)
  have ne_la_en : nq la en := Ne.symm ne_en_la
  have ne_en_wo : nq en wo := pw_ne hap 4 6 (by decide) (Nat.le_of_ble_eq_true rfl)
  have ne_wo_en : nq wo en := Ne.symm ne_en_wo
  have ne_en_op : nq en op := pw_ne hap 4 7 (by decide) (Nat.le_of_ble_eq_true rfl)
  have ne_op_en : nq op en := Ne.symm ne_en_op
  have ne_en_mk : nq en mk := pw_ne hap 4 8 (by decide) (Nat.le_of_ble_eq_true rfl)
  have ne_mk_en : nq mk en := Ne.symm ne_en_mk
  have ne_en_ir : nq en ir := pw_ne hap 4 9 (by decide) (Nat.le_of_ble_eq_true rfl)
  have ne_ir_en : nq ir en := Ne.symm ne_en_ir
  have ne_en_se : nq en se := pw_ne hap 4 10 (by decide) (Nat.le_of_ble_eq_true rfl)
  have ne_se_en : nq se en := Ne.symm ne_en_se
  have ne_en_ec : nq en ec := pw_ne hap 4 11 (by decide) (Nat.le_of_ble_eq_true rfl)
  have ne_ec_en : nq ec en := Ne.symm ne_en_ec
  have ne_en_lc : nq en lc := pw_ne hap 4 12 (by decide) (Nat.le_of_ble_eq_true rfl)
  have ne_lc_en : nq lc en := Ne.symm ne_en_lc
  have ne_en_wc : nq en wc := pw_ne hap 4 13 (by decide) (Nat.le_of_ble_eq_true rfl)
  have ne_wc_en : nq wc en := Ne.symm ne_en_wc
  have ne_en_ol : nq en ol := pw_ne hap 4 14 (by decide) (Nat.le_of_ble_eq_true rfl)
  have ne_ol_en : nq ol en := Ne.symm ne_en_ol
  have ne_en_al : nq en al := pw_ne hap 4 15 (by decide) (Nat.le_of_ble_eq_true rfl)
  have ne_al_en : nq al en := Ne.symm ne_en_al
  have ne_la_wo : nq la wo := pw_ne hap 5 6 (by decide) (Nat.le_of_ble_eq_true rfl)
  have ne_wo_la : nq wo la := Ne.symm ne_la_wo
  have ne_la_op : nq la op := pw_ne hap 5 7 (by decide) (Nat.le_of_ble_eq_true rfl)
  have ne_op_la : nq op la := Ne.symm ne_la_op
  have ne_la_mk : nq la mk := pw_ne hap 5 8 (by decide) (Nat.le_of_ble_eq_true rfl)
  have ne_mk_la : nq mk la := Ne.symm ne_la_mk
  have ne_la_ir : nq la ir := pw_ne hap 5 9 (by decide) (Nat.le_of_ble_eq_true rfl)
  have ne_ir_la : nq ir la := Ne.symm ne_la_ir
  have ne_la_se : nq la se := pw_ne hap 5 10 (by decide) (Nat.le_of_ble_eq_true rfl)
  have ne_se_la : nq se la := Ne.symm ne_la_se
  have ne_la_ec : nq la ec := pw_ne hap 5 11 (by decide) (Nat.le_of_ble_eq_true rfl)
  have ne_ec_la : nq ec la := Ne.symm ne_la_ec
  have ne_la_lc : nq la lc := pw_ne hap 5 12 (by decide) (Nat.le_of_ble_eq_true rfl)
  have ne_lc_la : nq lc la := Ne.symm ne_la_lc
  have ne_la_wc : nq la wc := pw_ne hap 5 13 (by decide) (Nat.le_of_ble_eq_true rfl)
  have ne_wc_la : nq wc la := Ne.symm ne_la_wc
  have ne_la_ol : nq la ol := pw_ne hap 5 14 (by decide) (Nat.le_of_ble_eq_true rfl)
  have ne_ol_la : nq ol la := Ne.symm ne_la_ol
  have ne_la_al : nq la al := pw_ne hap 5 15 (by decide) (Nat.le_of_ble_eq_true rfl)
  have ne_al_la : nq al la := Ne.symm ne_la_al
  have ne_wo_op : nq wo op := pw_ne hap 6 7 (by decide) (Nat.le_of_ble_eq_true rfl)
  have ne_op_wo : nq op wo := Ne.symm ne_wo_op
  have ne_wo_mk : nq wo mk := pw_ne hap 6 8 (by decide) (Nat.le_of_ble_eq_true rfl)
  have ne_mk_wo : nq mk wo := Ne.symm ne_wo_mk
  have ne_wo_ir : nq wo ir := pw_ne hap 6 9 (by decide) (Nat.le_of_ble_eq_true rfl)
  have ne_ir_wo : nq ir wo := Ne.symm ne_wo_ir
  have ne_wo_se : nq wo se := pw_ne hap 6 10 (by decide) (Nat.le_of_ble_eq_true rfl)
  have ne_se_wo : nq se wo := Ne.symm ne_wo_se
  have ne_wo_ec : nq wo ec := pw_ne hap 6 11 (by decide) (Nat.le_of_ble_eq_true rfl)
  have ne_ec_wo : nq ec wo := Ne.symm ne_wo_ec
  have ne_wo_lc : nq wo lc := pw_ne hap 6 12 (by decide) (Nat.le_of_ble_eq_true rfl)
  have ne_lc_wo : nq lc wo := Ne.symm ne_wo_lc
  have ne_wo_wc : nq wo wc := pw_ne hap 6 13 (by decide) (Nat.le_of_ble_eq_true rfl)
  have ne_wc_wo : nq wc wo := Ne.symm ne_wo_wc
  have ne_wo_ol : nq wo ol := pw_ne hap 6 14 (by decide) (Nat.le_of_ble_eq_true rfl)
  have ne_ol_wo : nq ol wo := Ne.symm ne_wo_ol
  have ne_wo_al : nq wo al := pw_ne hap 6 15 (by decide) (Nat.le_of_ble_eq_true rfl)
  have ne_al_wo : nq al wo := Ne.symm ne_wo_al
  have ne_op_mk : nq op mk := pw_ne hap 7 8 (by decide) (Nat.le_of_ble_eq_true rfl)
  have ne_mk_op : nq mk op := Ne.symm ne_op_mk
  have ne_op_ir : nq op ir := pw_ne hap 7 9 (by decide) (Nat.le_of_ble_eq_true rfl)
  have ne_ir_op : nq ir op := Ne.symm ne_op_ir
  have ne_op_se : nq op se := pw_ne hap 7 10 (by decide) (Nat.le_of_ble_eq_true rfl)
  have ne_se_op : nq se op := Ne.symm ne_op_se
  have ne_op_ec : nq op ec := pw_ne hap 7 11 (by decide) (Nat.le_of_ble_eq_true rfl)
  have ne_ec_op : nq ec op := Ne.symm ne_op_ec
  have ne_op_lc : nq op lc := pw_ne hap 7 12 (by decide) (Nat.le_of_ble_eq_true rfl)
  have ne_lc_op : nq lc op := Ne.symm ne_op_lc
  have ne_op_wc : nq op wc := pw_ne hap 7 13 (by decide) (Nat.le_of_ble_eq_true rfl)
  have ne_wc_op : nq wc op := Ne.symm ne_op_wc
  have ne_op_ol : nq op ol := pw_ne hap 7 14 (by decide) (Nat.le_of_ble_eq_true rfl)
  have ne_ol_op : nq ol op := Ne.symm ne_op_ol
  have ne_op_al : nq op al := pw_ne hap 7 15 (by decide) (Nat.le_of_ble_eq_true rfl)
  have ne_al_op : nq al op := Ne.symm ne_op_al
  have ne_mk_ir : nq mk ir := pw_ne hap 8 9 (by decide) (Nat.le_of_ble_eq_true rfl)
  have ne_ir_mk : nq ir mk := Ne.symm ne_mk_ir
  have ne_mk_se : nq mk se := pw_ne hap 8 10 (by decide) (Nat.le_of_ble_eq_true rfl)
  have ne_se_mk : nq se mk := Ne.symm ne_mk_se
  have ne_mk_ec : nq mk ec := pw_ne hap 8 11 (by decide) (Nat.le_of_ble_eq_true rfl)
  have ne_ec_mk : nq ec mk := Ne.symm ne_mk_ec
  have ne_mk_lc : nq mk lc := pw_ne hap 8 12 (by decide) (Nat.le_of_ble_eq_true rfl)
  have ne_lc_mk : nq lc mk := Ne.symm ne_mk_lc
  have ne_mk_wc : nq mk wc := pw_ne hap 8 13 (by decide) (Nat.le_of_ble_eq_true rfl)
  have ne_wc_mk : nq wc mk := Ne.symm ne_mk_wc
  have ne_mk_ol : nq mk ol := pw_ne hap 8 14 (by decide) (Nat.le_of_ble_eq_true rfl)
  have ne_ol_mk : nq ol mk := Ne.symm ne_mk_ol
  have ne_mk_al : nq mk al := pw_ne hap 8 15 (by decide) (Nat.le_of_ble_eq_true rfl)
  have ne_al_mk : nq al mk := Ne.symm ne_mk_al
  have ne_ir_se : nq ir se := pw_ne hap 9 10 (by decide) (Nat.le_of_ble_eq_true rfl)
  have ne_se_ir : nq se ir := Ne.symm ne_ir_se
  have ne_ir_ec : nq ir ec := pw_ne hap 9 11 (by decide) (Nat.le_of_ble_eq_true rfl)
  have ne_ec_ir : nq ec ir := Ne.symm ne_ir_ec
  have ne_ir_lc : nq ir lc := pw_ne hap 9 12 (by decide) (Nat.le_of_ble_eq_true rfl)
  have ne_lc_ir : nq lc ir := Ne.symm ne_ir_lc
  have ne_ir_wc : nq ir wc := pw_ne hap 9 13 (by decide) (Nat.le_of_ble_eq_true rfl)
  have ne_wc_ir : nq wc ir := Ne.symm ne_ir_wc
  have ne_ir_ol : nq ir ol := pw_ne hap 9 14 (by decide) (Nat.le_of_ble_eq_true rfl)
  have ne_ol_ir : nq ol ir := Ne.symm ne_ir_ol
  have ne_ir_al : nq ir al := pw_ne hap 9 15 (by decide) (Nat.le_of_ble_eq_true rfl)
  have ne_al_ir : nq al ir := Ne.symm ne_ir_al
  have ne_se_ec : nq se ec := pw_ne hap 10 11 (by decide) (Nat.le_of_ble_eq_true rfl)
  have ne_ec_se : nq ec se := Ne.symm ne_se_ec
  have ne_se_lc : nq se lc := pw_ne hap 10 12 (by decide) (Nat.le_of_ble_eq_true rfl)
  have ne_lc_se : nq lc se := Ne.symm ne_se_lc
  have ne_se_wc : nq se wc := pw_ne hap 10 13 (by decide) (Nat.le_of_ble_eq_true rfl)
  have ne_wc_se : nq wc se := Ne.symm ne_se_wc
  have ne_se_ol : nq se ol := pw_ne hap 10 14 (by decide) (Nat.le_of_ble_eq_true rfl)
  have ne_ol_se : nq ol se := Ne.symm ne_se_ol
  have ne_se_al : nq se al := pw_ne hap 10 15 (by decide) (Nat.le_of_ble_eq_true rfl)
  have ne_al_se : nq al se := Ne.symm ne_se_al
  have ne_ec_lc : nq ec lc := pw_ne hap 11 12 (by decide) (Nat.le_of_ble_eq_true rfl)
  have ne_lc_ec : nq lc ec := Ne.symm ne_ec_lc
  have ne_ec_wc : nq ec wc := pw_ne hap 11 13 (by decide) (Nat.le_of_ble_eq_true rfl)
  have ne_wc_ec : nq wc ec := Ne.symm ne_ec_wc
  have ne_ec_ol : nq ec ol := pw_ne hap 11 14 (by decide) (Nat.le_of_ble_eq_true rfl)
  have ne_ol_ec : nq ol ec := Ne.symm ne_ec_ol
  have ne_ec_al : nq ec al := pw_ne hap 11 15 (by decide) (Nat.le_of_ble_eq_true rfl)
  have ne_al_ec : nq al ec := Ne.symm ne_ec_al
  have ne_lc_wc : nq lc wc := pw_ne hap 12 13 (by decide) (Nat.le_of_ble_eq_true rfl)
  have ne_wc_lc : nq wc lc := Ne.symm ne_lc_wc
  have ne_lc_ol : nq lc ol := pw_ne hap 12 14 (by decide) (Nat.le_of_ble_eq_true rfl)
  have ne_ol_lc : nq ol lc := Ne.symm ne_lc_ol
  have ne_lc_al : nq lc al := pw_ne hap 12 15 (by decide) (Nat.le_of_ble_eq_true rfl)
  have ne_al_lc : nq al lc := Ne.symm ne_lc_al
  have ne_wc_ol : nq wc ol := pw_ne hap 13 14 (by decide) (Nat.le_of_ble_eq_true rfl)
  have ne_ol_wc : nq ol wc := Ne.symm ne_wc_ol
  have ne_wc_al : nq wc al := pw_ne hap 13 15 (by decide) (Nat.le_of_ble_eq_true rfl)
  have ne_al_wc : nq al wc := Ne.symm ne_wc_al
  have ne_ol_al : nq ol al := pw_ne hap 14 15 (by decide) (Nat.le_of_ble_eq_true rfl)
  have ne_al_ol : nq al ol := Ne.symm ne_ol_al
  refine lv_iload_n hx hb dX6_copyNode_38 rfl (lv_at hl 0 rfl) ?_
  refine lv_bipush (v := 16) hx hb dX6_copyNode_39 (by decide) ?_
  refine lv_icmp_ge (tgt := 72) hx hb dX6_copyNode_41 (by decide) (fun c2 => ?_) (fun c2 => ?_)
  · refine lv_iconst (v := 0) hx hb dX6_copyNode_72 (by decide) ?_
    refine lv_istore_n (lv' := [(3, .int 0), (0, .ref mo), (1, .int (nI a9)), (2, .int (nI b9))]) hx hb dX6_copyNode_73 rfl hl (by decide) rfl (fun ls hl => ?_)
    have hI0 : mI k Mj mo cn ia dr en la wo op mk ir se ec lc wc ol al dn md := ⟨_, _, _, _, _, _, _, fcn, fia, fdr, fen, fla, fwo, fop, fmk, fir, fse, fec, flc, fol, fal, fwc, hap, hM, hmd, ⟨hrC, hrL, hrM⟩, hcn, hia, hdr, hen, hla, hwo, hop, hmk, hir, hse, hec, hlc, hwc, hol, hal⟩
    refine W_loop (σ := Nat × mM) (fun ⟨j2, Mk⟩ H locs ls => (j2 ≤ 64) ∧ mI k Mk mo cn ia dr en la wo op mk ir se ec lc wc ol al dn md ∧ kpx (fun a => a ∈ [ia, dr, en, la, wo]) M Mk ∧ mm D (AZ z) Mk H ∧ va_S (AZ z) s.heap H locs ∧ lv_has ls 4 [(3, .int (nI j2)), (0, .ref mo), (1, .int (nI a9)), (2, .int (nI b9))]) (fun ⟨j2, Mk⟩ => 64 - j2) (fun _ => 0) (fun _ => 0) ?_ (0, Mj) _ _ _ ⟨Nat.zero_le _, hI0, hkp, hm, hS, lv_sub hl [0, 1, 2, 3] rfl⟩
    intro ⟨j2, Mk⟩ H locs ls hQ ih74
    obtain ⟨hj, hI, hkp, hm, hS, hl⟩ := hQ
    try dsimp only at hm hl ih74 ⊢
    obtain ⟨cd, ni, pw, cm, wr, cs, hm9, fcn, fia, fdr, fen, fla, fwo, fop, fmk, fir, fse, fec, flc, fol, fal, fwc, hap, hM, hmd, ⟨hrC, hrL, hrM⟩, hcn, hia, hdr, hen, hla, hwo, hop, hmk, hir, hse, hec, hlc, hwc, hol, hal⟩ := id hI
    have ne_mo_cn : nq mo cn := pw_ne hap 0 1 (by decide) (Nat.le_of_ble_eq_true rfl)
    have ne_cn_mo : nq cn mo := Ne.symm ne_mo_cn
    have ne_mo_ia : nq mo ia := pw_ne hap 0 2 (by decide) (Nat.le_of_ble_eq_true rfl)
    have ne_ia_mo : nq ia mo := Ne.symm ne_mo_ia
    have ne_mo_dr : nq mo dr := pw_ne hap 0 3 (by decide) (Nat.le_of_ble_eq_true rfl)
    have ne_dr_mo : nq dr mo := Ne.symm ne_mo_dr
    have ne_mo_en : nq mo en := pw_ne hap 0 4 (by decide) (Nat.le_of_ble_eq_true rfl)
    have ne_en_mo : nq en mo := Ne.symm ne_mo_en
    have ne_mo_la : nq mo la := pw_ne hap 0 5 (by decide) (Nat.le_of_ble_eq_true rfl)
    have ne_la_mo : nq la mo := Ne.symm ne_mo_la
    have ne_mo_wo : nq mo wo := pw_ne hap 0 6 (by decide) (Nat.le_of_ble_eq_true rfl)
    have ne_wo_mo : nq wo mo := Ne.symm ne_mo_wo
    have ne_mo_op : nq mo op := pw_ne hap 0 7 (by decide) (Nat.le_of_ble_eq_true rfl)
    have ne_op_mo : nq op mo := Ne.symm ne_mo_op
    have ne_mo_mk : nq mo mk := pw_ne hap 0 8 (by decide) (Nat.le_of_ble_eq_true rfl)
    have ne_mk_mo : nq mk mo := Ne.symm ne_mo_mk
    have ne_mo_ir : nq mo ir := pw_ne hap 0 9 (by decide) (Nat.le_of_ble_eq_true rfl)
    have ne_ir_mo : nq ir mo := Ne.symm ne_mo_ir
    have ne_mo_se : nq mo se := pw_ne hap 0 10 (by decide) (Nat.le_of_ble_eq_true rfl)
    have ne_se_mo : nq se mo := Ne.symm ne_mo_se
    have ne_mo_ec : nq mo ec := pw_ne hap 0 11 (by decide) (Nat.le_of_ble_eq_true rfl)
    have ne_ec_mo : nq ec mo := Ne.symm ne_mo_ec
    have ne_mo_lc : nq mo lc := pw_ne hap 0 12 (by decide) (Nat.le_of_ble_eq_true rfl)
    have ne_lc_mo : nq lc mo := Ne.symm ne_mo_lc
    have ne_mo_wc : nq mo wc := pw_ne hap 0 13 (by decide) (Nat.le_of_ble_eq_true rfl)
    have ne_wc_mo : nq wc mo := Ne.symm ne_mo_wc
    have ne_mo_ol : nq mo ol := pw_ne hap 0 14 (by decide) (Nat.le_of_ble_eq_true rfl)
    have ne_ol_mo : nq ol mo := Ne.symm ne_mo_ol
    have ne_mo_al : nq mo al := pw_ne hap 0 15 (by decide) (Nat.le_of_ble_eq_true rfl)
    have ne_al_mo : nq al mo := Ne.symm ne_mo_al
    have ne_cn_ia : nq cn ia := pw_ne hap 1 2 (by decide) (Nat.le_of_ble_eq_true rfl)
    have ne_ia_cn : nq ia cn := Ne.symm ne_cn_ia
    have ne_cn_dr : nq cn dr := pw_ne hap 1 3 (by decide) (Nat.le_of_ble_eq_true rfl)
    have ne_dr_cn : nq dr cn := Ne.symm ne_cn_dr
    have ne_cn_en : nq cn en := pw_ne hap 1 4 (by decide) (Nat.le_of_ble_eq_true rfl)
    have ne_en_cn : nq en cn := Ne.symm ne_cn_en
    have ne_cn_la : nq cn la := pw_ne hap 1 5 (by decide) (Nat.le_of_ble_eq_true rfl)
    have ne_la_cn : nq la cn := Ne.symm ne_cn_la
    have ne_cn_wo : nq cn wo := pw_ne hap 1 6 (by decide) (Nat.le_of_ble_eq_true rfl)
    have ne_wo_cn : nq wo cn := Ne.symm ne_cn_wo
    have ne_cn_op : nq cn op := pw_ne hap 1 7 (by decide) (Nat.le_of_ble_eq_true rfl)
    have ne_op_cn : nq op cn := Ne.symm ne_cn_op
    have ne_cn_mk : nq cn mk := pw_ne hap 1 8 (by decide) (Nat.le_of_ble_eq_true rfl)
    have ne_mk_cn : nq mk cn := Ne.symm ne_cn_mk
    have ne_cn_ir : nq cn ir := pw_ne hap 1 9 (by decide) (Nat.le_of_ble_eq_true rfl)
    have ne_ir_cn : nq ir cn := Ne.symm ne_cn_ir
    have ne_cn_se : nq cn se := pw_ne hap 1 10 (by decide) (Nat.le_of_ble_eq_true rfl)
    have ne_se_cn : nq se cn := Ne.symm ne_cn_se
    have ne_cn_ec : nq cn ec := pw_ne hap 1 11 (by decide) (Nat.le_of_ble_eq_true rfl)
    have ne_ec_cn : nq ec cn := Ne.symm ne_cn_ec
    have ne_cn_lc : nq cn lc := pw_ne hap 1 12 (by decide) (Nat.le_of_ble_eq_true rfl)
    have ne_lc_cn : nq lc cn := Ne.symm ne_cn_lc
    have ne_cn_wc : nq cn wc := pw_ne hap 1 13 (by decide) (Nat.le_of_ble_eq_true rfl)
    have ne_wc_cn : nq wc cn := Ne.symm ne_cn_wc
    have ne_cn_ol : nq cn ol := pw_ne hap 1 14 (by decide) (Nat.le_of_ble_eq_true rfl)
    have ne_ol_cn : nq ol cn := Ne.symm ne_cn_ol
    have ne_cn_al : nq cn al := pw_ne hap 1 15 (by decide) (Nat.le_of_ble_eq_true rfl)
    have ne_al_cn : nq al cn := Ne.symm ne_cn_al
    have ne_ia_dr : nq ia dr := pw_ne hap 2 3 (by decide) (Nat.le_of_ble_eq_true rfl)
    have ne_dr_ia : nq dr ia := Ne.symm ne_ia_dr
    have ne_ia_en : nq ia en := pw_ne hap 2 4 (by decide) (Nat.le_of_ble_eq_true rfl)
    have ne_en_ia : nq en ia := Ne.symm ne_ia_en
    have ne_ia_la : nq ia la := pw_ne hap 2 5 (by decide) (Nat.le_of_ble_eq_true rfl)
    have ne_la_ia : nq la ia := Ne.symm ne_ia_la
    have ne_ia_wo : nq ia wo := pw_ne hap 2 6 (by decide) (Nat.le_of_ble_eq_true rfl)
    have ne_wo_ia : nq wo ia := Ne.symm ne_ia_wo
    have ne_ia_op : nq ia op := pw_ne hap 2 7 (by decide) (Nat.le_of_ble_eq_true rfl)
    have ne_op_ia : nq op ia := Ne.symm ne_ia_op
    have ne_ia_mk : nq ia mk := pw_ne hap 2 8 (by decide) (Nat.le_of_ble_eq_true rfl)
    have ne_mk_ia : nq mk ia := Ne.symm ne_ia_mk
    have ne_ia_ir : nq ia ir := pw_ne hap 2 9 (by decide) (Nat.le_of_ble_eq_true rfl)
    have ne_ir_ia : nq ir ia := Ne.symm ne_ia_ir
    have ne_ia_se : nq ia se := pw_ne hap 2 10 (by decide) (Nat.le_of_ble_eq_true rfl)
    have ne_se_ia : nq se ia := Ne.symm ne_ia_se
    have ne_ia_ec : nq ia ec := pw_ne hap 2 11 (by decide) (Nat.le_of_ble_eq_true rfl)
    have ne_ec_ia : nq ec ia := Ne.symm ne_ia_ec
    have ne_ia_lc : nq ia lc := pw_ne hap 2 12 (by decide) (Nat.le_of_ble_eq_true rfl)
    have ne_lc_ia : nq lc ia := Ne.symm ne_ia_lc
    have ne_ia_wc : nq ia wc := pw_ne hap 2 13 (by decide) (Nat.le_of_ble_eq_true rfl)
    have ne_wc_ia : nq wc ia := Ne.symm ne_ia_wc
    have ne_ia_ol : nq ia ol := pw_ne hap 2 14 (by decide) (Nat.le_of_ble_eq_true rfl)
    have ne_ol_ia : nq ol ia := Ne.symm ne_ia_ol
    have ne_ia_al : nq ia al := pw_ne hap 2 15 (by decide) (Nat.le_of_ble_eq_true rfl)
    have ne_al_ia : nq al ia := Ne.symm ne_ia_al
    have ne_dr_en : nq dr en := pw_ne hap 3 4 (by decide) (Nat.le_of_ble_eq_true rfl)
    have ne_en_dr : nq en dr := Ne.symm ne_dr_en
    have ne_dr_la : nq dr la := pw_ne hap 3 5 (by decide) (Nat.le_of_ble_eq_true rfl)
    have ne_la_dr : nq la dr := Ne.symm ne_dr_la
    have ne_dr_wo : nq dr wo := pw_ne hap 3 6 (by decide) (Nat.le_of_ble_eq_true rfl)
    have ne_wo_dr : nq wo dr := Ne.symm ne_dr_wo
    have ne_dr_op : nq dr op := pw_ne hap 3 7 (by decide) (Nat.le_of_ble_eq_true rfl)
    have ne_op_dr : nq op dr := Ne.symm ne_dr_op
    have ne_dr_mk : nq dr mk := pw_ne hap 3 8 (by decide) (Nat.le_of_ble_eq_true rfl)
    have ne_mk_dr : nq mk dr := Ne.symm ne_dr_mk
    have ne_dr_ir : nq dr ir := pw_ne hap 3 9 (by decide) (Nat.le_of_ble_eq_true rfl)
    have ne_ir_dr : nq ir dr := Ne.symm ne_dr_ir
    have ne_dr_se : nq dr se := pw_ne hap 3 10 (by decide) (Nat.le_of_ble_eq_true rfl)
    have ne_se_dr : nq se dr := Ne.symm ne_dr_se
    have ne_dr_ec : nq dr ec := pw_ne hap 3 11 (by decide) (Nat.le_of_ble_eq_true rfl)
    have ne_ec_dr : nq ec dr := Ne.symm ne_dr_ec
    have ne_dr_lc : nq dr lc := pw_ne hap 3 12 (by decide) (Nat.le_of_ble_eq_true rfl)
    have ne_lc_dr : nq lc dr := Ne.symm ne_dr_lc
    have ne_dr_wc : nq dr wc := pw_ne hap 3 13 (by decide) (Nat.le_of_ble_eq_true rfl)
    have ne_wc_dr : nq wc dr := Ne.symm ne_dr_wc
    have ne_dr_ol : nq dr ol := pw_ne hap 3 14 (by decide) (Nat.le_of_ble_eq_true rfl)
    have ne_ol_dr : nq ol dr := Ne.symm ne_dr_ol
    have ne_dr_al : nq dr al := pw_ne hap 3 15 (by decide) (Nat.le_of_ble_eq_true rfl)
    have ne_al_dr : nq al dr := Ne.symm ne_dr_al
    have ne_en_la : nq en la := pw_ne hap 4 5 (by decide) (Nat.le_of_ble_eq_true rfl)
    have ne_la_en : nq la en := Ne.symm ne_en_la
    have ne_en_wo : nq en wo := pw_ne hap 4 6 (by decide) (Nat.le_of_ble_eq_true rfl)
    have ne_wo_en : nq wo en := Ne.symm ne_en_wo
    have ne_en_op : nq en op := pw_ne hap 4 7 (by decide) (Nat.le_of_ble_eq_true rfl)
    have ne_op_en : nq op en := Ne.symm ne_en_op
    have ne_en_mk : nq en mk := pw_ne hap 4 8 (by decide) (Nat.le_of_ble_eq_true rfl)
    have ne_mk_en : nq mk en := Ne.symm ne_en_mk
    have ne_en_ir : nq en ir := pw_ne hap 4 9 (by decide) (Nat.le_of_ble_eq_true rfl)
    have ne_ir_en : nq ir en := Ne.symm ne_en_ir
    have ne_en_se : nq en se := pw_ne hap 4 10 (by decide) (Nat.le_of_ble_eq_true rfl)
    have ne_se_en : nq se en := Ne.symm ne_en_se
    have ne_en_ec : nq en ec := pw_ne hap 4 11 (by decide) (Nat.le_of_ble_eq_true rfl)
    have ne_ec_en : nq ec en := Ne.symm ne_en_ec
    have ne_en_lc : nq en lc := pw_ne hap 4 12 (by decide) (Nat.le_of_ble_eq_true rfl)
    have ne_lc_en : nq lc en := Ne.symm ne_en_lc
    have ne_en_wc : nq en wc := pw_ne hap 4 13 (by decide) (Nat.le_of_ble_eq_true rfl)
    have ne_wc_en : nq wc en := Ne.symm ne_en_wc
    have ne_en_ol : nq en ol := pw_ne hap 4 14 (by decide) (Nat.le_of_ble_eq_true rfl)
    have ne_ol_en : nq ol en := Ne.symm ne_en_ol
    have ne_en_al : nq en al := pw_ne hap 4 15 (by decide) (Nat.le_of_ble_eq_true rfl)
    have ne_al_en : nq al en := Ne.symm ne_en_al
    have ne_la_wo : nq la wo := pw_ne hap 5 6 (by decide) (Nat.le_of_ble_eq_true rfl)
    have ne_wo_la : nq wo la := Ne.symm ne_la_wo
    have ne_la_op : nq la op := pw_ne hap 5 7 (by decide) (Nat.le_of_ble_eq_true rfl)
    have ne_op_la : nq op la := Ne.symm ne_la_op
    have ne_la_mk : nq la mk := pw_ne hap 5 8 (by decide) (Nat.le_of_ble_eq_true rfl)
    have ne_mk_la : nq mk la := Ne.symm ne_la_mk
    have ne_la_ir : nq la ir := pw_ne hap 5 9 (by decide) (Nat.le_of_ble_eq_true rfl)
    have ne_ir_la : nq ir la := Ne.symm ne_la_ir
    have ne_la_se : nq la se := pw_ne hap 5 10 (by decide) (Nat.le_of_ble_eq_true rfl)
    have ne_se_la : nq se la := Ne.symm ne_la_se
    have ne_la_ec : nq la ec := pw_ne hap 5 11 (by decide) (Nat.le_of_ble_eq_true rfl)
    have ne_ec_la : nq ec la := Ne.symm ne_la_ec
    have ne_la_lc : nq la lc := pw_ne hap 5 12 (by decide) (Nat.le_of_ble_eq_true rfl)
    have ne_lc_la : nq lc la := Ne.symm ne_la_lc
    have ne_la_wc : nq la wc := pw_ne hap 5 13 (by decide) (Nat.le_of_ble_eq_true rfl)
    have ne_wc_la : nq wc la := Ne.symm ne_la_wc
    have ne_la_ol : nq la ol := pw_ne hap 5 14 (by decide) (Nat.le_of_ble_eq_true rfl)
    have ne_ol_la : nq ol la := Ne.symm ne_la_ol
    have ne_la_al : nq la al := pw_ne hap 5 15 (by decide) (Nat.le_of_ble_eq_true rfl)
    have ne_al_la : nq al la := Ne.symm ne_la_al
    have ne_wo_op : nq wo op := pw_ne hap 6 7 (by decide) (Nat.le_of_ble_eq_true rfl)
    have ne_op_wo : nq op wo := Ne.symm ne_wo_op
    have ne_wo_mk : nq wo mk := pw_ne hap 6 8 (by decide) (Nat.le_of_ble_eq_true rfl)
    have ne_mk_wo : nq mk wo := Ne.symm ne_wo_mk
    have ne_wo_ir : nq wo ir := pw_ne hap 6 9 (by decide) (Nat.le_of_ble_eq_true rfl)
    have ne_ir_wo : nq ir wo := Ne.symm ne_wo_ir
    have ne_wo_se : nq wo se := pw_ne hap 6 10 (by decide) (Nat.le_of_ble_eq_true rfl)
    have ne_se_wo : nq se wo := Ne.symm ne_wo_se
    have ne_wo_ec : nq wo ec := pw_ne hap 6 11 (by decide) (Nat.le_of_ble_eq_true rfl)
    have ne_ec_wo : nq ec wo := Ne.symm ne_wo_ec
    have ne_wo_lc : nq wo lc := pw_ne hap 6 12 (by decide) (Nat.le_of_ble_eq_true rfl)
    have ne_lc_wo : nq lc wo := Ne.symm ne_wo_lc
    have ne_wo_wc : nq wo wc := pw_ne hap 6 13 (by decide) (Nat.le_of_ble_eq_true rfl)
    have ne_wc_wo : nq wc wo := Ne.symm ne_wo_wc
    have ne_wo_ol : nq wo ol := pw_ne hap 6 14 (by decide) (Nat.le_of_ble_eq_true rfl)
    have ne_ol_wo : nq ol wo := Ne.symm ne_wo_ol
    have ne_wo_al : nq wo al := pw_ne hap 6 15 (by decide) (Nat.le_of_ble_eq_true rfl)
    have ne_al_wo : nq al wo := Ne.symm ne_wo_al
    have ne_op_mk : nq op mk := pw_ne hap 7 8 (by decide) (Nat.le_of_ble_eq_true rfl)
    have ne_mk_op : nq mk op := Ne.symm ne_op_mk
    have ne_op_ir : nq op ir := pw_ne hap 7 9 (by decide) (Nat.le_of_ble_eq_true rfl)
    have ne_ir_op : nq ir op := Ne.symm ne_op_ir
    have ne_op_se : nq op se := pw_ne hap 7 10 (by decide) (Nat.le_of_ble_eq_true rfl)
    have ne_se_op : nq se op := Ne.symm ne_op_se
    have ne_op_ec : nq op ec := pw_ne hap 7 11 (by decide) (Nat.le_of_ble_eq_true rfl)
    have ne_ec_op : nq ec op := Ne.symm ne_op_ec
    have ne_op_lc : nq op lc := pw_ne hap 7 12 (by decide) (Nat.le_of_ble_eq_true rfl)
    have ne_lc_op : nq lc op := Ne.symm ne_op_lc
    have ne_op_wc : nq op wc := pw_ne hap 7 13 (by decide) (Nat.le_of_ble_eq_true rfl)
    have ne_wc_op : nq wc op := Ne.symm ne_op_wc
    have ne_op_ol : nq op ol := pw_ne hap 7 14 (by decide) (Nat.le_of_ble_eq_true rfl)
    have ne_ol_op : nq ol op := Ne.symm ne_op_ol
    have ne_op_al : nq op al := pw_ne hap 7 15 (by decide) (Nat.le_of_ble_eq_true rfl)
    have ne_al_op : nq al op := Ne.symm ne_op_al
    have ne_mk_ir : nq mk ir := pw_ne hap 8 9 (by decide) (Nat.le_of_ble_eq_true rfl)
    have ne_ir_mk : nq ir mk := Ne.symm ne_mk_ir
    have ne_mk_se : nq mk se := pw_ne hap 8 10 (by decide) (Nat.le_of_ble_eq_true rfl)
    have ne_se_mk : nq se mk := Ne.symm ne_mk_se
    have ne_mk_ec : nq mk ec := pw_ne hap 8 11 (by decide) (Nat.le_of_ble_eq_true rfl)
    have ne_ec_mk : nq ec mk := Ne.symm ne_mk_ec
    have ne_mk_lc : nq mk lc := pw_ne hap 8 12 (by decide) (Nat.le_of_ble_eq_true rfl)
    have ne_lc_mk : nq lc mk := Ne.symm ne_mk_lc
    have ne_mk_wc : nq mk wc := pw_ne hap 8 13 (by decide) (Nat.le_of_ble_eq_true rfl)
    have ne_wc_mk : nq wc mk := Ne.symm ne_mk_wc
    have ne_mk_ol : nq mk ol := pw_ne hap 8 14 (by decide) (Nat.le_of_ble_eq_true rfl)
    have ne_ol_mk : nq ol mk := Ne.symm ne_mk_ol
    have ne_mk_al : nq mk al := pw_ne hap 8 15 (by decide) (Nat.le_of_ble_eq_true rfl)
    have ne_al_mk : nq al mk := Ne.symm ne_mk_al
    have ne_ir_se : nq ir se := pw_ne hap 9 10 (by decide) (Nat.le_of_ble_eq_true rfl)
    have ne_se_ir : nq se ir := Ne.symm ne_ir_se
    have ne_ir_ec : nq ir ec := pw_ne hap 9 11 (by decide) (Nat.le_of_ble_eq_true rfl)
    have ne_ec_ir : nq ec ir := Ne.symm ne_ir_ec
    have ne_ir_lc : nq ir lc := pw_ne hap 9 12 (by decide) (Nat.le_of_ble_eq_true rfl)
    have ne_lc_ir : nq lc ir := Ne.symm ne_ir_lc
    have ne_ir_wc : nq ir wc := pw_ne hap 9 13 (by decide) (Nat.le_of_ble_eq_true rfl)
    have ne_wc_ir : nq wc ir := Ne.symm ne_ir_wc
    have ne_ir_ol : nq ir ol := pw_ne hap 9 14 (by decide) (Nat.le_of_ble_eq_true rfl)
    have ne_ol_ir : nq ol ir := Ne.symm ne_ir_ol
    have ne_ir_al : nq ir al := pw_ne hap 9 15 (by decide) (Nat.le_of_ble_eq_true rfl)
    have ne_al_ir : nq al ir := Ne.symm ne_ir_al
    have ne_se_ec : nq se ec := pw_ne hap 10 11 (by decide) (Nat.le_of_ble_eq_true rfl)
    have ne_ec_se : nq ec se := Ne.symm ne_se_ec
    have ne_se_lc : nq se lc := pw_ne hap 10 12 (by decide) (Nat.le_of_ble_eq_true rfl)
    have ne_lc_se : nq lc se := Ne.symm ne_se_lc
    have ne_se_wc : nq se wc := pw_ne hap 10 13 (by decide) (Nat.le_of_ble_eq_true rfl)
    have ne_wc_se : nq wc se := Ne.symm ne_se_wc
    have ne_se_ol : nq se ol := pw_ne hap 10 14 (by decide) (Nat.le_of_ble_eq_true rfl)
    have ne_ol_se : nq ol se := Ne.symm ne_se_ol
    have ne_se_al : nq se al := pw_ne hap 10 15 (by decide) (Nat.le_of_ble_eq_true rfl)
    have ne_al_se : nq al se := Ne.symm ne_se_al
    have ne_ec_lc : nq ec lc := pw_ne hap 11 12 (by decide) (Nat.le_of_ble_eq_true rfl)
    have ne_lc_ec : nq lc ec := Ne.symm ne_ec_lc
    have ne_ec_wc : nq ec wc := pw_ne hap 11 13 (by decide) (Nat.le_of_ble_eq_true rfl)
    have ne_wc_ec : nq wc ec := Ne.symm ne_ec_wc
    have ne_ec_ol : nq ec ol := pw_ne hap 11 14 (by decide) (Nat.le_of_ble_eq_true rfl)
    have ne_ol_ec : nq ol ec := Ne.symm ne_ec_ol
    have ne_ec_al : nq ec al := pw_ne hap 11 15 (by decide) (Nat.le_of_ble_eq_true rfl)
    have ne_al_ec : nq al ec := Ne.symm ne_ec_al
    have ne_lc_wc : nq lc wc := pw_ne hap 12 13 (by decide) (Nat.le_of_ble_eq_true rfl)
    have ne_wc_lc : nq wc lc := Ne.symm ne_lc_wc
    have ne_lc_ol : nq lc ol := pw_ne hap 12 14 (by decide) (Nat.le_of_ble_eq_true rfl)
    have ne_ol_lc : nq ol lc := Ne.symm ne_lc_ol
    have ne_lc_al : nq lc al := pw_ne hap 12 15 (by decide) (Nat.le_of_ble_eq_true rfl)
    have ne_al_lc : nq al lc := Ne.symm ne_lc_al
    have ne_wc_ol : nq wc ol := pw_ne hap 13 14 (by decide) (Nat.le_of_ble_eq_true rfl)
    have ne_ol_wc : nq ol wc := Ne.symm ne_wc_ol
    have ne_wc_al : nq wc al := pw_ne hap 13 15 (by decide) (Nat.le_of_ble_eq_true rfl)
    have ne_al_wc : nq al wc := Ne.symm ne_wc_al
    have ne_ol_al : nq ol al := pw_ne hap 14 15 (by decide) (Nat.le_of_ble_eq_true rfl)
    have ne_al_ol : nq al ol := Ne.symm ne_ol_al
    refine lv_iload_n hx hb dX6_copyNode_74 rfl (lv_at hl 0 rfl) ?_
    refine lv_bipush (v := 64) hx hb dX6_copyNode_75 (by decide) ?_
    refine lv_icmp_ge (tgt := 108) hx hb dX6_copyNode_77 (by decide) (fun c3 => ?_) (fun c3 => ?_)
    · refine W.vret hx hb hr (fun t ht hW => ⟨⟨none, _, rfl, ?_, by rw [ht]; exact hm⟩, hS.F ht⟩) hS.2.2 dX6_copyNode_108
      exact ⟨rfl, ⟨_, _, _, _, _, _, _, fcn, fia, fdr, fen, fla, fwo, fop, fmk, fir, fse, fec, flc, fol, fal, fwc, hap, hM, hmd, ⟨hrC, hrL, hrM⟩, hcn, hia, hdr, hen, hla, hwo, hop, hmk, hir, hse, hec, hlc, hwc, hol, hal⟩, hkp⟩
    · have hlt9 : j2 < 64 := Nat.lt_of_not_le fun q => c3 (nI_le (a := 64) q (by omega))
      refine lv_aload_n hx hb dX6_copyNode_80 rfl (lv_at hl 1 rfl) ?_
      refine m_get (T := TX6) (N := 24) (ci := 6) (v := .ref wo) hx hb hts wX6 hown hK hm hM rfl 6 (by decide) f28 (fun _ h9 => h9) rfl dX6_copyNode_81 ?_
      refine lv_bipush (v := 64) hx hb dX6_copyNode_84 (by decide) ?_
      refine lv_iload_n hx hb dX6_copyNode_86 rfl (lv_at hl 2 rfl) ?_
      refine lv_imul hx hb dX6_copyNode_87 ?_
      refine W.eq (g2 := F0 m 88 ls [.int (nI (64 * a9)), .ref wo]) (by rw [show ((64) * ((nI a9)) : Int32) = nI (64 * a9) from pk_mul 64 a9]) ?_
      refine lv_iload_n hx hb dX6_copyNode_88 rfl (lv_at hl 0 rfl) ?_
      refine lv_iadd hx hb dX6_copyNode_89 ?_
      refine W.eq (g2 := F0 m 90 ls [.int (nI ((64 * a9) + j2)), .ref wo]) (by rw [show (((nI (64 * a9))) + ((nI j2)) : Int32) = nI ((64 * a9) + j2) from nI_add (64 * a9) j2]) ?_
      refine lv_aload_n hx hb dX6_copyNode_90 rfl (lv_at hl 1 rfl) ?_
      refine m_get (T := TX6) (N := 24) (ci := 6) (v := .ref wo) hx hb hts wX6 hown hK hm hM rfl 6 (by decide) f28 (fun _ h9 => h9) rfl dX6_copyNode_91 ?_
      refine lv_bipush (v := 64) hx hb dX6_copyNode_94 (by decide) ?_
      refine lv_iload_n hx hb dX6_copyNode_96 rfl (lv_at hl 3 rfl) ?_
      refine lv_imul hx hb dX6_copyNode_97 ?_
      refine W.eq (g2 := F0 m 98 ls [.int (nI (64 * b9)), .ref wo, .int (nI ((64 * a9) + j2)), .ref wo]) (by rw [show ((64) * ((nI b9)) : Int32) = nI (64 * b9) from pk_mul 64 b9]) ?_
      refine lv_iload_n hx hb dX6_copyNode_98 rfl (lv_at hl 0 rfl) ?_
      refine lv_iadd hx hb dX6_copyNode_99 ?_
      refine W.eq (g2 := F0 m 100 ls [.int (nI ((64 * b9) + j2)), .ref wo, .int (nI ((64 * a9) + j2)), .ref wo]) (by rw [show (((nI (64 * b9))) + ((nI j2)) : Int32) = nI ((64 * b9) + j2) from nI_add (64 * b9) j2]) ?_
      refine m_iald hx hb hK hm 0 hwo rfl (vp_in_nI (by omega) (by decide)) dX6_copyNode_100 ?_
      refine m_iast hx hb hK hm hS 0 hwo rfl (vp_in_nI (by omega) (by decide)) dX6_copyNode_101 (fun H locs hm hS => ?_)
      have hm : mm D (AZ z) (mu Mk wo (.inl (k 0, 204800, .inl (upd fwo ((nI ((64 * a9) + j2))).toNatClampNeg (fwo ((nI ((64 * b9) + j2))).toNatClampNeg))))) H := hm
      have hkp : kpx (fun a => a ∈ [ia, dr, en, la, wo]) M (mu Mk wo (.inl (k 0, 204800, .inl (upd fwo ((nI ((64 * a9) + j2))).toNatClampNeg (fwo ((nI ((64 * b9) + j2))).toNatClampNeg))))) := (hkp).self (by simp)
      refine lv_iinc (v := ((nI j2) + 1)) (lv' := [(3, .int ((nI j2) + 1)), (0, .ref mo), (1, .int (nI a9)), (2, .int (nI b9))]) hx hb dX6_copyNode_102 hl (k := 0) rfl rfl (by decide) rfl (fun ls hl => ?_)
      refine lv_goto (tgt := 74) hx hb dX6_copyNode_105 (by decide) ?_
      rw [nI_1] at hl
      exact ih74 (j2 + 1, (mu Mk wo (.inl (k 0, 204800, .inl (upd fwo ((nI ((64 * a9) + j2))).toNatClampNeg (fwo ((nI ((64 * b9) + j2))).toNatClampNeg)))))) _ _ _ ⟨by omega, ⟨_, _, _, _, _, _, _, fcn, fia, fdr, fen, fla, (upd fwo ((nI ((64 * a9) + j2))).toNatClampNeg (fwo ((nI ((64 * b9) + j2))).toNatClampNeg)), fop, fmk, fir, fse, fec, flc, fol, fal, fwc, hap, ((mu_ne ne_mo_wo).trans hM), hmd, ⟨hrC, hrL, hrM⟩, ((mu_ne ne_cn_wo).trans hcn), ((mu_ne ne_ia_wo).trans hia), ((mu_ne ne_dr_wo).trans hdr), ((mu_ne ne_en_wo).trans hen), ((mu_ne ne_la_wo).trans hla), (mu_self _ _ _), ((mu_ne ne_op_wo).trans hop), ((mu_ne ne_mk_wo).trans hmk), ((mu_ne ne_ir_wo).trans hir), ((mu_ne ne_se_wo).trans hse), ((mu_ne ne_ec_wo).trans hec), ((mu_ne ne_lc_wo).trans hlc), ((mu_ne ne_wc_wo).trans hwc), ((mu_ne ne_ol_wo).trans hol), ((mu_ne ne_al_wo).trans hal)⟩, hkp, hm, hS, lv_sub hl [0, 1, 2, 3] rfl⟩ (by show 64 - (j2 + 1) < 64 - j2; omega)
  · have hlt9 : j < 16 := Nat.lt_of_not_le fun q => c2 (nI_le (a := 16) q (by omega))
    refine lv_aload_n hx hb dX6_copyNode_44 rfl (lv_at hl 1 rfl) ?_
    refine m_get (T := TX6) (N := 24) (ci := 6) (v := .ref en) hx hb hts wX6 hown hK hm hM rfl 4 (by decide) f21 (fun _ h9 => h9) rfl dX6_copyNode_45 ?_
    refine lv_bipush (v := 16) hx hb dX6_copyNode_48 (by decide) ?_
    refine lv_iload_n hx hb dX6_copyNode_50 rfl (lv_at hl 2 rfl) ?_
    refine lv_imul hx hb dX6_copyNode_51 ?_
    refine W.eq (g2 := F0 m 52 ls [.int (nI (16 * a9)), .ref en]) (by rw [show ((16) * ((nI a9)) : Int32) = nI (16 * a9) from pk_mul 16 a9]) ?_
    refine lv_iload_n hx hb dX6_copyNode_52 rfl (lv_at hl 0 rfl) ?_
    refine lv_iadd hx hb dX6_copyNode_53 ?_
    refine W.eq (g2 := F0 m 54 ls [.int (nI ((16 * a9) + j)), .ref en]) (by rw [show (((nI (16 * a9))) + ((nI j)) : Int32) = nI ((16 * a9) + j) from nI_add (16 * a9) j]) ?_
    refine lv_aload_n hx hb dX6_copyNode_54 rfl (lv_at hl 1 rfl) ?_
    refine m_get (T := TX6) (N := 24) (ci := 6) (v := .ref en) hx hb hts wX6 hown hK hm hM rfl 4 (by decide) f21 (fun _ h9 => h9) rfl dX6_copyNode_55 ?_
    refine lv_bipush (v := 16) hx hb dX6_copyNode_58 (by decide) ?_
    refine lv_iload_n hx hb dX6_copyNode_60 rfl (lv_at hl 3 rfl) ?_
    refine lv_imul hx hb dX6_copyNode_61 ?_
    refine W.eq (g2 := F0 m 62 ls [.int (nI (16 * b9)), .ref en, .int (nI ((16 * a9) + j)), .ref en]) (by rw [show ((16) * ((nI b9)) : Int32) = nI (16 * b9) from pk_mul 16 b9]) ?_
    refine lv_iload_n hx hb dX6_copyNode_62 rfl (lv_at hl 0 rfl) ?_
    refine lv_iadd hx hb dX6_copyNode_63 ?_
    refine W.eq (g2 := F0 m 64 ls [.int (nI ((16 * b9) + j)), .ref en, .int (nI ((16 * a9) + j)), .ref en]) (by rw [show (((nI (16 * b9))) + ((nI j)) : Int32) = nI ((16 * b9) + j) from nI_add (16 * b9) j]) ?_
    refine m_iald hx hb hK hm 0 hen rfl (vp_in_nI (by omega) (by decide)) dX6_copyNode_64 ?_
    refine m_iast hx hb hK hm hS 0 hen rfl (vp_in_nI (by omega) (by decide)) dX6_copyNode_65 (fun H locs hm hS => ?_)
    have hm : mm D (AZ z) (mu Mj en (.inl (k 0, 51200, .inl (upd fen ((nI ((16 * a9) + j))).toNatClampNeg (fen ((nI ((16 * b9) + j))).toNatClampNeg))))) H := hm
    have hkp : kpx (fun a => a ∈ [ia, dr, en, la, wo]) M (mu Mj en (.inl (k 0, 51200, .inl (upd fen ((nI ((16 * a9) + j))).toNatClampNeg (fen ((nI ((16 * b9) + j))).toNatClampNeg))))) := (hkp).self (by simp)
    refine lv_iinc (v := ((nI j) + 1)) (lv' := [(3, .int ((nI j) + 1)), (0, .ref mo), (1, .int (nI a9)), (2, .int (nI b9))]) hx hb dX6_copyNode_66 hl (k := 0) rfl rfl (by decide) rfl (fun ls hl => ?_)
    refine lv_goto (tgt := 38) hx hb dX6_copyNode_69 (by decide) ?_
    rw [nI_1] at hl
    exact ih38 (j + 1, (mu Mj en (.inl (k 0, 51200, .inl (upd fen ((nI ((16 * a9) + j))).toNatClampNeg (fen ((nI ((16 * b9) + j))).toNatClampNeg)))))) _ _ _ ⟨by omega, ⟨_, _, _, _, _, _, _, fcn, fia, fdr, (upd fen ((nI ((16 * a9) + j))).toNatClampNeg (fen ((nI ((16 * b9) + j))).toNatClampNeg)), fla, fwo, fop, fmk, fir, fse, fec, flc, fol, fal, fwc, hap, ((mu_ne ne_mo_en).trans hM), hmd, ⟨hrC, hrL, hrM⟩, ((mu_ne ne_cn_en).trans hcn), ((mu_ne ne_ia_en).trans hia), ((mu_ne ne_dr_en).trans hdr), (mu_self _ _ _), ((mu_ne ne_la_en).trans hla), ((mu_ne ne_wo_en).trans hwo), ((mu_ne ne_op_en).trans hop), ((mu_ne ne_mk_en).trans hmk), ((mu_ne ne_ir_en).trans hir), ((mu_ne ne_se_en).trans hse), ((mu_ne ne_ec_en).trans hec), ((mu_ne ne_lc_en).trans hlc), ((mu_ne ne_wc_en).trans hwc), ((mu_ne ne_ol_en).trans hol), ((mu_ne ne_al_en).trans hal)⟩, hkp, hm, hS, lv_sub hl [0, 1, 2, 3] rfl⟩ (by show 16 - (j + 1) < 16 - j; omega)

set_option maxHeartbeats 4000000 in
set_option maxRecDepth 100000 in
theorem s_X6_setValue (l : Launch) (D : va_G) (k : Nat → ClassId) (z : Nat) (M : mM) (mo cn ia dr en la wo op mk ir se ec lc wc ol al : Nat) (dn md : Int32)  (n9 c9c : Nat) (x9 : Int32) (hn9 : n9 < 3200) (hc9 : c9c < 95) (hnh : c9c < 15 ∨ 30 ≤ c9c) (hx9 : c9c = 30 → ∃ y, y ≤ 64 ∧ x9 = nI y) (hI : mI k M mo cn ia dr en la wo op mk ir se ec lc wc ol al dn md) : mK l yX6_setValue wsX6_setValue ({ frames := 0, cells := 0, slots := 0, locals := 0 }) D k z [.ref mo, .int (nI n9), .int (nI c9c), .int x9] M (fun v M' => (v = none) ∧ mI k M' mo cn ia dr en la wo op mk ir se ec lc wc ol al dn md ∧ kpx (fun a => a ∈ [mo, cn, ia, dr, en, la, wo, op, mk, ir, se, ec, lc, wc, ol, al]) M M') := by
  refine Met.ofW (cc := cX6_setValue) (maxL := 4) (ret := none) (by decide) rfl ?_
  intro p e s m args below meth c s₁ B hml hv
  obtain ⟨rfl, hz, hcx, hm⟩ := hv
  have hx := B.exec
  have hb := B.bytes
  have hr := B.returns
  have hts := atoms_spec (ws := wsX6_setValue) B.pre
  have hown : s.vm.findClass RX6 = some m.cls := findClass_of_methodNamed B.named
  have hlocks := B.notSynchronized
  have hK := hcx.1
  have hS : va_S (AZ z) s.heap s.heap [] := va_S.rf
  have hA : ∀ q, s.heap.size ≤ q → AZ z q := fun q h => Nat.le_trans hz h
  have hl := lv_entry ([.ref mo, .int (nI n9), .int (nI c9c), .int x9]) (n := 4) (Nat.le_of_ble_eq_true rfl)
  rw [lg_entry_eq]
  generalize (lg_sl ([.ref mo, .int (nI n9), .int (nI c9c), .int x9]) ++ List.replicate (4 - (lg_sl ([.ref mo, .int (nI n9), .int (nI c9c), .int x9])).length) Slot.unset).toArray = ls at hl ⊢
  have hl : lv_has ls 4 [(0, .ref mo), (1, .int (nI n9)), (2, .int (nI c9c)), (3, .int x9)] := hl
  have f21 := hts (.fieldLink RX6 21 "CommitTreeModel" "entries" "[I") (by decide +kernel)
  have f24 := hts (.fieldLink RX6 24 "CommitTreeModel" "lengths" "[I") (by decide +kernel)
  have f28 := hts (.fieldLink RX6 28 "CommitTreeModel" "words" "[I") (by decide +kernel)
  have wX6 : ∀ w ∈ wsX60, w ∈ wsX6_setValue := by decide +kernel
  obtain ⟨cd, ni, pw, cm, wr, cs, hm9, fcn, fia, fdr, fen, fla, fwo, fop, fmk, fir, fse, fec, flc, fol, fal, fwc, hap, hM, hmd, ⟨hrC, hrL, hrM⟩, hcn, hia, hdr, hen, hla, hwo, hop, hmk, hir, hse, hec, hlc, hwc, hol, hal⟩ := id hI
  have ne_mo_cn : nq mo cn := pw_ne hap 0 1 (by decide) (Nat.le_of_ble_eq_true rfl)
  have ne_cn_mo : nq cn mo := Ne.symm ne_mo_cn
  have ne_mo_ia : nq mo ia := pw_ne hap 0 2 (by decide) (Nat.le_of_ble_eq_true rfl)
  have ne_ia_mo : nq ia mo := Ne.symm ne_mo_ia
  have ne_mo_dr : nq mo dr := pw_ne hap 0 3 (by decide) (Nat.le_of_ble_eq_true rfl)
  have ne_dr_mo : nq dr mo := Ne.symm ne_mo_dr
  have ne_mo_en : nq mo en := pw_ne hap 0 4 (by decide) (Nat.le_of_ble_eq_true rfl)
  have ne_en_mo : nq en mo := Ne.symm ne_mo_en
  have ne_mo_la : nq mo la := pw_ne hap 0 5 (by decide) (Nat.le_of_ble_eq_true rfl)
  have ne_la_mo : nq la mo := Ne.symm ne_mo_la
  have ne_mo_wo : nq mo wo := pw_ne hap 0 6 (by decide) (Nat.le_of_ble_eq_true rfl)
  have ne_wo_mo : nq wo mo := Ne.symm ne_mo_wo
  have ne_mo_op : nq mo op := pw_ne hap 0 7 (by decide) (Nat.le_of_ble_eq_true rfl)
  have ne_op_mo : nq op mo := Ne.symm ne_mo_op
  have ne_mo_mk : nq mo mk := pw_ne hap 0 8 (by decide) (Nat.le_of_ble_eq_true rfl)
  have ne_mk_mo : nq mk mo := Ne.symm ne_mo_mk
  have ne_mo_ir : nq mo ir := pw_ne hap 0 9 (by decide) (Nat.le_of_ble_eq_true rfl)
  have ne_ir_mo : nq ir mo := Ne.symm ne_mo_ir
  have ne_mo_se : nq mo se := pw_ne hap 0 10 (by decide) (Nat.le_of_ble_eq_true rfl)
  have ne_se_mo : nq se mo := Ne.symm ne_mo_se
  have ne_mo_ec : nq mo ec := pw_ne hap 0 11 (by decide) (Nat.le_of_ble_eq_true rfl)
  have ne_ec_mo : nq ec mo := Ne.symm ne_mo_ec
  have ne_mo_lc : nq mo lc := pw_ne hap 0 12 (by decide) (Nat.le_of_ble_eq_true rfl)
  have ne_lc_mo : nq lc mo := Ne.symm ne_mo_lc
  have ne_mo_wc : nq mo wc := pw_ne hap 0 13 (by decide) (Nat.le_of_ble_eq_true rfl)
  have ne_wc_mo : nq wc mo := Ne.symm ne_mo_wc
  have ne_mo_ol : nq mo ol := pw_ne hap 0 14 (by decide) (Nat.le_of_ble_eq_true rfl)
  have ne_ol_mo : nq ol mo := Ne.symm ne_mo_ol
  have ne_mo_al : nq mo al := pw_ne hap 0 15 (by decide) (Nat.le_of_ble_eq_true rfl)
  have ne_al_mo : nq al mo := Ne.symm ne_mo_al
  have ne_cn_ia : nq cn ia := pw_ne hap 1 2 (by decide) (Nat.le_of_ble_eq_true rfl)
  have ne_ia_cn : nq ia cn := Ne.symm ne_cn_ia
  have ne_cn_dr : nq cn dr := pw_ne hap 1 3 (by decide) (Nat.le_of_ble_eq_true rfl)
  have ne_dr_cn : nq dr cn := Ne.symm ne_cn_dr
  have ne_cn_en : nq cn en := pw_ne hap 1 4 (by decide) (Nat.le_of_ble_eq_true rfl)
  have ne_en_cn : nq en cn := Ne.symm ne_cn_en
  have ne_cn_la : nq cn la := pw_ne hap 1 5 (by decide) (Nat.le_of_ble_eq_true rfl)
  have ne_la_cn : nq la cn := Ne.symm ne_cn_la
  have ne_cn_wo : nq cn wo := pw_ne hap 1 6 (by decide) (Nat.le_of_ble_eq_true rfl)
  have ne_wo_cn : nq wo cn := Ne.symm ne_cn_wo
  have ne_cn_op : nq cn op := pw_ne hap 1 7 (by decide) (Nat.le_of_ble_eq_true rfl)
  have ne_op_cn : nq op cn := Ne.symm ne_cn_op
  have ne_cn_mk : nq cn mk := pw_ne hap 1 8 (by decide) (Nat.le_of_ble_eq_true rfl)
  have ne_mk_cn : nq mk cn := Ne.symm ne_cn_mk
  have ne_cn_ir : nq cn ir := pw_ne hap 1 9 (by decide) (Nat.le_of_ble_eq_true rfl)
  have ne_ir_cn : nq ir cn := Ne.symm ne_cn_ir
  have ne_cn_se : nq cn se := pw_ne hap 1 10 (by decide) (Nat.le_of_ble_eq_true rfl)
  have ne_se_cn : nq se cn := Ne.symm ne_cn_se
  have ne_cn_ec : nq cn ec := pw_ne hap 1 11 (by decide) (Nat.le_of_ble_eq_true rfl)
  have ne_ec_cn : nq ec cn := Ne.symm ne_cn_ec
  have ne_cn_lc : nq cn lc := pw_ne hap 1 12 (by decide) (Nat.le_of_ble_eq_true rfl)
  have ne_lc_cn : nq lc cn := Ne.symm ne_cn_lc
  have ne_cn_wc : nq cn wc := pw_ne hap 1 13 (by decide) (Nat.le_of_ble_eq_true rfl)
  have ne_wc_cn : nq wc cn := Ne.symm ne_cn_wc
  have ne_cn_ol : nq cn ol := pw_ne hap 1 14 (by decide) (Nat.le_of_ble_eq_true rfl)
  have ne_ol_cn : nq ol cn := Ne.symm ne_cn_ol
  have ne_cn_al : nq cn al := pw_ne hap 1 15 (by decide) (Nat.le_of_ble_eq_true rfl)
  have ne_al_cn : nq al cn := Ne.symm ne_cn_al
  have ne_ia_dr : nq ia dr := pw_ne hap 2 3 (by decide) (Nat.le_of_ble_eq_true rfl)
  have ne_dr_ia : nq dr ia := Ne.symm ne_ia_dr
  have ne_ia_en : nq ia en := pw_ne hap 2 4 (by decide) (Nat.le_of_ble_eq_true rfl)
  have ne_en_ia : nq en ia := Ne.symm ne_ia_en
  have ne_ia_la : nq ia la := pw_ne hap 2 5 (by decide) (Nat.le_of_ble_eq_true rfl)
  have ne_la_ia : nq la ia := Ne.symm ne_ia_la
  have ne_ia_wo : nq ia wo := pw_ne hap 2 6 (by decide) (Nat.le_of_ble_eq_true rfl)
  have ne_wo_ia : nq wo ia := Ne.symm ne_ia_wo
  have ne_ia_op : nq ia op := pw_ne hap 2 7 (by decide) (Nat.le_of_ble_eq_true rfl)
  have ne_op_ia : nq op ia := Ne.symm ne_ia_op
  have ne_ia_mk : nq ia mk := pw_ne hap 2 8 (by decide) (Nat.le_of_ble_eq_true rfl)
  have ne_mk_ia : nq mk ia := Ne.symm ne_ia_mk
  have ne_ia_ir : nq ia ir := pw_ne hap 2 9 (by decide) (Nat.le_of_ble_eq_true rfl)
  have ne_ir_ia : nq ir ia := Ne.symm ne_ia_ir
  have ne_ia_se : nq ia se := pw_ne hap 2 10 (by decide) (Nat.le_of_ble_eq_true rfl)
  have ne_se_ia : nq se ia := Ne.symm ne_ia_se
  have ne_ia_ec : nq ia ec := pw_ne hap 2 11 (by decide) (Nat.le_of_ble_eq_true rfl)
  have ne_ec_ia : nq ec ia := Ne.symm ne_ia_ec
  have ne_ia_lc : nq ia lc := pw_ne hap 2 12 (by decide) (Nat.le_of_ble_eq_true rfl)
  have ne_lc_ia : nq lc ia := Ne.symm ne_ia_lc
  have ne_ia_wc : nq ia wc := pw_ne hap 2 13 (by decide) (Nat.le_of_ble_eq_true rfl)
  have ne_wc_ia : nq wc ia := Ne.symm ne_ia_wc
  have ne_ia_ol : nq ia ol := pw_ne hap 2 14 (by decide) (Nat.le_of_ble_eq_true rfl)
  have ne_ol_ia : nq ol ia := Ne.symm ne_ia_ol
  have ne_ia_al : nq ia al := pw_ne hap 2 15 (by decide) (Nat.le_of_ble_eq_true rfl)
  have ne_al_ia : nq al ia := Ne.symm ne_ia_al
  have ne_dr_en : nq dr en := pw_ne hap 3 4 (by decide) (Nat.le_of_ble_eq_true rfl)
  have ne_en_dr : nq en dr := Ne.symm ne_dr_en
  have ne_dr_la : nq dr la := pw_ne hap 3 5 (by decide) (Nat.le_of_ble_eq_true rfl)
  have ne_la_dr : nq la dr := Ne.symm ne_dr_la
  have ne_dr_wo : nq dr wo := pw_ne hap 3 6 (by decide) (Nat.le_of_ble_eq_true rfl)
  have ne_wo_dr : nq wo dr := Ne.symm ne_dr_wo
  have ne_dr_op : nq dr op := pw_ne hap 3 7 (by decide) (Nat.le_of_ble_eq_true rfl)
  have ne_op_dr : nq op dr := Ne.symm ne_dr_op
  have ne_dr_mk : nq dr mk := pw_ne hap 3 8 (by decide) (Nat.le_of_ble_eq_true rfl)
  have ne_mk_dr : nq mk dr := Ne.symm ne_dr_mk
  have ne_dr_ir : nq dr ir := pw_ne hap 3 9 (by decide) (Nat.le_of_ble_eq_true rfl)
  have ne_ir_dr : nq ir dr := Ne.symm ne_dr_ir
  have ne_dr_se : nq dr se := pw_ne hap 3 10 (by decide) (Nat.le_of_ble_eq_true rfl)
  have ne_se_dr : nq se dr := Ne.symm ne_dr_se
  have ne_dr_ec : nq dr ec := pw_ne hap 3 11 (by decide) (Nat.le_of_ble_eq_true rfl)
  have ne_ec_dr : nq ec dr := Ne.symm ne_dr_ec
  have ne_dr_lc : nq dr lc := pw_ne hap 3 12 (by decide) (Nat.le_of_ble_eq_true rfl)
  have ne_lc_dr : nq lc dr := Ne.symm ne_dr_lc
  have ne_dr_wc : nq dr wc := pw_ne hap 3 13 (by decide) (Nat.le_of_ble_eq_true rfl)
  have ne_wc_dr : nq wc dr := Ne.symm ne_dr_wc
  have ne_dr_ol : nq dr ol := pw_ne hap 3 14 (by decide) (Nat.le_of_ble_eq_true rfl)
  have ne_ol_dr : nq ol dr := Ne.symm ne_dr_ol
  have ne_dr_al : nq dr al := pw_ne hap 3 15 (by decide) (Nat.le_of_ble_eq_true rfl)
  have ne_al_dr : nq al dr := Ne.symm ne_dr_al
  have ne_en_la : nq en la := pw_ne hap 4 5 (by decide) (Nat.le_of_ble_eq_true rfl)
  have ne_la_en : nq la en := Ne.symm ne_en_la
  have ne_en_wo : nq en wo := pw_ne hap 4 6 (by decide) (Nat.le_of_ble_eq_true rfl)
  have ne_wo_en : nq wo en := Ne.symm ne_en_wo
  have ne_en_op : nq en op := pw_ne hap 4 7 (by decide) (Nat.le_of_ble_eq_true rfl)
  have ne_op_en : nq op en := Ne.symm ne_en_op
  have ne_en_mk : nq en mk := pw_ne hap 4 8 (by decide) (Nat.le_of_ble_eq_true rfl)
  have ne_mk_en : nq mk en := Ne.symm ne_en_mk
  have ne_en_ir : nq en ir := pw_ne hap 4 9 (by decide) (Nat.le_of_ble_eq_true rfl)
  have ne_ir_en : nq ir en := Ne.symm ne_en_ir
  have ne_en_se : nq en se := pw_ne hap 4 10 (by decide) (Nat.le_of_ble_eq_true rfl)
  have ne_se_en : nq se en := Ne.symm ne_en_se
  have ne_en_ec : nq en ec := pw_ne hap 4 11 (by decide) (Nat.le_of_ble_eq_true rfl)
  have ne_ec_en : nq ec en := Ne.symm ne_en_ec
  have ne_en_lc : nq en lc := pw_ne hap 4 12 (by decide) (Nat.le_of_ble_eq_true rfl)
  have ne_lc_en : nq lc en := Ne.symm ne_en_lc
  have ne_en_wc : nq en wc := pw_ne hap 4 13 (by decide) (Nat.le_of_ble_eq_true rfl)
  have ne_wc_en : nq wc en := Ne.symm ne_en_wc
  have ne_en_ol : nq en ol := pw_ne hap 4 14 (by decide) (Nat.le_of_ble_eq_true rfl)
  have ne_ol_en : nq ol en := Ne.symm ne_en_ol
  have ne_en_al : nq en al := pw_ne hap 4 15 (by decide) (Nat.le_of_ble_eq_true rfl)
  have ne_al_en : nq al en := Ne.symm ne_en_al
  have ne_la_wo : nq la wo := pw_ne hap 5 6 (by decide) (Nat.le_of_ble_eq_true rfl)
  have ne_wo_la : nq wo la := Ne.symm ne_la_wo
  have ne_la_op : nq la op := pw_ne hap 5 7 (by decide) (Nat.le_of_ble_eq_true rfl)
  have ne_op_la : nq op la := Ne.symm ne_la_op
  have ne_la_mk : nq la mk := pw_ne hap 5 8 (by decide) (Nat.le_of_ble_eq_true rfl)
  have ne_mk_la : nq mk la := Ne.symm ne_la_mk
  have ne_la_ir : nq la ir := pw_ne hap 5 9 (by decide) (Nat.le_of_ble_eq_true rfl)
  have ne_ir_la : nq ir la := Ne.symm ne_la_ir
  have ne_la_se : nq la se := pw_ne hap 5 10 (by decide) (Nat.le_of_ble_eq_true rfl)
  have ne_se_la : nq se la := Ne.symm ne_la_se
  have ne_la_ec : nq la ec := pw_ne hap 5 11 (by decide) (Nat.le_of_ble_eq_true rfl)
  have ne_ec_la : nq ec la := Ne.symm ne_la_ec
  have ne_la_lc : nq la lc := pw_ne hap 5 12 (by decide) (Nat.le_of_ble_eq_true rfl)
  have ne_lc_la : nq lc la := Ne.symm ne_la_lc
  have ne_la_wc : nq la wc := pw_ne hap 5 13 (by decide) (Nat.le_of_ble_eq_true rfl)
  have ne_wc_la : nq wc la := Ne.symm ne_la_wc
  have ne_la_ol : nq la ol := pw_ne hap 5 14 (by decide) (Nat.le_of_ble_eq_true rfl)
  have ne_ol_la : nq ol la := Ne.symm ne_la_ol
  have ne_la_al : nq la al := pw_ne hap 5 15 (by decide) (Nat.le_of_ble_eq_true rfl)
  have ne_al_la : nq al la := Ne.symm ne_la_al
  have ne_wo_op : nq wo op := pw_ne hap 6 7 (by decide) (Nat.le_of_ble_eq_true rfl)
  have ne_op_wo : nq op wo := Ne.symm ne_wo_op
  have ne_wo_mk : nq wo mk := pw_ne hap 6 8 (by decide) (Nat.le_of_ble_eq_true rfl)
  have ne_mk_wo : nq mk wo := Ne.symm ne_wo_mk
  have ne_wo_ir : nq wo ir := pw_ne hap 6 9 (by decide) (Nat.le_of_ble_eq_true rfl)
  have ne_ir_wo : nq ir wo := Ne.symm ne_wo_ir
  have ne_wo_se : nq wo se := pw_ne hap 6 10 (by decide) (Nat.le_of_ble_eq_true rfl)
  have ne_se_wo : nq se wo := Ne.symm ne_wo_se
  have ne_wo_ec : nq wo ec := pw_ne hap 6 11 (by decide) (Nat.le_of_ble_eq_true rfl)
  have ne_ec_wo : nq ec wo := Ne.symm ne_wo_ec
  have ne_wo_lc : nq wo lc := pw_ne hap 6 12 (by decide) (Nat.le_of_ble_eq_true rfl)
  have ne_lc_wo : nq lc wo := Ne.symm ne_wo_lc
  have ne_wo_wc : nq wo wc := pw_ne hap 6 13 (by decide) (Nat.le_of_ble_eq_true rfl)
  have ne_wc_wo : nq wc wo := Ne.symm ne_wo_wc
  have ne_wo_ol : nq wo ol := pw_ne hap 6 14 (by decide) (Nat.le_of_ble_eq_true rfl)
  have ne_ol_wo : nq ol wo := Ne.symm ne_wo_ol
  have ne_wo_al : nq wo al := pw_ne hap 6 15 (by decide) (Nat.le_of_ble_eq_true rfl)
  have ne_al_wo : nq al wo := Ne.symm ne_wo_al
  have ne_op_mk : nq op mk := pw_ne hap 7 8 (by decide) (Nat.le_of_ble_eq_true rfl)
  have ne_mk_op : nq mk op := Ne.symm ne_op_mk
  have ne_op_ir : nq op ir := pw_ne hap 7 9 (by decide) (Nat.le_of_ble_eq_true rfl)
  have ne_ir_op : nq ir op := Ne.symm ne_op_ir
  have ne_op_se : nq op se := pw_ne hap 7 10 (by decide) (Nat.le_of_ble_eq_true rfl)
  have ne_se_op : nq se op := Ne.symm ne_op_se
  have ne_op_ec : nq op ec := pw_ne hap 7 11 (by decide) (Nat.le_of_ble_eq_true rfl)
  have ne_ec_op : nq ec op := Ne.symm ne_op_ec
  have ne_op_lc : nq op lc := pw_ne hap 7 12 (by decide) (Nat.le_of_ble_eq_true rfl)
  have ne_lc_op : nq lc op := Ne.symm ne_op_lc
  have ne_op_wc : nq op wc := pw_ne hap 7 13 (by decide) (Nat.le_of_ble_eq_true rfl)
  have ne_wc_op : nq wc op := Ne.symm ne_op_wc
  have ne_op_ol : nq op ol := pw_ne hap 7 14 (by decide) (Nat.le_of_ble_eq_true rfl)
  have ne_ol_op : nq ol op := Ne.symm ne_op_ol
  have ne_op_al : nq op al := pw_ne hap 7 15 (by decide) (Nat.le_of_ble_eq_true rfl)
  have ne_al_op : nq al op := Ne.symm ne_op_al
  have ne_mk_ir : nq mk ir := pw_ne hap 8 9 (by decide) (Nat.le_of_ble_eq_true rfl)
  have ne_ir_mk : nq ir mk := Ne.symm ne_mk_ir
  have ne_mk_se : nq mk se := pw_ne hap 8 10 (by decide) (Nat.le_of_ble_eq_true rfl)
  have ne_se_mk : nq se mk := Ne.symm ne_mk_se
  have ne_mk_ec : nq mk ec := pw_ne hap 8 11 (by decide) (Nat.le_of_ble_eq_true rfl)
  have ne_ec_mk : nq ec mk := Ne.symm ne_mk_ec
  have ne_mk_lc : nq mk lc := pw_ne hap 8 12 (by decide) (Nat.le_of_ble_eq_true rfl)
  have ne_lc_mk : nq lc mk := Ne.symm ne_mk_lc
  have ne_mk_wc : nq mk wc := pw_ne hap 8 13 (by decide) (Nat.le_of_ble_eq_true rfl)
  have ne_wc_mk : nq wc mk := Ne.symm ne_mk_wc
  have ne_mk_ol : nq mk ol := pw_ne hap 8 14 (by decide) (Nat.le_of_ble_eq_true rfl)
  have ne_ol_mk : nq ol mk := Ne.symm ne_mk_ol
  have ne_mk_al : nq mk al := pw_ne hap 8 15 (by decide) (Nat.le_of_ble_eq_true rfl)
  have ne_al_mk : nq al mk := Ne.symm ne_mk_al
  have ne_ir_se : nq ir se := pw_ne hap 9 10 (by decide) (Nat.le_of_ble_eq_true rfl)
  have ne_se_ir : nq se ir := Ne.symm ne_ir_se
  have ne_ir_ec : nq ir ec := pw_ne hap 9 11 (by decide) (Nat.le_of_ble_eq_true rfl)
  have ne_ec_ir : nq ec ir := Ne.symm ne_ir_ec
  have ne_ir_lc : nq ir lc := pw_ne hap 9 12 (by decide) (Nat.le_of_ble_eq_true rfl)
  have ne_lc_ir : nq lc ir := Ne.symm ne_ir_lc
  have ne_ir_wc : nq ir wc := pw_ne hap 9 13 (by decide) (Nat.le_of_ble_eq_true rfl)
  have ne_wc_ir : nq wc ir := Ne.symm ne_ir_wc
  have ne_ir_ol : nq ir ol := pw_ne hap 9 14 (by decide) (Nat.le_of_ble_eq_true rfl)
  have ne_ol_ir : nq ol ir := Ne.symm ne_ir_ol
  have ne_ir_al : nq ir al := pw_ne hap 9 15 (by decide) (Nat.le_of_ble_eq_true rfl)
  have ne_al_ir : nq al ir := Ne.symm ne_ir_al
  have ne_se_ec : nq se ec := pw_ne hap 10 11 (by decide) (Nat.le_of_ble_eq_true rfl)
  have ne_ec_se : nq ec se := Ne.symm ne_se_ec
  have ne_se_lc : nq se lc := pw_ne hap 10 12 (by decide) (Nat.le_of_ble_eq_true rfl)
  have ne_lc_se : nq lc se := Ne.symm ne_se_lc
  have ne_se_wc : nq se wc := pw_ne hap 10 13 (by decide) (Nat.le_of_ble_eq_true rfl)
  have ne_wc_se : nq wc se := Ne.symm ne_se_wc
  have ne_se_ol : nq se ol := pw_ne hap 10 14 (by decide) (Nat.le_of_ble_eq_true rfl)
  have ne_ol_se : nq ol se := Ne.symm ne_se_ol
  have ne_se_al : nq se al := pw_ne hap 10 15 (by decide) (Nat.le_of_ble_eq_true rfl)
  have ne_al_se : nq al se := Ne.symm ne_se_al
  have ne_ec_lc : nq ec lc := pw_ne hap 11 12 (by decide) (Nat.le_of_ble_eq_true rfl)
  have ne_lc_ec : nq lc ec := Ne.symm ne_ec_lc
  have ne_ec_wc : nq ec wc := pw_ne hap 11 13 (by decide) (Nat.le_of_ble_eq_true rfl)
  have ne_wc_ec : nq wc ec := Ne.symm ne_ec_wc
  have ne_ec_ol : nq ec ol := pw_ne hap 11 14 (by decide) (Nat.le_of_ble_eq_true rfl)
  have ne_ol_ec : nq ol ec := Ne.symm ne_ec_ol
  have ne_ec_al : nq ec al := pw_ne hap 11 15 (by decide) (Nat.le_of_ble_eq_true rfl)
  have ne_al_ec : nq al ec := Ne.symm ne_ec_al
  have ne_lc_wc : nq lc wc := pw_ne hap 12 13 (by decide) (Nat.le_of_ble_eq_true rfl)
  have ne_wc_lc : nq wc lc := Ne.symm ne_lc_wc
  have ne_lc_ol : nq lc ol := pw_ne hap 12 14 (by decide) (Nat.le_of_ble_eq_true rfl)
  have ne_ol_lc : nq ol lc := Ne.symm ne_lc_ol
  have ne_lc_al : nq lc al := pw_ne hap 12 15 (by decide) (Nat.le_of_ble_eq_true rfl)
  have ne_al_lc : nq al lc := Ne.symm ne_lc_al
  have ne_wc_ol : nq wc ol := pw_ne hap 13 14 (by decide) (Nat.le_of_ble_eq_true rfl)
  have ne_ol_wc : nq ol wc := Ne.symm ne_wc_ol
  have ne_wc_al : nq wc al := pw_ne hap 13 15 (by decide) (Nat.le_of_ble_eq_true rfl)
  have ne_al_wc : nq al wc := Ne.symm ne_wc_al
  have ne_ol_al : nq ol al := pw_ne hap 14 15 (by decide) (Nat.le_of_ble_eq_true rfl)
  have ne_al_ol : nq al ol := Ne.symm ne_ol_al
  have hkp : kpx (fun a => a ∈ [mo, cn, ia, dr, en, la, wo, op, mk, ir, se, ec, lc, wc, ol, al]) M M := kpx.refl _ _
  refine lv_iload_n hx hb dX6_setValue_0 rfl (lv_at hl 2 rfl) ?_
  refine lv_bipush (v := 15) hx hb dX6_setValue_1 (by decide) ?_
  refine lv_icmp_ge (tgt := 23) hx hb dX6_setValue_3 (by decide) (fun c1 => ?_) (fun c1 => ?_)
  · have hge3 : 15 ≤ c9c := (nI_leI (a := 15) (by decide) (by omega)).mp c1
    refine lv_iload_n hx hb dX6_setValue_23 rfl (lv_at hl 2 rfl) ?_
    refine lv_bipush (v := 30) hx hb dX6_setValue_24 (by decide) ?_
    refine lv_icmp_ne (tgt := 39) hx hb dX6_setValue_26 (by decide) (fun c2 => ?_) (fun c2 => ?_)
    · have hne26 : c9c ≠ 30 := fun q => c2 (by rw [q]; rfl)
      refine lv_aload_n hx hb dX6_setValue_39 rfl (lv_at hl 0 rfl) ?_
      refine m_get (T := TX6) (N := 24) (ci := 6) (v := .ref wo) hx hb hts wX6 hown hK hm hM rfl 6 (by decide) f28 (fun _ h9 => h9) rfl dX6_setValue_40 ?_
      refine lv_bipush (v := 64) hx hb dX6_setValue_43 (by decide) ?_
      refine lv_iload_n hx hb dX6_setValue_45 rfl (lv_at hl 1 rfl) ?_
      refine lv_imul hx hb dX6_setValue_46 ?_
      refine W.eq (g2 := F0 m 47 ls [.int (nI (64 * n9)), .ref wo]) (by rw [show ((64) * ((nI n9)) : Int32) = nI (64 * n9) from pk_mul 64 n9]) ?_
      refine lv_iload_n hx hb dX6_setValue_47 rfl (lv_at hl 2 rfl) ?_
      refine lv_iadd hx hb dX6_setValue_48 ?_
      refine W.eq (g2 := F0 m 49 ls [.int (nI ((64 * n9) + c9c)), .ref wo]) (by rw [show (((nI (64 * n9))) + ((nI c9c)) : Int32) = nI ((64 * n9) + c9c) from nI_add (64 * n9) c9c]) ?_
      refine lv_bipush (v := 31) hx hb dX6_setValue_49 (by decide) ?_
      refine lv_isub hx hb dX6_setValue_51 ?_
      refine W.eq (g2 := F0 m 52 ls [.int (nI (((64 * n9) + c9c) - 31)), .ref wo]) (by rw [show (((nI ((64 * n9) + c9c))) - (31) : Int32) = nI (((64 * n9) + c9c) - 31) from pk_sub (a := ((64 * n9) + c9c)) (b := 31) (by omega)]) ?_
      refine lv_iload_n hx hb dX6_setValue_52 rfl (lv_at hl 3 rfl) ?_
      refine m_iast hx hb hK hm hS 0 hwo rfl (vp_in_nI (by omega) (by decide)) dX6_setValue_53 (fun H locs hm hS => ?_)
      have hm : mm D (AZ z) (mu M wo (.inl (k 0, 204800, .inl (upd fwo ((nI (((64 * n9) + c9c) - 31))).toNatClampNeg x9)))) H := hm
      have hkp : kpx (fun a => a ∈ [mo, cn, ia, dr, en, la, wo, op, mk, ir, se, ec, lc, wc, ol, al]) M (mu M wo (.inl (k 0, 204800, .inl (upd fwo ((nI (((64 * n9) + c9c) - 31))).toNatClampNeg x9)))) := (hkp).self (by simp)
      refine W.vret hx hb hr (fun t ht hW => ⟨⟨none, _, rfl, ?_, by rw [ht]; exact hm⟩, hS.F ht⟩) hS.2.2 dX6_setValue_54
      exact ⟨rfl, ⟨_, _, _, _, _, _, _, fcn, fia, fdr, fen, fla, (upd fwo ((nI (((64 * n9) + c9c) - 31))).toNatClampNeg x9), fop, fmk, fir, fse, fec, flc, fol, fal, fwc, hap, ((mu_ne ne_mo_wo).trans hM), hmd, ⟨hrC, hrL, hrM⟩, ((mu_ne ne_cn_wo).trans hcn), ((mu_ne ne_ia_wo).trans hia), ((mu_ne ne_dr_wo).trans hdr), ((mu_ne ne_en_wo).trans hen), ((mu_ne ne_la_wo).trans hla), (mu_self _ _ _), ((mu_ne ne_op_wo).trans hop), ((mu_ne ne_mk_wo).trans hmk), ((mu_ne ne_ir_wo).trans hir), ((mu_ne ne_se_wo).trans hse), ((mu_ne ne_ec_wo).trans hec), ((mu_ne ne_lc_wo).trans hlc), ((mu_ne ne_wc_wo).trans hwc), ((mu_ne ne_ol_wo).trans hol), ((mu_ne ne_al_wo).trans hal)⟩, hkp⟩
    · have h30 : c9c = 30 := by
        have q1 := (nI_leI (a := c9c) (b := 30) (by omega) (by decide)).mp (by rw [c2]; exact Int32.le_refl _)
        omega
      obtain ⟨y9, hy9, rfl⟩ := hx9 h30
      refine lv_aload_n hx hb dX6_setValue_29 rfl (lv_at hl 0 rfl) ?_
      refine m_get (T := TX6) (N := 24) (ci := 6) (v := .ref la) hx hb hts wX6 hown hK hm hM rfl 5 (by decide) f24 (fun _ h9 => h9) rfl dX6_setValue_30 ?_
      refine lv_iload_n hx hb dX6_setValue_33 rfl (lv_at hl 1 rfl) ?_
      refine lv_iload_n hx hb dX6_setValue_34 rfl (lv_at hl 3 rfl) ?_
      refine m_iast hx hb hK hm hS 0 hla rfl (vp_in_nI (by omega) (by decide)) dX6_setValue_35 (fun H locs hm hS => ?_)
      have hrL : rng bL (upd fla ((nI n9)).toNatClampNeg (nI y9)) := (hrL).up _ y9 (show y9 ≤ 64 by omega)
      have hm : mm D (AZ z) (mu M la (.inl (k 0, 3200, .inl (upd fla ((nI n9)).toNatClampNeg (nI y9))))) H := hm
      have hkp : kpx (fun a => a ∈ [mo, cn, ia, dr, en, la, wo, op, mk, ir, se, ec, lc, wc, ol, al]) M (mu M la (.inl (k 0, 3200, .inl (upd fla ((nI n9)).toNatClampNeg (nI y9))))) := (hkp).self (by simp)
      refine lv_goto (tgt := 54) hx hb dX6_setValue_36 (by decide) ?_
      refine W.vret hx hb hr (fun t ht hW => ⟨⟨none, _, rfl, ?_, by rw [ht]; exact hm⟩, hS.F ht⟩) hS.2.2 dX6_setValue_54
      exact ⟨rfl, ⟨_, _, _, _, _, _, _, fcn, fia, fdr, fen, (upd fla ((nI n9)).toNatClampNeg (nI y9)), fwo, fop, fmk, fir, fse, fec, flc, fol, fal, fwc, hap, ((mu_ne ne_mo_la).trans hM), hmd, ⟨hrC, hrL, hrM⟩, ((mu_ne ne_cn_la).trans hcn), ((mu_ne ne_ia_la).trans hia), ((mu_ne ne_dr_la).trans hdr), ((mu_ne ne_en_la).trans hen), (mu_self _ _ _), ((mu_ne ne_wo_la).trans hwo), ((mu_ne ne_op_la).trans hop), ((mu_ne ne_mk_la).trans hmk), ((mu_ne ne_ir_la).trans hir), ((mu_ne ne_se_la).trans hse), ((mu_ne ne_ec_la).trans hec), ((mu_ne ne_lc_la).trans hlc), ((mu_ne ne_wc_la).trans hwc), ((mu_ne ne_ol_la).trans hol), ((mu_ne ne_al_la).trans hal)⟩, hkp⟩
  · have hlt3 : c9c < 15 := Nat.lt_of_not_le fun q => c1 (nI_le (a := 15) q (by omega))
    refine lv_aload_n hx hb dX6_setValue_6 rfl (lv_at hl 0 rfl) ?_
    refine m_get (T := TX6) (N := 24) (ci := 6) (v := .ref en) hx hb hts wX6 hown hK hm hM rfl 4 (by decide) f21 (fun _ h9 => h9) rfl dX6_setValue_7 ?_
    refine lv_bipush (v := 16) hx hb dX6_setValue_10 (by decide) ?_
    refine lv_iload_n hx hb dX6_setValue_12 rfl (lv_at hl 1 rfl) ?_
    refine lv_imul hx hb dX6_setValue_13 ?_
    refine W.eq (g2 := F0 m 14 ls [.int (nI (16 * n9)), .ref en]) (by rw [show ((16) * ((nI n9)) : Int32) = nI (16 * n9) from pk_mul 16 n9]) ?_
    refine lv_iload_n hx hb dX6_setValue_14 rfl (lv_at hl 2 rfl) ?_
    refine lv_iadd hx hb dX6_setValue_15 ?_
    refine W.eq (g2 := F0 m 16 ls [.int (nI ((16 * n9) + c9c)), .ref en]) (by rw [show (((nI (16 * n9))) + ((nI c9c)) : Int32) = nI ((16 * n9) + c9c) from nI_add (16 * n9) c9c]) ?_
    refine lv_iconst (v := 1) hx hb dX6_setValue_16 (by decide) ?_
    refine lv_iadd hx hb dX6_setValue_17 ?_
    refine W.eq (g2 := F0 m 18 ls [.int (nI (((16 * n9) + c9c) + 1)), .ref en]) (by rw [show (((nI ((16 * n9) + c9c))) + (1) : Int32) = nI (((16 * n9) + c9c) + 1) from nI_add ((16 * n9) + c9c) 1]) ?_
    refine lv_iload_n hx hb dX6_setValue_18 rfl (lv_at hl 3 rfl) ?_
    refine m_iast hx hb hK hm hS 0 hen rfl (vp_in_nI (by omega) (by decide)) dX6_setValue_19 (fun H locs hm hS => ?_)
    have hm : mm D (AZ z) (mu M en (.inl (k 0, 51200, .inl (upd fen ((nI (((16 * n9) + c9c) + 1))).toNatClampNeg x9)))) H := hm
    have hkp : kpx (fun a => a ∈ [mo, cn, ia, dr, en, la, wo, op, mk, ir, se, ec, lc, wc, ol, al]) M (mu M en (.inl (k 0, 51200, .inl (upd fen ((nI (((16 * n9) + c9c) + 1))).toNatClampNeg x9)))) := (hkp).self (by simp)
    refine lv_goto (tgt := 54) hx hb dX6_setValue_20 (by decide) ?_
    refine W.vret hx hb hr (fun t ht hW => ⟨⟨none, _, rfl, ?_, by rw [ht]; exact hm⟩, hS.F ht⟩) hS.2.2 dX6_setValue_54
    exact ⟨rfl, ⟨_, _, _, _, _, _, _, fcn, fia, fdr, (upd fen ((nI (((16 * n9) + c9c) + 1))).toNatClampNeg x9), fla, fwo, fop, fmk, fir, fse, fec, flc, fol, fal, fwc, hap, ((mu_ne ne_mo_en).trans hM), hmd, ⟨hrC, hrL, hrM⟩, ((mu_ne ne_cn_en).trans hcn), ((mu_ne ne_ia_en).trans hia), ((mu_ne ne_dr_en).trans hdr), (mu_self _ _ _), ((mu_ne ne_la_en).trans hla), ((mu_ne ne_wo_en).trans hwo), ((mu_ne ne_op_en).trans hop), ((mu_ne ne_mk_en).trans hmk), ((mu_ne ne_ir_en).trans hir), ((mu_ne ne_se_en).trans hse), ((mu_ne ne_ec_en).trans hec), ((mu_ne ne_lc_en).trans hlc), ((mu_ne ne_wc_en).trans hwc), ((mu_ne ne_ol_en).trans hol), ((mu_ne ne_al_en).trans hal)⟩, hkp⟩

set_option maxHeartbeats 4000000 in
set_option maxRecDepth 100000 in
theorem s_X6_come (l : Launch) (D : va_G) (k : Nat → ClassId) (z : Nat) (M : mM) (mo cn ia dr en la wo op mk ir se ec lc wc ol al : Nat) (dn md : Int32)  (n9 c9c : Nat) (hn9 : n9 < 100) (hc9 : c9c < 95) (hI : mI k M mo cn ia dr en la wo op mk ir se ec lc wc ol al dn md) : mK l yX6_come wsX6_come ({ frames := 0, cells := 0, slots := 0, locals := 0 }) D k z [.ref mo, .int (nI n9), .int (nI c9c)] M (fun v M' => (v = none) ∧ mI k M' mo cn ia dr en la wo op mk ir se ec lc wc ol al dn md ∧ kpx (fun a => a ∈ [mo, cn, ia, dr, en, la, wo, op, mk, ir, se, ec, lc, wc, ol, al]) M M') := by
  refine Met.ofW (cc := cX6_come) (maxL := 3) (ret := none) (by decide) rfl ?_
  intro p e s m args below meth c s₁ B hml hv
  obtain ⟨rfl, hz, hcx, hm⟩ := hv
  have hx := B.exec
  have hb := B.bytes
  have hr := B.returns
  have hts := atoms_spec (ws := wsX6_come) B.pre
  have hown : s.vm.findClass RX6 = some m.cls := findClass_of_methodNamed B.named
  have hlocks := B.notSynchronized
  have hK := hcx.1
  have hS : va_S (AZ z) s.heap s.heap [] := va_S.rf
  have hA : ∀ q, s.heap.size ≤ q → AZ z q := fun q h => Nat.le_trans hz h
  have hl := lv_entry ([.ref mo, .int (nI n9), .int (nI c9c)]) (n := 3) (Nat.le_of_ble_eq_true rfl)
  rw [lg_entry_eq]
  generalize (lg_sl ([.ref mo, .int (nI n9), .int (nI c9c)]) ++ List.replicate (3 - (lg_sl ([.ref mo, .int (nI n9), .int (nI c9c)])).length) Slot.unset).toArray = ls at hl ⊢
  have hl : lv_has ls 3 [(0, .ref mo), (1, .int (nI n9)), (2, .int (nI c9c))] := hl
  have f51 := hts (.fieldLink RX6 51 "CommitTreeModel" "entryComes" "[I") (by decide +kernel)
  have f54 := hts (.fieldLink RX6 54 "CommitTreeModel" "lengthComes" "[Z") (by decide +kernel)
  have f57 := hts (.fieldLink RX6 57 "CommitTreeModel" "wordComes" "[J") (by decide +kernel)
  have f118 := hts (.fieldLink RX6 118 "CommitTreeModel" "comes" "I") (by decide +kernel)
  have wX6 : ∀ w ∈ wsX60, w ∈ wsX6_come := by decide +kernel
  obtain ⟨cd, ni, pw, cm, wr, cs, hm9, fcn, fia, fdr, fen, fla, fwo, fop, fmk, fir, fse, fec, flc, fol, fal, fwc, hap, hM, hmd, ⟨hrC, hrL, hrM⟩, hcn, hia, hdr, hen, hla, hwo, hop, hmk, hir, hse, hec, hlc, hwc, hol, hal⟩ := id hI
  have ne_mo_cn : nq mo cn := pw_ne hap 0 1 (by decide) (Nat.le_of_ble_eq_true rfl)
  have ne_cn_mo : nq cn mo := Ne.symm ne_mo_cn
  have ne_mo_ia : nq mo ia := pw_ne hap 0 2 (by decide) (Nat.le_of_ble_eq_true rfl)
  have ne_ia_mo : nq ia mo := Ne.symm ne_mo_ia
  have ne_mo_dr : nq mo dr := pw_ne hap 0 3 (by decide) (Nat.le_of_ble_eq_true rfl)
  have ne_dr_mo : nq dr mo := Ne.symm ne_mo_dr
  have ne_mo_en : nq mo en := pw_ne hap 0 4 (by decide) (Nat.le_of_ble_eq_true rfl)
  have ne_en_mo : nq en mo := Ne.symm ne_mo_en
  have ne_mo_la : nq mo la := pw_ne hap 0 5 (by decide) (Nat.le_of_ble_eq_true rfl)
  have ne_la_mo : nq la mo := Ne.symm ne_mo_la
  have ne_mo_wo : nq mo wo := pw_ne hap 0 6 (by decide) (Nat.le_of_ble_eq_true rfl)
  have ne_wo_mo : nq wo mo := Ne.symm ne_mo_wo
  have ne_mo_op : nq mo op := pw_ne hap 0 7 (by decide) (Nat.le_of_ble_eq_true rfl)
  have ne_op_mo : nq op mo := Ne.symm ne_mo_op
  have ne_mo_mk : nq mo mk := pw_ne hap 0 8 (by decide) (Nat.le_of_ble_eq_true rfl)
  have ne_mk_mo : nq mk mo := Ne.symm ne_mo_mk
  have ne_mo_ir : nq mo ir := pw_ne hap 0 9 (by decide) (Nat.le_of_ble_eq_true rfl)
  have ne_ir_mo : nq ir mo := Ne.symm ne_mo_ir
  have ne_mo_se : nq mo se := pw_ne hap 0 10 (by decide) (Nat.le_of_ble_eq_true rfl)
  have ne_se_mo : nq se mo := Ne.symm ne_mo_se
  have ne_mo_ec : nq mo ec := pw_ne hap 0 11 (by decide) (Nat.le_of_ble_eq_true rfl)
  have ne_ec_mo : nq ec mo := Ne.symm ne_mo_ec
  have ne_mo_lc : nq mo lc := pw_ne hap 0 12 (by decide) (Nat.le_of_ble_eq_true rfl)
  have ne_lc_mo : nq lc mo := Ne.symm ne_mo_lc
  have ne_mo_wc : nq mo wc := pw_ne hap 0 13 (by decide) (Nat.le_of_ble_eq_true rfl)
  have ne_wc_mo : nq wc mo := Ne.symm ne_mo_wc
  have ne_mo_ol : nq mo ol := pw_ne hap 0 14 (by decide) (Nat.le_of_ble_eq_true rfl)
  have ne_ol_mo : nq ol mo := Ne.symm ne_mo_ol
  have ne_mo_al : nq mo al := pw_ne hap 0 15 (by decide) (Nat.le_of_ble_eq_true rfl)
  have ne_al_mo : nq al mo := Ne.symm ne_mo_al
  have ne_cn_ia : nq cn ia := pw_ne hap 1 2 (by decide) (Nat.le_of_ble_eq_true rfl)
  have ne_ia_cn : nq ia cn := Ne.symm ne_cn_ia
  have ne_cn_dr : nq cn dr := pw_ne hap 1 3 (by decide) (Nat.le_of_ble_eq_true rfl)
  have ne_dr_cn : nq dr cn := Ne.symm ne_cn_dr
  have ne_cn_en : nq cn en := pw_ne hap 1 4 (by decide) (Nat.le_of_ble_eq_true rfl)
  have ne_en_cn : nq en cn := Ne.symm ne_cn_en
  have ne_cn_la : nq cn la := pw_ne hap 1 5 (by decide) (Nat.le_of_ble_eq_true rfl)
  have ne_la_cn : nq la cn := Ne.symm ne_cn_la
  have ne_cn_wo : nq cn wo := pw_ne hap 1 6 (by decide) (Nat.le_of_ble_eq_true rfl)
  have ne_wo_cn : nq wo cn := Ne.symm ne_cn_wo
  have ne_cn_op : nq cn op := pw_ne hap 1 7 (by decide) (Nat.le_of_ble_eq_true rfl)
  have ne_op_cn : nq op cn := Ne.symm ne_cn_op
  have ne_cn_mk : nq cn mk := pw_ne hap 1 8 (by decide) (Nat.le_of_ble_eq_true rfl)
  have ne_mk_cn : nq mk cn := Ne.symm ne_cn_mk
  have ne_cn_ir : nq cn ir := pw_ne hap 1 9 (by decide) (Nat.le_of_ble_eq_true rfl)
  have ne_ir_cn : nq ir cn := Ne.symm ne_cn_ir
  have ne_cn_se : nq cn se := pw_ne hap 1 10 (by decide) (Nat.le_of_ble_eq_true rfl)
  have ne_se_cn : nq se cn := Ne.symm ne_cn_se
  have ne_cn_ec : nq cn ec := pw_ne hap 1 11 (by decide) (Nat.le_of_ble_eq_true rfl)
  have ne_ec_cn : nq ec cn := Ne.symm ne_cn_ec
  have ne_cn_lc : nq cn lc := pw_ne hap 1 12 (by decide) (Nat.le_of_ble_eq_true rfl)
  have ne_lc_cn : nq lc cn := Ne.symm ne_cn_lc
  have ne_cn_wc : nq cn wc := pw_ne hap 1 13 (by decide) (Nat.le_of_ble_eq_true rfl)
  have ne_wc_cn : nq wc cn := Ne.symm ne_cn_wc
  have ne_cn_ol : nq cn ol := pw_ne hap 1 14 (by decide) (Nat.le_of_ble_eq_true rfl)
  have ne_ol_cn : nq ol cn := Ne.symm ne_cn_ol
  have ne_cn_al : nq cn al := pw_ne hap 1 15 (by decide) (Nat.le_of_ble_eq_true rfl)
  have ne_al_cn : nq al cn := Ne.symm ne_cn_al
  have ne_ia_dr : nq ia dr := pw_ne hap 2 3 (by decide) (Nat.le_of_ble_eq_true rfl)
  have ne_dr_ia : nq dr ia := Ne.symm ne_ia_dr
  have ne_ia_en : nq ia en := pw_ne hap 2 4 (by decide) (Nat.le_of_ble_eq_true rfl)
  have ne_en_ia : nq en ia := Ne.symm ne_ia_en
  have ne_ia_la : nq ia la := pw_ne hap 2 5 (by decide) (Nat.le_of_ble_eq_true rfl)
  have ne_la_ia : nq la ia := Ne.symm ne_ia_la
  have ne_ia_wo : nq ia wo := pw_ne hap 2 6 (by decide) (Nat.le_of_ble_eq_true rfl)
  have ne_wo_ia : nq wo ia := Ne.symm ne_ia_wo
  have ne_ia_op : nq ia op := pw_ne hap 2 7 (by decide) (Nat.le_of_ble_eq_true rfl)
  have ne_op_ia : nq op ia := Ne.symm ne_ia_op
  have ne_ia_mk : nq ia mk := pw_ne hap 2 8 (by decide) (Nat.le_of_ble_eq_true rfl)
  have ne_mk_ia : nq mk ia := Ne.symm ne_ia_mk
  have ne_ia_ir : nq ia ir := pw_ne hap 2 9 (by decide) (Nat.le_of_ble_eq_true rfl)
  have ne_ir_ia : nq ir ia := Ne.symm ne_ia_ir
  have ne_ia_se : nq ia se := pw_ne hap 2 10 (by decide) (Nat.le_of_ble_eq_true rfl)
  have ne_se_ia : nq se ia := Ne.symm ne_ia_se
  have ne_ia_ec : nq ia ec := pw_ne hap 2 11 (by decide) (Nat.le_of_ble_eq_true rfl)
  have ne_ec_ia : nq ec ia := Ne.symm ne_ia_ec
  have ne_ia_lc : nq ia lc := pw_ne hap 2 12 (by decide) (Nat.le_of_ble_eq_true rfl)
  have ne_lc_ia : nq lc ia := Ne.symm ne_ia_lc
  have ne_ia_wc : nq ia wc := pw_ne hap 2 13 (by decide) (Nat.le_of_ble_eq_true rfl)
  have ne_wc_ia : nq wc ia := Ne.symm ne_ia_wc
  have ne_ia_ol : nq ia ol := pw_ne hap 2 14 (by decide) (Nat.le_of_ble_eq_true rfl)
  have ne_ol_ia : nq ol ia := Ne.symm ne_ia_ol
  have ne_ia_al : nq ia al := pw_ne hap 2 15 (by decide) (Nat.le_of_ble_eq_true rfl)
  have ne_al_ia : nq al ia := Ne.symm ne_ia_al
  have ne_dr_en : nq dr en := pw_ne hap 3 4 (by decide) (Nat.le_of_ble_eq_true rfl)
  have ne_en_dr : nq en dr := Ne.symm ne_dr_en
  have ne_dr_la : nq dr la := pw_ne hap 3 5 (by decide) (Nat.le_of_ble_eq_true rfl)
  have ne_la_dr : nq la dr := Ne.symm ne_dr_la
  have ne_dr_wo : nq dr wo := pw_ne hap 3 6 (by decide) (Nat.le_of_ble_eq_true rfl)
  have ne_wo_dr : nq wo dr := Ne.symm ne_dr_wo
  have ne_dr_op : nq dr op := pw_ne hap 3 7 (by decide) (Nat.le_of_ble_eq_true rfl)
  have ne_op_dr : nq op dr := Ne.symm ne_dr_op
  have ne_dr_mk : nq dr mk := pw_ne hap 3 8 (by decide) (Nat.le_of_ble_eq_true rfl)
  have ne_mk_dr : nq mk dr := Ne.symm ne_dr_mk
  have ne_dr_ir : nq dr ir := pw_ne hap 3 9 (by decide) (Nat.le_of_ble_eq_true rfl)
  have ne_ir_dr : nq ir dr := Ne.symm ne_dr_ir
  have ne_dr_se : nq dr se := pw_ne hap 3 10 (by decide) (Nat.le_of_ble_eq_true rfl)
  have ne_se_dr : nq se dr := Ne.symm ne_dr_se
  have ne_dr_ec : nq dr ec := pw_ne hap 3 11 (by decide) (Nat.le_of_ble_eq_true rfl)
  have ne_ec_dr : nq ec dr := Ne.symm ne_dr_ec
  have ne_dr_lc : nq dr lc := pw_ne hap 3 12 (by decide) (Nat.le_of_ble_eq_true rfl)
  have ne_lc_dr : nq lc dr := Ne.symm ne_dr_lc
  have ne_dr_wc : nq dr wc := pw_ne hap 3 13 (by decide) (Nat.le_of_ble_eq_true rfl)
  have ne_wc_dr : nq wc dr := Ne.symm ne_dr_wc
  have ne_dr_ol : nq dr ol := pw_ne hap 3 14 (by decide) (Nat.le_of_ble_eq_true rfl)
  have ne_ol_dr : nq ol dr := Ne.symm ne_dr_ol
  have ne_dr_al : nq dr al := pw_ne hap 3 15 (by decide) (Nat.le_of_ble_eq_true rfl)
  have ne_al_dr : nq al dr := Ne.symm ne_dr_al
  have ne_en_la : nq en la := pw_ne hap 4 5 (by decide) (Nat.le_of_ble_eq_true rfl)
  have ne_la_en : nq la en := Ne.symm ne_en_la
  have ne_en_wo : nq en wo := pw_ne hap 4 6 (by decide) (Nat.le_of_ble_eq_true rfl)
  have ne_wo_en : nq wo en := Ne.symm ne_en_wo
  have ne_en_op : nq en op := pw_ne hap 4 7 (by decide) (Nat.le_of_ble_eq_true rfl)
  have ne_op_en : nq op en := Ne.symm ne_en_op
  have ne_en_mk : nq en mk := pw_ne hap 4 8 (by decide) (Nat.le_of_ble_eq_true rfl)
  have ne_mk_en : nq mk en := Ne.symm ne_en_mk
  have ne_en_ir : nq en ir := pw_ne hap 4 9 (by decide) (Nat.le_of_ble_eq_true rfl)
  have ne_ir_en : nq ir en := Ne.symm ne_en_ir
  have ne_en_se : nq en se := pw_ne hap 4 10 (by decide) (Nat.le_of_ble_eq_true rfl)
  have ne_se_en : nq se en := Ne.symm ne_en_se
  have ne_en_ec : nq en ec := pw_ne hap 4 11 (by decide) (Nat.le_of_ble_eq_true rfl)
  have ne_ec_en : nq ec en := Ne.symm ne_en_ec
  have ne_en_lc : nq en lc := pw_ne hap 4 12 (by decide) (Nat.le_of_ble_eq_true rfl)
  have ne_lc_en : nq lc en := Ne.symm ne_en_lc
  have ne_en_wc : nq en wc := pw_ne hap 4 13 (by decide) (Nat.le_of_ble_eq_true rfl)
  have ne_wc_en : nq wc en := Ne.symm ne_en_wc
  have ne_en_ol : nq en ol := pw_ne hap 4 14 (by decide) (Nat.le_of_ble_eq_true rfl)
  have ne_ol_en : nq ol en := Ne.symm ne_en_ol
  have ne_en_al : nq en al := pw_ne hap 4 15 (by decide) (Nat.le_of_ble_eq_true rfl)
  have ne_al_en : nq al en := Ne.symm ne_en_al
  have ne_la_wo : nq la wo := pw_ne hap 5 6 (by decide) (Nat.le_of_ble_eq_true rfl)
  have ne_wo_la : nq wo la := Ne.symm ne_la_wo
  have ne_la_op : nq la op := pw_ne hap 5 7 (by decide) (Nat.le_of_ble_eq_true rfl)
  have ne_op_la : nq op la := Ne.symm ne_la_op
  have ne_la_mk : nq la mk := pw_ne hap 5 8 (by decide) (Nat.le_of_ble_eq_true rfl)
  have ne_mk_la : nq mk la := Ne.symm ne_la_mk
  have ne_la_ir : nq la ir := pw_ne hap 5 9 (by decide) (Nat.le_of_ble_eq_true rfl)
  have ne_ir_la : nq ir la := Ne.symm ne_la_ir
  have ne_la_se : nq la se := pw_ne hap 5 10 (by decide) (Nat.le_of_ble_eq_true rfl)
  have ne_se_la : nq se la := Ne.symm ne_la_se
  have ne_la_ec : nq la ec := pw_ne hap 5 11 (by decide) (Nat.le_of_ble_eq_true rfl)
  have ne_ec_la : nq ec la := Ne.symm ne_la_ec
  have ne_la_lc : nq la lc := pw_ne hap 5 12 (by decide) (Nat.le_of_ble_eq_true rfl)
  have ne_lc_la : nq lc la := Ne.symm ne_la_lc
  have ne_la_wc : nq la wc := pw_ne hap 5 13 (by decide) (Nat.le_of_ble_eq_true rfl)
  have ne_wc_la : nq wc la := Ne.symm ne_la_wc
  have ne_la_ol : nq la ol := pw_ne hap 5 14 (by decide) (Nat.le_of_ble_eq_true rfl)
  have ne_ol_la : nq ol la := Ne.symm ne_la_ol
  have ne_la_al : nq la al := pw_ne hap 5 15 (by decide) (Nat.le_of_ble_eq_true rfl)
  have ne_al_la : nq al la := Ne.symm ne_la_al
  have ne_wo_op : nq wo op := pw_ne hap 6 7 (by decide) (Nat.le_of_ble_eq_true rfl)
  have ne_op_wo : nq op wo := Ne.symm ne_wo_op
  have ne_wo_mk : nq wo mk := pw_ne hap 6 8 (by decide) (Nat.le_of_ble_eq_true rfl)
  have ne_mk_wo : nq mk wo := Ne.symm ne_wo_mk
  have ne_wo_ir : nq wo ir := pw_ne hap 6 9 (by decide) (Nat.le_of_ble_eq_true rfl)
  have ne_ir_wo : nq ir wo := Ne.symm ne_wo_ir
  have ne_wo_se : nq wo se := pw_ne hap 6 10 (by decide) (Nat.le_of_ble_eq_true rfl)
  have ne_se_wo : nq se wo := Ne.symm ne_wo_se
  have ne_wo_ec : nq wo ec := pw_ne hap 6 11 (by decide) (Nat.le_of_ble_eq_true rfl)
  have ne_ec_wo : nq ec wo := Ne.symm ne_wo_ec
  have ne_wo_lc : nq wo lc := pw_ne hap 6 12 (by decide) (Nat.le_of_ble_eq_true rfl)
  have ne_lc_wo : nq lc wo := Ne.symm ne_wo_lc
  have ne_wo_wc : nq wo wc := pw_ne hap 6 13 (by decide) (Nat.le_of_ble_eq_true rfl)
  have ne_wc_wo : nq wc wo := Ne.symm ne_wo_wc
  have ne_wo_ol : nq wo ol := pw_ne hap 6 14 (by decide) (Nat.le_of_ble_eq_true rfl)
  have ne_ol_wo : nq ol wo := Ne.symm ne_wo_ol
  have ne_wo_al : nq wo al := pw_ne hap 6 15 (by decide) (Nat.le_of_ble_eq_true rfl)
  have ne_al_wo : nq al wo := Ne.symm ne_wo_al
  have ne_op_mk : nq op mk := pw_ne hap 7 8 (by decide) (Nat.le_of_ble_eq_true rfl)
  have ne_mk_op : nq mk op := Ne.symm ne_op_mk
  have ne_op_ir : nq op ir := pw_ne hap 7 9 (by decide) (Nat.le_of_ble_eq_true rfl)
  have ne_ir_op : nq ir op := Ne.symm ne_op_ir
  have ne_op_se : nq op se := pw_ne hap 7 10 (by decide) (Nat.le_of_ble_eq_true rfl)
  have ne_se_op : nq se op := Ne.symm ne_op_se
  have ne_op_ec : nq op ec := pw_ne hap 7 11 (by decide) (Nat.le_of_ble_eq_true rfl)
  have ne_ec_op : nq ec op := Ne.symm ne_op_ec
  have ne_op_lc : nq op lc := pw_ne hap 7 12 (by decide) (Nat.le_of_ble_eq_true rfl)
  have ne_lc_op : nq lc op := Ne.symm ne_op_lc
  have ne_op_wc : nq op wc := pw_ne hap 7 13 (by decide) (Nat.le_of_ble_eq_true rfl)
  have ne_wc_op : nq wc op := Ne.symm ne_op_wc
  have ne_op_ol : nq op ol := pw_ne hap 7 14 (by decide) (Nat.le_of_ble_eq_true rfl)
  have ne_ol_op : nq ol op := Ne.symm ne_op_ol
  have ne_op_al : nq op al := pw_ne hap 7 15 (by decide) (Nat.le_of_ble_eq_true rfl)
  have ne_al_op : nq al op := Ne.symm ne_op_al
  have ne_mk_ir : nq mk ir := pw_ne hap 8 9 (by decide) (Nat.le_of_ble_eq_true rfl)
  have ne_ir_mk : nq ir mk := Ne.symm ne_mk_ir
  have ne_mk_se : nq mk se := pw_ne hap 8 10 (by decide) (Nat.le_of_ble_eq_true rfl)
  have ne_se_mk : nq se mk := Ne.symm ne_mk_se
  have ne_mk_ec : nq mk ec := pw_ne hap 8 11 (by decide) (Nat.le_of_ble_eq_true rfl)
  have ne_ec_mk : nq ec mk := Ne.symm ne_mk_ec
  have ne_mk_lc : nq mk lc := pw_ne hap 8 12 (by decide) (Nat.le_of_ble_eq_true rfl)
  have ne_lc_mk : nq lc mk := Ne.symm ne_mk_lc
  have ne_mk_wc : nq mk wc := pw_ne hap 8 13 (by decide) (Nat.le_of_ble_eq_true rfl)
  have ne_wc_mk : nq wc mk := Ne.symm ne_mk_wc
  have ne_mk_ol : nq mk ol := pw_ne hap 8 14 (by decide) (Nat.le_of_ble_eq_true rfl)
  have ne_ol_mk : nq ol mk := Ne.symm ne_mk_ol
  have ne_mk_al : nq mk al := pw_ne hap 8 15 (by decide) (Nat.le_of_ble_eq_true rfl)
  have ne_al_mk : nq al mk := Ne.symm ne_mk_al
  have ne_ir_se : nq ir se := pw_ne hap 9 10 (by decide) (Nat.le_of_ble_eq_true rfl)
  have ne_se_ir : nq se ir := Ne.symm ne_ir_se
  have ne_ir_ec : nq ir ec := pw_ne hap 9 11 (by decide) (Nat.le_of_ble_eq_true rfl)
  have ne_ec_ir : nq ec ir := Ne.symm ne_ir_ec
  have ne_ir_lc : nq ir lc := pw_ne hap 9 12 (by decide) (Nat.le_of_ble_eq_true rfl)
  have ne_lc_ir : nq lc ir := Ne.symm ne_ir_lc
  have ne_ir_wc : nq ir wc := pw_ne hap 9 13 (by decide) (Nat.le_of_ble_eq_true rfl)
  have ne_wc_ir : nq wc ir := Ne.symm ne_ir_wc
  have ne_ir_ol : nq ir ol := pw_ne hap 9 14 (by decide) (Nat.le_of_ble_eq_true rfl)
  have ne_ol_ir : nq ol ir := Ne.symm ne_ir_ol
  have ne_ir_al : nq ir al := pw_ne hap 9 15 (by decide) (Nat.le_of_ble_eq_true rfl)
  have ne_al_ir : nq al ir := Ne.symm ne_ir_al
  have ne_se_ec : nq se ec := pw_ne hap 10 11 (by decide) (Nat.le_of_ble_eq_true rfl)
  have ne_ec_se : nq ec se := Ne.symm ne_se_ec
  have ne_se_lc : nq se lc := pw_ne hap 10 12 (by decide) (Nat.le_of_ble_eq_true rfl)
  have ne_lc_se : nq lc se := Ne.symm ne_se_lc
  have ne_se_wc : nq se wc := pw_ne hap 10 13 (by decide) (Nat.le_of_ble_eq_true rfl)
  have ne_wc_se : nq wc se := Ne.symm ne_se_wc
  have ne_se_ol : nq se ol := pw_ne hap 10 14 (by decide) (Nat.le_of_ble_eq_true rfl)
  have ne_ol_se : nq ol se := Ne.symm ne_se_ol
  have ne_se_al : nq se al := pw_ne hap 10 15 (by decide) (Nat.le_of_ble_eq_true rfl)
  have ne_al_se : nq al se := Ne.symm ne_se_al
  have ne_ec_lc : nq ec lc := pw_ne hap 11 12 (by decide) (Nat.le_of_ble_eq_true rfl)
  have ne_lc_ec : nq lc ec := Ne.symm ne_ec_lc
  have ne_ec_wc : nq ec wc := pw_ne hap 11 13 (by decide) (Nat.le_of_ble_eq_true rfl)
  have ne_wc_ec : nq wc ec := Ne.symm ne_ec_wc
  have ne_ec_ol : nq ec ol := pw_ne hap 11 14 (by decide) (Nat.le_of_ble_eq_true rfl)
  have ne_ol_ec : nq ol ec := Ne.symm ne_ec_ol
  have ne_ec_al : nq ec al := pw_ne hap 11 15 (by decide) (Nat.le_of_ble_eq_true rfl)
  have ne_al_ec : nq al ec := Ne.symm ne_ec_al
  have ne_lc_wc : nq lc wc := pw_ne hap 12 13 (by decide) (Nat.le_of_ble_eq_true rfl)
  have ne_wc_lc : nq wc lc := Ne.symm ne_lc_wc
  have ne_lc_ol : nq lc ol := pw_ne hap 12 14 (by decide) (Nat.le_of_ble_eq_true rfl)
  have ne_ol_lc : nq ol lc := Ne.symm ne_lc_ol
  have ne_lc_al : nq lc al := pw_ne hap 12 15 (by decide) (Nat.le_of_ble_eq_true rfl)
  have ne_al_lc : nq al lc := Ne.symm ne_lc_al
  have ne_wc_ol : nq wc ol := pw_ne hap 13 14 (by decide) (Nat.le_of_ble_eq_true rfl)
  have ne_ol_wc : nq ol wc := Ne.symm ne_wc_ol
  have ne_wc_al : nq wc al := pw_ne hap 13 15 (by decide) (Nat.le_of_ble_eq_true rfl)
  have ne_al_wc : nq al wc := Ne.symm ne_wc_al
  have ne_ol_al : nq ol al := pw_ne hap 14 15 (by decide) (Nat.le_of_ble_eq_true rfl)
  have ne_al_ol : nq al ol := Ne.symm ne_ol_al
  have hkp : kpx (fun a => a ∈ [mo, cn, ia, dr, en, la, wo, op, mk, ir, se, ec, lc, wc, ol, al]) M M := kpx.refl _ _
  refine lv_aload_n hx hb dX6_come_0 rfl (lv_at hl 0 rfl) ?_
  refine lv_dup hx hb dX6_come_1 rfl ?_
  refine m_get (T := TX6) (N := 24) (ci := 6) (v := .int cs) hx hb hts wX6 hown hK hm hM rfl 22 (by decide) f118 (fun _ h9 => h9) rfl dX6_come_2 ?_
  refine lv_iconst (v := 1) hx hb dX6_come_5 (by decide) ?_
  refine lv_iadd hx hb dX6_come_6 ?_
  refine m_put (T := TX6) (N := 24) (ci := 6) (v := .int (cs + 1)) (ty := .int) hx hb hts wX6 tyX6 tyX6_ok nmX6 hown hK hm hS hM rfl 22 (by decide) f118 (fun _ h9 => h9) rfl (by decide +kernel) rfl rfl (Nat.le_of_ble_eq_true rfl) dX6_come_7 (fun H locs hm hS => ?_)
  have hm : mm D (AZ z) (mu M mo (.inr (6, [.int cd, .ref cn, .ref ia, .ref dr, .ref en, .ref la, .ref wo, .int ni, .ref op, .ref mk, .ref ir, .int dn, .int md, .int pw, .int cm, .int wr, .ref se, .ref ec, .ref lc, .ref wc, .ref ol, .ref al, .int (cs + 1), .int hm9]))) H := hm
  have hkp : kpx (fun a => a ∈ [mo, cn, ia, dr, en, la, wo, op, mk, ir, se, ec, lc, wc, ol, al]) M (mu M mo (.inr (6, [.int cd, .ref cn, .ref ia, .ref dr, .ref en, .ref la, .ref wo, .int ni, .ref op, .ref mk, .ref ir, .int dn, .int md, .int pw, .int cm, .int wr, .ref se, .ref ec, .ref lc, .ref wc, .ref ol, .ref al, .int (cs + 1), .int hm9]))) := (hkp).self (by simp)
  refine lv_iload_n hx hb dX6_come_10 rfl (lv_at hl 2 rfl) ?_
  refine lv_bipush (v := 15) hx hb dX6_come_11 (by decide) ?_
  refine lv_icmp_ge (tgt := 29) hx hb dX6_come_13 (by decide) (fun c1 => ?_) (fun c1 => ?_)
  · refine lv_iload_n hx hb dX6_come_29 rfl (lv_at hl 2 rfl) ?_
    refine lv_bipush (v := 30) hx hb dX6_come_30 (by decide) ?_
    refine lv_icmp_ne (tgt := 45) hx hb dX6_come_32 (by decide) (fun c2 => ?_) (fun c2 => ?_)
    · refine lv_aload_n hx hb dX6_come_45 rfl (lv_at hl 0 rfl) ?_
      refine m_get (T := TX6) (N := 24) (ci := 6) (v := .ref wc) hx hb hts wX6 hown hK hm (mu_self _ _ _) rfl 19 (by decide) f57 (fun _ h9 => h9) rfl dX6_come_46 ?_
      refine lv_iload_n hx hb dX6_come_49 rfl (lv_at hl 1 rfl) ?_
      refine lv_dup2_11 hx hb dX6_come_50 rfl rfl ?_
      refine m_lald hx hb hK hm 1 ((mu_ne ne_wc_mo).trans hwc) rfl (vp_in_nI (by omega) (by decide)) dX6_come_51 ?_
      refine lv_lconst (v := 1) hx hb dX6_come_52 (by decide) ?_
      refine lv_iload_n hx hb dX6_come_53 rfl (lv_at hl 2 rfl) ?_
      refine lv_bipush (v := 31) hx hb dX6_come_54 (by decide) ?_
      refine lv_isub hx hb dX6_come_56 ?_
      refine lv_lshl (v := (1 <<< (((nI c9c) - 31).toInt64 &&& 63))) hx hb dX6_come_57 rfl ?_
      refine lv_lor hx hb dX6_come_58 ?_
      refine m_last hx hb hK hm hS 1 ((mu_ne ne_wc_mo).trans hwc) rfl (vp_in_nI (by omega) (by decide)) dX6_come_59 (fun H locs hm hS => ?_)
      have hm : mm D (AZ z) (mu (mu M mo (.inr (6, [.int cd, .ref cn, .ref ia, .ref dr, .ref en, .ref la, .ref wo, .int ni, .ref op, .ref mk, .ref ir, .int dn, .int md, .int pw, .int cm, .int wr, .ref se, .ref ec, .ref lc, .ref wc, .ref ol, .ref al, .int (cs + 1), .int hm9]))) wc (.inl (k 1, 100, .inr (.inl (vp_updL fwc ((nI n9)).toNatClampNeg ((fwc ((nI n9)).toNatClampNeg) ||| (1 <<< (((nI c9c) - 31).toInt64 &&& 63)))))))) H := hm
      have hkp : kpx (fun a => a ∈ [mo, cn, ia, dr, en, la, wo, op, mk, ir, se, ec, lc, wc, ol, al]) M (mu (mu M mo (.inr (6, [.int cd, .ref cn, .ref ia, .ref dr, .ref en, .ref la, .ref wo, .int ni, .ref op, .ref mk, .ref ir, .int dn, .int md, .int pw, .int cm, .int wr, .ref se, .ref ec, .ref lc, .ref wc, .ref ol, .ref al, .int (cs + 1), .int hm9]))) wc (.inl (k 1, 100, .inr (.inl (vp_updL fwc ((nI n9)).toNatClampNeg ((fwc ((nI n9)).toNatClampNeg) ||| (1 <<< (((nI c9c) - 31).toInt64 &&& 63)))))))) := (hkp).self (by simp)
      refine W.vret hx hb hr (fun t ht hW => ⟨⟨none, _, rfl, ?_, by rw [ht]; exact hm⟩, hS.F ht⟩) hS.2.2 dX6_come_60
      exact ⟨rfl, ⟨_, _, _, _, _, _, _, fcn, fia, fdr, fen, fla, fwo, fop, fmk, fir, fse, fec, flc, fol, fal, (vp_updL fwc ((nI n9)).toNatClampNeg ((fwc ((nI n9)).toNatClampNeg) ||| (1 <<< (((nI c9c) - 31).toInt64 &&& 63)))), hap, ((mu_ne ne_mo_wc).trans (mu_self _ _ _)), hmd, ⟨hrC, hrL, hrM⟩, ((mu_ne ne_cn_wc).trans ((mu_ne ne_cn_mo).trans hcn)), ((mu_ne ne_ia_wc).trans ((mu_ne ne_ia_mo).trans hia)), ((mu_ne ne_dr_wc).trans ((mu_ne ne_dr_mo).trans hdr)), ((mu_ne ne_en_wc).trans ((mu_ne ne_en_mo).trans hen)), ((mu_ne ne_la_wc).trans ((mu_ne ne_la_mo).trans hla)), ((mu_ne ne_wo_wc).trans ((mu_ne ne_wo_mo).trans hwo)), ((mu_ne ne_op_wc).trans ((mu_ne ne_op_mo).trans hop)), ((mu_ne ne_mk_wc).trans ((mu_ne ne_mk_mo).trans hmk)), ((mu_ne ne_ir_wc).trans ((mu_ne ne_ir_mo).trans hir)), ((mu_ne ne_se_wc).trans ((mu_ne ne_se_mo).trans hse)), ((mu_ne ne_ec_wc).trans ((mu_ne ne_ec_mo).trans hec)), ((mu_ne ne_lc_wc).trans ((mu_ne ne_lc_mo).trans hlc)), (mu_self _ _ _), ((mu_ne ne_ol_wc).trans ((mu_ne ne_ol_mo).trans hol)), ((mu_ne ne_al_wc).trans ((mu_ne ne_al_mo).trans hal))⟩, hkp⟩
    · refine lv_aload_n hx hb dX6_come_35 rfl (lv_at hl 0 rfl) ?_
      refine m_get (T := TX6) (N := 24) (ci := 6) (v := .ref lc) hx hb hts wX6 hown hK hm (mu_self _ _ _) rfl 18 (by decide) f54 (fun _ h9 => h9) rfl dX6_come_36 ?_
      refine lv_iload_n hx hb dX6_come_39 rfl (lv_at hl 1 rfl) ?_
      refine lv_iconst (v := 1) hx hb dX6_come_40 (by decide) ?_
      refine m_zast hx hb hK hm hS 2 ((mu_ne ne_lc_mo).trans hlc) rfl (vp_in_nI (by omega) (by decide)) dX6_come_41 (fun H locs hm hS => ?_)
      have hm : mm D (AZ z) (mu (mu M mo (.inr (6, [.int cd, .ref cn, .ref ia, .ref dr, .ref en, .ref la, .ref wo, .int ni, .ref op, .ref mk, .ref ir, .int dn, .int md, .int pw, .int cm, .int wr, .ref se, .ref ec, .ref lc, .ref wc, .ref ol, .ref al, .int (cs + 1), .int hm9]))) lc (.inl (k 2, 100, .inl (upd flc ((nI n9)).toNatClampNeg (vp_nar .boolean 1))))) H := hm
      have hkp : kpx (fun a => a ∈ [mo, cn, ia, dr, en, la, wo, op, mk, ir, se, ec, lc, wc, ol, al]) M (mu (mu M mo (.inr (6, [.int cd, .ref cn, .ref ia, .ref dr, .ref en, .ref la, .ref wo, .int ni, .ref op, .ref mk, .ref ir, .int dn, .int md, .int pw, .int cm, .int wr, .ref se, .ref ec, .ref lc, .ref wc, .ref ol, .ref al, .int (cs + 1), .int hm9]))) lc (.inl (k 2, 100, .inl (upd flc ((nI n9)).toNatClampNeg (vp_nar .boolean 1))))) := (hkp).self (by simp)
      refine lv_goto (tgt := 60) hx hb dX6_come_42 (by decide) ?_
      refine W.vret hx hb hr (fun t ht hW => ⟨⟨none, _, rfl, ?_, by rw [ht]; exact hm⟩, hS.F ht⟩) hS.2.2 dX6_come_60
      exact ⟨rfl, ⟨_, _, _, _, _, _, _, fcn, fia, fdr, fen, fla, fwo, fop, fmk, fir, fse, fec, (upd flc ((nI n9)).toNatClampNeg (vp_nar .boolean 1)), fol, fal, fwc, hap, ((mu_ne ne_mo_lc).trans (mu_self _ _ _)), hmd, ⟨hrC, hrL, hrM⟩, ((mu_ne ne_cn_lc).trans ((mu_ne ne_cn_mo).trans hcn)), ((mu_ne ne_ia_lc).trans ((mu_ne ne_ia_mo).trans hia)), ((mu_ne ne_dr_lc).trans ((mu_ne ne_dr_mo).trans hdr)), ((mu_ne ne_en_lc).trans ((mu_ne ne_en_mo).trans hen)), ((mu_ne ne_la_lc).trans ((mu_ne ne_la_mo).trans hla)), ((mu_ne ne_wo_lc).trans ((mu_ne ne_wo_mo).trans hwo)), ((mu_ne ne_op_lc).trans ((mu_ne ne_op_mo).trans hop)), ((mu_ne ne_mk_lc).trans ((mu_ne ne_mk_mo).trans hmk)), ((mu_ne ne_ir_lc).trans ((mu_ne ne_ir_mo).trans hir)), ((mu_ne ne_se_lc).trans ((mu_ne ne_se_mo).trans hse)), ((mu_ne ne_ec_lc).trans ((mu_ne ne_ec_mo).trans hec)), (mu_self _ _ _), ((mu_ne ne_wc_lc).trans ((mu_ne ne_wc_mo).trans hwc)), ((mu_ne ne_ol_lc).trans ((mu_ne ne_ol_mo).trans hol)), ((mu_ne ne_al_lc).trans ((mu_ne ne_al_mo).trans hal))⟩, hkp⟩
  · refine lv_aload_n hx hb dX6_come_16 rfl (lv_at hl 0 rfl) ?_
    refine m_get (T := TX6) (N := 24) (ci := 6) (v := .ref ec) hx hb hts wX6 hown hK hm (mu_self _ _ _) rfl 17 (by decide) f51 (fun _ h9 => h9) rfl dX6_come_17 ?_
    refine lv_iload_n hx hb dX6_come_20 rfl (lv_at hl 1 rfl) ?_
    refine lv_dup2_11 hx hb dX6_come_21 rfl rfl ?_
    refine m_iald hx hb hK hm 0 ((mu_ne ne_ec_mo).trans hec) rfl (vp_in_nI (by omega) (by decide)) dX6_come_22 ?_
    refine lv_iconst (v := 1) hx hb dX6_come_23 (by decide) ?_
    refine lv_iadd hx hb dX6_come_24 ?_
    refine m_iast hx hb hK hm hS 0 ((mu_ne ne_ec_mo).trans hec) rfl (vp_in_nI (by omega) (by decide)) dX6_come_25 (fun H locs hm hS => ?_)
    have hm : mm D (AZ z) (mu (mu M mo (.inr (6, [.int cd, .ref cn, .ref ia, .ref dr, .ref en, .ref la, .ref wo, .int ni, .ref op, .ref mk, .ref ir, .int dn, .int md, .int pw, .int cm, .int wr, .ref se, .ref ec, .ref lc, .ref wc, .ref ol, .ref al, .int (cs + 1), .int hm9]))) ec (.inl (k 0, 100, .inl (upd fec ((nI n9)).toNatClampNeg ((fec ((nI n9)).toNatClampNeg) + 1))))) H := hm
    have hkp : kpx (fun a => a ∈ [mo, cn, ia, dr, en, la, wo, op, mk, ir, se, ec, lc, wc, ol, al]) M (mu (mu M mo (.inr (6, [.int cd, .ref cn, .ref ia, .ref dr, .ref en, .ref la, .ref wo, .int ni, .ref op, .ref mk, .ref ir, .int dn, .int md, .int pw, .int cm, .int wr, .ref se, .ref ec, .ref lc, .ref wc, .ref ol, .ref al, .int (cs + 1), .int hm9]))) ec (.inl (k 0, 100, .inl (upd fec ((nI n9)).toNatClampNeg ((fec ((nI n9)).toNatClampNeg) + 1))))) := (hkp).self (by simp)
    refine lv_goto (tgt := 60) hx hb dX6_come_26 (by decide) ?_
    refine W.vret hx hb hr (fun t ht hW => ⟨⟨none, _, rfl, ?_, by rw [ht]; exact hm⟩, hS.F ht⟩) hS.2.2 dX6_come_60
    exact ⟨rfl, ⟨_, _, _, _, _, _, _, fcn, fia, fdr, fen, fla, fwo, fop, fmk, fir, fse, (upd fec ((nI n9)).toNatClampNeg ((fec ((nI n9)).toNatClampNeg) + 1)), flc, fol, fal, fwc, hap, ((mu_ne ne_mo_ec).trans (mu_self _ _ _)), hmd, ⟨hrC, hrL, hrM⟩, ((mu_ne ne_cn_ec).trans ((mu_ne ne_cn_mo).trans hcn)), ((mu_ne ne_ia_ec).trans ((mu_ne ne_ia_mo).trans hia)), ((mu_ne ne_dr_ec).trans ((mu_ne ne_dr_mo).trans hdr)), ((mu_ne ne_en_ec).trans ((mu_ne ne_en_mo).trans hen)), ((mu_ne ne_la_ec).trans ((mu_ne ne_la_mo).trans hla)), ((mu_ne ne_wo_ec).trans ((mu_ne ne_wo_mo).trans hwo)), ((mu_ne ne_op_ec).trans ((mu_ne ne_op_mo).trans hop)), ((mu_ne ne_mk_ec).trans ((mu_ne ne_mk_mo).trans hmk)), ((mu_ne ne_ir_ec).trans ((mu_ne ne_ir_mo).trans hir)), ((mu_ne ne_se_ec).trans ((mu_ne ne_se_mo).trans hse)), (mu_self _ _ _), ((mu_ne ne_lc_ec).trans ((mu_ne ne_lc_mo).trans hlc)), ((mu_ne ne_wc_ec).trans ((mu_ne ne_wc_mo).trans hwc)), ((mu_ne ne_ol_ec).trans ((mu_ne ne_ol_mo).trans hol)), ((mu_ne ne_al_ec).trans ((mu_ne ne_al_mo).trans hal))⟩, hkp⟩
