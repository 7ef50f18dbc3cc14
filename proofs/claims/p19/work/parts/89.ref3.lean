set_option maxHeartbeats 4000000 in
set_option maxRecDepth 100000 in
theorem s_X6_sweep (l : Launch) (D : va_G) (k : Nat → ClassId) (z : Nat) (M : mM) (mo cn ia dr en la wo op mk ir se ec lc wc ol al : Nat) (dn md : Int32)  (hmd0 : md = 0) (hI : mI k M mo cn ia dr en la wo op mk ir se ec lc wc ol al dn md) : mK l yX6_sweep wsX6_sweep ({ frames := 1, cells := 0, slots := 0, locals := 24 }) D k z [.ref mo] M (fun v M' => (v = none) ∧ mI k M' mo cn ia dr en la wo op mk ir se ec lc wc ol al dn md ∧ kpx (fun a => a ∈ [mo, cn, ia, dr, en, la, wo, op, mk, ir, se, ec, lc, wc, ol, al]) M M') := by
  refine Met.ofW (cc := cX6_sweep) (maxL := 6) (ret := none) (by decide) rfl ?_
  intro p e s m args below meth c s₁ B hml hv
  obtain ⟨rfl, hz, hcx, hm⟩ := hv
  have hx := B.exec
  have hb := B.bytes
  have hr := B.returns
  have hts := atoms_spec (ws := wsX6_sweep) B.pre
  have hown : s.vm.findClass RX6 = some m.cls := findClass_of_methodNamed B.named
  have hlocks := B.notSynchronized
  have hK := hcx.1
  have hS : va_S (AZ z) s.heap s.heap [] := va_S.rf
  have hA : ∀ q, s.heap.size ≤ q → AZ z q := fun q h => Nat.le_trans hz h
  have hl := lv_entry ([.ref mo]) (n := 6) (Nat.le_of_ble_eq_true rfl)
  rw [lg_entry_eq]
  generalize (lg_sl ([.ref mo]) ++ List.replicate (6 - (lg_sl ([.ref mo])).length) Slot.unset).toArray = ls at hl ⊢
  have hl : lv_has ls 6 [(0, .ref mo)] := hl
  have f7 := hts (.fieldLink RX6 7 "CommitTreeModel" "counts" "[I") (by decide +kernel)
  have f16 := hts (.fieldLink RX6 16 "CommitTreeModel" "dirs" "[Z") (by decide +kernel)
  have f21 := hts (.fieldLink RX6 21 "CommitTreeModel" "entries" "[I") (by decide +kernel)
  have f24 := hts (.fieldLink RX6 24 "CommitTreeModel" "lengths" "[I") (by decide +kernel)
  have f48 := hts (.fieldLink RX6 48 "CommitTreeModel" "self" "[Z") (by decide +kernel)
  have f51 := hts (.fieldLink RX6 51 "CommitTreeModel" "entryComes" "[I") (by decide +kernel)
  have f54 := hts (.fieldLink RX6 54 "CommitTreeModel" "lengthComes" "[Z") (by decide +kernel)
  have f57 := hts (.fieldLink RX6 57 "CommitTreeModel" "wordComes" "[J") (by decide +kernel)
  have f61 := hts (.fieldLink RX6 61 "CommitTreeModel" "oldLength" "[I") (by decide +kernel)
  have f64 := hts (.fieldLink RX6 64 "CommitTreeModel" "alive" "[Z") (by decide +kernel)
  have f133 := hts (.fieldLink RX6 133 "CommitTreeModel" "home" "I") (by decide +kernel)
  have wX6 : ∀ w ∈ wsX60, w ∈ wsX6_sweep := by decide +kernel
  obtain ⟨cd, ni, pw, cm, wr, cs, hm9, fcn, fia, fdr, fen, fla, fwo, fop, fmk, fir, fse, fec, flc, fol, fal, fwc, hap, hM, hmd, ⟨hrC, hrL, hrM⟩, hcn, hia, hdr, hen, hla, hwo, hop, hmk, hir, hse, hec, hlc, hwc, hol, hal⟩ := id hI
  have ne_mo_cn : nq mo cn := pw_ne hap 0 1 (by decide) (Nat.le_of_ble_eq_true rfl)
  have ne_cn_mo : nq cn mo := Ne.symm ne_mo_cn
  have ne_mo_ia : nq mo ia := pw_ne hap 0 2 (by decide) (Nat.le_of_ble_eq_true rfl)
  have ne_ia_mo : nq ia mo := Ne.symm ne_mo_ia
  have ne_mo_dr : nq mo dr := pw_ne hap 0 3 (by decide) (Nat.le_of_ble_eq_true rfl)
  have ne_dr_mo : nq dr mo := Ne.symm ne_mo_dr
  have ne_mo_en : nq mo en := pw_ne hap 0 4 (by decide) (Nat.le_of_ble_eq_true rfl)
  have ne_en_mo : nq en mo := Ne.symm ne_mo_en
  have ne_mo_la : nq mo la := pw_ne hap 0 5 (by decide) (Nat.le_of_ble_eq_true rfl)
  have ne_la_mo : nq la mo := Ne.symm ne_mo_la
  have ne_mo_wo : nq mo wo := pw_ne hap 0 6 (by decide) (Nat.le_of_ble_eq_true rfl)
  have ne_wo_mo : nq wo mo := Ne.symm ne_mo_wo
  have ne_mo_op : nq mo op := pw_ne hap 0 7 (by decide) (Nat.le_of_ble_eq_true rfl)
  have ne_op_mo : nq op mo := Ne.symm ne_mo_op
  have ne_mo_mk : nq mo mk := pw_ne hap 0 8 (by decide) (Nat.le_of_ble_eq_true rfl)
  have ne_mk_mo : nq mk mo := Ne.symm ne_mo_mk
  have ne_mo_ir : nq mo ir := pw_ne hap 0 9 (by decide) (Nat.le_of_ble_eq_true rfl)
  have ne_ir_mo : nq ir mo := Ne.symm ne_mo_ir
  have ne_mo_se : nq mo se := pw_ne hap 0 10 (by decide) (Nat.le_of_ble_eq_true rfl)
  have ne_se_mo : nq se mo := Ne.symm ne_mo_se
  have ne_mo_ec : nq mo ec := pw_ne hap 0 11 (by decide) (Nat.le_of_ble_eq_true rfl)
  have ne_ec_mo : nq ec mo := Ne.symm ne_mo_ec
  have ne_mo_lc : nq mo lc := pw_ne hap 0 12 (by decide) (Nat.le_of_ble_eq_true rfl)
  have ne_lc_mo : nq lc mo := Ne.symm ne_mo_lc
  have ne_mo_wc : nq mo wc := pw_ne hap 0 13 (by decide) (Nat.le_of_ble_eq_true rfl)
  have ne_wc_mo : nq wc mo := Ne.symm ne_mo_wc
  have ne_mo_ol : nq mo ol := pw_ne hap 0 14 (by decide) (Nat.le_of_ble_eq_true rfl)
  have ne_ol_mo : nq ol mo := Ne.symm ne_mo_ol
  have ne_mo_al : nq mo al := pw_ne hap 0 15 (by decide) (Nat.le_of_ble_eq_true rfl)
  have ne_al_mo : nq al mo := Ne.symm ne_mo_al
  have ne_cn_ia : nq cn ia := pw_ne hap 1 2 (by decide) (Nat.le_of_ble_eq_true rfl)
  have ne_ia_cn : nq ia cn := Ne.symm ne_cn_ia
  have ne_cn_dr : nq cn dr := pw_ne hap 1 3 (by decide) (Nat.le_of_ble_eq_true rfl)
  have ne_dr_cn : nq dr cn := Ne.symm ne_cn_dr
  have ne_cn_en : nq cn en := pw_ne hap 1 4 (by decide) (Nat.le_of_ble_eq_true rfl)
  have ne_en_cn : nq en cn := Ne.symm ne_cn_en
  have ne_cn_la : nq cn la := pw_ne hap 1 5 (by decide) (Nat.le_of_ble_eq_true rfl)
  have ne_la_cn : nq la cn := Ne.symm ne_cn_la
  have ne_cn_wo : nq cn wo := pw_ne hap 1 6 (by decide) (Nat.le_of_ble_eq_true rfl)
  have ne_wo_cn : nq wo cn := Ne.symm ne_cn_wo
  have ne_cn_op : nq cn op := pw_ne hap 1 7 (by decide) (Nat.le_of_ble_eq_true rfl)
  have ne_op_cn : nq op cn := Ne.symm ne_cn_op
  have ne_cn_mk : nq cn mk := pw_ne hap 1 8 (by decide) (Nat.le_of_ble_eq_true rfl)
  have ne_mk_cn : nq mk cn := Ne.symm ne_cn_mk
  have ne_cn_ir : nq cn ir := pw_ne hap 1 9 (by decide) (Nat.le_of_ble_eq_true rfl)
  have ne_ir_cn : nq ir cn := Ne.symm ne_cn_ir
  have ne_cn_se : nq cn se := pw_ne hap 1 10 (by decide) (Nat.le_of_ble_eq_true rfl)
  have ne_se_cn : nq se cn := Ne.symm ne_cn_se
  have ne_cn_ec : nq cn ec := pw_ne hap 1 11 (by decide) (Nat.le_of_ble_eq_true rfl)
  have ne_ec_cn : nq ec cn := Ne.symm ne_cn_ec
  have ne_cn_lc : nq cn lc := pw_ne hap 1 12 (by decide) (Nat.le_of_ble_eq_true rfl)
  have ne_lc_cn : nq lc cn := Ne.symm ne_cn_lc
  have ne_cn_wc : nq cn wc := pw_ne hap 1 13 (by decide) (Nat.le_of_ble_eq_true rfl)
  have ne_wc_cn : nq wc cn := Ne.symm ne_cn_wc
  have ne_cn_ol : nq cn ol := pw_ne hap 1 14 (by decide) (Nat.le_of_ble_eq_true rfl)
  have ne_ol_cn : nq ol cn := Ne.symm ne_cn_ol
  have ne_cn_al : nq cn al := pw_ne hap 1 15 (by decide) (Nat.le_of_ble_eq_true rfl)
  have ne_al_cn : nq al cn := Ne.symm ne_cn_al
  have ne_ia_dr : nq ia dr := pw_ne hap 2 3 (by decide) (Nat.le_of_ble_eq_true rfl)
  have ne_dr_ia : nq dr ia := Ne.symm ne_ia_dr
  have ne_ia_en : nq ia en := pw_ne hap 2 4 (by decide) (Nat.le_of_ble_eq_true rfl)
  have ne_en_ia : nq en ia := Ne.symm ne_ia_en
  have ne_ia_la : nq ia la := pw_ne hap 2 5 (by decide) (Nat.le_of_ble_eq_true rfl)
  have ne_la_ia : nq la ia := Ne.symm ne_ia_la
  have ne_ia_wo : nq ia wo := pw_ne hap 2 6 (by decide) (Nat.le_of_ble_eq_true rfl)
  have ne_wo_ia : nq wo ia := Ne.symm ne_ia_wo
  have ne_ia_op : nq ia op := pw_ne hap 2 7 (by decide) (Nat.le_of_ble_eq_true rfl)
  have ne_op_ia : nq op ia := Ne.symm ne_ia_op
  have ne_ia_mk : nq ia mk := pw_ne hap 2 8 (by decide) (Nat.le_of_ble_eq_true rfl)
  have ne_mk_ia : nq mk ia := Ne.symm ne_ia_mk
  have ne_ia_ir : nq ia ir := pw_ne hap 2 9 (by decide) (Nat.le_of_ble_eq_true rfl)
  have ne_ir_ia : nq ir ia := Ne.symm ne_ia_ir
  have ne_ia_se : nq ia se := pw_ne hap 2 10 (by decide) (Nat.le_of_ble_eq_true rfl)
  have ne_se_ia : nq se ia := Ne.symm ne_ia_se
  have ne_ia_ec : nq ia ec := pw_ne hap 2 11 (by decide) (Nat.le_of_ble_eq_true rfl)
  have ne_ec_ia : nq ec ia := Ne.symm ne_ia_ec
  have ne_ia_lc : nq ia lc := pw_ne hap 2 12 (by decide) (Nat.le_of_ble_eq_true rfl)
  have ne_lc_ia : nq lc ia := Ne.symm ne_ia_lc
  have ne_ia_wc : nq ia wc := pw_ne hap 2 13 (by decide) (Nat.le_of_ble_eq_true rfl)
  have ne_wc_ia : nq wc ia := Ne.symm ne_ia_wc
  have ne_ia_ol : nq ia ol := pw_ne hap 2 14 (by decide) (Nat.le_of_ble_eq_true rfl)
  have ne_ol_ia : nq ol ia := Ne.symm ne_ia_ol
  have ne_ia_al : nq ia al := pw_ne hap 2 15 (by decide) (Nat.le_of_ble_eq_true rfl)
  have ne_al_ia : nq al ia := Ne.symm ne_ia_al
  have ne_dr_en : nq dr en := pw_ne hap 3 4 (by decide) (Nat.le_of_ble_eq_true rfl)
  have ne_en_dr : nq en dr := Ne.symm ne_dr_en
  have ne_dr_la : nq dr la := pw_ne hap 3 5 (by decide) (Nat.le_of_ble_eq_true rfl)
  have ne_la_dr : nq la dr := Ne.symm ne_dr_la
  have ne_dr_wo : nq dr wo := pw_ne hap 3 6 (by decide) (Nat.le_of_ble_eq_true rfl)
  have ne_wo_dr : nq wo dr := Ne.symm ne_dr_wo
  have ne_dr_op : nq dr op := pw_ne hap 3 7 (by decide) (Nat.le_of_ble_eq_true rfl)
  have ne_op_dr : nq op dr := Ne.symm ne_dr_op
  have ne_dr_mk : nq dr mk := pw_ne hap 3 8 (by decide) (Nat.le_of_ble_eq_true rfl)
  have ne_mk_dr : nq mk dr := Ne.symm ne_dr_mk
  have ne_dr_ir : nq dr ir := pw_ne hap 3 9 (by decide) (Nat.le_of_ble_eq_true rfl)
  have ne_ir_dr : nq ir dr := Ne.symm ne_dr_ir
  have ne_dr_se : nq dr se := pw_ne hap 3 10 (by decide) (Nat.le_of_ble_eq_true rfl)
  have ne_se_dr : nq se dr := Ne.symm ne_dr_se
  have ne_dr_ec : nq dr ec := pw_ne hap 3 11 (by decide) (Nat.le_of_ble_eq_true rfl)
  have ne_ec_dr : nq ec dr := Ne.symm ne_dr_ec
  have ne_dr_lc : nq dr lc := pw_ne hap 3 12 (by decide) (Nat.le_of_ble_eq_true rfl)
  have ne_lc_dr : nq lc dr := Ne.symm ne_dr_lc
  have ne_dr_wc : nq dr wc := pw_ne hap 3 13 (by decide) (Nat.le_of_ble_eq_true rfl)
  have ne_wc_dr : nq wc dr := Ne.symm ne_dr_wc
  have ne_dr_ol : nq dr ol := pw_ne hap 3 14 (by decide) (Nat.le_of_ble_eq_true rfl)
  have ne_ol_dr : nq ol dr := Ne.symm ne_dr_ol
  have ne_dr_al : nq dr al := pw_ne hap 3 15 (by decide) (Nat.le_of_ble_eq_true rfl)
  have ne_al_dr : nq al dr := Ne.symm ne_dr_al
  have ne_en_la : nq en la := pw_ne hap 4 5 (by decide) (Nat.le_of_ble_eq_true rfl)
  have ne_la_en : nq la en := Ne.symm ne_en_la
  have ne_en_wo : nq en wo := pw_ne hap 4 6 (by decide) (Nat.le_of_ble_eq_true rfl)
  have ne_wo_en : nq wo en := Ne.symm ne_en_wo
  have ne_en_op : nq en op := pw_ne hap 4 7 (by decide) (Nat.le_of_ble_eq_true rfl)
  have ne_op_en : nq op en := Ne.symm ne_en_op
  have ne_en_mk : nq en mk := pw_ne hap 4 8 (by decide) (Nat.le_of_ble_eq_true rfl)
  have ne_mk_en : nq mk en := Ne.symm ne_en_mk
  have ne_en_ir : nq en ir := pw_ne hap 4 9 (by decide) (Nat.le_of_ble_eq_true rfl)
  have ne_ir_en : nq ir en := Ne.symm ne_en_ir
  have ne_en_se : nq en se := pw_ne hap 4 10 (by decide) (Nat.le_of_ble_eq_true rfl)
  have ne_se_en : nq se en := Ne.symm ne_en_se
  have ne_en_ec : nq en ec := pw_ne hap 4 11 (by decide) (Nat.le_of_ble_eq_true rfl)
  have ne_ec_en : nq ec en := Ne.symm ne_en_ec
  have ne_en_lc : nq en lc := pw_ne hap 4 12 (by decide) (Nat.le_of_ble_eq_true rfl)
  have ne_lc_en : nq lc en := Ne.symm ne_en_lc
  have ne_en_wc : nq en wc := pw_ne hap 4 13 (by decide) (Nat.le_of_ble_eq_true rfl)
  have ne_wc_en : nq wc en := Ne.symm ne_en_wc
  have ne_en_ol : nq en ol := pw_ne hap 4 14 (by decide) (Nat.le_of_ble_eq_true rfl)
  have ne_ol_en : nq ol en := Ne.symm ne_en_ol
  have ne_en_al : nq en al := pw_ne hap 4 15 (by decide) (Nat.le_of_ble_eq_true rfl)
  have ne_al_en : nq al en := Ne.symm ne_en_al
  have ne_la_wo : nq la wo := pw_ne hap 5 6 (by decide) (Nat.le_of_ble_eq_true rfl)
  have ne_wo_la : nq wo la := Ne.symm ne_la_wo
  have ne_la_op : nq la op := pw_ne hap 5 7 (by decide) (Nat.le_of_ble_eq_true rfl)
  have ne_op_la : nq op la := Ne.symm ne_la_op
  have ne_la_mk : nq la mk := pw_ne hap 5 8 (by decide) (Nat.le_of_ble_eq_true rfl)
  have ne_mk_la : nq mk la := Ne.symm ne_la_mk
  have ne_la_ir : nq la ir := pw_ne hap 5 9 (by decide) (Nat.le_of_ble_eq_true rfl)
  have ne_ir_la : nq ir la := Ne.symm ne_la_ir
  have ne_la_se : nq la se := pw_ne hap 5 10 (by decide) (Nat.le_of_ble_eq_true rfl)
  have ne_se_la : nq se la := Ne.symm ne_la_se
  have ne_la_ec : nq la ec := pw_ne hap 5 11 (by decide) (Nat.le_of_ble_eq_true rfl)
  have ne_ec_la : nq ec la := Ne.symm ne_la_ec
  have ne_la_lc : nq la lc := pw_ne hap 5 12 (by decide) (Nat.le_of_ble_eq_true rfl)
  have ne_lc_la : nq lc la := Ne.symm ne_la_lc
  have ne_la_wc : nq la wc := pw_ne hap 5 13 (by decide) (Nat.le_of_ble_eq_true rfl)
  have ne_wc_la : nq wc la := Ne.symm ne_la_wc
  have ne_la_ol : nq la ol := pw_ne hap 5 14 (by decide) (Nat.le_of_ble_eq_true rfl)
  have ne_ol_la : nq ol la := Ne.symm ne_la_ol
  have ne_la_al : nq la al := pw_ne hap 5 15 (by decide) (Nat.le_of_ble_eq_true rfl)
  have ne_al_la : nq al la := Ne.symm ne_la_al
  have ne_wo_op : nq wo op := pw_ne hap 6 7 (by decide) (Nat.le_of_ble_eq_true rfl)
  have ne_op_wo : nq op wo := Ne.symm ne_wo_op
  have ne_wo_mk : nq wo mk := pw_ne hap 6 8 (by decide) (Nat.le_of_ble_eq_true rfl)
  have ne_mk_wo : nq mk wo := Ne.symm ne_wo_mk
  have ne_wo_ir : nq wo ir := pw_ne hap 6 9 (by decide) (Nat.le_of_ble_eq_true rfl)
  have ne_ir_wo : nq ir wo := Ne.symm ne_wo_ir
  have ne_wo_se : nq wo se := pw_ne hap 6 10 (by decide) (Nat.le_of_ble_eq_true rfl)
  have ne_se_wo : nq se wo := Ne.symm ne_wo_se
  have ne_wo_ec : nq wo ec := pw_ne hap 6 11 (by decide) (Nat.le_of_ble_eq_true rfl)
  have ne_ec_wo : nq ec wo := Ne.symm ne_wo_ec
  have ne_wo_lc : nq wo lc := pw_ne hap 6 12 (by decide) (Nat.le_of_ble_eq_true rfl)
  have ne_lc_wo : nq lc wo := Ne.symm ne_wo_lc
  have ne_wo_wc : nq wo wc := pw_ne hap 6 13 (by decide) (Nat.le_of_ble_eq_true rfl)
  have ne_wc_wo : nq wc wo := Ne.symm ne_wo_wc
  have ne_wo_ol : nq wo ol := pw_ne hap 6 14 (by decide) (Nat.le_of_ble_eq_true rfl)
  have ne_ol_wo : nq ol wo := Ne.symm ne_wo_ol
  have ne_wo_al : nq wo al := pw_ne hap 6 15 (by decide) (Nat.le_of_ble_eq_true rfl)
  have ne_al_wo : nq al wo := Ne.symm ne_wo_al
  have ne_op_mk : nq op mk := pw_ne hap 7 8 (by decide) (Nat.le_of_ble_eq_true rfl)
  have ne_mk_op : nq mk op := Ne.symm ne_op_mk
  have ne_op_ir : nq op ir := pw_ne hap 7 9 (by decide) (Nat.le_of_ble_eq_true rfl)
  have ne_ir_op : nq ir op := Ne.symm ne_op_ir
  have ne_op_se : nq op se := pw_ne hap 7 10 (by decide) (Nat.le_of_ble_eq_true rfl)
  have ne_se_op : nq se op := Ne.symm ne_op_se
  have ne_op_ec : nq op ec := pw_ne hap 7 11 (by decide) (Nat.le_of_ble_eq_true rfl)
  have ne_ec_op : nq ec op := Ne.symm ne_op_ec
  have ne_op_lc : nq op lc := pw_ne hap 7 12 (by decide) (Nat.le_of_ble_eq_true rfl)
  have ne_lc_op : nq lc op := Ne.symm ne_op_lc
  have ne_op_wc : nq op wc := pw_ne hap 7 13 (by decide) (Nat.le_of_ble_eq_true rfl)
  have ne_wc_op : nq wc op := Ne.symm ne_op_wc
  have ne_op_ol : nq op ol := pw_ne hap 7 14 (by decide) (Nat.le_of_ble_eq_true rfl)
  have ne_ol_op : nq ol op := Ne.symm ne_op_ol
  have ne_op_al : nq op al := pw_ne hap 7 15 (by decide) (Nat.le_of_ble_eq_true rfl)
  have ne_al_op : nq al op := Ne.symm ne_op_al
  have ne_mk_ir : nq mk ir := pw_ne hap 8 9 (by decide) (Nat.le_of_ble_eq_true rfl)
  have ne_ir_mk : nq ir mk := Ne.symm ne_mk_ir
  have ne_mk_se : nq mk se := pw_ne hap 8 10 (by decide) (Nat.le_of_ble_eq_true rfl)
  have ne_se_mk : nq se mk := Ne.symm ne_mk_se
  have ne_mk_ec : nq mk ec := pw_ne hap 8 11 (by decide) (Nat.le_of_ble_eq_true rfl)
  have ne_ec_mk : nq ec mk := Ne.symm ne_mk_ec
  have ne_mk_lc : nq mk lc := pw_ne hap 8 12 (by decide) (Nat.le_of_ble_eq_true rfl)
  have ne_lc_mk : nq lc mk := Ne.symm ne_mk_lc
  have ne_mk_wc : nq mk wc := pw_ne hap 8 13 (by decide) (Nat.le_of_ble_eq_true rfl)
  have ne_wc_mk : nq wc mk := Ne.symm ne_mk_wc
  have ne_mk_ol : nq mk ol := pw_ne hap 8 14 (by decide) (Nat.le_of_ble_eq_true rfl)
  have ne_ol_mk : nq ol mk := Ne.symm ne_mk_ol
  have ne_mk_al : nq mk al := pw_ne hap 8 15 (by decide) (Nat.le_of_ble_eq_true rfl)
  have ne_al_mk : nq al mk := Ne.symm ne_mk_al
  have ne_ir_se : nq ir se := pw_ne hap 9 10 (by decide) (Nat.le_of_ble_eq_true rfl)
  have ne_se_ir : nq se ir := Ne.symm ne_ir_se
  have ne_ir_ec : nq ir ec := pw_ne hap 9 11 (by decide) (Nat.le_of_ble_eq_true rfl)
  have ne_ec_ir : nq ec ir := Ne.symm ne_ir_ec
  have ne_ir_lc : nq ir lc := pw_ne hap 9 12 (by decide) (Nat.le_of_ble_eq_true rfl)
  have ne_lc_ir : nq lc ir := Ne.symm ne_ir_lc
  have ne_ir_wc : nq ir wc := pw_ne hap 9 13 (by decide) (Nat.le_of_ble_eq_true rfl)
  have ne_wc_ir : nq wc ir := Ne.symm ne_ir_wc
  have ne_ir_ol : nq ir ol := pw_ne hap 9 14 (by decide) (Nat.le_of_ble_eq_true rfl)
  have ne_ol_ir : nq ol ir := Ne.symm ne_ir_ol
  have ne_ir_al : nq ir al := pw_ne hap 9 15 (by decide) (Nat.le_of_ble_eq_true rfl)
  have ne_al_ir : nq al ir := Ne.symm ne_ir_al
  have ne_se_ec : nq se ec := pw_ne hap 10 11 (by decide) (Nat.le_of_ble_eq_true rfl)
  have ne_ec_se : nq ec se := Ne.symm ne_se_ec
  have ne_se_lc : nq se lc := pw_ne hap 10 12 (by decide) (Nat.le_of_ble_eq_true rfl)
  have ne_lc_se : nq lc se := Ne.symm ne_se_lc
  have ne_se_wc : nq se wc := pw_ne hap 10 13 (by decide) (Nat.le_of_ble_eq_true rfl)
  have ne_wc_se : nq wc se := Ne.symm ne_se_wc
  have ne_se_ol : nq se ol := pw_ne hap 10 14 (by decide) (Nat.le_of_ble_eq_true rfl)
  have ne_ol_se : nq ol se := Ne.symm ne_se_ol
  have ne_se_al : nq se al := pw_ne hap 10 15 (by decide) (Nat.le_of_ble_eq_true rfl)
  have ne_al_se : nq al se := Ne.symm ne_se_al
  have ne_ec_lc : nq ec lc := pw_ne hap 11 12 (by decide) (Nat.le_of_ble_eq_true rfl)
  have ne_lc_ec : nq lc ec := Ne.symm ne_ec_lc
  have ne_ec_wc : nq ec wc := pw_ne hap 11 13 (by decide) (Nat.le_of_ble_eq_true rfl)
  have ne_wc_ec : nq wc ec := Ne.symm ne_ec_wc
  have ne_ec_ol : nq ec ol := pw_ne hap 11 14 (by decide) (Nat.le_of_ble_eq_true rfl)
  have ne_ol_ec : nq ol ec := Ne.symm ne_ec_ol
  have ne_ec_al : nq ec al := pw_ne hap 11 15 (by decide) (Nat.le_of_ble_eq_true rfl)
  have ne_al_ec : nq al ec := Ne.symm ne_ec_al
  have ne_lc_wc : nq lc wc := pw_ne hap 12 13 (by decide) (Nat.le_of_ble_eq_true rfl)
  have ne_wc_lc : nq wc lc := Ne.symm ne_lc_wc
  have ne_lc_ol : nq lc ol := pw_ne hap 12 14 (by decide) (Nat.le_of_ble_eq_true rfl)
  have ne_ol_lc : nq ol lc := Ne.symm ne_lc_ol
  have ne_lc_al : nq lc al := pw_ne hap 12 15 (by decide) (Nat.le_of_ble_eq_true rfl)
  have ne_al_lc : nq al lc := Ne.symm ne_lc_al
  have ne_wc_ol : nq wc ol := pw_ne hap 13 14 (by decide) (Nat.le_of_ble_eq_true rfl)
  have ne_ol_wc : nq ol wc := Ne.symm ne_wc_ol
  have ne_wc_al : nq wc al := pw_ne hap 13 15 (by decide) (Nat.le_of_ble_eq_true rfl)
  have ne_al_wc : nq al wc := Ne.symm ne_wc_al
  have ne_ol_al : nq ol al := pw_ne hap 14 15 (by decide) (Nat.le_of_ble_eq_true rfl)
  have ne_al_ol : nq al ol := Ne.symm ne_ol_al
  have hkp : kpx (fun a => a ∈ [mo, cn, ia, dr, en, la, wo, op, mk, ir, se, ec, lc, wc, ol, al]) M M := kpx.refl _ _
  refine lv_iconst (v := 0) hx hb dX6_sweep_0 (by decide) ?_
  refine lv_istore_n (lv' := [(1, .int 0), (0, .ref mo)]) hx hb dX6_sweep_1 rfl hl (by decide) rfl (fun ls hl => ?_)
  have hI0 : mI k M mo cn ia dr en la wo op mk ir se ec lc wc ol al dn md := ⟨_, _, _, _, _, _, _, fcn, fia, fdr, fen, fla, fwo, fop, fmk, fir, fse, fec, flc, fol, fal, fwc, hap, hM, hmd, ⟨hrC, hrL, hrM⟩, hcn, hia, hdr, hen, hla, hwo, hop, hmk, hir, hse, hec, hlc, hwc, hol, hal⟩
  refine W_loop (σ := Nat × mM) (fun ⟨j2, Ml2⟩ H locs ls => (0 ≤ j2 ∧ j2 < 2147483000) ∧ (mI k Ml2 mo cn ia dr en la wo op mk ir se ec lc wc ol al dn md) ∧ (kpx (fun a => a ∈ [mo, cn, ia, dr, en, la, wo, op, mk, ir, se, ec, lc, wc, ol, al]) M Ml2) ∧ (kpx (fun a => a ∈ [al]) M Ml2) ∧ mm D (AZ z) Ml2 H ∧ va_S (AZ z) s.heap H locs ∧ lv_has ls 6 [(1, .int (nI j2)), (0, .ref mo)]) (fun ⟨j2, Ml2⟩ => 2147483648 - j2) (fun _ => 0) (fun _ => 0) ?_ (0, M) _ _ _ ⟨⟨Nat.le_refl _, by omega⟩, hI0, hkp, (kpx.refl _ _), hm, hS, lv_sub hl [0, 1] rfl⟩
  intro ⟨j2, Ml2⟩ H locs ls hQ ih2
  obtain ⟨hj2, hI, hkp, hkl2, hm, hS, hl⟩ := hQ
  try dsimp only at hm hl ih2 hj2 hI hkp hkl2 ⊢
  obtain ⟨_, _, _, _, _, _, _, _, _, _, _, _, _, _, _, _, _, _, _, _, fal_1, _, -, -, hmd_1, ⟨-, -, -⟩, -, -, -, -, -, -, -, -, -, -, -, -, -, -, hal_1⟩ := id hI
  have kmo_1 := hkl2 _ _ (by simp only [List.mem_cons, List.not_mem_nil, or_false, not_or]; exact ne_mo_al) hM
  have kcn_1 := hkl2 _ _ (by simp only [List.mem_cons, List.not_mem_nil, or_false, not_or]; exact ne_cn_al) hcn
  have kia_1 := hkl2 _ _ (by simp only [List.mem_cons, List.not_mem_nil, or_false, not_or]; exact ne_ia_al) hia
  have kdr_1 := hkl2 _ _ (by simp only [List.mem_cons, List.not_mem_nil, or_false, not_or]; exact ne_dr_al) hdr
  have ken_1 := hkl2 _ _ (by simp only [List.mem_cons, List.not_mem_nil, or_false, not_or]; exact ne_en_al) hen
  have kla_1 := hkl2 _ _ (by simp only [List.mem_cons, List.not_mem_nil, or_false, not_or]; exact ne_la_al) hla
  have kwo_1 := hkl2 _ _ (by simp only [List.mem_cons, List.not_mem_nil, or_false, not_or]; exact ne_wo_al) hwo
  have kop_1 := hkl2 _ _ (by simp only [List.mem_cons, List.not_mem_nil, or_false, not_or]; exact ne_op_al) hop
  have kmk_1 := hkl2 _ _ (by simp only [List.mem_cons, List.not_mem_nil, or_false, not_or]; exact ne_mk_al) hmk
  have kir_1 := hkl2 _ _ (by simp only [List.mem_cons, List.not_mem_nil, or_false, not_or]; exact ne_ir_al) hir
  have kse_1 := hkl2 _ _ (by simp only [List.mem_cons, List.not_mem_nil, or_false, not_or]; exact ne_se_al) hse
  have kec_1 := hkl2 _ _ (by simp only [List.mem_cons, List.not_mem_nil, or_false, not_or]; exact ne_ec_al) hec
  have klc_1 := hkl2 _ _ (by simp only [List.mem_cons, List.not_mem_nil, or_false, not_or]; exact ne_lc_al) hlc
  have kwc_1 := hkl2 _ _ (by simp only [List.mem_cons, List.not_mem_nil, or_false, not_or]; exact ne_wc_al) hwc
  have kol_1 := hkl2 _ _ (by simp only [List.mem_cons, List.not_mem_nil, or_false, not_or]; exact ne_ol_al) hol
  refine lv_iload_n hx hb dX6_sweep_2 rfl (lv_at hl 0 rfl) ?_
  refine lv_bipush (v := 100) hx hb dX6_sweep_3 (by decide) ?_
  refine lv_icmp_ge (tgt := 29) hx hb dX6_sweep_5 (by decide) (fun c1 => ?_) (fun c1 => ?_)
  · have hqc1 : 100 ≤ j2 := nb_le (a := 100) (b := j2) (by omega) (by omega) c1
    refine lv_iconst (v := 1) hx hb dX6_sweep_29 (by decide) ?_
    refine lv_istore_n (lv' := [(1, .int 1), (0, .ref mo)]) hx hb dX6_sweep_30 rfl hl (by decide) rfl (fun ls hl => ?_)
    have hI0 : mI k Ml2 mo cn ia dr en la wo op mk ir se ec lc wc ol al dn md := ⟨_, _, _, _, _, _, _, fcn, fia, fdr, fen, fla, fwo, fop, fmk, fir, fse, fec, flc, fol, fal_1, fwc, hap, kmo_1, hmd, ⟨hrC, hrL, hrM⟩, kcn_1, kia_1, kdr_1, ken_1, kla_1, kwo_1, kop_1, kmk_1, kir_1, kse_1, kec_1, klc_1, kwc_1, kol_1, hal_1⟩
    refine W_loop (σ := Int32 × mM) (fun ⟨y31_1, Ml31⟩ H locs ls => (mI k Ml31 mo cn ia dr en la wo op mk ir se ec lc wc ol al dn md) ∧ (kpx (fun a => a ∈ [mo, cn, ia, dr, en, la, wo, op, mk, ir, se, ec, lc, wc, ol, al]) M Ml31) ∧ (kpx (fun a => a ∈ [al]) Ml2 Ml31) ∧ mm D (AZ z) Ml31 H ∧ va_S (AZ z) s.heap H locs ∧ lv_has ls 6 [(1, .int y31_1), (0, .ref mo)]) (fun ⟨y31_1, Ml31⟩ => 2 * deadM Ml31 al + (if y31_1 = 0 then 0 else 1)) (fun _ => 0) (fun _ => 0) ?_ (1, Ml2) _ _ _ ⟨hI0, hkp, (kpx.refl _ _), hm, hS, lv_sub hl [0, 1] rfl⟩
    intro ⟨y31_1, Ml31⟩ H locs ls hQ ih31
    obtain ⟨hI, hkp, hkl31, hm, hS, hl⟩ := hQ
    try dsimp only at hm hl ih31 hI hkp hkl31 ⊢
    obtain ⟨_, _, _, _, _, _, _, _, _, _, _, _, _, _, _, _, _, _, _, _, fal_2, _, -, -, hmd_2, ⟨-, -, -⟩, -, -, -, -, -, -, -, -, -, -, -, -, -, -, hal_2⟩ := id hI
    have kmo_2 := hkl31 _ _ (by simp only [List.mem_cons, List.not_mem_nil, or_false, not_or]; exact ne_mo_al) kmo_1
    have kcn_2 := hkl31 _ _ (by simp only [List.mem_cons, List.not_mem_nil, or_false, not_or]; exact ne_cn_al) kcn_1
    have kia_2 := hkl31 _ _ (by simp only [List.mem_cons, List.not_mem_nil, or_false, not_or]; exact ne_ia_al) kia_1
    have kdr_2 := hkl31 _ _ (by simp only [List.mem_cons, List.not_mem_nil, or_false, not_or]; exact ne_dr_al) kdr_1
    have ken_2 := hkl31 _ _ (by simp only [List.mem_cons, List.not_mem_nil, or_false, not_or]; exact ne_en_al) ken_1
    have kla_2 := hkl31 _ _ (by simp only [List.mem_cons, List.not_mem_nil, or_false, not_or]; exact ne_la_al) kla_1
    have kwo_2 := hkl31 _ _ (by simp only [List.mem_cons, List.not_mem_nil, or_false, not_or]; exact ne_wo_al) kwo_1
    have kop_2 := hkl31 _ _ (by simp only [List.mem_cons, List.not_mem_nil, or_false, not_or]; exact ne_op_al) kop_1
    have kmk_2 := hkl31 _ _ (by simp only [List.mem_cons, List.not_mem_nil, or_false, not_or]; exact ne_mk_al) kmk_1
    have kir_2 := hkl31 _ _ (by simp only [List.mem_cons, List.not_mem_nil, or_false, not_or]; exact ne_ir_al) kir_1
    have kse_2 := hkl31 _ _ (by simp only [List.mem_cons, List.not_mem_nil, or_false, not_or]; exact ne_se_al) kse_1
    have kec_2 := hkl31 _ _ (by simp only [List.mem_cons, List.not_mem_nil, or_false, not_or]; exact ne_ec_al) kec_1
    have klc_2 := hkl31 _ _ (by simp only [List.mem_cons, List.not_mem_nil, or_false, not_or]; exact ne_lc_al) klc_1
    have kwc_2 := hkl31 _ _ (by simp only [List.mem_cons, List.not_mem_nil, or_false, not_or]; exact ne_wc_al) kwc_1
    have kol_2 := hkl31 _ _ (by simp only [List.mem_cons, List.not_mem_nil, or_false, not_or]; exact ne_ol_al) kol_1
    refine lv_iload_n hx hb dX6_sweep_31 rfl (lv_at hl 0 rfl) ?_
    refine lv_if_eq (tgt := 151) hx hb dX6_sweep_32 (by decide) (fun c2 => ?_) (fun c2 => ?_)
    · refine lv_aload_n hx hb dX6_sweep_151 rfl (lv_at hl 1 rfl) ?_
      refine lv_iconst (v := 0) hx hb dX6_sweep_152 (by decide) ?_
      refine m_put (T := TX6) (N := 24) (ci := 6) (v := .int 0) (ty := .int) hx hb hts wX6 tyX6 tyX6_ok nmX6 hown hK hm hS kmo_2 rfl 23 (by decide) f133 (fun _ h9 => h9) rfl (by decide +kernel) rfl rfl (Nat.le_of_ble_eq_true rfl) dX6_sweep_153 (fun H locs hm hS => ?_)
      have hm : mm D (AZ z) (mu Ml31 mo (.inr (6, [.int cd, .ref cn, .ref ia, .ref dr, .ref en, .ref la, .ref wo, .int ni, .ref op, .ref mk, .ref ir, .int dn, .int md, .int pw, .int cm, .int wr, .ref se, .ref ec, .ref lc, .ref wc, .ref ol, .ref al, .int cs, .int 0]))) H := hm
      have hkp : kpx (fun a => a ∈ [mo, cn, ia, dr, en, la, wo, op, mk, ir, se, ec, lc, wc, ol, al]) M (mu Ml31 mo (.inr (6, [.int cd, .ref cn, .ref ia, .ref dr, .ref en, .ref la, .ref wo, .int ni, .ref op, .ref mk, .ref ir, .int dn, .int md, .int pw, .int cm, .int wr, .ref se, .ref ec, .ref lc, .ref wc, .ref ol, .ref al, .int cs, .int 0]))) := (hkp).self (by simp)
      refine lv_iconst (v := 0) hx hb dX6_sweep_156 (by decide) ?_
      refine lv_istore_n (lv' := [(2, .int 0), (1, .int y31_1), (0, .ref mo)]) hx hb dX6_sweep_157 rfl hl (by decide) rfl (fun ls hl => ?_)
      have hI0 : mI k (mu Ml31 mo (.inr (6, [.int cd, .ref cn, .ref ia, .ref dr, .ref en, .ref la, .ref wo, .int ni, .ref op, .ref mk, .ref ir, .int dn, .int md, .int pw, .int cm, .int wr, .ref se, .ref ec, .ref lc, .ref wc, .ref ol, .ref al, .int cs, .int 0]))) mo cn ia dr en la wo op mk ir se ec lc wc ol al dn md := ⟨_, _, _, _, _, _, _, fcn, fia, fdr, fen, fla, fwo, fop, fmk, fir, fse, fec, flc, fol, fal_2, fwc, hap, (mu_self _ _ _), hmd, ⟨hrC, hrL, hrM⟩, ((mu_ne ne_cn_mo).trans kcn_2), ((mu_ne ne_ia_mo).trans kia_2), ((mu_ne ne_dr_mo).trans kdr_2), ((mu_ne ne_en_mo).trans ken_2), ((mu_ne ne_la_mo).trans kla_2), ((mu_ne ne_wo_mo).trans kwo_2), ((mu_ne ne_op_mo).trans kop_2), ((mu_ne ne_mk_mo).trans kmk_2), ((mu_ne ne_ir_mo).trans kir_2), ((mu_ne ne_se_mo).trans kse_2), ((mu_ne ne_ec_mo).trans kec_2), ((mu_ne ne_lc_mo).trans klc_2), ((mu_ne ne_wc_mo).trans kwc_2), ((mu_ne ne_ol_mo).trans kol_2), ((mu_ne ne_al_mo).trans hal_2)⟩
      refine W_loop (σ := Nat × mM) (fun ⟨j158, Ml158⟩ H locs ls => (0 ≤ j158 ∧ j158 < 2147483000) ∧ (mI k Ml158 mo cn ia dr en la wo op mk ir se ec lc wc ol al dn md) ∧ (kpx (fun a => a ∈ [mo, cn, ia, dr, en, la, wo, op, mk, ir, se, ec, lc, wc, ol, al]) M Ml158) ∧ (kpx (fun a => a ∈ [mo]) (mu Ml31 mo (.inr (6, [.int cd, .ref cn, .ref ia, .ref dr, .ref en, .ref la, .ref wo, .int ni, .ref op, .ref mk, .ref ir, .int dn, .int md, .int pw, .int cm, .int wr, .ref se, .ref ec, .ref lc, .ref wc, .ref ol, .ref al, .int cs, .int 0]))) Ml158) ∧ mm D (AZ z) Ml158 H ∧ va_S (AZ z) s.heap H locs ∧ lv_has ls 6 [(2, .int (nI j158)), (1, .int y31_1), (0, .ref mo)]) (fun ⟨j158, Ml158⟩ => 2147483648 - j158) (fun _ => 0) (fun _ => 0) ?_ (0, (mu Ml31 mo (.inr (6, [.int cd, .ref cn, .ref ia, .ref dr, .ref en, .ref la, .ref wo, .int ni, .ref op, .ref mk, .ref ir, .int dn, .int md, .int pw, .int cm, .int wr, .ref se, .ref ec, .ref lc, .ref wc, .ref ol, .ref al, .int cs, .int 0])))) _ _ _ ⟨⟨Nat.le_refl _, by omega⟩, hI0, hkp, (kpx.refl _ _), hm, hS, lv_sub hl [0, 1, 2] rfl⟩
      intro ⟨j158, Ml158⟩ H locs ls hQ ih158
      obtain ⟨hj158, hI, hkp, hkl158, hm, hS, hl⟩ := hQ
      try dsimp only at hm hl ih158 hj158 hI hkp hkl158 ⊢
      obtain ⟨cd_3, ni_3, pw_3, cm_3, wr_3, cs_3, hm9_3, _, _, _, _, _, _, _, _, _, _, _, _, _, _, _, -, hM_3, hmd_3, ⟨-, -, -⟩, -, -, -, -, -, -, -, -, -, -, -, -, -, -, -⟩ := id hI
      have kcn_3 := hkl158 _ _ (by simp only [List.mem_cons, List.not_mem_nil, or_false, not_or]; exact ne_cn_mo) ((mu_ne ne_cn_mo).trans kcn_2)
      have kia_3 := hkl158 _ _ (by simp only [List.mem_cons, List.not_mem_nil, or_false, not_or]; exact ne_ia_mo) ((mu_ne ne_ia_mo).trans kia_2)
      have kdr_3 := hkl158 _ _ (by simp only [List.mem_cons, List.not_mem_nil, or_false, not_or]; exact ne_dr_mo) ((mu_ne ne_dr_mo).trans kdr_2)
      have ken_3 := hkl158 _ _ (by simp only [List.mem_cons, List.not_mem_nil, or_false, not_or]; exact ne_en_mo) ((mu_ne ne_en_mo).trans ken_2)
      have kla_3 := hkl158 _ _ (by simp only [List.mem_cons, List.not_mem_nil, or_false, not_or]; exact ne_la_mo) ((mu_ne ne_la_mo).trans kla_2)
      have kwo_3 := hkl158 _ _ (by simp only [List.mem_cons, List.not_mem_nil, or_false, not_or]; exact ne_wo_mo) ((mu_ne ne_wo_mo).trans kwo_2)
      have kop_3 := hkl158 _ _ (by simp only [List.mem_cons, List.not_mem_nil, or_false, not_or]; exact ne_op_mo) ((mu_ne ne_op_mo).trans kop_2)
      have kmk_3 := hkl158 _ _ (by simp only [List.mem_cons, List.not_mem_nil, or_false, not_or]; exact ne_mk_mo) ((mu_ne ne_mk_mo).trans kmk_2)
      have kir_3 := hkl158 _ _ (by simp only [List.mem_cons, List.not_mem_nil, or_false, not_or]; exact ne_ir_mo) ((mu_ne ne_ir_mo).trans kir_2)
      have kse_3 := hkl158 _ _ (by simp only [List.mem_cons, List.not_mem_nil, or_false, not_or]; exact ne_se_mo) ((mu_ne ne_se_mo).trans kse_2)
      have kec_3 := hkl158 _ _ (by simp only [List.mem_cons, List.not_mem_nil, or_false, not_or]; exact ne_ec_mo) ((mu_ne ne_ec_mo).trans kec_2)
      have klc_3 := hkl158 _ _ (by simp only [List.mem_cons, List.not_mem_nil, or_false, not_or]; exact ne_lc_mo) ((mu_ne ne_lc_mo).trans klc_2)
      have kwc_3 := hkl158 _ _ (by simp only [List.mem_cons, List.not_mem_nil, or_false, not_or]; exact ne_wc_mo) ((mu_ne ne_wc_mo).trans kwc_2)
      have kol_3 := hkl158 _ _ (by simp only [List.mem_cons, List.not_mem_nil, or_false, not_or]; exact ne_ol_mo) ((mu_ne ne_ol_mo).trans kol_2)
      have kal_3 := hkl158 _ _ (by simp only [List.mem_cons, List.not_mem_nil, or_false, not_or]; exact ne_al_mo) ((mu_ne ne_al_mo).trans hal_2)
      refine lv_iload_n hx hb dX6_sweep_158 rfl (lv_at hl 0 rfl) ?_
      refine lv_aload_n hx hb dX6_sweep_159 rfl (lv_at hl 2 rfl) ?_
      refine m_get (T := TX6) (N := 24) (ci := 6) (v := .ref cn) hx hb hts wX6 hown hK hm hM_3 rfl 1 (by decide) f7 (fun _ h9 => h9) rfl dX6_sweep_160 ?_
      refine lv_bipush (v := 31) hx hb dX6_sweep_163 (by decide) ?_
      refine m_iald hx hb hK hm 0 kcn_3 rfl (by unfold vp_in; decide) dX6_sweep_165 ?_
      obtain ⟨u3, hu3, eu3⟩ := hrC 31
      refine W.eq (g2 := F0 m 166 ls [.int (nI u3), .int (nI j158)]) (by rw [show (fcn (31 : Int32).toNatClampNeg) = nI u3 from (congrArg fcn (show (31 : Int32).toNatClampNeg = 31 from rfl)).trans eu3]) ?_
      have hb_u3 := hu3
      have hu3 : u3 ≤ 100 := Nat.le_trans hu3 (bC_le _)
      refine lv_icmp_ge (tgt := 368) hx hb dX6_sweep_166 (by decide) (fun c4 => ?_) (fun c4 => ?_)
      · have hqc4 : u3 ≤ j158 := nb_le (a := u3) (b := j158) (by omega) (by omega) c4
        refine lv_iconst (v := 0) hx hb dX6_sweep_368 (by decide) ?_
        refine lv_istore_n (lv' := [(2, .int 0), (1, .int y31_1), (0, .ref mo)]) hx hb dX6_sweep_369 rfl hl (by decide) rfl (fun ls hl => ?_)
        refine lv_iconst (v := 0) hx hb dX6_sweep_370 (by decide) ?_
        refine lv_istore_n (lv' := [(3, .int 0), (2, .int 0), (1, .int y31_1), (0, .ref mo)]) hx hb dX6_sweep_371 rfl hl (by decide) rfl (fun ls hl => ?_)
        have hI0 : mI k Ml158 mo cn ia dr en la wo op mk ir se ec lc wc ol al dn md := ⟨_, _, _, _, _, _, _, fcn, fia, fdr, fen, fla, fwo, fop, fmk, fir, fse, fec, flc, fol, fal_2, fwc, hap, hM_3, hmd, ⟨hrC, hrL, hrM⟩, kcn_3, kia_3, kdr_3, ken_3, kla_3, kwo_3, kop_3, kmk_3, kir_3, kse_3, kec_3, klc_3, kwc_3, kol_3, kal_3⟩
        refine W_loop (σ := Nat × Nat × mM) (fun ⟨j372, n372_2, Ml372⟩ H locs ls => (0 ≤ j372 ∧ j372 < 2147483000 ∧ j372 ≤ 100) ∧ (n372_2 ≤ j372) ∧ (mI k Ml372 mo cn ia dr en la wo op mk ir se ec lc wc ol al dn md) ∧ (kpx (fun a => a ∈ [mo, cn, ia, dr, en, la, wo, op, mk, ir, se, ec, lc, wc, ol, al]) M Ml372) ∧ (kpx (fun a => a ∈ [ia, dr, en, la, wo]) Ml158 Ml372) ∧ mm D (AZ z) Ml372 H ∧ va_S (AZ z) s.heap H locs ∧ lv_has ls 6 [(3, .int (nI j372)), (2, .int (nI n372_2)), (1, .int y31_1), (0, .ref mo)]) (fun ⟨j372, n372_2, Ml372⟩ => 2147483648 - j372) (fun _ => 0) (fun _ => 0) ?_ (0, 0, Ml158) _ _ _ ⟨⟨Nat.le_refl _, by omega, by omega⟩, (by omega), hI0, hkp, (kpx.refl _ _), hm, hS, lv_sub hl [0, 1, 2, 3] rfl⟩
        intro ⟨j372, n372_2, Ml372⟩ H locs ls hQ ih372
        obtain ⟨hj372, hn372_2, hI, hkp, hkl372, hm, hS, hl⟩ := hQ
        try dsimp only at hm hl ih372 hj372 hn372_2 hI hkp hkl372 ⊢
        obtain ⟨_, _, _, _, _, _, _, _, fia_4, fdr_4, fen_4, fla_4, fwo_4, _, _, _, _, _, _, _, _, _, -, -, hmd_4, ⟨-, hrL_4, -⟩, -, hia_4, hdr_4, hen_4, hla_4, hwo_4, -, -, -, -, -, -, -, -, -⟩ := id hI
        have kmo_4 := hkl372 _ _ (by simp only [List.mem_cons, List.not_mem_nil, or_false, not_or]; exact ⟨ne_mo_ia, ne_mo_dr, ne_mo_en, ne_mo_la, ne_mo_wo⟩) hM_3
        have kcn_4 := hkl372 _ _ (by simp only [List.mem_cons, List.not_mem_nil, or_false, not_or]; exact ⟨ne_cn_ia, ne_cn_dr, ne_cn_en, ne_cn_la, ne_cn_wo⟩) kcn_3
        have kop_4 := hkl372 _ _ (by simp only [List.mem_cons, List.not_mem_nil, or_false, not_or]; exact ⟨ne_op_ia, ne_op_dr, ne_op_en, ne_op_la, ne_op_wo⟩) kop_3
        have kmk_4 := hkl372 _ _ (by simp only [List.mem_cons, List.not_mem_nil, or_false, not_or]; exact ⟨ne_mk_ia, ne_mk_dr, ne_mk_en, ne_mk_la, ne_mk_wo⟩) kmk_3
        have kir_4 := hkl372 _ _ (by simp only [List.mem_cons, List.not_mem_nil, or_false, not_or]; exact ⟨ne_ir_ia, ne_ir_dr, ne_ir_en, ne_ir_la, ne_ir_wo⟩) kir_3
        have kse_4 := hkl372 _ _ (by simp only [List.mem_cons, List.not_mem_nil, or_false, not_or]; exact ⟨ne_se_ia, ne_se_dr, ne_se_en, ne_se_la, ne_se_wo⟩) kse_3
        have kec_4 := hkl372 _ _ (by simp only [List.mem_cons, List.not_mem_nil, or_false, not_or]; exact ⟨ne_ec_ia, ne_ec_dr, ne_ec_en, ne_ec_la, ne_ec_wo⟩) kec_3
        have klc_4 := hkl372 _ _ (by simp only [List.mem_cons, List.not_mem_nil, or_false, not_or]; exact ⟨ne_lc_ia, ne_lc_dr, ne_lc_en, ne_lc_la, ne_lc_wo⟩) klc_3
        have kwc_4 := hkl372 _ _ (by simp only [List.mem_cons, List.not_mem_nil, or_false, not_or]; exact ⟨ne_wc_ia, ne_wc_dr, ne_wc_en, ne_wc_la, ne_wc_wo⟩) kwc_3
        have kol_4 := hkl372 _ _ (by simp only [List.mem_cons, List.not_mem_nil, or_false, not_or]; exact ⟨ne_ol_ia, ne_ol_dr, ne_ol_en, ne_ol_la, ne_ol_wo⟩) kol_3
        have kal_4 := hkl372 _ _ (by simp only [List.mem_cons, List.not_mem_nil, or_false, not_or]; exact ⟨ne_al_ia, ne_al_dr, ne_al_en, ne_al_la, ne_al_wo⟩) kal_3
        refine lv_iload_n hx hb dX6_sweep_372 rfl (lv_at hl 0 rfl) ?_
        refine lv_aload_n hx hb dX6_sweep_373 rfl (lv_at hl 3 rfl) ?_
        refine m_get (T := TX6) (N := 24) (ci := 6) (v := .ref cn) hx hb hts wX6 hown hK hm kmo_4 rfl 1 (by decide) f7 (fun _ h9 => h9) rfl dX6_sweep_374 ?_
        refine lv_bipush (v := 31) hx hb dX6_sweep_377 (by decide) ?_
        refine m_iald hx hb hK hm 0 kcn_4 rfl (by unfold vp_in; decide) dX6_sweep_379 ?_
        refine W.eq (g2 := F0 m 380 ls [.int (nI u3), .int (nI j372)]) (by rw [show (fcn (31 : Int32).toNatClampNeg) = nI u3 from (congrArg fcn (show (31 : Int32).toNatClampNeg = 31 from rfl)).trans eu3]) ?_
        refine lv_icmp_ge (tgt := 415) hx hb dX6_sweep_380 (by decide) (fun c5 => ?_) (fun c5 => ?_)
        · have hqc5 : u3 ≤ j372 := nb_le (a := u3) (b := j372) (by omega) (by omega) c5
          refine lv_aload_n hx hb dX6_sweep_415 rfl (lv_at hl 3 rfl) ?_
          refine m_get (T := TX6) (N := 24) (ci := 6) (v := .ref cn) hx hb hts wX6 hown hK hm kmo_4 rfl 1 (by decide) f7 (fun _ h9 => h9) rfl dX6_sweep_416 ?_
          refine lv_bipush (v := 31) hx hb dX6_sweep_419 (by decide) ?_
          refine lv_iload_n hx hb dX6_sweep_421 rfl (lv_at hl 1 rfl) ?_
          refine m_iast hx hb hK hm hS 0 kcn_4 rfl (by unfold vp_in; decide) dX6_sweep_422 (fun H locs hm hS => ?_)
          have hrC : rng bC (upd fcn (31 : Int32).toNatClampNeg (nI n372_2)) := (hrC).up _ n372_2 (show n372_2 ≤ bC 31 from (show n372_2 ≤ 100 by omega))
          have hmd : md ≠ 0 → ∃ n, n ≤ 40 ∧ (upd fcn (31 : Int32).toNatClampNeg (nI n372_2)) 31 = nI n := fun q => absurd hmd0 q
          have hm : mm D (AZ z) (mu Ml372 cn (.inl (k 0, 32, .inl (upd fcn (31 : Int32).toNatClampNeg (nI n372_2))))) H := hm
          have hkp : kpx (fun a => a ∈ [mo, cn, ia, dr, en, la, wo, op, mk, ir, se, ec, lc, wc, ol, al]) M (mu Ml372 cn (.inl (k 0, 32, .inl (upd fcn (31 : Int32).toNatClampNeg (nI n372_2))))) := (hkp).self (by simp)
          refine W.vret hx hb hr (fun t ht hW => ⟨⟨none, _, rfl, ?_, by rw [ht]; exact hm⟩, hS.F ht⟩) hS.2.2 dX6_sweep_423
          exact ⟨rfl, ⟨_, _, _, _, _, _, _, (upd fcn (31 : Int32).toNatClampNeg (nI n372_2)), fia_4, fdr_4, fen_4, fla_4, fwo_4, fop, fmk, fir, fse, fec, flc, fol, fal_2, fwc, hap, ((mu_ne ne_mo_cn).trans kmo_4), hmd, ⟨hrC, hrL_4, hrM⟩, (mu_self _ _ _), ((mu_ne ne_ia_cn).trans hia_4), ((mu_ne ne_dr_cn).trans hdr_4), ((mu_ne ne_en_cn).trans hen_4), ((mu_ne ne_la_cn).trans hla_4), ((mu_ne ne_wo_cn).trans hwo_4), ((mu_ne ne_op_cn).trans kop_4), ((mu_ne ne_mk_cn).trans kmk_4), ((mu_ne ne_ir_cn).trans kir_4), ((mu_ne ne_se_cn).trans kse_4), ((mu_ne ne_ec_cn).trans kec_4), ((mu_ne ne_lc_cn).trans klc_4), ((mu_ne ne_wc_cn).trans kwc_4), ((mu_ne ne_ol_cn).trans kol_4), ((mu_ne ne_al_cn).trans kal_4)⟩, hkp⟩
        · have hqc5 : j372 < u3 := nb_nle (a := u3) (b := j372) (by omega) (by omega) c5
          refine lv_aload_n hx hb dX6_sweep_383 rfl (lv_at hl 3 rfl) ?_
          refine m_get (T := TX6) (N := 24) (ci := 6) (v := .ref al) hx hb hts wX6 hown hK hm kmo_4 rfl 21 (by decide) f64 (fun _ h9 => h9) rfl dX6_sweep_384 ?_
          refine lv_iload_n hx hb dX6_sweep_387 rfl (lv_at hl 0 rfl) ?_
          refine m_zald hx hb hK hm 2 kal_4 rfl (vp_in_nI (by omega) (by decide)) dX6_sweep_388 ?_
          refine lv_if_eq (tgt := 409) hx hb dX6_sweep_389 (by decide) (fun c6 => ?_) (fun c6 => ?_)
          · refine lv_iinc (v := ((nI j372) + 1)) (lv' := [(3, .int ((nI j372) + 1)), (2, .int (nI n372_2)), (1, .int y31_1), (0, .ref mo)]) hx hb dX6_sweep_409 hl (k := 0) rfl rfl (by decide) rfl (fun ls hl => ?_)
            refine lv_goto (tgt := 372) hx hb dX6_sweep_412 (by decide) ?_
            rw [nI_1] at hl
            exact ih372 (j372 + 1, n372_2, Ml372) _ _ _ ⟨⟨by omega, by omega, by omega⟩, (show n372_2 ≤ (j372 + 1) by omega), ⟨_, _, _, _, _, _, _, fcn, fia_4, fdr_4, fen_4, fla_4, fwo_4, fop, fmk, fir, fse, fec, flc, fol, fal_2, fwc, hap, kmo_4, hmd, ⟨hrC, hrL_4, hrM⟩, kcn_4, hia_4, hdr_4, hen_4, hla_4, hwo_4, kop_4, kmk_4, kir_4, kse_4, kec_4, klc_4, kwc_4, kol_4, kal_4⟩, hkp, hkl372, hm, hS, lv_sub hl [0, 1, 2, 3] rfl⟩ (by show 2147483648 - (j372 + 1) < 2147483648 - j372; omega)
          · refine lv_aload_n hx hb dX6_sweep_392 rfl (lv_at hl 3 rfl) ?_
            refine lv_sipush (v := 3100) hx hb dX6_sweep_393 (by decide) ?_
            refine lv_iload_n hx hb dX6_sweep_396 rfl (lv_at hl 1 rfl) ?_
            refine lv_iadd hx hb dX6_sweep_397 ?_
            refine W.eq (g2 := F0 m 398 ls [.int (nI (3100 + n372_2)), .ref mo]) (by rw [show ((3100) + ((nI n372_2)) : Int32) = nI (3100 + n372_2) from nI_add 3100 n372_2]) ?_
            refine lv_sipush (v := 3100) hx hb dX6_sweep_398 (by decide) ?_
            refine lv_iload_n hx hb dX6_sweep_401 rfl (lv_at hl 0 rfl) ?_
            refine lv_iadd hx hb dX6_sweep_402 ?_
            refine W.eq (g2 := F0 m 403 ls [.int (nI (3100 + j372)), .int (nI (3100 + n372_2)), .ref mo]) (by rw [show ((3100) + ((nI j372)) : Int32) = nI (3100 + j372) from nI_add 3100 j372]) ?_
            have hI0 : mI k Ml372 mo cn ia dr en la wo op mk ir se ec lc wc ol al dn md := ⟨_, _, _, _, _, _, _, fcn, fia_4, fdr_4, fen_4, fla_4, fwo_4, fop, fmk, fir, fse, fec, flc, fol, fal_2, fwc, hap, kmo_4, hmd, ⟨hrC, hrL_4, hrM⟩, kcn_4, hia_4, hdr_4, hen_4, hla_4, hwo_4, kop_4, kmk_4, kir_4, kse_4, kec_4, klc_4, kwc_4, kol_4, kal_4⟩
            refine m_kV (As := [.int (nI (3100 + n372_2)), .int (nI (3100 + j372))]) (rest := []) (rm := { frames := 0, cells := 0, slots := 0, locals := 0 }) ⟨hx, hb, hml, hown, hts⟩ (s_X6_copyNode l D k z _ mo cn ia dr en la wo op mk ir se ec lc wc ol al dn md (3100 + n372_2) (3100 + j372) (by omega) (by omega) hI0) (cwV 2 hts gX6_sweep_X6_copyNode rfl rfl rfl (by decide +kernel) ⟨Nat.le_of_ble_eq_true rfl, Nat.le_of_ble_eq_true rfl⟩) (m_recv hK hm (q := (RX6, TX6, 24)) rfl kmo_4) hz hcx hm hS rfl hl.1 rfl (Nat.le_of_ble_eq_true rfl) dX6_sweep_403 ⟨Nat.le_of_ble_eq_true rfl, Nat.le_of_ble_eq_true rfl⟩ (fun v M1 H locs hv hm hS => ?_)
            obtain ⟨hv1, hI9, hk9⟩ := hv
            obtain ⟨_, _, _, _, _, _, _, _, fia_5, fdr_5, fen_5, fla_5, fwo_5, _, _, _, _, _, _, _, _, _, -, -, hmd_5, ⟨-, hrL_5, -⟩, -, hia_5, hdr_5, hen_5, hla_5, hwo_5, -, -, -, -, -, -, -, -, -⟩ := id hI9
            have kmo_5 := hk9 _ _ (by simp only [List.mem_cons, List.not_mem_nil, or_false, not_or]; exact ⟨ne_mo_ia, ne_mo_dr, ne_mo_en, ne_mo_la, ne_mo_wo⟩) kmo_4
            have kcn_5 := hk9 _ _ (by simp only [List.mem_cons, List.not_mem_nil, or_false, not_or]; exact ⟨ne_cn_ia, ne_cn_dr, ne_cn_en, ne_cn_la, ne_cn_wo⟩) kcn_4
            have kop_5 := hk9 _ _ (by simp only [List.mem_cons, List.not_mem_nil, or_false, not_or]; exact ⟨ne_op_ia, ne_op_dr, ne_op_en, ne_op_la, ne_op_wo⟩) kop_4
            have kmk_5 := hk9 _ _ (by simp only [List.mem_cons, List.not_mem_nil, or_false, not_or]; exact ⟨ne_mk_ia, ne_mk_dr, ne_mk_en, ne_mk_la, ne_mk_wo⟩) kmk_4
            have kir_5 := hk9 _ _ (by simp only [List.mem_cons, List.not_mem_nil, or_false, not_or]; exact ⟨ne_ir_ia, ne_ir_dr, ne_ir_en, ne_ir_la, ne_ir_wo⟩) kir_4
            have kse_5 := hk9 _ _ (by simp only [List.mem_cons, List.not_mem_nil, or_false, not_or]; exact ⟨ne_se_ia, ne_se_dr, ne_se_en, ne_se_la, ne_se_wo⟩) kse_4
            have kec_5 := hk9 _ _ (by simp only [List.mem_cons, List.not_mem_nil, or_false, not_or]; exact ⟨ne_ec_ia, ne_ec_dr, ne_ec_en, ne_ec_la, ne_ec_wo⟩) kec_4
            have klc_5 := hk9 _ _ (by simp only [List.mem_cons, List.not_mem_nil, or_false, not_or]; exact ⟨ne_lc_ia, ne_lc_dr, ne_lc_en, ne_lc_la, ne_lc_wo⟩) klc_4
            have kwc_5 := hk9 _ _ (by simp only [List.mem_cons, List.not_mem_nil, or_false, not_or]; exact ⟨ne_wc_ia, ne_wc_dr, ne_wc_en, ne_wc_la, ne_wc_wo⟩) kwc_4
            have kol_5 := hk9 _ _ (by simp only [List.mem_cons, List.not_mem_nil, or_false, not_or]; exact ⟨ne_ol_ia, ne_ol_dr, ne_ol_en, ne_ol_la, ne_ol_wo⟩) kol_4
            have kal_5 := hk9 _ _ (by simp only [List.mem_cons, List.not_mem_nil, or_false, not_or]; exact ⟨ne_al_ia, ne_al_dr, ne_al_en, ne_al_la, ne_al_wo⟩) kal_4
            have hkp := hkp.trans (hk9.mono (fun a ha => by simp only [List.mem_cons, List.not_mem_nil, or_false] at ha ⊢; rcases ha with q9 | q9 | q9 | q9 | q9 <;> simp [q9]))
            have hkl372 := hkl372.trans (hk9.mono (fun a ha => by simp only [List.mem_cons, List.not_mem_nil, or_false] at ha ⊢; rcases ha with q9 | q9 | q9 | q9 | q9 <;> simp [q9]))
            obtain ⟨Mc1, hMx⟩ : ∃ x : mM, x = M1 := ⟨M1, rfl⟩
            subst hMx
            subst hv1
            refine W.eq (g2 := F0 m 406 ls []) rfl ?_
            refine W.widen (k := 0) (n := 0) (Nat.le_of_ble_eq_true rfl) (Nat.le_of_ble_eq_true rfl) ?_
            have hm : mm D (AZ z) Mc1 H := hm
            refine lv_iinc (v := ((nI n372_2) + 1)) (lv' := [(2, .int ((nI n372_2) + 1)), (3, .int (nI j372)), (1, .int y31_1), (0, .ref mo)]) hx hb dX6_sweep_406 hl (k := 1) rfl rfl (by decide) rfl (fun ls hl => ?_)
            rw [nI_1] at hl
            refine lv_iinc (v := ((nI j372) + 1)) (lv' := [(3, .int ((nI j372) + 1)), (2, .int (nI (n372_2 + 1))), (1, .int y31_1), (0, .ref mo)]) hx hb dX6_sweep_409 hl (k := 1) rfl rfl (by decide) rfl (fun ls hl => ?_)
            refine lv_goto (tgt := 372) hx hb dX6_sweep_412 (by decide) ?_
            rw [nI_1] at hl
            exact ih372 (j372 + 1, (n372_2 + 1), Mc1) _ _ _ ⟨⟨by omega, by omega, by omega⟩, (show (n372_2 + 1) ≤ (j372 + 1) by omega), ⟨_, _, _, _, _, _, _, fcn, fia_5, fdr_5, fen_5, fla_5, fwo_5, fop, fmk, fir, fse, fec, flc, fol, fal_2, fwc, hap, kmo_5, hmd, ⟨hrC, hrL_5, hrM⟩, kcn_5, hia_5, hdr_5, hen_5, hla_5, hwo_5, kop_5, kmk_5, kir_5, kse_5, kec_5, klc_5, kwc_5, kol_5, kal_5⟩, hkp, hkl372, hm, hS, lv_sub hl [0, 1, 2, 3] rfl⟩ (by show 2147483648 - (j372 + 1) < 2147483648 - j372; omega)
      · have hqc4 : j158 < u3 := nb_nle (a := u3) (b := j158) (by omega) (by omega) c4
        refine lv_sipush (v := 3100) hx hb dX6_sweep_169 (by decide) ?_
        refine lv_iload_n hx hb dX6_sweep_172 rfl (lv_at hl 0 rfl) ?_
        refine lv_iadd hx hb dX6_sweep_173 ?_
        refine W.eq (g2 := F0 m 174 ls [.int (nI (3100 + j158))]) (by rw [show ((3100) + ((nI j158)) : Int32) = nI (3100 + j158) from nI_add 3100 j158]) ?_
        refine lv_istore_n (lv' := [(3, .int (nI (3100 + j158))), (2, .int (nI j158)), (1, .int y31_1), (0, .ref mo)]) hx hb dX6_sweep_174 rfl hl (by decide) rfl (fun ls hl => ?_)
        refine lv_aload_n hx hb dX6_sweep_175 rfl (lv_at hl 3 rfl) ?_
        refine m_get (T := TX6) (N := 24) (ci := 6) (v := .ref al) hx hb hts wX6 hown hK hm hM_3 rfl 21 (by decide) f64 (fun _ h9 => h9) rfl dX6_sweep_176 ?_
        refine lv_iload_n hx hb dX6_sweep_179 rfl (lv_at hl 1 rfl) ?_
        refine m_zald hx hb hK hm 2 kal_3 rfl (vp_in_nI (by omega) (by decide)) dX6_sweep_180 ?_
        refine lv_if_eq (tgt := 228) hx hb dX6_sweep_181 (by decide) (fun c7 => ?_) (fun c7 => ?_)
        · refine lv_aload_n hx hb dX6_sweep_228 rfl (lv_at hl 3 rfl) ?_
          refine m_get (T := TX6) (N := 24) (ci := 6) (v := .ref al) hx hb hts wX6 hown hK hm hM_3 rfl 21 (by decide) f64 (fun _ h9 => h9) rfl dX6_sweep_229 ?_
          refine lv_iload_n hx hb dX6_sweep_232 rfl (lv_at hl 1 rfl) ?_
          refine m_zald hx hb hK hm 2 kal_3 rfl (vp_in_nI (by omega) (by decide)) dX6_sweep_233 ?_
          refine lv_if_eq (tgt := 362) hx hb dX6_sweep_234 (by decide) (fun c8 => ?_) (fun c8 => ?_)
          · refine lv_iinc (v := ((nI j158) + 1)) (lv' := [(2, .int ((nI j158) + 1)), (3, .int (nI (3100 + j158))), (1, .int y31_1), (0, .ref mo)]) hx hb dX6_sweep_362 hl (k := 1) rfl rfl (by decide) rfl (fun ls hl => ?_)
            refine lv_goto (tgt := 158) hx hb dX6_sweep_365 (by decide) ?_
            rw [nI_1] at hl
            exact ih158 (j158 + 1, Ml158) _ _ _ ⟨⟨by omega, by omega⟩, ⟨_, _, _, _, _, _, _, fcn, fia, fdr, fen, fla, fwo, fop, fmk, fir, fse, fec, flc, fol, fal_2, fwc, hap, hM_3, hmd, ⟨hrC, hrL, hrM⟩, kcn_3, kia_3, kdr_3, ken_3, kla_3, kwo_3, kop_3, kmk_3, kir_3, kse_3, kec_3, klc_3, kwc_3, kol_3, kal_3⟩, hkp, hkl158, hm, hS, lv_sub hl [0, 2, 3] rfl⟩ (by show 2147483648 - (j158 + 1) < 2147483648 - j158; omega)
          · refine lv_aload_n hx hb dX6_sweep_237 rfl (lv_at hl 3 rfl) ?_
            refine lv_dup hx hb dX6_sweep_238 rfl ?_
            refine m_get (T := TX6) (N := 24) (ci := 6) (v := .int hm9_3) hx hb hts wX6 hown hK hm hM_3 rfl 23 (by decide) f133 (fun _ h9 => h9) rfl dX6_sweep_239 ?_
            refine lv_aload_n hx hb dX6_sweep_242 rfl (lv_at hl 3 rfl) ?_
            refine m_get (T := TX6) (N := 24) (ci := 6) (v := .ref se) hx hb hts wX6 hown hK hm hM_3 rfl 16 (by decide) f48 (fun _ h9 => h9) rfl dX6_sweep_243 ?_
            refine lv_iload_n hx hb dX6_sweep_246 rfl (lv_at hl 1 rfl) ?_
            refine m_zald hx hb hK hm 2 kse_3 rfl (vp_in_nI (by omega) (by decide)) dX6_sweep_247 ?_
            refine lv_if_ne (tgt := 260) hx hb dX6_sweep_248 (by decide) (fun c9 => ?_) (fun c9 => ?_)
            · refine lv_iconst (v := 1) hx hb dX6_sweep_260 (by decide) ?_
              refine lv_goto (tgt := 265) hx hb dX6_sweep_261 (by decide) ?_
              refine lv_iadd hx hb dX6_sweep_265 ?_
              refine m_put (T := TX6) (N := 24) (ci := 6) (v := .int (hm9_3 + 1)) (ty := .int) hx hb hts wX6 tyX6 tyX6_ok nmX6 hown hK hm hS hM_3 rfl 23 (by decide) f133 (fun _ h9 => h9) rfl (by decide +kernel) rfl rfl (Nat.le_of_ble_eq_true rfl) dX6_sweep_266 (fun H locs hm hS => ?_)
              have hm : mm D (AZ z) (mu Ml158 mo (.inr (6, [.int cd_3, .ref cn, .ref ia, .ref dr, .ref en, .ref la, .ref wo, .int ni_3, .ref op, .ref mk, .ref ir, .int dn, .int md, .int pw_3, .int cm_3, .int wr_3, .ref se, .ref ec, .ref lc, .ref wc, .ref ol, .ref al, .int cs_3, .int (hm9_3 + 1)]))) H := hm
              have hkp : kpx (fun a => a ∈ [mo, cn, ia, dr, en, la, wo, op, mk, ir, se, ec, lc, wc, ol, al]) M (mu Ml158 mo (.inr (6, [.int cd_3, .ref cn, .ref ia, .ref dr, .ref en, .ref la, .ref wo, .int ni_3, .ref op, .ref mk, .ref ir, .int dn, .int md, .int pw_3, .int cm_3, .int wr_3, .ref se, .ref ec, .ref lc, .ref wc, .ref ol, .ref al, .int cs_3, .int (hm9_3 + 1)]))) := (hkp).self (by simp)
              have hkl158 : kpx (fun a => a ∈ [mo]) (mu Ml31 mo (.inr (6, [.int cd, .ref cn, .ref ia, .ref dr, .ref en, .ref la, .ref wo, .int ni, .ref op, .ref mk, .ref ir, .int dn, .int md, .int pw, .int cm, .int wr, .ref se, .ref ec, .ref lc, .ref wc, .ref ol, .ref al, .int cs, .int 0]))) (mu Ml158 mo (.inr (6, [.int cd_3, .ref cn, .ref ia, .ref dr, .ref en, .ref la, .ref wo, .int ni_3, .ref op, .ref mk, .ref ir, .int dn, .int md, .int pw_3, .int cm_3, .int wr_3, .ref se, .ref ec, .ref lc, .ref wc, .ref ol, .ref al, .int cs_3, .int (hm9_3 + 1)]))) := hkl158.self (by simp)
              refine lv_iconst (v := 0) hx hb dX6_sweep_269 (by decide) ?_
              refine lv_istore (lv' := [(4, .int 0), (3, .int (nI (3100 + j158))), (2, .int (nI j158)), (1, .int y31_1), (0, .ref mo)]) hx hb dX6_sweep_270 hl (by decide) rfl (fun ls hl => ?_)
              have hI0 : mI k (mu Ml158 mo (.inr (6, [.int cd_3, .ref cn, .ref ia, .ref dr, .ref en, .ref la, .ref wo, .int ni_3, .ref op, .ref mk, .ref ir, .int dn, .int md, .int pw_3, .int cm_3, .int wr_3, .ref se, .ref ec, .ref lc, .ref wc, .ref ol, .ref al, .int cs_3, .int (hm9_3 + 1)]))) mo cn ia dr en la wo op mk ir se ec lc wc ol al dn md := ⟨_, _, _, _, _, _, _, fcn, fia, fdr, fen, fla, fwo, fop, fmk, fir, fse, fec, flc, fol, fal_2, fwc, hap, (mu_self _ _ _), hmd, ⟨hrC, hrL, hrM⟩, ((mu_ne ne_cn_mo).trans kcn_3), ((mu_ne ne_ia_mo).trans kia_3), ((mu_ne ne_dr_mo).trans kdr_3), ((mu_ne ne_en_mo).trans ken_3), ((mu_ne ne_la_mo).trans kla_3), ((mu_ne ne_wo_mo).trans kwo_3), ((mu_ne ne_op_mo).trans kop_3), ((mu_ne ne_mk_mo).trans kmk_3), ((mu_ne ne_ir_mo).trans kir_3), ((mu_ne ne_se_mo).trans kse_3), ((mu_ne ne_ec_mo).trans kec_3), ((mu_ne ne_lc_mo).trans klc_3), ((mu_ne ne_wc_mo).trans kwc_3), ((mu_ne ne_ol_mo).trans kol_3), ((mu_ne ne_al_mo).trans kal_3)⟩
              refine W_loop (σ := Nat × mM) (fun ⟨j272, Ml272⟩ H locs ls => (0 ≤ j272 ∧ j272 < 2147483000) ∧ (mI k Ml272 mo cn ia dr en la wo op mk ir se ec lc wc ol al dn md) ∧ (kpx (fun a => a ∈ [mo, cn, ia, dr, en, la, wo, op, mk, ir, se, ec, lc, wc, ol, al]) M Ml272) ∧ (kpx (fun a => a ∈ [mo]) (mu Ml158 mo (.inr (6, [.int cd_3, .ref cn, .ref ia, .ref dr, .ref en, .ref la, .ref wo, .int ni_3, .ref op, .ref mk, .ref ir, .int dn, .int md, .int pw_3, .int cm_3, .int wr_3, .ref se, .ref ec, .ref lc, .ref wc, .ref ol, .ref al, .int cs_3, .int (hm9_3 + 1)]))) Ml272) ∧ mm D (AZ z) Ml272 H ∧ va_S (AZ z) s.heap H locs ∧ lv_has ls 6 [(4, .int (nI j272)), (3, .int (nI (3100 + j158))), (2, .int (nI j158)), (1, .int y31_1), (0, .ref mo)]) (fun ⟨j272, Ml272⟩ => 2147483648 - j272) (fun _ => 0) (fun _ => 0) ?_ (0, (mu Ml158 mo (.inr (6, [.int cd_3, .ref cn, .ref ia, .ref dr, .ref en, .ref la, .ref wo, .int ni_3, .ref op, .ref mk, .ref ir, .int dn, .int md, .int pw_3, .int cm_3, .int wr_3, .ref se, .ref ec, .ref lc, .ref wc, .ref ol, .ref al, .int cs_3, .int (hm9_3 + 1)])))) _ _ _ ⟨⟨Nat.le_refl _, by omega⟩, hI0, hkp, (kpx.refl _ _), hm, hS, lv_sub hl [0, 1, 2, 3, 4] rfl⟩
              intro ⟨j272, Ml272⟩ H locs ls hQ ih272
              obtain ⟨hj272, hI, hkp, hkl272, hm, hS, hl⟩ := hQ
              try dsimp only at hm hl ih272 hj272 hI hkp hkl272 ⊢
              obtain ⟨cd_6, ni_6, pw_6, cm_6, wr_6, cs_6, hm9_6, _, _, _, _, _, _, _, _, _, _, _, _, _, _, _, -, hM_6, hmd_6, ⟨-, -, -⟩, -, -, -, -, -, -, -, -, -, -, -, -, -, -, -⟩ := id hI
              have kcn_6 := hkl272 _ _ (by simp only [List.mem_cons, List.not_mem_nil, or_false, not_or]; exact ne_cn_mo) ((mu_ne ne_cn_mo).trans kcn_3)
              have kia_6 := hkl272 _ _ (by simp only [List.mem_cons, List.not_mem_nil, or_false, not_or]; exact ne_ia_mo) ((mu_ne ne_ia_mo).trans kia_3)
              have kdr_6 := hkl272 _ _ (by simp only [List.mem_cons, List.not_mem_nil, or_false, not_or]; exact ne_dr_mo) ((mu_ne ne_dr_mo).trans kdr_3)
              have ken_6 := hkl272 _ _ (by simp only [List.mem_cons, List.not_mem_nil, or_false, not_or]; exact ne_en_mo) ((mu_ne ne_en_mo).trans ken_3)
              have kla_6 := hkl272 _ _ (by simp only [List.mem_cons, List.not_mem_nil, or_false, not_or]; exact ne_la_mo) ((mu_ne ne_la_mo).trans kla_3)
              have kwo_6 := hkl272 _ _ (by simp only [List.mem_cons, List.not_mem_nil, or_false, not_or]; exact ne_wo_mo) ((mu_ne ne_wo_mo).trans kwo_3)
              have kop_6 := hkl272 _ _ (by simp only [List.mem_cons, List.not_mem_nil, or_false, not_or]; exact ne_op_mo) ((mu_ne ne_op_mo).trans kop_3)
              have kmk_6 := hkl272 _ _ (by simp only [List.mem_cons, List.not_mem_nil, or_false, not_or]; exact ne_mk_mo) ((mu_ne ne_mk_mo).trans kmk_3)
              have kir_6 := hkl272 _ _ (by simp only [List.mem_cons, List.not_mem_nil, or_false, not_or]; exact ne_ir_mo) ((mu_ne ne_ir_mo).trans kir_3)
              have kse_6 := hkl272 _ _ (by simp only [List.mem_cons, List.not_mem_nil, or_false, not_or]; exact ne_se_mo) ((mu_ne ne_se_mo).trans kse_3)
              have kec_6 := hkl272 _ _ (by simp only [List.mem_cons, List.not_mem_nil, or_false, not_or]; exact ne_ec_mo) ((mu_ne ne_ec_mo).trans kec_3)
              have klc_6 := hkl272 _ _ (by simp only [List.mem_cons, List.not_mem_nil, or_false, not_or]; exact ne_lc_mo) ((mu_ne ne_lc_mo).trans klc_3)
              have kwc_6 := hkl272 _ _ (by simp only [List.mem_cons, List.not_mem_nil, or_false, not_or]; exact ne_wc_mo) ((mu_ne ne_wc_mo).trans kwc_3)
              have kol_6 := hkl272 _ _ (by simp only [List.mem_cons, List.not_mem_nil, or_false, not_or]; exact ne_ol_mo) ((mu_ne ne_ol_mo).trans kol_3)
              have kal_6 := hkl272 _ _ (by simp only [List.mem_cons, List.not_mem_nil, or_false, not_or]; exact ne_al_mo) ((mu_ne ne_al_mo).trans kal_3)
              have hkl158 := hkl158.trans (hkl272.mono (fun a ha => by simp only [List.mem_cons, List.not_mem_nil, or_false] at ha ⊢; subst ha; simp))
              refine lv_iload hx hb dX6_sweep_272 (lv_at hl 0 rfl) ?_
              refine lv_aload_n hx hb dX6_sweep_274 rfl (lv_at hl 4 rfl) ?_
              refine m_get (T := TX6) (N := 24) (ci := 6) (v := .ref la) hx hb hts wX6 hown hK hm hM_6 rfl 5 (by decide) f24 (fun _ h9 => h9) rfl dX6_sweep_275 ?_
              refine lv_iload_n hx hb dX6_sweep_278 rfl (lv_at hl 1 rfl) ?_
              refine m_iald hx hb hK hm 0 kla_6 rfl (vp_in_nI (by omega) (by decide)) dX6_sweep_279 ?_
              obtain ⟨u10, hu10, eu10⟩ := hrL (3100 + j158)
              refine W.eq (g2 := F0 m 280 ls [.int (nI u10), .int (nI j272)]) (by rw [show (fla ((nI (3100 + j158))).toNatClampNeg) = nI u10 from (congrArg fla (show ((nI (3100 + j158))).toNatClampNeg = (3100 + j158) from nI_clamp (by omega))).trans eu10]) ?_
              have hb_u10 := hu10
              have hu10 : u10 ≤ 64 := hu10
              refine lv_icmp_ge (tgt := 362) hx hb dX6_sweep_280 (by decide) (fun c11 => ?_) (fun c11 => ?_)
              · have hqc11 : u10 ≤ j272 := nb_le (a := u10) (b := j272) (by omega) (by omega) c11
                refine lv_iinc (v := ((nI j158) + 1)) (lv' := [(2, .int ((nI j158) + 1)), (4, .int (nI j272)), (3, .int (nI (3100 + j158))), (1, .int y31_1), (0, .ref mo)]) hx hb dX6_sweep_362 hl (k := 2) rfl rfl (by decide) rfl (fun ls hl => ?_)
                refine lv_goto (tgt := 158) hx hb dX6_sweep_365 (by decide) ?_
                rw [nI_1] at hl
                exact ih158 (j158 + 1, Ml272) _ _ _ ⟨⟨by omega, by omega⟩, ⟨_, _, _, _, _, _, _, fcn, fia, fdr, fen, fla, fwo, fop, fmk, fir, fse, fec, flc, fol, fal_2, fwc, hap, hM_6, hmd, ⟨hrC, hrL, hrM⟩, kcn_6, kia_6, kdr_6, ken_6, kla_6, kwo_6, kop_6, kmk_6, kir_6, kse_6, kec_6, klc_6, kwc_6, kol_6, kal_6⟩, hkp, hkl158, hm, hS, lv_sub hl [0, 3, 4] rfl⟩ (by show 2147483648 - (j158 + 1) < 2147483648 - j158; omega)
              · have hqc11 : j272 < u10 := nb_nle (a := u10) (b := j272) (by omega) (by omega) c11
                refine lv_iload hx hb dX6_sweep_283 (lv_at hl 0 rfl) ?_
                refine lv_bipush (v := 8) hx hb dX6_sweep_285 (by decide) ?_
                refine lv_iadd hx hb dX6_sweep_287 ?_
                refine W.eq (g2 := F0 m 288 ls [.int (nI (j272 + 8))]) (by rw [show (((nI j272)) + (8) : Int32) = nI (j272 + 8) from nI_add j272 8]) ?_
                refine lv_aload_n hx hb dX6_sweep_288 rfl (lv_at hl 4 rfl) ?_
                refine m_get (T := TX6) (N := 24) (ci := 6) (v := .ref la) hx hb hts wX6 hown hK hm hM_6 rfl 5 (by decide) f24 (fun _ h9 => h9) rfl dX6_sweep_289 ?_
                refine lv_iload_n hx hb dX6_sweep_292 rfl (lv_at hl 1 rfl) ?_
                refine m_iald hx hb hK hm 0 kla_6 rfl (vp_in_nI (by omega) (by decide)) dX6_sweep_293 ?_
                refine W.eq (g2 := F0 m 294 ls [.int (nI u10), .int (nI (j272 + 8))]) (by rw [show (fla ((nI (3100 + j158))).toNatClampNeg) = nI u10 from (congrArg fla (show ((nI (3100 + j158))).toNatClampNeg = (3100 + j158) from nI_clamp (by omega))).trans eu10]) ?_
                refine lv_icmp_ge (tgt := 305) hx hb dX6_sweep_294 (by decide) (fun c12 => ?_) (fun c12 => ?_)
                · have hqc12 : u10 ≤ (j272 + 8) := nb_le (a := u10) (b := (j272 + 8)) (by omega) (by omega) c12
                  refine lv_aload_n hx hb dX6_sweep_305 rfl (lv_at hl 4 rfl) ?_
                  refine m_get (T := TX6) (N := 24) (ci := 6) (v := .ref la) hx hb hts wX6 hown hK hm hM_6 rfl 5 (by decide) f24 (fun _ h9 => h9) rfl dX6_sweep_306 ?_
                  refine lv_iload_n hx hb dX6_sweep_309 rfl (lv_at hl 1 rfl) ?_
                  refine m_iald hx hb hK hm 0 kla_6 rfl (vp_in_nI (by omega) (by decide)) dX6_sweep_310 ?_
                  refine W.eq (g2 := F0 m 311 ls [.int (nI u10)]) (by rw [show (fla ((nI (3100 + j158))).toNatClampNeg) = nI u10 from (congrArg fla (show ((nI (3100 + j158))).toNatClampNeg = (3100 + j158) from nI_clamp (by omega))).trans eu10]) ?_
                  refine lv_istore (lv' := [(5, .int (nI u10)), (4, .int (nI j272)), (3, .int (nI (3100 + j158))), (2, .int (nI j158)), (1, .int y31_1), (0, .ref mo)]) hx hb dX6_sweep_311 hl (by decide) rfl (fun ls hl => ?_)
                  refine lv_aload_n hx hb dX6_sweep_313 rfl (lv_at hl 5 rfl) ?_
                  refine lv_dup hx hb dX6_sweep_314 rfl ?_
                  refine m_get (T := TX6) (N := 24) (ci := 6) (v := .int hm9_6) hx hb hts wX6 hown hK hm hM_6 rfl 23 (by decide) f133 (fun _ h9 => h9) rfl dX6_sweep_315 ?_
                  refine lv_aload_n hx hb dX6_sweep_318 rfl (lv_at hl 5 rfl) ?_
                  refine m_get (T := TX6) (N := 24) (ci := 6) (v := .ref wc) hx hb hts wX6 hown hK hm hM_6 rfl 19 (by decide) f57 (fun _ h9 => h9) rfl dX6_sweep_319 ?_
                  refine lv_iload_n hx hb dX6_sweep_322 rfl (lv_at hl 3 rfl) ?_
                  refine m_lald hx hb hK hm 1 kwc_6 rfl (vp_in_nI (by omega) (by decide)) dX6_sweep_323 ?_
                  refine lv_iload hx hb dX6_sweep_324 (lv_at hl 1 rfl) ?_
                  refine lv_lushr (v := (us (fwc ((nI j158)).toNatClampNeg) (nI j272))) hx hb dX6_sweep_326 rfl ?_
                  refine lv_ldc2 hx hb hown (hts (.constantLong RX6 136 (255)) (by decide +kernel)) dX6_sweep_327 ?_
                  refine lv_land hx hb dX6_sweep_330 ?_
                  refine lv_lconst (v := 0) hx hb dX6_sweep_331 (by decide) ?_
                  refine W.lcmp hx hb dX6_sweep_332 ?_
                  refine lv_if_ne (tgt := 347) hx hb dX6_sweep_333 (by decide) (fun c13 => ?_) (fun c13 => ?_)
                  · refine lv_iconst (v := 1) hx hb dX6_sweep_347 (by decide) ?_
                    refine lv_goto (tgt := 352) hx hb dX6_sweep_348 (by decide) ?_
                    refine lv_iadd hx hb dX6_sweep_352 ?_
                    refine m_put (T := TX6) (N := 24) (ci := 6) (v := .int (hm9_6 + 1)) (ty := .int) hx hb hts wX6 tyX6 tyX6_ok nmX6 hown hK hm hS hM_6 rfl 23 (by decide) f133 (fun _ h9 => h9) rfl (by decide +kernel) rfl rfl (Nat.le_of_ble_eq_true rfl) dX6_sweep_353 (fun H locs hm hS => ?_)
                    have hm : mm D (AZ z) (mu Ml272 mo (.inr (6, [.int cd_6, .ref cn, .ref ia, .ref dr, .ref en, .ref la, .ref wo, .int ni_6, .ref op, .ref mk, .ref ir, .int dn, .int md, .int pw_6, .int cm_6, .int wr_6, .ref se, .ref ec, .ref lc, .ref wc, .ref ol, .ref al, .int cs_6, .int (hm9_6 + 1)]))) H := hm
                    have hkp : kpx (fun a => a ∈ [mo, cn, ia, dr, en, la, wo, op, mk, ir, se, ec, lc, wc, ol, al]) M (mu Ml272 mo (.inr (6, [.int cd_6, .ref cn, .ref ia, .ref dr, .ref en, .ref la, .ref wo, .int ni_6, .ref op, .ref mk, .ref ir, .int dn, .int md, .int pw_6, .int cm_6, .int wr_6, .ref se, .ref ec, .ref lc, .ref wc, .ref ol, .ref al, .int cs_6, .int (hm9_6 + 1)]))) := (hkp).self (by simp)
                    have hkl158 : kpx (fun a => a ∈ [mo]) (mu Ml31 mo (.inr (6, [.int cd, .ref cn, .ref ia, .ref dr, .ref en, .ref la, .ref wo, .int ni, .ref op, .ref mk, .ref ir, .int dn, .int md, .int pw, .int cm, .int wr, .ref se, .ref ec, .ref lc, .ref wc, .ref ol, .ref al, .int cs, .int 0]))) (mu Ml272 mo (.inr (6, [.int cd_6, .ref cn, .ref ia, .ref dr, .ref en, .ref la, .ref wo, .int ni_6, .ref op, .ref mk, .ref ir, .int dn, .int md, .int pw_6, .int cm_6, .int wr_6, .ref se, .ref ec, .ref lc, .ref wc, .ref ol, .ref al, .int cs_6, .int (hm9_6 + 1)]))) := hkl158.self (by simp)
                    have hkl272 : kpx (fun a => a ∈ [mo]) (mu Ml158 mo (.inr (6, [.int cd_3, .ref cn, .ref ia, .ref dr, .ref en, .ref la, .ref wo, .int ni_3, .ref op, .ref mk, .ref ir, .int dn, .int md, .int pw_3, .int cm_3, .int wr_3, .ref se, .ref ec, .ref lc, .ref wc, .ref ol, .ref al, .int cs_3, .int (hm9_3 + 1)]))) (mu Ml272 mo (.inr (6, [.int cd_6, .ref cn, .ref ia, .ref dr, .ref en, .ref la, .ref wo, .int ni_6, .ref op, .ref mk, .ref ir, .int dn, .int md, .int pw_6, .int cm_6, .int wr_6, .ref se, .ref ec, .ref lc, .ref wc, .ref ol, .ref al, .int cs_6, .int (hm9_6 + 1)]))) := hkl272.self (by simp)
                    refine lv_iinc (v := ((nI j272) + 8)) (lv' := [(4, .int ((nI j272) + 8)), (5, .int (nI u10)), (3, .int (nI (3100 + j158))), (2, .int (nI j158)), (1, .int y31_1), (0, .ref mo)]) hx hb dX6_sweep_356 hl (k := 1) rfl rfl (by decide) rfl (fun ls hl => ?_)
                    refine lv_goto (tgt := 272) hx hb dX6_sweep_359 (by decide) ?_
                    rw [nI_8] at hl
                    exact ih272 (j272 + 8, (mu Ml272 mo (.inr (6, [.int cd_6, .ref cn, .ref ia, .ref dr, .ref en, .ref la, .ref wo, .int ni_6, .ref op, .ref mk, .ref ir, .int dn, .int md, .int pw_6, .int cm_6, .int wr_6, .ref se, .ref ec, .ref lc, .ref wc, .ref ol, .ref al, .int cs_6, .int (hm9_6 + 1)])))) _ _ _ ⟨⟨by omega, by omega⟩, ⟨_, _, _, _, _, _, _, fcn, fia, fdr, fen, fla, fwo, fop, fmk, fir, fse, fec, flc, fol, fal_2, fwc, hap, (mu_self _ _ _), hmd, ⟨hrC, hrL, hrM⟩, ((mu_ne ne_cn_mo).trans kcn_6), ((mu_ne ne_ia_mo).trans kia_6), ((mu_ne ne_dr_mo).trans kdr_6), ((mu_ne ne_en_mo).trans ken_6), ((mu_ne ne_la_mo).trans kla_6), ((mu_ne ne_wo_mo).trans kwo_6), ((mu_ne ne_op_mo).trans kop_6), ((mu_ne ne_mk_mo).trans kmk_6), ((mu_ne ne_ir_mo).trans kir_6), ((mu_ne ne_se_mo).trans kse_6), ((mu_ne ne_ec_mo).trans kec_6), ((mu_ne ne_lc_mo).trans klc_6), ((mu_ne ne_wc_mo).trans kwc_6), ((mu_ne ne_ol_mo).trans kol_6), ((mu_ne ne_al_mo).trans kal_6)⟩, hkp, hkl272, hm, hS, lv_sub hl [0, 2, 3, 4, 5] rfl⟩ (by show 2147483648 - (j272 + 8) < 2147483648 - j272; omega)
                  · refine lv_iload hx hb dX6_sweep_336 (lv_at hl 0 rfl) ?_
                    refine lv_aload_n hx hb dX6_sweep_338 rfl (lv_at hl 5 rfl) ?_
                    refine m_get (T := TX6) (N := 24) (ci := 6) (v := .ref ol) hx hb hts wX6 hown hK hm hM_6 rfl 20 (by decide) f61 (fun _ h9 => h9) rfl dX6_sweep_339 ?_
                    refine lv_iload_n hx hb dX6_sweep_342 rfl (lv_at hl 3 rfl) ?_
                    refine m_iald hx hb hK hm 0 kol_6 rfl (vp_in_nI (by omega) (by decide)) dX6_sweep_343 ?_
                    refine lv_icmp_le (tgt := 351) hx hb dX6_sweep_344 (by decide) (fun c14 => ?_) (fun c14 => ?_)
                    · refine lv_iconst (v := 0) hx hb dX6_sweep_351 (by decide) ?_
                      refine lv_iadd hx hb dX6_sweep_352 ?_
                      refine m_put (T := TX6) (N := 24) (ci := 6) (v := .int (hm9_6 + 0)) (ty := .int) hx hb hts wX6 tyX6 tyX6_ok nmX6 hown hK hm hS hM_6 rfl 23 (by decide) f133 (fun _ h9 => h9) rfl (by decide +kernel) rfl rfl (Nat.le_of_ble_eq_true rfl) dX6_sweep_353 (fun H locs hm hS => ?_)
                      have hm : mm D (AZ z) (mu Ml272 mo (.inr (6, [.int cd_6, .ref cn, .ref ia, .ref dr, .ref en, .ref la, .ref wo, .int ni_6, .ref op, .ref mk, .ref ir, .int dn, .int md, .int pw_6, .int cm_6, .int wr_6, .ref se, .ref ec, .ref lc, .ref wc, .ref ol, .ref al, .int cs_6, .int (hm9_6 + 0)]))) H := hm
                      have hkp : kpx (fun a => a ∈ [mo, cn, ia, dr, en, la, wo, op, mk, ir, se, ec, lc, wc, ol, al]) M (mu Ml272 mo (.inr (6, [.int cd_6, .ref cn, .ref ia, .ref dr, .ref en, .ref la, .ref wo, .int ni_6, .ref op, .ref mk, .ref ir, .int dn, .int md, .int pw_6, .int cm_6, .int wr_6, .ref se, .ref ec, .ref lc, .ref wc, .ref ol, .ref al, .int cs_6, .int (hm9_6 + 0)]))) := (hkp).self (by simp)
                      have hkl158 : kpx (fun a => a ∈ [mo]) (mu Ml31 mo (.inr (6, [.int cd, .ref cn, .ref ia, .ref dr, .ref en, .ref la, .ref wo, .int ni, .ref op, .ref mk, .ref ir, .int dn, .int md, .int pw, .int cm, .int wr, .ref se, .ref ec, .ref lc, .ref wc, .ref ol, .ref al, .int cs, .int 0]))) (mu Ml272 mo (.inr (6, [.int cd_6, .ref cn, .ref ia, .ref dr, .ref en, .ref la, .ref wo, .int ni_6, .ref op, .ref mk, .ref ir, .int dn, .int md, .int pw_6, .int cm_6, .int wr_6, .ref se, .ref ec, .ref lc, .ref wc, .ref ol, .ref al, .int cs_6, .int (hm9_6 + 0)]))) := hkl158.self (by simp)
                      have hkl272 : kpx (fun a => a ∈ [mo]) (mu Ml158 mo (.inr (6, [.int cd_3, .ref cn, .ref ia, .ref dr, .ref en, .ref la, .ref wo, .int ni_3, .ref op, .ref mk, .ref ir, .int dn, .int md, .int pw_3, .int cm_3, .int wr_3, .ref se, .ref ec, .ref lc, .ref wc, .ref ol, .ref al, .int cs_3, .int (hm9_3 + 1)]))) (mu Ml272 mo (.inr (6, [.int cd_6, .ref cn, .ref ia, .ref dr, .ref en, .ref la, .ref wo, .int ni_6, .ref op, .ref mk, .ref ir, .int dn, .int md, .int pw_6, .int cm_6, .int wr_6, .ref se, .ref ec, .ref lc, .ref wc, .ref ol, .ref al, .int cs_6, .int (hm9_6 + 0)]))) := hkl272.self (by simp)
                      refine lv_iinc (v := ((nI j272) + 8)) (lv' := [(4, .int ((nI j272) + 8)), (5, .int (nI u10)), (3, .int (nI (3100 + j158))), (2, .int (nI j158)), (1, .int y31_1), (0, .ref mo)]) hx hb dX6_sweep_356 hl (k := 1) rfl rfl (by decide) rfl (fun ls hl => ?_)
                      refine lv_goto (tgt := 272) hx hb dX6_sweep_359 (by decide) ?_
                      rw [nI_8] at hl
                      exact ih272 (j272 + 8, (mu Ml272 mo (.inr (6, [.int cd_6, .ref cn, .ref ia, .ref dr, .ref en, .ref la, .ref wo, .int ni_6, .ref op, .ref mk, .ref ir, .int dn, .int md, .int pw_6, .int cm_6, .int wr_6, .ref se, .ref ec, .ref lc, .ref wc, .ref ol, .ref al, .int cs_6, .int (hm9_6 + 0)])))) _ _ _ ⟨⟨by omega, by omega⟩, ⟨_, _, _, _, _, _, _, fcn, fia, fdr, fen, fla, fwo, fop, fmk, fir, fse, fec, flc, fol, fal_2, fwc, hap, (mu_self _ _ _), hmd, ⟨hrC, hrL, hrM⟩, ((mu_ne ne_cn_mo).trans kcn_6), ((mu_ne ne_ia_mo).trans kia_6), ((mu_ne ne_dr_mo).trans kdr_6), ((mu_ne ne_en_mo).trans ken_6), ((mu_ne ne_la_mo).trans kla_6), ((mu_ne ne_wo_mo).trans kwo_6), ((mu_ne ne_op_mo).trans kop_6), ((mu_ne ne_mk_mo).trans kmk_6), ((mu_ne ne_ir_mo).trans kir_6), ((mu_ne ne_se_mo).trans kse_6), ((mu_ne ne_ec_mo).trans kec_6), ((mu_ne ne_lc_mo).trans klc_6), ((mu_ne ne_wc_mo).trans kwc_6), ((mu_ne ne_ol_mo).trans kol_6), ((mu_ne ne_al_mo).trans kal_6)⟩, hkp, hkl272, hm, hS, lv_sub hl [0, 2, 3, 4, 5] rfl⟩ (by show 2147483648 - (j272 + 8) < 2147483648 - j272; omega)
                    · refine lv_iconst (v := 1) hx hb dX6_sweep_347 (by decide) ?_
                      refine lv_goto (tgt := 352) hx hb dX6_sweep_348 (by decide) ?_
                      refine lv_iadd hx hb dX6_sweep_352 ?_
                      refine m_put (T := TX6) (N := 24) (ci := 6) (v := .int (hm9_6 + 1)) (ty := .int) hx hb hts wX6 tyX6 tyX6_ok nmX6 hown hK hm hS hM_6 rfl 23 (by decide) f133 (fun _ h9 => h9) rfl (by decide +kernel) rfl rfl (Nat.le_of_ble_eq_true rfl) dX6_sweep_353 (fun H locs hm hS => ?_)
                      have hm : mm D (AZ z) (mu Ml272 mo (.inr (6, [.int cd_6, .ref cn, .ref ia, .ref dr, .ref en, .ref la, .ref wo, .int ni_6, .ref op, .ref mk, .ref ir, .int dn, .int md, .int pw_6, .int cm_6, .int wr_6, .ref se, .ref ec, .ref lc, .ref wc, .ref ol, .ref al, .int cs_6, .int (hm9_6 + 1)]))) H := hm
                      have hkp : kpx (fun a => a ∈ [mo, cn, ia, dr, en, la, wo, op, mk, ir, se, ec, lc, wc, ol, al]) M (mu Ml272 mo (.inr (6, [.int cd_6, .ref cn, .ref ia, .ref dr, .ref en, .ref la, .ref wo, .int ni_6, .ref op, .ref mk, .ref ir, .int dn, .int md, .int pw_6, .int cm_6, .int wr_6, .ref se, .ref ec, .ref lc, .ref wc, .ref ol, .ref al, .int cs_6, .int (hm9_6 + 1)]))) := (hkp).self (by simp)
                      have hkl158 : kpx (fun a => a ∈ [mo]) (mu Ml31 mo (.inr (6, [.int cd, .ref cn, .ref ia, .ref dr, .ref en, .ref la, .ref wo, .int ni, .ref op, .ref mk, .ref ir, .int dn, .int md, .int pw, .int cm, .int wr, .ref se, .ref ec, .ref lc, .ref wc, .ref ol, .ref al, .int cs, .int 0]))) (mu Ml272 mo (.inr (6, [.int cd_6, .ref cn, .ref ia, .ref dr, .ref en, .ref la, .ref wo, .int ni_6, .ref op, .ref mk, .ref ir, .int dn, .int md, .int pw_6, .int cm_6, .int wr_6, .ref se, .ref ec, .ref lc, .ref wc, .ref ol, .ref al, .int cs_6, .int (hm9_6 + 1)]))) := hkl158.self (by simp)
                      have hkl272 : kpx (fun a => a ∈ [mo]) (mu Ml158 mo (.inr (6, [.int cd_3, .ref cn, .ref ia, .ref dr, .ref en, .ref la, .ref wo, .int ni_3, .ref op, .ref mk, .ref ir, .int dn, .int md, .int pw_3, .int cm_3, .int wr_3, .ref se, .ref ec, .ref lc, .ref wc, .ref ol, .ref al, .int cs_3, .int (hm9_3 + 1)]))) (mu Ml272 mo (.inr (6, [.int cd_6, .ref cn, .ref ia, .ref dr, .ref en, .ref la, .ref wo, .int ni_6, .ref op, .ref mk, .ref ir, .int dn, .int md, .int pw_6, .int cm_6, .int wr_6, .ref se, .ref ec, .ref lc, .ref wc, .ref ol, .ref al, .int cs_6, .int (hm9_6 + 1)]))) := hkl272.self (by simp)
                      refine lv_iinc (v := ((nI j272) + 8)) (lv' := [(4, .int ((nI j272) + 8)), (5, .int (nI u10)), (3, .int (nI (3100 + j158))), (2, .int (nI j158)), (1, .int y31_1), (0, .ref mo)]) hx hb dX6_sweep_356 hl (k := 1) rfl rfl (by decide) rfl (fun ls hl => ?_)
                      refine lv_goto (tgt := 272) hx hb dX6_sweep_359 (by decide) ?_
                      rw [nI_8] at hl
                      exact ih272 (j272 + 8, (mu Ml272 mo (.inr (6, [.int cd_6, .ref cn, .ref ia, .ref dr, .ref en, .ref la, .ref wo, .int ni_6, .ref op, .ref mk, .ref ir, .int dn, .int md, .int pw_6, .int cm_6, .int wr_6, .ref se, .ref ec, .ref lc, .ref wc, .ref ol, .ref al, .int cs_6, .int (hm9_6 + 1)])))) _ _ _ ⟨⟨by omega, by omega⟩, ⟨_, _, _, _, _, _, _, fcn, fia, fdr, fen, fla, fwo, fop, fmk, fir, fse, fec, flc, fol, fal_2, fwc, hap, (mu_self _ _ _), hmd, ⟨hrC, hrL, hrM⟩, ((mu_ne ne_cn_mo).trans kcn_6), ((mu_ne ne_ia_mo).trans kia_6), ((mu_ne ne_dr_mo).trans kdr_6), ((mu_ne ne_en_mo).trans ken_6), ((mu_ne ne_la_mo).trans kla_6), ((mu_ne ne_wo_mo).trans kwo_6), ((mu_ne ne_op_mo).trans kop_6), ((mu_ne ne_mk_mo).trans kmk_6), ((mu_ne ne_ir_mo).trans kir_6), ((mu_ne ne_se_mo).trans kse_6), ((mu_ne ne_ec_mo).trans kec_6), ((mu_ne ne_lc_mo).trans klc_6), ((mu_ne ne_wc_mo).trans kwc_6), ((mu_ne ne_ol_mo).trans kol_6), ((mu_ne ne_al_mo).trans kal_6)⟩, hkp, hkl272, hm, hS, lv_sub hl [0, 2, 3, 4, 5] rfl⟩ (by show 2147483648 - (j272 + 8) < 2147483648 - j272; omega)
                · have hqc12 : (j272 + 8) < u10 := nb_nle (a := u10) (b := (j272 + 8)) (by omega) (by omega) c12
                  refine lv_iload hx hb dX6_sweep_297 (lv_at hl 0 rfl) ?_
                  refine lv_bipush (v := 8) hx hb dX6_sweep_299 (by decide) ?_
                  refine lv_iadd hx hb dX6_sweep_301 ?_
                  refine W.eq (g2 := F0 m 302 ls [.int (nI (j272 + 8))]) (by rw [show (((nI j272)) + (8) : Int32) = nI (j272 + 8) from nI_add j272 8]) ?_
                  refine lv_goto (tgt := 311) hx hb dX6_sweep_302 (by decide) ?_
                  refine lv_istore (lv' := [(5, .int (nI (j272 + 8))), (4, .int (nI j272)), (3, .int (nI (3100 + j158))), (2, .int (nI j158)), (1, .int y31_1), (0, .ref mo)]) hx hb dX6_sweep_311 hl (by decide) rfl (fun ls hl => ?_)
                  refine lv_aload_n hx hb dX6_sweep_313 rfl (lv_at hl 5 rfl) ?_
                  refine lv_dup hx hb dX6_sweep_314 rfl ?_
                  refine m_get (T := TX6) (N := 24) (ci := 6) (v := .int hm9_6) hx hb hts wX6 hown hK hm hM_6 rfl 23 (by decide) f133 (fun _ h9 => h9) rfl dX6_sweep_315 ?_
                  refine lv_aload_n hx hb dX6_sweep_318 rfl (lv_at hl 5 rfl) ?_
                  refine m_get (T := TX6) (N := 24) (ci := 6) (v := .ref wc) hx hb hts wX6 hown hK hm hM_6 rfl 19 (by decide) f57 (fun _ h9 => h9) rfl dX6_sweep_319 ?_
                  refine lv_iload_n hx hb dX6_sweep_322 rfl (lv_at hl 3 rfl) ?_
                  refine m_lald hx hb hK hm 1 kwc_6 rfl (vp_in_nI (by omega) (by decide)) dX6_sweep_323 ?_
                  refine lv_iload hx hb dX6_sweep_324 (lv_at hl 1 rfl) ?_
                  refine lv_lushr (v := (us (fwc ((nI j158)).toNatClampNeg) (nI j272))) hx hb dX6_sweep_326 rfl ?_
                  refine lv_ldc2 hx hb hown (hts (.constantLong RX6 136 (255)) (by decide +kernel)) dX6_sweep_327 ?_
                  refine lv_land hx hb dX6_sweep_330 ?_
                  refine lv_lconst (v := 0) hx hb dX6_sweep_331 (by decide) ?_
                  refine W.lcmp hx hb dX6_sweep_332 ?_
                  refine lv_if_ne (tgt := 347) hx hb dX6_sweep_333 (by decide) (fun c15 => ?_) (fun c15 => ?_)
                  · refine lv_iconst (v := 1) hx hb dX6_sweep_347 (by decide) ?_
                    refine lv_goto (tgt := 352) hx hb dX6_sweep_348 (by decide) ?_
                    refine lv_iadd hx hb dX6_sweep_352 ?_
                    refine m_put (T := TX6) (N := 24) (ci := 6) (v := .int (hm9_6 + 1)) (ty := .int) hx hb hts wX6 tyX6 tyX6_ok nmX6 hown hK hm hS hM_6 rfl 23 (by decide) f133 (fun _ h9 => h9) rfl (by decide +kernel) rfl rfl (Nat.le_of_ble_eq_true rfl) dX6_sweep_353 (fun H locs hm hS => ?_)
                    have hm : mm D (AZ z) (mu Ml272 mo (.inr (6, [.int cd_6, .ref cn, .ref ia, .ref dr, .ref en, .ref la, .ref wo, .int ni_6, .ref op, .ref mk, .ref ir, .int dn, .int md, .int pw_6, .int cm_6, .int wr_6, .ref se, .ref ec, .ref lc, .ref wc, .ref ol, .ref al, .int cs_6, .int (hm9_6 + 1)]))) H := hm
                    have hkp : kpx (fun a => a ∈ [mo, cn, ia, dr, en, la, wo, op, mk, ir, se, ec, lc, wc, ol, al]) M (mu Ml272 mo (.inr (6, [.int cd_6, .ref cn, .ref ia, .ref dr, .ref en, .ref la, .ref wo, .int ni_6, .ref op, .ref mk, .ref ir, .int dn, .int md, .int pw_6, .int cm_6, .int wr_6, .ref se, .ref ec, .ref lc, .ref wc, .ref ol, .ref al, .int cs_6, .int (hm9_6 + 1)]))) := (hkp).self (by simp)
                    have hkl158 : kpx (fun a => a ∈ [mo]) (mu Ml31 mo (.inr (6, [.int cd, .ref cn, .ref ia, .ref dr, .ref en, .ref la, .ref wo, .int ni, .ref op, .ref mk, .ref ir, .int dn, .int md, .int pw, .int cm, .int wr, .ref se, .ref ec, .ref lc, .ref wc, .ref ol, .ref al, .int cs, .int 0]))) (mu Ml272 mo (.inr (6, [.int cd_6, .ref cn, .ref ia, .ref dr, .ref en, .ref la, .ref wo, .int ni_6, .ref op, .ref mk, .ref ir, .int dn, .int md, .int pw_6, .int cm_6, .int wr_6, .ref se, .ref ec, .ref lc, .ref wc, .ref ol, .ref al, .int cs_6, .int (hm9_6 + 1)]))) := hkl158.self (by simp)
                    have hkl272 : kpx (fun a => a ∈ [mo]) (mu Ml158 mo (.inr (6, [.int cd_3, .ref cn, .ref ia, .ref dr, .ref en, .ref la, .ref wo, .int ni_3, .ref op, .ref mk, .ref ir, .int dn, .int md, .int pw_3, .int cm_3, .int wr_3, .ref se, .ref ec, .ref lc, .ref wc, .ref ol, .ref al, .int cs_3, .int (hm9_3 + 1)]))) (mu Ml272 mo (.inr (6, [.int cd_6, .ref cn, .ref ia, .ref dr, .ref en, .ref la, .ref wo, .int ni_6, .ref op, .ref mk, .ref ir, .int dn, .int md, .int pw_6, .int cm_6, .int wr_6, .ref se, .ref ec, .ref lc, .ref wc, .ref ol, .ref al, .int cs_6, .int (hm9_6 + 1)]))) := hkl272.self (by simp)
                    refine lv_iinc (v := ((nI j272) + 8)) (lv' := [(4, .int ((nI j272) + 8)), (5, .int (nI (j272 + 8))), (3, .int (nI (3100 + j158))), (2, .int (nI j158)), (1, .int y31_1), (0, .ref mo)]) hx hb dX6_sweep_356 hl (k := 1) rfl rfl (by decide) rfl (fun ls hl => ?_)
                    refine lv_goto (tgt := 272) hx hb dX6_sweep_359 (by decide) ?_
                    rw [nI_8] at hl
                    exact ih272 (j272 + 8, (mu Ml272 mo (.inr (6, [.int cd_6, .ref cn, .ref ia, .ref dr, .ref en, .ref la, .ref wo, .int ni_6, .ref op, .ref mk, .ref ir, .int dn, .int md, .int pw_6, .int cm_6, .int wr_6, .ref se, .ref ec, .ref lc, .ref wc, .ref ol, .ref al, .int cs_6, .int (hm9_6 + 1)])))) _ _ _ ⟨⟨by omega, by omega⟩, ⟨_, _, _, _, _, _, _, fcn, fia, fdr, fen, fla, fwo, fop, fmk, fir, fse, fec, flc, fol, fal_2, fwc, hap, (mu_self _ _ _), hmd, ⟨hrC, hrL, hrM⟩, ((mu_ne ne_cn_mo).trans kcn_6), ((mu_ne ne_ia_mo).trans kia_6), ((mu_ne ne_dr_mo).trans kdr_6), ((mu_ne ne_en_mo).trans ken_6), ((mu_ne ne_la_mo).trans kla_6), ((mu_ne ne_wo_mo).trans kwo_6), ((mu_ne ne_op_mo).trans kop_6), ((mu_ne ne_mk_mo).trans kmk_6), ((mu_ne ne_ir_mo).trans kir_6), ((mu_ne ne_se_mo).trans kse_6), ((mu_ne ne_ec_mo).trans kec_6), ((mu_ne ne_lc_mo).trans klc_6), ((mu_ne ne_wc_mo).trans kwc_6), ((mu_ne ne_ol_mo).trans kol_6), ((mu_ne ne_al_mo).trans kal_6)⟩, hkp, hkl272, hm, hS, lv_sub hl [0, 2, 3, 4, 5] rfl⟩ (by show 2147483648 - (j272 + 8) < 2147483648 - j272; omega)
                  · refine lv_iload hx hb dX6_sweep_336 (lv_at hl 0 rfl) ?_
                    refine lv_aload_n hx hb dX6_sweep_338 rfl (lv_at hl 5 rfl) ?_
                    refine m_get (T := TX6) (N := 24) (ci := 6) (v := .ref ol) hx hb hts wX6 hown hK hm hM_6 rfl 20 (by decide) f61 (fun _ h9 => h9) rfl dX6_sweep_339 ?_
                    refine lv_iload_n hx hb dX6_sweep_342 rfl (lv_at hl 3 rfl) ?_
                    refine m_iald hx hb hK hm 0 kol_6 rfl (vp_in_nI (by omega) (by decide)) dX6_sweep_343 ?_
                    refine lv_icmp_le (tgt := 351) hx hb dX6_sweep_344 (by decide) (fun c16 => ?_) (fun c16 => ?_)
                    · refine lv_iconst (v := 0) hx hb dX6_sweep_351 (by decide) ?_
                      refine lv_iadd hx hb dX6_sweep_352 ?_
                      refine m_put (T := TX6) (N := 24) (ci := 6) (v := .int (hm9_6 + 0)) (ty := .int) hx hb hts wX6 tyX6 tyX6_ok nmX6 hown hK hm hS hM_6 rfl 23 (by decide) f133 (fun _ h9 => h9) rfl (by decide +kernel) rfl rfl (Nat.le_of_ble_eq_true rfl) dX6_sweep_353 (fun H locs hm hS => ?_)
                      have hm : mm D (AZ z) (mu Ml272 mo (.inr (6, [.int cd_6, .ref cn, .ref ia, .ref dr, .ref en, .ref la, .ref wo, .int ni_6, .ref op, .ref mk, .ref ir, .int dn, .int md, .int pw_6, .int cm_6, .int wr_6, .ref se, .ref ec, .ref lc, .ref wc, .ref ol, .ref al, .int cs_6, .int (hm9_6 + 0)]))) H := hm
                      have hkp : kpx (fun a => a ∈ [mo, cn, ia, dr, en, la, wo, op, mk, ir, se, ec, lc, wc, ol, al]) M (mu Ml272 mo (.inr (6, [.int cd_6, .ref cn, .ref ia, .ref dr, .ref en, .ref la, .ref wo, .int ni_6, .ref op, .ref mk, .ref ir, .int dn, .int md, .int pw_6, .int cm_6, .int wr_6, .ref se, .ref ec, .ref lc, .ref wc, .ref ol, .ref al, .int cs_6, .int (hm9_6 + 0)]))) := (hkp).self (by simp)
                      have hkl158 : kpx (fun a => a ∈ [mo]) (mu Ml31 mo (.inr (6, [.int cd, .ref cn, .ref ia, .ref dr, .ref en, .ref la, .ref wo, .int ni, .ref op, .ref mk, .ref ir, .int dn, .int md, .int pw, .int cm, .int wr, .ref se, .ref ec, .ref lc, .ref wc, .ref ol, .ref al, .int cs, .int 0]))) (mu Ml272 mo (.inr (6, [.int cd_6, .ref cn, .ref ia, .ref dr, .ref en, .ref la, .ref wo, .int ni_6, .ref op, .ref mk, .ref ir, .int dn, .int md, .int pw_6, .int cm_6, .int wr_6, .ref se, .ref ec, .ref lc, .ref wc, .ref ol, .ref al, .int cs_6, .int (hm9_6 + 0)]))) := hkl158.self (by simp)
                      have hkl272 : kpx (fun a => a ∈ [mo]) (mu Ml158 mo (.inr (6, [.int cd_3, .ref cn, .ref ia, .ref dr, .ref en, .ref la, .ref wo, .int ni_3, .ref op, .ref mk, .ref ir, .int dn, .int md, .int pw_3, .int cm_3, .int wr_3, .ref se, .ref ec, .ref lc, .ref wc, .ref ol, .ref al, .int cs_3, .int (hm9_3 + 1)]))) (mu Ml272 mo (.inr (6, [.int cd_6, .ref cn, .ref ia, .ref dr, .ref en, .ref la, .ref wo, .int ni_6, .ref op, .ref mk, .ref ir, .int dn, .int md, .int pw_6, .int cm_6, .int wr_6, .ref se, .ref ec, .ref lc, .ref wc, .ref ol, .ref al, .int cs_6, .int (hm9_6 + 0)]))) := hkl272.self (by simp)
                      refine lv_iinc (v := ((nI j272) + 8)) (lv' := [(4, .int ((nI j272) + 8)), (5, .int (nI (j272 + 8))), (3, .int (nI (3100 + j158))), (2, .int (nI j158)), (1, .int y31_1), (0, .ref mo)]) hx hb dX6_sweep_356 hl (k := 1) rfl rfl (by decide) rfl (fun ls hl => ?_)
                      refine lv_goto (tgt := 272) hx hb dX6_sweep_359 (by decide) ?_
                      rw [nI_8] at hl
                      exact ih272 (j272 + 8, (mu Ml272 mo (.inr (6, [.int cd_6, .ref cn, .ref ia, .ref dr, .ref en, .ref la, .ref wo, .int ni_6, .ref op, .ref mk, .ref ir, .int dn, .int md, .int pw_6, .int cm_6, .int wr_6, .ref se, .ref ec, .ref lc, .ref wc, .ref ol, .ref al, .int cs_6, .int (hm9_6 + 0)])))) _ _ _ ⟨⟨by omega, by omega⟩, ⟨_, _, _, _, _, _, _, fcn, fia, fdr, fen, fla, fwo, fop, fmk, fir, fse, fec, flc, fol, fal_2, fwc, hap, (mu_self _ _ _), hmd, ⟨hrC, hrL, hrM⟩, ((mu_ne ne_cn_mo).trans kcn_6), ((mu_ne ne_ia_mo).trans kia_6), ((mu_ne ne_dr_mo).trans kdr_6), ((mu_ne ne_en_mo).trans ken_6), ((mu_ne ne_la_mo).trans kla_6), ((mu_ne ne_wo_mo).trans kwo_6), ((mu_ne ne_op_mo).trans kop_6), ((mu_ne ne_mk_mo).trans kmk_6), ((mu_ne ne_ir_mo).trans kir_6), ((mu_ne ne_se_mo).trans kse_6), ((mu_ne ne_ec_mo).trans kec_6), ((mu_ne ne_lc_mo).trans klc_6), ((mu_ne ne_wc_mo).trans kwc_6), ((mu_ne ne_ol_mo).trans kol_6), ((mu_ne ne_al_mo).trans kal_6)⟩, hkp, hkl272, hm, hS, lv_sub hl [0, 2, 3, 4, 5] rfl⟩ (by show 2147483648 - (j272 + 8) < 2147483648 - j272; omega)
                    · refine lv_iconst (v := 1) hx hb dX6_sweep_347 (by decide) ?_
                      refine lv_goto (tgt := 352) hx hb dX6_sweep_348 (by decide) ?_
                      refine lv_iadd hx hb dX6_sweep_352 ?_
                      refine m_put (T := TX6) (N := 24) (ci := 6) (v := .int (hm9_6 + 1)) (ty := .int) hx hb hts wX6 tyX6 tyX6_ok nmX6 hown hK hm hS hM_6 rfl 23 (by decide) f133 (fun _ h9 => h9) rfl (by decide +kernel) rfl rfl (Nat.le_of_ble_eq_true rfl) dX6_sweep_353 (fun H locs hm hS => ?_)
                      have hm : mm D (AZ z) (mu Ml272 mo (.inr (6, [.int cd_6, .ref cn, .ref ia, .ref dr, .ref en, .ref la, .ref wo, .int ni_6, .ref op, .ref mk, .ref ir, .int dn, .int md, .int pw_6, .int cm_6, .int wr_6, .ref se, .ref ec, .ref lc, .ref wc, .ref ol, .ref al, .int cs_6, .int (hm9_6 + 1)]))) H := hm
                      have hkp : kpx (fun a => a ∈ [mo, cn, ia, dr, en, la, wo, op, mk, ir, se, ec, lc, wc, ol, al]) M (mu Ml272 mo (.inr (6, [.int cd_6, .ref cn, .ref ia, .ref dr, .ref en, .ref la, .ref wo, .int ni_6, .ref op, .ref mk, .ref ir, .int dn, .int md, .int pw_6, .int cm_6, .int wr_6, .ref se, .ref ec, .ref lc, .ref wc, .ref ol, .ref al, .int cs_6, .int (hm9_6 + 1)]))) := (hkp).self (by simp)
                      have hkl158 : kpx (fun a => a ∈ [mo]) (mu Ml31 mo (.inr (6, [.int cd, .ref cn, .ref ia, .ref dr, .ref en, .ref la, .ref wo, .int ni, .ref op, .ref mk, .ref ir, .int dn, .int md, .int pw, .int cm, .int wr, .ref se, .ref ec, .ref lc, .ref wc, .ref ol, .ref al, .int cs, .int 0]))) (mu Ml272 mo (.inr (6, [.int cd_6, .ref cn, .ref ia, .ref dr, .ref en, .ref la, .ref wo, .int ni_6, .ref op, .ref mk, .ref ir, .int dn, .int md, .int pw_6, .int cm_6, .int wr_6, .ref se, .ref ec, .ref lc, .ref wc, .ref ol, .ref al, .int cs_6, .int (hm9_6 + 1)]))) := hkl158.self (by simp)
                      have hkl272 : kpx (fun a => a ∈ [mo]) (mu Ml158 mo (.inr (6, [.int cd_3, .ref cn, .ref ia, .ref dr, .ref en, .ref la, .ref wo, .int ni_3, .ref op, .ref mk, .ref ir, .int dn, .int md, .int pw_3, .int cm_3, .int wr_3, .ref se, .ref ec, .ref lc, .ref wc, .ref ol, .ref al, .int cs_3, .int (hm9_3 + 1)]))) (mu Ml272 mo (.inr (6, [.int cd_6, .ref cn, .ref ia, .ref dr, .ref en, .ref la, .ref wo, .int ni_6, .ref op, .ref mk, .ref ir, .int dn, .int md, .int pw_6, .int cm_6, .int wr_6, .ref se, .ref ec, .ref lc, .ref wc, .ref ol, .ref al, .int cs_6, .int (hm9_6 + 1)]))) := hkl272.self (by simp)
                      refine lv_iinc (v := ((nI j272) + 8)) (lv' := [(4, .int ((nI j272) + 8)), (5, .int (nI (j272 + 8))), (3, .int (nI (3100 + j158))), (2, .int (nI j158)), (1, .int y31_1), (0, .ref mo)]) hx hb dX6_sweep_356 hl (k := 1) rfl rfl (by decide) rfl (fun ls hl => ?_)
                      refine lv_goto (tgt := 272) hx hb dX6_sweep_359 (by decide) ?_
                      rw [nI_8] at hl
                      exact ih272 (j272 + 8, (mu Ml272 mo (.inr (6, [.int cd_6, .ref cn, .ref ia, .ref dr, .ref en, .ref la, .ref wo, .int ni_6, .ref op, .ref mk, .ref ir, .int dn, .int md, .int pw_6, .int cm_6, .int wr_6, .ref se, .ref ec, .ref lc, .ref wc, .ref ol, .ref al, .int cs_6, .int (hm9_6 + 1)])))) _ _ _ ⟨⟨by omega, by omega⟩, ⟨_, _, _, _, _, _, _, fcn, fia, fdr, fen, fla, fwo, fop, fmk, fir, fse, fec, flc, fol, fal_2, fwc, hap, (mu_self _ _ _), hmd, ⟨hrC, hrL, hrM⟩, ((mu_ne ne_cn_mo).trans kcn_6), ((mu_ne ne_ia_mo).trans kia_6), ((mu_ne ne_dr_mo).trans kdr_6), ((mu_ne ne_en_mo).trans ken_6), ((mu_ne ne_la_mo).trans kla_6), ((mu_ne ne_wo_mo).trans kwo_6), ((mu_ne ne_op_mo).trans kop_6), ((mu_ne ne_mk_mo).trans kmk_6), ((mu_ne ne_ir_mo).trans kir_6), ((mu_ne ne_se_mo).trans kse_6), ((mu_ne ne_ec_mo).trans kec_6), ((mu_ne ne_lc_mo).trans klc_6), ((mu_ne ne_wc_mo).trans kwc_6), ((mu_ne ne_ol_mo).trans kol_6), ((mu_ne ne_al_mo).trans kal_6)⟩, hkp, hkl272, hm, hS, lv_sub hl [0, 2, 3, 4, 5] rfl⟩ (by show 2147483648 - (j272 + 8) < 2147483648 - j272; omega)
            · refine lv_aload_n hx hb dX6_sweep_251 rfl (lv_at hl 3 rfl) ?_
              refine m_get (T := TX6) (N := 24) (ci := 6) (v := .ref lc) hx hb hts wX6 hown hK hm hM_3 rfl 18 (by decide) f54 (fun _ h9 => h9) rfl dX6_sweep_252 ?_
              refine lv_iload_n hx hb dX6_sweep_255 rfl (lv_at hl 1 rfl) ?_
              refine m_zald hx hb hK hm 2 klc_3 rfl (vp_in_nI (by omega) (by decide)) dX6_sweep_256 ?_
              refine lv_if_eq (tgt := 264) hx hb dX6_sweep_257 (by decide) (fun c17 => ?_) (fun c17 => ?_)
              · refine lv_iconst (v := 0) hx hb dX6_sweep_264 (by decide) ?_
                refine lv_iadd hx hb dX6_sweep_265 ?_
                refine m_put (T := TX6) (N := 24) (ci := 6) (v := .int (hm9_3 + 0)) (ty := .int) hx hb hts wX6 tyX6 tyX6_ok nmX6 hown hK hm hS hM_3 rfl 23 (by decide) f133 (fun _ h9 => h9) rfl (by decide +kernel) rfl rfl (Nat.le_of_ble_eq_true rfl) dX6_sweep_266 (fun H locs hm hS => ?_)
                have hm : mm D (AZ z) (mu Ml158 mo (.inr (6, [.int cd_3, .ref cn, .ref ia, .ref dr, .ref en, .ref la, .ref wo, .int ni_3, .ref op, .ref mk, .ref ir, .int dn, .int md, .int pw_3, .int cm_3, .int wr_3, .ref se, .ref ec, .ref lc, .ref wc, .ref ol, .ref al, .int cs_3, .int (hm9_3 + 0)]))) H := hm
                have hkp : kpx (fun a => a ∈ [mo, cn, ia, dr, en, la, wo, op, mk, ir, se, ec, lc, wc, ol, al]) M (mu Ml158 mo (.inr (6, [.int cd_3, .ref cn, .ref ia, .ref dr, .ref en, .ref la, .ref wo, .int ni_3, .ref op, .ref mk, .ref ir, .int dn, .int md, .int pw_3, .int cm_3, .int wr_3, .ref se, .ref ec, .ref lc, .ref wc, .ref ol, .ref al, .int cs_3, .int (hm9_3 + 0)]))) := (hkp).self (by simp)
                have hkl158 : kpx (fun a => a ∈ [mo]) (mu Ml31 mo (.inr (6, [.int cd, .ref cn, .ref ia, .ref dr, .ref en, .ref la, .ref wo, .int ni, .ref op, .ref mk, .ref ir, .int dn, .int md, .int pw, .int cm, .int wr, .ref se, .ref ec, .ref lc, .ref wc, .ref ol, .ref al, .int cs, .int 0]))) (mu Ml158 mo (.inr (6, [.int cd_3, .ref cn, .ref ia, .ref dr, .ref en, .ref la, .ref wo, .int ni_3, .ref op, .ref mk, .ref ir, .int dn, .int md, .int pw_3, .int cm_3, .int wr_3, .ref se, .ref ec, .ref lc, .ref wc, .ref ol, .ref al, .int cs_3, .int (hm9_3 + 0)]))) := hkl158.self (by simp)
                refine lv_iconst (v := 0) hx hb dX6_sweep_269 (by decide) ?_
                refine lv_istore (lv' := [(4, .int 0), (3, .int (nI (3100 + j158))), (2, .int (nI j158)), (1, .int y31_1), (0, .ref mo)]) hx hb dX6_sweep_270 hl (by decide) rfl (fun ls hl => ?_)
                have hI0 : mI k (mu Ml158 mo (.inr (6, [.int cd_3, .ref cn, .ref ia, .ref dr, .ref en, .ref la, .ref wo, .int ni_3, .ref op, .ref mk, .ref ir, .int dn, .int md, .int pw_3, .int cm_3, .int wr_3, .ref se, .ref ec, .ref lc, .ref wc, .ref ol, .ref al, .int cs_3, .int (hm9_3 + 0)]))) mo cn ia dr en la wo op mk ir se ec lc wc ol al dn md := ⟨_, _, _, _, _, _, _, fcn, fia, fdr, fen, fla, fwo, fop, fmk, fir, fse, fec, flc, fol, fal_2, fwc, hap, (mu_self _ _ _), hmd, ⟨hrC, hrL, hrM⟩, ((mu_ne ne_cn_mo).trans kcn_3), ((mu_ne ne_ia_mo).trans kia_3), ((mu_ne ne_dr_mo).trans kdr_3), ((mu_ne ne_en_mo).trans ken_3), ((mu_ne ne_la_mo).trans kla_3), ((mu_ne ne_wo_mo).trans kwo_3), ((mu_ne ne_op_mo).trans kop_3), ((mu_ne ne_mk_mo).trans kmk_3), ((mu_ne ne_ir_mo).trans kir_3), ((mu_ne ne_se_mo).trans kse_3), ((mu_ne ne_ec_mo).trans kec_3), ((mu_ne ne_lc_mo).trans klc_3), ((mu_ne ne_wc_mo).trans kwc_3), ((mu_ne ne_ol_mo).trans kol_3), ((mu_ne ne_al_mo).trans kal_3)⟩
                refine W_loop (σ := Nat × mM) (fun ⟨j272, Ml272⟩ H locs ls => (0 ≤ j272 ∧ j272 < 2147483000) ∧ (mI k Ml272 mo cn ia dr en la wo op mk ir se ec lc wc ol al dn md) ∧ (kpx (fun a => a ∈ [mo, cn, ia, dr, en, la, wo, op, mk, ir, se, ec, lc, wc, ol, al]) M Ml272) ∧ (kpx (fun a => a ∈ [mo]) (mu Ml158 mo (.inr (6, [.int cd_3, .ref cn, .ref ia, .ref dr, .ref en, .ref la, .ref wo, .int ni_3, .ref op, .ref mk, .ref ir, .int dn, .int md, .int pw_3, .int cm_3, .int wr_3, .ref se, .ref ec, .ref lc, .ref wc, .ref ol, .ref al, .int cs_3, .int (hm9_3 + 0)]))) Ml272) ∧ mm D (AZ z) Ml272 H ∧ va_S (AZ z) s.heap H locs ∧ lv_has ls 6 [(4, .int (nI j272)), (3, .int (nI (3100 + j158))), (2, .int (nI j158)), (1, .int y31_1), (0, .ref mo)]) (fun ⟨j272, Ml272⟩ => 2147483648 - j272) (fun _ => 0) (fun _ => 0) ?_ (0, (mu Ml158 mo (.inr (6, [.int cd_3, .ref cn, .ref ia, .ref dr, .ref en, .ref la, .ref wo, .int ni_3, .ref op, .ref mk, .ref ir, .int dn, .int md, .int pw_3, .int cm_3, .int wr_3, .ref se, .ref ec, .ref lc, .ref wc, .ref ol, .ref al, .int cs_3, .int (hm9_3 + 0)])))) _ _ _ ⟨⟨Nat.le_refl _, by omega⟩, hI0, hkp, (kpx.refl _ _), hm, hS, lv_sub hl [0, 1, 2, 3, 4] rfl⟩
                intro ⟨j272, Ml272⟩ H locs ls hQ ih272
                obtain ⟨hj272, hI, hkp, hkl272, hm, hS, hl⟩ := hQ
                try dsimp only at hm hl ih272 hj272 hI hkp hkl272 ⊢
                obtain ⟨cd_7, ni_7, pw_7, cm_7, wr_7, cs_7, hm9_7, _, _, _, _, _, _, _, _, _, _, _, _, _, _, _, -, hM_7, hmd_7, ⟨-, -, -⟩, -, -, -, -, -, -, -, -, -, -, -, -, -, -, -⟩ := id hI
                have kcn_7 := hkl272 _ _ (by simp only [List.mem_cons, List.not_mem_nil, or_false, not_or]; exact ne_cn_mo) ((mu_ne ne_cn_mo).trans kcn_3)
                have kia_7 := hkl272 _ _ (by simp only [List.mem_cons, List.not_mem_nil, or_false, not_or]; exact ne_ia_mo) ((mu_ne ne_ia_mo).trans kia_3)
                have kdr_7 := hkl272 _ _ (by simp only [List.mem_cons, List.not_mem_nil, or_false, not_or]; exact ne_dr_mo) ((mu_ne ne_dr_mo).trans kdr_3)
                have ken_7 := hkl272 _ _ (by simp only [List.mem_cons, List.not_mem_nil, or_false, not_or]; exact ne_en_mo) ((mu_ne ne_en_mo).trans ken_3)
                have kla_7 := hkl272 _ _ (by simp only [List.mem_cons, List.not_mem_nil, or_false, not_or]; exact ne_la_mo) ((mu_ne ne_la_mo).trans kla_3)
                have kwo_7 := hkl272 _ _ (by simp only [List.mem_cons, List.not_mem_nil, or_false, not_or]; exact ne_wo_mo) ((mu_ne ne_wo_mo).trans kwo_3)
                have kop_7 := hkl272 _ _ (by simp only [List.mem_cons, List.not_mem_nil, or_false, not_or]; exact ne_op_mo) ((mu_ne ne_op_mo).trans kop_3)
                have kmk_7 := hkl272 _ _ (by simp only [List.mem_cons, List.not_mem_nil, or_false, not_or]; exact ne_mk_mo) ((mu_ne ne_mk_mo).trans kmk_3)
                have kir_7 := hkl272 _ _ (by simp only [List.mem_cons, List.not_mem_nil, or_false, not_or]; exact ne_ir_mo) ((mu_ne ne_ir_mo).trans kir_3)
                have kse_7 := hkl272 _ _ (by simp only [List.mem_cons, List.not_mem_nil, or_false, not_or]; exact ne_se_mo) ((mu_ne ne_se_mo).trans kse_3)
                have kec_7 := hkl272 _ _ (by simp only [List.mem_cons, List.not_mem_nil, or_false, not_or]; exact ne_ec_mo) ((mu_ne ne_ec_mo).trans kec_3)
                have klc_7 := hkl272 _ _ (by simp only [List.mem_cons, List.not_mem_nil, or_false, not_or]; exact ne_lc_mo) ((mu_ne ne_lc_mo).trans klc_3)
                have kwc_7 := hkl272 _ _ (by simp only [List.mem_cons, List.not_mem_nil, or_false, not_or]; exact ne_wc_mo) ((mu_ne ne_wc_mo).trans kwc_3)
                have kol_7 := hkl272 _ _ (by simp only [List.mem_cons, List.not_mem_nil, or_false, not_or]; exact ne_ol_mo) ((mu_ne ne_ol_mo).trans kol_3)
                have kal_7 := hkl272 _ _ (by simp only [List.mem_cons, List.not_mem_nil, or_false, not_or]; exact ne_al_mo) ((mu_ne ne_al_mo).trans kal_3)
                have hkl158 := hkl158.trans (hkl272.mono (fun a ha => by simp only [List.mem_cons, List.not_mem_nil, or_false] at ha ⊢; subst ha; simp))
                refine lv_iload hx hb dX6_sweep_272 (lv_at hl 0 rfl) ?_
                refine lv_aload_n hx hb dX6_sweep_274 rfl (lv_at hl 4 rfl) ?_
                refine m_get (T := TX6) (N := 24) (ci := 6) (v := .ref la) hx hb hts wX6 hown hK hm hM_7 rfl 5 (by decide) f24 (fun _ h9 => h9) rfl dX6_sweep_275 ?_
                refine lv_iload_n hx hb dX6_sweep_278 rfl (lv_at hl 1 rfl) ?_
                refine m_iald hx hb hK hm 0 kla_7 rfl (vp_in_nI (by omega) (by decide)) dX6_sweep_279 ?_
                obtain ⟨u18, hu18, eu18⟩ := hrL (3100 + j158)
                refine W.eq (g2 := F0 m 280 ls [.int (nI u18), .int (nI j272)]) (by rw [show (fla ((nI (3100 + j158))).toNatClampNeg) = nI u18 from (congrArg fla (show ((nI (3100 + j158))).toNatClampNeg = (3100 + j158) from nI_clamp (by omega))).trans eu18]) ?_
                have hb_u18 := hu18
                have hu18 : u18 ≤ 64 := hu18
                refine lv_icmp_ge (tgt := 362) hx hb dX6_sweep_280 (by decide) (fun c19 => ?_) (fun c19 => ?_)
                · have hqc19 : u18 ≤ j272 := nb_le (a := u18) (b := j272) (by omega) (by omega) c19
                  refine lv_iinc (v := ((nI j158) + 1)) (lv' := [(2, .int ((nI j158) + 1)), (4, .int (nI j272)), (3, .int (nI (3100 + j158))), (1, .int y31_1), (0, .ref mo)]) hx hb dX6_sweep_362 hl (k := 2) rfl rfl (by decide) rfl (fun ls hl => ?_)
                  refine lv_goto (tgt := 158) hx hb dX6_sweep_365 (by decide) ?_
                  rw [nI_1] at hl
                  exact ih158 (j158 + 1, Ml272) _ _ _ ⟨⟨by omega, by omega⟩, ⟨_, _, _, _, _, _, _, fcn, fia, fdr, fen, fla, fwo, fop, fmk, fir, fse, fec, flc, fol, fal_2, fwc, hap, hM_7, hmd, ⟨hrC, hrL, hrM⟩, kcn_7, kia_7, kdr_7, ken_7, kla_7, kwo_7, kop_7, kmk_7, kir_7, kse_7, kec_7, klc_7, kwc_7, kol_7, kal_7⟩, hkp, hkl158, hm, hS, lv_sub hl [0, 3, 4] rfl⟩ (by show 2147483648 - (j158 + 1) < 2147483648 - j158; omega)
                · have hqc19 : j272 < u18 := nb_nle (a := u18) (b := j272) (by omega) (by omega) c19
                  refine lv_iload hx hb dX6_sweep_283 (lv_at hl 0 rfl) ?_
                  refine lv_bipush (v := 8) hx hb dX6_sweep_285 (by decide) ?_
                  refine lv_iadd hx hb dX6_sweep_287 ?_
                  refine W.eq (g2 := F0 m 288 ls [.int (nI (j272 + 8))]) (by rw [show (((nI j272)) + (8) : Int32) = nI (j272 + 8) from nI_add j272 8]) ?_
                  refine lv_aload_n hx hb dX6_sweep_288 rfl (lv_at hl 4 rfl) ?_
                  refine m_get (T := TX6) (N := 24) (ci := 6) (v := .ref la) hx hb hts wX6 hown hK hm hM_7 rfl 5 (by decide) f24 (fun _ h9 => h9) rfl dX6_sweep_289 ?_
                  refine lv_iload_n hx hb dX6_sweep_292 rfl (lv_at hl 1 rfl) ?_
                  refine m_iald hx hb hK hm 0 kla_7 rfl (vp_in_nI (by omega) (by decide)) dX6_sweep_293 ?_
                  refine W.eq (g2 := F0 m 294 ls [.int (nI u18), .int (nI (j272 + 8))]) (by rw [show (fla ((nI (3100 + j158))).toNatClampNeg) = nI u18 from (congrArg fla (show ((nI (3100 + j158))).toNatClampNeg = (3100 + j158) from nI_clamp (by omega))).trans eu18]) ?_
                  refine lv_icmp_ge (tgt := 305) hx hb dX6_sweep_294 (by decide) (fun c20 => ?_) (fun c20 => ?_)
                  · have hqc20 : u18 ≤ (j272 + 8) := nb_le (a := u18) (b := (j272 + 8)) (by omega) (by omega) c20
                    refine lv_aload_n hx hb dX6_sweep_305 rfl (lv_at hl 4 rfl) ?_
                    refine m_get (T := TX6) (N := 24) (ci := 6) (v := .ref la) hx hb hts wX6 hown hK hm hM_7 rfl 5 (by decide) f24 (fun _ h9 => h9) rfl dX6_sweep_306 ?_
                    refine lv_iload_n hx hb dX6_sweep_309 rfl (lv_at hl 1 rfl) ?_
                    refine m_iald hx hb hK hm 0 kla_7 rfl (vp_in_nI (by omega) (by decide)) dX6_sweep_310 ?_
                    refine W.eq (g2 := F0 m 311 ls [.int (nI u18)]) (by rw [show (fla ((nI (3100 + j158))).toNatClampNeg) = nI u18 from (congrArg fla (show ((nI (3100 + j158))).toNatClampNeg = (3100 + j158) from nI_clamp (by omega))).trans eu18]) ?_
                    refine lv_istore (lv' := [(5, .int (nI u18)), (4, .int (nI j272)), (3, .int (nI (3100 + j158))), (2, .int (nI j158)), (1, .int y31_1), (0, .ref mo)]) hx hb dX6_sweep_311 hl (by decide) rfl (fun ls hl => ?_)
                    refine lv_aload_n hx hb dX6_sweep_313 rfl (lv_at hl 5 rfl) ?_
                    refine lv_dup hx hb dX6_sweep_314 rfl ?_
                    refine m_get (T := TX6) (N := 24) (ci := 6) (v := .int hm9_7) hx hb hts wX6 hown hK hm hM_7 rfl 23 (by decide) f133 (fun _ h9 => h9) rfl dX6_sweep_315 ?_
                    refine lv_aload_n hx hb dX6_sweep_318 rfl (lv_at hl 5 rfl) ?_
                    refine m_get (T := TX6) (N := 24) (ci := 6) (v := .ref wc) hx hb hts wX6 hown hK hm hM_7 rfl 19 (by decide) f57 (fun _ h9 => h9) rfl dX6_sweep_319 ?_
                    refine lv_iload_n hx hb dX6_sweep_322 rfl (lv_at hl 3 rfl) ?_
                    refine m_lald hx hb hK hm 1 kwc_7 rfl (vp_in_nI (by omega) (by decide)) dX6_sweep_323 ?_
                    refine lv_iload hx hb dX6_sweep_324 (lv_at hl 1 rfl) ?_
                    refine lv_lushr (v := (us (fwc ((nI j158)).toNatClampNeg) (nI j272))) hx hb dX6_sweep_326 rfl ?_
                    refine lv_ldc2 hx hb hown (hts (.constantLong RX6 136 (255)) (by decide +kernel)) dX6_sweep_327 ?_
                    refine lv_land hx hb dX6_sweep_330 ?_
                    refine lv_lconst (v := 0) hx hb dX6_sweep_331 (by decide) ?_
                    refine W.lcmp hx hb dX6_sweep_332 ?_
                    refine lv_if_ne (tgt := 347) hx hb dX6_sweep_333 (by decide) (fun c21 => ?_) (fun c21 => ?_)
                    · refine lv_iconst (v := 1) hx hb dX6_sweep_347 (by decide) ?_
                      refine lv_goto (tgt := 352) hx hb dX6_sweep_348 (by decide) ?_
                      refine lv_iadd hx hb dX6_sweep_352 ?_
                      refine m_put (T := TX6) (N := 24) (ci := 6) (v := .int (hm9_7 + 1)) (ty := .int) hx hb hts wX6 tyX6 tyX6_ok nmX6 hown hK hm hS hM_7 rfl 23 (by decide) f133 (fun _ h9 => h9) rfl (by decide +kernel) rfl rfl (Nat.le_of_ble_eq_true rfl) dX6_sweep_353 (fun H locs hm hS => ?_)
                      have hm : mm D (AZ z) (mu Ml272 mo (.inr (6, [.int cd_7, .ref cn, .ref ia, .ref dr, .ref en, .ref la, .ref wo, .int ni_7, .ref op, .ref mk, .ref ir, .int dn, .int md, .int pw_7, .int cm_7, .int wr_7, .ref se, .ref ec, .ref lc, .ref wc, .ref ol, .ref al, .int cs_7, .int (hm9_7 + 1)]))) H := hm
                      have hkp : kpx (fun a => a ∈ [mo, cn, ia, dr, en, la, wo, op, mk, ir, se, ec, lc, wc, ol, al]) M (mu Ml272 mo (.inr (6, [.int cd_7, .ref cn, .ref ia, .ref dr, .ref en, .ref la, .ref wo, .int ni_7, .ref op, .ref mk, .ref ir, .int dn, .int md, .int pw_7, .int cm_7, .int wr_7, .ref se, .ref ec, .ref lc, .ref wc, .ref ol, .ref al, .int cs_7, .int (hm9_7 + 1)]))) := (hkp).self (by simp)
                      have hkl158 : kpx (fun a => a ∈ [mo]) (mu Ml31 mo (.inr (6, [.int cd, .ref cn, .ref ia, .ref dr, .ref en, .ref la, .ref wo, .int ni, .ref op, .ref mk, .ref ir, .int dn, .int md, .int pw, .int cm, .int wr, .ref se, .ref ec, .ref lc, .ref wc, .ref ol, .ref al, .int cs, .int 0]))) (mu Ml272 mo (.inr (6, [.int cd_7, .ref cn, .ref ia, .ref dr, .ref en, .ref la, .ref wo, .int ni_7, .ref op, .ref mk, .ref ir, .int dn, .int md, .int pw_7, .int cm_7, .int wr_7, .ref se, .ref ec, .ref lc, .ref wc, .ref ol, .ref al, .int cs_7, .int (hm9_7 + 1)]))) := hkl158.self (by simp)
                      have hkl272 : kpx (fun a => a ∈ [mo]) (mu Ml158 mo (.inr (6, [.int cd_3, .ref cn, .ref ia, .ref dr, .ref en, .ref la, .ref wo, .int ni_3, .ref op, .ref mk, .ref ir, .int dn, .int md, .int pw_3, .int cm_3, .int wr_3, .ref se, .ref ec, .ref lc, .ref wc, .ref ol, .ref al, .int cs_3, .int (hm9_3 + 0)]))) (mu Ml272 mo (.inr (6, [.int cd_7, .ref cn, .ref ia, .ref dr, .ref en, .ref la, .ref wo, .int ni_7, .ref op, .ref mk, .ref ir, .int dn, .int md, .int pw_7, .int cm_7, .int wr_7, .ref se, .ref ec, .ref lc, .ref wc, .ref ol, .ref al, .int cs_7, .int (hm9_7 + 1)]))) := hkl272.self (by simp)
                      refine lv_iinc (v := ((nI j272) + 8)) (lv' := [(4, .int ((nI j272) + 8)), (5, .int (nI u18)), (3, .int (nI (3100 + j158))), (2, .int (nI j158)), (1, .int y31_1), (0, .ref mo)]) hx hb dX6_sweep_356 hl (k := 1) rfl rfl (by decide) rfl (fun ls hl => ?_)
                      refine lv_goto (tgt := 272) hx hb dX6_sweep_359 (by decide) ?_
                      rw [nI_8] at hl
                      exact ih272 (j272 + 8, (mu Ml272 mo (.inr (6, [.int cd_7, .ref cn, .ref ia, .ref dr, .ref en, .ref la, .ref wo, .int ni_7, .ref op, .ref mk, .ref ir, .int dn, .int md, .int pw_7, .int cm_7, .int wr_7, .ref se, .ref ec, .ref lc, .ref wc, .ref ol, .ref al, .int cs_7, .int (hm9_7 + 1)])))) _ _ _ ⟨⟨by omega, by omega⟩, ⟨_, _, _, _, _, _, _, fcn, fia, fdr, fen, fla, fwo, fop, fmk, fir, fse, fec, flc, fol, fal_2, fwc, hap, (mu_self _ _ _), hmd, ⟨hrC, hrL, hrM⟩, ((mu_ne ne_cn_mo).trans kcn_7), ((mu_ne ne_ia_mo).trans kia_7), ((mu_ne ne_dr_mo).trans kdr_7), ((mu_ne ne_en_mo).trans ken_7), ((mu_ne ne_la_mo).trans kla_7), ((mu_ne ne_wo_mo).trans kwo_7), ((mu_ne ne_op_mo).trans kop_7), ((mu_ne ne_mk_mo).trans kmk_7), ((mu_ne ne_ir_mo).trans kir_7), ((mu_ne ne_se_mo).trans kse_7), ((mu_ne ne_ec_mo).trans kec_7), ((mu_ne ne_lc_mo).trans klc_7), ((mu_ne ne_wc_mo).trans kwc_7), ((mu_ne ne_ol_mo).trans kol_7), ((mu_ne ne_al_mo).trans kal_7)⟩, hkp, hkl272, hm, hS, lv_sub hl [0, 2, 3, 4, 5] rfl⟩ (by show 2147483648 - (j272 + 8) < 2147483648 - j272; omega)
                    · refine lv_iload hx hb dX6_sweep_336 (lv_at hl 0 rfl) ?_
                      refine lv_aload_n hx hb dX6_sweep_338 rfl (lv_at hl 5 rfl) ?_
                      refine m_get (T := TX6) (N := 24) (ci := 6) (v := .ref ol) hx hb hts wX6 hown hK hm hM_7 rfl 20 (by decide) f61 (fun _ h9 => h9) rfl dX6_sweep_339 ?_
                      refine lv_iload_n hx hb dX6_sweep_342 rfl (lv_at hl 3 rfl) ?_
                      refine m_iald hx hb hK hm 0 kol_7 rfl (vp_in_nI (by omega) (by decide)) dX6_sweep_343 ?_
                      refine lv_icmp_le (tgt := 351) hx hb dX6_sweep_344 (by decide) (fun c22 => ?_) (fun c22 => ?_)
                      · refine lv_iconst (v := 0) hx hb dX6_sweep_351 (by decide) ?_
                        refine lv_iadd hx hb dX6_sweep_352 ?_
                        refine m_put (T := TX6) (N := 24) (ci := 6) (v := .int (hm9_7 + 0)) (ty := .int) hx hb hts wX6 tyX6 tyX6_ok nmX6 hown hK hm hS hM_7 rfl 23 (by decide) f133 (fun _ h9 => h9) rfl (by decide +kernel) rfl rfl (Nat.le_of_ble_eq_true rfl) dX6_sweep_353 (fun H locs hm hS => ?_)
                        have hm : mm D (AZ z) (mu Ml272 mo (.inr (6, [.int cd_7, .ref cn, .ref ia, .ref dr, .ref en, .ref la, .ref wo, .int ni_7, .ref op, .ref mk, .ref ir, .int dn, .int md, .int pw_7, .int cm_7, .int wr_7, .ref se, .ref ec, .ref lc, .ref wc, .ref ol, .ref al, .int cs_7, .int (hm9_7 + 0)]))) H := hm
                        have hkp : kpx (fun a => a ∈ [mo, cn, ia, dr, en, la, wo, op, mk, ir, se, ec, lc, wc, ol, al]) M (mu Ml272 mo (.inr (6, [.int cd_7, .ref cn, .ref ia, .ref dr, .ref en, .ref la, .ref wo, .int ni_7, .ref op, .ref mk, .ref ir, .int dn, .int md, .int pw_7, .int cm_7, .int wr_7, .ref se, .ref ec, .ref lc, .ref wc, .ref ol, .ref al, .int cs_7, .int (hm9_7 + 0)]))) := (hkp).self (by simp)
                        have hkl158 : kpx (fun a => a ∈ [mo]) (mu Ml31 mo (.inr (6, [.int cd, .ref cn, .ref ia, .ref dr, .ref en, .ref la, .ref wo, .int ni, .ref op, .ref mk, .ref ir, .int dn, .int md, .int pw, .int cm, .int wr, .ref se, .ref ec, .ref lc, .ref wc, .ref ol, .ref al, .int cs, .int 0]))) (mu Ml272 mo (.inr (6, [.int cd_7, .ref cn, .ref ia, .ref dr, .ref en, .ref la, .ref wo, .int ni_7, .ref op, .ref mk, .ref ir, .int dn, .int md, .int pw_7, .int cm_7, .int wr_7, .ref se, .ref ec, .ref lc, .ref wc, .ref ol, .ref al, .int cs_7, .int (hm9_7 + 0)]))) := hkl158.self (by simp)
                        have hkl272 : kpx (fun a => a ∈ [mo]) (mu Ml158 mo (.inr (6, [.int cd_3, .ref cn, .ref ia, .ref dr, .ref en, .ref la, .ref wo, .int ni_3, .ref op, .ref mk, .ref ir, .int dn, .int md, .int pw_3, .int cm_3, .int wr_3, .ref se, .ref ec, .ref lc, .ref wc, .ref ol, .ref al, .int cs_3, .int (hm9_3 + 0)]))) (mu Ml272 mo (.inr (6, [.int cd_7, .ref cn, .ref ia, .ref dr, .ref en, .ref la, .ref wo, .int ni_7, .ref op, .ref mk, .ref ir, .int dn, .int md, .int pw_7, .int cm_7, .int wr_7, .ref se, .ref ec, .ref lc, .ref wc, .ref ol, .ref al, .int cs_7, .int (hm9_7 + 0)]))) := hkl272.self (by simp)
                        refine lv_iinc (v := ((nI j272) + 8)) (lv' := [(4, .int ((nI j272) + 8)), (5, .int (nI u18)), (3, .int (nI (3100 + j158))), (2, .int (nI j158)), (1, .int y31_1), (0, .ref mo)]) hx hb dX6_sweep_356 hl (k := 1) rfl rfl (by decide) rfl (fun ls hl => ?_)
                        refine lv_goto (tgt := 272) hx hb dX6_sweep_359 (by decide) ?_
                        rw [nI_8] at hl
                        exact ih272 (j272 + 8, (mu Ml272 mo (.inr (6, [.int cd_7, .ref cn, .ref ia, .ref dr, .ref en, .ref la, .ref wo, .int ni_7, .ref op, .ref mk, .ref ir, .int dn, .int md, .int pw_7, .int cm_7, .int wr_7, .ref se, .ref ec, .ref lc, .ref wc, .ref ol, .ref al, .int cs_7, .int (hm9_7 + 0)])))) _ _ _ ⟨⟨by omega, by omega⟩, ⟨_, _, _, _, _, _, _, fcn, fia, fdr, fen, fla, fwo, fop, fmk, fir, fse, fec, flc, fol, fal_2, fwc, hap, (mu_self _ _ _), hmd, ⟨hrC, hrL, hrM⟩, ((mu_ne ne_cn_mo).trans kcn_7), ((mu_ne ne_ia_mo).trans kia_7), ((mu_ne ne_dr_mo).trans kdr_7), ((mu_ne ne_en_mo).trans ken_7), ((mu_ne ne_la_mo).trans kla_7), ((mu_ne ne_wo_mo).trans kwo_7), ((mu_ne ne_op_mo).trans kop_7), ((mu_ne ne_mk_mo).trans kmk_7), ((mu_ne ne_ir_mo).trans kir_7), ((mu_ne ne_se_mo).trans kse_7), ((mu_ne ne_ec_mo).trans kec_7), ((mu_ne ne_lc_mo).trans klc_7), ((mu_ne ne_wc_mo).trans kwc_7), ((mu_ne ne_ol_mo).trans kol_7), ((mu_ne ne_al_mo).trans kal_7)⟩, hkp, hkl272, hm, hS, lv_sub hl [0, 2, 3, 4, 5] rfl⟩ (by show 2147483648 - (j272 + 8) < 2147483648 - j272; omega)
                      · refine lv_iconst (v := 1) hx hb dX6_sweep_347 (by decide) ?_
                        refine lv_goto (tgt := 352) hx hb dX6_sweep_348 (by decide) ?_
                        refine lv_iadd hx hb dX6_sweep_352 ?_
                        refine m_put (T := TX6) (N := 24) (ci := 6) (v := .int (hm9_7 + 1)) (ty := .int) hx hb hts wX6 tyX6 tyX6_ok nmX6 hown hK hm hS hM_7 rfl 23 (by decide) f133 (fun _ h9 => h9) rfl (by decide +kernel) rfl rfl (Nat.le_of_ble_eq_true rfl) dX6_sweep_353 (fun H locs hm hS => ?_)
                        have hm : mm D (AZ z) (mu Ml272 mo (.inr (6, [.int cd_7, .ref cn, .ref ia, .ref dr, .ref en, .ref la, .ref wo, .int ni_7, .ref op, .ref mk, .ref ir, .int dn, .int md, .int pw_7, .int cm_7, .int wr_7, .ref se, .ref ec, .ref lc, .ref wc, .ref ol, .ref al, .int cs_7, .int (hm9_7 + 1)]))) H := hm
                        have hkp : kpx (fun a => a ∈ [mo, cn, ia, dr, en, la, wo, op, mk, ir, se, ec, lc, wc, ol, al]) M (mu Ml272 mo (.inr (6, [.int cd_7, .ref cn, .ref ia, .ref dr, .ref en, .ref la, .ref wo, .int ni_7, .ref op, .ref mk, .ref ir, .int dn, .int md, .int pw_7, .int cm_7, .int wr_7, .ref se, .ref ec, .ref lc, .ref wc, .ref ol, .ref al, .int cs_7, .int (hm9_7 + 1)]))) := (hkp).self (by simp)
                        have hkl158 : kpx (fun a => a ∈ [mo]) (mu Ml31 mo (.inr (6, [.int cd, .ref cn, .ref ia, .ref dr, .ref en, .ref la, .ref wo, .int ni, .ref op, .ref mk, .ref ir, .int dn, .int md, .int pw, .int cm, .int wr, .ref se, .ref ec, .ref lc, .ref wc, .ref ol, .ref al, .int cs, .int 0]))) (mu Ml272 mo (.inr (6, [.int cd_7, .ref cn, .ref ia, .ref dr, .ref en, .ref la, .ref wo, .int ni_7, .ref op, .ref mk, .ref ir, .int dn, .int md, .int pw_7, .int cm_7, .int wr_7, .ref se, .ref ec, .ref lc, .ref wc, .ref ol, .ref al, .int cs_7, .int (hm9_7 + 1)]))) := hkl158.self (by simp)
                        have hkl272 : kpx (fun a => a ∈ [mo]) (mu Ml158 mo (.inr (6, [.int cd_3, .ref cn, .ref ia, .ref dr, .ref en, .ref la, .ref wo, .int ni_3, .ref op, .ref mk, .ref ir, .int dn, .int md, .int pw_3, .int cm_3, .int wr_3, .ref se, .ref ec, .ref lc, .ref wc, .ref ol, .ref al, .int cs_3, .int (hm9_3 + 0)]))) (mu Ml272 mo (.inr (6, [.int cd_7, .ref cn, .ref ia, .ref dr, .ref en, .ref la, .ref wo, .int ni_7, .ref op, .ref mk, .ref ir, .int dn, .int md, .int pw_7, .int cm_7, .int wr_7, .ref se, .ref ec, .ref lc, .ref wc, .ref ol, .ref al, .int cs_7, .int (hm9_7 + 1)]))) := hkl272.self (by simp)
                        refine lv_iinc (v := ((nI j272) + 8)) (lv' := [(4, .int ((nI j272) + 8)), (5, .int (nI u18)), (3, .int (nI (3100 + j158))), (2, .int (nI j158)), (1, .int y31_1), (0, .ref mo)]) hx hb dX6_sweep_356 hl (k := 1) rfl rfl (by decide) rfl (fun ls hl => ?_)
                        refine lv_goto (tgt := 272) hx hb dX6_sweep_359 (by decide) ?_
                        rw [nI_8] at hl
                        exact ih272 (j272 + 8, (mu Ml272 mo (.inr (6, [.int cd_7, .ref cn, .ref ia, .ref dr, .ref en, .ref la, .ref wo, .int ni_7, .ref op, .ref mk, .ref ir, .int dn, .int md, .int pw_7, .int cm_7, .int wr_7, .ref se, .ref ec, .ref lc, .ref wc, .ref ol, .ref al, .int cs_7, .int (hm9_7 + 1)])))) _ _ _ ⟨⟨by omega, by omega⟩, ⟨_, _, _, _, _, _, _, fcn, fia, fdr, fen, fla, fwo, fop, fmk, fir, fse, fec, flc, fol, fal_2, fwc, hap, (mu_self _ _ _), hmd, ⟨hrC, hrL, hrM⟩, ((mu_ne ne_cn_mo).trans kcn_7), ((mu_ne ne_ia_mo).trans kia_7), ((mu_ne ne_dr_mo).trans kdr_7), ((mu_ne ne_en_mo).trans ken_7), ((mu_ne ne_la_mo).trans kla_7), ((mu_ne ne_wo_mo).trans kwo_7), ((mu_ne ne_op_mo).trans kop_7), ((mu_ne ne_mk_mo).trans kmk_7), ((mu_ne ne_ir_mo).trans kir_7), ((mu_ne ne_se_mo).trans kse_7), ((mu_ne ne_ec_mo).trans kec_7), ((mu_ne ne_lc_mo).trans klc_7), ((mu_ne ne_wc_mo).trans kwc_7), ((mu_ne ne_ol_mo).trans kol_7), ((mu_ne ne_al_mo).trans kal_7)⟩, hkp, hkl272, hm, hS, lv_sub hl [0, 2, 3, 4, 5] rfl⟩ (by show 2147483648 - (j272 + 8) < 2147483648 - j272; omega)
                  · have hqc20 : (j272 + 8) < u18 := nb_nle (a := u18) (b := (j272 + 8)) (by omega) (by omega) c20
                    refine lv_iload hx hb dX6_sweep_297 (lv_at hl 0 rfl) ?_
                    refine lv_bipush (v := 8) hx hb dX6_sweep_299 (by decide) ?_
                    refine lv_iadd hx hb dX6_sweep_301 ?_
                    refine W.eq (g2 := F0 m 302 ls [.int (nI (j272 + 8))]) (by rw [show (((nI j272)) + (8) : Int32) = nI (j272 + 8) from nI_add j272 8]) ?_
                    refine lv_goto (tgt := 311) hx hb dX6_sweep_302 (by decide) ?_
                    refine lv_istore (lv' := [(5, .int (nI (j272 + 8))), (4, .int (nI j272)), (3, .int (nI (3100 + j158))), (2, .int (nI j158)), (1, .int y31_1), (0, .ref mo)]) hx hb dX6_sweep_311 hl (by decide) rfl (fun ls hl => ?_)
                    refine lv_aload_n hx hb dX6_sweep_313 rfl (lv_at hl 5 rfl) ?_
                    refine lv_dup hx hb dX6_sweep_314 rfl ?_
                    refine m_get (T := TX6) (N := 24) (ci := 6) (v := .int hm9_7) hx hb hts wX6 hown hK hm hM_7 rfl 23 (by decide) f133 (fun _ h9 => h9) rfl dX6_sweep_315 ?_
                    refine lv_aload_n hx hb dX6_sweep_318 rfl (lv_at hl 5 rfl) ?_
                    refine m_get (T := TX6) (N := 24) (ci := 6) (v := .ref wc) hx hb hts wX6 hown hK hm hM_7 rfl 19 (by decide) f57 (fun _ h9 => h9) rfl dX6_sweep_319 ?_
                    refine lv_iload_n hx hb dX6_sweep_322 rfl (lv_at hl 3 rfl) ?_
                    refine m_lald hx hb hK hm 1 kwc_7 rfl (vp_in_nI (by omega) (by decide)) dX6_sweep_323 ?_
                    refine lv_iload hx hb dX6_sweep_324 (lv_at hl 1 rfl) ?_
                    refine lv_lushr (v := (us (fwc ((nI j158)).toNatClampNeg) (nI j272))) hx hb dX6_sweep_326 rfl ?_
                    refine lv_ldc2 hx hb hown (hts (.constantLong RX6 136 (255)) (by decide +kernel)) dX6_sweep_327 ?_
                    refine lv_land hx hb dX6_sweep_330 ?_
                    refine lv_lconst (v := 0) hx hb dX6_sweep_331 (by decide) ?_
                    refine W.lcmp hx hb dX6_sweep_332 ?_
                    refine lv_if_ne (tgt := 347) hx hb dX6_sweep_333 (by decide) (fun c23 => ?_) (fun c23 => ?_)
                    · refine lv_iconst (v := 1) hx hb dX6_sweep_347 (by decide) ?_
                      refine lv_goto (tgt := 352) hx hb dX6_sweep_348 (by decide) ?_
                      refine lv_iadd hx hb dX6_sweep_352 ?_
                      refine m_put (T := TX6) (N := 24) (ci := 6) (v := .int (hm9_7 + 1)) (ty := .int) hx hb hts wX6 tyX6 tyX6_ok nmX6 hown hK hm hS hM_7 rfl 23 (by decide) f133 (fun _ h9 => h9) rfl (by decide +kernel) rfl rfl (Nat.le_of_ble_eq_true rfl) dX6_sweep_353 (fun H locs hm hS => ?_)
                      have hm : mm D (AZ z) (mu Ml272 mo (.inr (6, [.int cd_7, .ref cn, .ref ia, .ref dr, .ref en, .ref la, .ref wo, .int ni_7, .ref op, .ref mk, .ref ir, .int dn, .int md, .int pw_7, .int cm_7, .int wr_7, .ref se, .ref ec, .ref lc, .ref wc, .ref ol, .ref al, .int cs_7, .int (hm9_7 + 1)]))) H := hm
                      have hkp : kpx (fun a => a ∈ [mo, cn, ia, dr, en, la, wo, op, mk, ir, se, ec, lc, wc, ol, al]) M (mu Ml272 mo (.inr (6, [.int cd_7, .ref cn, .ref ia, .ref dr, .ref en, .ref la, .ref wo, .int ni_7, .ref op, .ref mk, .ref ir, .int dn, .int md, .int pw_7, .int cm_7, .int wr_7, .ref se, .ref ec, .ref lc, .ref wc, .ref ol, .ref al, .int cs_7, .int (hm9_7 + 1)]))) := (hkp).self (by simp)
                      have hkl158 : kpx (fun a => a ∈ [mo]) (mu Ml31 mo (.inr (6, [.int cd, .ref cn, .ref ia, .ref dr, .ref en, .ref la, .ref wo, .int ni, .ref op, .ref mk, .ref ir, .int dn, .int md, .int pw, .int cm, .int wr, .ref se, .ref ec, .ref lc, .ref wc, .ref ol, .ref al, .int cs, .int 0]))) (mu Ml272 mo (.inr (6, [.int cd_7, .ref cn, .ref ia, .ref dr, .ref en, .ref la, .ref wo, .int ni_7, .ref op, .ref mk, .ref ir, .int dn, .int md, .int pw_7, .int cm_7, .int wr_7, .ref se, .ref ec, .ref lc, .ref wc, .ref ol, .ref al, .int cs_7, .int (hm9_7 + 1)]))) := hkl158.self (by simp)
                      have hkl272 : kpx (fun a => a ∈ [mo]) (mu Ml158 mo (.inr (6, [.int cd_3, .ref cn, .ref ia, .ref dr, .ref en, .ref la, .ref wo, .int ni_3, .ref op, .ref mk, .ref ir, .int dn, .int md, .int pw_3, .int cm_3, .int wr_3, .ref se, .ref ec, .ref lc, .ref wc, .ref ol, .ref al, .int cs_3, .int (hm9_3 + 0)]))) (mu Ml272 mo (.inr (6, [.int cd_7, .ref cn, .ref ia, .ref dr, .ref en, .ref la, .ref wo, .int ni_7, .ref op, .ref mk, .ref ir, .int dn, .int md, .int pw_7, .int cm_7, .int wr_7, .ref se, .ref ec, .ref lc, .ref wc, .ref ol, .ref al, .int cs_7, .int (hm9_7 + 1)]))) := hkl272.self (by simp)
                      refine lv_iinc (v := ((nI j272) + 8)) (lv' := [(4, .int ((nI j272) + 8)), (5, .int (nI (j272 + 8))), (3, .int (nI (3100 + j158))), (2, .int (nI j158)), (1, .int y31_1), (0, .ref mo)]) hx hb dX6_sweep_356 hl (k := 1) rfl rfl (by decide) rfl (fun ls hl => ?_)
                      refine lv_goto (tgt := 272) hx hb dX6_sweep_359 (by decide) ?_
                      rw [nI_8] at hl
                      exact ih272 (j272 + 8, (mu Ml272 mo (.inr (6, [.int cd_7, .ref cn, .ref ia, .ref dr, .ref en, .ref la, .ref wo, .int ni_7, .ref op, .ref mk, .ref ir, .int dn, .int md, .int pw_7, .int cm_7, .int wr_7, .ref se, .ref ec, .ref lc, .ref wc, .ref ol, .ref al, .int cs_7, .int (hm9_7 + 1)])))) _ _ _ ⟨⟨by omega, by omega⟩, ⟨_, _, _, _, _, _, _, fcn, fia, fdr, fen, fla, fwo, fop, fmk, fir, fse, fec, flc, fol, fal_2, fwc, hap, (mu_self _ _ _), hmd, ⟨hrC, hrL, hrM⟩, ((mu_ne ne_cn_mo).trans kcn_7), ((mu_ne ne_ia_mo).trans kia_7), ((mu_ne ne_dr_mo).trans kdr_7), ((mu_ne ne_en_mo).trans ken_7), ((mu_ne ne_la_mo).trans kla_7), ((mu_ne ne_wo_mo).trans kwo_7), ((mu_ne ne_op_mo).trans kop_7), ((mu_ne ne_mk_mo).trans kmk_7), ((mu_ne ne_ir_mo).trans kir_7), ((mu_ne ne_se_mo).trans kse_7), ((mu_ne ne_ec_mo).trans kec_7), ((mu_ne ne_lc_mo).trans klc_7), ((mu_ne ne_wc_mo).trans kwc_7), ((mu_ne ne_ol_mo).trans kol_7), ((mu_ne ne_al_mo).trans kal_7)⟩, hkp, hkl272, hm, hS, lv_sub hl [0, 2, 3, 4, 5] rfl⟩ (by show 2147483648 - (j272 + 8) < 2147483648 - j272; omega)
                    · refine lv_iload hx hb dX6_sweep_336 (lv_at hl 0 rfl) ?_
                      refine lv_aload_n hx hb dX6_sweep_338 rfl (lv_at hl 5 rfl) ?_
                      refine m_get (T := TX6) (N := 24) (ci := 6) (v := .ref ol) hx hb hts wX6 hown hK hm hM_7 rfl 20 (by decide) f61 (fun _ h9 => h9) rfl dX6_sweep_339 ?_
                      refine lv_iload_n hx hb dX6_sweep_342 rfl (lv_at hl 3 rfl) ?_
                      refine m_iald hx hb hK hm 0 kol_7 rfl (vp_in_nI (by omega) (by decide)) dX6_sweep_343 ?_
                      refine lv_icmp_le (tgt := 351) hx hb dX6_sweep_344 (by decide) (fun c24 => ?_) (fun c24 => ?_)
                      · refine lv_iconst (v := 0) hx hb dX6_sweep_351 (by decide) ?_
                        refine lv_iadd hx hb dX6_sweep_352 ?_
                        refine m_put (T := TX6) (N := 24) (ci := 6) (v := .int (hm9_7 + 0)) (ty := .int) hx hb hts wX6 tyX6 tyX6_ok nmX6 hown hK hm hS hM_7 rfl 23 (by decide) f133 (fun _ h9 => h9) rfl (by decide +kernel) rfl rfl (Nat.le_of_ble_eq_true rfl) dX6_sweep_353 (fun H locs hm hS => ?_)
                        have hm : mm D (AZ z) (mu Ml272 mo (.inr (6, [.int cd_7, .ref cn, .ref ia, .ref dr, .ref en, .ref la, .ref wo, .int ni_7, .ref op, .ref mk, .ref ir, .int dn, .int md, .int pw_7, .int cm_7, .int wr_7, .ref se, .ref ec, .ref lc, .ref wc, .ref ol, .ref al, .int cs_7, .int (hm9_7 + 0)]))) H := hm
                        have hkp : kpx (fun a => a ∈ [mo, cn, ia, dr, en, la, wo, op, mk, ir, se, ec, lc, wc, ol, al]) M (mu Ml272 mo (.inr (6, [.int cd_7, .ref cn, .ref ia, .ref dr, .ref en, .ref la, .ref wo, .int ni_7, .ref op, .ref mk, .ref ir, .int dn, .int md, .int pw_7, .int cm_7, .int wr_7, .ref se, .ref ec, .ref lc, .ref wc, .ref ol, .ref al, .int cs_7, .int (hm9_7 + 0)]))) := (hkp).self (by simp)
                        have hkl158 : kpx (fun a => a ∈ [mo]) (mu Ml31 mo (.inr (6, [.int cd, .ref cn, .ref ia, .ref dr, .ref en, .ref la, .ref wo, .int ni, .ref op, .ref mk, .ref ir, .int dn, .int md, .int pw, .int cm, .int wr, .ref se, .ref ec, .ref lc, .ref wc, .ref ol, .ref al, .int cs, .int 0]))) (mu Ml272 mo (.inr (6, [.int cd_7, .ref cn, .ref ia, .ref dr, .ref en, .ref la, .ref wo, .int ni_7, .ref op, .ref mk, .ref ir, .int dn, .int md, .int pw_7, .int cm_7, .int wr_7, .ref se, .ref ec, .ref lc, .ref wc, .ref ol, .ref al, .int cs_7, .int (hm9_7 + 0)]))) := hkl158.self (by simp)
                        have hkl272 : kpx (fun a => a ∈ [mo]) (mu Ml158 mo (.inr (6, [.int cd_3, .ref cn, .ref ia, .ref dr, .ref en, .ref la, .ref wo, .int ni_3, .ref op, .ref mk, .ref ir, .int dn, .int md, .int pw_3, .int cm_3, .int wr_3, .ref se, .ref ec, .ref lc, .ref wc, .ref ol, .ref al, .int cs_3, .int (hm9_3 + 0)]))) (mu Ml272 mo (.inr (6, [.int cd_7, .ref cn, .ref ia, .ref dr, .ref en, .ref la, .ref wo, .int ni_7, .ref op, .ref mk, .ref ir, .int dn, .int md, .int pw_7, .int cm_7, .int wr_7, .ref se, .ref ec, .ref lc, .ref wc, .ref ol, .ref al, .int cs_7, .int (hm9_7 + 0)]))) := hkl272.self (by simp)
                        refine lv_iinc (v := ((nI j272) + 8)) (lv' := [(4, .int ((nI j272) + 8)), (5, .int (nI (j272 + 8))), (3, .int (nI (3100 + j158))), (2, .int (nI j158)), (1, .int y31_1), (0, .ref mo)]) hx hb dX6_sweep_356 hl (k := 1) rfl rfl (by decide) rfl (fun ls hl => ?_)
                        refine lv_goto (tgt := 272) hx hb dX6_sweep_359 (by decide) ?_
                        rw [nI_8] at hl
                        exact ih272 (j272 + 8, (mu Ml272 mo (.inr (6, [.int cd_7, .ref cn, .ref ia, .ref dr, .ref en, .ref la, .ref wo, .int ni_7, .ref op, .ref mk, .ref ir, .int dn, .int md, .int pw_7, .int cm_7, .int wr_7, .ref se, .ref ec, .ref lc, .ref wc, .ref ol, .ref al, .int cs_7, .int (hm9_7 + 0)])))) _ _ _ ⟨⟨by omega, by omega⟩, ⟨_, _, _, _, _, _, _, fcn, fia, fdr, fen, fla, fwo, fop, fmk, fir, fse, fec, flc, fol, fal_2, fwc, hap, (mu_self _ _ _), hmd, ⟨hrC, hrL, hrM⟩, ((mu_ne ne_cn_mo).trans kcn_7), ((mu_ne ne_ia_mo).trans kia_7), ((mu_ne ne_dr_mo).trans kdr_7), ((mu_ne ne_en_mo).trans ken_7), ((mu_ne ne_la_mo).trans kla_7), ((mu_ne ne_wo_mo).trans kwo_7), ((mu_ne ne_op_mo).trans kop_7), ((mu_ne ne_mk_mo).trans kmk_7), ((mu_ne ne_ir_mo).trans kir_7), ((mu_ne ne_se_mo).trans kse_7), ((mu_ne ne_ec_mo).trans kec_7), ((mu_ne ne_lc_mo).trans klc_7), ((mu_ne ne_wc_mo).trans kwc_7), ((mu_ne ne_ol_mo).trans kol_7), ((mu_ne ne_al_mo).trans kal_7)⟩, hkp, hkl272, hm, hS, lv_sub hl [0, 2, 3, 4, 5] rfl⟩ (by show 2147483648 - (j272 + 8) < 2147483648 - j272; omega)
                      · refine lv_iconst (v := 1) hx hb dX6_sweep_347 (by decide) ?_
                        refine lv_goto (tgt := 352) hx hb dX6_sweep_348 (by decide) ?_
                        refine lv_iadd hx hb dX6_sweep_352 ?_
                        refine m_put (T := TX6) (N := 24) (ci := 6) (v := .int (hm9_7 + 1)) (ty := .int) hx hb hts wX6 tyX6 tyX6_ok nmX6 hown hK hm hS hM_7 rfl 23 (by decide) f133 (fun _ h9 => h9) rfl (by decide +kernel) rfl rfl (Nat.le_of_ble_eq_true rfl) dX6_sweep_353 (fun H locs hm hS => ?_)
                        have hm : mm D (AZ z) (mu Ml272 mo (.inr (6, [.int cd_7, .ref cn, .ref ia, .ref dr, .ref en, .ref la, .ref wo, .int ni_7, .ref op, .ref mk, .ref ir, .int dn, .int md, .int pw_7, .int cm_7, .int wr_7, .ref se, .ref ec, .ref lc, .ref wc, .ref ol, .ref al, .int cs_7, .int (hm9_7 + 1)]))) H := hm
                        have hkp : kpx (fun a => a ∈ [mo, cn, ia, dr, en, la, wo, op, mk, ir, se, ec, lc, wc, ol, al]) M (mu Ml272 mo (.inr (6, [.int cd_7, .ref cn, .ref ia, .ref dr, .ref en, .ref la, .ref wo, .int ni_7, .ref op, .ref mk, .ref ir, .int dn, .int md, .int pw_7, .int cm_7, .int wr_7, .ref se, .ref ec, .ref lc, .ref wc, .ref ol, .ref al, .int cs_7, .int (hm9_7 + 1)]))) := (hkp).self (by simp)
                        have hkl158 : kpx (fun a => a ∈ [mo]) (mu Ml31 mo (.inr (6, [.int cd, .ref cn, .ref ia, .ref dr, .ref en, .ref la, .ref wo, .int ni, .ref op, .ref mk, .ref ir, .int dn, .int md, .int pw, .int cm, .int wr, .ref se, .ref ec, .ref lc, .ref wc, .ref ol, .ref al, .int cs, .int 0]))) (mu Ml272 mo (.inr (6, [.int cd_7, .ref cn, .ref ia, .ref dr, .ref en, .ref la, .ref wo, .int ni_7, .ref op, .ref mk, .ref ir, .int dn, .int md, .int pw_7, .int cm_7, .int wr_7, .ref se, .ref ec, .ref lc, .ref wc, .ref ol, .ref al, .int cs_7, .int (hm9_7 + 1)]))) := hkl158.self (by simp)
                        have hkl272 : kpx (fun a => a ∈ [mo]) (mu Ml158 mo (.inr (6, [.int cd_3, .ref cn, .ref ia, .ref dr, .ref en, .ref la, .ref wo, .int ni_3, .ref op, .ref mk, .ref ir, .int dn, .int md, .int pw_3, .int cm_3, .int wr_3, .ref se, .ref ec, .ref lc, .ref wc, .ref ol, .ref al, .int cs_3, .int (hm9_3 + 0)]))) (mu Ml272 mo (.inr (6, [.int cd_7, .ref cn, .ref ia, .ref dr, .ref en, .ref la, .ref wo, .int ni_7, .ref op, .ref mk, .ref ir, .int dn, .int md, .int pw_7, .int cm_7, .int wr_7, .ref se, .ref ec, .ref lc, .ref wc, .ref ol, .ref al, .int cs_7, .int (hm9_7 + 1)]))) := hkl272.self (by simp)
                        refine lv_iinc (v := ((nI j272) + 8)) (lv' := [(4, .int ((nI j272) + 8)), (5, .int (nI (j272 + 8))), (3, .int (nI (3100 + j158))), (2, .int (nI j158)), (1, .int y31_1), (0, .ref mo)]) hx hb dX6_sweep_356 hl (k := 1) rfl rfl (by decide) rfl (fun ls hl => ?_)
                        refine lv_goto (tgt := 272) hx hb dX6_sweep_359 (by decide) ?_
                        rw [nI_8] at hl
                        exact ih272 (j272 + 8, (mu Ml272 mo (.inr (6, [.int cd_7, .ref cn, .ref ia, .ref dr, .ref en, .ref la, .ref wo, .int ni_7, .ref op, .ref mk, .ref ir, .int dn, .int md, .int pw_7, .int cm_7, .int wr_7, .ref se, .ref ec, .ref lc, .ref wc, .ref ol, .ref al, .int cs_7, .int (hm9_7 + 1)])))) _ _ _ ⟨⟨by omega, by omega⟩, ⟨_, _, _, _, _, _, _, fcn, fia, fdr, fen, fla, fwo, fop, fmk, fir, fse, fec, flc, fol, fal_2, fwc, hap, (mu_self _ _ _), hmd, ⟨hrC, hrL, hrM⟩, ((mu_ne ne_cn_mo).trans kcn_7), ((mu_ne ne_ia_mo).trans kia_7), ((mu_ne ne_dr_mo).trans kdr_7), ((mu_ne ne_en_mo).trans ken_7), ((mu_ne ne_la_mo).trans kla_7), ((mu_ne ne_wo_mo).trans kwo_7), ((mu_ne ne_op_mo).trans kop_7), ((mu_ne ne_mk_mo).trans kmk_7), ((mu_ne ne_ir_mo).trans kir_7), ((mu_ne ne_se_mo).trans kse_7), ((mu_ne ne_ec_mo).trans kec_7), ((mu_ne ne_lc_mo).trans klc_7), ((mu_ne ne_wc_mo).trans kwc_7), ((mu_ne ne_ol_mo).trans kol_7), ((mu_ne ne_al_mo).trans kal_7)⟩, hkp, hkl272, hm, hS, lv_sub hl [0, 2, 3, 4, 5] rfl⟩ (by show 2147483648 - (j272 + 8) < 2147483648 - j272; omega)
              · refine lv_iconst (v := 1) hx hb dX6_sweep_260 (by decide) ?_
                refine lv_goto (tgt := 265) hx hb dX6_sweep_261 (by decide) ?_
                refine lv_iadd hx hb dX6_sweep_265 ?_
                refine m_put (T := TX6) (N := 24) (ci := 6) (v := .int (hm9_3 + 1)) (ty := .int) hx hb hts wX6 tyX6 tyX6_ok nmX6 hown hK hm hS hM_3 rfl 23 (by decide) f133 (fun _ h9 => h9) rfl (by decide +kernel) rfl rfl (Nat.le_of_ble_eq_true rfl) dX6_sweep_266 (fun H locs hm hS => ?_)
                have hm : mm D (AZ z) (mu Ml158 mo (.inr (6, [.int cd_3, .ref cn, .ref ia, .ref dr, .ref en, .ref la, .ref wo, .int ni_3, .ref op, .ref mk, .ref ir, .int dn, .int md, .int pw_3, .int cm_3, .int wr_3, .ref se, .ref ec, .ref lc, .ref wc, .ref ol, .ref al, .int cs_3, .int (hm9_3 + 1)]))) H := hm
                have hkp : kpx (fun a => a ∈ [mo, cn, ia, dr, en, la, wo, op, mk, ir, se, ec, lc, wc, ol, al]) M (mu Ml158 mo (.inr (6, [.int cd_3, .ref cn, .ref ia, .ref dr, .ref en, .ref la, .ref wo, .int ni_3, .ref op, .ref mk, .ref ir, .int dn, .int md, .int pw_3, .int cm_3, .int wr_3, .ref se, .ref ec, .ref lc, .ref wc, .ref ol, .ref al, .int cs_3, .int (hm9_3 + 1)]))) := (hkp).self (by simp)
                have hkl158 : kpx (fun a => a ∈ [mo]) (mu Ml31 mo (.inr (6, [.int cd, .ref cn, .ref ia, .ref dr, .ref en, .ref la, .ref wo, .int ni, .ref op, .ref mk, .ref ir, .int dn, .int md, .int pw, .int cm, .int wr, .ref se, .ref ec, .ref lc, .ref wc, .ref ol, .ref al, .int cs, .int 0]))) (mu Ml158 mo (.inr (6, [.int cd_3, .ref cn, .ref ia, .ref dr, .ref en, .ref la, .ref wo, .int ni_3, .ref op, .ref mk, .ref ir, .int dn, .int md, .int pw_3, .int cm_3, .int wr_3, .ref se, .ref ec, .ref lc, .ref wc, .ref ol, .ref al, .int cs_3, .int (hm9_3 + 1)]))) := hkl158.self (by simp)
                refine lv_iconst (v := 0) hx hb dX6_sweep_269 (by decide) ?_
                refine lv_istore (lv' := [(4, .int 0), (3, .int (nI (3100 + j158))), (2, .int (nI j158)), (1, .int y31_1), (0, .ref mo)]) hx hb dX6_sweep_270 hl (by decide) rfl (fun ls hl => ?_)
                have hI0 : mI k (mu Ml158 mo (.inr (6, [.int cd_3, .ref cn, .ref ia, .ref dr, .ref en, .ref la, .ref wo, .int ni_3, .ref op, .ref mk, .ref ir, .int dn, .int md, .int pw_3, .int cm_3, .int wr_3, .ref se, .ref ec, .ref lc, .ref wc, .ref ol, .ref al, .int cs_3, .int (hm9_3 + 1)]))) mo cn ia dr en la wo op mk ir se ec lc wc ol al dn md := ⟨_, _, _, _, _, _, _, fcn, fia, fdr, fen, fla, fwo, fop, fmk, fir, fse, fec, flc, fol, fal_2, fwc, hap, (mu_self _ _ _), hmd, ⟨hrC, hrL, hrM⟩, ((mu_ne ne_cn_mo).trans kcn_3), ((mu_ne ne_ia_mo).trans kia_3), ((mu_ne ne_dr_mo).trans kdr_3), ((mu_ne ne_en_mo).trans ken_3), ((mu_ne ne_la_mo).trans kla_3), ((mu_ne ne_wo_mo).trans kwo_3), ((mu_ne ne_op_mo).trans kop_3), ((mu_ne ne_mk_mo).trans kmk_3), ((mu_ne ne_ir_mo).trans kir_3), ((mu_ne ne_se_mo).trans kse_3), ((mu_ne ne_ec_mo).trans kec_3), ((mu_ne ne_lc_mo).trans klc_3), ((mu_ne ne_wc_mo).trans kwc_3), ((mu_ne ne_ol_mo).trans kol_3), ((mu_ne ne_al_mo).trans kal_3)⟩
                refine W_loop (σ := Nat × mM) (fun ⟨j272, Ml272⟩ H locs ls => (0 ≤ j272 ∧ j272 < 2147483000) ∧ (mI k Ml272 mo cn ia dr en la wo op mk ir se ec lc wc ol al dn md) ∧ (kpx (fun a => a ∈ [mo, cn, ia, dr, en, la, wo, op, mk, ir, se, ec, lc, wc, ol, al]) M Ml272) ∧ (kpx (fun a => a ∈ [mo]) (mu Ml158 mo (.inr (6, [.int cd_3, .ref cn, .ref ia, .ref dr, .ref en, .ref la, .ref wo, .int ni_3, .ref op, .ref mk, .ref ir, .int dn, .int md, .int pw_3, .int cm_3, .int wr_3, .ref se, .ref ec, .ref lc, .ref wc, .ref ol, .ref al, .int cs_3, .int (hm9_3 + 1)]))) Ml272) ∧ mm D (AZ z) Ml272 H ∧ va_S (AZ z) s.heap H locs ∧ lv_has ls 6 [(4, .int (nI j272)), (3, .int (nI (3100 + j158))), (2, .int (nI j158)), (1, .int y31_1), (0, .ref mo)]) (fun ⟨j272, Ml272⟩ => 2147483648 - j272) (fun _ => 0) (fun _ => 0) ?_ (0, (mu Ml158 mo (.inr (6, [.int cd_3, .ref cn, .ref ia, .ref dr, .ref en, .ref la, .ref wo, .int ni_3, .ref op, .ref mk, .ref ir, .int dn, .int md, .int pw_3, .int cm_3, .int wr_3, .ref se, .ref ec, .ref lc, .ref wc, .ref ol, .ref al, .int cs_3, .int (hm9_3 + 1)])))) _ _ _ ⟨⟨Nat.le_refl _, by omega⟩, hI0, hkp, (kpx.refl _ _), hm, hS, lv_sub hl [0, 1, 2, 3, 4] rfl⟩
                intro ⟨j272, Ml272⟩ H locs ls hQ ih272
                obtain ⟨hj272, hI, hkp, hkl272, hm, hS, hl⟩ := hQ
                try dsimp only at hm hl ih272 hj272 hI hkp hkl272 ⊢
                obtain ⟨cd_8, ni_8, pw_8, cm_8, wr_8, cs_8, hm9_8, _, _, _, _, _, _, _, _, _, _, _, _, _, _, _, -, hM_8, hmd_8, ⟨-, -, -⟩, -, -, -, -, -, -, -, -, -, -, -, -, -, -, -⟩ := id hI
                have kcn_8 := hkl272 _ _ (by simp only [List.mem_cons, List.not_mem_nil, or_false, not_or]; exact ne_cn_mo) ((mu_ne ne_cn_mo).trans kcn_3)
                have kia_8 := hkl272 _ _ (by simp only [List.mem_cons, List.not_mem_nil, or_false, not_or]; exact ne_ia_mo) ((mu_ne ne_ia_mo).trans kia_3)
                have kdr_8 := hkl272 _ _ (by simp only [List.mem_cons, List.not_mem_nil, or_false, not_or]; exact ne_dr_mo) ((mu_ne ne_dr_mo).trans kdr_3)
                have ken_8 := hkl272 _ _ (by simp only [List.mem_cons, List.not_mem_nil, or_false, not_or]; exact ne_en_mo) ((mu_ne ne_en_mo).trans ken_3)
                have kla_8 := hkl272 _ _ (by simp only [List.mem_cons, List.not_mem_nil, or_false, not_or]; exact ne_la_mo) ((mu_ne ne_la_mo).trans kla_3)
                have kwo_8 := hkl272 _ _ (by simp only [List.mem_cons, List.not_mem_nil, or_false, not_or]; exact ne_wo_mo) ((mu_ne ne_wo_mo).trans kwo_3)
                have kop_8 := hkl272 _ _ (by simp only [List.mem_cons, List.not_mem_nil, or_false, not_or]; exact ne_op_mo) ((mu_ne ne_op_mo).trans kop_3)
                have kmk_8 := hkl272 _ _ (by simp only [List.mem_cons, List.not_mem_nil, or_false, not_or]; exact ne_mk_mo) ((mu_ne ne_mk_mo).trans kmk_3)
                have kir_8 := hkl272 _ _ (by simp only [List.mem_cons, List.not_mem_nil, or_false, not_or]; exact ne_ir_mo) ((mu_ne ne_ir_mo).trans kir_3)
                have kse_8 := hkl272 _ _ (by simp only [List.mem_cons, List.not_mem_nil, or_false, not_or]; exact ne_se_mo) ((mu_ne ne_se_mo).trans kse_3)
                have kec_8 := hkl272 _ _ (by simp only [List.mem_cons, List.not_mem_nil, or_false, not_or]; exact ne_ec_mo) ((mu_ne ne_ec_mo).trans kec_3)
                have klc_8 := hkl272 _ _ (by simp only [List.mem_cons, List.not_mem_nil, or_false, not_or]; exact ne_lc_mo) ((mu_ne ne_lc_mo).trans klc_3)
                have kwc_8 := hkl272 _ _ (by simp only [List.mem_cons, List.not_mem_nil, or_false, not_or]; exact ne_wc_mo) ((mu_ne ne_wc_mo).trans kwc_3)
                have kol_8 := hkl272 _ _ (by simp only [List.mem_cons, List.not_mem_nil, or_false, not_or]; exact ne_ol_mo) ((mu_ne ne_ol_mo).trans kol_3)
                have kal_8 := hkl272 _ _ (by simp only [List.mem_cons, List.not_mem_nil, or_false, not_or]; exact ne_al_mo) ((mu_ne ne_al_mo).trans kal_3)
                have hkl158 := hkl158.trans (hkl272.mono (fun a ha => by simp only [List.mem_cons, List.not_mem_nil, or_false] at ha ⊢; subst ha; simp))
                refine lv_iload hx hb dX6_sweep_272 (lv_at hl 0 rfl) ?_
                refine lv_aload_n hx hb dX6_sweep_274 rfl (lv_at hl 4 rfl) ?_
                refine m_get (T := TX6) (N := 24) (ci := 6) (v := .ref la) hx hb hts wX6 hown hK hm hM_8 rfl 5 (by decide) f24 (fun _ h9 => h9) rfl dX6_sweep_275 ?_
                refine lv_iload_n hx hb dX6_sweep_278 rfl (lv_at hl 1 rfl) ?_
                refine m_iald hx hb hK hm 0 kla_8 rfl (vp_in_nI (by omega) (by decide)) dX6_sweep_279 ?_
                obtain ⟨u25, hu25, eu25⟩ := hrL (3100 + j158)
                refine W.eq (g2 := F0 m 280 ls [.int (nI u25), .int (nI j272)]) (by rw [show (fla ((nI (3100 + j158))).toNatClampNeg) = nI u25 from (congrArg fla (show ((nI (3100 + j158))).toNatClampNeg = (3100 + j158) from nI_clamp (by omega))).trans eu25]) ?_
                have hb_u25 := hu25
                have hu25 : u25 ≤ 64 := hu25
                refine lv_icmp_ge (tgt := 362) hx hb dX6_sweep_280 (by decide) (fun c26 => ?_) (fun c26 => ?_)
                · have hqc26 : u25 ≤ j272 := nb_le (a := u25) (b := j272) (by omega) (by omega) c26
                  refine lv_iinc (v := ((nI j158) + 1)) (lv' := [(2, .int ((nI j158) + 1)), (4, .int (nI j272)), (3, .int (nI (3100 + j158))), (1, .int y31_1), (0, .ref mo)]) hx hb dX6_sweep_362 hl (k := 2) rfl rfl (by decide) rfl (fun ls hl => ?_)
                  refine lv_goto (tgt := 158) hx hb dX6_sweep_365 (by decide) ?_
                  rw [nI_1] at hl
                  exact ih158 (j158 + 1, Ml272) _ _ _ ⟨⟨by omega, by omega⟩, ⟨_, _, _, _, _, _, _, fcn, fia, fdr, fen, fla, fwo, fop, fmk, fir, fse, fec, flc, fol, fal_2, fwc, hap, hM_8, hmd, ⟨hrC, hrL, hrM⟩, kcn_8, kia_8, kdr_8, ken_8, kla_8, kwo_8, kop_8, kmk_8, kir_8, kse_8, kec_8, klc_8, kwc_8, kol_8, kal_8⟩, hkp, hkl158, hm, hS, lv_sub hl [0, 3, 4] rfl⟩ (by show 2147483648 - (j158 + 1) < 2147483648 - j158; omega)
                · have hqc26 : j272 < u25 := nb_nle (a := u25) (b := j272) (by omega) (by omega) c26
                  refine lv_iload hx hb dX6_sweep_283 (lv_at hl 0 rfl) ?_
                  refine lv_bipush (v := 8) hx hb dX6_sweep_285 (by decide) ?_
                  refine lv_iadd hx hb dX6_sweep_287 ?_
                  refine W.eq (g2 := F0 m 288 ls [.int (nI (j272 + 8))]) (by rw [show (((nI j272)) + (8) : Int32) = nI (j272 + 8) from nI_add j272 8]) ?_
                  refine lv_aload_n hx hb dX6_sweep_288 rfl (lv_at hl 4 rfl) ?_
                  refine m_get (T := TX6) (N := 24) (ci := 6) (v := .ref la) hx hb hts wX6 hown hK hm hM_8 rfl 5 (by decide) f24 (fun _ h9 => h9) rfl dX6_sweep_289 ?_
                  refine lv_iload_n hx hb dX6_sweep_292 rfl (lv_at hl 1 rfl) ?_
                  refine m_iald hx hb hK hm 0 kla_8 rfl (vp_in_nI (by omega) (by decide)) dX6_sweep_293 ?_
                  refine W.eq (g2 := F0 m 294 ls [.int (nI u25), .int (nI (j272 + 8))]) (by rw [show (fla ((nI (3100 + j158))).toNatClampNeg) = nI u25 from (congrArg fla (show ((nI (3100 + j158))).toNatClampNeg = (3100 + j158) from nI_clamp (by omega))).trans eu25]) ?_
                  refine lv_icmp_ge (tgt := 305) hx hb dX6_sweep_294 (by decide) (fun c27 => ?_) (fun c27 => ?_)
                  · have hqc27 : u25 ≤ (j272 + 8) := nb_le (a := u25) (b := (j272 + 8)) (by omega) (by omega) c27
                    refine lv_aload_n hx hb dX6_sweep_305 rfl (lv_at hl 4 rfl) ?_
                    refine m_get (T := TX6) (N := 24) (ci := 6) (v := .ref la) hx hb hts wX6 hown hK hm hM_8 rfl 5 (by decide) f24 (fun _ h9 => h9) rfl dX6_sweep_306 ?_
                    refine lv_iload_n hx hb dX6_sweep_309 rfl (lv_at hl 1 rfl) ?_
                    refine m_iald hx hb hK hm 0 kla_8 rfl (vp_in_nI (by omega) (by decide)) dX6_sweep_310 ?_
                    refine W.eq (g2 := F0 m 311 ls [.int (nI u25)]) (by rw [show (fla ((nI (3100 + j158))).toNatClampNeg) = nI u25 from (congrArg fla (show ((nI (3100 + j158))).toNatClampNeg = (3100 + j158) from nI_clamp (by omega))).trans eu25]) ?_
                    refine lv_istore (lv' := [(5, .int (nI u25)), (4, .int (nI j272)), (3, .int (nI (3100 + j158))), (2, .int (nI j158)), (1, .int y31_1), (0, .ref mo)]) hx hb dX6_sweep_311 hl (by decide) rfl (fun ls hl => ?_)
                    refine lv_aload_n hx hb dX6_sweep_313 rfl (lv_at hl 5 rfl) ?_
                    refine lv_dup hx hb dX6_sweep_314 rfl ?_
                    refine m_get (T := TX6) (N := 24) (ci := 6) (v := .int hm9_8) hx hb hts wX6 hown hK hm hM_8 rfl 23 (by decide) f133 (fun _ h9 => h9) rfl dX6_sweep_315 ?_
                    refine lv_aload_n hx hb dX6_sweep_318 rfl (lv_at hl 5 rfl) ?_
                    refine m_get (T := TX6) (N := 24) (ci := 6) (v := .ref wc) hx hb hts wX6 hown hK hm hM_8 rfl 19 (by decide) f57 (fun _ h9 => h9) rfl dX6_sweep_319 ?_
                    refine lv_iload_n hx hb dX6_sweep_322 rfl (lv_at hl 3 rfl) ?_
                    refine m_lald hx hb hK hm 1 kwc_8 rfl (vp_in_nI (by omega) (by decide)) dX6_sweep_323 ?_
                    refine lv_iload hx hb dX6_sweep_324 (lv_at hl 1 rfl) ?_
                    refine lv_lushr (v := (us (fwc ((nI j158)).toNatClampNeg) (nI j272))) hx hb dX6_sweep_326 rfl ?_
                    refine lv_ldc2 hx hb hown (hts (.constantLong RX6 136 (255)) (by decide +kernel)) dX6_sweep_327 ?_
                    refine lv_land hx hb dX6_sweep_330 ?_
                    refine lv_lconst (v := 0) hx hb dX6_sweep_331 (by decide) ?_
                    refine W.lcmp hx hb dX6_sweep_332 ?_
                    refine lv_if_ne (tgt := 347) hx hb dX6_sweep_333 (by decide) (fun c28 => ?_) (fun c28 => ?_)
                    · refine lv_iconst (v := 1) hx hb dX6_sweep_347 (by decide) ?_
                      refine lv_goto (tgt := 352) hx hb dX6_sweep_348 (by decide) ?_
                      refine lv_iadd hx hb dX6_sweep_352 ?_
                      refine m_put (T := TX6) (N := 24) (ci := 6) (v := .int (hm9_8 + 1)) (ty := .int) hx hb hts wX6 tyX6 tyX6_ok nmX6 hown hK hm hS hM_8 rfl 23 (by decide) f133 (fun _ h9 => h9) rfl (by decide +kernel) rfl rfl (Nat.le_of_ble_eq_true rfl) dX6_sweep_353 (fun H locs hm hS => ?_)
                      have hm : mm D (AZ z) (mu Ml272 mo (.inr (6, [.int cd_8, .ref cn, .ref ia, .ref dr, .ref en, .ref la, .ref wo, .int ni_8, .ref op, .ref mk, .ref ir, .int dn, .int md, .int pw_8, .int cm_8, .int wr_8, .ref se, .ref ec, .ref lc, .ref wc, .ref ol, .ref al, .int cs_8, .int (hm9_8 + 1)]))) H := hm
                      have hkp : kpx (fun a => a ∈ [mo, cn, ia, dr, en, la, wo, op, mk, ir, se, ec, lc, wc, ol, al]) M (mu Ml272 mo (.inr (6, [.int cd_8, .ref cn, .ref ia, .ref dr, .ref en, .ref la, .ref wo, .int ni_8, .ref op, .ref mk, .ref ir, .int dn, .int md, .int pw_8, .int cm_8, .int wr_8, .ref se, .ref ec, .ref lc, .ref wc, .ref ol, .ref al, .int cs_8, .int (hm9_8 + 1)]))) := (hkp).self (by simp)
                      have hkl158 : kpx (fun a => a ∈ [mo]) (mu Ml31 mo (.inr (6, [.int cd, .ref cn, .ref ia, .ref dr, .ref en, .ref la, .ref wo, .int ni, .ref op, .ref mk, .ref ir, .int dn, .int md, .int pw, .int cm, .int wr, .ref se, .ref ec, .ref lc, .ref wc, .ref ol, .ref al, .int cs, .int 0]))) (mu Ml272 mo (.inr (6, [.int cd_8, .ref cn, .ref ia, .ref dr, .ref en, .ref la, .ref wo, .int ni_8, .ref op, .ref mk, .ref ir, .int dn, .int md, .int pw_8, .int cm_8, .int wr_8, .ref se, .ref ec, .ref lc, .ref wc, .ref ol, .ref al, .int cs_8, .int (hm9_8 + 1)]))) := hkl158.self (by simp)
                      have hkl272 : kpx (fun a => a ∈ [mo]) (mu Ml158 mo (.inr (6, [.int cd_3, .ref cn, .ref ia, .ref dr, .ref en, .ref la, .ref wo, .int ni_3, .ref op, .ref mk, .ref ir, .int dn, .int md, .int pw_3, .int cm_3, .int wr_3, .ref se, .ref ec, .ref lc, .ref wc, .ref ol, .ref al, .int cs_3, .int (hm9_3 + 1)]))) (mu Ml272 mo (.inr (6, [.int cd_8, .ref cn, .ref ia, .ref dr, .ref en, .ref la, .ref wo, .int ni_8, .ref op, .ref mk, .ref ir, .int dn, .int md, .int pw_8, .int cm_8, .int wr_8, .ref se, .ref ec, .ref lc, .ref wc, .ref ol, .ref al, .int cs_8, .int (hm9_8 + 1)]))) := hkl272.self (by simp)
                      refine lv_iinc (v := ((nI j272) + 8)) (lv' := [(4, .int ((nI j272) + 8)), (5, .int (nI u25)), (3, .int (nI (3100 + j158))), (2, .int (nI j158)), (1, .int y31_1), (0, .ref mo)]) hx hb dX6_sweep_356 hl (k := 1) rfl rfl (by decide) rfl (fun ls hl => ?_)
                      refine lv_goto (tgt := 272) hx hb dX6_sweep_359 (by decide) ?_
                      rw [nI_8] at hl
                      exact ih272 (j272 + 8, (mu Ml272 mo (.inr (6, [.int cd_8, .ref cn, .ref ia, .ref dr, .ref en, .ref la, .ref wo, .int ni_8, .ref op, .ref mk, .ref ir, .int dn, .int md, .int pw_8, .int cm_8, .int wr_8, .ref se, .ref ec, .ref lc, .ref wc, .ref ol, .ref al, .int cs_8, .int (hm9_8 + 1)])))) _ _ _ ⟨⟨by omega, by omega⟩, ⟨_, _, _, _, _, _, _, fcn, fia, fdr, fen, fla, fwo, fop, fmk, fir, fse, fec, flc, fol, fal_2, fwc, hap, (mu_self _ _ _), hmd, ⟨hrC, hrL, hrM⟩, ((mu_ne ne_cn_mo).trans kcn_8), ((mu_ne ne_ia_mo).trans kia_8), ((mu_ne ne_dr_mo).trans kdr_8), ((mu_ne ne_en_mo).trans ken_8), ((mu_ne ne_la_mo).trans kla_8), ((mu_ne ne_wo_mo).trans kwo_8), ((mu_ne ne_op_mo).trans kop_8), ((mu_ne ne_mk_mo).trans kmk_8), ((mu_ne ne_ir_mo).trans kir_8), ((mu_ne ne_se_mo).trans kse_8), ((mu_ne ne_ec_mo).trans kec_8), ((mu_ne ne_lc_mo).trans klc_8), ((mu_ne ne_wc_mo).trans kwc_8), ((mu_ne ne_ol_mo).trans kol_8), ((mu_ne ne_al_mo).trans kal_8)⟩, hkp, hkl272, hm, hS, lv_sub hl [0, 2, 3, 4, 5] rfl⟩ (by show 2147483648 - (j272 + 8) < 2147483648 - j272; omega)
                    · refine lv_iload hx hb dX6_sweep_336 (lv_at hl 0 rfl) ?_
                      refine lv_aload_n hx hb dX6_sweep_338 rfl (lv_at hl 5 rfl) ?_
                      refine m_get (T := TX6) (N := 24) (ci := 6) (v := .ref ol) hx hb hts wX6 hown hK hm hM_8 rfl 20 (by decide) f61 (fun _ h9 => h9) rfl dX6_sweep_339 ?_
                      refine lv_iload_n hx hb dX6_sweep_342 rfl (lv_at hl 3 rfl) ?_
                      refine m_iald hx hb hK hm 0 kol_8 rfl (vp_in_nI (by omega) (by decide)) dX6_sweep_343 ?_
                      refine lv_icmp_le (tgt := 351) hx hb dX6_sweep_344 (by decide) (fun c29 => ?_) (fun c29 => ?_)
                      · refine lv_iconst (v := 0) hx hb dX6_sweep_351 (by decide) ?_
                        refine lv_iadd hx hb dX6_sweep_352 ?_
                        refine m_put (T := TX6) (N := 24) (ci := 6) (v := .int (hm9_8 + 0)) (ty := .int) hx hb hts wX6 tyX6 tyX6_ok nmX6 hown hK hm hS hM_8 rfl 23 (by decide) f133 (fun _ h9 => h9) rfl (by decide +kernel) rfl rfl (Nat.le_of_ble_eq_true rfl) dX6_sweep_353 (fun H locs hm hS => ?_)
                        have hm : mm D (AZ z) (mu Ml272 mo (.inr (6, [.int cd_8, .ref cn, .ref ia, .ref dr, .ref en, .ref la, .ref wo, .int ni_8, .ref op, .ref mk, .ref ir, .int dn, .int md, .int pw_8, .int cm_8, .int wr_8, .ref se, .ref ec, .ref lc, .ref wc, .ref ol, .ref al, .int cs_8, .int (hm9_8 + 0)]))) H := hm
                        have hkp : kpx (fun a => a ∈ [mo, cn, ia, dr, en, la, wo, op, mk, ir, se, ec, lc, wc, ol, al]) M (mu Ml272 mo (.inr (6, [.int cd_8, .ref cn, .ref ia, .ref dr, .ref en, .ref la, .ref wo, .int ni_8, .ref op, .ref mk, .ref ir, .int dn, .int md, .int pw_8, .int cm_8, .int wr_8, .ref se, .ref ec, .ref lc, .ref wc, .ref ol, .ref al, .int cs_8, .int (hm9_8 + 0)]))) := (hkp).self (by simp)
                        have hkl158 : kpx (fun a => a ∈ [mo]) (mu Ml31 mo (.inr (6, [.int cd, .ref cn, .ref ia, .ref dr, .ref en, .ref la, .ref wo, .int ni, .ref op, .ref mk, .ref ir, .int dn, .int md, .int pw, .int cm, .int wr, .ref se, .ref ec, .ref lc, .ref wc, .ref ol, .ref al, .int cs, .int 0]))) (mu Ml272 mo (.inr (6, [.int cd_8, .ref cn, .ref ia, .ref dr, .ref en, .ref la, .ref wo, .int ni_8, .ref op, .ref mk, .ref ir, .int dn, .int md, .int pw_8, .int cm_8, .int wr_8, .ref se, .ref ec, .ref lc, .ref wc, .ref ol, .ref al, .int cs_8, .int (hm9_8 + 0)]))) := hkl158.self (by simp)
                        have hkl272 : kpx (fun a => a ∈ [mo]) (mu Ml158 mo (.inr (6, [.int cd_3, .ref cn, .ref ia, .ref dr, .ref en, .ref la, .ref wo, .int ni_3, .ref op, .ref mk, .ref ir, .int dn, .int md, .int pw_3, .int cm_3, .int wr_3, .ref se, .ref ec, .ref lc, .ref wc, .ref ol, .ref al, .int cs_3, .int (hm9_3 + 1)]))) (mu Ml272 mo (.inr (6, [.int cd_8, .ref cn, .ref ia, .ref dr, .ref en, .ref la, .ref wo, .int ni_8, .ref op, .ref mk, .ref ir, .int dn, .int md, .int pw_8, .int cm_8, .int wr_8, .ref se, .ref ec, .ref lc, .ref wc, .ref ol, .ref al, .int cs_8, .int (hm9_8 + 0)]))) := hkl272.self (by simp)
                        refine lv_iinc (v := ((nI j272) + 8)) (lv' := [(4, .int ((nI j272) + 8)), (5, .int (nI u25)), (3, .int (nI (3100 + j158))), (2, .int (nI j158)), (1, .int y31_1), (0, .ref mo)]) hx hb dX6_sweep_356 hl (k := 1) rfl rfl (by decide) rfl (fun ls hl => ?_)
                        refine lv_goto (tgt := 272) hx hb dX6_sweep_359 (by decide) ?_
                        rw [nI_8] at hl
                        exact ih272 (j272 + 8, (mu Ml272 mo (.inr (6, [.int cd_8, .ref cn, .ref ia, .ref dr, .ref en, .ref la, .ref wo, .int ni_8, .ref op, .ref mk, .ref ir, .int dn, .int md, .int pw_8, .int cm_8, .int wr_8, .ref se, .ref ec, .ref lc, .ref wc, .ref ol, .ref al, .int cs_8, .int (hm9_8 + 0)])))) _ _ _ ⟨⟨by omega, by omega⟩, ⟨_, _, _, _, _, _, _, fcn, fia, fdr, fen, fla, fwo, fop, fmk, fir, fse, fec, flc, fol, fal_2, fwc, hap, (mu_self _ _ _), hmd, ⟨hrC, hrL, hrM⟩, ((mu_ne ne_cn_mo).trans kcn_8), ((mu_ne ne_ia_mo).trans kia_8), ((mu_ne ne_dr_mo).trans kdr_8), ((mu_ne ne_en_mo).trans ken_8), ((mu_ne ne_la_mo).trans kla_8), ((mu_ne ne_wo_mo).trans kwo_8), ((mu_ne ne_op_mo).trans kop_8), ((mu_ne ne_mk_mo).trans kmk_8), ((mu_ne ne_ir_mo).trans kir_8), ((mu_ne ne_se_mo).trans kse_8), ((mu_ne ne_ec_mo).trans kec_8), ((mu_ne ne_lc_mo).trans klc_8), ((mu_ne ne_wc_mo).trans kwc_8), ((mu_ne ne_ol_mo).trans kol_8), ((mu_ne ne_al_mo).trans kal_8)⟩, hkp, hkl272, hm, hS, lv_sub hl [0, 2, 3, 4, 5] rfl⟩ (by show 2147483648 - (j272 + 8) < 2147483648 - j272; omega)
                      · refine lv_iconst (v := 1) hx hb dX6_sweep_347 (by decide) ?_
                        refine lv_goto (tgt := 352) hx hb dX6_sweep_348 (by decide) ?_
                        refine lv_iadd hx hb dX6_sweep_352 ?_
                        refine m_put (T := TX6) (N := 24) (ci := 6) (v := .int (hm9_8 + 1)) (ty := .int) hx hb hts wX6 tyX6 tyX6_ok nmX6 hown hK hm hS hM_8 rfl 23 (by decide) f133 (fun _ h9 => h9) rfl (by decide +kernel) rfl rfl (Nat.le_of_ble_eq_true rfl) dX6_sweep_353 (fun H locs hm hS => ?_)
                        have hm : mm D (AZ z) (mu Ml272 mo (.inr (6, [.int cd_8, .ref cn, .ref ia, .ref dr, .ref en, .ref la, .ref wo, .int ni_8, .ref op, .ref mk, .ref ir, .int dn, .int md, .int pw_8, .int cm_8, .int wr_8, .ref se, .ref ec, .ref lc, .ref wc, .ref ol, .ref al, .int cs_8, .int (hm9_8 + 1)]))) H := hm
                        have hkp : kpx (fun a => a ∈ [mo, cn, ia, dr, en, la, wo, op, mk, ir, se, ec, lc, wc, ol, al]) M (mu Ml272 mo (.inr (6, [.int cd_8, .ref cn, .ref ia, .ref dr, .ref en, .ref la, .ref wo, .int ni_8, .ref op, .ref mk, .ref ir, .int dn, .int md, .int pw_8, .int cm_8, .int wr_8, .ref se, .ref ec, .ref lc, .ref wc, .ref ol, .ref al, .int cs_8, .int (hm9_8 + 1)]))) := (hkp).self (by simp)
                        have hkl158 : kpx (fun a => a ∈ [mo]) (mu Ml31 mo (.inr (6, [.int cd, .ref cn, .ref ia, .ref dr, .ref en, .ref la, .ref wo, .int ni, .ref op, .ref mk, .ref ir, .int dn, .int md, .int pw, .int cm, .int wr, .ref se, .ref ec, .ref lc, .ref wc, .ref ol, .ref al, .int cs, .int 0]))) (mu Ml272 mo (.inr (6, [.int cd_8, .ref cn, .ref ia, .ref dr, .ref en, .ref la, .ref wo, .int ni_8, .ref op, .ref mk, .ref ir, .int dn, .int md, .int pw_8, .int cm_8, .int wr_8, .ref se, .ref ec, .ref lc, .ref wc, .ref ol, .ref al, .int cs_8, .int (hm9_8 + 1)]))) := hkl158.self (by simp)
                        have hkl272 : kpx (fun a => a ∈ [mo]) (mu Ml158 mo (.inr (6, [.int cd_3, .ref cn, .ref ia, .ref dr, .ref en, .ref la, .ref wo, .int ni_3, .ref op, .ref mk, .ref ir, .int dn, .int md, .int pw_3, .int cm_3, .int wr_3, .ref se, .ref ec, .ref lc, .ref wc, .ref ol, .ref al, .int cs_3, .int (hm9_3 + 1)]))) (mu Ml272 mo (.inr (6, [.int cd_8, .ref cn, .ref ia, .ref dr, .ref en, .ref la, .ref wo, .int ni_8, .ref op, .ref mk, .ref ir, .int dn, .int md, .int pw_8, .int cm_8, .int wr_8, .ref se, .ref ec, .ref lc, .ref wc, .ref ol, .ref al, .int cs_8, .int (hm9_8 + 1)]))) := hkl272.self (by simp)
                        refine lv_iinc (v := ((nI j272) + 8)) (lv' := [(4, .int ((nI j272) + 8)), (5, .int (nI u25)), (3, .int (nI (3100 + j158))), (2, .int (nI j158)), (1, .int y31_1), (0, .ref mo)]) hx hb dX6_sweep_356 hl (k := 1) rfl rfl (by decide) rfl (fun ls hl => ?_)
                        refine lv_goto (tgt := 272) hx hb dX6_sweep_359 (by decide) ?_
                        rw [nI_8] at hl
                        exact ih272 (j272 + 8, (mu Ml272 mo (.inr (6, [.int cd_8, .ref cn, .ref ia, .ref dr, .ref en, .ref la, .ref wo, .int ni_8, .ref op, .ref mk, .ref ir, .int dn, .int md, .int pw_8, .int cm_8, .int wr_8, .ref se, .ref ec, .ref lc, .ref wc, .ref ol, .ref al, .int cs_8, .int (hm9_8 + 1)])))) _ _ _ ⟨⟨by omega, by omega⟩, ⟨_, _, _, _, _, _, _, fcn, fia, fdr, fen, fla, fwo, fop, fmk, fir, fse, fec, flc, fol, fal_2, fwc, hap, (mu_self _ _ _), hmd, ⟨hrC, hrL, hrM⟩, ((mu_ne ne_cn_mo).trans kcn_8), ((mu_ne ne_ia_mo).trans kia_8), ((mu_ne ne_dr_mo).trans kdr_8), ((mu_ne ne_en_mo).trans ken_8), ((mu_ne ne_la_mo).trans kla_8), ((mu_ne ne_wo_mo).trans kwo_8), ((mu_ne ne_op_mo).trans kop_8), ((mu_ne ne_mk_mo).trans kmk_8), ((mu_ne ne_ir_mo).trans kir_8), ((mu_ne ne_se_mo).trans kse_8), ((mu_ne ne_ec_mo).trans kec_8), ((mu_ne ne_lc_mo).trans klc_8), ((mu_ne ne_wc_mo).trans kwc_8), ((mu_ne ne_ol_mo).trans kol_8), ((mu_ne ne_al_mo).trans kal_8)⟩, hkp, hkl272, hm, hS, lv_sub hl [0, 2, 3, 4, 5] rfl⟩ (by show 2147483648 - (j272 + 8) < 2147483648 - j272; omega)
                  · have hqc27 : (j272 + 8) < u25 := nb_nle (a := u25) (b := (j272 + 8)) (by omega) (by omega) c27
                    refine lv_iload hx hb dX6_sweep_297 (lv_at hl 0 rfl) ?_
                    refine lv_bipush (v := 8) hx hb dX6_sweep_299 (by decide) ?_
                    refine lv_iadd hx hb dX6_sweep_301 ?_
                    refine W.eq (g2 := F0 m 302 ls [.int (nI (j272 + 8))]) (by rw [show (((nI j272)) + (8) : Int32) = nI (j272 + 8) from nI_add j272 8]) ?_
                    refine lv_goto (tgt := 311) hx hb dX6_sweep_302 (by decide) ?_
                    refine lv_istore (lv' := [(5, .int (nI (j272 + 8))), (4, .int (nI j272)), (3, .int (nI (3100 + j158))), (2, .int (nI j158)), (1, .int y31_1), (0, .ref mo)]) hx hb dX6_sweep_311 hl (by decide) rfl (fun ls hl => ?_)
                    refine lv_aload_n hx hb dX6_sweep_313 rfl (lv_at hl 5 rfl) ?_
                    refine lv_dup hx hb dX6_sweep_314 rfl ?_
                    refine m_get (T := TX6) (N := 24) (ci := 6) (v := .int hm9_8) hx hb hts wX6 hown hK hm hM_8 rfl 23 (by decide) f133 (fun _ h9 => h9) rfl dX6_sweep_315 ?_
                    refine lv_aload_n hx hb dX6_sweep_318 rfl (lv_at hl 5 rfl) ?_
                    refine m_get (T := TX6) (N := 24) (ci := 6) (v := .ref wc) hx hb hts wX6 hown hK hm hM_8 rfl 19 (by decide) f57 (fun _ h9 => h9) rfl dX6_sweep_319 ?_
                    refine lv_iload_n hx hb dX6_sweep_322 rfl (lv_at hl 3 rfl) ?_
                    refine m_lald hx hb hK hm 1 kwc_8 rfl (vp_in_nI (by omega) (by decide)) dX6_sweep_323 ?_
                    refine lv_iload hx hb dX6_sweep_324 (lv_at hl 1 rfl) ?_
                    refine lv_lushr (v := (us (fwc ((nI j158)).toNatClampNeg) (nI j272))) hx hb dX6_sweep_326 rfl ?_
                    refine lv_ldc2 hx hb hown (hts (.constantLong RX6 136 (255)) (by decide +kernel)) dX6_sweep_327 ?_
                    refine lv_land hx hb dX6_sweep_330 ?_
                    refine lv_lconst (v := 0) hx hb dX6_sweep_331 (by decide) ?_
                    refine W.lcmp hx hb dX6_sweep_332 ?_
                    refine lv_if_ne (tgt := 347) hx hb dX6_sweep_333 (by decide) (fun c30 => ?_) (fun c30 => ?_)
                    · refine lv_iconst (v := 1) hx hb dX6_sweep_347 (by decide) ?_
                      refine lv_goto (tgt := 352) hx hb dX6_sweep_348 (by decide) ?_
                      refine lv_iadd hx hb dX6_sweep_352 ?_
                      refine m_put (T := TX6) (N := 24) (ci := 6) (v := .int (hm9_8 + 1)) (ty := .int) hx hb hts wX6 tyX6 tyX6_ok nmX6 hown hK hm hS hM_8 rfl 23 (by decide) f133 (fun _ h9 => h9) rfl (by decide +kernel) rfl rfl (Nat.le_of_ble_eq_true rfl) dX6_sweep_353 (fun H locs hm hS => ?_)
                      have hm : mm D (AZ z) (mu Ml272 mo (.inr (6, [.int cd_8, .ref cn, .ref ia, .ref dr, .ref en, .ref la, .ref wo, .int ni_8, .ref op, .ref mk, .ref ir, .int dn, .int md, .int pw_8, .int cm_8, .int wr_8, .ref se, .ref ec, .ref lc, .ref wc, .ref ol, .ref al, .int cs_8, .int (hm9_8 + 1)]))) H := hm
                      have hkp : kpx (fun a => a ∈ [mo, cn, ia, dr, en, la, wo, op, mk, ir, se, ec, lc, wc, ol, al]) M (mu Ml272 mo (.inr (6, [.int cd_8, .ref cn, .ref ia, .ref dr, .ref en, .ref la, .ref wo, .int ni_8, .ref op, .ref mk, .ref ir, .int dn, .int md, .int pw_8, .int cm_8, .int wr_8, .ref se, .ref ec, .ref lc, .ref wc, .ref ol, .ref al, .int cs_8, .int (hm9_8 + 1)]))) := (hkp).self (by simp)
                      have hkl158 : kpx (fun a => a ∈ [mo]) (mu Ml31 mo (.inr (6, [.int cd, .ref cn, .ref ia, .ref dr, .ref en, .ref la, .ref wo, .int ni, .ref op, .ref mk, .ref ir, .int dn, .int md, .int pw, .int cm, .int wr, .ref se, .ref ec, .ref lc, .ref wc, .ref ol, .ref al, .int cs, .int 0]))) (mu Ml272 mo (.inr (6, [.int cd_8, .ref cn, .ref ia, .ref dr, .ref en, .ref la, .ref wo, .int ni_8, .ref op, .ref mk, .ref ir, .int dn, .int md, .int pw_8, .int cm_8, .int wr_8, .ref se, .ref ec, .ref lc, .ref wc, .ref ol, .ref al, .int cs_8, .int (hm9_8 + 1)]))) := hkl158.self (by simp)
                      have hkl272 : kpx (fun a => a ∈ [mo]) (mu Ml158 mo (.inr (6, [.int cd_3, .ref cn, .ref ia, .ref dr, .ref en, .ref la, .ref wo, .int ni_3, .ref op, .ref mk, .ref ir, .int dn, .int md, .int pw_3, .int cm_3, .int wr_3, .ref se, .ref ec, .ref lc, .ref wc, .ref ol, .ref al, .int cs_3, .int (hm9_3 + 1)]))) (mu Ml272 mo (.inr (6, [.int cd_8, .ref cn, .ref ia, .ref dr, .ref en, .ref la, .ref wo, .int ni_8, .ref op, .ref mk, .ref ir, .int dn, .int md, .int pw_8, .int cm_8, .int wr_8, .ref se, .ref ec, .ref lc, .ref wc, .ref ol, .ref al, .int cs_8, .int (hm9_8 + 1)]))) := hkl272.self (by simp)
                      refine lv_iinc (v := ((nI j272) + 8)) (lv' := [(4, .int ((nI j272) + 8)), (5, .int (nI (j272 + 8))), (3, .int (nI (3100 + j158))), (2, .int (nI j158)), (1, .int y31_1), (0, .ref mo)]) hx hb dX6_sweep_356 hl (k := 1) rfl rfl (by decide) rfl (fun ls hl => ?_)
                      refine lv_goto (tgt := 272) hx hb dX6_sweep_359 (by decide) ?_
                      rw [nI_8] at hl
                      exact ih272 (j272 + 8, (mu Ml272 mo (.inr (6, [.int cd_8, .ref cn, .ref ia, .ref dr, .ref en, .ref la, .ref wo, .int ni_8, .ref op, .ref mk, .ref ir, .int dn, .int md, .int pw_8, .int cm_8, .int wr_8, .ref se, .ref ec, .ref lc, .ref wc, .ref ol, .ref al, .int cs_8, .int (hm9_8 + 1)])))) _ _ _ ⟨⟨by omega, by omega⟩, ⟨_, _, _, _, _, _, _, fcn, fia, fdr, fen, fla, fwo, fop, fmk, fir, fse, fec, flc, fol, fal_2, fwc, hap, (mu_self _ _ _), hmd, ⟨hrC, hrL, hrM⟩, ((mu_ne ne_cn_mo).trans kcn_8), ((mu_ne ne_ia_mo).trans kia_8), ((mu_ne ne_dr_mo).trans kdr_8), ((mu_ne ne_en_mo).trans ken_8), ((mu_ne ne_la_mo).trans kla_8), ((mu_ne ne_wo_mo).trans kwo_8), ((mu_ne ne_op_mo).trans kop_8), ((mu_ne ne_mk_mo).trans kmk_8), ((mu_ne ne_ir_mo).trans kir_8), ((mu_ne ne_se_mo).trans kse_8), ((mu_ne ne_ec_mo).trans kec_8), ((mu_ne ne_lc_mo).trans klc_8), ((mu_ne ne_wc_mo).trans kwc_8), ((mu_ne ne_ol_mo).trans kol_8), ((mu_ne ne_al_mo).trans kal_8)⟩, hkp, hkl272, hm, hS, lv_sub hl [0, 2, 3, 4, 5] rfl⟩ (by show 2147483648 - (j272 + 8) < 2147483648 - j272; omega)
                    · refine lv_iload hx hb dX6_sweep_336 (lv_at hl 0 rfl) ?_
                      refine lv_aload_n hx hb dX6_sweep_338 rfl (lv_at hl 5 rfl) ?_
                      refine m_get (T := TX6) (N := 24) (ci := 6) (v := .ref ol) hx hb hts wX6 hown hK hm hM_8 rfl 20 (by decide) f61 (fun _ h9 => h9) rfl dX6_sweep_339 ?_
                      refine lv_iload_n hx hb dX6_sweep_342 rfl (lv_at hl 3 rfl) ?_
                      refine m_iald hx hb hK hm 0 kol_8 rfl (vp_in_nI (by omega) (by decide)) dX6_sweep_343 ?_
                      refine lv_icmp_le (tgt := 351) hx hb dX6_sweep_344 (by decide) (fun c31 => ?_) (fun c31 => ?_)
                      · refine lv_iconst (v := 0) hx hb dX6_sweep_351 (by decide) ?_
                        refine lv_iadd hx hb dX6_sweep_352 ?_
                        refine m_put (T := TX6) (N := 24) (ci := 6) (v := .int (hm9_8 + 0)) (ty := .int) hx hb hts wX6 tyX6 tyX6_ok nmX6 hown hK hm hS hM_8 rfl 23 (by decide) f133 (fun _ h9 => h9) rfl (by decide +kernel) rfl rfl (Nat.le_of_ble_eq_true rfl) dX6_sweep_353 (fun H locs hm hS => ?_)
                        have hm : mm D (AZ z) (mu Ml272 mo (.inr (6, [.int cd_8, .ref cn, .ref ia, .ref dr, .ref en, .ref la, .ref wo, .int ni_8, .ref op, .ref mk, .ref ir, .int dn, .int md, .int pw_8, .int cm_8, .int wr_8, .ref se, .ref ec, .ref lc, .ref wc, .ref ol, .ref al, .int cs_8, .int (hm9_8 + 0)]))) H := hm
                        have hkp : kpx (fun a => a ∈ [mo, cn, ia, dr, en, la, wo, op, mk, ir, se, ec, lc, wc, ol, al]) M (mu Ml272 mo (.inr (6, [.int cd_8, .ref cn, .ref ia, .ref dr, .ref en, .ref la, .ref wo, .int ni_8, .ref op, .ref mk, .ref ir, .int dn, .int md, .int pw_8, .int cm_8, .int wr_8, .ref se, .ref ec, .ref lc, .ref wc, .ref ol, .ref al, .int cs_8, .int (hm9_8 + 0)]))) := (hkp).self (by simp)
                        have hkl158 : kpx (fun a => a ∈ [mo]) (mu Ml31 mo (.inr (6, [.int cd, .ref cn, .ref ia, .ref dr, .ref en, .ref la, .ref wo, .int ni, .ref op, .ref mk, .ref ir, .int dn, .int md, .int pw, .int cm, .int wr, .ref se, .ref ec, .ref lc, .ref wc, .ref ol, .ref al, .int cs, .int 0]))) (mu Ml272 mo (.inr (6, [.int cd_8, .ref cn, .ref ia, .ref dr, .ref en, .ref la, .ref wo, .int ni_8, .ref op, .ref mk, .ref ir, .int dn, .int md, .int pw_8, .int cm_8, .int wr_8, .ref se, .ref ec, .ref lc, .ref wc, .ref ol, .ref al, .int cs_8, .int (hm9_8 + 0)]))) := hkl158.self (by simp)
                        have hkl272 : kpx (fun a => a ∈ [mo]) (mu Ml158 mo (.inr (6, [.int cd_3, .ref cn, .ref ia, .ref dr, .ref en, .ref la, .ref wo, .int ni_3, .ref op, .ref mk, .ref ir, .int dn, .int md, .int pw_3, .int cm_3, .int wr_3, .ref se, .ref ec, .ref lc, .ref wc, .ref ol, .ref al, .int cs_3, .int (hm9_3 + 1)]))) (mu Ml272 mo (.inr (6, [.int cd_8, .ref cn, .ref ia, .ref dr, .ref en, .ref la, .ref wo, .int ni_8, .ref op, .ref mk, .ref ir, .int dn, .int md, .int pw_8, .int cm_8, .int wr_8, .ref se, .ref ec, .ref lc, .ref wc, .ref ol, .ref al, .int cs_8, .int (hm9_8 + 0)]))) := hkl272.self (by simp)
                        refine lv_iinc (v := ((nI j272) + 8)) (lv' := [(4, .int ((nI j272) + 8)), (5, .int (nI (j272 + 8))), (3, .int (nI (3100 + j158))), (2, .int (nI j158)), (1, .int y31_1), (0, .ref mo)]) hx hb dX6_sweep_356 hl (k := 1) rfl rfl (by decide) rfl (fun ls hl => ?_)
                        refine lv_goto (tgt := 272) hx hb dX6_sweep_359 (by decide) ?_
                        rw [nI_8] at hl
                        exact ih272 (j272 + 8, (mu Ml272 mo (.inr (6, [.int cd_8, .ref cn, .ref ia, .ref dr, .ref en, .ref la, .ref wo, .int ni_8, .ref op, .ref mk, .ref ir, .int dn, .int md, .int pw_8, .int cm_8, .int wr_8, .ref se, .ref ec, .ref lc, .ref wc, .ref ol, .ref al, .int cs_8, .int (hm9_8 + 0)])))) _ _ _ ⟨⟨by omega, by omega⟩, ⟨_, _, _, _, _, _, _, fcn, fia, fdr, fen, fla, fwo, fop, fmk, fir, fse, fec, flc, fol, fal_2, fwc, hap, (mu_self _ _ _), hmd, ⟨hrC, hrL, hrM⟩, ((mu_ne ne_cn_mo).trans kcn_8), ((mu_ne ne_ia_mo).trans kia_8), ((mu_ne ne_dr_mo).trans kdr_8), ((mu_ne ne_en_mo).trans ken_8), ((mu_ne ne_la_mo).trans kla_8), ((mu_ne ne_wo_mo).trans kwo_8), ((mu_ne ne_op_mo).trans kop_8), ((mu_ne ne_mk_mo).trans kmk_8), ((mu_ne ne_ir_mo).trans kir_8), ((mu_ne ne_se_mo).trans kse_8), ((mu_ne ne_ec_mo).trans kec_8), ((mu_ne ne_lc_mo).trans klc_8), ((mu_ne ne_wc_mo).trans kwc_8), ((mu_ne ne_ol_mo).trans kol_8), ((mu_ne ne_al_mo).trans kal_8)⟩, hkp, hkl272, hm, hS, lv_sub hl [0, 2, 3, 4, 5] rfl⟩ (by show 2147483648 - (j272 + 8) < 2147483648 - j272; omega)
                      · refine lv_iconst (v := 1) hx hb dX6_sweep_347 (by decide) ?_
                        refine lv_goto (tgt := 352) hx hb dX6_sweep_348 (by decide) ?_
                        refine lv_iadd hx hb dX6_sweep_352 ?_
                        refine m_put (T := TX6) (N := 24) (ci := 6) (v := .int (hm9_8 + 1)) (ty := .int) hx hb hts wX6 tyX6 tyX6_ok nmX6 hown hK hm hS hM_8 rfl 23 (by decide) f133 (fun _ h9 => h9) rfl (by decide +kernel) rfl rfl (Nat.le_of_ble_eq_true rfl) dX6_sweep_353 (fun H locs hm hS => ?_)
                        have hm : mm D (AZ z) (mu Ml272 mo (.inr (6, [.int cd_8, .ref cn, .ref ia, .ref dr, .ref en, .ref la, .ref wo, .int ni_8, .ref op, .ref mk, .ref ir, .int dn, .int md, .int pw_8, .int cm_8, .int wr_8, .ref se, .ref ec, .ref lc, .ref wc, .ref ol, .ref al, .int cs_8, .int (hm9_8 + 1)]))) H := hm
                        have hkp : kpx (fun a => a ∈ [mo, cn, ia, dr, en, la, wo, op, mk, ir, se, ec, lc, wc, ol, al]) M (mu Ml272 mo (.inr (6, [.int cd_8, .ref cn, .ref ia, .ref dr, .ref en, .ref la, .ref wo, .int ni_8, .ref op, .ref mk, .ref ir, .int dn, .int md, .int pw_8, .int cm_8, .int wr_8, .ref se, .ref ec, .ref lc, .ref wc, .ref ol, .ref al, .int cs_8, .int (hm9_8 + 1)]))) := (hkp).self (by simp)
                        have hkl158 : kpx (fun a => a ∈ [mo]) (mu Ml31 mo (.inr (6, [.int cd, .ref cn, .ref ia, .ref dr, .ref en, .ref la, .ref wo, .int ni, .ref op, .ref mk, .ref ir, .int dn, .int md, .int pw, .int cm, .int wr, .ref se, .ref ec, .ref lc, .ref wc, .ref ol, .ref al, .int cs, .int 0]))) (mu Ml272 mo (.inr (6, [.int cd_8, .ref cn, .ref ia, .ref dr, .ref en, .ref la, .ref wo, .int ni_8, .ref op, .ref mk, .ref ir, .int dn, .int md, .int pw_8, .int cm_8, .int wr_8, .ref se, .ref ec, .ref lc, .ref wc, .ref ol, .ref al, .int cs_8, .int (hm9_8 + 1)]))) := hkl158.self (by simp)
                        have hkl272 : kpx (fun a => a ∈ [mo]) (mu Ml158 mo (.inr (6, [.int cd_3, .ref cn, .ref ia, .ref dr, .ref en, .ref la, .ref wo, .int ni_3, .ref op, .ref mk, .ref ir, .int dn, .int md, .int pw_3, .int cm_3, .int wr_3, .ref se, .ref ec, .ref lc, .ref wc, .ref ol, .ref al, .int cs_3, .int (hm9_3 + 1)]))) (mu Ml272 mo (.inr (6, [.int cd_8, .ref cn, .ref ia, .ref dr, .ref en, .ref la, .ref wo, .int ni_8, .ref op, .ref mk, .ref ir, .int dn, .int md, .int pw_8, .int cm_8, .int wr_8, .ref se, .ref ec, .ref lc, .ref wc, .ref ol, .ref al, .int cs_8, .int (hm9_8 + 1)]))) := hkl272.self (by simp)
                        refine lv_iinc (v := ((nI j272) + 8)) (lv' := [(4, .int ((nI j272) + 8)), (5, .int (nI (j272 + 8))), (3, .int (nI (3100 + j158))), (2, .int (nI j158)), (1, .int y31_1), (0, .ref mo)]) hx hb dX6_sweep_356 hl (k := 1) rfl rfl (by decide) rfl (fun ls hl => ?_)
                        refine lv_goto (tgt := 272) hx hb dX6_sweep_359 (by decide) ?_
                        rw [nI_8] at hl
                        exact ih272 (j272 + 8, (mu Ml272 mo (.inr (6, [.int cd_8, .ref cn, .ref ia, .ref dr, .ref en, .ref la, .ref wo, .int ni_8, .ref op, .ref mk, .ref ir, .int dn, .int md, .int pw_8, .int cm_8, .int wr_8, .ref se, .ref ec, .ref lc, .ref wc, .ref ol, .ref al, .int cs_8, .int (hm9_8 + 1)])))) _ _ _ ⟨⟨by omega, by omega⟩, ⟨_, _, _, _, _, _, _, fcn, fia, fdr, fen, fla, fwo, fop, fmk, fir, fse, fec, flc, fol, fal_2, fwc, hap, (mu_self _ _ _), hmd, ⟨hrC, hrL, hrM⟩, ((mu_ne ne_cn_mo).trans kcn_8), ((mu_ne ne_ia_mo).trans kia_8), ((mu_ne ne_dr_mo).trans kdr_8), ((mu_ne ne_en_mo).trans ken_8), ((mu_ne ne_la_mo).trans kla_8), ((mu_ne ne_wo_mo).trans kwo_8), ((mu_ne ne_op_mo).trans kop_8), ((mu_ne ne_mk_mo).trans kmk_8), ((mu_ne ne_ir_mo).trans kir_8), ((mu_ne ne_se_mo).trans kse_8), ((mu_ne ne_ec_mo).trans kec_8), ((mu_ne ne_lc_mo).trans klc_8), ((mu_ne ne_wc_mo).trans kwc_8), ((mu_ne ne_ol_mo).trans kol_8), ((mu_ne ne_al_mo).trans kal_8)⟩, hkp, hkl272, hm, hS, lv_sub hl [0, 2, 3, 4, 5] rfl⟩ (by show 2147483648 - (j272 + 8) < 2147483648 - j272; omega)
        · refine lv_aload_n hx hb dX6_sweep_184 rfl (lv_at hl 3 rfl) ?_
          refine m_get (T := TX6) (N := 24) (ci := 6) (v := .ref dr) hx hb hts wX6 hown hK hm hM_3 rfl 3 (by decide) f16 (fun _ h9 => h9) rfl dX6_sweep_185 ?_
          refine lv_iload_n hx hb dX6_sweep_188 rfl (lv_at hl 0 rfl) ?_
          refine m_zald hx hb hK hm 2 kdr_3 rfl (vp_in_nI (by omega) (by decide)) dX6_sweep_189 ?_
          refine lv_if_eq (tgt := 228) hx hb dX6_sweep_190 (by decide) (fun c32 => ?_) (fun c32 => ?_)
          · refine lv_aload_n hx hb dX6_sweep_228 rfl (lv_at hl 3 rfl) ?_
            refine m_get (T := TX6) (N := 24) (ci := 6) (v := .ref al) hx hb hts wX6 hown hK hm hM_3 rfl 21 (by decide) f64 (fun _ h9 => h9) rfl dX6_sweep_229 ?_
            refine lv_iload_n hx hb dX6_sweep_232 rfl (lv_at hl 1 rfl) ?_
            refine m_zald hx hb hK hm 2 kal_3 rfl (vp_in_nI (by omega) (by decide)) dX6_sweep_233 ?_
            refine lv_if_eq (tgt := 362) hx hb dX6_sweep_234 (by decide) (fun c33 => ?_) (fun c33 => ?_)
            · refine lv_iinc (v := ((nI j158) + 1)) (lv' := [(2, .int ((nI j158) + 1)), (3, .int (nI (3100 + j158))), (1, .int y31_1), (0, .ref mo)]) hx hb dX6_sweep_362 hl (k := 1) rfl rfl (by decide) rfl (fun ls hl => ?_)
              refine lv_goto (tgt := 158) hx hb dX6_sweep_365 (by decide) ?_
              rw [nI_1] at hl
              exact ih158 (j158 + 1, Ml158) _ _ _ ⟨⟨by omega, by omega⟩, ⟨_, _, _, _, _, _, _, fcn, fia, fdr, fen, fla, fwo, fop, fmk, fir, fse, fec, flc, fol, fal_2, fwc, hap, hM_3, hmd, ⟨hrC, hrL, hrM⟩, kcn_3, kia_3, kdr_3, ken_3, kla_3, kwo_3, kop_3, kmk_3, kir_3, kse_3, kec_3, klc_3, kwc_3, kol_3, kal_3⟩, hkp, hkl158, hm, hS, lv_sub hl [0, 2, 3] rfl⟩ (by show 2147483648 - (j158 + 1) < 2147483648 - j158; omega)
            · refine lv_aload_n hx hb dX6_sweep_237 rfl (lv_at hl 3 rfl) ?_
              refine lv_dup hx hb dX6_sweep_238 rfl ?_
              refine m_get (T := TX6) (N := 24) (ci := 6) (v := .int hm9_3) hx hb hts wX6 hown hK hm hM_3 rfl 23 (by decide) f133 (fun _ h9 => h9) rfl dX6_sweep_239 ?_
              refine lv_aload_n hx hb dX6_sweep_242 rfl (lv_at hl 3 rfl) ?_
              refine m_get (T := TX6) (N := 24) (ci := 6) (v := .ref se) hx hb hts wX6 hown hK hm hM_3 rfl 16 (by decide) f48 (fun _ h9 => h9) rfl dX6_sweep_243 ?_
              refine lv_iload_n hx hb dX6_sweep_246 rfl (lv_at hl 1 rfl) ?_
              refine m_zald hx hb hK hm 2 kse_3 rfl (vp_in_nI (by omega) (by decide)) dX6_sweep_247 ?_
              refine lv_if_ne (tgt := 260) hx hb dX6_sweep_248 (by decide) (fun c34 => ?_) (fun c34 => ?_)
              · refine lv_iconst (v := 1) hx hb dX6_sweep_260 (by decide) ?_
                refine lv_goto (tgt := 265) hx hb dX6_sweep_261 (by decide) ?_
                refine lv_iadd hx hb dX6_sweep_265 ?_
                refine m_put (T := TX6) (N := 24) (ci := 6) (v := .int (hm9_3 + 1)) (ty := .int) hx hb hts wX6 tyX6 tyX6_ok nmX6 hown hK hm hS hM_3 rfl 23 (by decide) f133 (fun _ h9 => h9) rfl (by decide +kernel) rfl rfl (Nat.le_of_ble_eq_true rfl) dX6_sweep_266 (fun H locs hm hS => ?_)
                have hm : mm D (AZ z) (mu Ml158 mo (.inr (6, [.int cd_3, .ref cn, .ref ia, .ref dr, .ref en, .ref la, .ref wo, .int ni_3, .ref op, .ref mk, .ref ir, .int dn, .int md, .int pw_3, .int cm_3, .int wr_3, .ref se, .ref ec, .ref lc, .ref wc, .ref ol, .ref al, .int cs_3, .int (hm9_3 + 1)]))) H := hm
                have hkp : kpx (fun a => a ∈ [mo, cn, ia, dr, en, la, wo, op, mk, ir, se, ec, lc, wc, ol, al]) M (mu Ml158 mo (.inr (6, [.int cd_3, .ref cn, .ref ia, .ref dr, .ref en, .ref la, .ref wo, .int ni_3, .ref op, .ref mk, .ref ir, .int dn, .int md, .int pw_3, .int cm_3, .int wr_3, .ref se, .ref ec, .ref lc, .ref wc, .ref ol, .ref al, .int cs_3, .int (hm9_3 + 1)]))) := (hkp).self (by simp)
                have hkl158 : kpx (fun a => a ∈ [mo]) (mu Ml31 mo (.inr (6, [.int cd, .ref cn, .ref ia, .ref dr, .ref en, .ref la, .ref wo, .int ni, .ref op, .ref mk, .ref ir, .int dn, .int md, .int pw, .int cm, .int wr, .ref se, .ref ec, .ref lc, .ref wc, .ref ol, .ref al, .int cs, .int 0]))) (mu Ml158 mo (.inr (6, [.int cd_3, .ref cn, .ref ia, .ref dr, .ref en, .ref la, .ref wo, .int ni_3, .ref op, .ref mk, .ref ir, .int dn, .int md, .int pw_3, .int cm_3, .int wr_3, .ref se, .ref ec, .ref lc, .ref wc, .ref ol, .ref al, .int cs_3, .int (hm9_3 + 1)]))) := hkl158.self (by simp)
                refine lv_iconst (v := 0) hx hb dX6_sweep_269 (by decide) ?_
                refine lv_istore (lv' := [(4, .int 0), (3, .int (nI (3100 + j158))), (2, .int (nI j158)), (1, .int y31_1), (0, .ref mo)]) hx hb dX6_sweep_270 hl (by decide) rfl (fun ls hl => ?_)
                have hI0 : mI k (mu Ml158 mo (.inr (6, [.int cd_3, .ref cn, .ref ia, .ref dr, .ref en, .ref la, .ref wo, .int ni_3, .ref op, .ref mk, .ref ir, .int dn, .int md, .int pw_3, .int cm_3, .int wr_3, .ref se, .ref ec, .ref lc, .ref wc, .ref ol, .ref al, .int cs_3, .int (hm9_3 + 1)]))) mo cn ia dr en la wo op mk ir se ec lc wc ol al dn md := ⟨_, _, _, _, _, _, _, fcn, fia, fdr, fen, fla, fwo, fop, fmk, fir, fse, fec, flc, fol, fal_2, fwc, hap, (mu_self _ _ _), hmd, ⟨hrC, hrL, hrM⟩, ((mu_ne ne_cn_mo).trans kcn_3), ((mu_ne ne_ia_mo).trans kia_3), ((mu_ne ne_dr_mo).trans kdr_3), ((mu_ne ne_en_mo).trans ken_3), ((mu_ne ne_la_mo).trans kla_3), ((mu_ne ne_wo_mo).trans kwo_3), ((mu_ne ne_op_mo).trans kop_3), ((mu_ne ne_mk_mo).trans kmk_3), ((mu_ne ne_ir_mo).trans kir_3), ((mu_ne ne_se_mo).trans kse_3), ((mu_ne ne_ec_mo).trans kec_3), ((mu_ne ne_lc_mo).trans klc_3), ((mu_ne ne_wc_mo).trans kwc_3), ((mu_ne ne_ol_mo).trans kol_3), ((mu_ne ne_al_mo).trans kal_3)⟩
                refine W_loop (σ := Nat × mM) (fun ⟨j272, Ml272⟩ H locs ls => (0 ≤ j272 ∧ j272 < 2147483000) ∧ (mI k Ml272 mo cn ia dr en la wo op mk ir se ec lc wc ol al dn md) ∧ (kpx (fun a => a ∈ [mo, cn, ia, dr, en, la, wo, op, mk, ir, se, ec, lc, wc, ol, al]) M Ml272) ∧ (kpx (fun a => a ∈ [mo]) (mu Ml158 mo (.inr (6, [.int cd_3, .ref cn, .ref ia, .ref dr, .ref en, .ref la, .ref wo, .int ni_3, .ref op, .ref mk, .ref ir, .int dn, .int md, .int pw_3, .int cm_3, .int wr_3, .ref se, .ref ec, .ref lc, .ref wc, .ref ol, .ref al, .int cs_3, .int (hm9_3 + 1)]))) Ml272) ∧ mm D (AZ z) Ml272 H ∧ va_S (AZ z) s.heap H locs ∧ lv_has ls 6 [(4, .int (nI j272)), (3, .int (nI (3100 + j158))), (2, .int (nI j158)), (1, .int y31_1), (0, .ref mo)]) (fun ⟨j272, Ml272⟩ => 2147483648 - j272) (fun _ => 0) (fun _ => 0) ?_ (0, (mu Ml158 mo (.inr (6, [.int cd_3, .ref cn, .ref ia, .ref dr, .ref en, .ref la, .ref wo, .int ni_3, .ref op, .ref mk, .ref ir, .int dn, .int md, .int pw_3, .int cm_3, .int wr_3, .ref se, .ref ec, .ref lc, .ref wc, .ref ol, .ref al, .int cs_3, .int (hm9_3 + 1)])))) _ _ _ ⟨⟨Nat.le_refl _, by omega⟩, hI0, hkp, (kpx.refl _ _), hm, hS, lv_sub hl [0, 1, 2, 3, 4] rfl⟩
                intro ⟨j272, Ml272⟩ H locs ls hQ ih272
                obtain ⟨hj272, hI, hkp, hkl272, hm, hS, hl⟩ := hQ
                try dsimp only at hm hl ih272 hj272 hI hkp hkl272 ⊢
                obtain ⟨cd_9, ni_9, pw_9, cm_9, wr_9, cs_9, hm9_9, _, _, _, _, _, _, _, _, _, _, _, _, _, _, _, -, hM_9, hmd_9, ⟨-, -, -⟩, -, -, -, -, -, -, -, -, -, -, -, -, -, -, -⟩ := id hI
                have kcn_9 := hkl272 _ _ (by simp only [List.mem_cons, List.not_mem_nil, or_false, not_or]; exact ne_cn_mo) ((mu_ne ne_cn_mo).trans kcn_3)
                have kia_9 := hkl272 _ _ (by simp only [List.mem_cons, List.not_mem_nil, or_false, not_or]; exact ne_ia_mo) ((mu_ne ne_ia_mo).trans kia_3)
                have kdr_9 := hkl272 _ _ (by simp only [List.mem_cons, List.not_mem_nil, or_false, not_or]; exact ne_dr_mo) ((mu_ne ne_dr_mo).trans kdr_3)
                have ken_9 := hkl272 _ _ (by simp only [List.mem_cons, List.not_mem_nil, or_false, not_or]; exact ne_en_mo) ((mu_ne ne_en_mo).trans ken_3)
                have kla_9 := hkl272 _ _ (by simp only [List.mem_cons, List.not_mem_nil, or_false, not_or]; exact ne_la_mo) ((mu_ne ne_la_mo).trans kla_3)
                have kwo_9 := hkl272 _ _ (by simp only [List.mem_cons, List.not_mem_nil, or_false, not_or]; exact ne_wo_mo) ((mu_ne ne_wo_mo).trans kwo_3)
                have kop_9 := hkl272 _ _ (by simp only [List.mem_cons, List.not_mem_nil, or_false, not_or]; exact ne_op_mo) ((mu_ne ne_op_mo).trans kop_3)
                have kmk_9 := hkl272 _ _ (by simp only [List.mem_cons, List.not_mem_nil, or_false, not_or]; exact ne_mk_mo) ((mu_ne ne_mk_mo).trans kmk_3)
                have kir_9 := hkl272 _ _ (by simp only [List.mem_cons, List.not_mem_nil, or_false, not_or]; exact ne_ir_mo) ((mu_ne ne_ir_mo).trans kir_3)
                have kse_9 := hkl272 _ _ (by simp only [List.mem_cons, List.not_mem_nil, or_false, not_or]; exact ne_se_mo) ((mu_ne ne_se_mo).trans kse_3)
                have kec_9 := hkl272 _ _ (by simp only [List.mem_cons, List.not_mem_nil, or_false, not_or]; exact ne_ec_mo) ((mu_ne ne_ec_mo).trans kec_3)
                have klc_9 := hkl272 _ _ (by simp only [List.mem_cons, List.not_mem_nil, or_false, not_or]; exact ne_lc_mo) ((mu_ne ne_lc_mo).trans klc_3)
                have kwc_9 := hkl272 _ _ (by simp only [List.mem_cons, List.not_mem_nil, or_false, not_or]; exact ne_wc_mo) ((mu_ne ne_wc_mo).trans kwc_3)
                have kol_9 := hkl272 _ _ (by simp only [List.mem_cons, List.not_mem_nil, or_false, not_or]; exact ne_ol_mo) ((mu_ne ne_ol_mo).trans kol_3)
                have kal_9 := hkl272 _ _ (by simp only [List.mem_cons, List.not_mem_nil, or_false, not_or]; exact ne_al_mo) ((mu_ne ne_al_mo).trans kal_3)
                have hkl158 := hkl158.trans (hkl272.mono (fun a ha => by simp only [List.mem_cons, List.not_mem_nil, or_false] at ha ⊢; subst ha; simp))
                refine lv_iload hx hb dX6_sweep_272 (lv_at hl 0 rfl) ?_
                refine lv_aload_n hx hb dX6_sweep_274 rfl (lv_at hl 4 rfl) ?_
                refine m_get (T := TX6) (N := 24) (ci := 6) (v := .ref la) hx hb hts wX6 hown hK hm hM_9 rfl 5 (by decide) f24 (fun _ h9 => h9) rfl dX6_sweep_275 ?_
                refine lv_iload_n hx hb dX6_sweep_278 rfl (lv_at hl 1 rfl) ?_
                refine m_iald hx hb hK hm 0 kla_9 rfl (vp_in_nI (by omega) (by decide)) dX6_sweep_279 ?_
                obtain ⟨u35, hu35, eu35⟩ := hrL (3100 + j158)
                refine W.eq (g2 := F0 m 280 ls [.int (nI u35), .int (nI j272)]) (by rw [show (fla ((nI (3100 + j158))).toNatClampNeg) = nI u35 from (congrArg fla (show ((nI (3100 + j158))).toNatClampNeg = (3100 + j158) from nI_clamp (by omega))).trans eu35]) ?_
                have hb_u35 := hu35
                have hu35 : u35 ≤ 64 := hu35
                refine lv_icmp_ge (tgt := 362) hx hb dX6_sweep_280 (by decide) (fun c36 => ?_) (fun c36 => ?_)
                · have hqc36 : u35 ≤ j272 := nb_le (a := u35) (b := j272) (by omega) (by omega) c36
                  refine lv_iinc (v := ((nI j158) + 1)) (lv' := [(2, .int ((nI j158) + 1)), (4, .int (nI j272)), (3, .int (nI (3100 + j158))), (1, .int y31_1), (0, .ref mo)]) hx hb dX6_sweep_362 hl (k := 2) rfl rfl (by decide) rfl (fun ls hl => ?_)
                  refine lv_goto (tgt := 158) hx hb dX6_sweep_365 (by decide) ?_
                  rw [nI_1] at hl
                  exact ih158 (j158 + 1, Ml272) _ _ _ ⟨⟨by omega, by omega⟩, ⟨_, _, _, _, _, _, _, fcn, fia, fdr, fen, fla, fwo, fop, fmk, fir, fse, fec, flc, fol, fal_2, fwc, hap, hM_9, hmd, ⟨hrC, hrL, hrM⟩, kcn_9, kia_9, kdr_9, ken_9, kla_9, kwo_9, kop_9, kmk_9, kir_9, kse_9, kec_9, klc_9, kwc_9, kol_9, kal_9⟩, hkp, hkl158, hm, hS, lv_sub hl [0, 3, 4] rfl⟩ (by show 2147483648 - (j158 + 1) < 2147483648 - j158; omega)
                · have hqc36 : j272 < u35 := nb_nle (a := u35) (b := j272) (by omega) (by omega) c36
                  refine lv_iload hx hb dX6_sweep_283 (lv_at hl 0 rfl) ?_
                  refine lv_bipush (v := 8) hx hb dX6_sweep_285 (by decide) ?_
                  refine lv_iadd hx hb dX6_sweep_287 ?_
                  refine W.eq (g2 := F0 m 288 ls [.int (nI (j272 + 8))]) (by rw [show (((nI j272)) + (8) : Int32) = nI (j272 + 8) from nI_add j272 8]) ?_
                  refine lv_aload_n hx hb dX6_sweep_288 rfl (lv_at hl 4 rfl) ?_
                  refine m_get (T := TX6) (N := 24) (ci := 6) (v := .ref la) hx hb hts wX6 hown hK hm hM_9 rfl 5 (by decide) f24 (fun _ h9 => h9) rfl dX6_sweep_289 ?_
                  refine lv_iload_n hx hb dX6_sweep_292 rfl (lv_at hl 1 rfl) ?_
                  refine m_iald hx hb hK hm 0 kla_9 rfl (vp_in_nI (by omega) (by decide)) dX6_sweep_293 ?_
                  refine W.eq (g2 := F0 m 294 ls [.int (nI u35), .int (nI (j272 + 8))]) (by rw [show (fla ((nI (3100 + j158))).toNatClampNeg) = nI u35 from (congrArg fla (show ((nI (3100 + j158))).toNatClampNeg = (3100 + j158) from nI_clamp (by omega))).trans eu35]) ?_
                  refine lv_icmp_ge (tgt := 305) hx hb dX6_sweep_294 (by decide) (fun c37 => ?_) (fun c37 => ?_)
                  · have hqc37 : u35 ≤ (j272 + 8) := nb_le (a := u35) (b := (j272 + 8)) (by omega) (by omega) c37
                    refine lv_aload_n hx hb dX6_sweep_305 rfl (lv_at hl 4 rfl) ?_
                    refine m_get (T := TX6) (N := 24) (ci := 6) (v := .ref la) hx hb hts wX6 hown hK hm hM_9 rfl 5 (by decide) f24 (fun _ h9 => h9) rfl dX6_sweep_306 ?_
                    refine lv_iload_n hx hb dX6_sweep_309 rfl (lv_at hl 1 rfl) ?_
                    refine m_iald hx hb hK hm 0 kla_9 rfl (vp_in_nI (by omega) (by decide)) dX6_sweep_310 ?_
                    refine W.eq (g2 := F0 m 311 ls [.int (nI u35)]) (by rw [show (fla ((nI (3100 + j158))).toNatClampNeg) = nI u35 from (congrArg fla (show ((nI (3100 + j158))).toNatClampNeg = (3100 + j158) from nI_clamp (by omega))).trans eu35]) ?_
                    refine lv_istore (lv' := [(5, .int (nI u35)), (4, .int (nI j272)), (3, .int (nI (3100 + j158))), (2, .int (nI j158)), (1, .int y31_1), (0, .ref mo)]) hx hb dX6_sweep_311 hl (by decide) rfl (fun ls hl => ?_)
                    refine lv_aload_n hx hb dX6_sweep_313 rfl (lv_at hl 5 rfl) ?_
                    refine lv_dup hx hb dX6_sweep_314 rfl ?_
                    refine m_get (T := TX6) (N := 24) (ci := 6) (v := .int hm9_9) hx hb hts wX6 hown hK hm hM_9 rfl 23 (by decide) f133 (fun _ h9 => h9) rfl dX6_sweep_315 ?_
                    refine lv_aload_n hx hb dX6_sweep_318 rfl (lv_at hl 5 rfl) ?_
                    refine m_get (T := TX6) (N := 24) (ci := 6) (v := .ref wc) hx hb hts wX6 hown hK hm hM_9 rfl 19 (by decide) f57 (fun _ h9 => h9) rfl dX6_sweep_319 ?_
                    refine lv_iload_n hx hb dX6_sweep_322 rfl (lv_at hl 3 rfl) ?_
                    refine m_lald hx hb hK hm 1 kwc_9 rfl (vp_in_nI (by omega) (by decide)) dX6_sweep_323 ?_
                    refine lv_iload hx hb dX6_sweep_324 (lv_at hl 1 rfl) ?_
                    refine lv_lushr (v := (us (fwc ((nI j158)).toNatClampNeg) (nI j272))) hx hb dX6_sweep_326 rfl ?_
                    refine lv_ldc2 hx hb hown (hts (.constantLong RX6 136 (255)) (by decide +kernel)) dX6_sweep_327 ?_
                    refine lv_land hx hb dX6_sweep_330 ?_
                    refine lv_lconst (v := 0) hx hb dX6_sweep_331 (by decide) ?_
                    refine W.lcmp hx hb dX6_sweep_332 ?_
                    refine lv_if_ne (tgt := 347) hx hb dX6_sweep_333 (by decide) (fun c38 => ?_) (fun c38 => ?_)
                    · refine lv_iconst (v := 1) hx hb dX6_sweep_347 (by decide) ?_
                      refine lv_goto (tgt := 352) hx hb dX6_sweep_348 (by decide) ?_
                      refine lv_iadd hx hb dX6_sweep_352 ?_
                      refine m_put (T := TX6) (N := 24) (ci := 6) (v := .int (hm9_9 + 1)) (ty := .int) hx hb hts wX6 tyX6 tyX6_ok nmX6 hown hK hm hS hM_9 rfl 23 (by decide) f133 (fun _ h9 => h9) rfl (by decide +kernel) rfl rfl (Nat.le_of_ble_eq_true rfl) dX6_sweep_353 (fun H locs hm hS => ?_)
                      have hm : mm D (AZ z) (mu Ml272 mo (.inr (6, [.int cd_9, .ref cn, .ref ia, .ref dr, .ref en, .ref la, .ref wo, .int ni_9, .ref op, .ref mk, .ref ir, .int dn, .int md, .int pw_9, .int cm_9, .int wr_9, .ref se, .ref ec, .ref lc, .ref wc, .ref ol, .ref al, .int cs_9, .int (hm9_9 + 1)]))) H := hm
                      have hkp : kpx (fun a => a ∈ [mo, cn, ia, dr, en, la, wo, op, mk, ir, se, ec, lc, wc, ol, al]) M (mu Ml272 mo (.inr (6, [.int cd_9, .ref cn, .ref ia, .ref dr, .ref en, .ref la, .ref wo, .int ni_9, .ref op, .ref mk, .ref ir, .int dn, .int md, .int pw_9, .int cm_9, .int wr_9, .ref se, .ref ec, .ref lc, .ref wc, .ref ol, .ref al, .int cs_9, .int (hm9_9 + 1)]))) := (hkp).self (by simp)
                      have hkl158 : kpx (fun a => a ∈ [mo]) (mu Ml31 mo (.inr (6, [.int cd, .ref cn, .ref ia, .ref dr, .ref en, .ref la, .ref wo, .int ni, .ref op, .ref mk, .ref ir, .int dn, .int md, .int pw, .int cm, .int wr, .ref se, .ref ec, .ref lc, .ref wc, .ref ol, .ref al, .int cs, .int 0]))) (mu Ml272 mo (.inr (6, [.int cd_9, .ref cn, .ref ia, .ref dr, .ref en, .ref la, .ref wo, .int ni_9, .ref op, .ref mk, .ref ir, .int dn, .int md, .int pw_9, .int cm_9, .int wr_9, .ref se, .ref ec, .ref lc, .ref wc, .ref ol, .ref al, .int cs_9, .int (hm9_9 + 1)]))) := hkl158.self (by simp)
                      have hkl272 : kpx (fun a => a ∈ [mo]) (mu Ml158 mo (.inr (6, [.int cd_3, .ref cn, .ref ia, .ref dr, .ref en, .ref la, .ref wo, .int ni_3, .ref op, .ref mk, .ref ir, .int dn, .int md, .int pw_3, .int cm_3, .int wr_3, .ref se, .ref ec, .ref lc, .ref wc, .ref ol, .ref al, .int cs_3, .int (hm9_3 + 1)]))) (mu Ml272 mo (.inr (6, [.int cd_9, .ref cn, .ref ia, .ref dr, .ref en, .ref la, .ref wo, .int ni_9, .ref op, .ref mk, .ref ir, .int dn, .int md, .int pw_9, .int cm_9, .int wr_9, .ref se, .ref ec, .ref lc, .ref wc, .ref ol, .ref al, .int cs_9, .int (hm9_9 + 1)]))) := hkl272.self (by simp)
                      refine lv_iinc (v := ((nI j272) + 8)) (lv' := [(4, .int ((nI j272) + 8)), (5, .int (nI u35)), (3, .int (nI (3100 + j158))), (2, .int (nI j158)), (1, .int y31_1), (0, .ref mo)]) hx hb dX6_sweep_356 hl (k := 1) rfl rfl (by decide) rfl (fun ls hl => ?_)
                      refine lv_goto (tgt := 272) hx hb dX6_sweep_359 (by decide) ?_
                      rw [nI_8] at hl
                      exact ih272 (j272 + 8, (mu Ml272 mo (.inr (6, [.int cd_9, .ref cn, .ref ia, .ref dr, .ref en, .ref la, .ref wo, .int ni_9, .ref op, .ref mk, .ref ir, .int dn, .int md, .int pw_9, .int cm_9, .int wr_9, .ref se, .ref ec, .ref lc, .ref wc, .ref ol, .ref al, .int cs_9, .int (hm9_9 + 1)])))) _ _ _ ⟨⟨by omega, by omega⟩, ⟨_, _, _, _, _, _, _, fcn, fia, fdr, fen, fla, fwo, fop, fmk, fir, fse, fec, flc, fol, fal_2, fwc, hap, (mu_self _ _ _), hmd, ⟨hrC, hrL, hrM⟩, ((mu_ne ne_cn_mo).trans kcn_9), ((mu_ne ne_ia_mo).trans kia_9), ((mu_ne ne_dr_mo).trans kdr_9), ((mu_ne ne_en_mo).trans ken_9), ((mu_ne ne_la_mo).trans kla_9), ((mu_ne ne_wo_mo).trans kwo_9), ((mu_ne ne_op_mo).trans kop_9), ((mu_ne ne_mk_mo).trans kmk_9), ((mu_ne ne_ir_mo).trans kir_9), ((mu_ne ne_se_mo).trans kse_9), ((mu_ne ne_ec_mo).trans kec_9), ((mu_ne ne_lc_mo).trans klc_9), ((mu_ne ne_wc_mo).trans kwc_9), ((mu_ne ne_ol_mo).trans kol_9), ((mu_ne ne_al_mo).trans kal_9)⟩, hkp, hkl272, hm, hS, lv_sub hl [0, 2, 3, 4, 5] rfl⟩ (by show 2147483648 - (j272 + 8) < 2147483648 - j272; omega)
                    · refine lv_iload hx hb dX6_sweep_336 (lv_at hl 0 rfl) ?_
                      refine lv_aload_n hx hb dX6_sweep_338 rfl (lv_at hl 5 rfl) ?_
                      refine m_get (T := TX6) (N := 24) (ci := 6) (v := .ref ol) hx hb hts wX6 hown hK hm hM_9 rfl 20 (by decide) f61 (fun _ h9 => h9) rfl dX6_sweep_339 ?_
                      refine lv_iload_n hx hb dX6_sweep_342 rfl (lv_at hl 3 rfl) ?_
                      refine m_iald hx hb hK hm 0 kol_9 rfl (vp_in_nI (by omega) (by decide)) dX6_sweep_343 ?_
                      refine lv_icmp_le (tgt := 351) hx hb dX6_sweep_344 (by decide) (fun c39 => ?_) (fun c39 => ?_)
                      · refine lv_iconst (v := 0) hx hb dX6_sweep_351 (by decide) ?_
                        refine lv_iadd hx hb dX6_sweep_352 ?_
                        refine m_put (T := TX6) (N := 24) (ci := 6) (v := .int (hm9_9 + 0)) (ty := .int) hx hb hts wX6 tyX6 tyX6_ok nmX6 hown hK hm hS hM_9 rfl 23 (by decide) f133 (fun _ h9 => h9) rfl (by decide +kernel) rfl rfl (Nat.le_of_ble_eq_true rfl) dX6_sweep_353 (fun H locs hm hS => ?_)
                        have hm : mm D (AZ z) (mu Ml272 mo (.inr (6, [.int cd_9, .ref cn, .ref ia, .ref dr, .ref en, .ref la, .ref wo, .int ni_9, .ref op, .ref mk, .ref ir, .int dn, .int md, .int pw_9, .int cm_9, .int wr_9, .ref se, .ref ec, .ref lc, .ref wc, .ref ol, .ref al, .int cs_9, .int (hm9_9 + 0)]))) H := hm
                        have hkp : kpx (fun a => a ∈ [mo, cn, ia, dr, en, la, wo, op, mk, ir, se, ec, lc, wc, ol, al]) M (mu Ml272 mo (.inr (6, [.int cd_9, .ref cn, .ref ia, .ref dr, .ref en, .ref la, .ref wo, .int ni_9, .ref op, .ref mk, .ref ir, .int dn, .int md, .int pw_9, .int cm_9, .int wr_9, .ref se, .ref ec, .ref lc, .ref wc, .ref ol, .ref al, .int cs_9, .int (hm9_9 + 0)]))) := (hkp).self (by simp)
                        have hkl158 : kpx (fun a => a ∈ [mo]) (mu Ml31 mo (.inr (6, [.int cd, .ref cn, .ref ia, .ref dr, .ref en, .ref la, .ref wo, .int ni, .ref op, .ref mk, .ref ir, .int dn, .int md, .int pw, .int cm, .int wr, .ref se, .ref ec, .ref lc, .ref wc, .ref ol, .ref al, .int cs, .int 0]))) (mu Ml272 mo (.inr (6, [.int cd_9, .ref cn, .ref ia, .ref dr, .ref en, .ref la, .ref wo, .int ni_9, .ref op, .ref mk, .ref ir, .int dn, .int md, .int pw_9, .int cm_9, .int wr_9, .ref se, .ref ec, .ref lc, .ref wc, .ref ol, .ref al, .int cs_9, .int (hm9_9 + 0)]))) := hkl158.self (by simp)
                        have hkl272 : kpx (fun a => a ∈ [mo]) (mu Ml158 mo (.inr (6, [.int cd_3, .ref cn, .ref ia, .ref dr, .ref en, .ref la, .ref wo, .int ni_3, .ref op, .ref mk, .ref ir, .int dn, .int md, .int pw_3, .int cm_3, .int wr_3, .ref se, .ref ec, .ref lc, .ref wc, .ref ol, .ref al, .int cs_3, .int (hm9_3 + 1)]))) (mu Ml272 mo (.inr (6, [.int cd_9, .ref cn, .ref ia, .ref dr, .ref en, .ref la, .ref wo, .int ni_9, .ref op, .ref mk, .ref ir, .int dn, .int md, .int pw_9, .int cm_9, .int wr_9, .ref se, .ref ec, .ref lc, .ref wc, .ref ol, .ref al, .int cs_9, .int (hm9_9 + 0)]))) := hkl272.self (by simp)
                        refine lv_iinc (v := ((nI j272) + 8)) (lv' := [(4, .int ((nI j272) + 8)), (5, .int (nI u35)), (3, .int (nI (3100 + j158))), (2, .int (nI j158)), (1, .int y31_1), (0, .ref mo)]) hx hb dX6_sweep_356 hl (k := 1) rfl rfl (by decide) rfl (fun ls hl => ?_)
                        refine lv_goto (tgt := 272) hx hb dX6_sweep_359 (by decide) ?_
                        rw [nI_8] at hl
                        exact ih272 (j272 + 8, (mu Ml272 mo (.inr (6, [.int cd_9, .ref cn, .ref ia, .ref dr, .ref en, .ref la, .ref wo, .int ni_9, .ref op, .ref mk, .ref ir, .int dn, .int md, .int pw_9, .int cm_9, .int wr_9, .ref se, .ref ec, .ref lc, .ref wc, .ref ol, .ref al, .int cs_9, .int (hm9_9 + 0)])))) _ _ _ ⟨⟨by omega, by omega⟩, ⟨_, _, _, _, _, _, _, fcn, fia, fdr, fen, fla, fwo, fop, fmk, fir, fse, fec, flc, fol, fal_2, fwc, hap, (mu_self _ _ _), hmd, ⟨hrC, hrL, hrM⟩, ((mu_ne ne_cn_mo).trans kcn_9), ((mu_ne ne_ia_mo).trans kia_9), ((mu_ne ne_dr_mo).trans kdr_9), ((mu_ne ne_en_mo).trans ken_9), ((mu_ne ne_la_mo).trans kla_9), ((mu_ne ne_wo_mo).trans kwo_9), ((mu_ne ne_op_mo).trans kop_9), ((mu_ne ne_mk_mo).trans kmk_9), ((mu_ne ne_ir_mo).trans kir_9), ((mu_ne ne_se_mo).trans kse_9), ((mu_ne ne_ec_mo).trans kec_9), ((mu_ne ne_lc_mo).trans klc_9), ((mu_ne ne_wc_mo).trans kwc_9), ((mu_ne ne_ol_mo).trans kol_9), ((mu_ne ne_al_mo).trans kal_9)⟩, hkp, hkl272, hm, hS, lv_sub hl [0, 2, 3, 4, 5] rfl⟩ (by show 2147483648 - (j272 + 8) < 2147483648 - j272; omega)
                      · refine lv_iconst (v := 1) hx hb dX6_sweep_347 (by decide) ?_
                        refine lv_goto (tgt := 352) hx hb dX6_sweep_348 (by decide) ?_
                        refine lv_iadd hx hb dX6_sweep_352 ?_
                        refine m_put (T := TX6) (N := 24) (ci := 6) (v := .int (hm9_9 + 1)) (ty := .int) hx hb hts wX6 tyX6 tyX6_ok nmX6 hown hK hm hS hM_9 rfl 23 (by decide) f133 (fun _ h9 => h9) rfl (by decide +kernel) rfl rfl (Nat.le_of_ble_eq_true rfl) dX6_sweep_353 (fun H locs hm hS => ?_)
                        have hm : mm D (AZ z) (mu Ml272 mo (.inr (6, [.int cd_9, .ref cn, .ref ia, .ref dr, .ref en, .ref la, .ref wo, .int ni_9, .ref op, .ref mk, .ref ir, .int dn, .int md, .int pw_9, .int cm_9, .int wr_9, .ref se, .ref ec, .ref lc, .ref wc, .ref ol, .ref al, .int cs_9, .int (hm9_9 + 1)]))) H := hm
                        have hkp : kpx (fun a => a ∈ [mo, cn, ia, dr, en, la, wo, op, mk, ir, se, ec, lc, wc, ol, al]) M (mu Ml272 mo (.inr (6, [.int cd_9, .ref cn, .ref ia, .ref dr, .ref en, .ref la, .ref wo, .int ni_9, .ref op, .ref mk, .ref ir, .int dn, .int md, .int pw_9, .int cm_9, .int wr_9, .ref se, .ref ec, .ref lc, .ref wc, .ref ol, .ref al, .int cs_9, .int (hm9_9 + 1)]))) := (hkp).self (by simp)
                        have hkl158 : kpx (fun a => a ∈ [mo]) (mu Ml31 mo (.inr (6, [.int cd, .ref cn, .ref ia, .ref dr, .ref en, .ref la, .ref wo, .int ni, .ref op, .ref mk, .ref ir, .int dn, .int md, .int pw, .int cm, .int wr, .ref se, .ref ec, .ref lc, .ref wc, .ref ol, .ref al, .int cs, .int 0]))) (mu Ml272 mo (.inr (6, [.int cd_9, .ref cn, .ref ia, .ref dr, .ref en, .ref la, .ref wo, .int ni_9, .ref op, .ref mk, .ref ir, .int dn, .int md, .int pw_9, .int cm_9, .int wr_9, .ref se, .ref ec, .ref lc, .ref wc, .ref ol, .ref al, .int cs_9, .int (hm9_9 + 1)]))) := hkl158.self (by simp)
                        have hkl272 : kpx (fun a => a ∈ [mo]) (mu Ml158 mo (.inr (6, [.int cd_3, .ref cn, .ref ia, .ref dr, .ref en, .ref la, .ref wo, .int ni_3, .ref op, .ref mk, .ref ir, .int dn, .int md, .int pw_3, .int cm_3, .int wr_3, .ref se, .ref ec, .ref lc, .ref wc, .ref ol, .ref al, .int cs_3, .int (hm9_3 + 1)]))) (mu Ml272 mo (.inr (6, [.int cd_9, .ref cn, .ref ia, .ref dr, .ref en, .ref la, .ref wo, .int ni_9, .ref op, .ref mk, .ref ir, .int dn, .int md, .int pw_9, .int cm_9, .int wr_9, .ref se, .ref ec, .ref lc, .ref wc, .ref ol, .ref al, .int cs_9, .int (hm9_9 + 1)]))) := hkl272.self (by simp)
                        refine lv_iinc (v := ((nI j272) + 8)) (lv' := [(4, .int ((nI j272) + 8)), (5, .int (nI u35)), (3, .int (nI (3100 + j158))), (2, .int (nI j158)), (1, .int y31_1), (0, .ref mo)]) hx hb dX6_sweep_356 hl (k := 1) rfl rfl (by decide) rfl (fun ls hl => ?_)
                        refine lv_goto (tgt := 272) hx hb dX6_sweep_359 (by decide) ?_
                        rw [nI_8] at hl
                        exact ih272 (j272 + 8, (mu Ml272 mo (.inr (6, [.int cd_9, .ref cn, .ref ia, .ref dr, .ref en, .ref la, .ref wo, .int ni_9, .ref op, .ref mk, .ref ir, .int dn, .int md, .int pw_9, .int cm_9, .int wr_9, .ref se, .ref ec, .ref lc, .ref wc, .ref ol, .ref al, .int cs_9, .int (hm9_9 + 1)])))) _ _ _ ⟨⟨by omega, by omega⟩, ⟨_, _, _, _, _, _, _, fcn, fia, fdr, fen, fla, fwo, fop, fmk, fir, fse, fec, flc, fol, fal_2, fwc, hap, (mu_self _ _ _), hmd, ⟨hrC, hrL, hrM⟩, ((mu_ne ne_cn_mo).trans kcn_9), ((mu_ne ne_ia_mo).trans kia_9), ((mu_ne ne_dr_mo).trans kdr_9), ((mu_ne ne_en_mo).trans ken_9), ((mu_ne ne_la_mo).trans kla_9), ((mu_ne ne_wo_mo).trans kwo_9), ((mu_ne ne_op_mo).trans kop_9), ((mu_ne ne_mk_mo).trans kmk_9), ((mu_ne ne_ir_mo).trans kir_9), ((mu_ne ne_se_mo).trans kse_9), ((mu_ne ne_ec_mo).trans kec_9), ((mu_ne ne_lc_mo).trans klc_9), ((mu_ne ne_wc_mo).trans kwc_9), ((mu_ne ne_ol_mo).trans kol_9), ((mu_ne ne_al_mo).trans kal_9)⟩, hkp, hkl272, hm, hS, lv_sub hl [0, 2, 3, 4, 5] rfl⟩ (by show 2147483648 - (j272 + 8) < 2147483648 - j272; omega)
                  · have hqc37 : (j272 + 8) < u35 := nb_nle (a := u35) (b := (j272 + 8)) (by omega) (by omega) c37
                    refine lv_iload hx hb dX6_sweep_297 (lv_at hl 0 rfl) ?_
                    refine lv_bipush (v := 8) hx hb dX6_sweep_299 (by decide) ?_
                    refine lv_iadd hx hb dX6_sweep_301 ?_
                    refine W.eq (g2 := F0 m 302 ls [.int (nI (j272 + 8))]) (by rw [show (((nI j272)) + (8) : Int32) = nI (j272 + 8) from nI_add j272 8]) ?_
                    refine lv_goto (tgt := 311) hx hb dX6_sweep_302 (by decide) ?_
                    refine lv_istore (lv' := [(5, .int (nI (j272 + 8))), (4, .int (nI j272)), (3, .int (nI (3100 + j158))), (2, .int (nI j158)), (1, .int y31_1), (0, .ref mo)]) hx hb dX6_sweep_311 hl (by decide) rfl (fun ls hl => ?_)
                    refine lv_aload_n hx hb dX6_sweep_313 rfl (lv_at hl 5 rfl) ?_
                    refine lv_dup hx hb dX6_sweep_314 rfl ?_
                    refine m_get (T := TX6) (N := 24) (ci := 6) (v := .int hm9_9) hx hb hts wX6 hown hK hm hM_9 rfl 23 (by decide) f133 (fun _ h9 => h9) rfl dX6_sweep_315 ?_
                    refine lv_aload_n hx hb dX6_sweep_318 rfl (lv_at hl 5 rfl) ?_
                    refine m_get (T := TX6) (N := 24) (ci := 6) (v := .ref wc) hx hb hts wX6 hown hK hm hM_9 rfl 19 (by decide) f57 (fun _ h9 => h9) rfl dX6_sweep_319 ?_
                    refine lv_iload_n hx hb dX6_sweep_322 rfl (lv_at hl 3 rfl) ?_
                    refine m_lald hx hb hK hm 1 kwc_9 rfl (vp_in_nI (by omega) (by decide)) dX6_sweep_323 ?_
                    refine lv_iload hx hb dX6_sweep_324 (lv_at hl 1 rfl) ?_
                    refine lv_lushr (v := (us (fwc ((nI j158)).toNatClampNeg) (nI j272))) hx hb dX6_sweep_326 rfl ?_
                    refine lv_ldc2 hx hb hown (hts (.constantLong RX6 136 (255)) (by decide +kernel)) dX6_sweep_327 ?_
                    refine lv_land hx hb dX6_sweep_330 ?_
                    refine lv_lconst (v := 0) hx hb dX6_sweep_331 (by decide) ?_
                    refine W.lcmp hx hb dX6_sweep_332 ?_
                    refine lv_if_ne (tgt := 347) hx hb dX6_sweep_333 (by decide) (fun c40 => ?_) (fun c40 => ?_)
                    · refine lv_iconst (v := 1) hx hb dX6_sweep_347 (by decide) ?_
                      refine lv_goto (tgt := 352) hx hb dX6_sweep_348 (by decide) ?_
                      refine lv_iadd hx hb dX6_sweep_352 ?_
                      refine m_put (T := TX6) (N := 24) (ci := 6) (v := .int (hm9_9 + 1)) (ty := .int) hx hb hts wX6 tyX6 tyX6_ok nmX6 hown hK hm hS hM_9 rfl 23 (by decide) f133 (fun _ h9 => h9) rfl (by decide +kernel) rfl rfl (Nat.le_of_ble_eq_true rfl) dX6_sweep_353 (fun H locs hm hS => ?_)
                      have hm : mm D (AZ z) (mu Ml272 mo (.inr (6, [.int cd_9, .ref cn, .ref ia, .ref dr, .ref en, .ref la, .ref wo, .int ni_9, .ref op, .ref mk, .ref ir, .int dn, .int md, .int pw_9, .int cm_9, .int wr_9, .ref se, .ref ec, .ref lc, .ref wc, .ref ol, .ref al, .int cs_9, .int (hm9_9 + 1)]))) H := hm
                      have hkp : kpx (fun a => a ∈ [mo, cn, ia, dr, en, la, wo, op, mk, ir, se, ec, lc, wc, ol, al]) M (mu Ml272 mo (.inr (6, [.int cd_9, .ref cn, .ref ia, .ref dr, .ref en, .ref la, .ref wo, .int ni_9, .ref op, .ref mk, .ref ir, .int dn, .int md, .int pw_9, .int cm_9, .int wr_9, .ref se, .ref ec, .ref lc, .ref wc, .ref ol, .ref al, .int cs_9, .int (hm9_9 + 1)]))) := (hkp).self (by simp)
                      have hkl158 : kpx (fun a => a ∈ [mo]) (mu Ml31 mo (.inr (6, [.int cd, .ref cn, .ref ia, .ref dr, .ref en, .ref la, .ref wo, .int ni, .ref op, .ref mk, .ref ir, .int dn, .int md, .int pw, .int cm, .int wr, .ref se, .ref ec, .ref lc, .ref wc, .ref ol, .ref al, .int cs, .int 0]))) (mu Ml272 mo (.inr (6, [.int cd_9, .ref cn, .ref ia, .ref dr, .ref en, .ref la, .ref wo, .int ni_9, .ref op, .ref mk, .ref ir, .int dn, .int md, .int pw_9, .int cm_9, .int wr_9, .ref se, .ref ec, .ref lc, .ref wc, .ref ol, .ref al, .int cs_9, .int (hm9_9 + 1)]))) := hkl158.self (by simp)
                      have hkl272 : kpx (fun a => a ∈ [mo]) (mu Ml158 mo (.inr (6, [.int cd_3, .ref cn, .ref ia, .ref dr, .ref en, .ref la, .ref wo, .int ni_3, .ref op, .ref mk, .ref ir, .int dn, .int md, .int pw_3, .int cm_3, .int wr_3, .ref se, .ref ec, .ref lc, .ref wc, .ref ol, .ref al, .int cs_3, .int (hm9_3 + 1)]))) (mu Ml272 mo (.inr (6, [.int cd_9, .ref cn, .ref ia, .ref dr, .ref en, .ref la, .ref wo, .int ni_9, .ref op, .ref mk, .ref ir, .int dn, .int md, .int pw_9, .int cm_9, .int wr_9, .ref se, .ref ec, .ref lc, .ref wc, .ref ol, .ref al, .int cs_9, .int (hm9_9 + 1)]))) := hkl272.self (by simp)
                      refine lv_iinc (v := ((nI j272) + 8)) (lv' := [(4, .int ((nI j272) + 8)), (5, .int (nI (j272 + 8))), (3, .int (nI (3100 + j158))), (2, .int (nI j158)), (1, .int y31_1), (0, .ref mo)]) hx hb dX6_sweep_356 hl (k := 1) rfl rfl (by decide) rfl (fun ls hl => ?_)
                      refine lv_goto (tgt := 272) hx hb dX6_sweep_359 (by decide) ?_
                      rw [nI_8] at hl
                      exact ih272 (j272 + 8, (mu Ml272 mo (.inr (6, [.int cd_9, .ref cn, .ref ia, .ref dr, .ref en, .ref la, .ref wo, .int ni_9, .ref op, .ref mk, .ref ir, .int dn, .int md, .int pw_9, .int cm_9, .int wr_9, .ref se, .ref ec, .ref lc, .ref wc, .ref ol, .ref al, .int cs_9, .int (hm9_9 + 1)])))) _ _ _ ⟨⟨by omega, by omega⟩, ⟨_, _, _, _, _, _, _, fcn, fia, fdr, fen, fla, fwo, fop, fmk, fir, fse, fec, flc, fol, fal_2, fwc, hap, (mu_self _ _ _), hmd, ⟨hrC, hrL, hrM⟩, ((mu_ne ne_cn_mo).trans kcn_9), ((mu_ne ne_ia_mo).trans kia_9), ((mu_ne ne_dr_mo).trans kdr_9), ((mu_ne ne_en_mo).trans ken_9), ((mu_ne ne_la_mo).trans kla_9), ((mu_ne ne_wo_mo).trans kwo_9), ((mu_ne ne_op_mo).trans kop_9), ((mu_ne ne_mk_mo).trans kmk_9), ((mu_ne ne_ir_mo).trans kir_9), ((mu_ne ne_se_mo).trans kse_9), ((mu_ne ne_ec_mo).trans kec_9), ((mu_ne ne_lc_mo).trans klc_9), ((mu_ne ne_wc_mo).trans kwc_9), ((mu_ne ne_ol_mo).trans kol_9), ((mu_ne ne_al_mo).trans kal_9)⟩, hkp, hkl272, hm, hS, lv_sub hl [0, 2, 3, 4, 5] rfl⟩ (by show 2147483648 - (j272 + 8) < 2147483648 - j272; omega)
                    · refine lv_iload hx hb dX6_sweep_336 (lv_at hl 0 rfl) ?_
                      refine lv_aload_n hx hb dX6_sweep_338 rfl (lv_at hl 5 rfl) ?_
                      refine m_get (T := TX6) (N := 24) (ci := 6) (v := .ref ol) hx hb hts wX6 hown hK hm hM_9 rfl 20 (by decide) f61 (fun _ h9 => h9) rfl dX6_sweep_339 ?_
                      refine lv_iload_n hx hb dX6_sweep_342 rfl (lv_at hl 3 rfl) ?_
                      refine m_iald hx hb hK hm 0 kol_9 rfl (vp_in_nI (by omega) (by decide)) dX6_sweep_343 ?_
                      refine lv_icmp_le (tgt := 351) hx hb dX6_sweep_344 (by decide) (fun c41 => ?_) (fun c41 => ?_)
                      · refine lv_iconst (v := 0) hx hb dX6_sweep_351 (by decide) ?_
                        refine lv_iadd hx hb dX6_sweep_352 ?_
                        refine m_put (T := TX6) (N := 24) (ci := 6) (v := .int (hm9_9 + 0)) (ty := .int) hx hb hts wX6 tyX6 tyX6_ok nmX6 hown hK hm hS hM_9 rfl 23 (by decide) f133 (fun _ h9 => h9) rfl (by decide +kernel) rfl rfl (Nat.le_of_ble_eq_true rfl) dX6_sweep_353 (fun H locs hm hS => ?_)
                        have hm : mm D (AZ z) (mu Ml272 mo (.inr (6, [.int cd_9, .ref cn, .ref ia, .ref dr, .ref en, .ref la, .ref wo, .int ni_9, .ref op, .ref mk, .ref ir, .int dn, .int md, .int pw_9, .int cm_9, .int wr_9, .ref se, .ref ec, .ref lc, .ref wc, .ref ol, .ref al, .int cs_9, .int (hm9_9 + 0)]))) H := hm
                        have hkp : kpx (fun a => a ∈ [mo, cn, ia, dr, en, la, wo, op, mk, ir, se, ec, lc, wc, ol, al]) M (mu Ml272 mo (.inr (6, [.int cd_9, .ref cn, .ref ia, .ref dr, .ref en, .ref la, .ref wo, .int ni_9, .ref op, .ref mk, .ref ir, .int dn, .int md, .int pw_9, .int cm_9, .int wr_9, .ref se, .ref ec, .ref lc, .ref wc, .ref ol, .ref al, .int cs_9, .int (hm9_9 + 0)]))) := (hkp).self (by simp)
                        have hkl158 : kpx (fun a => a ∈ [mo]) (mu Ml31 mo (.inr (6, [.int cd, .ref cn, .ref ia, .ref dr, .ref en, .ref la, .ref wo, .int ni, .ref op, .ref mk, .ref ir, .int dn, .int md, .int pw, .int cm, .int wr, .ref se, .ref ec, .ref lc, .ref wc, .ref ol, .ref al, .int cs, .int 0]))) (mu Ml272 mo (.inr (6, [.int cd_9, .ref cn, .ref ia, .ref dr, .ref en, .ref la, .ref wo, .int ni_9, .ref op, .ref mk, .ref ir, .int dn, .int md, .int pw_9, .int cm_9, .int wr_9, .ref se, .ref ec, .ref lc, .ref wc, .ref ol, .ref al, .int cs_9, .int (hm9_9 + 0)]))) := hkl158.self (by simp)
                        have hkl272 : kpx (fun a => a ∈ [mo]) (mu Ml158 mo (.inr (6, [.int cd_3, .ref cn, .ref ia, .ref dr, .ref en, .ref la, .ref wo, .int ni_3, .ref op, .ref mk, .ref ir, .int dn, .int md, .int pw_3, .int cm_3, .int wr_3, .ref se, .ref ec, .ref lc, .ref wc, .ref ol, .ref al, .int cs_3, .int (hm9_3 + 1)]))) (mu Ml272 mo (.inr (6, [.int cd_9, .ref cn, .ref ia, .ref dr, .ref en, .ref la, .ref wo, .int ni_9, .ref op, .ref mk, .ref ir, .int dn, .int md, .int pw_9, .int cm_9, .int wr_9, .ref se, .ref ec, .ref lc, .ref wc, .ref ol, .ref al, .int cs_9, .int (hm9_9 + 0)]))) := hkl272.self (by simp)
                        refine lv_iinc (v := ((nI j272) + 8)) (lv' := [(4, .int ((nI j272) + 8)), (5, .int (nI (j272 + 8))), (3, .int (nI (3100 + j158))), (2, .int (nI j158)), (1, .int y31_1), (0, .ref mo)]) hx hb dX6_sweep_356 hl (k := 1) rfl rfl (by decide) rfl (fun ls hl => ?_)
                        refine lv_goto (tgt := 272) hx hb dX6_sweep_359 (by decide) ?_
                        rw [nI_8] at hl
                        exact ih272 (j272 + 8, (mu Ml272 mo (.inr (6, [.int cd_9, .ref cn, .ref ia, .ref dr, .ref en, .ref la, .ref wo, .int ni_9, .ref op, .ref mk, .ref ir, .int dn, .int md, .int pw_9, .int cm_9, .int wr_9, .ref se, .ref ec, .ref lc, .ref wc, .ref ol, .ref al, .int cs_9, .int (hm9_9 + 0)])))) _ _ _ ⟨⟨by omega, by omega⟩, ⟨_, _, _, _, _, _, _, fcn, fia, fdr, fen, fla, fwo, fop, fmk, fir, fse, fec, flc, fol, fal_2, fwc, hap, (mu_self _ _ _), hmd, ⟨hrC, hrL, hrM⟩, ((mu_ne ne_cn_mo).trans kcn_9), ((mu_ne ne_ia_mo).trans kia_9), ((mu_ne ne_dr_mo).trans kdr_9), ((mu_ne ne_en_mo).trans ken_9), ((mu_ne ne_la_mo).trans kla_9), ((mu_ne ne_wo_mo).trans kwo_9), ((mu_ne ne_op_mo).trans kop_9), ((mu_ne ne_mk_mo).trans kmk_9), ((mu_ne ne_ir_mo).trans kir_9), ((mu_ne ne_se_mo).trans kse_9), ((mu_ne ne_ec_mo).trans kec_9), ((mu_ne ne_lc_mo).trans klc_9), ((mu_ne ne_wc_mo).trans kwc_9), ((mu_ne ne_ol_mo).trans kol_9), ((mu_ne ne_al_mo).trans kal_9)⟩, hkp, hkl272, hm, hS, lv_sub hl [0, 2, 3, 4, 5] rfl⟩ (by show 2147483648 - (j272 + 8) < 2147483648 - j272; omega)
                      · refine lv_iconst (v := 1) hx hb dX6_sweep_347 (by decide) ?_
                        refine lv_goto (tgt := 352) hx hb dX6_sweep_348 (by decide) ?_
                        refine lv_iadd hx hb dX6_sweep_352 ?_
                        refine m_put (T := TX6) (N := 24) (ci := 6) (v := .int (hm9_9 + 1)) (ty := .int) hx hb hts wX6 tyX6 tyX6_ok nmX6 hown hK hm hS hM_9 rfl 23 (by decide) f133 (fun _ h9 => h9) rfl (by decide +kernel) rfl rfl (Nat.le_of_ble_eq_true rfl) dX6_sweep_353 (fun H locs hm hS => ?_)
                        have hm : mm D (AZ z) (mu Ml272 mo (.inr (6, [.int cd_9, .ref cn, .ref ia, .ref dr, .ref en, .ref la, .ref wo, .int ni_9, .ref op, .ref mk, .ref ir, .int dn, .int md, .int pw_9, .int cm_9, .int wr_9, .ref se, .ref ec, .ref lc, .ref wc, .ref ol, .ref al, .int cs_9, .int (hm9_9 + 1)]))) H := hm
                        have hkp : kpx (fun a => a ∈ [mo, cn, ia, dr, en, la, wo, op, mk, ir, se, ec, lc, wc, ol, al]) M (mu Ml272 mo (.inr (6, [.int cd_9, .ref cn, .ref ia, .ref dr, .ref en, .ref la, .ref wo, .int ni_9, .ref op, .ref mk, .ref ir, .int dn, .int md, .int pw_9, .int cm_9, .int wr_9, .ref se, .ref ec, .ref lc, .ref wc, .ref ol, .ref al, .int cs_9, .int (hm9_9 + 1)]))) := (hkp).self (by simp)
                        have hkl158 : kpx (fun a => a ∈ [mo]) (mu Ml31 mo (.inr (6, [.int cd, .ref cn, .ref ia, .ref dr, .ref en, .ref la, .ref wo, .int ni, .ref op, .ref mk, .ref ir, .int dn, .int md, .int pw, .int cm, .int wr, .ref se, .ref ec, .ref lc, .ref wc, .ref ol, .ref al, .int cs, .int 0]))) (mu Ml272 mo (.inr (6, [.int cd_9, .ref cn, .ref ia, .ref dr, .ref en, .ref la, .ref wo, .int ni_9, .ref op, .ref mk, .ref ir, .int dn, .int md, .int pw_9, .int cm_9, .int wr_9, .ref se, .ref ec, .ref lc, .ref wc, .ref ol, .ref al, .int cs_9, .int (hm9_9 + 1)]))) := hkl158.self (by simp)
                        have hkl272 : kpx (fun a => a ∈ [mo]) (mu Ml158 mo (.inr (6, [.int cd_3, .ref cn, .ref ia, .ref dr, .ref en, .ref la, .ref wo, .int ni_3, .ref op, .ref mk, .ref ir, .int dn, .int md, .int pw_3, .int cm_3, .int wr_3, .ref se, .ref ec, .ref lc, .ref wc, .ref ol, .ref al, .int cs_3, .int (hm9_3 + 1)]))) (mu Ml272 mo (.inr (6, [.int cd_9, .ref cn, .ref ia, .ref dr, .ref en, .ref la, .ref wo, .int ni_9, .ref op, .ref mk, .ref ir, .int dn, .int md, .int pw_9, .int cm_9, .int wr_9, .ref se, .ref ec, .ref lc, .ref wc, .ref ol, .ref al, .int cs_9, .int (hm9_9 + 1)]))) := hkl272.self (by simp)
                        refine lv_iinc (v := ((nI j272) + 8)) (lv' := [(4, .int ((nI j272) + 8)), (5, .int (nI (j272 + 8))), (3, .int (nI (3100 + j158))), (2, .int (nI j158)), (1, .int y31_1), (0, .ref mo)]) hx hb dX6_sweep_356 hl (k := 1) rfl rfl (by decide) rfl (fun ls hl => ?_)
                        refine lv_goto (tgt := 272) hx hb dX6_sweep_359 (by decide) ?_
                        rw [nI_8] at hl
                        exact ih272 (j272 + 8, (mu Ml272 mo (.inr (6, [.int cd_9, .ref cn, .ref ia, .ref dr, .ref en, .ref la, .ref wo, .int ni_9, .ref op, .ref mk, .ref ir, .int dn, .int md, .int pw_9, .int cm_9, .int wr_9, .ref se, .ref ec, .ref lc, .ref wc, .ref ol, .ref al, .int cs_9, .int (hm9_9 + 1)])))) _ _ _ ⟨⟨by omega, by omega⟩, ⟨_, _, _, _, _, _, _, fcn, fia, fdr, fen, fla, fwo, fop, fmk, fir, fse, fec, flc, fol, fal_2, fwc, hap, (mu_self _ _ _), hmd, ⟨hrC, hrL, hrM⟩, ((mu_ne ne_cn_mo).trans kcn_9), ((mu_ne ne_ia_mo).trans kia_9), ((mu_ne ne_dr_mo).trans kdr_9), ((mu_ne ne_en_mo).trans ken_9), ((mu_ne ne_la_mo).trans kla_9), ((mu_ne ne_wo_mo).trans kwo_9), ((mu_ne ne_op_mo).trans kop_9), ((mu_ne ne_mk_mo).trans kmk_9), ((mu_ne ne_ir_mo).trans kir_9), ((mu_ne ne_se_mo).trans kse_9), ((mu_ne ne_ec_mo).trans kec_9), ((mu_ne ne_lc_mo).trans klc_9), ((mu_ne ne_wc_mo).trans kwc_9), ((mu_ne ne_ol_mo).trans kol_9), ((mu_ne ne_al_mo).trans kal_9)⟩, hkp, hkl272, hm, hS, lv_sub hl [0, 2, 3, 4, 5] rfl⟩ (by show 2147483648 - (j272 + 8) < 2147483648 - j272; omega)
              · refine lv_aload_n hx hb dX6_sweep_251 rfl (lv_at hl 3 rfl) ?_
                refine m_get (T := TX6) (N := 24) (ci := 6) (v := .ref lc) hx hb hts wX6 hown hK hm hM_3 rfl 18 (by decide) f54 (fun _ h9 => h9) rfl dX6_sweep_252 ?_
                refine lv_iload_n hx hb dX6_sweep_255 rfl (lv_at hl 1 rfl) ?_
                refine m_zald hx hb hK hm 2 klc_3 rfl (vp_in_nI (by omega) (by decide)) dX6_sweep_256 ?_
                refine lv_if_eq (tgt := 264) hx hb dX6_sweep_257 (by decide) (fun c42 => ?_) (fun c42 => ?_)
                · refine lv_iconst (v := 0) hx hb dX6_sweep_264 (by decide) ?_
                  refine lv_iadd hx hb dX6_sweep_265 ?_
                  refine m_put (T := TX6) (N := 24) (ci := 6) (v := .int (hm9_3 + 0)) (ty := .int) hx hb hts wX6 tyX6 tyX6_ok nmX6 hown hK hm hS hM_3 rfl 23 (by decide) f133 (fun _ h9 => h9) rfl (by decide +kernel) rfl rfl (Nat.le_of_ble_eq_true rfl) dX6_sweep_266 (fun H locs hm hS => ?_)
                  have hm : mm D (AZ z) (mu Ml158 mo (.inr (6, [.int cd_3, .ref cn, .ref ia, .ref dr, .ref en, .ref la, .ref wo, .int ni_3, .ref op, .ref mk, .ref ir, .int dn, .int md, .int pw_3, .int cm_3, .int wr_3, .ref se, .ref ec, .ref lc, .ref wc, .ref ol, .ref al, .int cs_3, .int (hm9_3 + 0)]))) H := hm
                  have hkp : kpx (fun a => a ∈ [mo, cn, ia, dr, en, la, wo, op, mk, ir, se, ec, lc, wc, ol, al]) M (mu Ml158 mo (.inr (6, [.int cd_3, .ref cn, .ref ia, .ref dr, .ref en, .ref la, .ref wo, .int ni_3, .ref op, .ref mk, .ref ir, .int dn, .int md, .int pw_3, .int cm_3, .int wr_3, .ref se, .ref ec, .ref lc, .ref wc, .ref ol, .ref al, .int cs_3, .int (hm9_3 + 0)]))) := (hkp).self (by simp)
                  have hkl158 : kpx (fun a => a ∈ [mo]) (mu Ml31 mo (.inr (6, [.int cd, .ref cn, .ref ia, .ref dr, .ref en, .ref la, .ref wo, .int ni, .ref op, .ref mk, .ref ir, .int dn, .int md, .int pw, .int cm, .int wr, .ref se, .ref ec, .ref lc, .ref wc, .ref ol, .ref al, .int cs, .int 0]))) (mu Ml158 mo (.inr (6, [.int cd_3, .ref cn, .ref ia, .ref dr, .ref en, .ref la, .ref wo, .int ni_3, .ref op, .ref mk, .ref ir, .int dn, .int md, .int pw_3, .int cm_3, .int wr_3, .ref se, .ref ec, .ref lc, .ref wc, .ref ol, .ref al, .int cs_3, .int (hm9_3 + 0)]))) := hkl158.self (by simp)
                  refine lv_iconst (v := 0) hx hb dX6_sweep_269 (by decide) ?_
                  refine lv_istore (lv' := [(4, .int 0), (3, .int (nI (3100 + j158))), (2, .int (nI j158)), (1, .int y31_1), (0, .ref mo)]) hx hb dX6_sweep_270 hl (by decide) rfl (fun ls hl => ?_)
                  have hI0 : mI k (mu Ml158 mo (.inr (6, [.int cd_3, .ref cn, .ref ia, .ref dr, .ref en, .ref la, .ref wo, .int ni_3, .ref op, .ref mk, .ref ir, .int dn, .int md, .int pw_3, .int cm_3, .int wr_3, .ref se, .ref ec, .ref lc, .ref wc, .ref ol, .ref al, .int cs_3, .int (hm9_3 + 0)]))) mo cn ia dr en la wo op mk ir se ec lc wc ol al dn md := ⟨_, _, _, _, _, _, _, fcn, fia, fdr, fen, fla, fwo, fop, fmk, fir, fse, fec, flc, fol, fal_2, fwc, hap, (mu_self _ _ _), hmd, ⟨hrC, hrL, hrM⟩, ((mu_ne ne_cn_mo).trans kcn_3), ((mu_ne ne_ia_mo).trans kia_3), ((mu_ne ne_dr_mo).trans kdr_3), ((mu_ne ne_en_mo).trans ken_3), ((mu_ne ne_la_mo).trans kla_3), ((mu_ne ne_wo_mo).trans kwo_3), ((mu_ne ne_op_mo).trans kop_3), ((mu_ne ne_mk_mo).trans kmk_3), ((mu_ne ne_ir_mo).trans kir_3), ((mu_ne ne_se_mo).trans kse_3), ((mu_ne ne_ec_mo).trans kec_3), ((mu_ne ne_lc_mo).trans klc_3), ((mu_ne ne_wc_mo).trans kwc_3), ((mu_ne ne_ol_mo).trans kol_3), ((mu_ne ne_al_mo).trans kal_3)⟩
                  refine W_loop (σ := Nat × mM) (fun ⟨j272, Ml272⟩ H locs ls => (0 ≤ j272 ∧ j272 < 2147483000) ∧ (mI k Ml272 mo cn ia dr en la wo op mk ir se ec lc wc ol al dn md) ∧ (kpx (fun a => a ∈ [mo, cn, ia, dr, en, la, wo, op, mk, ir, se, ec, lc, wc, ol, al]) M Ml272) ∧ (kpx (fun a => a ∈ [mo]) (mu Ml158 mo (.inr (6, [.int cd_3, .ref cn, .ref ia, .ref dr, .ref en, .ref la, .ref wo, .int ni_3, .ref op, .ref mk, .ref ir, .int dn, .int md, .int pw_3, .int cm_3, .int wr_3, .ref se, .ref ec, .ref lc, .ref wc, .ref ol, .ref al, .int cs_3, .int (hm9_3 + 0)]))) Ml272) ∧ mm D (AZ z) Ml272 H ∧ va_S (AZ z) s.heap H locs ∧ lv_has ls 6 [(4, .int (nI j272)), (3, .int (nI (3100 + j158))), (2, .int (nI j158)), (1, .int y31_1), (0, .ref mo)]) (fun ⟨j272, Ml272⟩ => 2147483648 - j272) (fun _ => 0) (fun _ => 0) ?_ (0, (mu Ml158 mo (.inr (6, [.int cd_3, .ref cn, .ref ia, .ref dr, .ref en, .ref la, .ref wo, .int ni_3, .ref op, .ref mk, .ref ir, .int dn, .int md, .int pw_3, .int cm_3, .int wr_3, .ref se, .ref ec, .ref lc, .ref wc, .ref ol, .ref al, .int cs_3, .int (hm9_3 + 0)])))) _ _ _ ⟨⟨Nat.le_refl _, by omega⟩, hI0, hkp, (kpx.refl _ _), hm, hS, lv_sub hl [0, 1, 2, 3, 4] rfl⟩
                  intro ⟨j272, Ml272⟩ H locs ls hQ ih272
                  obtain ⟨hj272, hI, hkp, hkl272, hm, hS, hl⟩ := hQ
                  try dsimp only at hm hl ih272 hj272 hI hkp hkl272 ⊢
                  obtain ⟨cd_10, ni_10, pw_10, cm_10, wr_10, cs_10, hm9_10, _, _, _, _, _, _, _, _, _, _, _, _, _, _, _, -, hM_10, hmd_10, ⟨-, -, -⟩, -, -, -, -, -, -, -, -, -, -, -, -, -, -, -⟩ := id hI
                  have kcn_10 := hkl272 _ _ (by simp only [List.mem_cons, List.not_mem_nil, or_false, not_or]; exact ne_cn_mo) ((mu_ne ne_cn_mo).trans kcn_3)
                  have kia_10 := hkl272 _ _ (by simp only [List.mem_cons, List.not_mem_nil, or_false, not_or]; exact ne_ia_mo) ((mu_ne ne_ia_mo).trans kia_3)
                  have kdr_10 := hkl272 _ _ (by simp only [List.mem_cons, List.not_mem_nil, or_false, not_or]; exact ne_dr_mo) ((mu_ne ne_dr_mo).trans kdr_3)
                  have ken_10 := hkl272 _ _ (by simp only [List.mem_cons, List.not_mem_nil, or_false, not_or]; exact ne_en_mo) ((mu_ne ne_en_mo).trans ken_3)
                  have kla_10 := hkl272 _ _ (by simp only [List.mem_cons, List.not_mem_nil, or_false, not_or]; exact ne_la_mo) ((mu_ne ne_la_mo).trans kla_3)
                  have kwo_10 := hkl272 _ _ (by simp only [List.mem_cons, List.not_mem_nil, or_false, not_or]; exact ne_wo_mo) ((mu_ne ne_wo_mo).trans kwo_3)
                  have kop_10 := hkl272 _ _ (by simp only [List.mem_cons, List.not_mem_nil, or_false, not_or]; exact ne_op_mo) ((mu_ne ne_op_mo).trans kop_3)
                  have kmk_10 := hkl272 _ _ (by simp only [List.mem_cons, List.not_mem_nil, or_false, not_or]; exact ne_mk_mo) ((mu_ne ne_mk_mo).trans kmk_3)
                  have kir_10 := hkl272 _ _ (by simp only [List.mem_cons, List.not_mem_nil, or_false, not_or]; exact ne_ir_mo) ((mu_ne ne_ir_mo).trans kir_3)
                  have kse_10 := hkl272 _ _ (by simp only [List.mem_cons, List.not_mem_nil, or_false, not_or]; exact ne_se_mo) ((mu_ne ne_se_mo).trans kse_3)
                  have kec_10 := hkl272 _ _ (by simp only [List.mem_cons, List.not_mem_nil, or_false, not_or]; exact ne_ec_mo) ((mu_ne ne_ec_mo).trans kec_3)
                  have klc_10 := hkl272 _ _ (by simp only [List.mem_cons, List.not_mem_nil, or_false, not_or]; exact ne_lc_mo) ((mu_ne ne_lc_mo).trans klc_3)
                  have kwc_10 := hkl272 _ _ (by simp only [List.mem_cons, List.not_mem_nil, or_false, not_or]; exact ne_wc_mo) ((mu_ne ne_wc_mo).trans kwc_3)
                  have kol_10 := hkl272 _ _ (by simp only [List.mem_cons, List.not_mem_nil, or_false, not_or]; exact ne_ol_mo) ((mu_ne ne_ol_mo).trans kol_3)
                  have kal_10 := hkl272 _ _ (by simp only [List.mem_cons, List.not_mem_nil, or_false, not_or]; exact ne_al_mo) ((mu_ne ne_al_mo).trans kal_3)
                  have hkl158 := hkl158.trans (hkl272.mono (fun a ha => by simp only [List.mem_cons, List.not_mem_nil, or_false] at ha ⊢; subst ha; simp))
                  refine lv_iload hx hb dX6_sweep_272 (lv_at hl 0 rfl) ?_
                  refine lv_aload_n hx hb dX6_sweep_274 rfl (lv_at hl 4 rfl) ?_
                  refine m_get (T := TX6) (N := 24) (ci := 6) (v := .ref la) hx hb hts wX6 hown hK hm hM_10 rfl 5 (by decide) f24 (fun _ h9 => h9) rfl dX6_sweep_275 ?_
                  refine lv_iload_n hx hb dX6_sweep_278 rfl (lv_at hl 1 rfl) ?_
                  refine m_iald hx hb hK hm 0 kla_10 rfl (vp_in_nI (by omega) (by decide)) dX6_sweep_279 ?_
                  obtain ⟨u43, hu43, eu43⟩ := hrL (3100 + j158)
                  refine W.eq (g2 := F0 m 280 ls [.int (nI u43), .int (nI j272)]) (by rw [show (fla ((nI (3100 + j158))).toNatClampNeg) = nI u43 from (congrArg fla (show ((nI (3100 + j158))).toNatClampNeg = (3100 + j158) from nI_clamp (by omega))).trans eu43]) ?_
                  have hb_u43 := hu43
                  have hu43 : u43 ≤ 64 := hu43
                  refine lv_icmp_ge (tgt := 362) hx hb dX6_sweep_280 (by decide) (fun c44 => ?_) (fun c44 => ?_)
                  · have hqc44 : u43 ≤ j272 := nb_le (a := u43) (b := j272) (by omega) (by omega) c44
                    refine lv_iinc (v := ((nI j158) + 1)) (lv' := [(2, .int ((nI j158) + 1)), (4, .int (nI j272)), (3, .int (nI (3100 + j158))), (1, .int y31_1), (0, .ref mo)]) hx hb dX6_sweep_362 hl (k := 2) rfl rfl (by decide) rfl (fun ls hl => ?_)
                    refine lv_goto (tgt := 158) hx hb dX6_sweep_365 (by decide) ?_
                    rw [nI_1] at hl
                    exact ih158 (j158 + 1, Ml272) _ _ _ ⟨⟨by omega, by omega⟩, ⟨_, _, _, _, _, _, _, fcn, fia, fdr, fen, fla, fwo, fop, fmk, fir, fse, fec, flc, fol, fal_2, fwc, hap, hM_10, hmd, ⟨hrC, hrL, hrM⟩, kcn_10, kia_10, kdr_10, ken_10, kla_10, kwo_10, kop_10, kmk_10, kir_10, kse_10, kec_10, klc_10, kwc_10, kol_10, kal_10⟩, hkp, hkl158, hm, hS, lv_sub hl [0, 3, 4] rfl⟩ (by show 2147483648 - (j158 + 1) < 2147483648 - j158; omega)
                  · have hqc44 : j272 < u43 := nb_nle (a := u43) (b := j272) (by omega) (by omega) c44
                    refine lv_iload hx hb dX6_sweep_283 (lv_at hl 0 rfl) ?_
                    refine lv_bipush (v := 8) hx hb dX6_sweep_285 (by decide) ?_
                    refine lv_iadd hx hb dX6_sweep_287 ?_
                    refine W.eq (g2 := F0 m 288 ls [.int (nI (j272 + 8))]) (by rw [show (((nI j272)) + (8) : Int32) = nI (j272 + 8) from nI_add j272 8]) ?_
                    refine lv_aload_n hx hb dX6_sweep_288 rfl (lv_at hl 4 rfl) ?_
                    refine m_get (T := TX6) (N := 24) (ci := 6) (v := .ref la) hx hb hts wX6 hown hK hm hM_10 rfl 5 (by decide) f24 (fun _ h9 => h9) rfl dX6_sweep_289 ?_
                    refine lv_iload_n hx hb dX6_sweep_292 rfl (lv_at hl 1 rfl) ?_
                    refine m_iald hx hb hK hm 0 kla_10 rfl (vp_in_nI (by omega) (by decide)) dX6_sweep_293 ?_
                    refine W.eq (g2 := F0 m 294 ls [.int (nI u43), .int (nI (j272 + 8))]) (by rw [show (fla ((nI (3100 + j158))).toNatClampNeg) = nI u43 from (congrArg fla (show ((nI (3100 + j158))).toNatClampNeg = (3100 + j158) from nI_clamp (by omega))).trans eu43]) ?_
                    refine lv_icmp_ge (tgt := 305) hx hb dX6_sweep_294 (by decide) (fun c45 => ?_) (fun c45 => ?_)
                    · have hqc45 : u43 ≤ (j272 + 8) := nb_le (a := u43) (b := (j272 + 8)) (by omega) (by omega) c45
                      refine lv_aload_n hx hb dX6_sweep_305 rfl (lv_at hl 4 rfl) ?_
                      refine m_get (T := TX6) (N := 24) (ci := 6) (v := .ref la) hx hb hts wX6 hown hK hm hM_10 rfl 5 (by decide) f24 (fun _ h9 => h9) rfl dX6_sweep_306 ?_
                      refine lv_iload_n hx hb dX6_sweep_309 rfl (lv_at hl 1 rfl) ?_
                      refine m_iald hx hb hK hm 0 kla_10 rfl (vp_in_nI (by omega) (by decide)) dX6_sweep_310 ?_
                      refine W.eq (g2 := F0 m 311 ls [.int (nI u43)]) (by rw [show (fla ((nI (3100 + j158))).toNatClampNeg) = nI u43 from (congrArg fla (show ((nI (3100 + j158))).toNatClampNeg = (3100 + j158) from nI_clamp (by omega))).trans eu43]) ?_
                      refine lv_istore (lv' := [(5, .int (nI u43)), (4, .int (nI j272)), (3, .int (nI (3100 + j158))), (2, .int (nI j158)), (1, .int y31_1), (0, .ref mo)]) hx hb dX6_sweep_311 hl (by decide) rfl (fun ls hl => ?_)
                      refine lv_aload_n hx hb dX6_sweep_313 rfl (lv_at hl 5 rfl) ?_
                      refine lv_dup hx hb dX6_sweep_314 rfl ?_
                      refine m_get (T := TX6) (N := 24) (ci := 6) (v := .int hm9_10) hx hb hts wX6 hown hK hm hM_10 rfl 23 (by decide) f133 (fun _ h9 => h9) rfl dX6_sweep_315 ?_
                      refine lv_aload_n hx hb dX6_sweep_318 rfl (lv_at hl 5 rfl) ?_
                      refine m_get (T := TX6) (N := 24) (ci := 6) (v := .ref wc) hx hb hts wX6 hown hK hm hM_10 rfl 19 (by decide) f57 (fun _ h9 => h9) rfl dX6_sweep_319 ?_
                      refine lv_iload_n hx hb dX6_sweep_322 rfl (lv_at hl 3 rfl) ?_
                      refine m_lald hx hb hK hm 1 kwc_10 rfl (vp_in_nI (by omega) (by decide)) dX6_sweep_323 ?_
                      refine lv_iload hx hb dX6_sweep_324 (lv_at hl 1 rfl) ?_
                      refine lv_lushr (v := (us (fwc ((nI j158)).toNatClampNeg) (nI j272))) hx hb dX6_sweep_326 rfl ?_
                      refine lv_ldc2 hx hb hown (hts (.constantLong RX6 136 (255)) (by decide +kernel)) dX6_sweep_327 ?_
                      refine lv_land hx hb dX6_sweep_330 ?_
                      refine lv_lconst (v := 0) hx hb dX6_sweep_331 (by decide) ?_
                      refine W.lcmp hx hb dX6_sweep_332 ?_
                      refine lv_if_ne (tgt := 347) hx hb dX6_sweep_333 (by decide) (fun c46 => ?_) (fun c46 => ?_)
                      · refine lv_iconst (v := 1) hx hb dX6_sweep_347 (by decide) ?_
                        refine lv_goto (tgt := 352) hx hb dX6_sweep_348 (by decide) ?_
                        refine lv_iadd hx hb dX6_sweep_352 ?_
                        refine m_put (T := TX6) (N := 24) (ci := 6) (v := .int (hm9_10 + 1)) (ty := .int) hx hb hts wX6 tyX6 tyX6_ok nmX6 hown hK hm hS hM_10 rfl 23 (by decide) f133 (fun _ h9 => h9) rfl (by decide +kernel) rfl rfl (Nat.le_of_ble_eq_true rfl) dX6_sweep_353 (fun H locs hm hS => ?_)
                        have hm : mm D (AZ z) (mu Ml272 mo (.inr (6, [.int cd_10, .ref cn, .ref ia, .ref dr, .ref en, .ref la, .ref wo, .int ni_10, .ref op, .ref mk, .ref ir, .int dn, .int md, .int pw_10, .int cm_10, .int wr_10, .ref se, .ref ec, .ref lc, .ref wc, .ref ol, .ref al, .int cs_10, .int (hm9_10 + 1)]))) H := hm
                        have hkp : kpx (fun a => a ∈ [mo, cn, ia, dr, en, la, wo, op, mk, ir, se, ec, lc, wc, ol, al]) M (mu Ml272 mo (.inr (6, [.int cd_10, .ref cn, .ref ia, .ref dr, .ref en, .ref la, .ref wo, .int ni_10, .ref op, .ref mk, .ref ir, .int dn, .int md, .int pw_10, .int cm_10, .int wr_10, .ref se, .ref ec, .ref lc, .ref wc, .ref ol, .ref al, .int cs_10, .int (hm9_10 + 1)]))) := (hkp).self (by simp)
                        have hkl158 : kpx (fun a => a ∈ [mo]) (mu Ml31 mo (.inr (6, [.int cd, .ref cn, .ref ia, .ref dr, .ref en, .ref la, .ref wo, .int ni, .ref op, .ref mk, .ref ir, .int dn, .int md, .int pw, .int cm, .int wr, .ref se, .ref ec, .ref lc, .ref wc, .ref ol, .ref al, .int cs, .int 0]))) (mu Ml272 mo (.inr (6, [.int cd_10, .ref cn, .ref ia, .ref dr, .ref en, .ref la, .ref wo, .int ni_10, .ref op, .ref mk, .ref ir, .int dn, .int md, .int pw_10, .int cm_10, .int wr_10, .ref se, .ref ec, .ref lc, .ref wc, .ref ol, .ref al, .int cs_10, .int (hm9_10 + 1)]))) := hkl158.self (by simp)
                        have hkl272 : kpx (fun a => a ∈ [mo]) (mu Ml158 mo (.inr (6, [.int cd_3, .ref cn, .ref ia, .ref dr, .ref en, .ref la, .ref wo, .int ni_3, .ref op, .ref mk, .ref ir, .int dn, .int md, .int pw_3, .int cm_3, .int wr_3, .ref se, .ref ec, .ref lc, .ref wc, .ref ol, .ref al, .int cs_3, .int (hm9_3 + 0)]))) (mu Ml272 mo (.inr (6, [.int cd_10, .ref cn, .ref ia, .ref dr, .ref en, .ref la, .ref wo, .int ni_10, .ref op, .ref mk, .ref ir, .int dn, .int md, .int pw_10, .int cm_10, .int wr_10, .ref se, .ref ec, .ref lc, .ref wc, .ref ol, .ref al, .int cs_10, .int (hm9_10 + 1)]))) := hkl272.self (by simp)
                        refine lv_iinc (v := ((nI j272) + 8)) (lv' := [(4, .int ((nI j272) + 8)), (5, .int (nI u43)), (3, .int (nI (3100 + j158))), (2, .int (nI j158)), (1, .int y31_1), (0, .ref mo)]) hx hb dX6_sweep_356 hl (k := 1) rfl rfl (by decide) rfl (fun ls hl => ?_)
                        refine lv_goto (tgt := 272) hx hb dX6_sweep_359 (by decide) ?_
                        rw [nI_8] at hl
                        exact ih272 (j272 + 8, (mu Ml272 mo (.inr (6, [.int cd_10, .ref cn, .ref ia, .ref dr, .ref en, .ref la, .ref wo, .int ni_10, .ref op, .ref mk, .ref ir, .int dn, .int md, .int pw_10, .int cm_10, .int wr_10, .ref se, .ref ec, .ref lc, .ref wc, .ref ol, .ref al, .int cs_10, .int (hm9_10 + 1)])))) _ _ _ ⟨⟨by omega, by omega⟩, ⟨_, _, _, _, _, _, _, fcn, fia, fdr, fen, fla, fwo, fop, fmk, fir, fse, fec, flc, fol, fal_2, fwc, hap, (mu_self _ _ _), hmd, ⟨hrC, hrL, hrM⟩, ((mu_ne ne_cn_mo).trans kcn_10), ((mu_ne ne_ia_mo).trans kia_10), ((mu_ne ne_dr_mo).trans kdr_10), ((mu_ne ne_en_mo).trans ken_10), ((mu_ne ne_la_mo).trans kla_10), ((mu_ne ne_wo_mo).trans kwo_10), ((mu_ne ne_op_mo).trans kop_10), ((mu_ne ne_mk_mo).trans kmk_10), ((mu_ne ne_ir_mo).trans kir_10), ((mu_ne ne_se_mo).trans kse_10), ((mu_ne ne_ec_mo).trans kec_10), ((mu_ne ne_lc_mo).trans klc_10), ((mu_ne ne_wc_mo).trans kwc_10), ((mu_ne ne_ol_mo).trans kol_10), ((mu_ne ne_al_mo).trans kal_10)⟩, hkp, hkl272, hm, hS, lv_sub hl [0, 2, 3, 4, 5] rfl⟩ (by show 2147483648 - (j272 + 8) < 2147483648 - j272; omega)
                      · refine lv_iload hx hb dX6_sweep_336 (lv_at hl 0 rfl) ?_
                        refine lv_aload_n hx hb dX6_sweep_338 rfl (lv_at hl 5 rfl) ?_
                        refine m_get (T := TX6) (N := 24) (ci := 6) (v := .ref ol) hx hb hts wX6 hown hK hm hM_10 rfl 20 (by decide) f61 (fun _ h9 => h9) rfl dX6_sweep_339 ?_
                        refine lv_iload_n hx hb dX6_sweep_342 rfl (lv_at hl 3 rfl) ?_
                        refine m_iald hx hb hK hm 0 kol_10 rfl (vp_in_nI (by omega) (by decide)) dX6_sweep_343 ?_
                        refine lv_icmp_le (tgt := 351) hx hb dX6_sweep_344 (by decide) (fun c47 => ?_) (fun c47 => ?_)
                        · refine lv_iconst (v := 0) hx hb dX6_sweep_351 (by decide) ?_
                          refine lv_iadd hx hb dX6_sweep_352 ?_
                          refine m_put (T := TX6) (N := 24) (ci := 6) (v := .int (hm9_10 + 0)) (ty := .int) hx hb hts wX6 tyX6 tyX6_ok nmX6 hown hK hm hS hM_10 rfl 23 (by decide) f133 (fun _ h9 => h9) rfl (by decide +kernel) rfl rfl (Nat.le_of_ble_eq_true rfl) dX6_sweep_353 (fun H locs hm hS => ?_)
                          have hm : mm D (AZ z) (mu Ml272 mo (.inr (6, [.int cd_10, .ref cn, .ref ia, .ref dr, .ref en, .ref la, .ref wo, .int ni_10, .ref op, .ref mk, .ref ir, .int dn, .int md, .int pw_10, .int cm_10, .int wr_10, .ref se, .ref ec, .ref lc, .ref wc, .ref ol, .ref al, .int cs_10, .int (hm9_10 + 0)]))) H := hm
                          have hkp : kpx (fun a => a ∈ [mo, cn, ia, dr, en, la, wo, op, mk, ir, se, ec, lc, wc, ol, al]) M (mu Ml272 mo (.inr (6, [.int cd_10, .ref cn, .ref ia, .ref dr, .ref en, .ref la, .ref wo, .int ni_10, .ref op, .ref mk, .ref ir, .int dn, .int md, .int pw_10, .int cm_10, .int wr_10, .ref se, .ref ec, .ref lc, .ref wc, .ref ol, .ref al, .int cs_10, .int (hm9_10 + 0)]))) := (hkp).self (by simp)
                          have hkl158 : kpx (fun a => a ∈ [mo]) (mu Ml31 mo (.inr (6, [.int cd, .ref cn, .ref ia, .ref dr, .ref en, .ref la, .ref wo, .int ni, .ref op, .ref mk, .ref ir, .int dn, .int md, .int pw, .int cm, .int wr, .ref se, .ref ec, .ref lc, .ref wc, .ref ol, .ref al, .int cs, .int 0]))) (mu Ml272 mo (.inr (6, [.int cd_10, .ref cn, .ref ia, .ref dr, .ref en, .ref la, .ref wo, .int ni_10, .ref op, .ref mk, .ref ir, .int dn, .int md, .int pw_10, .int cm_10, .int wr_10, .ref se, .ref ec, .ref lc, .ref wc, .ref ol, .ref al, .int cs_10, .int (hm9_10 + 0)]))) := hkl158.self (by simp)
                          have hkl272 : kpx (fun a => a ∈ [mo]) (mu Ml158 mo (.inr (6, [.int cd_3, .ref cn, .ref ia, .ref dr, .ref en, .ref la, .ref wo, .int ni_3, .ref op, .ref mk, .ref ir, .int dn, .int md, .int pw_3, .int cm_3, .int wr_3, .ref se, .ref ec, .ref lc, .ref wc, .ref ol, .ref al, .int cs_3, .int (hm9_3 + 0)]))) (mu Ml272 mo (.inr (6, [.int cd_10, .ref cn, .ref ia, .ref dr, .ref en, .ref la, .ref wo, .int ni_10, .ref op, .ref mk, .ref ir, .int dn, .int md, .int pw_10, .int cm_10, .int wr_10, .ref se, .ref ec, .ref lc, .ref wc, .ref ol, .ref al, .int cs_10, .int (hm9_10 + 0)]))) := hkl272.self (by simp)
                          refine lv_iinc (v := ((nI j272) + 8)) (lv' := [(4, .int ((nI j272) + 8)), (5, .int (nI u43)), (3, .int (nI (3100 + j158))), (2, .int (nI j158)), (1, .int y31_1), (0, .ref mo)]) hx hb dX6_sweep_356 hl (k := 1) rfl rfl (by decide) rfl (fun ls hl => ?_)
                          refine lv_goto (tgt := 272) hx hb dX6_sweep_359 (by decide) ?_
                          rw [nI_8] at hl
                          exact ih272 (j272 + 8, (mu Ml272 mo (.inr (6, [.int cd_10, .ref cn, .ref ia, .ref dr, .ref en, .ref la, .ref wo, .int ni_10, .ref op, .ref mk, .ref ir, .int dn, .int md, .int pw_10, .int cm_10, .int wr_10, .ref se, .ref ec, .ref lc, .ref wc, .ref ol, .ref al, .int cs_10, .int (hm9_10 + 0)])))) _ _ _ ⟨⟨by omega, by omega⟩, ⟨_, _, _, _, _, _, _, fcn, fia, fdr, fen, fla, fwo, fop, fmk, fir, fse, fec, flc, fol, fal_2, fwc, hap, (mu_self _ _ _), hmd, ⟨hrC, hrL, hrM⟩, ((mu_ne ne_cn_mo).trans kcn_10), ((mu_ne ne_ia_mo).trans kia_10), ((mu_ne ne_dr_mo).trans kdr_10), ((mu_ne ne_en_mo).trans ken_10), ((mu_ne ne_la_mo).trans kla_10), ((mu_ne ne_wo_mo).trans kwo_10), ((mu_ne ne_op_mo).trans kop_10), ((mu_ne ne_mk_mo).trans kmk_10), ((mu_ne ne_ir_mo).trans kir_10), ((mu_ne ne_se_mo).trans kse_10), ((mu_ne ne_ec_mo).trans kec_10), ((mu_ne ne_lc_mo).trans klc_10), ((mu_ne ne_wc_mo).trans kwc_10), ((mu_ne ne_ol_mo).trans kol_10), ((mu_ne ne_al_mo).trans kal_10)⟩, hkp, hkl272, hm, hS, lv_sub hl [0, 2, 3, 4, 5] rfl⟩ (by show 2147483648 - (j272 + 8) < 2147483648 - j272; omega)
                        · refine lv_iconst (v := 1) hx hb dX6_sweep_347 (by decide) ?_
                          refine lv_goto (tgt := 352) hx hb dX6_sweep_348 (by decide) ?_
                          refine lv_iadd hx hb dX6_sweep_352 ?_
                          refine m_put (T := TX6) (N := 24) (ci := 6) (v := .int (hm9_10 + 1)) (ty := .int) hx hb hts wX6 tyX6 tyX6_ok nmX6 hown hK hm hS hM_10 rfl 23 (by decide) f133 (fun _ h9 => h9) rfl (by decide +kernel) rfl rfl (Nat.le_of_ble_eq_true rfl) dX6_sweep_353 (fun H locs hm hS => ?_)
                          have hm : mm D (AZ z) (mu Ml272 mo (.inr (6, [.int cd_10, .ref cn, .ref ia, .ref dr, .ref en, .ref la, .ref wo, .int ni_10, .ref op, .ref mk, .ref ir, .int dn, .int md, .int pw_10, .int cm_10, .int wr_10, .ref se, .ref ec, .ref lc, .ref wc, .ref ol, .ref al, .int cs_10, .int (hm9_10 + 1)]))) H := hm
                          have hkp : kpx (fun a => a ∈ [mo, cn, ia, dr, en, la, wo, op, mk, ir, se, ec, lc, wc, ol, al]) M (mu Ml272 mo (.inr (6, [.int cd_10, .ref cn, .ref ia, .ref dr, .ref en, .ref la, .ref wo, .int ni_10, .ref op, .ref mk, .ref ir, .int dn, .int md, .int pw_10, .int cm_10, .int wr_10, .ref se, .ref ec, .ref lc, .ref wc, .ref ol, .ref al, .int cs_10, .int (hm9_10 + 1)]))) := (hkp).self (by simp)
                          have hkl158 : kpx (fun a => a ∈ [mo]) (mu Ml31 mo (.inr (6, [.int cd, .ref cn, .ref ia, .ref dr, .ref en, .ref la, .ref wo, .int ni, .ref op, .ref mk, .ref ir, .int dn, .int md, .int pw, .int cm, .int wr, .ref se, .ref ec, .ref lc, .ref wc, .ref ol, .ref al, .int cs, .int 0]))) (mu Ml272 mo (.inr (6, [.int cd_10, .ref cn, .ref ia, .ref dr, .ref en, .ref la, .ref wo, .int ni_10, .ref op, .ref mk, .ref ir, .int dn, .int md, .int pw_10, .int cm_10, .int wr_10, .ref se, .ref ec, .ref lc, .ref wc, .ref ol, .ref al, .int cs_10, .int (hm9_10 + 1)]))) := hkl158.self (by simp)
                          have hkl272 : kpx (fun a => a ∈ [mo]) (mu Ml158 mo (.inr (6, [.int cd_3, .ref cn, .ref ia, .ref dr, .ref en, .ref la, .ref wo, .int ni_3, .ref op, .ref mk, .ref ir, .int dn, .int md, .int pw_3, .int cm_3, .int wr_3, .ref se, .ref ec, .ref lc, .ref wc, .ref ol, .ref al, .int cs_3, .int (hm9_3 + 0)]))) (mu Ml272 mo (.inr (6, [.int cd_10, .ref cn, .ref ia, .ref dr, .ref en, .ref la, .ref wo, .int ni_10, .ref op, .ref mk, .ref ir, .int dn, .int md, .int pw_10, .int cm_10, .int wr_10, .ref se, .ref ec, .ref lc, .ref wc, .ref ol, .ref al, .int cs_10, .int (hm9_10 + 1)]))) := hkl272.self (by simp)
                          refine lv_iinc (v := ((nI j272) + 8)) (lv' := [(4, .int ((nI j272) + 8)), (5, .int (nI u43)), (3, .int (nI (3100 + j158))), (2, .int (nI j158)), (1, .int y31_1), (0, .ref mo)]) hx hb dX6_sweep_356 hl (k := 1) rfl rfl (by decide) rfl (fun ls hl => ?_)
                          refine lv_goto (tgt := 272) hx hb dX6_sweep_359 (by decide) ?_
                          rw [nI_8] at hl
                          exact ih272 (j272 + 8, (mu Ml272 mo (.inr (6, [.int cd_10, .ref cn, .ref ia, .ref dr, .ref en, .ref la, .ref wo, .int ni_10, .ref op, .ref mk, .ref ir, .int dn, .int md, .int pw_10, .int cm_10, .int wr_10, .ref se, .ref ec, .ref lc, .ref wc, .ref ol, .ref al, .int cs_10, .int (hm9_10 + 1)])))) _ _ _ ⟨⟨by omega, by omega⟩, ⟨_, _, _, _, _, _, _, fcn, fia, fdr, fen, fla, fwo, fop, fmk, fir, fse, fec, flc, fol, fal_2, fwc, hap, (mu_self _ _ _), hmd, ⟨hrC, hrL, hrM⟩, ((mu_ne ne_cn_mo).trans kcn_10), ((mu_ne ne_ia_mo).trans kia_10), ((mu_ne ne_dr_mo).trans kdr_10), ((mu_ne ne_en_mo).trans ken_10), ((mu_ne ne_la_mo).trans kla_10), ((mu_ne ne_wo_mo).trans kwo_10), ((mu_ne ne_op_mo).trans kop_10), ((mu_ne ne_mk_mo).trans kmk_10), ((mu_ne ne_ir_mo).trans kir_10), ((mu_ne ne_se_mo).trans kse_10), ((mu_ne ne_ec_mo).trans kec_10), ((mu_ne ne_lc_mo).trans klc_10), ((mu_ne ne_wc_mo).trans kwc_10), ((mu_ne ne_ol_mo).trans kol_10), ((mu_ne ne_al_mo).trans kal_10)⟩, hkp, hkl272, hm, hS, lv_sub hl [0, 2, 3, 4, 5] rfl⟩ (by show 2147483648 - (j272 + 8) < 2147483648 - j272; omega)
                    · have hqc45 : (j272 + 8) < u43 := nb_nle (a := u43) (b := (j272 + 8)) (by omega) (by omega) c45
                      refine lv_iload hx hb dX6_sweep_297 (lv_at hl 0 rfl) ?_
                      refine lv_bipush (v := 8) hx hb dX6_sweep_299 (by decide) ?_
                      refine lv_iadd hx hb dX6_sweep_301 ?_
                      refine W.eq (g2 := F0 m 302 ls [.int (nI (j272 + 8))]) (by rw [show (((nI j272)) + (8) : Int32) = nI (j272 + 8) from nI_add j272 8]) ?_
                      refine lv_goto (tgt := 311) hx hb dX6_sweep_302 (by decide) ?_
                      refine lv_istore (lv' := [(5, .int (nI (j272 + 8))), (4, .int (nI j272)), (3, .int (nI (3100 + j158))), (2, .int (nI j158)), (1, .int y31_1), (0, .ref mo)]) hx hb dX6_sweep_311 hl (by decide) rfl (fun ls hl => ?_)
                      refine lv_aload_n hx hb dX6_sweep_313 rfl (lv_at hl 5 rfl) ?_
                      refine lv_dup hx hb dX6_sweep_314 rfl ?_
                      refine m_get (T := TX6) (N := 24) (ci := 6) (v := .int hm9_10) hx hb hts wX6 hown hK hm hM_10 rfl 23 (by decide) f133 (fun _ h9 => h9) rfl dX6_sweep_315 ?_
                      refine lv_aload_n hx hb dX6_sweep_318 rfl (lv_at hl 5 rfl) ?_
                      refine m_get (T := TX6) (N := 24) (ci := 6) (v := .ref wc) hx hb hts wX6 hown hK hm hM_10 rfl 19 (by decide) f57 (fun _ h9 => h9) rfl dX6_sweep_319 ?_
                      refine lv_iload_n hx hb dX6_sweep_322 rfl (lv_at hl 3 rfl) ?_
                      refine m_lald hx hb hK hm 1 kwc_10 rfl (vp_in_nI (by omega) (by decide)) dX6_sweep_323 ?_
                      refine lv_iload hx hb dX6_sweep_324 (lv_at hl 1 rfl) ?_
                      refine lv_lushr (v := (us (fwc ((nI j158)).toNatClampNeg) (nI j272))) hx hb dX6_sweep_326 rfl ?_
                      refine lv_ldc2 hx hb hown (hts (.constantLong RX6 136 (255)) (by decide +kernel)) dX6_sweep_327 ?_
                      refine lv_land hx hb dX6_sweep_330 ?_
                      refine lv_lconst (v := 0) hx hb dX6_sweep_331 (by decide) ?_
                      refine W.lcmp hx hb dX6_sweep_332 ?_
                      refine lv_if_ne (tgt := 347) hx hb dX6_sweep_333 (by decide) (fun c48 => ?_) (fun c48 => ?_)
                      · refine lv_iconst (v := 1) hx hb dX6_sweep_347 (by decide) ?_
                        refine lv_goto (tgt := 352) hx hb dX6_sweep_348 (by decide) ?_
                        refine lv_iadd hx hb dX6_sweep_352 ?_
                        refine m_put (T := TX6) (N := 24) (ci := 6) (v := .int (hm9_10 + 1)) (ty := .int) hx hb hts wX6 tyX6 tyX6_ok nmX6 hown hK hm hS hM_10 rfl 23 (by decide) f133 (fun _ h9 => h9) rfl (by decide +kernel) rfl rfl (Nat.le_of_ble_eq_true rfl) dX6_sweep_353 (fun H locs hm hS => ?_)
                        have hm : mm D (AZ z) (mu Ml272 mo (.inr (6, [.int cd_10, .ref cn, .ref ia, .ref dr, .ref en, .ref la, .ref wo, .int ni_10, .ref op, .ref mk, .ref ir, .int dn, .int md, .int pw_10, .int cm_10, .int wr_10, .ref se, .ref ec, .ref lc, .ref wc, .ref ol, .ref al, .int cs_10, .int (hm9_10 + 1)]))) H := hm
                        have hkp : kpx (fun a => a ∈ [mo, cn, ia, dr, en, la, wo, op, mk, ir, se, ec, lc, wc, ol, al]) M (mu Ml272 mo (.inr (6, [.int cd_10, .ref cn, .ref ia, .ref dr, .ref en, .ref la, .ref wo, .int ni_10, .ref op, .ref mk, .ref ir, .int dn, .int md, .int pw_10, .int cm_10, .int wr_10, .ref se, .ref ec, .ref lc, .ref wc, .ref ol, .ref al, .int cs_10, .int (hm9_10 + 1)]))) := (hkp).self (by simp)
                        have hkl158 : kpx (fun a => a ∈ [mo]) (mu Ml31 mo (.inr (6, [.int cd, .ref cn, .ref ia, .ref dr, .ref en, .ref la, .ref wo, .int ni, .ref op, .ref mk, .ref ir, .int dn, .int md, .int pw, .int cm, .int wr, .ref se, .ref ec, .ref lc, .ref wc, .ref ol, .ref al, .int cs, .int 0]))) (mu Ml272 mo (.inr (6, [.int cd_10, .ref cn, .ref ia, .ref dr, .ref en, .ref la, .ref wo, .int ni_10, .ref op, .ref mk, .ref ir, .int dn, .int md, .int pw_10, .int cm_10, .int wr_10, .ref se, .ref ec, .ref lc, .ref wc, .ref ol, .ref al, .int cs_10, .int (hm9_10 + 1)]))) := hkl158.self (by simp)
                        have hkl272 : kpx (fun a => a ∈ [mo]) (mu Ml158 mo (.inr (6, [.int cd_3, .ref cn, .ref ia, .ref dr, .ref en, .ref la, .ref wo, .int ni_3, .ref op, .ref mk, .ref ir, .int dn, .int md, .int pw_3, .int cm_3, .int wr_3, .ref se, .ref ec, .ref lc, .ref wc, .ref ol, .ref al, .int cs_3, .int (hm9_3 + 0)]))) (mu Ml272 mo (.inr (6, [.int cd_10, .ref cn, .ref ia, .ref dr, .ref en, .ref la, .ref wo, .int ni_10, .ref op, .ref mk, .ref ir, .int dn, .int md, .int pw_10, .int cm_10, .int wr_10, .ref se, .ref ec, .ref lc, .ref wc, .ref ol, .ref al, .int cs_10, .int (hm9_10 + 1)]))) := hkl272.self (by simp)
                        refine lv_iinc (v := ((nI j272) + 8)) (lv' := [(4, .int ((nI j272) + 8)), (5, .int (nI (j272 + 8))), (3, .int (nI (3100 + j158))), (2, .int (nI j158)), (1, .int y31_1), (0, .ref mo)]) hx hb dX6_sweep_356 hl (k := 1) rfl rfl (by decide) rfl (fun ls hl => ?_)
                        refine lv_goto (tgt := 272) hx hb dX6_sweep_359 (by decide) ?_
                        rw [nI_8] at hl
                        exact ih272 (j272 + 8, (mu Ml272 mo (.inr (6, [.int cd_10, .ref cn, .ref ia, .ref dr, .ref en, .ref la, .ref wo, .int ni_10, .ref op, .ref mk, .ref ir, .int dn, .int md, .int pw_10, .int cm_10, .int wr_10, .ref se, .ref ec, .ref lc, .ref wc, .ref ol, .ref al, .int cs_10, .int (hm9_10 + 1)])))) _ _ _ ⟨⟨by omega, by omega⟩, ⟨_, _, _, _, _, _, _, fcn, fia, fdr, fen, fla, fwo, fop, fmk, fir, fse, fec, flc, fol, fal_2, fwc, hap, (mu_self _ _ _), hmd, ⟨hrC, hrL, hrM⟩, ((mu_ne ne_cn_mo).trans kcn_10), ((mu_ne ne_ia_mo).trans kia_10), ((mu_ne ne_dr_mo).trans kdr_10), ((mu_ne ne_en_mo).trans ken_10), ((mu_ne ne_la_mo).trans kla_10), ((mu_ne ne_wo_mo).trans kwo_10), ((mu_ne ne_op_mo).trans kop_10), ((mu_ne ne_mk_mo).trans kmk_10), ((mu_ne ne_ir_mo).trans kir_10), ((mu_ne ne_se_mo).trans kse_10), ((mu_ne ne_ec_mo).trans kec_10), ((mu_ne ne_lc_mo).trans klc_10), ((mu_ne ne_wc_mo).trans kwc_10), ((mu_ne ne_ol_mo).trans kol_10), ((mu_ne ne_al_mo).trans kal_10)⟩, hkp, hkl272, hm, hS, lv_sub hl [0, 2, 3, 4, 5] rfl⟩ (by show 2147483648 - (j272 + 8) < 2147483648 - j272; omega)
                      · refine lv_iload hx hb dX6_sweep_336 (lv_at hl 0 rfl) ?_
                        refine lv_aload_n hx hb dX6_sweep_338 rfl (lv_at hl 5 rfl) ?_
                        refine m_get (T := TX6) (N := 24) (ci := 6) (v := .ref ol) hx hb hts wX6 hown hK hm hM_10 rfl 20 (by decide) f61 (fun _ h9 => h9) rfl dX6_sweep_339 ?_
                        refine lv_iload_n hx hb dX6_sweep_342 rfl (lv_at hl 3 rfl) ?_
                        refine m_iald hx hb hK hm 0 kol_10 rfl (vp_in_nI (by omega) (by decide)) dX6_sweep_343 ?_
                        refine lv_icmp_le (tgt := 351) hx hb dX6_sweep_344 (by decide) (fun c49 => ?_) (fun c49 => ?_)
                        · refine lv_iconst (v := 0) hx hb dX6_sweep_351 (by decide) ?_
                          refine lv_iadd hx hb dX6_sweep_352 ?_
                          refine m_put (T := TX6) (N := 24) (ci := 6) (v := .int (hm9_10 + 0)) (ty := .int) hx hb hts wX6 tyX6 tyX6_ok nmX6 hown hK hm hS hM_10 rfl 23 (by decide) f133 (fun _ h9 => h9) rfl (by decide +kernel) rfl rfl (Nat.le_of_ble_eq_true rfl) dX6_sweep_353 (fun H locs hm hS => ?_)
                          have hm : mm D (AZ z) (mu Ml272 mo (.inr (6, [.int cd_10, .ref cn, .ref ia, .ref dr, .ref en, .ref la, .ref wo, .int ni_10, .ref op, .ref mk, .ref ir, .int dn, .int md, .int pw_10, .int cm_10, .int wr_10, .ref se, .ref ec, .ref lc, .ref wc, .ref ol, .ref al, .int cs_10, .int (hm9_10 + 0)]))) H := hm
                          have hkp : kpx (fun a => a ∈ [mo, cn, ia, dr, en, la, wo, op, mk, ir, se, ec, lc, wc, ol, al]) M (mu Ml272 mo (.inr (6, [.int cd_10, .ref cn, .ref ia, .ref dr, .ref en, .ref la, .ref wo, .int ni_10, .ref op, .ref mk, .ref ir, .int dn, .int md, .int pw_10, .int cm_10, .int wr_10, .ref se, .ref ec, .ref lc, .ref wc, .ref ol, .ref al, .int cs_10, .int (hm9_10 + 0)]))) := (hkp).self (by simp)
                          have hkl158 : kpx (fun a => a ∈ [mo]) (mu Ml31 mo (.inr (6, [.int cd, .ref cn, .ref ia, .ref dr, .ref en, .ref la, .ref wo, .int ni, .ref op, .ref mk, .ref ir, .int dn, .int md, .int pw, .int cm, .int wr, .ref se, .ref ec, .ref lc, .ref wc, .ref ol, .ref al, .int cs, .int 0]))) (mu Ml272 mo (.inr (6, [.int cd_10, .ref cn, .ref ia, .ref dr, .ref en, .ref la, .ref wo, .int ni_10, .ref op, .ref mk, .ref ir, .int dn, .int md, .int pw_10, .int cm_10, .int wr_10, .ref se, .ref ec, .ref lc, .ref wc, .ref ol, .ref al, .int cs_10, .int (hm9_10 + 0)]))) := hkl158.self (by simp)
                          have hkl272 : kpx (fun a => a ∈ [mo]) (mu Ml158 mo (.inr (6, [.int cd_3, .ref cn, .ref ia, .ref dr, .ref en, .ref la, .ref wo, .int ni_3, .ref op, .ref mk, .ref ir, .int dn, .int md, .int pw_3, .int cm_3, .int wr_3, .ref se, .ref ec, .ref lc, .ref wc, .ref ol, .ref al, .int cs_3, .int (hm9_3 + 0)]))) (mu Ml272 mo (.inr (6, [.int cd_10, .ref cn, .ref ia, .ref dr, .ref en, .ref la, .ref wo, .int ni_10, .ref op, .ref mk, .ref ir, .int dn, .int md, .int pw_10, .int cm_10, .int wr_10, .ref se, .ref ec, .ref lc, .ref wc, .ref ol, .ref al, .int cs_10, .int (hm9_10 + 0)]))) := hkl272.self (by simp)
                          refine lv_iinc (v := ((nI j272) + 8)) (lv' := [(4, .int ((nI j272) + 8)), (5, .int (nI (j272 + 8))), (3, .int (nI (3100 + j158))), (2, .int (nI j158)), (1, .int y31_1), (0, .ref mo)]) hx hb dX6_sweep_356 hl (k := 1) rfl rfl (by decide) rfl (fun ls hl => ?_)
                          refine lv_goto (tgt := 272) hx hb dX6_sweep_359 (by decide) ?_
                          rw [nI_8] at hl
                          exact ih272 (j272 + 8, (mu Ml272 mo (.inr (6, [.int cd_10, .ref cn, .ref ia, .ref dr, .ref en, .ref la, .ref wo, .int ni_10, .ref op, .ref mk, .ref ir, .int dn, .int md, .int pw_10, .int cm_10, .int wr_10, .ref se, .ref ec, .ref lc, .ref wc, .ref ol, .ref al, .int cs_10, .int (hm9_10 + 0)])))) _ _ _ ⟨⟨by omega, by omega⟩, ⟨_, _, _, _, _, _, _, fcn, fia, fdr, fen, fla, fwo, fop, fmk, fir, fse, fec, flc, fol, fal_2, fwc, hap, (mu_self _ _ _), hmd, ⟨hrC, hrL, hrM⟩, ((mu_ne ne_cn_mo).trans kcn_10), ((mu_ne ne_ia_mo).trans kia_10), ((mu_ne ne_dr_mo).trans kdr_10), ((mu_ne ne_en_mo).trans ken_10), ((mu_ne ne_la_mo).trans kla_10), ((mu_ne ne_wo_mo).trans kwo_10), ((mu_ne ne_op_mo).trans kop_10), ((mu_ne ne_mk_mo).trans kmk_10), ((mu_ne ne_ir_mo).trans kir_10), ((mu_ne ne_se_mo).trans kse_10), ((mu_ne ne_ec_mo).trans kec_10), ((mu_ne ne_lc_mo).trans klc_10), ((mu_ne ne_wc_mo).trans kwc_10), ((mu_ne ne_ol_mo).trans kol_10), ((mu_ne ne_al_mo).trans kal_10)⟩, hkp, hkl272, hm, hS, lv_sub hl [0, 2, 3, 4, 5] rfl⟩ (by show 2147483648 - (j272 + 8) < 2147483648 - j272; omega)
                        · refine lv_iconst (v := 1) hx hb dX6_sweep_347 (by decide) ?_
                          refine lv_goto (tgt := 352) hx hb dX6_sweep_348 (by decide) ?_
                          refine lv_iadd hx hb dX6_sweep_352 ?_
                          refine m_put (T := TX6) (N := 24) (ci := 6) (v := .int (hm9_10 + 1)) (ty := .int) hx hb hts wX6 tyX6 tyX6_ok nmX6 hown hK hm hS hM_10 rfl 23 (by decide) f133 (fun _ h9 => h9) rfl (by decide +kernel) rfl rfl (Nat.le_of_ble_eq_true rfl) dX6_sweep_353 (fun H locs hm hS => ?_)
                          have hm : mm D (AZ z) (mu Ml272 mo (.inr (6, [.int cd_10, .ref cn, .ref ia, .ref dr, .ref en, .ref la, .ref wo, .int ni_10, .ref op, .ref mk, .ref ir, .int dn, .int md, .int pw_10, .int cm_10, .int wr_10, .ref se, .ref ec, .ref lc, .ref wc, .ref ol, .ref al, .int cs_10, .int (hm9_10 + 1)]))) H := hm
                          have hkp : kpx (fun a => a ∈ [mo, cn, ia, dr, en, la, wo, op, mk, ir, se, ec, lc, wc, ol, al]) M (mu Ml272 mo (.inr (6, [.int cd_10, .ref cn, .ref ia, .ref dr, .ref en, .ref la, .ref wo, .int ni_10, .ref op, .ref mk, .ref ir, .int dn, .int md, .int pw_10, .int cm_10, .int wr_10, .ref se, .ref ec, .ref lc, .ref wc, .ref ol, .ref al, .int cs_10, .int (hm9_10 + 1)]))) := (hkp).self (by simp)
                          have hkl158 : kpx (fun a => a ∈ [mo]) (mu Ml31 mo (.inr (6, [.int cd, .ref cn, .ref ia, .ref dr, .ref en, .ref la, .ref wo, .int ni, .ref op, .ref mk, .ref ir, .int dn, .int md, .int pw, .int cm, .int wr, .ref se, .ref ec, .ref lc, .ref wc, .ref ol, .ref al, .int cs, .int 0]))) (mu Ml272 mo (.inr (6, [.int cd_10, .ref cn, .ref ia, .ref dr, .ref en, .ref la, .ref wo, .int ni_10, .ref op, .ref mk, .ref ir, .int dn, .int md, .int pw_10, .int cm_10, .int wr_10, .ref se, .ref ec, .ref lc, .ref wc, .ref ol, .ref al, .int cs_10, .int (hm9_10 + 1)]))) := hkl158.self (by simp)
                          have hkl272 : kpx (fun a => a ∈ [mo]) (mu Ml158 mo (.inr (6, [.int cd_3, .ref cn, .ref ia, .ref dr, .ref en, .ref la, .ref wo, .int ni_3, .ref op, .ref mk, .ref ir, .int dn, .int md, .int pw_3, .int cm_3, .int wr_3, .ref se, .ref ec, .ref lc, .ref wc, .ref ol, .ref al, .int cs_3, .int (hm9_3 + 0)]))) (mu Ml272 mo (.inr (6, [.int cd_10, .ref cn, .ref ia, .ref dr, .ref en, .ref la, .ref wo, .int ni_10, .ref op, .ref mk, .ref ir, .int dn, .int md, .int pw_10, .int cm_10, .int wr_10, .ref se, .ref ec, .ref lc, .ref wc, .ref ol, .ref al, .int cs_10, .int (hm9_10 + 1)]))) := hkl272.self (by simp)
                          refine lv_iinc (v := ((nI j272) + 8)) (lv' := [(4, .int ((nI j272) + 8)), (5, .int (nI (j272 + 8))), (3, .int (nI (3100 + j158))), (2, .int (nI j158)), (1, .int y31_1), (0, .ref mo)]) hx hb dX6_sweep_356 hl (k := 1) rfl rfl (by decide) rfl (fun ls hl => ?_)
                          refine lv_goto (tgt := 272) hx hb dX6_sweep_359 (by decide) ?_
                          rw [nI_8] at hl
                          exact ih272 (j272 + 8, (mu Ml272 mo (.inr (6, [.int cd_10, .ref cn, .ref ia, .ref dr, .ref en, .ref la, .ref wo, .int ni_10, .ref op, .ref mk, .ref ir, .int dn, .int md, .int pw_10, .int cm_10, .int wr_10, .ref se, .ref ec, .ref lc, .ref wc, .ref ol, .ref al, .int cs_10, .int (hm9_10 + 1)])))) _ _ _ ⟨⟨by omega, by omega⟩, ⟨_, _, _, _, _, _, _, fcn, fia, fdr, fen, fla, fwo, fop, fmk, fir, fse, fec, flc, fol, fal_2, fwc, hap, (mu_self _ _ _), hmd, ⟨hrC, hrL, hrM⟩, ((mu_ne ne_cn_mo).trans kcn_10), ((mu_ne ne_ia_mo).trans kia_10), ((mu_ne ne_dr_mo).trans kdr_10), ((mu_ne ne_en_mo).trans ken_10), ((mu_ne ne_la_mo).trans kla_10), ((mu_ne ne_wo_mo).trans kwo_10), ((mu_ne ne_op_mo).trans kop_10), ((mu_ne ne_mk_mo).trans kmk_10), ((mu_ne ne_ir_mo).trans kir_10), ((mu_ne ne_se_mo).trans kse_10), ((mu_ne ne_ec_mo).trans kec_10), ((mu_ne ne_lc_mo).trans klc_10), ((mu_ne ne_wc_mo).trans kwc_10), ((mu_ne ne_ol_mo).trans kol_10), ((mu_ne ne_al_mo).trans kal_10)⟩, hkp, hkl272, hm, hS, lv_sub hl [0, 2, 3, 4, 5] rfl⟩ (by show 2147483648 - (j272 + 8) < 2147483648 - j272; omega)
                · refine lv_iconst (v := 1) hx hb dX6_sweep_260 (by decide) ?_
                  refine lv_goto (tgt := 265) hx hb dX6_sweep_261 (by decide) ?_
                  refine lv_iadd hx hb dX6_sweep_265 ?_
                  refine m_put (T := TX6) (N := 24) (ci := 6) (v := .int (hm9_3 + 1)) (ty := .int) hx hb hts wX6 tyX6 tyX6_ok nmX6 hown hK hm hS hM_3 rfl 23 (by decide) f133 (fun _ h9 => h9) rfl (by decide +kernel) rfl rfl (Nat.le_of_ble_eq_true rfl) dX6_sweep_266 (fun H locs hm hS => ?_)
                  have hm : mm D (AZ z) (mu Ml158 mo (.inr (6, [.int cd_3, .ref cn, .ref ia, .ref dr, .ref en, .ref la, .ref wo, .int ni_3, .ref op, .ref mk, .ref ir, .int dn, .int md, .int pw_3, .int cm_3, .int wr_3, .ref se, .ref ec, .ref lc, .ref wc, .ref ol, .ref al, .int cs_3, .int (hm9_3 + 1)]))) H := hm
                  have hkp : kpx (fun a => a ∈ [mo, cn, ia, dr, en, la, wo, op, mk, ir, se, ec, lc, wc, ol, al]) M (mu Ml158 mo (.inr (6, [.int cd_3, .ref cn, .ref ia, .ref dr, .ref en, .ref la, .ref wo, .int ni_3, .ref op, .ref mk, .ref ir, .int dn, .int md, .int pw_3, .int cm_3, .int wr_3, .ref se, .ref ec, .ref lc, .ref wc, .ref ol, .ref al, .int cs_3, .int (hm9_3 + 1)]))) := (hkp).self (by simp)
                  have hkl158 : kpx (fun a => a ∈ [mo]) (mu Ml31 mo (.inr (6, [.int cd, .ref cn, .ref ia, .ref dr, .ref en, .ref la, .ref wo, .int ni, .ref op, .ref mk, .ref ir, .int dn, .int md, .int pw, .int cm, .int wr, .ref se, .ref ec, .ref lc, .ref wc, .ref ol, .ref al, .int cs, .int 0]))) (mu Ml158 mo (.inr (6, [.int cd_3, .ref cn, .ref ia, .ref dr, .ref en, .ref la, .ref wo, .int ni_3, .ref op, .ref mk, .ref ir, .int dn, .int md, .int pw_3, .int cm_3, .int wr_3, .ref se, .ref ec, .ref lc, .ref wc, .ref ol, .ref al, .int cs_3, .int (hm9_3 + 1)]))) := hkl158.self (by simp)
                  refine lv_iconst (v := 0) hx hb dX6_sweep_269 (by decide) ?_
                  refine lv_istore (lv' := [(4, .int 0), (3, .int (nI (3100 + j158))), (2, .int (nI j158)), (1, .int y31_1), (0, .ref mo)]) hx hb dX6_sweep_270 hl (by decide) rfl (fun ls hl => ?_)
                  have hI0 : mI k (mu Ml158 mo (.inr (6, [.int cd_3, .ref cn, .ref ia, .ref dr, .ref en, .ref la, .ref wo, .int ni_3, .ref op, .ref mk, .ref ir, .int dn, .int md, .int pw_3, .int cm_3, .int wr_3, .ref se, .ref ec, .ref lc, .ref wc, .ref ol, .ref al, .int cs_3, .int (hm9_3 + 1)]))) mo cn ia dr en la wo op mk ir se ec lc wc ol al dn md := ⟨_, _, _, _, _, _, _, fcn, fia, fdr, fen, fla, fwo, fop, fmk, fir, fse, fec, flc, fol, fal_2, fwc, hap, (mu_self _ _ _), hmd, ⟨hrC, hrL, hrM⟩, ((mu_ne ne_cn_mo).trans kcn_3), ((mu_ne ne_ia_mo).trans kia_3), ((mu_ne ne_dr_mo).trans kdr_3), ((mu_ne ne_en_mo).trans ken_3), ((mu_ne ne_la_mo).trans kla_3), ((mu_ne ne_wo_mo).trans kwo_3), ((mu_ne ne_op_mo).trans kop_3), ((mu_ne ne_mk_mo).trans kmk_3), ((mu_ne ne_ir_mo).trans kir_3), ((mu_ne ne_se_mo).trans kse_3), ((mu_ne ne_ec_mo).trans kec_3), ((mu_ne ne_lc_mo).trans klc_3), ((mu_ne ne_wc_mo).trans kwc_3), ((mu_ne ne_ol_mo).trans kol_3), ((mu_ne ne_al_mo).trans kal_3)⟩
                  refine W_loop (σ := Nat × mM) (fun ⟨j272, Ml272⟩ H locs ls => (0 ≤ j272 ∧ j272 < 2147483000) ∧ (mI k Ml272 mo cn ia dr en la wo op mk ir se ec lc wc ol al dn md) ∧ (kpx (fun a => a ∈ [mo, cn, ia, dr, en, la, wo, op, mk, ir, se, ec, lc, wc, ol, al]) M Ml272) ∧ (kpx (fun a => a ∈ [mo]) (mu Ml158 mo (.inr (6, [.int cd_3, .ref cn, .ref ia, .ref dr, .ref en, .ref la, .ref wo, .int ni_3, .ref op, .ref mk, .ref ir, .int dn, .int md, .int pw_3, .int cm_3, .int wr_3, .ref se, .ref ec, .ref lc, .ref wc, .ref ol, .ref al, .int cs_3, .int (hm9_3 + 1)]))) Ml272) ∧ mm D (AZ z) Ml272 H ∧ va_S (AZ z) s.heap H locs ∧ lv_has ls 6 [(4, .int (nI j272)), (3, .int (nI (3100 + j158))), (2, .int (nI j158)), (1, .int y31_1), (0, .ref mo)]) (fun ⟨j272, Ml272⟩ => 2147483648 - j272) (fun _ => 0) (fun _ => 0) ?_ (0, (mu Ml158 mo (.inr (6, [.int cd_3, .ref cn, .ref ia, .ref dr, .ref en, .ref la, .ref wo, .int ni_3, .ref op, .ref mk, .ref ir, .int dn, .int md, .int pw_3, .int cm_3, .int wr_3, .ref se, .ref ec, .ref lc, .ref wc, .ref ol, .ref al, .int cs_3, .int (hm9_3 + 1)])))) _ _ _ ⟨⟨Nat.le_refl _, by omega⟩, hI0, hkp, (kpx.refl _ _), hm, hS, lv_sub hl [0, 1, 2, 3, 4] rfl⟩
                  intro ⟨j272, Ml272⟩ H locs ls hQ ih272
                  obtain ⟨hj272, hI, hkp, hkl272, hm, hS, hl⟩ := hQ
                  try dsimp only at hm hl ih272 hj272 hI hkp hkl272 ⊢
                  obtain ⟨cd_11, ni_11, pw_11, cm_11, wr_11, cs_11, hm9_11, _, _, _, _, _, _, _, _, _, _, _, _, _, _, _, -, hM_11, hmd_11, ⟨-, -, -⟩, -, -, -, -, -, -, -, -, -, -, -, -, -, -, -⟩ := id hI
                  have kcn_11 := hkl272 _ _ (by simp only [List.mem_cons, List.not_mem_nil, or_false, not_or]; exact ne_cn_mo) ((mu_ne ne_cn_mo).trans kcn_3)
                  have kia_11 := hkl272 _ _ (by simp only [List.mem_cons, List.not_mem_nil, or_false, not_or]; exact ne_ia_mo) ((mu_ne ne_ia_mo).trans kia_3)
                  have kdr_11 := hkl272 _ _ (by simp only [List.mem_cons, List.not_mem_nil, or_false, not_or]; exact ne_dr_mo) ((mu_ne ne_dr_mo).trans kdr_3)
                  have ken_11 := hkl272 _ _ (by simp only [List.mem_cons, List.not_mem_nil, or_false, not_or]; exact ne_en_mo) ((mu_ne ne_en_mo).trans ken_3)
                  have kla_11 := hkl272 _ _ (by simp only [List.mem_cons, List.not_mem_nil, or_false, not_or]; exact ne_la_mo) ((mu_ne ne_la_mo).trans kla_3)
                  have kwo_11 := hkl272 _ _ (by simp only [List.mem_cons, List.not_mem_nil, or_false, not_or]; exact ne_wo_mo) ((mu_ne ne_wo_mo).trans kwo_3)
                  have kop_11 := hkl272 _ _ (by simp only [List.mem_cons, List.not_mem_nil, or_false, not_or]; exact ne_op_mo) ((mu_ne ne_op_mo).trans kop_3)
                  have kmk_11 := hkl272 _ _ (by simp only [List.mem_cons, List.not_mem_nil, or_false, not_or]; exact ne_mk_mo) ((mu_ne ne_mk_mo).trans kmk_3)
                  have kir_11 := hkl272 _ _ (by simp only [List.mem_cons, List.not_mem_nil, or_false, not_or]; exact ne_ir_mo) ((mu_ne ne_ir_mo).trans kir_3)
                  have kse_11 := hkl272 _ _ (by simp only [List.mem_cons, List.not_mem_nil, or_false, not_or]; exact ne_se_mo) ((mu_ne ne_se_mo).trans kse_3)
                  have kec_11 := hkl272 _ _ (by simp only [List.mem_cons, List.not_mem_nil, or_false, not_or]; exact ne_ec_mo) ((mu_ne ne_ec_mo).trans kec_3)
                  have klc_11 := hkl272 _ _ (by simp only [List.mem_cons, List.not_mem_nil, or_false, not_or]; exact ne_lc_mo) ((mu_ne ne_lc_mo).trans klc_3)
                  have kwc_11 := hkl272 _ _ (by simp only [List.mem_cons, List.not_mem_nil, or_false, not_or]; exact ne_wc_mo) ((mu_ne ne_wc_mo).trans kwc_3)
                  have kol_11 := hkl272 _ _ (by simp only [List.mem_cons, List.not_mem_nil, or_false, not_or]; exact ne_ol_mo) ((mu_ne ne_ol_mo).trans kol_3)
                  have kal_11 := hkl272 _ _ (by simp only [List.mem_cons, List.not_mem_nil, or_false, not_or]; exact ne_al_mo) ((mu_ne ne_al_mo).trans kal_3)
                  have hkl158 := hkl158.trans (hkl272.mono (fun a ha => by simp only [List.mem_cons, List.not_mem_nil, or_false] at ha ⊢; subst ha; simp))
                  refine lv_iload hx hb dX6_sweep_272 (lv_at hl 0 rfl) ?_
                  refine lv_aload_n hx hb dX6_sweep_274 rfl (lv_at hl 4 rfl) ?_
                  refine m_get (T := TX6) (N := 24) (ci := 6) (v := .ref la) hx hb hts wX6 hown hK hm hM_11 rfl 5 (by decide) f24 (fun _ h9 => h9) rfl dX6_sweep_275 ?_
                  refine lv_iload_n hx hb dX6_sweep_278 rfl (lv_at hl 1 rfl) ?_
                  refine m_iald hx hb hK hm 0 kla_11 rfl (vp_in_nI (by omega) (by decide)) dX6_sweep_279 ?_
                  obtain ⟨u50, hu50, eu50⟩ := hrL (3100 + j158)
                  refine W.eq (g2 := F0 m 280 ls [.int (nI u50), .int (nI j272)]) (by rw [show (fla ((nI (3100 + j158))).toNatClampNeg) = nI u50 from (congrArg fla (show ((nI (3100 + j158))).toNatClampNeg = (3100 + j158) from nI_clamp (by omega))).trans eu50]) ?_
                  have hb_u50 := hu50
                  have hu50 : u50 ≤ 64 := hu50
                  refine lv_icmp_ge (tgt := 362) hx hb dX6_sweep_280 (by decide) (fun c51 => ?_) (fun c51 => ?_)
                  · have hqc51 : u50 ≤ j272 := nb_le (a := u50) (b := j272) (by omega) (by omega) c51
                    refine lv_iinc (v := ((nI j158) + 1)) (lv' := [(2, .int ((nI j158) + 1)), (4, .int (nI j272)), (3, .int (nI (3100 + j158))), (1, .int y31_1), (0, .ref mo)]) hx hb dX6_sweep_362 hl (k := 2) rfl rfl (by decide) rfl (fun ls hl => ?_)
                    refine lv_goto (tgt := 158) hx hb dX6_sweep_365 (by decide) ?_
                    rw [nI_1] at hl
                    exact ih158 (j158 + 1, Ml272) _ _ _ ⟨⟨by omega, by omega⟩, ⟨_, _, _, _, _, _, _, fcn, fia, fdr, fen, fla, fwo, fop, fmk, fir, fse, fec, flc, fol, fal_2, fwc, hap, hM_11, hmd, ⟨hrC, hrL, hrM⟩, kcn_11, kia_11, kdr_11, ken_11, kla_11, kwo_11, kop_11, kmk_11, kir_11, kse_11, kec_11, klc_11, kwc_11, kol_11, kal_11⟩, hkp, hkl158, hm, hS, lv_sub hl [0, 3, 4] rfl⟩ (by show 2147483648 - (j158 + 1) < 2147483648 - j158; omega)
                  · have hqc51 : j272 < u50 := nb_nle (a := u50) (b := j272) (by omega) (by omega) c51
                    refine lv_iload hx hb dX6_sweep_283 (lv_at hl 0 rfl) ?_
                    refine lv_bipush (v := 8) hx hb dX6_sweep_285 (by decide) ?_
                    refine lv_iadd hx hb dX6_sweep_287 ?_
                    refine W.eq (g2 := F0 m 288 ls [.int (nI (j272 + 8))]) (by rw [show (((nI j272)) + (8) : Int32) = nI (j272 + 8) from nI_add j272 8]) ?_
                    refine lv_aload_n hx hb dX6_sweep_288 rfl (lv_at hl 4 rfl) ?_
                    refine m_get (T := TX6) (N := 24) (ci := 6) (v := .ref la) hx hb hts wX6 hown hK hm hM_11 rfl 5 (by decide) f24 (fun _ h9 => h9) rfl dX6_sweep_289 ?_
                    refine lv_iload_n hx hb dX6_sweep_292 rfl (lv_at hl 1 rfl) ?_
                    refine m_iald hx hb hK hm 0 kla_11 rfl (vp_in_nI (by omega) (by decide)) dX6_sweep_293 ?_
                    refine W.eq (g2 := F0 m 294 ls [.int (nI u50), .int (nI (j272 + 8))]) (by rw [show (fla ((nI (3100 + j158))).toNatClampNeg) = nI u50 from (congrArg fla (show ((nI (3100 + j158))).toNatClampNeg = (3100 + j158) from nI_clamp (by omega))).trans eu50]) ?_
                    refine lv_icmp_ge (tgt := 305) hx hb dX6_sweep_294 (by decide) (fun c52 => ?_) (fun c52 => ?_)
                    · have hqc52 : u50 ≤ (j272 + 8) := nb_le (a := u50) (b := (j272 + 8)) (by omega) (by omega) c52
                      refine lv_aload_n hx hb dX6_sweep_305 rfl (lv_at hl 4 rfl) ?_
                      refine m_get (T := TX6) (N := 24) (ci := 6) (v := .ref la) hx hb hts wX6 hown hK hm hM_11 rfl 5 (by decide) f24 (fun _ h9 => h9) rfl dX6_sweep_306 ?_
                      refine lv_iload_n hx hb dX6_sweep_309 rfl (lv_at hl 1 rfl) ?_
                      refine m_iald hx hb hK hm 0 kla_11 rfl (vp_in_nI (by omega) (by decide)) dX6_sweep_310 ?_
                      refine W.eq (g2 := F0 m 311 ls [.int (nI u50)]) (by rw [show (fla ((nI (3100 + j158))).toNatClampNeg) = nI u50 from (congrArg fla (show ((nI (3100 + j158))).toNatClampNeg = (3100 + j158) from nI_clamp (by omega))).trans eu50]) ?_
                      refine lv_istore (lv' := [(5, .int (nI u50)), (4, .int (nI j272)), (3, .int (nI (3100 + j158))), (2, .int (nI j158)), (1, .int y31_1), (0, .ref mo)]) hx hb dX6_sweep_311 hl (by decide) rfl (fun ls hl => ?_)
                      refine lv_aload_n hx hb dX6_sweep_313 rfl (lv_at hl 5 rfl) ?_
                      refine lv_dup hx hb dX6_sweep_314 rfl ?_
                      refine m_get (T := TX6) (N := 24) (ci := 6) (v := .int hm9_11) hx hb hts wX6 hown hK hm hM_11 rfl 23 (by decide) f133 (fun _ h9 => h9) rfl dX6_sweep_315 ?_
                      refine lv_aload_n hx hb dX6_sweep_318 rfl (lv_at hl 5 rfl) ?_
                      refine m_get (T := TX6) (N := 24) (ci := 6) (v := .ref wc) hx hb hts wX6 hown hK hm hM_11 rfl 19 (by decide) f57 (fun _ h9 => h9) rfl dX6_sweep_319 ?_
                      refine lv_iload_n hx hb dX6_sweep_322 rfl (lv_at hl 3 rfl) ?_
                      refine m_lald hx hb hK hm 1 kwc_11 rfl (vp_in_nI (by omega) (by decide)) dX6_sweep_323 ?_
                      refine lv_iload hx hb dX6_sweep_324 (lv_at hl 1 rfl) ?_
                      refine lv_lushr (v := (us (fwc ((nI j158)).toNatClampNeg) (nI j272))) hx hb dX6_sweep_326 rfl ?_
                      refine lv_ldc2 hx hb hown (hts (.constantLong RX6 136 (255)) (by decide +kernel)) dX6_sweep_327 ?_
                      refine lv_land hx hb dX6_sweep_330 ?_
                      refine lv_lconst (v := 0) hx hb dX6_sweep_331 (by decide) ?_
                      refine W.lcmp hx hb dX6_sweep_332 ?_
                      refine lv_if_ne (tgt := 347) hx hb dX6_sweep_333 (by decide) (fun c53 => ?_) (fun c53 => ?_)
                      · refine lv_iconst (v := 1) hx hb dX6_sweep_347 (by decide) ?_
                        refine lv_goto (tgt := 352) hx hb dX6_sweep_348 (by decide) ?_
                        refine lv_iadd hx hb dX6_sweep_352 ?_
                        refine m_put (T := TX6) (N := 24) (ci := 6) (v := .int (hm9_11 + 1)) (ty := .int) hx hb hts wX6 tyX6 tyX6_ok nmX6 hown hK hm hS hM_11 rfl 23 (by decide) f133 (fun _ h9 => h9) rfl (by decide +kernel) rfl rfl (Nat.le_of_ble_eq_true rfl) dX6_sweep_353 (fun H locs hm hS => ?_)
                        have hm : mm D (AZ z) (mu Ml272 mo (.inr (6, [.int cd_11, .ref cn, .ref ia, .ref dr, .ref en, .ref la, .ref wo, .int ni_11, .ref op, .ref mk, .ref ir, .int dn, .int md, .int pw_11, .int cm_11, .int wr_11, .ref se, .ref ec, .ref lc, .ref wc, .ref ol, .ref al, .int cs_11, .int (hm9_11 + 1)]))) H := hm
                        have hkp : kpx (fun a => a ∈ [mo, cn, ia, dr, en, la, wo, op, mk, ir, se, ec, lc, wc, ol, al]) M (mu Ml272 mo (.inr (6, [.int cd_11, .ref cn, .ref ia, .ref dr, .ref en, .ref la, .ref wo, .int ni_11, .ref op, .ref mk, .ref ir, .int dn, .int md, .int pw_11, .int cm_11, .int wr_11, .ref se, .ref ec, .ref lc, .ref wc, .ref ol, .ref al, .int cs_11, .int (hm9_11 + 1)]))) := (hkp).self (by simp)
                        have hkl158 : kpx (fun a => a ∈ [mo]) (mu Ml31 mo (.inr (6, [.int cd, .ref cn, .ref ia, .ref dr, .ref en, .ref la, .ref wo, .int ni, .ref op, .ref mk, .ref ir, .int dn, .int md, .int pw, .int cm, .int wr, .ref se, .ref ec, .ref lc, .ref wc, .ref ol, .ref al, .int cs, .int 0]))) (mu Ml272 mo (.inr (6, [.int cd_11, .ref cn, .ref ia, .ref dr, .ref en, .ref la, .ref wo, .int ni_11, .ref op, .ref mk, .ref ir, .int dn, .int md, .int pw_11, .int cm_11, .int wr_11, .ref se, .ref ec, .ref lc, .ref wc, .ref ol, .ref al, .int cs_11, .int (hm9_11 + 1)]))) := hkl158.self (by simp)
                        have hkl272 : kpx (fun a => a ∈ [mo]) (mu Ml158 mo (.inr (6, [.int cd_3, .ref cn, .ref ia, .ref dr, .ref en, .ref la, .ref wo, .int ni_3, .ref op, .ref mk, .ref ir, .int dn, .int md, .int pw_3, .int cm_3, .int wr_3, .ref se, .ref ec, .ref lc, .ref wc, .ref ol, .ref al, .int cs_3, .int (hm9_3 + 1)]))) (mu Ml272 mo (.inr (6, [.int cd_11, .ref cn, .ref ia, .ref dr, .ref en, .ref la, .ref wo, .int ni_11, .ref op, .ref mk, .ref ir, .int dn, .int md, .int pw_11, .int cm_11, .int wr_11, .ref se, .ref ec, .ref lc, .ref wc, .ref ol, .ref al, .int cs_11, .int (hm9_11 + 1)]))) := hkl272.self (by simp)
                        refine lv_iinc (v := ((nI j272) + 8)) (lv' := [(4, .int ((nI j272) + 8)), (5, .int (nI u50)), (3, .int (nI (3100 + j158))), (2, .int (nI j158)), (1, .int y31_1), (0, .ref mo)]) hx hb dX6_sweep_356 hl (k := 1) rfl rfl (by decide) rfl (fun ls hl => ?_)
                        refine lv_goto (tgt := 272) hx hb dX6_sweep_359 (by decide) ?_
                        rw [nI_8] at hl
                        exact ih272 (j272 + 8, (mu Ml272 mo (.inr (6, [.int cd_11, .ref cn, .ref ia, .ref dr, .ref en, .ref la, .ref wo, .int ni_11, .ref op, .ref mk, .ref ir, .int dn, .int md, .int pw_11, .int cm_11, .int wr_11, .ref se, .ref ec, .ref lc, .ref wc, .ref ol, .ref al, .int cs_11, .int (hm9_11 + 1)])))) _ _ _ ⟨⟨by omega, by omega⟩, ⟨_, _, _, _, _, _, _, fcn, fia, fdr, fen, fla, fwo, fop, fmk, fir, fse, fec, flc, fol, fal_2, fwc, hap, (mu_self _ _ _), hmd, ⟨hrC, hrL, hrM⟩, ((mu_ne ne_cn_mo).trans kcn_11), ((mu_ne ne_ia_mo).trans kia_11), ((mu_ne ne_dr_mo).trans kdr_11), ((mu_ne ne_en_mo).trans ken_11), ((mu_ne ne_la_mo).trans kla_11), ((mu_ne ne_wo_mo).trans kwo_11), ((mu_ne ne_op_mo).trans kop_11), ((mu_ne ne_mk_mo).trans kmk_11), ((mu_ne ne_ir_mo).trans kir_11), ((mu_ne ne_se_mo).trans kse_11), ((mu_ne ne_ec_mo).trans kec_11), ((mu_ne ne_lc_mo).trans klc_11), ((mu_ne ne_wc_mo).trans kwc_11), ((mu_ne ne_ol_mo).trans kol_11), ((mu_ne ne_al_mo).trans kal_11)⟩, hkp, hkl272, hm, hS, lv_sub hl [0, 2, 3, 4, 5] rfl⟩ (by show 2147483648 - (j272 + 8) < 2147483648 - j272; omega)
                      · refine lv_iload hx hb dX6_sweep_336 (lv_at hl 0 rfl) ?_
                        refine lv_aload_n hx hb dX6_sweep_338 rfl (lv_at hl 5 rfl) ?_
                        refine m_get (T := TX6) (N := 24) (ci := 6) (v := .ref ol) hx hb hts wX6 hown hK hm hM_11 rfl 20 (by decide) f61 (fun _ h9 => h9) rfl dX6_sweep_339 ?_
                        refine lv_iload_n hx hb dX6_sweep_342 rfl (lv_at hl 3 rfl) ?_
                        refine m_iald hx hb hK hm 0 kol_11 rfl (vp_in_nI (by omega) (by decide)) dX6_sweep_343 ?_
                        refine lv_icmp_le (tgt := 351) hx hb dX6_sweep_344 (by decide) (fun c54 => ?_) (fun c54 => ?_)
                        · refine lv_iconst (v := 0) hx hb dX6_sweep_351 (by decide) ?_
                          refine lv_iadd hx hb dX6_sweep_352 ?_
                          refine m_put (T := TX6) (N := 24) (ci := 6) (v := .int (hm9_11 + 0)) (ty := .int) hx hb hts wX6 tyX6 tyX6_ok nmX6 hown hK hm hS hM_11 rfl 23 (by decide) f133 (fun _ h9 => h9) rfl (by decide +kernel) rfl rfl (Nat.le_of_ble_eq_true rfl) dX6_sweep_353 (fun H locs hm hS => ?_)
                          have hm : mm D (AZ z) (mu Ml272 mo (.inr (6, [.int cd_11, .ref cn, .ref ia, .ref dr, .ref en, .ref la, .ref wo, .int ni_11, .ref op, .ref mk, .ref ir, .int dn, .int md, .int pw_11, .int cm_11, .int wr_11, .ref se, .ref ec, .ref lc, .ref wc, .ref ol, .ref al, .int cs_11, .int (hm9_11 + 0)]))) H := hm
                          have hkp : kpx (fun a => a ∈ [mo, cn, ia, dr, en, la, wo, op, mk, ir, se, ec, lc, wc, ol, al]) M (mu Ml272 mo (.inr (6, [.int cd_11, .ref cn, .ref ia, .ref dr, .ref en, .ref la, .ref wo, .int ni_11, .ref op, .ref mk, .ref ir, .int dn, .int md, .int pw_11, .int cm_11, .int wr_11, .ref se, .ref ec, .ref lc, .ref wc, .ref ol, .ref al, .int cs_11, .int (hm9_11 + 0)]))) := (hkp).self (by simp)
                          have hkl158 : kpx (fun a => a ∈ [mo]) (mu Ml31 mo (.inr (6, [.int cd, .ref cn, .ref ia, .ref dr, .ref en, .ref la, .ref wo, .int ni, .ref op, .ref mk, .ref ir, .int dn, .int md, .int pw, .int cm, .int wr, .ref se, .ref ec, .ref lc, .ref wc, .ref ol, .ref al, .int cs, .int 0]))) (mu Ml272 mo (.inr (6, [.int cd_11, .ref cn, .ref ia, .ref dr, .ref en, .ref la, .ref wo, .int ni_11, .ref op, .ref mk, .ref ir, .int dn, .int md, .int pw_11, .int cm_11, .int wr_11, .ref se, .ref ec, .ref lc, .ref wc, .ref ol, .ref al, .int cs_11, .int (hm9_11 + 0)]))) := hkl158.self (by simp)
                          have hkl272 : kpx (fun a => a ∈ [mo]) (mu Ml158 mo (.inr (6, [.int cd_3, .ref cn, .ref ia, .ref dr, .ref en, .ref la, .ref wo, .int ni_3, .ref op, .ref mk, .ref ir, .int dn, .int md, .int pw_3, .int cm_3, .int wr_3, .ref se, .ref ec, .ref lc, .ref wc, .ref ol, .ref al, .int cs_3, .int (hm9_3 + 1)]))) (mu Ml272 mo (.inr (6, [.int cd_11, .ref cn, .ref ia, .ref dr, .ref en, .ref la, .ref wo, .int ni_11, .ref op, .ref mk, .ref ir, .int dn, .int md, .int pw_11, .int cm_11, .int wr_11, .ref se, .ref ec, .ref lc, .ref wc, .ref ol, .ref al, .int cs_11, .int (hm9_11 + 0)]))) := hkl272.self (by simp)
                          refine lv_iinc (v := ((nI j272) + 8)) (lv' := [(4, .int ((nI j272) + 8)), (5, .int (nI u50)), (3, .int (nI (3100 + j158))), (2, .int (nI j158)), (1, .int y31_1), (0, .ref mo)]) hx hb dX6_sweep_356 hl (k := 1) rfl rfl (by decide) rfl (fun ls hl => ?_)
                          refine lv_goto (tgt := 272) hx hb dX6_sweep_359 (by decide) ?_
                          rw [nI_8] at hl
                          exact ih272 (j272 + 8, (mu Ml272 mo (.inr (6, [.int cd_11, .ref cn, .ref ia, .ref dr, .ref en, .ref la, .ref wo, .int ni_11, .ref op, .ref mk, .ref ir, .int dn, .int md, .int pw_11, .int cm_11, .int wr_11, .ref se, .ref ec, .ref lc, .ref wc, .ref ol, .ref al, .int cs_11, .int (hm9_11 + 0)])))) _ _ _ ⟨⟨by omega, by omega⟩, ⟨_, _, _, _, _, _, _, fcn, fia, fdr, fen, fla, fwo, fop, fmk, fir, fse, fec, flc, fol, fal_2, fwc, hap, (mu_self _ _ _), hmd, ⟨hrC, hrL, hrM⟩, ((mu_ne ne_cn_mo).trans kcn_11), ((mu_ne ne_ia_mo).trans kia_11), ((mu_ne ne_dr_mo).trans kdr_11), ((mu_ne ne_en_mo).trans ken_11), ((mu_ne ne_la_mo).trans kla_11), ((mu_ne ne_wo_mo).trans kwo_11), ((mu_ne ne_op_mo).trans kop_11), ((mu_ne ne_mk_mo).trans kmk_11), ((mu_ne ne_ir_mo).trans kir_11), ((mu_ne ne_se_mo).trans kse_11), ((mu_ne ne_ec_mo).trans kec_11), ((mu_ne ne_lc_mo).trans klc_11), ((mu_ne ne_wc_mo).trans kwc_11), ((mu_ne ne_ol_mo).trans kol_11), ((mu_ne ne_al_mo).trans kal_11)⟩, hkp, hkl272, hm, hS, lv_sub hl [0, 2, 3, 4, 5] rfl⟩ (by show 2147483648 - (j272 + 8) < 2147483648 - j272; omega)
                        · refine lv_iconst (v := 1) hx hb dX6_sweep_347 (by decide) ?_
                          refine lv_goto (tgt := 352) hx hb dX6_sweep_348 (by decide) ?_
                          refine lv_iadd hx hb dX6_sweep_352 ?_
                          refine m_put (T := TX6) (N := 24) (ci := 6) (v := .int (hm9_11 + 1)) (ty := .int) hx hb hts wX6 tyX6 tyX6_ok nmX6 hown hK hm hS hM_11 rfl 23 (by decide) f133 (fun _ h9 => h9) rfl (by decide +kernel) rfl rfl (Nat.le_of_ble_eq_true rfl) dX6_sweep_353 (fun H locs hm hS => ?_)
                          have hm : mm D (AZ z) (mu Ml272 mo (.inr (6, [.int cd_11, .ref cn, .ref ia, .ref dr, .ref en, .ref la, .ref wo, .int ni_11, .ref op, .ref mk, .ref ir, .int dn, .int md, .int pw_11, .int cm_11, .int wr_11, .ref se, .ref ec, .ref lc, .ref wc, .ref ol, .ref al, .int cs_11, .int (hm9_11 + 1)]))) H := hm
                          have hkp : kpx (fun a => a ∈ [mo, cn, ia, dr, en, la, wo, op, mk, ir, se, ec, lc, wc, ol, al]) M (mu Ml272 mo (.inr (6, [.int cd_11, .ref cn, .ref ia, .ref dr, .ref en, .ref la, .ref wo, .int ni_11, .ref op, .ref mk, .ref ir, .int dn, .int md, .int pw_11, .int cm_11, .int wr_11, .ref se, .ref ec, .ref lc, .ref wc, .ref ol, .ref al, .int cs_11, .int (hm9_11 + 1)]))) := (hkp).self (by simp)
                          have hkl158 : kpx (fun a => a ∈ [mo]) (mu Ml31 mo (.inr (6, [.int cd, .ref cn, .ref ia, .ref dr, .ref en, .ref la, .ref wo, .int ni, .ref op, .ref mk, .ref ir, .int dn, .int md, .int pw, .int cm, .int wr, .ref se, .ref ec, .ref lc, .ref wc, .ref ol, .ref al, .int cs, .int 0]))) (mu Ml272 mo (.inr (6, [.int cd_11, .ref cn, .ref ia, .ref dr, .ref en, .ref la, .ref wo, .int ni_11, .ref op, .ref mk, .ref ir, .int dn, .int md, .int pw_11, .int cm_11, .int wr_11, .ref se, .ref ec, .ref lc, .ref wc, .ref ol, .ref al, .int cs_11, .int (hm9_11 + 1)]))) := hkl158.self (by simp)
                          have hkl272 : kpx (fun a => a ∈ [mo]) (mu Ml158 mo (.inr (6, [.int cd_3, .ref cn, .ref ia, .ref dr, .ref en, .ref la, .ref wo, .int ni_3, .ref op, .ref mk, .ref ir, .int dn, .int md, .int pw_3, .int cm_3, .int wr_3, .ref se, .ref ec, .ref lc, .ref wc, .ref ol, .ref al, .int cs_3, .int (hm9_3 + 1)]))) (mu Ml272 mo (.inr (6, [.int cd_11, .ref cn, .ref ia, .ref dr, .ref en, .ref la, .ref wo, .int ni_11, .ref op, .ref mk, .ref ir, .int dn, .int md, .int pw_11, .int cm_11, .int wr_11, .ref se, .ref ec, .ref lc, .ref wc, .ref ol, .ref al, .int cs_11, .int (hm9_11 + 1)]))) := hkl272.self (by simp)
                          refine lv_iinc (v := ((nI j272) + 8)) (lv' := [(4, .int ((nI j272) + 8)), (5, .int (nI u50)), (3, .int (nI (3100 + j158))), (2, .int (nI j158)), (1, .int y31_1), (0, .ref mo)]) hx hb dX6_sweep_356 hl (k := 1) rfl rfl (by decide) rfl (fun ls hl => ?_)
                          refine lv_goto (tgt := 272) hx hb dX6_sweep_359 (by decide) ?_
                          rw [nI_8] at hl
                          exact ih272 (j272 + 8, (mu Ml272 mo (.inr (6, [.int cd_11, .ref cn, .ref ia, .ref dr, .ref en, .ref la, .ref wo, .int ni_11, .ref op, .ref mk, .ref ir, .int dn, .int md, .int pw_11, .int cm_11, .int wr_11, .ref se, .ref ec, .ref lc, .ref wc, .ref ol, .ref al, .int cs_11, .int (hm9_11 + 1)])))) _ _ _ ⟨⟨by omega, by omega⟩, ⟨_, _, _, _, _, _, _, fcn, fia, fdr, fen, fla, fwo, fop, fmk, fir, fse, fec, flc, fol, fal_2, fwc, hap, (mu_self _ _ _), hmd, ⟨hrC, hrL, hrM⟩, ((mu_ne ne_cn_mo).trans kcn_11), ((mu_ne ne_ia_mo).trans kia_11), ((mu_ne ne_dr_mo).trans kdr_11), ((mu_ne ne_en_mo).trans ken_11), ((mu_ne ne_la_mo).trans kla_11), ((mu_ne ne_wo_mo).trans kwo_11), ((mu_ne ne_op_mo).trans kop_11), ((mu_ne ne_mk_mo).trans kmk_11), ((mu_ne ne_ir_mo).trans kir_11), ((mu_ne ne_se_mo).trans kse_11), ((mu_ne ne_ec_mo).trans kec_11), ((mu_ne ne_lc_mo).trans klc_11), ((mu_ne ne_wc_mo).trans kwc_11), ((mu_ne ne_ol_mo).trans kol_11), ((mu_ne ne_al_mo).trans kal_11)⟩, hkp, hkl272, hm, hS, lv_sub hl [0, 2, 3, 4, 5] rfl⟩ (by show 2147483648 - (j272 + 8) < 2147483648 - j272; omega)
                    · have hqc52 : (j272 + 8) < u50 := nb_nle (a := u50) (b := (j272 + 8)) (by omega) (by omega) c52
                      refine lv_iload hx hb dX6_sweep_297 (lv_at hl 0 rfl) ?_
                      refine lv_bipush (v := 8) hx hb dX6_sweep_299 (by decide) ?_
                      refine lv_iadd hx hb dX6_sweep_301 ?_
                      refine W.eq (g2 := F0 m 302 ls [.int (nI (j272 + 8))]) (by rw [show (((nI j272)) + (8) : Int32) = nI (j272 + 8) from nI_add j272 8]) ?_
                      refine lv_goto (tgt := 311) hx hb dX6_sweep_302 (by decide) ?_
                      refine lv_istore (lv' := [(5, .int (nI (j272 + 8))), (4, .int (nI j272)), (3, .int (nI (3100 + j158))), (2, .int (nI j158)), (1, .int y31_1), (0, .ref mo)]) hx hb dX6_sweep_311 hl (by decide) rfl (fun ls hl => ?_)
                      refine lv_aload_n hx hb dX6_sweep_313 rfl (lv_at hl 5 rfl) ?_
                      refine lv_dup hx hb dX6_sweep_314 rfl ?_
                      refine m_get (T := TX6) (N := 24) (ci := 6) (v := .int hm9_11) hx hb hts wX6 hown hK hm hM_11 rfl 23 (by decide) f133 (fun _ h9 => h9) rfl dX6_sweep_315 ?_
                      refine lv_aload_n hx hb dX6_sweep_318 rfl (lv_at hl 5 rfl) ?_
                      refine m_get (T := TX6) (N := 24) (ci := 6) (v := .ref wc) hx hb hts wX6 hown hK hm hM_11 rfl 19 (by decide) f57 (fun _ h9 => h9) rfl dX6_sweep_319 ?_
                      refine lv_iload_n hx hb dX6_sweep_322 rfl (lv_at hl 3 rfl) ?_
                      refine m_lald hx hb hK hm 1 kwc_11 rfl (vp_in_nI (by omega) (by decide)) dX6_sweep_323 ?_
                      refine lv_iload hx hb dX6_sweep_324 (lv_at hl 1 rfl) ?_
                      refine lv_lushr (v := (us (fwc ((nI j158)).toNatClampNeg) (nI j272))) hx hb dX6_sweep_326 rfl ?_
                      refine lv_ldc2 hx hb hown (hts (.constantLong RX6 136 (255)) (by decide +kernel)) dX6_sweep_327 ?_
                      refine lv_land hx hb dX6_sweep_330 ?_
                      refine lv_lconst (v := 0) hx hb dX6_sweep_331 (by decide) ?_
                      refine W.lcmp hx hb dX6_sweep_332 ?_
                      refine lv_if_ne (tgt := 347) hx hb dX6_sweep_333 (by decide) (fun c55 => ?_) (fun c55 => ?_)
                      · refine lv_iconst (v := 1) hx hb dX6_sweep_347 (by decide) ?_
                        refine lv_goto (tgt := 352) hx hb dX6_sweep_348 (by decide) ?_
                        refine lv_iadd hx hb dX6_sweep_352 ?_
                        refine m_put (T := TX6) (N := 24) (ci := 6) (v := .int (hm9_11 + 1)) (ty := .int) hx hb hts wX6 tyX6 tyX6_ok nmX6 hown hK hm hS hM_11 rfl 23 (by decide) f133 (fun _ h9 => h9) rfl (by decide +kernel) rfl rfl (Nat.le_of_ble_eq_true rfl) dX6_sweep_353 (fun H locs hm hS => ?_)
                        have hm : mm D (AZ z) (mu Ml272 mo (.inr (6, [.int cd_11, .ref cn, .ref ia, .ref dr, .ref en, .ref la, .ref wo, .int ni_11, .ref op, .ref mk, .ref ir, .int dn, .int md, .int pw_11, .int cm_11, .int wr_11, .ref se, .ref ec, .ref lc, .ref wc, .ref ol, .ref al, .int cs_11, .int (hm9_11 + 1)]))) H := hm
                        have hkp : kpx (fun a => a ∈ [mo, cn, ia, dr, en, la, wo, op, mk, ir, se, ec, lc, wc, ol, al]) M (mu Ml272 mo (.inr (6, [.int cd_11, .ref cn, .ref ia, .ref dr, .ref en, .ref la, .ref wo, .int ni_11, .ref op, .ref mk, .ref ir, .int dn, .int md, .int pw_11, .int cm_11, .int wr_11, .ref se, .ref ec, .ref lc, .ref wc, .ref ol, .ref al, .int cs_11, .int (hm9_11 + 1)]))) := (hkp).self (by simp)
                        have hkl158 : kpx (fun a => a ∈ [mo]) (mu Ml31 mo (.inr (6, [.int cd, .ref cn, .ref ia, .ref dr, .ref en, .ref la, .ref wo, .int ni, .ref op, .ref mk, .ref ir, .int dn, .int md, .int pw, .int cm, .int wr, .ref se, .ref ec, .ref lc, .ref wc, .ref ol, .ref al, .int cs, .int 0]))) (mu Ml272 mo (.inr (6, [.int cd_11, .ref cn, .ref ia, .ref dr, .ref en, .ref la, .ref wo, .int ni_11, .ref op, .ref mk, .ref ir, .int dn, .int md, .int pw_11, .int cm_11, .int wr_11, .ref se, .ref ec, .ref lc, .ref wc, .ref ol, .ref al, .int cs_11, .int (hm9_11 + 1)]))) := hkl158.self (by simp)
                        have hkl272 : kpx (fun a => a ∈ [mo]) (mu Ml158 mo (.inr (6, [.int cd_3, .ref cn, .ref ia, .ref dr, .ref en, .ref la, .ref wo, .int ni_3, .ref op, .ref mk, .ref ir, .int dn, .int md, .int pw_3, .int cm_3, .int wr_3, .ref se, .ref ec, .ref lc, .ref wc, .ref ol, .ref al, .int cs_3, .int (hm9_3 + 1)]))) (mu Ml272 mo (.inr (6, [.int cd_11, .ref cn, .ref ia, .ref dr, .ref en, .ref la, .ref wo, .int ni_11, .ref op, .ref mk, .ref ir, .int dn, .int md, .int pw_11, .int cm_11, .int wr_11, .ref se, .ref ec, .ref lc, .ref wc, .ref ol, .ref al, .int cs_11, .int (hm9_11 + 1)]))) := hkl272.self (by simp)
                        refine lv_iinc (v := ((nI j272) + 8)) (lv' := [(4, .int ((nI j272) + 8)), (5, .int (nI (j272 + 8))), (3, .int (nI (3100 + j158))), (2, .int (nI j158)), (1, .int y31_1), (0, .ref mo)]) hx hb dX6_sweep_356 hl (k := 1) rfl rfl (by decide) rfl (fun ls hl => ?_)
                        refine lv_goto (tgt := 272) hx hb dX6_sweep_359 (by decide) ?_
                        rw [nI_8] at hl
                        exact ih272 (j272 + 8, (mu Ml272 mo (.inr (6, [.int cd_11, .ref cn, .ref ia, .ref dr, .ref en, .ref la, .ref wo, .int ni_11, .ref op, .ref mk, .ref ir, .int dn, .int md, .int pw_11, .int cm_11, .int wr_11, .ref se, .ref ec, .ref lc, .ref wc, .ref ol, .ref al, .int cs_11, .int (hm9_11 + 1)])))) _ _ _ ⟨⟨by omega, by omega⟩, ⟨_, _, _, _, _, _, _, fcn, fia, fdr, fen, fla, fwo, fop, fmk, fir, fse, fec, flc, fol, fal_2, fwc, hap, (mu_self _ _ _), hmd, ⟨hrC, hrL, hrM⟩, ((mu_ne ne_cn_mo).trans kcn_11), ((mu_ne ne_ia_mo).trans kia_11), ((mu_ne ne_dr_mo).trans kdr_11), ((mu_ne ne_en_mo).trans ken_11), ((mu_ne ne_la_mo).trans kla_11), ((mu_ne ne_wo_mo).trans kwo_11), ((mu_ne ne_op_mo).trans kop_11), ((mu_ne ne_mk_mo).trans kmk_11), ((mu_ne ne_ir_mo).trans kir_11), ((mu_ne ne_se_mo).trans kse_11), ((mu_ne ne_ec_mo).trans kec_11), ((mu_ne ne_lc_mo).trans klc_11), ((mu_ne ne_wc_mo).trans kwc_11), ((mu_ne ne_ol_mo).trans kol_11), ((mu_ne ne_al_mo).trans kal_11)⟩, hkp, hkl272, hm, hS, lv_sub hl [0, 2, 3, 4, 5] rfl⟩ (by show 2147483648 - (j272 + 8) < 2147483648 - j272; omega)
                      · refine lv_iload hx hb dX6_sweep_336 (lv_at hl 0 rfl) ?_
                        refine lv_aload_n hx hb dX6_sweep_338 rfl (lv_at hl 5 rfl) ?_
                        refine m_get (T := TX6) (N := 24) (ci := 6) (v := .ref ol) hx hb hts wX6 hown hK hm hM_11 rfl 20 (by decide) f61 (fun _ h9 => h9) rfl dX6_sweep_339 ?_
                        refine lv_iload_n hx hb dX6_sweep_342 rfl (lv_at hl 3 rfl) ?_
                        refine m_iald hx hb hK hm 0 kol_11 rfl (vp_in_nI (by omega) (by decide)) dX6_sweep_343 ?_
                        refine lv_icmp_le (tgt := 351) hx hb dX6_sweep_344 (by decide) (fun c56 => ?_) (fun c56 => ?_)
                        · refine lv_iconst (v := 0) hx hb dX6_sweep_351 (by decide) ?_
                          refine lv_iadd hx hb dX6_sweep_352 ?_
                          refine m_put (T := TX6) (N := 24) (ci := 6) (v := .int (hm9_11 + 0)) (ty := .int) hx hb hts wX6 tyX6 tyX6_ok nmX6 hown hK hm hS hM_11 rfl 23 (by decide) f133 (fun _ h9 => h9) rfl (by decide +kernel) rfl rfl (Nat.le_of_ble_eq_true rfl) dX6_sweep_353 (fun H locs hm hS => ?_)
                          have hm : mm D (AZ z) (mu Ml272 mo (.inr (6, [.int cd_11, .ref cn, .ref ia, .ref dr, .ref en, .ref la, .ref wo, .int ni_11, .ref op, .ref mk, .ref ir, .int dn, .int md, .int pw_11, .int cm_11, .int wr_11, .ref se, .ref ec, .ref lc, .ref wc, .ref ol, .ref al, .int cs_11, .int (hm9_11 + 0)]))) H := hm
                          have hkp : kpx (fun a => a ∈ [mo, cn, ia, dr, en, la, wo, op, mk, ir, se, ec, lc, wc, ol, al]) M (mu Ml272 mo (.inr (6, [.int cd_11, .ref cn, .ref ia, .ref dr, .ref en, .ref la, .ref wo, .int ni_11, .ref op, .ref mk, .ref ir, .int dn, .int md, .int pw_11, .int cm_11, .int wr_11, .ref se, .ref ec, .ref lc, .ref wc, .ref ol, .ref al, .int cs_11, .int (hm9_11 + 0)]))) := (hkp).self (by simp)
                          have hkl158 : kpx (fun a => a ∈ [mo]) (mu Ml31 mo (.inr (6, [.int cd, .ref cn, .ref ia, .ref dr, .ref en, .ref la, .ref wo, .int ni, .ref op, .ref mk, .ref ir, .int dn, .int md, .int pw, .int cm, .int wr, .ref se, .ref ec, .ref lc, .ref wc, .ref ol, .ref al, .int cs, .int 0]))) (mu Ml272 mo (.inr (6, [.int cd_11, .ref cn, .ref ia, .ref dr, .ref en, .ref la, .ref wo, .int ni_11, .ref op, .ref mk, .ref ir, .int dn, .int md, .int pw_11, .int cm_11, .int wr_11, .ref se, .ref ec, .ref lc, .ref wc, .ref ol, .ref al, .int cs_11, .int (hm9_11 + 0)]))) := hkl158.self (by simp)
                          have hkl272 : kpx (fun a => a ∈ [mo]) (mu Ml158 mo (.inr (6, [.int cd_3, .ref cn, .ref ia, .ref dr, .ref en, .ref la, .ref wo, .int ni_3, .ref op, .ref mk, .ref ir, .int dn, .int md, .int pw_3, .int cm_3, .int wr_3, .ref se, .ref ec, .ref lc, .ref wc, .ref ol, .ref al, .int cs_3, .int (hm9_3 + 1)]))) (mu Ml272 mo (.inr (6, [.int cd_11, .ref cn, .ref ia, .ref dr, .ref en, .ref la, .ref wo, .int ni_11, .ref op, .ref mk, .ref ir, .int dn, .int md, .int pw_11, .int cm_11, .int wr_11, .ref se, .ref ec, .ref lc, .ref wc, .ref ol, .ref al, .int cs_11, .int (hm9_11 + 0)]))) := hkl272.self (by simp)
                          refine lv_iinc (v := ((nI j272) + 8)) (lv' := [(4, .int ((nI j272) + 8)), (5, .int (nI (j272 + 8))), (3, .int (nI (3100 + j158))), (2, .int (nI j158)), (1, .int y31_1), (0, .ref mo)]) hx hb dX6_sweep_356 hl (k := 1) rfl rfl (by decide) rfl (fun ls hl => ?_)
                          refine lv_goto (tgt := 272) hx hb dX6_sweep_359 (by decide) ?_
                          rw [nI_8] at hl
                          exact ih272 (j272 + 8, (mu Ml272 mo (.inr (6, [.int cd_11, .ref cn, .ref ia, .ref dr, .ref en, .ref la, .ref wo, .int ni_11, .ref op, .ref mk, .ref ir, .int dn, .int md, .int pw_11, .int cm_11, .int wr_11, .ref se, .ref ec, .ref lc, .ref wc, .ref ol, .ref al, .int cs_11, .int (hm9_11 + 0)])))) _ _ _ ⟨⟨by omega, by omega⟩, ⟨_, _, _, _, _, _, _, fcn, fia, fdr, fen, fla, fwo, fop, fmk, fir, fse, fec, flc, fol, fal_2, fwc, hap, (mu_self _ _ _), hmd, ⟨hrC, hrL, hrM⟩, ((mu_ne ne_cn_mo).trans kcn_11), ((mu_ne ne_ia_mo).trans kia_11), ((mu_ne ne_dr_mo).trans kdr_11), ((mu_ne ne_en_mo).trans ken_11), ((mu_ne ne_la_mo).trans kla_11), ((mu_ne ne_wo_mo).trans kwo_11), ((mu_ne ne_op_mo).trans kop_11), ((mu_ne ne_mk_mo).trans kmk_11), ((mu_ne ne_ir_mo).trans kir_11), ((mu_ne ne_se_mo).trans kse_11), ((mu_ne ne_ec_mo).trans kec_11), ((mu_ne ne_lc_mo).trans klc_11), ((mu_ne ne_wc_mo).trans kwc_11), ((mu_ne ne_ol_mo).trans kol_11), ((mu_ne ne_al_mo).trans kal_11)⟩, hkp, hkl272, hm, hS, lv_sub hl [0, 2, 3, 4, 5] rfl⟩ (by show 2147483648 - (j272 + 8) < 2147483648 - j272; omega)
                        · refine lv_iconst (v := 1) hx hb dX6_sweep_347 (by decide) ?_
                          refine lv_goto (tgt := 352) hx hb dX6_sweep_348 (by decide) ?_
                          refine lv_iadd hx hb dX6_sweep_352 ?_
                          refine m_put (T := TX6) (N := 24) (ci := 6) (v := .int (hm9_11 + 1)) (ty := .int) hx hb hts wX6 tyX6 tyX6_ok nmX6 hown hK hm hS hM_11 rfl 23 (by decide) f133 (fun _ h9 => h9) rfl (by decide +kernel) rfl rfl (Nat.le_of_ble_eq_true rfl) dX6_sweep_353 (fun H locs hm hS => ?_)
                          have hm : mm D (AZ z) (mu Ml272 mo (.inr (6, [.int cd_11, .ref cn, .ref ia, .ref dr, .ref en, .ref la, .ref wo, .int ni_11, .ref op, .ref mk, .ref ir, .int dn, .int md, .int pw_11, .int cm_11, .int wr_11, .ref se, .ref ec, .ref lc, .ref wc, .ref ol, .ref al, .int cs_11, .int (hm9_11 + 1)]))) H := hm
                          have hkp : kpx (fun a => a ∈ [mo, cn, ia, dr, en, la, wo, op, mk, ir, se, ec, lc, wc, ol, al]) M (mu Ml272 mo (.inr (6, [.int cd_11, .ref cn, .ref ia, .ref dr, .ref en, .ref la, .ref wo, .int ni_11, .ref op, .ref mk, .ref ir, .int dn, .int md, .int pw_11, .int cm_11, .int wr_11, .ref se, .ref ec, .ref lc, .ref wc, .ref ol, .ref al, .int cs_11, .int (hm9_11 + 1)]))) := (hkp).self (by simp)
                          have hkl158 : kpx (fun a => a ∈ [mo]) (mu Ml31 mo (.inr (6, [.int cd, .ref cn, .ref ia, .ref dr, .ref en, .ref la, .ref wo, .int ni, .ref op, .ref mk, .ref ir, .int dn, .int md, .int pw, .int cm, .int wr, .ref se, .ref ec, .ref lc, .ref wc, .ref ol, .ref al, .int cs, .int 0]))) (mu Ml272 mo (.inr (6, [.int cd_11, .ref cn, .ref ia, .ref dr, .ref en, .ref la, .ref wo, .int ni_11, .ref op, .ref mk, .ref ir, .int dn, .int md, .int pw_11, .int cm_11, .int wr_11, .ref se, .ref ec, .ref lc, .ref wc, .ref ol, .ref al, .int cs_11, .int (hm9_11 + 1)]))) := hkl158.self (by simp)
                          have hkl272 : kpx (fun a => a ∈ [mo]) (mu Ml158 mo (.inr (6, [.int cd_3, .ref cn, .ref ia, .ref dr, .ref en, .ref la, .ref wo, .int ni_3, .ref op, .ref mk, .ref ir, .int dn, .int md, .int pw_3, .int cm_3, .int wr_3, .ref se, .ref ec, .ref lc, .ref wc, .ref ol, .ref al, .int cs_3, .int (hm9_3 + 1)]))) (mu Ml272 mo (.inr (6, [.int cd_11, .ref cn, .ref ia, .ref dr, .ref en, .ref la, .ref wo, .int ni_11, .ref op, .ref mk, .ref ir, .int dn, .int md, .int pw_11, .int cm_11, .int wr_11, .ref se, .ref ec, .ref lc, .ref wc, .ref ol, .ref al, .int cs_11, .int (hm9_11 + 1)]))) := hkl272.self (by simp)
                          refine lv_iinc (v := ((nI j272) + 8)) (lv' := [(4, .int ((nI j272) + 8)), (5, .int (nI (j272 + 8))), (3, .int (nI (3100 + j158))), (2, .int (nI j158)), (1, .int y31_1), (0, .ref mo)]) hx hb dX6_sweep_356 hl (k := 1) rfl rfl (by decide) rfl (fun ls hl => ?_)
                          refine lv_goto (tgt := 272) hx hb dX6_sweep_359 (by decide) ?_
                          rw [nI_8] at hl
                          exact ih272 (j272 + 8, (mu Ml272 mo (.inr (6, [.int cd_11, .ref cn, .ref ia, .ref dr, .ref en, .ref la, .ref wo, .int ni_11, .ref op, .ref mk, .ref ir, .int dn, .int md, .int pw_11, .int cm_11, .int wr_11, .ref se, .ref ec, .ref lc, .ref wc, .ref ol, .ref al, .int cs_11, .int (hm9_11 + 1)])))) _ _ _ ⟨⟨by omega, by omega⟩, ⟨_, _, _, _, _, _, _, fcn, fia, fdr, fen, fla, fwo, fop, fmk, fir, fse, fec, flc, fol, fal_2, fwc, hap, (mu_self _ _ _), hmd, ⟨hrC, hrL, hrM⟩, ((mu_ne ne_cn_mo).trans kcn_11), ((mu_ne ne_ia_mo).trans kia_11), ((mu_ne ne_dr_mo).trans kdr_11), ((mu_ne ne_en_mo).trans ken_11), ((mu_ne ne_la_mo).trans kla_11), ((mu_ne ne_wo_mo).trans kwo_11), ((mu_ne ne_op_mo).trans kop_11), ((mu_ne ne_mk_mo).trans kmk_11), ((mu_ne ne_ir_mo).trans kir_11), ((mu_ne ne_se_mo).trans kse_11), ((mu_ne ne_ec_mo).trans kec_11), ((mu_ne ne_lc_mo).trans klc_11), ((mu_ne ne_wc_mo).trans kwc_11), ((mu_ne ne_ol_mo).trans kol_11), ((mu_ne ne_al_mo).trans kal_11)⟩, hkp, hkl272, hm, hS, lv_sub hl [0, 2, 3, 4, 5] rfl⟩ (by show 2147483648 - (j272 + 8) < 2147483648 - j272; omega)
          · refine lv_aload_n hx hb dX6_sweep_193 rfl (lv_at hl 3 rfl) ?_
            refine lv_dup hx hb dX6_sweep_194 rfl ?_
            refine m_get (T := TX6) (N := 24) (ci := 6) (v := .int hm9_3) hx hb hts wX6 hown hK hm hM_3 rfl 23 (by decide) f133 (fun _ h9 => h9) rfl dX6_sweep_195 ?_
            refine lv_aload_n hx hb dX6_sweep_198 rfl (lv_at hl 3 rfl) ?_
            refine m_get (T := TX6) (N := 24) (ci := 6) (v := .ref se) hx hb hts wX6 hown hK hm hM_3 rfl 16 (by decide) f48 (fun _ h9 => h9) rfl dX6_sweep_199 ?_
            refine lv_iload_n hx hb dX6_sweep_202 rfl (lv_at hl 1 rfl) ?_
            refine m_zald hx hb hK hm 2 kse_3 rfl (vp_in_nI (by omega) (by decide)) dX6_sweep_203 ?_
            refine lv_if_ne (tgt := 216) hx hb dX6_sweep_204 (by decide) (fun c57 => ?_) (fun c57 => ?_)
            · refine lv_iconst (v := 1) hx hb dX6_sweep_216 (by decide) ?_
              refine lv_goto (tgt := 221) hx hb dX6_sweep_217 (by decide) ?_
              refine lv_iadd hx hb dX6_sweep_221 ?_
              refine m_put (T := TX6) (N := 24) (ci := 6) (v := .int (hm9_3 + 1)) (ty := .int) hx hb hts wX6 tyX6 tyX6_ok nmX6 hown hK hm hS hM_3 rfl 23 (by decide) f133 (fun _ h9 => h9) rfl (by decide +kernel) rfl rfl (Nat.le_of_ble_eq_true rfl) dX6_sweep_222 (fun H locs hm hS => ?_)
              have hm : mm D (AZ z) (mu Ml158 mo (.inr (6, [.int cd_3, .ref cn, .ref ia, .ref dr, .ref en, .ref la, .ref wo, .int ni_3, .ref op, .ref mk, .ref ir, .int dn, .int md, .int pw_3, .int cm_3, .int wr_3, .ref se, .ref ec, .ref lc, .ref wc, .ref ol, .ref al, .int cs_3, .int (hm9_3 + 1)]))) H := hm
              have hkp : kpx (fun a => a ∈ [mo, cn, ia, dr, en, la, wo, op, mk, ir, se, ec, lc, wc, ol, al]) M (mu Ml158 mo (.inr (6, [.int cd_3, .ref cn, .ref ia, .ref dr, .ref en, .ref la, .ref wo, .int ni_3, .ref op, .ref mk, .ref ir, .int dn, .int md, .int pw_3, .int cm_3, .int wr_3, .ref se, .ref ec, .ref lc, .ref wc, .ref ol, .ref al, .int cs_3, .int (hm9_3 + 1)]))) := (hkp).self (by simp)
              have hkl158 : kpx (fun a => a ∈ [mo]) (mu Ml31 mo (.inr (6, [.int cd, .ref cn, .ref ia, .ref dr, .ref en, .ref la, .ref wo, .int ni, .ref op, .ref mk, .ref ir, .int dn, .int md, .int pw, .int cm, .int wr, .ref se, .ref ec, .ref lc, .ref wc, .ref ol, .ref al, .int cs, .int 0]))) (mu Ml158 mo (.inr (6, [.int cd_3, .ref cn, .ref ia, .ref dr, .ref en, .ref la, .ref wo, .int ni_3, .ref op, .ref mk, .ref ir, .int dn, .int md, .int pw_3, .int cm_3, .int wr_3, .ref se, .ref ec, .ref lc, .ref wc, .ref ol, .ref al, .int cs_3, .int (hm9_3 + 1)]))) := hkl158.self (by simp)
              refine lv_goto (tgt := 362) hx hb dX6_sweep_225 (by decide) ?_
              refine lv_iinc (v := ((nI j158) + 1)) (lv' := [(2, .int ((nI j158) + 1)), (3, .int (nI (3100 + j158))), (1, .int y31_1), (0, .ref mo)]) hx hb dX6_sweep_362 hl (k := 1) rfl rfl (by decide) rfl (fun ls hl => ?_)
              refine lv_goto (tgt := 158) hx hb dX6_sweep_365 (by decide) ?_
              rw [nI_1] at hl
              exact ih158 (j158 + 1, (mu Ml158 mo (.inr (6, [.int cd_3, .ref cn, .ref ia, .ref dr, .ref en, .ref la, .ref wo, .int ni_3, .ref op, .ref mk, .ref ir, .int dn, .int md, .int pw_3, .int cm_3, .int wr_3, .ref se, .ref ec, .ref lc, .ref wc, .ref ol, .ref al, .int cs_3, .int (hm9_3 + 1)])))) _ _ _ ⟨⟨by omega, by omega⟩, ⟨_, _, _, _, _, _, _, fcn, fia, fdr, fen, fla, fwo, fop, fmk, fir, fse, fec, flc, fol, fal_2, fwc, hap, (mu_self _ _ _), hmd, ⟨hrC, hrL, hrM⟩, ((mu_ne ne_cn_mo).trans kcn_3), ((mu_ne ne_ia_mo).trans kia_3), ((mu_ne ne_dr_mo).trans kdr_3), ((mu_ne ne_en_mo).trans ken_3), ((mu_ne ne_la_mo).trans kla_3), ((mu_ne ne_wo_mo).trans kwo_3), ((mu_ne ne_op_mo).trans kop_3), ((mu_ne ne_mk_mo).trans kmk_3), ((mu_ne ne_ir_mo).trans kir_3), ((mu_ne ne_se_mo).trans kse_3), ((mu_ne ne_ec_mo).trans kec_3), ((mu_ne ne_lc_mo).trans klc_3), ((mu_ne ne_wc_mo).trans kwc_3), ((mu_ne ne_ol_mo).trans kol_3), ((mu_ne ne_al_mo).trans kal_3)⟩, hkp, hkl158, hm, hS, lv_sub hl [0, 2, 3] rfl⟩ (by show 2147483648 - (j158 + 1) < 2147483648 - j158; omega)
            · refine lv_aload_n hx hb dX6_sweep_207 rfl (lv_at hl 3 rfl) ?_
              refine m_get (T := TX6) (N := 24) (ci := 6) (v := .ref ec) hx hb hts wX6 hown hK hm hM_3 rfl 17 (by decide) f51 (fun _ h9 => h9) rfl dX6_sweep_208 ?_
              refine lv_iload_n hx hb dX6_sweep_211 rfl (lv_at hl 1 rfl) ?_
              refine m_iald hx hb hK hm 0 kec_3 rfl (vp_in_nI (by omega) (by decide)) dX6_sweep_212 ?_
              refine lv_if_le (tgt := 220) hx hb dX6_sweep_213 (by decide) (fun c58 => ?_) (fun c58 => ?_)
              · refine lv_iconst (v := 0) hx hb dX6_sweep_220 (by decide) ?_
                refine lv_iadd hx hb dX6_sweep_221 ?_
                refine m_put (T := TX6) (N := 24) (ci := 6) (v := .int (hm9_3 + 0)) (ty := .int) hx hb hts wX6 tyX6 tyX6_ok nmX6 hown hK hm hS hM_3 rfl 23 (by decide) f133 (fun _ h9 => h9) rfl (by decide +kernel) rfl rfl (Nat.le_of_ble_eq_true rfl) dX6_sweep_222 (fun H locs hm hS => ?_)
                have hm : mm D (AZ z) (mu Ml158 mo (.inr (6, [.int cd_3, .ref cn, .ref ia, .ref dr, .ref en, .ref la, .ref wo, .int ni_3, .ref op, .ref mk, .ref ir, .int dn, .int md, .int pw_3, .int cm_3, .int wr_3, .ref se, .ref ec, .ref lc, .ref wc, .ref ol, .ref al, .int cs_3, .int (hm9_3 + 0)]))) H := hm
                have hkp : kpx (fun a => a ∈ [mo, cn, ia, dr, en, la, wo, op, mk, ir, se, ec, lc, wc, ol, al]) M (mu Ml158 mo (.inr (6, [.int cd_3, .ref cn, .ref ia, .ref dr, .ref en, .ref la, .ref wo, .int ni_3, .ref op, .ref mk, .ref ir, .int dn, .int md, .int pw_3, .int cm_3, .int wr_3, .ref se, .ref ec, .ref lc, .ref wc, .ref ol, .ref al, .int cs_3, .int (hm9_3 + 0)]))) := (hkp).self (by simp)
                have hkl158 : kpx (fun a => a ∈ [mo]) (mu Ml31 mo (.inr (6, [.int cd, .ref cn, .ref ia, .ref dr, .ref en, .ref la, .ref wo, .int ni, .ref op, .ref mk, .ref ir, .int dn, .int md, .int pw, .int cm, .int wr, .ref se, .ref ec, .ref lc, .ref wc, .ref ol, .ref al, .int cs, .int 0]))) (mu Ml158 mo (.inr (6, [.int cd_3, .ref cn, .ref ia, .ref dr, .ref en, .ref la, .ref wo, .int ni_3, .ref op, .ref mk, .ref ir, .int dn, .int md, .int pw_3, .int cm_3, .int wr_3, .ref se, .ref ec, .ref lc, .ref wc, .ref ol, .ref al, .int cs_3, .int (hm9_3 + 0)]))) := hkl158.self (by simp)
                refine lv_goto (tgt := 362) hx hb dX6_sweep_225 (by decide) ?_
                refine lv_iinc (v := ((nI j158) + 1)) (lv' := [(2, .int ((nI j158) + 1)), (3, .int (nI (3100 + j158))), (1, .int y31_1), (0, .ref mo)]) hx hb dX6_sweep_362 hl (k := 1) rfl rfl (by decide) rfl (fun ls hl => ?_)
                refine lv_goto (tgt := 158) hx hb dX6_sweep_365 (by decide) ?_
                rw [nI_1] at hl
                exact ih158 (j158 + 1, (mu Ml158 mo (.inr (6, [.int cd_3, .ref cn, .ref ia, .ref dr, .ref en, .ref la, .ref wo, .int ni_3, .ref op, .ref mk, .ref ir, .int dn, .int md, .int pw_3, .int cm_3, .int wr_3, .ref se, .ref ec, .ref lc, .ref wc, .ref ol, .ref al, .int cs_3, .int (hm9_3 + 0)])))) _ _ _ ⟨⟨by omega, by omega⟩, ⟨_, _, _, _, _, _, _, fcn, fia, fdr, fen, fla, fwo, fop, fmk, fir, fse, fec, flc, fol, fal_2, fwc, hap, (mu_self _ _ _), hmd, ⟨hrC, hrL, hrM⟩, ((mu_ne ne_cn_mo).trans kcn_3), ((mu_ne ne_ia_mo).trans kia_3), ((mu_ne ne_dr_mo).trans kdr_3), ((mu_ne ne_en_mo).trans ken_3), ((mu_ne ne_la_mo).trans kla_3), ((mu_ne ne_wo_mo).trans kwo_3), ((mu_ne ne_op_mo).trans kop_3), ((mu_ne ne_mk_mo).trans kmk_3), ((mu_ne ne_ir_mo).trans kir_3), ((mu_ne ne_se_mo).trans kse_3), ((mu_ne ne_ec_mo).trans kec_3), ((mu_ne ne_lc_mo).trans klc_3), ((mu_ne ne_wc_mo).trans kwc_3), ((mu_ne ne_ol_mo).trans kol_3), ((mu_ne ne_al_mo).trans kal_3)⟩, hkp, hkl158, hm, hS, lv_sub hl [0, 2, 3] rfl⟩ (by show 2147483648 - (j158 + 1) < 2147483648 - j158; omega)
              · refine lv_iconst (v := 1) hx hb dX6_sweep_216 (by decide) ?_
                refine lv_goto (tgt := 221) hx hb dX6_sweep_217 (by decide) ?_
                refine lv_iadd hx hb dX6_sweep_221 ?_
                refine m_put (T := TX6) (N := 24) (ci := 6) (v := .int (hm9_3 + 1)) (ty := .int) hx hb hts wX6 tyX6 tyX6_ok nmX6 hown hK hm hS hM_3 rfl 23 (by decide) f133 (fun _ h9 => h9) rfl (by decide +kernel) rfl rfl (Nat.le_of_ble_eq_true rfl) dX6_sweep_222 (fun H locs hm hS => ?_)
                have hm : mm D (AZ z) (mu Ml158 mo (.inr (6, [.int cd_3, .ref cn, .ref ia, .ref dr, .ref en, .ref la, .ref wo, .int ni_3, .ref op, .ref mk, .ref ir, .int dn, .int md, .int pw_3, .int cm_3, .int wr_3, .ref se, .ref ec, .ref lc, .ref wc, .ref ol, .ref al, .int cs_3, .int (hm9_3 + 1)]))) H := hm
                have hkp : kpx (fun a => a ∈ [mo, cn, ia, dr, en, la, wo, op, mk, ir, se, ec, lc, wc, ol, al]) M (mu Ml158 mo (.inr (6, [.int cd_3, .ref cn, .ref ia, .ref dr, .ref en, .ref la, .ref wo, .int ni_3, .ref op, .ref mk, .ref ir, .int dn, .int md, .int pw_3, .int cm_3, .int wr_3, .ref se, .ref ec, .ref lc, .ref wc, .ref ol, .ref al, .int cs_3, .int (hm9_3 + 1)]))) := (hkp).self (by simp)
                have hkl158 : kpx (fun a => a ∈ [mo]) (mu Ml31 mo (.inr (6, [.int cd, .ref cn, .ref ia, .ref dr, .ref en, .ref la, .ref wo, .int ni, .ref op, .ref mk, .ref ir, .int dn, .int md, .int pw, .int cm, .int wr, .ref se, .ref ec, .ref lc, .ref wc, .ref ol, .ref al, .int cs, .int 0]))) (mu Ml158 mo (.inr (6, [.int cd_3, .ref cn, .ref ia, .ref dr, .ref en, .ref la, .ref wo, .int ni_3, .ref op, .ref mk, .ref ir, .int dn, .int md, .int pw_3, .int cm_3, .int wr_3, .ref se, .ref ec, .ref lc, .ref wc, .ref ol, .ref al, .int cs_3, .int (hm9_3 + 1)]))) := hkl158.self (by simp)
                refine lv_goto (tgt := 362) hx hb dX6_sweep_225 (by decide) ?_
                refine lv_iinc (v := ((nI j158) + 1)) (lv' := [(2, .int ((nI j158) + 1)), (3, .int (nI (3100 + j158))), (1, .int y31_1), (0, .ref mo)]) hx hb dX6_sweep_362 hl (k := 1) rfl rfl (by decide) rfl (fun ls hl => ?_)
                refine lv_goto (tgt := 158) hx hb dX6_sweep_365 (by decide) ?_
                rw [nI_1] at hl
                exact ih158 (j158 + 1, (mu Ml158 mo (.inr (6, [.int cd_3, .ref cn, .ref ia, .ref dr, .ref en, .ref la, .ref wo, .int ni_3, .ref op, .ref mk, .ref ir, .int dn, .int md, .int pw_3, .int cm_3, .int wr_3, .ref se, .ref ec, .ref lc, .ref wc, .ref ol, .ref al, .int cs_3, .int (hm9_3 + 1)])))) _ _ _ ⟨⟨by omega, by omega⟩, ⟨_, _, _, _, _, _, _, fcn, fia, fdr, fen, fla, fwo, fop, fmk, fir, fse, fec, flc, fol, fal_2, fwc, hap, (mu_self _ _ _), hmd, ⟨hrC, hrL, hrM⟩, ((mu_ne ne_cn_mo).trans kcn_3), ((mu_ne ne_ia_mo).trans kia_3), ((mu_ne ne_dr_mo).trans kdr_3), ((mu_ne ne_en_mo).trans ken_3), ((mu_ne ne_la_mo).trans kla_3), ((mu_ne ne_wo_mo).trans kwo_3), ((mu_ne ne_op_mo).trans kop_3), ((mu_ne ne_mk_mo).trans kmk_3), ((mu_ne ne_ir_mo).trans kir_3), ((mu_ne ne_se_mo).trans kse_3), ((mu_ne ne_ec_mo).trans kec_3), ((mu_ne ne_lc_mo).trans klc_3), ((mu_ne ne_wc_mo).trans kwc_3), ((mu_ne ne_ol_mo).trans kol_3), ((mu_ne ne_al_mo).trans kal_3)⟩, hkp, hkl158, hm, hS, lv_sub hl [0, 2, 3] rfl⟩ (by show 2147483648 - (j158 + 1) < 2147483648 - j158; omega)
    · refine lv_iconst (v := 0) hx hb dX6_sweep_35 (by decide) ?_
      refine lv_istore_n (lv' := [(1, .int 0), (0, .ref mo)]) hx hb dX6_sweep_36 rfl hl (by decide) rfl (fun ls hl => ?_)
      refine lv_iconst (v := 0) hx hb dX6_sweep_37 (by decide) ?_
      refine lv_istore_n (lv' := [(2, .int 0), (1, .int 0), (0, .ref mo)]) hx hb dX6_sweep_38 rfl hl (by decide) rfl (fun ls hl => ?_)
      have hI0 : mI k Ml31 mo cn ia dr en la wo op mk ir se ec lc wc ol al dn md := ⟨_, _, _, _, _, _, _, fcn, fia, fdr, fen, fla, fwo, fop, fmk, fir, fse, fec, flc, fol, fal_2, fwc, hap, kmo_2, hmd, ⟨hrC, hrL, hrM⟩, kcn_2, kia_2, kdr_2, ken_2, kla_2, kwo_2, kop_2, kmk_2, kir_2, kse_2, kec_2, klc_2, kwc_2, kol_2, hal_2⟩
      refine W_loop (σ := Nat × Int32 × mM) (fun ⟨j39, y39_1, Ml39⟩ H locs ls => (0 ≤ j39 ∧ j39 < 2147483000) ∧ (mI k Ml39 mo cn ia dr en la wo op mk ir se ec lc wc ol al dn md) ∧ (kpx (fun a => a ∈ [mo, cn, ia, dr, en, la, wo, op, mk, ir, se, ec, lc, wc, ol, al]) M Ml39) ∧ (kpx (fun a => a ∈ [al]) Ml31 Ml39) ∧ ((y39_1 = 0 ∨ deadM Ml39 al < deadM Ml31 al) ∧ deadM Ml39 al ≤ deadM Ml31 al) ∧ mm D (AZ z) Ml39 H ∧ va_S (AZ z) s.heap H locs ∧ lv_has ls 6 [(2, .int (nI j39)), (1, .int y39_1), (0, .ref mo)]) (fun ⟨j39, y39_1, Ml39⟩ => 2147483648 - j39) (fun _ => 0) (fun _ => 0) ?_ (0, 0, Ml31) _ _ _ ⟨⟨Nat.le_refl _, by omega⟩, hI0, hkp, (kpx.refl _ _), ⟨Or.inl rfl, Nat.le_refl _⟩, hm, hS, lv_sub hl [0, 1, 2] rfl⟩
      intro ⟨j39, y39_1, Ml39⟩ H locs ls hQ ih39
      obtain ⟨hj39, hI, hkp, hkl39, hdd39, hm, hS, hl⟩ := hQ
      try dsimp only at hm hl ih39 hj39 hI hkp hkl39 hdd39 ⊢
      obtain ⟨_, _, _, _, _, _, _, _, _, _, _, _, _, _, _, _, _, _, _, _, fal_12, _, -, -, hmd_12, ⟨-, -, -⟩, -, -, -, -, -, -, -, -, -, -, -, -, -, -, hal_12⟩ := id hI
      have kmo_12 := hkl39 _ _ (by simp only [List.mem_cons, List.not_mem_nil, or_false, not_or]; exact ne_mo_al) kmo_2
      have kcn_12 := hkl39 _ _ (by simp only [List.mem_cons, List.not_mem_nil, or_false, not_or]; exact ne_cn_al) kcn_2
      have kia_12 := hkl39 _ _ (by simp only [List.mem_cons, List.not_mem_nil, or_false, not_or]; exact ne_ia_al) kia_2
      have kdr_12 := hkl39 _ _ (by simp only [List.mem_cons, List.not_mem_nil, or_false, not_or]; exact ne_dr_al) kdr_2
      have ken_12 := hkl39 _ _ (by simp only [List.mem_cons, List.not_mem_nil, or_false, not_or]; exact ne_en_al) ken_2
      have kla_12 := hkl39 _ _ (by simp only [List.mem_cons, List.not_mem_nil, or_false, not_or]; exact ne_la_al) kla_2
      have kwo_12 := hkl39 _ _ (by simp only [List.mem_cons, List.not_mem_nil, or_false, not_or]; exact ne_wo_al) kwo_2
      have kop_12 := hkl39 _ _ (by simp only [List.mem_cons, List.not_mem_nil, or_false, not_or]; exact ne_op_al) kop_2
      have kmk_12 := hkl39 _ _ (by simp only [List.mem_cons, List.not_mem_nil, or_false, not_or]; exact ne_mk_al) kmk_2
      have kir_12 := hkl39 _ _ (by simp only [List.mem_cons, List.not_mem_nil, or_false, not_or]; exact ne_ir_al) kir_2
      have kse_12 := hkl39 _ _ (by simp only [List.mem_cons, List.not_mem_nil, or_false, not_or]; exact ne_se_al) kse_2
      have kec_12 := hkl39 _ _ (by simp only [List.mem_cons, List.not_mem_nil, or_false, not_or]; exact ne_ec_al) kec_2
      have klc_12 := hkl39 _ _ (by simp only [List.mem_cons, List.not_mem_nil, or_false, not_or]; exact ne_lc_al) klc_2
      have kwc_12 := hkl39 _ _ (by simp only [List.mem_cons, List.not_mem_nil, or_false, not_or]; exact ne_wc_al) kwc_2
      have kol_12 := hkl39 _ _ (by simp only [List.mem_cons, List.not_mem_nil, or_false, not_or]; exact ne_ol_al) kol_2
      have hkl31 := hkl31.trans (hkl39.mono (fun a ha => by simp only [List.mem_cons, List.not_mem_nil, or_false] at ha ⊢; subst ha; simp))
      refine lv_iload_n hx hb dX6_sweep_39 rfl (lv_at hl 0 rfl) ?_
      refine lv_aload_n hx hb dX6_sweep_40 rfl (lv_at hl 2 rfl) ?_
      refine m_get (T := TX6) (N := 24) (ci := 6) (v := .ref cn) hx hb hts wX6 hown hK hm kmo_12 rfl 1 (by decide) f7 (fun _ h9 => h9) rfl dX6_sweep_41 ?_
      refine lv_bipush (v := 31) hx hb dX6_sweep_44 (by decide) ?_
      refine m_iald hx hb hK hm 0 kcn_12 rfl (by unfold vp_in; decide) dX6_sweep_46 ?_
      obtain ⟨u59, hu59, eu59⟩ := hrC 31
      refine W.eq (g2 := F0 m 47 ls [.int (nI u59), .int (nI j39)]) (by rw [show (fcn (31 : Int32).toNatClampNeg) = nI u59 from (congrArg fcn (show (31 : Int32).toNatClampNeg = 31 from rfl)).trans eu59]) ?_
      have hb_u59 := hu59
      have hu59 : u59 ≤ 100 := Nat.le_trans hu59 (bC_le _)
      refine lv_icmp_ge (tgt := 148) hx hb dX6_sweep_47 (by decide) (fun c60 => ?_) (fun c60 => ?_)
      · have hqc60 : u59 ≤ j39 := nb_le (a := u59) (b := j39) (by omega) (by omega) c60
        refine lv_goto (tgt := 31) hx hb dX6_sweep_148 (by decide) ?_
        exact ih31 (y39_1, Ml39) _ _ _ ⟨⟨_, _, _, _, _, _, _, fcn, fia, fdr, fen, fla, fwo, fop, fmk, fir, fse, fec, flc, fol, fal_12, fwc, hap, kmo_12, hmd, ⟨hrC, hrL, hrM⟩, kcn_12, kia_12, kdr_12, ken_12, kla_12, kwo_12, kop_12, kmk_12, kir_12, kse_12, kec_12, klc_12, kwc_12, kol_12, hal_12⟩, hkp, hkl31, hm, hS, lv_sub hl [1, 2] rfl⟩ (by
          show 2 * deadM Ml39 al + (if y39_1 = 0 then 0 else 1) < 2 * deadM Ml31 al + (if y31_1 = 0 then 0 else 1)
          rw [if_neg c2]
          by_cases hy : y39_1 = 0
          · rw [if_pos hy]; have := hdd39.2; omega
          · rw [if_neg hy]; have := hdd39.1.resolve_left hy; omega)
      · have hqc60 : j39 < u59 := nb_nle (a := u59) (b := j39) (by omega) (by omega) c60
        refine lv_iconst (v := 1) hx hb dX6_sweep_50 (by decide) ?_
        refine lv_istore_n (lv' := [(3, .int 1), (2, .int (nI j39)), (1, .int y39_1), (0, .ref mo)]) hx hb dX6_sweep_51 rfl hl (by decide) rfl (fun ls hl => ?_)
        have hI0 : mI k Ml39 mo cn ia dr en la wo op mk ir se ec lc wc ol al dn md := ⟨_, _, _, _, _, _, _, fcn, fia, fdr, fen, fla, fwo, fop, fmk, fir, fse, fec, flc, fol, fal_12, fwc, hap, kmo_12, hmd, ⟨hrC, hrL, hrM⟩, kcn_12, kia_12, kdr_12, ken_12, kla_12, kwo_12, kop_12, kmk_12, kir_12, kse_12, kec_12, klc_12, kwc_12, kol_12, hal_12⟩
        refine W_loop (σ := Nat × Int32 × mM) (fun ⟨j52, y52_1, Ml52⟩ H locs ls => (1 ≤ j52 ∧ j52 < 2147483000) ∧ (mI k Ml52 mo cn ia dr en la wo op mk ir se ec lc wc ol al dn md) ∧ (kpx (fun a => a ∈ [mo, cn, ia, dr, en, la, wo, op, mk, ir, se, ec, lc, wc, ol, al]) M Ml52) ∧ (kpx (fun a => a ∈ [al]) Ml39 Ml52) ∧ ((y52_1 = 0 ∨ deadM Ml52 al < deadM Ml31 al) ∧ deadM Ml52 al ≤ deadM Ml31 al) ∧ mm D (AZ z) Ml52 H ∧ va_S (AZ z) s.heap H locs ∧ lv_has ls 6 [(3, .int (nI j52)), (2, .int (nI j39)), (1, .int y52_1), (0, .ref mo)]) (fun ⟨j52, y52_1, Ml52⟩ => 2147483648 - j52) (fun _ => 0) (fun _ => 0) ?_ (1, y39_1, Ml39) _ _ _ ⟨⟨Nat.le_refl _, by omega⟩, hI0, hkp, (kpx.refl _ _), hdd39, hm, hS, lv_sub hl [0, 1, 2, 3] rfl⟩
        intro ⟨j52, y52_1, Ml52⟩ H locs ls hQ ih52
        obtain ⟨hj52, hI, hkp, hkl52, hdd52, hm, hS, hl⟩ := hQ
        try dsimp only at hm hl ih52 hj52 hI hkp hkl52 hdd52 ⊢
        obtain ⟨_, _, _, _, _, _, _, _, _, _, _, _, _, _, _, _, _, _, _, _, fal_13, _, -, -, hmd_13, ⟨-, -, -⟩, -, -, -, -, -, -, -, -, -, -, -, -, -, -, hal_13⟩ := id hI
        have kmo_13 := hkl52 _ _ (by simp only [List.mem_cons, List.not_mem_nil, or_false, not_or]; exact ne_mo_al) kmo_12
        have kcn_13 := hkl52 _ _ (by simp only [List.mem_cons, List.not_mem_nil, or_false, not_or]; exact ne_cn_al) kcn_12
        have kia_13 := hkl52 _ _ (by simp only [List.mem_cons, List.not_mem_nil, or_false, not_or]; exact ne_ia_al) kia_12
        have kdr_13 := hkl52 _ _ (by simp only [List.mem_cons, List.not_mem_nil, or_false, not_or]; exact ne_dr_al) kdr_12
        have ken_13 := hkl52 _ _ (by simp only [List.mem_cons, List.not_mem_nil, or_false, not_or]; exact ne_en_al) ken_12
        have kla_13 := hkl52 _ _ (by simp only [List.mem_cons, List.not_mem_nil, or_false, not_or]; exact ne_la_al) kla_12
        have kwo_13 := hkl52 _ _ (by simp only [List.mem_cons, List.not_mem_nil, or_false, not_or]; exact ne_wo_al) kwo_12
        have kop_13 := hkl52 _ _ (by simp only [List.mem_cons, List.not_mem_nil, or_false, not_or]; exact ne_op_al) kop_12
        have kmk_13 := hkl52 _ _ (by simp only [List.mem_cons, List.not_mem_nil, or_false, not_or]; exact ne_mk_al) kmk_12
        have kir_13 := hkl52 _ _ (by simp only [List.mem_cons, List.not_mem_nil, or_false, not_or]; exact ne_ir_al) kir_12
        have kse_13 := hkl52 _ _ (by simp only [List.mem_cons, List.not_mem_nil, or_false, not_or]; exact ne_se_al) kse_12
        have kec_13 := hkl52 _ _ (by simp only [List.mem_cons, List.not_mem_nil, or_false, not_or]; exact ne_ec_al) kec_12
        have klc_13 := hkl52 _ _ (by simp only [List.mem_cons, List.not_mem_nil, or_false, not_or]; exact ne_lc_al) klc_12
        have kwc_13 := hkl52 _ _ (by simp only [List.mem_cons, List.not_mem_nil, or_false, not_or]; exact ne_wc_al) kwc_12
        have kol_13 := hkl52 _ _ (by simp only [List.mem_cons, List.not_mem_nil, or_false, not_or]; exact ne_ol_al) kol_12
        have hkl31 := hkl31.trans (hkl52.mono (fun a ha => by simp only [List.mem_cons, List.not_mem_nil, or_false] at ha ⊢; subst ha; simp))
        have hkl39 := hkl39.trans (hkl52.mono (fun a ha => by simp only [List.mem_cons, List.not_mem_nil, or_false] at ha ⊢; subst ha; simp))
        refine lv_iload_n hx hb dX6_sweep_52 rfl (lv_at hl 0 rfl) ?_
        refine lv_bipush (v := 16) hx hb dX6_sweep_53 (by decide) ?_
        refine lv_icmp_ge (tgt := 142) hx hb dX6_sweep_55 (by decide) (fun c61 => ?_) (fun c61 => ?_)
        · have hqc61 : 16 ≤ j52 := nb_le (a := 16) (b := j52) (by omega) (by omega) c61
          refine lv_iinc (v := ((nI j39) + 1)) (lv' := [(2, .int ((nI j39) + 1)), (3, .int (nI j52)), (1, .int y52_1), (0, .ref mo)]) hx hb dX6_sweep_142 hl (k := 1) rfl rfl (by decide) rfl (fun ls hl => ?_)
          refine lv_goto (tgt := 39) hx hb dX6_sweep_145 (by decide) ?_
          rw [nI_1] at hl
          exact ih39 (j39 + 1, y52_1, Ml52) _ _ _ ⟨⟨by omega, by omega⟩, ⟨_, _, _, _, _, _, _, fcn, fia, fdr, fen, fla, fwo, fop, fmk, fir, fse, fec, flc, fol, fal_13, fwc, hap, kmo_13, hmd, ⟨hrC, hrL, hrM⟩, kcn_13, kia_13, kdr_13, ken_13, kla_13, kwo_13, kop_13, kmk_13, kir_13, kse_13, kec_13, klc_13, kwc_13, kol_13, hal_13⟩, hkp, hkl39, hdd52, hm, hS, lv_sub hl [0, 2, 3] rfl⟩ (by show 2147483648 - (j39 + 1) < 2147483648 - j39; omega)
        · have hqc61 : j52 < 16 := nb_nle (a := 16) (b := j52) (by omega) (by omega) c61
          refine lv_aload_n hx hb dX6_sweep_58 rfl (lv_at hl 3 rfl) ?_
          refine m_get (T := TX6) (N := 24) (ci := 6) (v := .ref al) hx hb hts wX6 hown hK hm kmo_13 rfl 21 (by decide) f64 (fun _ h9 => h9) rfl dX6_sweep_59 ?_
          refine lv_iload_n hx hb dX6_sweep_62 rfl (lv_at hl 1 rfl) ?_
          refine m_zald hx hb hK hm 2 hal_13 rfl (vp_in_nI (by omega) (by decide)) dX6_sweep_63 ?_
          refine lv_if_eq (tgt := 142) hx hb dX6_sweep_64 (by decide) (fun c62 => ?_) (fun c62 => ?_)
          · refine lv_iinc (v := ((nI j39) + 1)) (lv' := [(2, .int ((nI j39) + 1)), (3, .int (nI j52)), (1, .int y52_1), (0, .ref mo)]) hx hb dX6_sweep_142 hl (k := 1) rfl rfl (by decide) rfl (fun ls hl => ?_)
            refine lv_goto (tgt := 39) hx hb dX6_sweep_145 (by decide) ?_
            rw [nI_1] at hl
            exact ih39 (j39 + 1, y52_1, Ml52) _ _ _ ⟨⟨by omega, by omega⟩, ⟨_, _, _, _, _, _, _, fcn, fia, fdr, fen, fla, fwo, fop, fmk, fir, fse, fec, flc, fol, fal_13, fwc, hap, kmo_13, hmd, ⟨hrC, hrL, hrM⟩, kcn_13, kia_13, kdr_13, ken_13, kla_13, kwo_13, kop_13, kmk_13, kir_13, kse_13, kec_13, klc_13, kwc_13, kol_13, hal_13⟩, hkp, hkl39, hdd52, hm, hS, lv_sub hl [0, 2, 3] rfl⟩ (by show 2147483648 - (j39 + 1) < 2147483648 - j39; omega)
          · refine lv_aload_n hx hb dX6_sweep_67 rfl (lv_at hl 3 rfl) ?_
            refine m_get (T := TX6) (N := 24) (ci := 6) (v := .ref en) hx hb hts wX6 hown hK hm kmo_13 rfl 4 (by decide) f21 (fun _ h9 => h9) rfl dX6_sweep_68 ?_
            refine lv_bipush (v := 16) hx hb dX6_sweep_71 (by decide) ?_
            refine lv_sipush (v := 3100) hx hb dX6_sweep_73 (by decide) ?_
            refine lv_iload_n hx hb dX6_sweep_76 rfl (lv_at hl 1 rfl) ?_
            refine lv_iadd hx hb dX6_sweep_77 ?_
            refine W.eq (g2 := F0 m 78 ls [.int (nI (3100 + j39)), .int 16, .ref en]) (by rw [show ((3100) + ((nI j39)) : Int32) = nI (3100 + j39) from nI_add 3100 j39]) ?_
            refine lv_imul hx hb dX6_sweep_78 ?_
            refine W.eq (g2 := F0 m 79 ls [.int (nI (16 * (3100 + j39))), .ref en]) (by rw [show ((16) * ((nI (3100 + j39))) : Int32) = nI (16 * (3100 + j39)) from pk_mul 16 (3100 + j39)]) ?_
            refine lv_iload_n hx hb dX6_sweep_79 rfl (lv_at hl 0 rfl) ?_
            refine lv_iadd hx hb dX6_sweep_80 ?_
            refine W.eq (g2 := F0 m 81 ls [.int (nI ((16 * (3100 + j39)) + j52)), .ref en]) (by rw [show (((nI (16 * (3100 + j39)))) + ((nI j52)) : Int32) = nI ((16 * (3100 + j39)) + j52) from nI_add (16 * (3100 + j39)) j52]) ?_
            refine m_iald hx hb hK hm 0 ken_13 rfl (vp_in_nI (by omega) (by decide)) dX6_sweep_81 ?_
            refine lv_istore (lv' := [(4, .int (fen ((nI ((16 * (3100 + j39)) + j52))).toNatClampNeg)), (3, .int (nI j52)), (2, .int (nI j39)), (1, .int y52_1), (0, .ref mo)]) hx hb dX6_sweep_82 hl (by decide) rfl (fun ls hl => ?_)
            refine lv_iload hx hb dX6_sweep_84 (lv_at hl 0 rfl) ?_
            refine lv_if_ne (tgt := 93) hx hb dX6_sweep_86 (by decide) (fun c63 => ?_) (fun c63 => ?_)
            · refine lv_aload_n hx hb dX6_sweep_93 rfl (lv_at hl 4 rfl) ?_
              refine lv_bipush (v := 31) hx hb dX6_sweep_94 (by decide) ?_
              refine lv_iload hx hb dX6_sweep_96 (lv_at hl 0 rfl) ?_
              have hI0 : mI k Ml52 mo cn ia dr en la wo op mk ir se ec lc wc ol al dn md := ⟨_, _, _, _, _, _, _, fcn, fia, fdr, fen, fla, fwo, fop, fmk, fir, fse, fec, flc, fol, fal_13, fwc, hap, kmo_13, hmd, ⟨hrC, hrL, hrM⟩, kcn_13, kia_13, kdr_13, ken_13, kla_13, kwo_13, kop_13, kmk_13, kir_13, kse_13, kec_13, klc_13, kwc_13, kol_13, hal_13⟩
              refine m_kV (As := [.int 31, .int (fen ((nI ((16 * (3100 + j39)) + j52))).toNatClampNeg)]) (rest := []) (rm := { frames := 0, cells := 0, slots := 0, locals := 0 }) ⟨hx, hb, hml, hown, hts⟩ (x_X6_find l D k z _ mo cn ia dr en la wo op mk ir se ec lc wc ol al dn md 31 (by omega) (fen ((nI ((16 * (3100 + j39)) + j52))).toNatClampNeg) hI0) (cwV 2 hts gX6_sweep_X6_find rfl rfl rfl (by decide +kernel) ⟨Nat.le_of_ble_eq_true rfl, Nat.le_of_ble_eq_true rfl⟩) (m_recv hK hm (q := (RX6, TX6, 24)) rfl kmo_13) hz hcx hm hS rfl hl.1 rfl (Nat.le_of_ble_eq_true rfl) dX6_sweep_98 ⟨Nat.le_of_ble_eq_true rfl, Nat.le_of_ble_eq_true rfl⟩ (fun v M1 H locs hv hm hS => ?_)
              obtain ⟨⟨f101, hv1, hf101⟩, hM1⟩ := hv
              rw [hM1] at hm
              subst hv1
              rcases hf101 with hf101 | ⟨nb101, uc101, g101, hg101, hgu101, hgb101, hb101a, hb101b, hf101⟩
              · subst hf101
                refine W.eq (g2 := F0 m 101 ls [.int (-1)]) rfl ?_
                refine W.widen (k := 0) (n := 0) (Nat.le_of_ble_eq_true rfl) (Nat.le_of_ble_eq_true rfl) ?_
                have hm : mm D (AZ z) Ml52 H := hm
                refine lv_istore (lv' := [(5, .int (-1)), (4, .int (fen ((nI ((16 * (3100 + j39)) + j52))).toNatClampNeg)), (3, .int (nI j52)), (2, .int (nI j39)), (1, .int y52_1), (0, .ref mo)]) hx hb dX6_sweep_101 hl (by decide) rfl (fun ls hl => ?_)
                refine lv_iload hx hb dX6_sweep_103 (lv_at hl 0 rfl) ?_
                refine lv_if_lt (tgt := 136) hx hb dX6_sweep_105 (by decide) (fun c64 => ?_) (fun c64 => ?_)
                · refine lv_iinc (v := ((nI j52) + 1)) (lv' := [(3, .int ((nI j52) + 1)), (5, .int (-1)), (4, .int (fen ((nI ((16 * (3100 + j39)) + j52))).toNatClampNeg)), (2, .int (nI j39)), (1, .int y52_1), (0, .ref mo)]) hx hb dX6_sweep_136 hl (k := 2) rfl rfl (by decide) rfl (fun ls hl => ?_)
                  refine lv_goto (tgt := 52) hx hb dX6_sweep_139 (by decide) ?_
                  rw [nI_1] at hl
                  exact ih52 (j52 + 1, y52_1, Ml52) _ _ _ ⟨⟨by omega, by omega⟩, ⟨_, _, _, _, _, _, _, fcn, fia, fdr, fen, fla, fwo, fop, fmk, fir, fse, fec, flc, fol, fal_13, fwc, hap, kmo_13, hmd, ⟨hrC, hrL, hrM⟩, kcn_13, kia_13, kdr_13, ken_13, kla_13, kwo_13, kop_13, kmk_13, kir_13, kse_13, kec_13, klc_13, kwc_13, kol_13, hal_13⟩, hkp, hkl52, hdd52, hm, hS, lv_sub hl [0, 3, 4, 5] rfl⟩ (by show 2147483648 - (j52 + 1) < 2147483648 - j52; omega)
                · first | exact absurd c64 (by decide) | exact absurd (by decide) c64
              · have huc101 := Nat.le_trans hgb101 (bC_le _)
                subst hf101
                refine W.eq (g2 := F0 m 101 ls [.int (nI nb101)]) rfl ?_
                refine W.widen (k := 0) (n := 0) (Nat.le_of_ble_eq_true rfl) (Nat.le_of_ble_eq_true rfl) ?_
                have hm : mm D (AZ z) Ml52 H := hm
                refine lv_istore (lv' := [(5, .int (nI nb101)), (4, .int (fen ((nI ((16 * (3100 + j39)) + j52))).toNatClampNeg)), (3, .int (nI j52)), (2, .int (nI j39)), (1, .int y52_1), (0, .ref mo)]) hx hb dX6_sweep_101 hl (by decide) rfl (fun ls hl => ?_)
                refine lv_iload hx hb dX6_sweep_103 (lv_at hl 0 rfl) ?_
                refine lv_if_lt (tgt := 136) hx hb dX6_sweep_105 (by decide) (fun c65 => ?_) (fun c65 => ?_)
                · have hqc65 : nb101 < 0 := nb_lt (a := nb101) (b := 0) (by omega) (by omega) c65
                  omega
                · have hqc65 : 0 ≤ nb101 := nb_nlt (a := nb101) (b := 0) (by omega) (by omega) c65
                  refine lv_aload_n hx hb dX6_sweep_108 rfl (lv_at hl 5 rfl) ?_
                  refine m_get (T := TX6) (N := 24) (ci := 6) (v := .ref al) hx hb hts wX6 hown hK hm kmo_13 rfl 21 (by decide) f64 (fun _ h9 => h9) rfl dX6_sweep_109 ?_
                  refine lv_iload hx hb dX6_sweep_112 (lv_at hl 0 rfl) ?_
                  refine lv_sipush (v := 3100) hx hb dX6_sweep_114 (by decide) ?_
                  refine lv_isub hx hb dX6_sweep_117 ?_
                  refine W.eq (g2 := F0 m 118 ls [.int (nI (nb101 - 3100)), .ref al]) (by rw [show (((nI nb101)) - (3100) : Int32) = nI (nb101 - 3100) from pk_sub (a := nb101) (b := 3100) (by omega)]) ?_
                  refine m_zald hx hb hK hm 2 hal_13 rfl (vp_in_nI (by omega) (by decide)) dX6_sweep_118 ?_
                  refine lv_if_ne (tgt := 136) hx hb dX6_sweep_119 (by decide) (fun c66 => ?_) (fun c66 => ?_)
                  · refine lv_iinc (v := ((nI j52) + 1)) (lv' := [(3, .int ((nI j52) + 1)), (5, .int (nI nb101)), (4, .int (fen ((nI ((16 * (3100 + j39)) + j52))).toNatClampNeg)), (2, .int (nI j39)), (1, .int y52_1), (0, .ref mo)]) hx hb dX6_sweep_136 hl (k := 2) rfl rfl (by decide) rfl (fun ls hl => ?_)
                    refine lv_goto (tgt := 52) hx hb dX6_sweep_139 (by decide) ?_
                    rw [nI_1] at hl
                    exact ih52 (j52 + 1, y52_1, Ml52) _ _ _ ⟨⟨by omega, by omega⟩, ⟨_, _, _, _, _, _, _, fcn, fia, fdr, fen, fla, fwo, fop, fmk, fir, fse, fec, flc, fol, fal_13, fwc, hap, kmo_13, hmd, ⟨hrC, hrL, hrM⟩, kcn_13, kia_13, kdr_13, ken_13, kla_13, kwo_13, kop_13, kmk_13, kir_13, kse_13, kec_13, klc_13, kwc_13, kol_13, hal_13⟩, hkp, hkl52, hdd52, hm, hS, lv_sub hl [0, 3, 4, 5] rfl⟩ (by show 2147483648 - (j52 + 1) < 2147483648 - j52; omega)
                  · refine lv_aload_n hx hb dX6_sweep_122 rfl (lv_at hl 5 rfl) ?_
                    refine m_get (T := TX6) (N := 24) (ci := 6) (v := .ref al) hx hb hts wX6 hown hK hm kmo_13 rfl 21 (by decide) f64 (fun _ h9 => h9) rfl dX6_sweep_123 ?_
                    refine lv_iload hx hb dX6_sweep_126 (lv_at hl 0 rfl) ?_
                    refine lv_sipush (v := 3100) hx hb dX6_sweep_128 (by decide) ?_
                    refine lv_isub hx hb dX6_sweep_131 ?_
                    refine W.eq (g2 := F0 m 132 ls [.int (nI (nb101 - 3100)), .ref al]) (by rw [show (((nI nb101)) - (3100) : Int32) = nI (nb101 - 3100) from pk_sub (a := nb101) (b := 3100) (by omega)]) ?_
                    refine lv_iconst (v := 1) hx hb dX6_sweep_132 (by decide) ?_
                    refine m_zast hx hb hK hm hS 2 hal_13 rfl (vp_in_nI (by omega) (by decide)) dX6_sweep_133 (fun H locs hm hS => ?_)
                    have hm : mm D (AZ z) (mu Ml52 al (.inl (k 2, 100, .inl (upd fal_13 ((nI (nb101 - 3100))).toNatClampNeg (vp_nar .boolean 1))))) H := hm
                    have hkp : kpx (fun a => a ∈ [mo, cn, ia, dr, en, la, wo, op, mk, ir, se, ec, lc, wc, ol, al]) M (mu Ml52 al (.inl (k 2, 100, .inl (upd fal_13 ((nI (nb101 - 3100))).toNatClampNeg (vp_nar .boolean 1))))) := (hkp).self (by simp)
                    have hkl31 : kpx (fun a => a ∈ [al]) Ml2 (mu Ml52 al (.inl (k 2, 100, .inl (upd fal_13 ((nI (nb101 - 3100))).toNatClampNeg (vp_nar .boolean 1))))) := hkl31.self (by simp)
                    have hkl39 : kpx (fun a => a ∈ [al]) Ml31 (mu Ml52 al (.inl (k 2, 100, .inl (upd fal_13 ((nI (nb101 - 3100))).toNatClampNeg (vp_nar .boolean 1))))) := hkl39.self (by simp)
                    have hkl52 : kpx (fun a => a ∈ [al]) Ml39 (mu Ml52 al (.inl (k 2, 100, .inl (upd fal_13 ((nI (nb101 - 3100))).toNatClampNeg (vp_nar .boolean 1))))) := hkl52.self (by simp)
                    have hdl : deadM (mu Ml52 al (.inl (k 2, 100, .inl (upd fal_13 ((nI (nb101 - 3100))).toNatClampNeg (vp_nar .boolean 1))))) al < deadM Ml52 al := by
                      rw [deadM_of (mu_self _ _ _), deadM_of hal_13]
                      exact dead_up (by rw [nI_clamp (by omega)]; omega) (by first | exact c66 | exact Classical.not_not.mp c66) (by decide)
                    refine lv_iconst (v := 1) hx hb dX6_sweep_134 (by decide) ?_
                    refine lv_istore_n (lv' := [(1, .int 1), (5, .int (nI nb101)), (4, .int (fen ((nI ((16 * (3100 + j39)) + j52))).toNatClampNeg)), (3, .int (nI j52)), (2, .int (nI j39)), (0, .ref mo)]) hx hb dX6_sweep_135 rfl hl (by decide) rfl (fun ls hl => ?_)
                    refine lv_iinc (v := ((nI j52) + 1)) (lv' := [(3, .int ((nI j52) + 1)), (1, .int 1), (5, .int (nI nb101)), (4, .int (fen ((nI ((16 * (3100 + j39)) + j52))).toNatClampNeg)), (2, .int (nI j39)), (0, .ref mo)]) hx hb dX6_sweep_136 hl (k := 3) rfl rfl (by decide) rfl (fun ls hl => ?_)
                    refine lv_goto (tgt := 52) hx hb dX6_sweep_139 (by decide) ?_
                    rw [nI_1] at hl
                    exact ih52 (j52 + 1, 1, (mu Ml52 al (.inl (k 2, 100, .inl (upd fal_13 ((nI (nb101 - 3100))).toNatClampNeg (vp_nar .boolean 1)))))) _ _ _ ⟨⟨by omega, by omega⟩, ⟨_, _, _, _, _, _, _, fcn, fia, fdr, fen, fla, fwo, fop, fmk, fir, fse, fec, flc, fol, (upd fal_13 ((nI (nb101 - 3100))).toNatClampNeg (vp_nar .boolean 1)), fwc, hap, ((mu_ne ne_mo_al).trans kmo_13), hmd, ⟨hrC, hrL, hrM⟩, ((mu_ne ne_cn_al).trans kcn_13), ((mu_ne ne_ia_al).trans kia_13), ((mu_ne ne_dr_al).trans kdr_13), ((mu_ne ne_en_al).trans ken_13), ((mu_ne ne_la_al).trans kla_13), ((mu_ne ne_wo_al).trans kwo_13), ((mu_ne ne_op_al).trans kop_13), ((mu_ne ne_mk_al).trans kmk_13), ((mu_ne ne_ir_al).trans kir_13), ((mu_ne ne_se_al).trans kse_13), ((mu_ne ne_ec_al).trans kec_13), ((mu_ne ne_lc_al).trans klc_13), ((mu_ne ne_wc_al).trans kwc_13), ((mu_ne ne_ol_al).trans kol_13), (mu_self _ _ _)⟩, hkp, hkl52, ⟨Or.inr (Nat.lt_of_lt_of_le hdl hdd52.2), Nat.le_of_lt (Nat.lt_of_lt_of_le hdl hdd52.2)⟩, hm, hS, lv_sub hl [0, 4, 1, 5] rfl⟩ (by show 2147483648 - (j52 + 1) < 2147483648 - j52; omega)
            · refine lv_iconst (v := (-1)) hx hb dX6_sweep_89 (by decide) ?_
              refine lv_goto (tgt := 101) hx hb dX6_sweep_90 (by decide) ?_
              refine lv_istore (lv' := [(5, .int (-1)), (4, .int (fen ((nI ((16 * (3100 + j39)) + j52))).toNatClampNeg)), (3, .int (nI j52)), (2, .int (nI j39)), (1, .int y52_1), (0, .ref mo)]) hx hb dX6_sweep_101 hl (by decide) rfl (fun ls hl => ?_)
              refine lv_iload hx hb dX6_sweep_103 (lv_at hl 0 rfl) ?_
              refine lv_if_lt (tgt := 136) hx hb dX6_sweep_105 (by decide) (fun c67 => ?_) (fun c67 => ?_)
              · refine lv_iinc (v := ((nI j52) + 1)) (lv' := [(3, .int ((nI j52) + 1)), (5, .int (-1)), (4, .int (fen ((nI ((16 * (3100 + j39)) + j52))).toNatClampNeg)), (2, .int (nI j39)), (1, .int y52_1), (0, .ref mo)]) hx hb dX6_sweep_136 hl (k := 2) rfl rfl (by decide) rfl (fun ls hl => ?_)
                refine lv_goto (tgt := 52) hx hb dX6_sweep_139 (by decide) ?_
                rw [nI_1] at hl
                exact ih52 (j52 + 1, y52_1, Ml52) _ _ _ ⟨⟨by omega, by omega⟩, ⟨_, _, _, _, _, _, _, fcn, fia, fdr, fen, fla, fwo, fop, fmk, fir, fse, fec, flc, fol, fal_13, fwc, hap, kmo_13, hmd, ⟨hrC, hrL, hrM⟩, kcn_13, kia_13, kdr_13, ken_13, kla_13, kwo_13, kop_13, kmk_13, kir_13, kse_13, kec_13, klc_13, kwc_13, kol_13, hal_13⟩, hkp, hkl52, hdd52, hm, hS, lv_sub hl [0, 3, 4, 5] rfl⟩ (by show 2147483648 - (j52 + 1) < 2147483648 - j52; omega)
              · first | exact absurd c67 (by decide) | exact absurd (by decide) c67
  · have hqc1 : j2 < 100 := nb_nle (a := 100) (b := j2) (by omega) (by omega) c1
    refine lv_aload_n hx hb dX6_sweep_8 rfl (lv_at hl 1 rfl) ?_
    refine m_get (T := TX6) (N := 24) (ci := 6) (v := .ref al) hx hb hts wX6 hown hK hm kmo_1 rfl 21 (by decide) f64 (fun _ h9 => h9) rfl dX6_sweep_9 ?_
    refine lv_iload_n hx hb dX6_sweep_12 rfl (lv_at hl 0 rfl) ?_
    refine lv_iload_n hx hb dX6_sweep_13 rfl (lv_at hl 0 rfl) ?_
    refine lv_if_ne (tgt := 21) hx hb dX6_sweep_14 (by decide) (fun c68 => ?_) (fun c68 => ?_)
    · have hqc68 : j2 ≠ 0 := nb_ne c68
      refine lv_iconst (v := 0) hx hb dX6_sweep_21 (by decide) ?_
      refine m_zast hx hb hK hm hS 2 hal_1 rfl (vp_in_nI (by omega) (by decide)) dX6_sweep_22 (fun H locs hm hS => ?_)
      have hm : mm D (AZ z) (mu Ml2 al (.inl (k 2, 100, .inl (upd fal_1 ((nI j2)).toNatClampNeg (vp_nar .boolean 0))))) H := hm
      have hkp : kpx (fun a => a ∈ [mo, cn, ia, dr, en, la, wo, op, mk, ir, se, ec, lc, wc, ol, al]) M (mu Ml2 al (.inl (k 2, 100, .inl (upd fal_1 ((nI j2)).toNatClampNeg (vp_nar .boolean 0))))) := (hkp).self (by simp)
      have hkl2 : kpx (fun a => a ∈ [al]) M (mu Ml2 al (.inl (k 2, 100, .inl (upd fal_1 ((nI j2)).toNatClampNeg (vp_nar .boolean 0))))) := hkl2.self (by simp)
      refine lv_iinc (v := ((nI j2) + 1)) (lv' := [(1, .int ((nI j2) + 1)), (0, .ref mo)]) hx hb dX6_sweep_23 hl (k := 0) rfl rfl (by decide) rfl (fun ls hl => ?_)
      refine lv_goto (tgt := 2) hx hb dX6_sweep_26 (by decide) ?_
      rw [nI_1] at hl
      exact ih2 (j2 + 1, (mu Ml2 al (.inl (k 2, 100, .inl (upd fal_1 ((nI j2)).toNatClampNeg (vp_nar .boolean 0)))))) _ _ _ ⟨⟨by omega, by omega⟩, ⟨_, _, _, _, _, _, _, fcn, fia, fdr, fen, fla, fwo, fop, fmk, fir, fse, fec, flc, fol, (upd fal_1 ((nI j2)).toNatClampNeg (vp_nar .boolean 0)), fwc, hap, ((mu_ne ne_mo_al).trans kmo_1), hmd, ⟨hrC, hrL, hrM⟩, ((mu_ne ne_cn_al).trans kcn_1), ((mu_ne ne_ia_al).trans kia_1), ((mu_ne ne_dr_al).trans kdr_1), ((mu_ne ne_en_al).trans ken_1), ((mu_ne ne_la_al).trans kla_1), ((mu_ne ne_wo_al).trans kwo_1), ((mu_ne ne_op_al).trans kop_1), ((mu_ne ne_mk_al).trans kmk_1), ((mu_ne ne_ir_al).trans kir_1), ((mu_ne ne_se_al).trans kse_1), ((mu_ne ne_ec_al).trans kec_1), ((mu_ne ne_lc_al).trans klc_1), ((mu_ne ne_wc_al).trans kwc_1), ((mu_ne ne_ol_al).trans kol_1), (mu_self _ _ _)⟩, hkp, hkl2, hm, hS, lv_sub hl [0, 1] rfl⟩ (by show 2147483648 - (j2 + 1) < 2147483648 - j2; omega)
    · have hqc68 : j2 = 0 := by first | exact nb_eq (by omega) (by omega) c68 | exact nb_eq (by omega) (by omega) (Classical.not_not.mp c68)
      refine lv_iconst (v := 1) hx hb dX6_sweep_17 (by decide) ?_
      refine lv_goto (tgt := 22) hx hb dX6_sweep_18 (by decide) ?_
      refine m_zast hx hb hK hm hS 2 hal_1 rfl (vp_in_nI (by omega) (by decide)) dX6_sweep_22 (fun H locs hm hS => ?_)
      have hm : mm D (AZ z) (mu Ml2 al (.inl (k 2, 100, .inl (upd fal_1 ((nI j2)).toNatClampNeg (vp_nar .boolean 1))))) H := hm
      have hkp : kpx (fun a => a ∈ [mo, cn, ia, dr, en, la, wo, op, mk, ir, se, ec, lc, wc, ol, al]) M (mu Ml2 al (.inl (k 2, 100, .inl (upd fal_1 ((nI j2)).toNatClampNeg (vp_nar .boolean 1))))) := (hkp).self (by simp)
      have hkl2 : kpx (fun a => a ∈ [al]) M (mu Ml2 al (.inl (k 2, 100, .inl (upd fal_1 ((nI j2)).toNatClampNeg (vp_nar .boolean 1))))) := hkl2.self (by simp)
      refine lv_iinc (v := ((nI j2) + 1)) (lv' := [(1, .int ((nI j2) + 1)), (0, .ref mo)]) hx hb dX6_sweep_23 hl (k := 0) rfl rfl (by decide) rfl (fun ls hl => ?_)
      refine lv_goto (tgt := 2) hx hb dX6_sweep_26 (by decide) ?_
      rw [nI_1] at hl
      exact ih2 (j2 + 1, (mu Ml2 al (.inl (k 2, 100, .inl (upd fal_1 ((nI j2)).toNatClampNeg (vp_nar .boolean 1)))))) _ _ _ ⟨⟨by omega, by omega⟩, ⟨_, _, _, _, _, _, _, fcn, fia, fdr, fen, fla, fwo, fop, fmk, fir, fse, fec, flc, fol, (upd fal_1 ((nI j2)).toNatClampNeg (vp_nar .boolean 1)), fwc, hap, ((mu_ne ne_mo_al).trans kmo_1), hmd, ⟨hrC, hrL, hrM⟩, ((mu_ne ne_cn_al).trans kcn_1), ((mu_ne ne_ia_al).trans kia_1), ((mu_ne ne_dr_al).trans kdr_1), ((mu_ne ne_en_al).trans ken_1), ((mu_ne ne_la_al).trans kla_1), ((mu_ne ne_wo_al).trans kwo_1), ((mu_ne ne_op_al).trans kop_1), ((mu_ne ne_mk_al).trans kmk_1), ((mu_ne ne_ir_al).trans kir_1), ((mu_ne ne_se_al).trans kse_1), ((mu_ne ne_ec_al).trans kec_1), ((mu_ne ne_lc_al).trans klc_1), ((mu_ne ne_wc_al).trans kwc_1), ((mu_ne ne_ol_al).trans kol_1), (mu_self _ _ _)⟩, hkp, hkl2, hm, hS, lv_sub hl [0, 1] rfl⟩ (by show 2147483648 - (j2 + 1) < 2147483648 - j2; omega)
