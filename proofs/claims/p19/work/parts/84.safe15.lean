set_option maxHeartbeats 4000000 in
set_option maxRecDepth 100000 in
theorem s_X6_isRefused (l : Launch) (D : va_G) (k : Nat → ClassId) (z : Nat) (M : mM) (mo cn ia dr en la wo op mk ir se ec lc wc ol al : Nat) (dn md : Int32)  (t9 : Nat) (ht9 : t9 < 6) (hI : mI k M mo cn ia dr en la wo op mk ir se ec lc wc ol al dn md) : mK l yX6_isRefused wsX6_isRefused ({ frames := 1, cells := 0, slots := 0, locals := 24 }) D k z [.ref mo, .int (nI t9)] M (fun v M' => (∃ x, v = some (.int x) ∧ (x = 0 ∨ x = 1)) ∧ M' = M) := by
  refine Met.ofW (cc := cX6_isRefused) (maxL := 7) (ret := (some .boolean)) (by decide) rfl ?_
  intro p e s m args below meth c s₁ B hml hv
  obtain ⟨rfl, hz, hcx, hm⟩ := hv
  have hx := B.exec
  have hb := B.bytes
  have hr := B.returns
  have hts := atoms_spec (ws := wsX6_isRefused) B.pre
  have hown : s.vm.findClass RX6 = some m.cls := findClass_of_methodNamed B.named
  have hlocks := B.notSynchronized
  have hK := hcx.1
  have hS : va_S (AZ z) s.heap s.heap [] := va_S.rf
  have hA : ∀ q, s.heap.size ≤ q → AZ z q := fun q h => Nat.le_trans hz h
  have hl := lv_entry ([.ref mo, .int (nI t9)]) (n := 7) (Nat.le_of_ble_eq_true rfl)
  rw [lg_entry_eq]
  generalize (lg_sl ([.ref mo, .int (nI t9)]) ++ List.replicate (7 - (lg_sl ([.ref mo, .int (nI t9)])).length) Slot.unset).toArray = ls at hl ⊢
  have hl : lv_has ls 7 [(0, .ref mo), (1, .int (nI t9))] := hl
  have f7 := hts (.fieldLink RX6 7 "CommitTreeModel" "counts" "[I") (by decide +kernel)
  have f13 := hts (.fieldLink RX6 13 "CommitTreeModel" "ids" "[I") (by decide +kernel)
  have f42 := hts (.fieldLink RX6 42 "CommitTreeModel" "isRead" "[Z") (by decide +kernel)
  have wX6 : ∀ w ∈ wsX60, w ∈ wsX6_isRefused := by decide +kernel
  obtain ⟨cd, ni, pw, cm, wr, cs, hm9, fcn, fia, fdr, fen, fla, fwo, fop, fmk, fir, fse, fec, flc, fol, fal, fwc, hap, hM, hmd, ⟨hrC, hrL, hrM⟩, hcn, hia, hdr, hen, hla, hwo, hop, hmk, hir, hse, hec, hlc, hwc, hol, hal⟩ := id hI
  have ne_mo_cn : nq mo cn := pw_ne hap 0 1 (by decide) (Nat.le_of_ble_eq_true rfl)
  have ne_cn_mo : nq cn mo := Ne.symm ne_mo_cn
  have ne_mo_ia : nq mo ia := pw_ne hap 0 2 (by decide) (Nat.le_of_ble_eq_true rfl)
  have ne_ia_mo : nq ia mo := Ne.symm ne_mo_ia
  have ne_mo_dr : nq mo dr := pw_ne hap 0 3 (by decide) (Nat.le_of_ble_eq_true rfl)
  have ne_dr_mo : nq dr mo := Ne.symm ne_mo_dr
  have ne_mo_en : nq mo en := pw_ne hap 0 4 (by decide) (Nat.le_of_ble_eq_true rfl)
  have ne_en_mo : nq en mo := Ne.symm ne_mo_en
  have ne_mo_la : nq mo la := pw_ne hap 0 5 (by decide) (Nat.le_of_ble_eq_true rfl)
  have ne_la_mo : nq la mo := Ne.symm ne_mo_la
  have ne_mo_wo : nq mo wo := pw_ne hap 0 6 (by decide) (Nat.le_of_ble_eq_true rfl)
  have ne_wo_mo : nq wo mo := Ne.symm ne_mo_wo
  have ne_mo_op : nq mo op := pw_ne hap 0 7 (by decide) (Nat.le_of_ble_eq_true rfl)
  have ne_op_mo : nq op mo := Ne.symm ne_mo_op
  have ne_mo_mk : nq mo mk := pw_ne hap 0 8 (by decide) (Nat.le_of_ble_eq_true rfl)
  have ne_mk_mo : nq mk mo := Ne.symm ne_mo_mk
  have ne_mo_ir : nq mo ir := pw_ne hap 0 9 (by decide) (Nat.le_of_ble_eq_true rfl)
  have ne_ir_mo : nq ir mo := Ne.symm ne_mo_ir
  have ne_mo_se : nq mo se := pw_ne hap 0 10 (by decide) (Nat.le_of_ble_eq_true rfl)
  have ne_se_mo : nq se mo := Ne.symm ne_mo_se
  have ne_mo_ec : nq mo ec := pw_ne hap 0 11 (by decide) (Nat.le_of_ble_eq_true rfl)
  have ne_ec_mo : nq ec mo := Ne.symm ne_mo_ec
  have ne_mo_lc : nq mo lc := pw_ne hap 0 12 (by decide) (Nat.le_of_ble_eq_true rfl)
  have ne_lc_mo : nq lc mo := Ne.symm ne_mo_lc
  have ne_mo_wc : nq mo wc := pw_ne hap 0 13 (by decide) (Nat.le_of_ble_eq_true rfl)
  have ne_wc_mo : nq wc mo := Ne.symm ne_mo_wc
  have ne_mo_ol : nq mo ol := pw_ne hap 0 14 (by decide) (Nat.le_of_ble_eq_true rfl)
  have ne_ol_mo : nq ol mo := Ne.symm ne_mo_ol
  have ne_mo_al : nq mo al := pw_ne hap 0 15 (by decide) (Nat.le_of_ble_eq_true rfl)
  have ne_al_mo : nq al mo := Ne.symm ne_mo_al
  have ne_cn_ia : nq cn ia := pw_ne hap 1 2 (by decide) (Nat.le_of_ble_eq_true rfl)
  have ne_ia_cn : nq ia cn := Ne.symm ne_cn_ia
  have ne_cn_dr : nq cn dr := pw_ne hap 1 3 (by decide) (Nat.le_of_ble_eq_true rfl)
  have ne_dr_cn : nq dr cn := Ne.symm ne_cn_dr
  have ne_cn_en : nq cn en := pw_ne hap 1 4 (by decide) (Nat.le_of_ble_eq_true rfl)
  have ne_en_cn : nq en cn := Ne.symm ne_cn_en
  have ne_cn_la : nq cn la := pw_ne hap 1 5 (by decide) (Nat.le_of_ble_eq_true rfl)
  have ne_la_cn : nq la cn := Ne.symm ne_cn_la
  have ne_cn_wo : nq cn wo := pw_ne hap 1 6 (by decide) (Nat.le_of_ble_eq_true rfl)
  have ne_wo_cn : nq wo cn := Ne.symm ne_cn_wo
  have ne_cn_op : nq cn op := pw_ne hap 1 7 (by decide) (Nat.le_of_ble_eq_true rfl)
  have ne_op_cn : nq op cn := Ne.symm ne_cn_op
  have ne_cn_mk : nq cn mk := pw_ne hap 1 8 (by decide) (Nat.le_of_ble_eq_true rfl)
  have ne_mk_cn : nq mk cn := Ne.symm ne_cn_mk
  have ne_cn_ir : nq cn ir := pw_ne hap 1 9 (by decide) (Nat.le_of_ble_eq_true rfl)
  have ne_ir_cn : nq ir cn := Ne.symm ne_cn_ir
  have ne_cn_se : nq cn se := pw_ne hap 1 10 (by decide) (Nat.le_of_ble_eq_true rfl)
  have ne_se_cn : nq se cn := Ne.symm ne_cn_se
  have ne_cn_ec : nq cn ec := pw_ne hap 1 11 (by decide) (Nat.le_of_ble_eq_true rfl)
  have ne_ec_cn : nq ec cn := Ne.symm ne_cn_ec
  have ne_cn_lc : nq cn lc := pw_ne hap 1 12 (by decide) (Nat.le_of_ble_eq_true rfl)
  have ne_lc_cn : nq lc cn := Ne.symm ne_cn_lc
  have ne_cn_wc : nq cn wc := pw_ne hap 1 13 (by decide) (Nat.le_of_ble_eq_true rfl)
  have ne_wc_cn : nq wc cn := Ne.symm ne_cn_wc
  have ne_cn_ol : nq cn ol := pw_ne hap 1 14 (by decide) (Nat.le_of_ble_eq_true rfl)
  have ne_ol_cn : nq ol cn := Ne.symm ne_cn_ol
  have ne_cn_al : nq cn al := pw_ne hap 1 15 (by decide) (Nat.le_of_ble_eq_true rfl)
  have ne_al_cn : nq al cn := Ne.symm ne_cn_al
  have ne_ia_dr : nq ia dr := pw_ne hap 2 3 (by decide) (Nat.le_of_ble_eq_true rfl)
  have ne_dr_ia : nq dr ia := Ne.symm ne_ia_dr
  have ne_ia_en : nq ia en := pw_ne hap 2 4 (by decide) (Nat.le_of_ble_eq_true rfl)
  have ne_en_ia : nq en ia := Ne.symm ne_ia_en
  have ne_ia_la : nq ia la := pw_ne hap 2 5 (by decide) (Nat.le_of_ble_eq_true rfl)
  have ne_la_ia : nq la ia := Ne.symm ne_ia_la
  have ne_ia_wo : nq ia wo := pw_ne hap 2 6 (by decide) (Nat.le_of_ble_eq_true rfl)
  have ne_wo_ia : nq wo ia := Ne.symm ne_ia_wo
  have ne_ia_op : nq ia op := pw_ne hap 2 7 (by decide) (Nat.le_of_ble_eq_true rfl)
  have ne_op_ia : nq op ia := Ne.symm ne_ia_op
  have ne_ia_mk : nq ia mk := pw_ne hap 2 8 (by decide) (Nat.le_of_ble_eq_true rfl)
  have ne_mk_ia : nq mk ia := Ne.symm ne_ia_mk
  have ne_ia_ir : nq ia ir := pw_ne hap 2 9 (by decide) (Nat.le_of_ble_eq_true rfl)
  have ne_ir_ia : nq ir ia := Ne.symm ne_ia_ir
  have ne_ia_se : nq ia se := pw_ne hap 2 10 (by decide) (Nat.le_of_ble_eq_true rfl)
  have ne_se_ia : nq se ia := Ne.symm ne_ia_se
  have ne_ia_ec : nq ia ec := pw_ne hap 2 11 (by decide) (Nat.le_of_ble_eq_true rfl)
  have ne_ec_ia : nq ec ia := Ne.symm ne_ia_ec
  have ne_ia_lc : nq ia lc := pw_ne hap 2 12 (by decide) (Nat.le_of_ble_eq_true rfl)
  have ne_lc_ia : nq lc ia := Ne.symm ne_ia_lc
  have ne_ia_wc : nq ia wc := pw_ne hap 2 13 (by decide) (Nat.le_of_ble_eq_true rfl)
  have ne_wc_ia : nq wc ia := Ne.symm ne_ia_wc
  have ne_ia_ol : nq ia ol := pw_ne hap 2 14 (by decide) (Nat.le_of_ble_eq_true rfl)
  have ne_ol_ia : nq ol ia := Ne.symm ne_ia_ol
  have ne_ia_al : nq ia al := pw_ne hap 2 15 (by decide) (Nat.le_of_ble_eq_true rfl)
  have ne_al_ia : nq al ia := Ne.symm ne_ia_al
  have ne_dr_en : nq dr en := pw_ne hap 3 4 (by decide) (Nat.le_of_ble_eq_true rfl)
  have ne_en_dr : nq en dr := Ne.symm ne_dr_en
  have ne_dr_la : nq dr la := pw_ne hap 3 5 (by decide) (Nat.le_of_ble_eq_true rfl)
  have ne_la_dr : nq la dr := Ne.symm ne_dr_la
  have ne_dr_wo : nq dr wo := pw_ne hap 3 6 (by decide) (Nat.le_of_ble_eq_true rfl)
  have ne_wo_dr : nq wo dr := Ne.symm ne_dr_wo
  have ne_dr_op : nq dr op := pw_ne hap 3 7 (by decide) (Nat.le_of_ble_eq_true rfl)
  have ne_op_dr : nq op dr := Ne.symm ne_dr_op
  have ne_dr_mk : nq dr mk := pw_ne hap 3 8 (by decide) (Nat.le_of_ble_eq_true rfl)
  have ne_mk_dr : nq mk dr := Ne.symm ne_dr_mk
  have ne_dr_ir : nq dr ir := pw_ne hap 3 9 (by decide) (Nat.le_of_ble_eq_true rfl)
  have ne_ir_dr : nq ir dr := Ne.symm ne_dr_ir
  have ne_dr_se : nq dr se := pw_ne hap 3 10 (by decide) (Nat.le_of_ble_eq_true rfl)
  have ne_se_dr : nq se dr := Ne.symm ne_dr_se
  have ne_dr_ec : nq dr ec := pw_ne hap 3 11 (by decide) (Nat.le_of_ble_eq_true rfl)
  have ne_ec_dr : nq ec dr := Ne.symm ne_dr_ec
  have ne_dr_lc : nq dr lc := pw_ne hap 3 12 (by decide) (Nat.le_of_ble_eq_true rfl)
  have ne_lc_dr : nq lc dr := Ne.symm ne_dr_lc
  have ne_dr_wc : nq dr wc := pw_ne hap 3 13 (by decide) (Nat.le_of_ble_eq_true rfl)
  have ne_wc_dr : nq wc dr := Ne.symm ne_dr_wc
  have ne_dr_ol : nq dr ol := pw_ne hap 3 14 (by decide) (Nat.le_of_ble_eq_true rfl)
  have ne_ol_dr : nq ol dr := Ne.symm ne_dr_ol
  have ne_dr_al : nq dr al := pw_ne hap 3 15 (by decide) (Nat.le_of_ble_eq_true rfl)
  have ne_al_dr : nq al dr := Ne.symm ne_dr_al
  have ne_en_la : nq en la := pw_ne hap 4 5 (by decide) (Nat.le_of_ble_eq_true rfl)
  have ne_la_en : nq la en := Ne.symm ne_en_la
  have ne_en_wo : nq en wo := pw_ne hap 4 6 (by decide) (Nat.le_of_ble_eq_true rfl)
  have ne_wo_en : nq wo en := Ne.symm ne_en_wo
  have ne_en_op : nq en op := pw_ne hap 4 7 (by decide) (Nat.le_of_ble_eq_true rfl)
  have ne_op_en : nq op en := Ne.symm ne_en_op
  have ne_en_mk : nq en mk := pw_ne hap 4 8 (by decide) (Nat.le_of_ble_eq_true rfl)
  have ne_mk_en : nq mk en := Ne.symm ne_en_mk
  have ne_en_ir : nq en ir := pw_ne hap 4 9 (by decide) (Nat.le_of_ble_eq_true rfl)
  have ne_ir_en : nq ir en := Ne.symm ne_en_ir
  have ne_en_se : nq en se := pw_ne hap 4 10 (by decide) (Nat.le_of_ble_eq_true rfl)
  have ne_se_en : nq se en := Ne.symm ne_en_se
  have ne_en_ec : nq en ec := pw_ne hap 4 11 (by decide) (Nat.le_of_ble_eq_true rfl)
  have ne_ec_en : nq ec en := Ne.symm ne_en_ec
  have ne_en_lc : nq en lc := pw_ne hap 4 12 (by decide) (Nat.le_of_ble_eq_true rfl)
  have ne_lc_en : nq lc en := Ne.symm ne_en_lc
  have ne_en_wc : nq en wc := pw_ne hap 4 13 (by decide) (Nat.le_of_ble_eq_true rfl)
  have ne_wc_en : nq wc en := Ne.symm ne_en_wc
  have ne_en_ol : nq en ol := pw_ne hap 4 14 (by decide) (Nat.le_of_ble_eq_true rfl)
  have ne_ol_en : nq ol en := Ne.symm ne_en_ol
  have ne_en_al : nq en al := pw_ne hap 4 15 (by decide) (Nat.le_of_ble_eq_true rfl)
  have ne_al_en : nq al en := Ne.symm ne_en_al
  have ne_la_wo : nq la wo := pw_ne hap 5 6 (by decide) (Nat.le_of_ble_eq_true rfl)
  have ne_wo_la : nq wo la := Ne.symm ne_la_wo
  have ne_la_op : nq la op := pw_ne hap 5 7 (by decide) (Nat.le_of_ble_eq_true rfl)
  have ne_op_la : nq op la := Ne.symm ne_la_op
  have ne_la_mk : nq la mk := pw_ne hap 5 8 (by decide) (Nat.le_of_ble_eq_true rfl)
  have ne_mk_la : nq mk la := Ne.symm ne_la_mk
  have ne_la_ir : nq la ir := pw_ne hap 5 9 (by decide) (Nat.le_of_ble_eq_true rfl)
  have ne_ir_la : nq ir la := Ne.symm ne_la_ir
  have ne_la_se : nq la se := pw_ne hap 5 10 (by decide) (Nat.le_of_ble_eq_true rfl)
  have ne_se_la : nq se la := Ne.symm ne_la_se
  have ne_la_ec : nq la ec := pw_ne hap 5 11 (by decide) (Nat.le_of_ble_eq_true rfl)
  have ne_ec_la : nq ec la := Ne.symm ne_la_ec
  have ne_la_lc : nq la lc := pw_ne hap 5 12 (by decide) (Nat.le_of_ble_eq_true rfl)
  have ne_lc_la : nq lc la := Ne.symm ne_la_lc
  have ne_la_wc : nq la wc := pw_ne hap 5 13 (by decide) (Nat.le_of_ble_eq_true rfl)
  have ne_wc_la : nq wc la := Ne.symm ne_la_wc
  have ne_la_ol : nq la ol := pw_ne hap 5 14 (by decide) (Nat.le_of_ble_eq_true rfl)
  have ne_ol_la : nq ol la := Ne.symm ne_la_ol
  have ne_la_al : nq la al := pw_ne hap 5 15 (by decide) (Nat.le_of_ble_eq_true rfl)
  have ne_al_la : nq al la := Ne.symm ne_la_al
  have ne_wo_op : nq wo op := pw_ne hap 6 7 (by decide) (Nat.le_of_ble_eq_true rfl)
  have ne_op_wo : nq op wo := Ne.symm ne_wo_op
  have ne_wo_mk : nq wo mk := pw_ne hap 6 8 (by decide) (Nat.le_of_ble_eq_true rfl)
  have ne_mk_wo : nq mk wo := Ne.symm ne_wo_mk
  have ne_wo_ir : nq wo ir := pw_ne hap 6 9 (by decide) (Nat.le_of_ble_eq_true rfl)
  have ne_ir_wo : nq ir wo := Ne.symm ne_wo_ir
  have ne_wo_se : nq wo se := pw_ne hap 6 10 (by decide) (Nat.le_of_ble_eq_true rfl)
  have ne_se_wo : nq se wo := Ne.symm ne_wo_se
  have ne_wo_ec : nq wo ec := pw_ne hap 6 11 (by decide) (Nat.le_of_ble_eq_true rfl)
  have ne_ec_wo : nq ec wo := Ne.symm ne_wo_ec
  have ne_wo_lc : nq wo lc := pw_ne hap 6 12 (by decide) (Nat.le_of_ble_eq_true rfl)
  have ne_lc_wo : nq lc wo := Ne.symm ne_wo_lc
  have ne_wo_wc : nq wo wc := pw_ne hap 6 13 (by decide) (Nat.le_of_ble_eq_true rfl)
  have ne_wc_wo : nq wc wo := Ne.symm ne_wo_wc
  have ne_wo_ol : nq wo ol := pw_ne hap 6 14 (by decide) (Nat.le_of_ble_eq_true rfl)
  have ne_ol_wo : nq ol wo := Ne.symm ne_wo_ol
  have ne_wo_al : nq wo al := pw_ne hap 6 15 (by decide) (Nat.le_of_ble_eq_true rfl)
  have ne_al_wo : nq al wo := Ne.symm ne_wo_al
  have ne_op_mk : nq op mk := pw_ne hap 7 8 (by decide) (Nat.le_of_ble_eq_true rfl)
  have ne_mk_op : nq mk op := Ne.symm ne_op_mk
  have ne_op_ir : nq op ir := pw_ne hap 7 9 (by decide) (Nat.le_of_ble_eq_true rfl)
  have ne_ir_op : nq ir op := Ne.symm ne_op_ir
  have ne_op_se : nq op se := pw_ne hap 7 10 (by decide) (Nat.le_of_ble_eq_true rfl)
  have ne_se_op : nq se op := Ne.symm ne_op_se
  have ne_op_ec : nq op ec := pw_ne hap 7 11 (by decide) (Nat.le_of_ble_eq_true rfl)
  have ne_ec_op : nq ec op := Ne.symm ne_op_ec
  have ne_op_lc : nq op lc := pw_ne hap 7 12 (by decide) (Nat.le_of_ble_eq_true rfl)
  have ne_lc_op : nq lc op := Ne.symm ne_op_lc
  have ne_op_wc : nq op wc := pw_ne hap 7 13 (by decide) (Nat.le_of_ble_eq_true rfl)
  have ne_wc_op : nq wc op := Ne.symm ne_op_wc
  have ne_op_ol : nq op ol := pw_ne hap 7 14 (by decide) (Nat.le_of_ble_eq_true rfl)
  have ne_ol_op : nq ol op := Ne.symm ne_op_ol
  have ne_op_al : nq op al := pw_ne hap 7 15 (by decide) (Nat.le_of_ble_eq_true rfl)
  have ne_al_op : nq al op := Ne.symm ne_op_al
  have ne_mk_ir : nq mk ir := pw_ne hap 8 9 (by decide) (Nat.le_of_ble_eq_true rfl)
  have ne_ir_mk : nq ir mk := Ne.symm ne_mk_ir
  have ne_mk_se : nq mk se := pw_ne hap 8 10 (by decide) (Nat.le_of_ble_eq_true rfl)
  have ne_se_mk : nq se mk := Ne.symm ne_mk_se
  have ne_mk_ec : nq mk ec := pw_ne hap 8 11 (by decide) (Nat.le_of_ble_eq_true rfl)
  have ne_ec_mk : nq ec mk := Ne.symm ne_mk_ec
  have ne_mk_lc : nq mk lc := pw_ne hap 8 12 (by decide) (Nat.le_of_ble_eq_true rfl)
  have ne_lc_mk : nq lc mk := Ne.symm ne_mk_lc
  have ne_mk_wc : nq mk wc := pw_ne hap 8 13 (by decide) (Nat.le_of_ble_eq_true rfl)
  have ne_wc_mk : nq wc mk := Ne.symm ne_mk_wc
  have ne_mk_ol : nq mk ol := pw_ne hap 8 14 (by decide) (Nat.le_of_ble_eq_true rfl)
  have ne_ol_mk : nq ol mk := Ne.symm ne_mk_ol
  have ne_mk_al : nq mk al := pw_ne hap 8 15 (by decide) (Nat.le_of_ble_eq_true rfl)
  have ne_al_mk : nq al mk := Ne.symm ne_mk_al
  have ne_ir_se : nq ir se := pw_ne hap 9 10 (by decide) (Nat.le_of_ble_eq_true rfl)
  have ne_se_ir : nq se ir := Ne.symm ne_ir_se
  have ne_ir_ec : nq ir ec := pw_ne hap 9 11 (by decide) (Nat.le_of_ble_eq_true rfl)
  have ne_ec_ir : nq ec ir := Ne.symm ne_ir_ec
  have ne_ir_lc : nq ir lc := pw_ne hap 9 12 (by decide) (Nat.le_of_ble_eq_true rfl)
  have ne_lc_ir : nq lc ir := Ne.symm ne_ir_lc
  have ne_ir_wc : nq ir wc := pw_ne hap 9 13 (by decide) (Nat.le_of_ble_eq_true rfl)
  have ne_wc_ir : nq wc ir := Ne.symm ne_ir_wc
  have ne_ir_ol : nq ir ol := pw_ne hap 9 14 (by decide) (Nat.le_of_ble_eq_true rfl)
  have ne_ol_ir : nq ol ir := Ne.symm ne_ir_ol
  have ne_ir_al : nq ir al := pw_ne hap 9 15 (by decide) (Nat.le_of_ble_eq_true rfl)
  have ne_al_ir : nq al ir := Ne.symm ne_ir_al
  have ne_se_ec : nq se ec := pw_ne hap 10 11 (by decide) (Nat.le_of_ble_eq_true rfl)
  have ne_ec_se : nq ec se := Ne.symm ne_se_ec
  have ne_se_lc : nq se lc := pw_ne hap 10 12 (by decide) (Nat.le_of_ble_eq_true rfl)
  have ne_lc_se : nq lc se := Ne.symm ne_se_lc
  have ne_se_wc : nq se wc := pw_ne hap 10 13 (by decide) (Nat.le_of_ble_eq_true rfl)
  have ne_wc_se : nq wc se := Ne.symm ne_se_wc
  have ne_se_ol : nq se ol := pw_ne hap 10 14 (by decide) (Nat.le_of_ble_eq_true rfl)
  have ne_ol_se : nq ol se := Ne.symm ne_se_ol
  have ne_se_al : nq se al := pw_ne hap 10 15 (by decide) (Nat.le_of_ble_eq_true rfl)
  have ne_al_se : nq al se := Ne.symm ne_se_al
  have ne_ec_lc : nq ec lc := pw_ne hap 11 12 (by decide) (Nat.le_of_ble_eq_true rfl)
  have ne_lc_ec : nq lc ec := Ne.symm ne_ec_lc
  have ne_ec_wc : nq ec wc := pw_ne hap 11 13 (by decide) (Nat.le_of_ble_eq_true rfl)
  have ne_wc_ec : nq wc ec := Ne.symm ne_ec_wc
  have ne_ec_ol : nq ec ol := pw_ne hap 11 14 (by decide) (Nat.le_of_ble_eq_true rfl)
  have ne_ol_ec : nq ol ec := Ne.symm ne_ec_ol
  have ne_ec_al : nq ec al := pw_ne hap 11 15 (by decide) (Nat.le_of_ble_eq_true rfl)
  have ne_al_ec : nq al ec := Ne.symm ne_ec_al
  have ne_lc_wc : nq lc wc := pw_ne hap 12 13 (by decide) (Nat.le_of_ble_eq_true rfl)
  have ne_wc_lc : nq wc lc := Ne.symm ne_lc_wc
  have ne_lc_ol : nq lc ol := pw_ne hap 12 14 (by decide) (Nat.le_of_ble_eq_true rfl)
  have ne_ol_lc : nq ol lc := Ne.symm ne_lc_ol
  have ne_lc_al : nq lc al := pw_ne hap 12 15 (by decide) (Nat.le_of_ble_eq_true rfl)
  have ne_al_lc : nq al lc := Ne.symm ne_lc_al
  have ne_wc_ol : nq wc ol := pw_ne hap 13 14 (by decide) (Nat.le_of_ble_eq_true rfl)
  have ne_ol_wc : nq ol wc := Ne.symm ne_wc_ol
  have ne_wc_al : nq wc al := pw_ne hap 13 15 (by decide) (Nat.le_of_ble_eq_true rfl)
  have ne_al_wc : nq al wc := Ne.symm ne_wc_al
  have ne_ol_al : nq ol al := pw_ne hap 14 15 (by decide) (Nat.le_of_ble_eq_true rfl)
  have ne_al_ol : nq al ol := Ne.symm ne_ol_al
  refine lv_iconst (v := 1) hx hb dX6_isRefused_0 (by decide) ?_
  refine lv_iconst (v := 5) hx hb dX6_isRefused_1 (by decide) ?_
  refine lv_iload_n hx hb dX6_isRefused_2 rfl (lv_at hl 1 rfl) ?_
  refine lv_imul hx hb dX6_isRefused_3 ?_
  refine W.eq (g2 := F0 m 4 ls [.int (nI (5 * t9)), .int 1]) (by rw [show ((5) * ((nI t9)) : Int32) = nI (5 * t9) from pk_mul 5 t9]) ?_
  refine lv_iadd hx hb dX6_isRefused_4 ?_
  refine W.eq (g2 := F0 m 5 ls [.int (nI (1 + (5 * t9)))]) (by rw [show ((1) + ((nI (5 * t9))) : Int32) = nI (1 + (5 * t9)) from nI_add 1 (5 * t9)]) ?_
  refine lv_istore_n (lv' := [(2, .int (nI (1 + (5 * t9)))), (0, .ref mo), (1, .int (nI t9))]) hx hb dX6_isRefused_5 rfl hl (by decide) rfl (fun ls hl => ?_)
  refine lv_iconst (v := 0) hx hb dX6_isRefused_6 (by decide) ?_
  refine lv_istore_n (lv' := [(3, .int 0), (2, .int (nI (1 + (5 * t9)))), (0, .ref mo), (1, .int (nI t9))]) hx hb dX6_isRefused_7 rfl hl (by decide) rfl (fun ls hl => ?_)
  refine lv_iconst (v := 0) hx hb dX6_isRefused_8 (by decide) ?_
  refine lv_istore (lv' := [(4, .int 0), (3, .int 0), (2, .int (nI (1 + (5 * t9)))), (0, .ref mo), (1, .int (nI t9))]) hx hb dX6_isRefused_9 hl (by decide) rfl (fun ls hl => ?_)
  refine W_loop (σ := Nat × Int32) (fun ⟨j, r9⟩ H locs ls => (j ≤ 100) ∧ (r9 = 0 ∨ r9 = 1) ∧ mm D (AZ z) M H ∧ va_S (AZ z) s.heap H locs ∧ lv_has ls 7 [(4, .int (nI j)), (3, .int r9), (0, .ref mo), (1, .int (nI t9)), (2, .int (nI (1 + (5 * t9))))]) (fun ⟨j, r9⟩ => 100 - j) (fun ⟨j, r9⟩ => 0) (fun ⟨j, r9⟩ => 0) ?_ (0, 0) _ _ _ ⟨Nat.zero_le _, Or.inl rfl, hm, hS, lv_sub hl [0, 1, 3, 4, 2] rfl⟩
  intro ⟨j, r9⟩ H locs ls hI ih11
  obtain ⟨hj, hr9, hm, hS, hl⟩ := hI
  try dsimp only at hm hl ih11 ⊢
  refine lv_iload hx hb dX6_isRefused_11 (lv_at hl 0 rfl) ?_
  refine lv_aload_n hx hb dX6_isRefused_13 rfl (lv_at hl 2 rfl) ?_
  refine m_get (T := TX6) (N := 24) (ci := 6) (v := .ref cn) hx hb hts wX6 hown hK hm hM rfl 1 (by decide) f7 (fun _ h9 => h9) rfl dX6_isRefused_14 ?_
  refine lv_iload_n hx hb dX6_isRefused_17 rfl (lv_at hl 4 rfl) ?_
  refine m_iald hx hb hK hm 0 hcn rfl (vp_in_nI (by omega) (by decide)) dX6_isRefused_18 ?_
  obtain ⟨u1, hu1, eu1⟩ := hrC (1 + (5 * t9))
  refine W.eq (g2 := F0 m 19 ls [.int (nI u1), .int (nI j)]) (by rw [show (fcn ((nI (1 + (5 * t9)))).toNatClampNeg) = nI u1 from (congrArg fcn (show ((nI (1 + (5 * t9)))).toNatClampNeg = (1 + (5 * t9)) from nI_clamp (by omega))).trans eu1]) ?_
  have hb_u1 := hu1
  have hu1 : u1 ≤ 100 := Nat.le_trans hu1 (bC_le _)
  refine lv_icmp_ge (tgt := 124) hx hb dX6_isRefused_19 (by decide) (fun c2 => ?_) (fun c2 => ?_)
  · refine lv_iload_n hx hb dX6_isRefused_124 rfl (lv_at hl 1 rfl) ?_
    refine W.zret hx hb hr (bo_n hr9) (fun t ht hW => ⟨⟨some (.int r9), _, rfl, ?_, by rw [ht]; exact hm⟩, hS.F ht⟩) hS.2.2 dX6_isRefused_125
    exact ⟨⟨_, rfl, hr9⟩, rfl⟩
  · have hlt_j : j < u1 := Nat.lt_of_not_le fun q => c2 (nI_le (by omega) (by omega))
    refine lv_aload_n hx hb dX6_isRefused_22 rfl (lv_at hl 2 rfl) ?_
    refine lv_iconst (v := 0) hx hb dX6_isRefused_23 (by decide) ?_
    refine lv_aload_n hx hb dX6_isRefused_24 rfl (lv_at hl 2 rfl) ?_
    refine m_get (T := TX6) (N := 24) (ci := 6) (v := .ref ia) hx hb hts wX6 hown hK hm hM rfl 2 (by decide) f13 (fun _ h9 => h9) rfl dX6_isRefused_25 ?_
    refine lv_bipush (v := 100) hx hb dX6_isRefused_28 (by decide) ?_
    refine lv_iload_n hx hb dX6_isRefused_30 rfl (lv_at hl 4 rfl) ?_
    refine lv_imul hx hb dX6_isRefused_31 ?_
    refine W.eq (g2 := F0 m 32 ls [.int (nI (100 * (1 + (5 * t9)))), .ref ia, .int 0, .ref mo]) (by rw [show ((100) * ((nI (1 + (5 * t9)))) : Int32) = nI (100 * (1 + (5 * t9))) from pk_mul 100 (1 + (5 * t9))]) ?_
    refine lv_iload hx hb dX6_isRefused_32 (lv_at hl 0 rfl) ?_
    refine lv_iadd hx hb dX6_isRefused_34 ?_
    refine W.eq (g2 := F0 m 35 ls [.int (nI ((100 * (1 + (5 * t9))) + j)), .ref ia, .int 0, .ref mo]) (by rw [show (((nI (100 * (1 + (5 * t9))))) + ((nI j)) : Int32) = nI ((100 * (1 + (5 * t9))) + j) from nI_add (100 * (1 + (5 * t9))) j]) ?_
    refine m_iald hx hb hK hm 0 hia rfl (vp_in_nI (by omega) (by decide)) dX6_isRefused_35 ?_
    refine m_kV (As := [.int 0, .int (fia ((nI ((100 * (1 + (5 * t9))) + j))).toNatClampNeg)]) (rest := []) (rm := { frames := 0, cells := 0, slots := 0, locals := 0 }) ⟨hx, hb, hml, hown, hts⟩ (s_X6_find l D k z _ mo cn ia dr en la wo op mk ir se ec lc wc ol al dn md 0 (by omega) (fia ((nI ((100 * (1 + (5 * t9))) + j))).toNatClampNeg) hI) (cwV 2 hts gX6_isRefused_X6_find rfl rfl rfl (by decide +kernel) ⟨Nat.le_of_ble_eq_true rfl, Nat.le_of_ble_eq_true rfl⟩) (m_recv hK hm (q := (RX6, TX6, 24)) rfl hM) hz hcx hm hS rfl hl.1 rfl (Nat.le_of_ble_eq_true rfl) dX6_isRefused_36 ⟨Nat.le_of_ble_eq_true rfl, Nat.le_of_ble_eq_true rfl⟩ (fun v M1 H locs hv hm hS => ?_)
    obtain ⟨⟨f9, hv1, hf9⟩, hM1⟩ := hv
    rw [hM1] at hm
    subst hv1
    rcases hf9 with hf9 | ⟨nb9, hb1, hb2, hf9⟩
    · subst hf9
      refine W.eq (g2 := F0 m 39 ls [.int (-1)]) rfl ?_
      refine W.widen (k := 0) (n := 0) (Nat.le_of_ble_eq_true rfl) (Nat.le_of_ble_eq_true rfl) ?_
      have hm : mm D (AZ z) M H := hm
      refine lv_istore (lv' := [(5, .int (-1)), (4, .int (nI j)), (3, .int r9), (0, .ref mo), (1, .int (nI t9)), (2, .int (nI (1 + (5 * t9))))]) hx hb dX6_isRefused_39 hl (by decide) rfl (fun ls hl => ?_)
      refine lv_iconst (v := 0) hx hb dX6_isRefused_41 (by decide) ?_
      refine lv_istore (lv' := [(6, .int 0), (5, .int (-1)), (4, .int (nI j)), (3, .int r9), (0, .ref mo), (1, .int (nI t9)), (2, .int (nI (1 + (5 * t9))))]) hx hb dX6_isRefused_42 hl (by decide) rfl (fun ls hl => ?_)
      refine W_loop (σ := Nat × Int32) (fun ⟨c9c, r8⟩ H locs ls => (c9c ≤ 95) ∧ (r8 = 0 ∨ r8 = 1) ∧ mm D (AZ z) M H ∧ va_S (AZ z) s.heap H locs ∧ lv_has ls 7 [(6, .int (nI c9c)), (3, .int r8), (0, .ref mo), (1, .int (nI t9)), (2, .int (nI (1 + (5 * t9)))), (4, .int (nI j)), (5, .int (-1))]) (fun ⟨c9c, r8⟩ => 95 - c9c) (fun ⟨c9c, r8⟩ => 0) (fun ⟨c9c, r8⟩ => 0) ?_ (0, r9) _ _ _ ⟨Nat.zero_le _, hr9, hm, hS, lv_sub hl [0, 3, 4, 5, 6, 2, 1] rfl⟩
      intro ⟨c9c, r8⟩ H locs ls hI ih44
      obtain ⟨hc9c, hr8, hm, hS, hl⟩ := hI
      try dsimp only at hm hl ih44 ⊢
      refine lv_iload hx hb dX6_isRefused_44 (lv_at hl 0 rfl) ?_
      refine lv_bipush (v := 95) hx hb dX6_isRefused_46 (by decide) ?_
      refine lv_icmp_ge (tgt := 118) hx hb dX6_isRefused_48 (by decide) (fun c3 => ?_) (fun c3 => ?_)
      · refine lv_iinc (v := ((nI j) + 1)) (lv' := [(4, .int ((nI j) + 1)), (6, .int (nI c9c)), (3, .int r8), (0, .ref mo), (1, .int (nI t9)), (2, .int (nI (1 + (5 * t9)))), (5, .int (-1))]) hx hb dX6_isRefused_118 hl (k := 5) rfl rfl (by decide) rfl (fun ls hl => ?_)
        refine lv_goto (tgt := 11) hx hb dX6_isRefused_121 (by decide) ?_
        rw [nI_1] at hl
        exact ih11 (j + 1, r8) _ _ _ ⟨by omega, hr8, hm, hS, lv_sub hl [0, 2, 3, 4, 5] rfl⟩ (by show 100 - (j + 1) < 100 - j; omega)
      · have hlt_c9c : c9c < 95 := Nat.lt_of_not_le fun q => c3 (nI_le (a := 95) q (by omega))
        refine lv_aload_n hx hb dX6_isRefused_51 rfl (lv_at hl 2 rfl) ?_
        refine m_get (T := TX6) (N := 24) (ci := 6) (v := .ref ir) hx hb hts wX6 hown hK hm hM rfl 10 (by decide) f42 (fun _ h9 => h9) rfl dX6_isRefused_52 ?_
        refine lv_sipush (v := 9500) hx hb dX6_isRefused_55 (by decide) ?_
        refine lv_iload_n hx hb dX6_isRefused_58 rfl (lv_at hl 3 rfl) ?_
        refine lv_imul hx hb dX6_isRefused_59 ?_
        refine W.eq (g2 := F0 m 60 ls [.int (nI (9500 * t9)), .ref ir]) (by rw [show ((9500) * ((nI t9)) : Int32) = nI (9500 * t9) from pk_mul 9500 t9]) ?_
        refine lv_bipush (v := 95) hx hb dX6_isRefused_60 (by decide) ?_
        refine lv_iload hx hb dX6_isRefused_62 (lv_at hl 5 rfl) ?_
        refine lv_imul hx hb dX6_isRefused_64 ?_
        refine W.eq (g2 := F0 m 65 ls [.int (nI (95 * j)), .int (nI (9500 * t9)), .ref ir]) (by rw [show ((95) * ((nI j)) : Int32) = nI (95 * j) from pk_mul 95 j]) ?_
        refine lv_iadd hx hb dX6_isRefused_65 ?_
        refine W.eq (g2 := F0 m 66 ls [.int (nI ((9500 * t9) + (95 * j))), .ref ir]) (by rw [show (((nI (9500 * t9))) + ((nI (95 * j))) : Int32) = nI ((9500 * t9) + (95 * j)) from nI_add (9500 * t9) (95 * j)]) ?_
        refine lv_iload hx hb dX6_isRefused_66 (lv_at hl 0 rfl) ?_
        refine lv_iadd hx hb dX6_isRefused_68 ?_
        refine W.eq (g2 := F0 m 69 ls [.int (nI (((9500 * t9) + (95 * j)) + c9c)), .ref ir]) (by rw [show (((nI ((9500 * t9) + (95 * j)))) + ((nI c9c)) : Int32) = nI (((9500 * t9) + (95 * j)) + c9c) from nI_add ((9500 * t9) + (95 * j)) c9c]) ?_
        refine m_zald hx hb hK hm 2 hir rfl (vp_in_nI (by omega) (by decide)) dX6_isRefused_69 ?_
        refine lv_if_eq (tgt := 112) hx hb dX6_isRefused_70 (by decide) (fun c4 => ?_) (fun c4 => ?_)
        · refine lv_iinc (v := ((nI c9c) + 1)) (lv' := [(6, .int ((nI c9c) + 1)), (3, .int r8), (0, .ref mo), (1, .int (nI t9)), (2, .int (nI (1 + (5 * t9)))), (4, .int (nI j)), (5, .int (-1))]) hx hb dX6_isRefused_112 hl (k := 0) rfl rfl (by decide) rfl (fun ls hl => ?_)
          refine lv_goto (tgt := 44) hx hb dX6_isRefused_115 (by decide) ?_
          rw [nI_1] at hl
          exact ih44 (c9c + 1, r8) _ _ _ ⟨by omega, hr8, hm, hS, lv_sub hl [0, 1, 2, 3, 4, 5, 6] rfl⟩ (by show 95 - (c9c + 1) < 95 - c9c; omega)
        · refine lv_iload_n hx hb dX6_isRefused_73 rfl (lv_at hl 1 rfl) ?_
          refine lv_if_ne (tgt := 106) hx hb dX6_isRefused_74 (by decide) (fun c5 => ?_) (fun c5 => ?_)
          · refine lv_iconst (v := 1) hx hb dX6_isRefused_106 (by decide) ?_
            refine lv_goto (tgt := 111) hx hb dX6_isRefused_107 (by decide) ?_
            refine lv_istore_n (lv' := [(3, .int 1), (6, .int (nI c9c)), (0, .ref mo), (1, .int (nI t9)), (2, .int (nI (1 + (5 * t9)))), (4, .int (nI j)), (5, .int (-1))]) hx hb dX6_isRefused_111 rfl hl (by decide) rfl (fun ls hl => ?_)
            refine lv_iinc (v := ((nI c9c) + 1)) (lv' := [(6, .int ((nI c9c) + 1)), (3, .int 1), (0, .ref mo), (1, .int (nI t9)), (2, .int (nI (1 + (5 * t9)))), (4, .int (nI j)), (5, .int (-1))]) hx hb dX6_isRefused_112 hl (k := 1) rfl rfl (by decide) rfl (fun ls hl => ?_)
            refine lv_goto (tgt := 44) hx hb dX6_isRefused_115 (by decide) ?_
            rw [nI_1] at hl
            exact ih44 (c9c + 1, 1) _ _ _ ⟨by omega, Or.inr rfl, hm, hS, lv_sub hl [0, 1, 2, 3, 4, 5, 6] rfl⟩ (by show 95 - (c9c + 1) < 95 - c9c; omega)
          · refine lv_iload hx hb dX6_isRefused_77 (lv_at hl 6 rfl) ?_
            refine lv_if_lt (tgt := 106) hx hb dX6_isRefused_79 (by decide) (fun c6 => ?_) (fun c6 => ?_)
            · refine lv_iconst (v := 1) hx hb dX6_isRefused_106 (by decide) ?_
              refine lv_goto (tgt := 111) hx hb dX6_isRefused_107 (by decide) ?_
              refine lv_istore_n (lv' := [(3, .int 1), (6, .int (nI c9c)), (0, .ref mo), (1, .int (nI t9)), (2, .int (nI (1 + (5 * t9)))), (4, .int (nI j)), (5, .int (-1))]) hx hb dX6_isRefused_111 rfl hl (by decide) rfl (fun ls hl => ?_)
              refine lv_iinc (v := ((nI c9c) + 1)) (lv' := [(6, .int ((nI c9c) + 1)), (3, .int 1), (0, .ref mo), (1, .int (nI t9)), (2, .int (nI (1 + (5 * t9)))), (4, .int (nI j)), (5, .int (-1))]) hx hb dX6_isRefused_112 hl (k := 1) rfl rfl (by decide) rfl (fun ls hl => ?_)
              refine lv_goto (tgt := 44) hx hb dX6_isRefused_115 (by decide) ?_
              rw [nI_1] at hl
              exact ih44 (c9c + 1, 1) _ _ _ ⟨by omega, Or.inr rfl, hm, hS, lv_sub hl [0, 1, 2, 3, 4, 5, 6] rfl⟩ (by show 95 - (c9c + 1) < 95 - c9c; omega)
            · first | exact absurd c6 (by decide) | exact absurd (by decide) c6
    · subst hf9
      refine W.eq (g2 := F0 m 39 ls [.int (nI nb9)]) rfl ?_
      refine W.widen (k := 0) (n := 0) (Nat.le_of_ble_eq_true rfl) (Nat.le_of_ble_eq_true rfl) ?_
      have hm : mm D (AZ z) M H := hm
      refine lv_istore (lv' := [(5, .int (nI nb9)), (4, .int (nI j)), (3, .int r9), (0, .ref mo), (1, .int (nI t9)), (2, .int (nI (1 + (5 * t9))))]) hx hb dX6_isRefused_39 hl (by decide) rfl (fun ls hl => ?_)
      refine lv_iconst (v := 0) hx hb dX6_isRefused_41 (by decide) ?_
      refine lv_istore (lv' := [(6, .int 0), (5, .int (nI nb9)), (4, .int (nI j)), (3, .int r9), (0, .ref mo), (1, .int (nI t9)), (2, .int (nI (1 + (5 * t9))))]) hx hb dX6_isRefused_42 hl (by decide) rfl (fun ls hl => ?_)
      refine W_loop (σ := Nat × Int32) (fun ⟨c9c, r8⟩ H locs ls => (c9c ≤ 95) ∧ (r8 = 0 ∨ r8 = 1) ∧ mm D (AZ z) M H ∧ va_S (AZ z) s.heap H locs ∧ lv_has ls 7 [(6, .int (nI c9c)), (3, .int r8), (0, .ref mo), (1, .int (nI t9)), (2, .int (nI (1 + (5 * t9)))), (4, .int (nI j)), (5, .int (nI nb9))]) (fun ⟨c9c, r8⟩ => 95 - c9c) (fun ⟨c9c, r8⟩ => 0) (fun ⟨c9c, r8⟩ => 0) ?_ (0, r9) _ _ _ ⟨Nat.zero_le _, hr9, hm, hS, lv_sub hl [0, 3, 4, 5, 6, 2, 1] rfl⟩
      intro ⟨c9c, r8⟩ H locs ls hI ih44
      obtain ⟨hc9c, hr8, hm, hS, hl⟩ := hI
      try dsimp only at hm hl ih44 ⊢
      refine lv_iload hx hb dX6_isRefused_44 (lv_at hl 0 rfl) ?_
      refine lv_bipush (v := 95) hx hb dX6_isRefused_46 (by decide) ?_
      refine lv_icmp_ge (tgt := 118) hx hb dX6_isRefused_48 (by decide) (fun c7 => ?_) (fun c7 => ?_)
      · refine lv_iinc (v := ((nI j) + 1)) (lv' := [(4, .int ((nI j) + 1)), (6, .int (nI c9c)), (3, .int r8), (0, .ref mo), (1, .int (nI t9)), (2, .int (nI (1 + (5 * t9)))), (5, .int (nI nb9))]) hx hb dX6_isRefused_118 hl (k := 5) rfl rfl (by decide) rfl (fun ls hl => ?_)
        refine lv_goto (tgt := 11) hx hb dX6_isRefused_121 (by decide) ?_
        rw [nI_1] at hl
        exact ih11 (j + 1, r8) _ _ _ ⟨by omega, hr8, hm, hS, lv_sub hl [0, 2, 3, 4, 5] rfl⟩ (by show 100 - (j + 1) < 100 - j; omega)
      · have hlt_c9c : c9c < 95 := Nat.lt_of_not_le fun q => c7 (nI_le (a := 95) q (by omega))
        refine lv_aload_n hx hb dX6_isRefused_51 rfl (lv_at hl 2 rfl) ?_
        refine m_get (T := TX6) (N := 24) (ci := 6) (v := .ref ir) hx hb hts wX6 hown hK hm hM rfl 10 (by decide) f42 (fun _ h9 => h9) rfl dX6_isRefused_52 ?_
        refine lv_sipush (v := 9500) hx hb dX6_isRefused_55 (by decide) ?_
        refine lv_iload_n hx hb dX6_isRefused_58 rfl (lv_at hl 3 rfl) ?_
        refine lv_imul hx hb dX6_isRefused_59 ?_
        refine W.eq (g2 := F0 m 60 ls [.int (nI (9500 * t9)), .ref ir]) (by rw [show ((9500) * ((nI t9)) : Int32) = nI (9500 * t9) from pk_mul 9500 t9]) ?_
        refine lv_bipush (v := 95) hx hb dX6_isRefused_60 (by decide) ?_
        refine lv_iload hx hb dX6_isRefused_62 (lv_at hl 5 rfl) ?_
        refine lv_imul hx hb dX6_isRefused_64 ?_
        refine W.eq (g2 := F0 m 65 ls [.int (nI (95 * j)), .int (nI (9500 * t9)), .ref ir]) (by rw [show ((95) * ((nI j)) : Int32) = nI (95 * j) from pk_mul 95 j]) ?_
        refine lv_iadd hx hb dX6_isRefused_65 ?_
        refine W.eq (g2 := F0 m 66 ls [.int (nI ((9500 * t9) + (95 * j))), .ref ir]) (by rw [show (((nI (9500 * t9))) + ((nI (95 * j))) : Int32) = nI ((9500 * t9) + (95 * j)) from nI_add (9500 * t9) (95 * j)]) ?_
        refine lv_iload hx hb dX6_isRefused_66 (lv_at hl 0 rfl) ?_
        refine lv_iadd hx hb dX6_isRefused_68 ?_
        refine W.eq (g2 := F0 m 69 ls [.int (nI (((9500 * t9) + (95 * j)) + c9c)), .ref ir]) (by rw [show (((nI ((9500 * t9) + (95 * j)))) + ((nI c9c)) : Int32) = nI (((9500 * t9) + (95 * j)) + c9c) from nI_add ((9500 * t9) + (95 * j)) c9c]) ?_
        refine m_zald hx hb hK hm 2 hir rfl (vp_in_nI (by omega) (by decide)) dX6_isRefused_69 ?_
        refine lv_if_eq (tgt := 112) hx hb dX6_isRefused_70 (by decide) (fun c8 => ?_) (fun c8 => ?_)
        · refine lv_iinc (v := ((nI c9c) + 1)) (lv' := [(6, .int ((nI c9c) + 1)), (3, .int r8), (0, .ref mo), (1, .int (nI t9)), (2, .int (nI (1 + (5 * t9)))), (4, .int (nI j)), (5, .int (nI nb9))]) hx hb dX6_isRefused_112 hl (k := 0) rfl rfl (by decide) rfl (fun ls hl => ?_)
          refine lv_goto (tgt := 44) hx hb dX6_isRefused_115 (by decide) ?_
          rw [nI_1] at hl
          exact ih44 (c9c + 1, r8) _ _ _ ⟨by omega, hr8, hm, hS, lv_sub hl [0, 1, 2, 3, 4, 5, 6] rfl⟩ (by show 95 - (c9c + 1) < 95 - c9c; omega)
        · refine lv_iload_n hx hb dX6_isRefused_73 rfl (lv_at hl 1 rfl) ?_
          refine lv_if_ne (tgt := 106) hx hb dX6_isRefused_74 (by decide) (fun c9 => ?_) (fun c9 => ?_)
          · refine lv_iconst (v := 1) hx hb dX6_isRefused_106 (by decide) ?_
            refine lv_goto (tgt := 111) hx hb dX6_isRefused_107 (by decide) ?_
            refine lv_istore_n (lv' := [(3, .int 1), (6, .int (nI c9c)), (0, .ref mo), (1, .int (nI t9)), (2, .int (nI (1 + (5 * t9)))), (4, .int (nI j)), (5, .int (nI nb9))]) hx hb dX6_isRefused_111 rfl hl (by decide) rfl (fun ls hl => ?_)
            refine lv_iinc (v := ((nI c9c) + 1)) (lv' := [(6, .int ((nI c9c) + 1)), (3, .int 1), (0, .ref mo), (1, .int (nI t9)), (2, .int (nI (1 + (5 * t9)))), (4, .int (nI j)), (5, .int (nI nb9))]) hx hb dX6_isRefused_112 hl (k := 1) rfl rfl (by decide) rfl (fun ls hl => ?_)
            refine lv_goto (tgt := 44) hx hb dX6_isRefused_115 (by decide) ?_
            rw [nI_1] at hl
            exact ih44 (c9c + 1, 1) _ _ _ ⟨by omega, Or.inr rfl, hm, hS, lv_sub hl [0, 1, 2, 3, 4, 5, 6] rfl⟩ (by show 95 - (c9c + 1) < 95 - c9c; omega)
          · refine lv_iload hx hb dX6_isRefused_77 (lv_at hl 6 rfl) ?_
            refine lv_if_lt (tgt := 106) hx hb dX6_isRefused_79 (by decide) (fun c10 => ?_) (fun c10 => ?_)
            · exact absurd c10 (nI_pos (by omega))
            · refine lv_aload_n hx hb dX6_isRefused_82 rfl (lv_at hl 2 rfl) ?_
              refine lv_iload hx hb dX6_isRefused_83 (lv_at hl 6 rfl) ?_
              refine lv_iload hx hb dX6_isRefused_85 (lv_at hl 0 rfl) ?_
              refine m_kV (As := [.int (nI nb9), .int (nI c9c)]) (rest := []) (rm := { frames := 0, cells := 0, slots := 0, locals := 0 }) ⟨hx, hb, hml, hown, hts⟩ (s_X6_valueOf l D k z _ mo cn ia dr en la wo op mk ir se ec lc wc ol al dn md nb9 c9c (by omega) (by omega) hI) (cwV 2 hts gX6_isRefused_X6_valueOf rfl rfl rfl (by decide +kernel) ⟨Nat.le_of_ble_eq_true rfl, Nat.le_of_ble_eq_true rfl⟩) (m_recv hK hm (q := (RX6, TX6, 24)) rfl hM) hz hcx hm hS rfl hl.1 rfl (Nat.le_of_ble_eq_true rfl) dX6_isRefused_87 ⟨Nat.le_of_ble_eq_true rfl, Nat.le_of_ble_eq_true rfl⟩ (fun v M1 H locs hv hm hS => ?_)
              obtain ⟨⟨w11, hv1, ew11⟩, hM1⟩ := hv
              rw [hM1] at hm
              subst hv1
              refine W.eq (g2 := F0 m 90 ls [.int w11]) rfl ?_
              refine W.widen (k := 0) (n := 0) (Nat.le_of_ble_eq_true rfl) (Nat.le_of_ble_eq_true rfl) ?_
              have hm : mm D (AZ z) M H := hm
              refine lv_aload_n hx hb dX6_isRefused_90 rfl (lv_at hl 2 rfl) ?_
              refine lv_bipush (v := 100) hx hb dX6_isRefused_91 (by decide) ?_
              refine lv_iload_n hx hb dX6_isRefused_93 rfl (lv_at hl 4 rfl) ?_
              refine lv_imul hx hb dX6_isRefused_94 ?_
              refine W.eq (g2 := F0 m 95 ls [.int (nI (100 * (1 + (5 * t9)))), .ref mo, .int w11]) (by rw [show ((100) * ((nI (1 + (5 * t9)))) : Int32) = nI (100 * (1 + (5 * t9))) from pk_mul 100 (1 + (5 * t9))]) ?_
              refine lv_iload hx hb dX6_isRefused_95 (lv_at hl 5 rfl) ?_
              refine lv_iadd hx hb dX6_isRefused_97 ?_
              refine W.eq (g2 := F0 m 98 ls [.int (nI ((100 * (1 + (5 * t9))) + j)), .ref mo, .int w11]) (by rw [show (((nI (100 * (1 + (5 * t9))))) + ((nI j)) : Int32) = nI ((100 * (1 + (5 * t9))) + j) from nI_add (100 * (1 + (5 * t9))) j]) ?_
              refine lv_iload hx hb dX6_isRefused_98 (lv_at hl 0 rfl) ?_
              refine m_kV (As := [.int (nI ((100 * (1 + (5 * t9))) + j)), .int (nI c9c)]) (rest := [.int w11]) (rm := { frames := 0, cells := 0, slots := 0, locals := 0 }) ⟨hx, hb, hml, hown, hts⟩ (s_X6_valueOf l D k z _ mo cn ia dr en la wo op mk ir se ec lc wc ol al dn md ((100 * (1 + (5 * t9))) + j) c9c (by omega) (by omega) hI) (cwV 2 hts gX6_isRefused_X6_valueOf rfl rfl rfl (by decide +kernel) ⟨Nat.le_of_ble_eq_true rfl, Nat.le_of_ble_eq_true rfl⟩) (m_recv hK hm (q := (RX6, TX6, 24)) rfl hM) hz hcx hm hS rfl hl.1 rfl (Nat.le_of_ble_eq_true rfl) dX6_isRefused_100 ⟨Nat.le_of_ble_eq_true rfl, Nat.le_of_ble_eq_true rfl⟩ (fun v M1 H locs hv hm hS => ?_)
              obtain ⟨⟨w12, hv1, ew12⟩, hM1⟩ := hv
              rw [hM1] at hm
              subst hv1
              refine W.eq (g2 := F0 m 103 ls [.int w12, .int w11]) rfl ?_
              refine W.widen (k := 0) (n := 0) (Nat.le_of_ble_eq_true rfl) (Nat.le_of_ble_eq_true rfl) ?_
              have hm : mm D (AZ z) M H := hm
              refine lv_icmp_eq (tgt := 110) hx hb dX6_isRefused_103 (by decide) (fun c13 => ?_) (fun c13 => ?_)
              · refine lv_iconst (v := 0) hx hb dX6_isRefused_110 (by decide) ?_
                refine lv_istore_n (lv' := [(3, .int 0), (6, .int (nI c9c)), (0, .ref mo), (1, .int (nI t9)), (2, .int (nI (1 + (5 * t9)))), (4, .int (nI j)), (5, .int (nI nb9))]) hx hb dX6_isRefused_111 rfl hl (by decide) rfl (fun ls hl => ?_)
                refine lv_iinc (v := ((nI c9c) + 1)) (lv' := [(6, .int ((nI c9c) + 1)), (3, .int 0), (0, .ref mo), (1, .int (nI t9)), (2, .int (nI (1 + (5 * t9)))), (4, .int (nI j)), (5, .int (nI nb9))]) hx hb dX6_isRefused_112 hl (k := 1) rfl rfl (by decide) rfl (fun ls hl => ?_)
                refine lv_goto (tgt := 44) hx hb dX6_isRefused_115 (by decide) ?_
                rw [nI_1] at hl
                exact ih44 (c9c + 1, 0) _ _ _ ⟨by omega, Or.inl rfl, hm, hS, lv_sub hl [0, 1, 2, 3, 4, 5, 6] rfl⟩ (by show 95 - (c9c + 1) < 95 - c9c; omega)
              · refine lv_iconst (v := 1) hx hb dX6_isRefused_106 (by decide) ?_
                refine lv_goto (tgt := 111) hx hb dX6_isRefused_107 (by decide) ?_
                refine lv_istore_n (lv' := [(3, .int 1), (6, .int (nI c9c)), (0, .ref mo), (1, .int (nI t9)), (2, .int (nI (1 + (5 * t9)))), (4, .int (nI j)), (5, .int (nI nb9))]) hx hb dX6_isRefused_111 rfl hl (by decide) rfl (fun ls hl => ?_)
                refine lv_iinc (v := ((nI c9c) + 1)) (lv' := [(6, .int ((nI c9c) + 1)), (3, .int 1), (0, .ref mo), (1, .int (nI t9)), (2, .int (nI (1 + (5 * t9)))), (4, .int (nI j)), (5, .int (nI nb9))]) hx hb dX6_isRefused_112 hl (k := 1) rfl rfl (by decide) rfl (fun ls hl => ?_)
                refine lv_goto (tgt := 44) hx hb dX6_isRefused_115 (by decide) ?_
                rw [nI_1] at hl
                exact ih44 (c9c + 1, 1) _ _ _ ⟨by omega, Or.inr rfl, hm, hS, lv_sub hl [0, 1, 2, 3, 4, 5, 6] rfl⟩ (by show 95 - (c9c + 1) < 95 - c9c; omega)

set_option maxHeartbeats 4000000 in
set_option maxRecDepth 100000 in
theorem s_X6_changed (l : Launch) (D : va_G) (k : Nat → ClassId) (z : Nat) (M : mM) (mo cn ia dr en la wo op mk ir se ec lc wc ol al : Nat) (dn md : Int32)  (t9 : Nat) (ht9 : t9 < 6) (hI : mI k M mo cn ia dr en la wo op mk ir se ec lc wc ol al dn md) : mK l yX6_changed wsX6_changed ({ frames := 1, cells := 0, slots := 0, locals := 24 }) D k z [.ref mo, .int (nI t9)] M (fun v M' => (∃ x, v = some (.int x)) ∧ M' = M) := by
  refine Met.ofW (cc := cX6_changed) (maxL := 8) (ret := (some .int)) (by decide) rfl ?_
  intro p e s m args below meth c s₁ B hml hv
  obtain ⟨rfl, hz, hcx, hm⟩ := hv
  have hx := B.exec
  have hb := B.bytes
  have hr := B.returns
  have hts := atoms_spec (ws := wsX6_changed) B.pre
  have hown : s.vm.findClass RX6 = some m.cls := findClass_of_methodNamed B.named
  have hlocks := B.notSynchronized
  have hK := hcx.1
  have hS : va_S (AZ z) s.heap s.heap [] := va_S.rf
  have hA : ∀ q, s.heap.size ≤ q → AZ z q := fun q h => Nat.le_trans hz h
  have hl := lv_entry ([.ref mo, .int (nI t9)]) (n := 8) (Nat.le_of_ble_eq_true rfl)
  rw [lg_entry_eq]
  generalize (lg_sl ([.ref mo, .int (nI t9)]) ++ List.replicate (8 - (lg_sl ([.ref mo, .int (nI t9)])).length) Slot.unset).toArray = ls at hl ⊢
  have hl : lv_has ls 8 [(0, .ref mo), (1, .int (nI t9))] := hl
  have f7 := hts (.fieldLink RX6 7 "CommitTreeModel" "counts" "[I") (by decide +kernel)
  have f13 := hts (.fieldLink RX6 13 "CommitTreeModel" "ids" "[I") (by decide +kernel)
  have f16 := hts (.fieldLink RX6 16 "CommitTreeModel" "dirs" "[Z") (by decide +kernel)
  have wX6 : ∀ w ∈ wsX60, w ∈ wsX6_changed := by decide +kernel
  obtain ⟨cd, ni, pw, cm, wr, cs, hm9, fcn, fia, fdr, fen, fla, fwo, fop, fmk, fir, fse, fec, flc, fol, fal, fwc, hap, hM, hmd, ⟨hrC, hrL, hrM⟩, hcn, hia, hdr, hen, hla, hwo, hop, hmk, hir, hse, hec, hlc, hwc, hol, hal⟩ := id hI
  have ne_mo_cn : nq mo cn := pw_ne hap 0 1 (by decide) (Nat.le_of_ble_eq_true rfl)
  have ne_cn_mo : nq cn mo := Ne.symm ne_mo_cn
  have ne_mo_ia : nq mo ia := pw_ne hap 0 2 (by decide) (Nat.le_of_ble_eq_true rfl)
  have ne_ia_mo : nq ia mo := Ne.symm ne_mo_ia
  have ne_mo_dr : nq mo dr := pw_ne hap 0 3 (by decide) (Nat.le_of_ble_eq_true rfl)
  have ne_dr_mo : nq dr mo := Ne.symm ne_mo_dr
  have ne_mo_en : nq mo en := pw_ne hap 0 4 (by decide) (Nat.le_of_ble_eq_true rfl)
  have ne_en_mo : nq en mo := Ne.symm ne_mo_en
  have ne_mo_la : nq mo la := pw_ne hap 0 5 (by decide) (Nat.le_of_ble_eq_true rfl)
  have ne_la_mo : nq la mo := Ne.symm ne_mo_la
  have ne_mo_wo : nq mo wo := pw_ne hap 0 6 (by decide) (Nat.le_of_ble_eq_true rfl)
  have ne_wo_mo : nq wo mo := Ne.symm ne_mo_wo
  have ne_mo_op : nq mo op := pw_ne hap 0 7 (by decide) (Nat.le_of_ble_eq_true rfl)
  have ne_op_mo : nq op mo := Ne.symm ne_mo_op
  have ne_mo_mk : nq mo mk := pw_ne hap 0 8 (by decide) (Nat.le_of_ble_eq_true rfl)
  have ne_mk_mo : nq mk mo := Ne.symm ne_mo_mk
  have ne_mo_ir : nq mo ir := pw_ne hap 0 9 (by decide) (Nat.le_of_ble_eq_true rfl)
  have ne_ir_mo : nq ir mo := Ne.symm ne_mo_ir
  have ne_mo_se : nq mo se := pw_ne hap 0 10 (by decide) (Nat.le_of_ble_eq_true rfl)
  have ne_se_mo : nq se mo := Ne.symm ne_mo_se
  have ne_mo_ec : nq mo ec := pw_ne hap 0 11 (by decide) (Nat.le_of_ble_eq_true rfl)
  have ne_ec_mo : nq ec mo := Ne.symm ne_mo_ec
  have ne_mo_lc : nq mo lc := pw_ne hap 0 12 (by decide) (Nat.le_of_ble_eq_true rfl)
  have ne_lc_mo : nq lc mo := Ne.symm ne_mo_lc
  have ne_mo_wc : nq mo wc := pw_ne hap 0 13 (by decide) (Nat.le_of_ble_eq_true rfl)
  have ne_wc_mo : nq wc mo := Ne.symm ne_mo_wc
  have ne_mo_ol : nq mo ol := pw_ne hap 0 14 (by decide) (Nat.le_of_ble_eq_true rfl)
  have ne_ol_mo : nq ol mo := Ne.symm ne_mo_ol
  have ne_mo_al : nq mo al := pw_ne hap 0 15 (by decide) (Nat.le_of_ble_eq_true rfl)
  have ne_al_mo : nq al mo := Ne.symm ne_mo_al
  have ne_cn_ia : nq cn ia := pw_ne hap 1 2 (by decide) (Nat.le_of_ble_eq_true rfl)
  have ne_ia_cn : nq ia cn := Ne.symm ne_cn_ia
  have ne_cn_dr : nq cn dr := pw_ne hap 1 3 (by decide) (Nat.le_of_ble_eq_true rfl)
  have ne_dr_cn : nq dr cn := Ne.symm ne_cn_dr
  have ne_cn_en : nq cn en := pw_ne hap 1 4 (by decide) (Nat.le_of_ble_eq_true rfl)
  have ne_en_cn : nq en cn := Ne.symm ne_cn_en
  have ne_cn_la : nq cn la := pw_ne hap 1 5 (by decide) (Nat.le_of_ble_eq_true rfl)
  have ne_la_cn : nq la cn := Ne.symm ne_cn_la
  have ne_cn_wo : nq cn wo := pw_ne hap 1 6 (by decide) (Nat.le_of_ble_eq_true rfl)
  have ne_wo_cn : nq wo cn := Ne.symm ne_cn_wo
  have ne_cn_op : nq cn op := pw_ne hap 1 7 (by decide) (Nat.le_of_ble_eq_true rfl)
  have ne_op_cn : nq op cn := Ne.symm ne_cn_op
  have ne_cn_mk : nq cn mk := pw_ne hap 1 8 (by decide) (Nat.le_of_ble_eq_true rfl)
  have ne_mk_cn : nq mk cn := Ne.symm ne_cn_mk
  have ne_cn_ir : nq cn ir := pw_ne hap 1 9 (by decide) (Nat.le_of_ble_eq_true rfl)
  have ne_ir_cn : nq ir cn := Ne.symm ne_cn_ir
  have ne_cn_se : nq cn se := pw_ne hap 1 10 (by decide) (Nat.le_of_ble_eq_true rfl)
  have ne_se_cn : nq se cn := Ne.symm ne_cn_se
  have ne_cn_ec : nq cn ec := pw_ne hap 1 11 (by decide) (Nat.le_of_ble_eq_true rfl)
  have ne_ec_cn : nq ec cn := Ne.symm ne_cn_ec
  have ne_cn_lc : nq cn lc := pw_ne hap 1 12 (by decide) (Nat.le_of_ble_eq_true rfl)
  have ne_lc_cn : nq lc cn := Ne.symm ne_cn_lc
  have ne_cn_wc : nq cn wc := pw_ne hap 1 13 (by decide) (Nat.le_of_ble_eq_true rfl)
  have ne_wc_cn : nq wc cn := Ne.symm ne_cn_wc
  have ne_cn_ol : nq cn ol := pw_ne hap 1 14 (by decide) (Nat.le_of_ble_eq_true rfl)
  have ne_ol_cn : nq ol cn := Ne.symm ne_cn_ol
  have ne_cn_al : nq cn al := pw_ne hap 1 15 (by decide) (Nat.le_of_ble_eq_true rfl)
  have ne_al_cn : nq al cn := Ne.symm ne_cn_al
  have ne_ia_dr : nq ia dr := pw_ne hap 2 3 (by decide) (Nat.le_of_ble_eq_true rfl)
  have ne_dr_ia : nq dr ia := Ne.symm ne_ia_dr
  have ne_ia_en : nq ia en := pw_ne hap 2 4 (by decide) (Nat.le_of_ble_eq_true rfl)
  have ne_en_ia : nq en ia := Ne.symm ne_ia_en
  have ne_ia_la : nq ia la := pw_ne hap 2 5 (by decide) (Nat.le_of_ble_eq_true rfl)
  have ne_la_ia : nq la ia := Ne.symm ne_ia_la
  have ne_ia_wo : nq ia wo := pw_ne hap 2 6 (by decide) (Nat.le_of_ble_eq_true rfl)
  have ne_wo_ia : nq wo ia := Ne.symm ne_ia_wo
  have ne_ia_op : nq ia op := pw_ne hap 2 7 (by decide) (Nat.le_of_ble_eq_true rfl)
  have ne_op_ia : nq op ia := Ne.symm ne_ia_op
  have ne_ia_mk : nq ia mk := pw_ne hap 2 8 (by decide) (Nat.le_of_ble_eq_true rfl)
  have ne_mk_ia : nq mk ia := Ne.symm ne_ia_mk
  have ne_ia_ir : nq ia ir := pw_ne hap 2 9 (by decide) (Nat.le_of_ble_eq_true rfl)
  have ne_ir_ia : nq ir ia := Ne.symm ne_ia_ir
  have ne_ia_se : nq ia se := pw_ne hap 2 10 (by decide) (Nat.le_of_ble_eq_true rfl)
  have ne_se_ia : nq se ia := Ne.symm ne_ia_se
  have ne_ia_ec : nq ia ec := pw_ne hap 2 11 (by decide) (Nat.le_of_ble_eq_true rfl)
  have ne_ec_ia : nq ec ia := Ne.symm ne_ia_ec
  have ne_ia_lc : nq ia lc := pw_ne hap 2 12 (by decide) (Nat.le_of_ble_eq_true rfl)
  have ne_lc_ia : nq lc ia := Ne.symm ne_ia_lc
  have ne_ia_wc : nq ia wc := pw_ne hap 2 13 (by decide) (Nat.le_of_ble_eq_true rfl)
  have ne_wc_ia : nq wc ia := Ne.symm ne_ia_wc
  have ne_ia_ol : nq ia ol := pw_ne hap 2 14 (by decide) (Nat.le_of_ble_eq_true rfl)
  have ne_ol_ia : nq ol ia := Ne.symm ne_ia_ol
  have ne_ia_al : nq ia al := pw_ne hap 2 15 (by decide) (Nat.le_of_ble_eq_true rfl)
  have ne_al_ia : nq al ia := Ne.symm ne_ia_al
  have ne_dr_en : nq dr en := pw_ne hap 3 4 (by decide) (Nat.le_of_ble_eq_true rfl)
  have ne_en_dr : nq en dr := Ne.symm ne_dr_en
  have ne_dr_la : nq dr la := pw_ne hap 3 5 (by decide) (Nat.le_of_ble_eq_true rfl)
  have ne_la_dr : nq la dr := Ne.symm ne_dr_la
  have ne_dr_wo : nq dr wo := pw_ne hap 3 6 (by decide) (Nat.le_of_ble_eq_true rfl)
  have ne_wo_dr : nq wo dr := Ne.symm ne_dr_wo
  have ne_dr_op : nq dr op := pw_ne hap 3 7 (by decide) (Nat.le_of_ble_eq_true rfl)
  have ne_op_dr : nq op dr := Ne.symm ne_dr_op
  have ne_dr_mk : nq dr mk := pw_ne hap 3 8 (by decide) (Nat.le_of_ble_eq_true rfl)
  have ne_mk_dr : nq mk dr := Ne.symm ne_dr_mk
  have ne_dr_ir : nq dr ir := pw_ne hap 3 9 (by decide) (Nat.le_of_ble_eq_true rfl)
  have ne_ir_dr : nq ir dr := Ne.symm ne_dr_ir
  have ne_dr_se : nq dr se := pw_ne hap 3 10 (by decide) (Nat.le_of_ble_eq_true rfl)
  have ne_se_dr : nq se dr := Ne.symm ne_dr_se
  have ne_dr_ec : nq dr ec := pw_ne hap 3 11 (by decide) (Nat.le_of_ble_eq_true rfl)
  have ne_ec_dr : nq ec dr := Ne.symm ne_dr_ec
  have ne_dr_lc : nq dr lc := pw_ne hap 3 12 (by decide) (Nat.le_of_ble_eq_true rfl)
  have ne_lc_dr : nq lc dr := Ne.symm ne_dr_lc
  have ne_dr_wc : nq dr wc := pw_ne hap 3 13 (by decide) (Nat.le_of_ble_eq_true rfl)
  have ne_wc_dr : nq wc dr := Ne.symm ne_dr_wc
  have ne_dr_ol : nq dr ol := pw_ne hap 3 14 (by decide) (Nat.le_of_ble_eq_true rfl)
  have ne_ol_dr : nq ol dr := Ne.symm ne_dr_ol
  have ne_dr_al : nq dr al := pw_ne hap 3 15 (by decide) (Nat.le_of_ble_eq_true rfl)
  have ne_al_dr : nq al dr := Ne.symm ne_dr_al
  have ne_en_la : nq en la := pw_ne hap 4 5 (by decide) (Nat.le_of_ble_eq_true rfl)
  have ne_la_en : nq la en := Ne.symm ne_en_la
  have ne_en_wo : nq en wo := pw_ne hap 4 6 (by decide) (Nat.le_of_ble_eq_true rfl)
  have ne_wo_en : nq wo en := Ne.symm ne_en_wo
  have ne_en_op : nq en op := pw_ne hap 4 7 (by decide) (Nat.le_of_ble_eq_true rfl)
  have ne_op_en : nq op en := Ne.symm ne_en_op
  have ne_en_mk : nq en mk := pw_ne hap 4 8 (by decide) (Nat.le_of_ble_eq_true rfl)
  have ne_mk_en : nq mk en := Ne.symm ne_en_mk
  have ne_en_ir : nq en ir := pw_ne hap 4 9 (by decide) (Nat.le_of_ble_eq_true rfl)
  have ne_ir_en : nq ir en := Ne.symm ne_en_ir
  have ne_en_se : nq en se := pw_ne hap 4 10 (by decide) (Nat.le_of_ble_eq_true rfl)
  have ne_se_en : nq se en := Ne.symm ne_en_se
  have ne_en_ec : nq en ec := pw_ne hap 4 11 (by decide) (Nat.le_of_ble_eq_true rfl)
  have ne_ec_en : nq ec en := Ne.symm ne_en_ec
  have ne_en_lc : nq en lc := pw_ne hap 4 12 (by decide) (Nat.le_of_ble_eq_true rfl)
  have ne_lc_en : nq lc en := Ne.symm ne_en_lc
  have ne_en_wc : nq en wc := pw_ne hap 4 13 (by decide) (Nat.le_of_ble_eq_true rfl)
  have ne_wc_en : nq wc en := Ne.symm ne_en_wc
  have ne_en_ol : nq en ol := pw_ne hap 4 14 (by decide) (Nat.le_of_ble_eq_true rfl)
  have ne_ol_en : nq ol en := Ne.symm ne_en_ol
  have ne_en_al : nq en al := pw_ne hap 4 15 (by decide) (Nat.le_of_ble_eq_true rfl)
  have ne_al_en : nq al en := Ne.symm ne_en_al
  have ne_la_wo : nq la wo := pw_ne hap 5 6 (by decide) (Nat.le_of_ble_eq_true rfl)
  have ne_wo_la : nq wo la := Ne.symm ne_la_wo
  have ne_la_op : nq la op := pw_ne hap 5 7 (by decide) (Nat.le_of_ble_eq_true rfl)
  have ne_op_la : nq op la := Ne.symm ne_la_op
  have ne_la_mk : nq la mk := pw_ne hap 5 8 (by decide) (Nat.le_of_ble_eq_true rfl)
  have ne_mk_la : nq mk la := Ne.symm ne_la_mk
  have ne_la_ir : nq la ir := pw_ne hap 5 9 (by decide) (Nat.le_of_ble_eq_true rfl)
  have ne_ir_la : nq ir la := Ne.symm ne_la_ir
  have ne_la_se : nq la se := pw_ne hap 5 10 (by decide) (Nat.le_of_ble_eq_true rfl)
  have ne_se_la : nq se la := Ne.symm ne_la_se
  have ne_la_ec : nq la ec := pw_ne hap 5 11 (by decide) (Nat.le_of_ble_eq_true rfl)
  have ne_ec_la : nq ec la := Ne.symm ne_la_ec
  have ne_la_lc : nq la lc := pw_ne hap 5 12 (by decide) (Nat.le_of_ble_eq_true rfl)
  have ne_lc_la : nq lc la := Ne.symm ne_la_lc
  have ne_la_wc : nq la wc := pw_ne hap 5 13 (by decide) (Nat.le_of_ble_eq_true rfl)
  have ne_wc_la : nq wc la := Ne.symm ne_la_wc
  have ne_la_ol : nq la ol := pw_ne hap 5 14 (by decide) (Nat.le_of_ble_eq_true rfl)
  have ne_ol_la : nq ol la := Ne.symm ne_la_ol
  have ne_la_al : nq la al := pw_ne hap 5 15 (by decide) (Nat.le_of_ble_eq_true rfl)
  have ne_al_la : nq al la := Ne.symm ne_la_al
  have ne_wo_op : nq wo op := pw_ne hap 6 7 (by decide) (Nat.le_of_ble_eq_true rfl)
  have ne_op_wo : nq op wo := Ne.symm ne_wo_op
  have ne_wo_mk : nq wo mk := pw_ne hap 6 8 (by decide) (Nat.le_of_ble_eq_true rfl)
  have ne_mk_wo : nq mk wo := Ne.symm ne_wo_mk
  have ne_wo_ir : nq wo ir := pw_ne hap 6 9 (by decide) (Nat.le_of_ble_eq_true rfl)
  have ne_ir_wo : nq ir wo := Ne.symm ne_wo_ir
  have ne_wo_se : nq wo se := pw_ne hap 6 10 (by decide) (Nat.le_of_ble_eq_true rfl)
  have ne_se_wo : nq se wo := Ne.symm ne_wo_se
  have ne_wo_ec : nq wo ec := pw_ne hap 6 11 (by decide) (Nat.le_of_ble_eq_true rfl)
  have ne_ec_wo : nq ec wo := Ne.symm ne_wo_ec
  have ne_wo_lc : nq wo lc := pw_ne hap 6 12 (by decide) (Nat.le_of_ble_eq_true rfl)
  have ne_lc_wo : nq lc wo := Ne.symm ne_wo_lc
  have ne_wo_wc : nq wo wc := pw_ne hap 6 13 (by decide) (Nat.le_of_ble_eq_true rfl)
  have ne_wc_wo : nq wc wo := Ne.symm ne_wo_wc
  have ne_wo_ol : nq wo ol := pw_ne hap 6 14 (by decide) (Nat.le_of_ble_eq_true rfl)
  have ne_ol_wo : nq ol wo := Ne.symm ne_wo_ol
  have ne_wo_al : nq wo al := pw_ne hap 6 15 (by decide) (Nat.le_of_ble_eq_true rfl)
  have ne_al_wo : nq al wo := Ne.symm ne_wo_al
  have ne_op_mk : nq op mk := pw_ne hap 7 8 (by decide) (Nat.le_of_ble_eq_true rfl)
  have ne_mk_op : nq mk op := Ne.symm ne_op_mk
  have ne_op_ir : nq op ir := pw_ne hap 7 9 (by decide) (Nat.le_of_ble_eq_true rfl)
  have ne_ir_op : nq ir op := Ne.symm ne_op_ir
  have ne_op_se : nq op se := pw_ne hap 7 10 (by decide) (Nat.le_of_ble_eq_true rfl)
  have ne_se_op : nq se op := Ne.symm ne_op_se
  have ne_op_ec : nq op ec := pw_ne hap 7 11 (by decide) (Nat.le_of_ble_eq_true rfl)
  have ne_ec_op : nq ec op := Ne.symm ne_op_ec
  have ne_op_lc : nq op lc := pw_ne hap 7 12 (by decide) (Nat.le_of_ble_eq_true rfl)
  have ne_lc_op : nq lc op := Ne.symm ne_op_lc
  have ne_op_wc : nq op wc := pw_ne hap 7 13 (by decide) (Nat.le_of_ble_eq_true rfl)
  have ne_wc_op : nq wc op := Ne.symm ne_op_wc
  have ne_op_ol : nq op ol := pw_ne hap 7 14 (by decide) (Nat.le_of_ble_eq_true rfl)
  have ne_ol_op : nq ol op := Ne.symm ne_op_ol
  have ne_op_al : nq op al := pw_ne hap 7 15 (by decide) (Nat.le_of_ble_eq_true rfl)
  have ne_al_op : nq al op := Ne.symm ne_op_al
  have ne_mk_ir : nq mk ir := pw_ne hap 8 9 (by decide) (Nat.le_of_ble_eq_true rfl)
  have ne_ir_mk : nq ir mk := Ne.symm ne_mk_ir
  have ne_mk_se : nq mk se := pw_ne hap 8 10 (by decide) (Nat.le_of_ble_eq_true rfl)
  have ne_se_mk : nq se mk := Ne.symm ne_mk_se
  have ne_mk_ec : nq mk ec := pw_ne hap 8 11 (by decide) (Nat.le_of_ble_eq_true rfl)
  have ne_ec_mk : nq ec mk := Ne.symm ne_mk_ec
  have ne_mk_lc : nq mk lc := pw_ne hap 8 12 (by decide) (Nat.le_of_ble_eq_true rfl)
  have ne_lc_mk : nq lc mk := Ne.symm ne_mk_lc
  have ne_mk_wc : nq mk wc := pw_ne hap 8 13 (by decide) (Nat.le_of_ble_eq_true rfl)
  have ne_wc_mk : nq wc mk := Ne.symm ne_mk_wc
  have ne_mk_ol : nq mk ol := pw_ne hap 8 14 (by decide) (Nat.le_of_ble_eq_true rfl)
  have ne_ol_mk : nq ol mk := Ne.symm ne_mk_ol
  have ne_mk_al : nq mk al := pw_ne hap 8 15 (by decide) (Nat.le_of_ble_eq_true rfl)
  have ne_al_mk : nq al mk := Ne.symm ne_mk_al
  have ne_ir_se : nq ir se := pw_ne hap 9 10 (by decide) (Nat.le_of_ble_eq_true rfl)
  have ne_se_ir : nq se ir := Ne.symm ne_ir_se
  have ne_ir_ec : nq ir ec := pw_ne hap 9 11 (by decide) (Nat.le_of_ble_eq_true rfl)
  have ne_ec_ir : nq ec ir := Ne.symm ne_ir_ec
  have ne_ir_lc : nq ir lc := pw_ne hap 9 12 (by decide) (Nat.le_of_ble_eq_true rfl)
  have ne_lc_ir : nq lc ir := Ne.symm ne_ir_lc
  have ne_ir_wc : nq ir wc := pw_ne hap 9 13 (by decide) (Nat.le_of_ble_eq_true rfl)
  have ne_wc_ir : nq wc ir := Ne.symm ne_ir_wc
  have ne_ir_ol : nq ir ol := pw_ne hap 9 14 (by decide) (Nat.le_of_ble_eq_true rfl)
  have ne_ol_ir : nq ol ir := Ne.symm ne_ir_ol
  have ne_ir_al : nq ir al := pw_ne hap 9 15 (by decide) (Nat.le_of_ble_eq_true rfl)
  have ne_al_ir : nq al ir := Ne.symm ne_ir_al
  have ne_se_ec : nq se ec := pw_ne hap 10 11 (by decide) (Nat.le_of_ble_eq_true rfl)
  have ne_ec_se : nq ec se := Ne.symm ne_se_ec
  have ne_se_lc : nq se lc := pw_ne hap 10 12 (by decide) (Nat.le_of_ble_eq_true rfl)
  have ne_lc_se : nq lc se := Ne.symm ne_se_lc
  have ne_se_wc : nq se wc := pw_ne hap 10 13 (by decide) (Nat.le_of_ble_eq_true rfl)
  have ne_wc_se : nq wc se := Ne.symm ne_se_wc
  have ne_se_ol : nq se ol := pw_ne hap 10 14 (by decide) (Nat.le_of_ble_eq_true rfl)
  have ne_ol_se : nq ol se := Ne.symm ne_se_ol
  have ne_se_al : nq se al := pw_ne hap 10 15 (by decide) (Nat.le_of_ble_eq_true rfl)
  have ne_al_se : nq al se := Ne.symm ne_se_al
  have ne_ec_lc : nq ec lc := pw_ne hap 11 12 (by decide) (Nat.le_of_ble_eq_true rfl)
  have ne_lc_ec : nq lc ec := Ne.symm ne_ec_lc
  have ne_ec_wc : nq ec wc := pw_ne hap 11 13 (by decide) (Nat.le_of_ble_eq_true rfl)
  have ne_wc_ec : nq wc ec := Ne.symm ne_ec_wc
  have ne_ec_ol : nq ec ol := pw_ne hap 11 14 (by decide) (Nat.le_of_ble_eq_true rfl)
  have ne_ol_ec : nq ol ec := Ne.symm ne_ec_ol
  have ne_ec_al : nq ec al := pw_ne hap 11 15 (by decide) (Nat.le_of_ble_eq_true rfl)
  have ne_al_ec : nq al ec := Ne.symm ne_ec_al
  have ne_lc_wc : nq lc wc := pw_ne hap 12 13 (by decide) (Nat.le_of_ble_eq_true rfl)
  have ne_wc_lc : nq wc lc := Ne.symm ne_lc_wc
  have ne_lc_ol : nq lc ol := pw_ne hap 12 14 (by decide) (Nat.le_of_ble_eq_true rfl)
  have ne_ol_lc : nq ol lc := Ne.symm ne_lc_ol
  have ne_lc_al : nq lc al := pw_ne hap 12 15 (by decide) (Nat.le_of_ble_eq_true rfl)
  have ne_al_lc : nq al lc := Ne.symm ne_lc_al
  have ne_wc_ol : nq wc ol := pw_ne hap 13 14 (by decide) (Nat.le_of_ble_eq_true rfl)
  have ne_ol_wc : nq ol wc := Ne.symm ne_wc_ol
  have ne_wc_al : nq wc al := pw_ne hap 13 15 (by decide) (Nat.le_of_ble_eq_true rfl)
  have ne_al_wc : nq al wc := Ne.symm ne_wc_al
  have ne_ol_al : nq ol al := pw_ne hap 14 15 (by decide) (Nat.le_of_ble_eq_true rfl)
  have ne_al_ol : nq al ol := Ne.symm ne_ol_al
  refine lv_iconst (v := 0) hx hb dX6_changed_0 (by decide) ?_
  refine lv_istore_n (lv' := [(2, .int 0), (0, .ref mo), (1, .int (nI t9))]) hx hb dX6_changed_1 rfl hl (by decide) rfl (fun ls hl => ?_)
  refine lv_iconst (v := 2) hx hb dX6_changed_2 (by decide) ?_
  refine lv_iconst (v := 5) hx hb dX6_changed_3 (by decide) ?_
  refine lv_iload_n hx hb dX6_changed_4 rfl (lv_at hl 2 rfl) ?_
  refine lv_imul hx hb dX6_changed_5 ?_
  refine W.eq (g2 := F0 m 6 ls [.int (nI (5 * t9)), .int 2]) (by rw [show ((5) * ((nI t9)) : Int32) = nI (5 * t9) from pk_mul 5 t9]) ?_
  refine lv_iadd hx hb dX6_changed_6 ?_
  refine W.eq (g2 := F0 m 7 ls [.int (nI (2 + (5 * t9)))]) (by rw [show ((2) + ((nI (5 * t9))) : Int32) = nI (2 + (5 * t9)) from nI_add 2 (5 * t9)]) ?_
  refine lv_istore_n (lv' := [(3, .int (nI (2 + (5 * t9)))), (2, .int 0), (0, .ref mo), (1, .int (nI t9))]) hx hb dX6_changed_7 rfl hl (by decide) rfl (fun ls hl => ?_)
  refine lv_bipush (v := 100) hx hb dX6_changed_8 (by decide) ?_
  refine lv_iload_n hx hb dX6_changed_10 rfl (lv_at hl 0 rfl) ?_
  refine lv_imul hx hb dX6_changed_11 ?_
  refine W.eq (g2 := F0 m 12 ls [.int (nI (100 * (2 + (5 * t9))))]) (by rw [show ((100) * ((nI (2 + (5 * t9)))) : Int32) = nI (100 * (2 + (5 * t9))) from pk_mul 100 (2 + (5 * t9))]) ?_
  refine lv_istore (lv' := [(4, .int (nI (100 * (2 + (5 * t9))))), (3, .int (nI (2 + (5 * t9)))), (2, .int 0), (0, .ref mo), (1, .int (nI t9))]) hx hb dX6_changed_12 hl (by decide) rfl (fun ls hl => ?_)
  refine W_loop (σ := Nat × Int32) (fun ⟨j, r9⟩ H locs ls => (j ≤ 100) ∧ mm D (AZ z) M H ∧ va_S (AZ z) s.heap H locs ∧ lv_has ls 8 [(4, .int (nI (100 * (2 + (5 * t9)) + j))), (2, .int r9), (0, .ref mo), (1, .int (nI t9)), (3, .int (nI (2 + (5 * t9))))]) (fun ⟨j, r9⟩ => 100 - j) (fun ⟨j, r9⟩ => 0) (fun ⟨j, r9⟩ => 0) ?_ (0, 0) _ _ _ ⟨Nat.zero_le _, hm, hS, lv_sub hl [0, 2, 3, 4, 1] rfl⟩
  intro ⟨j, r9⟩ H locs ls hI ih14
  obtain ⟨hj, hm, hS, hl⟩ := hI
  try dsimp only at hm hl ih14 ⊢
  refine lv_iload hx hb dX6_changed_14 (lv_at hl 0 rfl) ?_
  refine lv_bipush (v := 100) hx hb dX6_changed_16 (by decide) ?_
  refine lv_iload_n hx hb dX6_changed_18 rfl (lv_at hl 4 rfl) ?_
  refine lv_imul hx hb dX6_changed_19 ?_
  refine W.eq (g2 := F0 m 20 ls [.int (nI (100 * (2 + (5 * t9)))), .int (nI (100 * (2 + (5 * t9)) + j))]) (by rw [show ((100) * ((nI (2 + (5 * t9)))) : Int32) = nI (100 * (2 + (5 * t9))) from pk_mul 100 (2 + (5 * t9))]) ?_
  refine lv_aload_n hx hb dX6_changed_20 rfl (lv_at hl 2 rfl) ?_
  refine m_get (T := TX6) (N := 24) (ci := 6) (v := .ref cn) hx hb hts wX6 hown hK hm hM rfl 1 (by decide) f7 (fun _ h9 => h9) rfl dX6_changed_21 ?_
  refine lv_iload_n hx hb dX6_changed_24 rfl (lv_at hl 4 rfl) ?_
  refine m_iald hx hb hK hm 0 hcn rfl (vp_in_nI (by omega) (by decide)) dX6_changed_25 ?_
  obtain ⟨u1, hu1, eu1⟩ := hrC (2 + (5 * t9))
  refine W.eq (g2 := F0 m 26 ls [.int (nI u1), .int (nI (100 * (2 + (5 * t9)))), .int (nI (100 * (2 + (5 * t9)) + j))]) (by rw [show (fcn ((nI (2 + (5 * t9)))).toNatClampNeg) = nI u1 from (congrArg fcn (show ((nI (2 + (5 * t9)))).toNatClampNeg = (2 + (5 * t9)) from nI_clamp (by omega))).trans eu1]) ?_
  have hb_u1 := hu1
  have hu1 : u1 ≤ 100 := Nat.le_trans hu1 (bC_le _)
  refine lv_iadd hx hb dX6_changed_26 ?_
  refine W.eq (g2 := F0 m 27 ls [.int (nI ((100 * (2 + (5 * t9))) + u1)), .int (nI (100 * (2 + (5 * t9)) + j))]) (by rw [show (((nI (100 * (2 + (5 * t9))))) + ((nI u1)) : Int32) = nI ((100 * (2 + (5 * t9))) + u1) from nI_add (100 * (2 + (5 * t9))) u1]) ?_
  refine lv_icmp_ge (tgt := 160) hx hb dX6_changed_27 (by decide) (fun c2 => ?_) (fun c2 => ?_)
  · refine lv_iload_n hx hb dX6_changed_160 rfl (lv_at hl 1 rfl) ?_
    refine W.iret (v := r9) hx hb hr (fun t ht hW => ⟨⟨some (.int r9), _, rfl, ?_, by rw [ht]; exact hm⟩, hS.F ht⟩) hS.2.2 dX6_changed_161
    exact ⟨⟨_, rfl⟩, rfl⟩
  · have hlt_j : j < u1 := Nat.lt_of_not_le fun q => c2 (nI_le (by omega) (by omega))
    refine lv_aload_n hx hb dX6_changed_30 rfl (lv_at hl 2 rfl) ?_
    refine lv_iconst (v := 1) hx hb dX6_changed_31 (by decide) ?_
    refine lv_iconst (v := 5) hx hb dX6_changed_32 (by decide) ?_
    refine lv_iload_n hx hb dX6_changed_33 rfl (lv_at hl 3 rfl) ?_
    refine lv_imul hx hb dX6_changed_34 ?_
    refine W.eq (g2 := F0 m 35 ls [.int (nI (5 * t9)), .int 1, .ref mo]) (by rw [show ((5) * ((nI t9)) : Int32) = nI (5 * t9) from pk_mul 5 t9]) ?_
    refine lv_iadd hx hb dX6_changed_35 ?_
    refine W.eq (g2 := F0 m 36 ls [.int (nI (1 + (5 * t9))), .ref mo]) (by rw [show ((1) + ((nI (5 * t9))) : Int32) = nI (1 + (5 * t9)) from nI_add 1 (5 * t9)]) ?_
    refine lv_aload_n hx hb dX6_changed_36 rfl (lv_at hl 2 rfl) ?_
    refine m_get (T := TX6) (N := 24) (ci := 6) (v := .ref ia) hx hb hts wX6 hown hK hm hM rfl 2 (by decide) f13 (fun _ h9 => h9) rfl dX6_changed_37 ?_
    refine lv_iload hx hb dX6_changed_40 (lv_at hl 0 rfl) ?_
    refine m_iald hx hb hK hm 0 hia rfl (vp_in_nI (by omega) (by decide)) dX6_changed_42 ?_
    refine m_kV (As := [.int (nI (1 + (5 * t9))), .int (fia ((nI (100 * (2 + (5 * t9)) + j))).toNatClampNeg)]) (rest := []) (rm := { frames := 0, cells := 0, slots := 0, locals := 0 }) ⟨hx, hb, hml, hown, hts⟩ (s_X6_find l D k z _ mo cn ia dr en la wo op mk ir se ec lc wc ol al dn md (1 + (5 * t9)) (by omega) (fia ((nI (100 * (2 + (5 * t9)) + j))).toNatClampNeg) hI) (cwV 2 hts gX6_changed_X6_find rfl rfl rfl (by decide +kernel) ⟨Nat.le_of_ble_eq_true rfl, Nat.le_of_ble_eq_true rfl⟩) (m_recv hK hm (q := (RX6, TX6, 24)) rfl hM) hz hcx hm hS rfl hl.1 rfl (Nat.le_of_ble_eq_true rfl) dX6_changed_43 ⟨Nat.le_of_ble_eq_true rfl, Nat.le_of_ble_eq_true rfl⟩ (fun v M1 H locs hv hm hS => ?_)
    obtain ⟨⟨f9, hv1, hf9⟩, hM1⟩ := hv
    rw [hM1] at hm
    subst hv1
    rcases hf9 with hf9 | ⟨nb9, hb1, hb2, hf9⟩
    · subst hf9
      refine W.eq (g2 := F0 m 46 ls [.int (-1)]) rfl ?_
      refine W.widen (k := 0) (n := 0) (Nat.le_of_ble_eq_true rfl) (Nat.le_of_ble_eq_true rfl) ?_
      have hm : mm D (AZ z) M H := hm
      refine lv_istore (lv' := [(5, .int (-1)), (4, .int (nI (100 * (2 + (5 * t9)) + j))), (2, .int r9), (0, .ref mo), (1, .int (nI t9)), (3, .int (nI (2 + (5 * t9))))]) hx hb dX6_changed_46 hl (by decide) rfl (fun ls hl => ?_)
      refine lv_iload_n hx hb dX6_changed_48 rfl (lv_at hl 2 rfl) ?_
      refine lv_iload hx hb dX6_changed_49 (lv_at hl 0 rfl) ?_
      refine lv_if_ge (tgt := 58) hx hb dX6_changed_51 (by decide) (fun c3 => ?_) (fun c3 => ?_)
      · first | exact absurd c3 (by decide) | exact absurd (by decide) c3
      · refine lv_iconst (v := 1) hx hb dX6_changed_54 (by decide) ?_
        refine lv_goto (tgt := 59) hx hb dX6_changed_55 (by decide) ?_
        refine lv_iadd hx hb dX6_changed_59 ?_
        refine lv_istore_n (lv' := [(2, .int (r9 + 1)), (5, .int (-1)), (4, .int (nI (100 * (2 + (5 * t9)) + j))), (0, .ref mo), (1, .int (nI t9)), (3, .int (nI (2 + (5 * t9))))]) hx hb dX6_changed_60 rfl hl (by decide) rfl (fun ls hl => ?_)
        refine lv_iconst (v := 0) hx hb dX6_changed_61 (by decide) ?_
        refine lv_istore (lv' := [(6, .int 0), (2, .int (r9 + 1)), (5, .int (-1)), (4, .int (nI (100 * (2 + (5 * t9)) + j))), (0, .ref mo), (1, .int (nI t9)), (3, .int (nI (2 + (5 * t9))))]) hx hb dX6_changed_62 hl (by decide) rfl (fun ls hl => ?_)
        refine W_loop (σ := Nat × Int32) (fun ⟨c9c, r8⟩ H locs ls => (c9c ≤ 95) ∧ mm D (AZ z) M H ∧ va_S (AZ z) s.heap H locs ∧ lv_has ls 8 [(6, .int (nI c9c)), (2, .int r8), (0, .ref mo), (1, .int (nI t9)), (3, .int (nI (2 + (5 * t9)))), (4, .int (nI (100 * (2 + (5 * t9)) + j))), (5, .int (-1))]) (fun ⟨c9c, r8⟩ => 95 - c9c) (fun ⟨c9c, r8⟩ => 0) (fun ⟨c9c, r8⟩ => 0) ?_ (0, (r9 + 1)) _ _ _ ⟨Nat.zero_le _, hm, hS, lv_sub hl [0, 1, 4, 5, 6, 3, 2] rfl⟩
        intro ⟨c9c, r8⟩ H locs ls hI ih64
        obtain ⟨hc9c, hm, hS, hl⟩ := hI
        try dsimp only at hm hl ih64 ⊢
        refine lv_iload hx hb dX6_changed_64 (lv_at hl 0 rfl) ?_
        refine lv_bipush (v := 95) hx hb dX6_changed_66 (by decide) ?_
        refine lv_icmp_ge (tgt := 154) hx hb dX6_changed_68 (by decide) (fun c4 => ?_) (fun c4 => ?_)
        · refine lv_iinc (v := ((nI (100 * (2 + (5 * t9)) + j)) + 1)) (lv' := [(4, .int ((nI (100 * (2 + (5 * t9)) + j)) + 1)), (6, .int (nI c9c)), (2, .int r8), (0, .ref mo), (1, .int (nI t9)), (3, .int (nI (2 + (5 * t9)))), (5, .int (-1))]) hx hb dX6_changed_154 hl (k := 5) rfl rfl (by decide) rfl (fun ls hl => ?_)
          refine lv_goto (tgt := 14) hx hb dX6_changed_157 (by decide) ?_
          rw [nI_1] at hl
          exact ih14 (j + 1, r8) _ _ _ ⟨by omega, hm, hS, lv_sub hl [0, 2, 3, 4, 5] rfl⟩ (by show 100 - (j + 1) < 100 - j; omega)
        · have hlt_c9c : c9c < 95 := Nat.lt_of_not_le fun q => c4 (nI_le (a := 95) q (by omega))
          refine lv_aload_n hx hb dX6_changed_71 rfl (lv_at hl 2 rfl) ?_
          refine m_get (T := TX6) (N := 24) (ci := 6) (v := .ref dr) hx hb hts wX6 hown hK hm hM rfl 3 (by decide) f16 (fun _ h9 => h9) rfl dX6_changed_72 ?_
          refine lv_iload hx hb dX6_changed_75 (lv_at hl 5 rfl) ?_
          refine m_zald hx hb hK hm 2 hdr rfl (vp_in_nI (by omega) (by decide)) dX6_changed_77 ?_
          refine lv_iload hx hb dX6_changed_78 (lv_at hl 0 rfl) ?_
          refine m_kS (As := [.int (fdr ((nI (100 * (2 + (5 * t9)) + j))).toNatClampNeg), .int (nI c9c)]) (rest := []) (rm := { frames := 0, cells := 0, slots := 0, locals := 0 }) ⟨hx, hb, hml, hown, hts⟩ (s_X6_hasCode l D k z _ (fdr ((nI (100 * (2 + (5 * t9)) + j))).toNatClampNeg) (nI c9c)) (cwS 2 hts gX6_changed_X6_hasCode rfl rfl rfl (by decide +kernel) ⟨Nat.le_of_ble_eq_true rfl, Nat.le_of_ble_eq_true rfl⟩) hz hcx hm hS rfl hl.1 rfl (Nat.le_of_ble_eq_true rfl) dX6_changed_80 ⟨Nat.le_of_ble_eq_true rfl, Nat.le_of_ble_eq_true rfl⟩ (fun v M1 H locs hv hm hS => ?_)
          obtain ⟨⟨w5, hv1⟩, hM1⟩ := hv
          rw [hM1] at hm
          subst hv1
          refine W.eq (g2 := F0 m 83 ls [.int w5]) rfl ?_
          refine W.widen (k := 0) (n := 0) (Nat.le_of_ble_eq_true rfl) (Nat.le_of_ble_eq_true rfl) ?_
          have hm : mm D (AZ z) M H := hm
          refine lv_if_eq (tgt := 104) hx hb dX6_changed_83 (by decide) (fun c6 => ?_) (fun c6 => ?_)
          · refine lv_iconst (v := 0) hx hb dX6_changed_104 (by decide) ?_
            refine lv_istore (lv' := [(7, .int 0), (6, .int (nI c9c)), (2, .int r8), (0, .ref mo), (1, .int (nI t9)), (3, .int (nI (2 + (5 * t9)))), (4, .int (nI (100 * (2 + (5 * t9)) + j))), (5, .int (-1))]) hx hb dX6_changed_105 hl (by decide) rfl (fun ls hl => ?_)
            refine lv_iload_n hx hb dX6_changed_107 rfl (lv_at hl 2 rfl) ?_
            refine lv_iload hx hb dX6_changed_108 (lv_at hl 0 rfl) ?_
            refine lv_if_eq (tgt := 145) hx hb dX6_changed_110 (by decide) (fun c7 => ?_) (fun c7 => ?_)
            · refine lv_iconst (v := 0) hx hb dX6_changed_145 (by decide) ?_
              refine lv_iadd hx hb dX6_changed_146 ?_
              refine lv_istore_n (lv' := [(2, .int (r8 + 0)), (7, .int 0), (6, .int (nI c9c)), (0, .ref mo), (1, .int (nI t9)), (3, .int (nI (2 + (5 * t9)))), (4, .int (nI (100 * (2 + (5 * t9)) + j))), (5, .int (-1))]) hx hb dX6_changed_147 rfl hl (by decide) rfl (fun ls hl => ?_)
              refine lv_iinc (v := ((nI c9c) + 1)) (lv' := [(6, .int ((nI c9c) + 1)), (2, .int (r8 + 0)), (7, .int 0), (0, .ref mo), (1, .int (nI t9)), (3, .int (nI (2 + (5 * t9)))), (4, .int (nI (100 * (2 + (5 * t9)) + j))), (5, .int (-1))]) hx hb dX6_changed_148 hl (k := 2) rfl rfl (by decide) rfl (fun ls hl => ?_)
              refine lv_goto (tgt := 64) hx hb dX6_changed_151 (by decide) ?_
              rw [nI_1] at hl
              exact ih64 (c9c + 1, (r8 + 0)) _ _ _ ⟨by omega, hm, hS, lv_sub hl [0, 1, 3, 4, 5, 6, 7] rfl⟩ (by show 95 - (c9c + 1) < 95 - c9c; omega)
            · first | exact absurd c7 (by decide) | exact absurd (by decide) c7
          · refine lv_iload hx hb dX6_changed_86 (lv_at hl 0 rfl) ?_
            refine lv_bipush (v := 15) hx hb dX6_changed_88 (by decide) ?_
            refine lv_icmp_lt (tgt := 100) hx hb dX6_changed_90 (by decide) (fun c8 => ?_) (fun c8 => ?_)
            · refine lv_iconst (v := 1) hx hb dX6_changed_100 (by decide) ?_
              refine lv_goto (tgt := 105) hx hb dX6_changed_101 (by decide) ?_
              refine lv_istore (lv' := [(7, .int 1), (6, .int (nI c9c)), (2, .int r8), (0, .ref mo), (1, .int (nI t9)), (3, .int (nI (2 + (5 * t9)))), (4, .int (nI (100 * (2 + (5 * t9)) + j))), (5, .int (-1))]) hx hb dX6_changed_105 hl (by decide) rfl (fun ls hl => ?_)
              refine lv_iload_n hx hb dX6_changed_107 rfl (lv_at hl 2 rfl) ?_
              refine lv_iload hx hb dX6_changed_108 (lv_at hl 0 rfl) ?_
              refine lv_if_eq (tgt := 145) hx hb dX6_changed_110 (by decide) (fun c9 => ?_) (fun c9 => ?_)
              · first | exact absurd c9 (by decide) | exact absurd (by decide) c9
              · refine lv_aload_n hx hb dX6_changed_113 rfl (lv_at hl 3 rfl) ?_
                refine lv_iload hx hb dX6_changed_114 (lv_at hl 6 rfl) ?_
                refine lv_iload hx hb dX6_changed_116 (lv_at hl 1 rfl) ?_
                refine m_kV (As := [.int (nI (100 * (2 + (5 * t9)) + j)), .int (nI c9c)]) (rest := [.int r8]) (rm := { frames := 0, cells := 0, slots := 0, locals := 0 }) ⟨hx, hb, hml, hown, hts⟩ (s_X6_valueOf l D k z _ mo cn ia dr en la wo op mk ir se ec lc wc ol al dn md (100 * (2 + (5 * t9)) + j) c9c (by omega) (by omega) hI) (cwV 2 hts gX6_changed_X6_valueOf rfl rfl rfl (by decide +kernel) ⟨Nat.le_of_ble_eq_true rfl, Nat.le_of_ble_eq_true rfl⟩) (m_recv hK hm (q := (RX6, TX6, 24)) rfl hM) hz hcx hm hS rfl hl.1 rfl (Nat.le_of_ble_eq_true rfl) dX6_changed_118 ⟨Nat.le_of_ble_eq_true rfl, Nat.le_of_ble_eq_true rfl⟩ (fun v M1 H locs hv hm hS => ?_)
                obtain ⟨⟨w10, hv1, ew10⟩, hM1⟩ := hv
                rw [hM1] at hm
                subst hv1
                refine W.eq (g2 := F0 m 121 ls [.int w10, .int r8]) rfl ?_
                refine W.widen (k := 0) (n := 0) (Nat.le_of_ble_eq_true rfl) (Nat.le_of_ble_eq_true rfl) ?_
                have hm : mm D (AZ z) M H := hm
                refine lv_iload hx hb dX6_changed_121 (lv_at hl 7 rfl) ?_
                refine lv_if_ge (tgt := 130) hx hb dX6_changed_123 (by decide) (fun c11 => ?_) (fun c11 => ?_)
                · first | exact absurd c11 (by decide) | exact absurd (by decide) c11
                · refine lv_iconst (v := 0) hx hb dX6_changed_126 (by decide) ?_
                  refine lv_goto (tgt := 138) hx hb dX6_changed_127 (by decide) ?_
                  refine lv_icmp_eq (tgt := 145) hx hb dX6_changed_138 (by decide) (fun c12 => ?_) (fun c12 => ?_)
                  · refine lv_iconst (v := 0) hx hb dX6_changed_145 (by decide) ?_
                    refine lv_iadd hx hb dX6_changed_146 ?_
                    refine lv_istore_n (lv' := [(2, .int (r8 + 0)), (7, .int 1), (6, .int (nI c9c)), (0, .ref mo), (1, .int (nI t9)), (3, .int (nI (2 + (5 * t9)))), (4, .int (nI (100 * (2 + (5 * t9)) + j))), (5, .int (-1))]) hx hb dX6_changed_147 rfl hl (by decide) rfl (fun ls hl => ?_)
                    refine lv_iinc (v := ((nI c9c) + 1)) (lv' := [(6, .int ((nI c9c) + 1)), (2, .int (r8 + 0)), (7, .int 1), (0, .ref mo), (1, .int (nI t9)), (3, .int (nI (2 + (5 * t9)))), (4, .int (nI (100 * (2 + (5 * t9)) + j))), (5, .int (-1))]) hx hb dX6_changed_148 hl (k := 2) rfl rfl (by decide) rfl (fun ls hl => ?_)
                    refine lv_goto (tgt := 64) hx hb dX6_changed_151 (by decide) ?_
                    rw [nI_1] at hl
                    exact ih64 (c9c + 1, (r8 + 0)) _ _ _ ⟨by omega, hm, hS, lv_sub hl [0, 1, 3, 4, 5, 6, 7] rfl⟩ (by show 95 - (c9c + 1) < 95 - c9c; omega)
                  · refine lv_iconst (v := 1) hx hb dX6_changed_141 (by decide) ?_
                    refine lv_goto (tgt := 146) hx hb dX6_changed_142 (by decide) ?_
                    refine lv_iadd hx hb dX6_changed_146 ?_
                    refine lv_istore_n (lv' := [(2, .int (r8 + 1)), (7, .int 1), (6, .int (nI c9c)), (0, .ref mo), (1, .int (nI t9)), (3, .int (nI (2 + (5 * t9)))), (4, .int (nI (100 * (2 + (5 * t9)) + j))), (5, .int (-1))]) hx hb dX6_changed_147 rfl hl (by decide) rfl (fun ls hl => ?_)
                    refine lv_iinc (v := ((nI c9c) + 1)) (lv' := [(6, .int ((nI c9c) + 1)), (2, .int (r8 + 1)), (7, .int 1), (0, .ref mo), (1, .int (nI t9)), (3, .int (nI (2 + (5 * t9)))), (4, .int (nI (100 * (2 + (5 * t9)) + j))), (5, .int (-1))]) hx hb dX6_changed_148 hl (k := 2) rfl rfl (by decide) rfl (fun ls hl => ?_)
                    refine lv_goto (tgt := 64) hx hb dX6_changed_151 (by decide) ?_
                    rw [nI_1] at hl
                    exact ih64 (c9c + 1, (r8 + 1)) _ _ _ ⟨by omega, hm, hS, lv_sub hl [0, 1, 3, 4, 5, 6, 7] rfl⟩ (by show 95 - (c9c + 1) < 95 - c9c; omega)
            · refine lv_iload hx hb dX6_changed_93 (lv_at hl 0 rfl) ?_
              refine lv_bipush (v := 29) hx hb dX6_changed_95 (by decide) ?_
              refine lv_icmp_le (tgt := 104) hx hb dX6_changed_97 (by decide) (fun c13 => ?_) (fun c13 => ?_)
              · refine lv_iconst (v := 0) hx hb dX6_changed_104 (by decide) ?_
                refine lv_istore (lv' := [(7, .int 0), (6, .int (nI c9c)), (2, .int r8), (0, .ref mo), (1, .int (nI t9)), (3, .int (nI (2 + (5 * t9)))), (4, .int (nI (100 * (2 + (5 * t9)) + j))), (5, .int (-1))]) hx hb dX6_changed_105 hl (by decide) rfl (fun ls hl => ?_)
                refine lv_iload_n hx hb dX6_changed_107 rfl (lv_at hl 2 rfl) ?_
                refine lv_iload hx hb dX6_changed_108 (lv_at hl 0 rfl) ?_
                refine lv_if_eq (tgt := 145) hx hb dX6_changed_110 (by decide) (fun c14 => ?_) (fun c14 => ?_)
                · refine lv_iconst (v := 0) hx hb dX6_changed_145 (by decide) ?_
                  refine lv_iadd hx hb dX6_changed_146 ?_
                  refine lv_istore_n (lv' := [(2, .int (r8 + 0)), (7, .int 0), (6, .int (nI c9c)), (0, .ref mo), (1, .int (nI t9)), (3, .int (nI (2 + (5 * t9)))), (4, .int (nI (100 * (2 + (5 * t9)) + j))), (5, .int (-1))]) hx hb dX6_changed_147 rfl hl (by decide) rfl (fun ls hl => ?_)
                  refine lv_iinc (v := ((nI c9c) + 1)) (lv' := [(6, .int ((nI c9c) + 1)), (2, .int (r8 + 0)), (7, .int 0), (0, .ref mo), (1, .int (nI t9)), (3, .int (nI (2 + (5 * t9)))), (4, .int (nI (100 * (2 + (5 * t9)) + j))), (5, .int (-1))]) hx hb dX6_changed_148 hl (k := 2) rfl rfl (by decide) rfl (fun ls hl => ?_)
                  refine lv_goto (tgt := 64) hx hb dX6_changed_151 (by decide) ?_
                  rw [nI_1] at hl
                  exact ih64 (c9c + 1, (r8 + 0)) _ _ _ ⟨by omega, hm, hS, lv_sub hl [0, 1, 3, 4, 5, 6, 7] rfl⟩ (by show 95 - (c9c + 1) < 95 - c9c; omega)
                · first | exact absurd c14 (by decide) | exact absurd (by decide) c14
              · refine lv_iconst (v := 1) hx hb dX6_changed_100 (by decide) ?_
                refine lv_goto (tgt := 105) hx hb dX6_changed_101 (by decide) ?_
                refine lv_istore (lv' := [(7, .int 1), (6, .int (nI c9c)), (2, .int r8), (0, .ref mo), (1, .int (nI t9)), (3, .int (nI (2 + (5 * t9)))), (4, .int (nI (100 * (2 + (5 * t9)) + j))), (5, .int (-1))]) hx hb dX6_changed_105 hl (by decide) rfl (fun ls hl => ?_)
                refine lv_iload_n hx hb dX6_changed_107 rfl (lv_at hl 2 rfl) ?_
                refine lv_iload hx hb dX6_changed_108 (lv_at hl 0 rfl) ?_
                refine lv_if_eq (tgt := 145) hx hb dX6_changed_110 (by decide) (fun c15 => ?_) (fun c15 => ?_)
                · first | exact absurd c15 (by decide) | exact absurd (by decide) c15
                · refine lv_aload_n hx hb dX6_changed_113 rfl (lv_at hl 3 rfl) ?_
                  refine lv_iload hx hb dX6_changed_114 (lv_at hl 6 rfl) ?_
                  refine lv_iload hx hb dX6_changed_116 (lv_at hl 1 rfl) ?_
                  refine m_kV (As := [.int (nI (100 * (2 + (5 * t9)) + j)), .int (nI c9c)]) (rest := [.int r8]) (rm := { frames := 0, cells := 0, slots := 0, locals := 0 }) ⟨hx, hb, hml, hown, hts⟩ (s_X6_valueOf l D k z _ mo cn ia dr en la wo op mk ir se ec lc wc ol al dn md (100 * (2 + (5 * t9)) + j) c9c (by omega) (by omega) hI) (cwV 2 hts gX6_changed_X6_valueOf rfl rfl rfl (by decide +kernel) ⟨Nat.le_of_ble_eq_true rfl, Nat.le_of_ble_eq_true rfl⟩) (m_recv hK hm (q := (RX6, TX6, 24)) rfl hM) hz hcx hm hS rfl hl.1 rfl (Nat.le_of_ble_eq_true rfl) dX6_changed_118 ⟨Nat.le_of_ble_eq_true rfl, Nat.le_of_ble_eq_true rfl⟩ (fun v M1 H locs hv hm hS => ?_)
                  obtain ⟨⟨w16, hv1, ew16⟩, hM1⟩ := hv
                  rw [hM1] at hm
                  subst hv1
                  refine W.eq (g2 := F0 m 121 ls [.int w16, .int r8]) rfl ?_
                  refine W.widen (k := 0) (n := 0) (Nat.le_of_ble_eq_true rfl) (Nat.le_of_ble_eq_true rfl) ?_
                  have hm : mm D (AZ z) M H := hm
                  refine lv_iload hx hb dX6_changed_121 (lv_at hl 7 rfl) ?_
                  refine lv_if_ge (tgt := 130) hx hb dX6_changed_123 (by decide) (fun c17 => ?_) (fun c17 => ?_)
                  · first | exact absurd c17 (by decide) | exact absurd (by decide) c17
                  · refine lv_iconst (v := 0) hx hb dX6_changed_126 (by decide) ?_
                    refine lv_goto (tgt := 138) hx hb dX6_changed_127 (by decide) ?_
                    refine lv_icmp_eq (tgt := 145) hx hb dX6_changed_138 (by decide) (fun c18 => ?_) (fun c18 => ?_)
                    · refine lv_iconst (v := 0) hx hb dX6_changed_145 (by decide) ?_
                      refine lv_iadd hx hb dX6_changed_146 ?_
                      refine lv_istore_n (lv' := [(2, .int (r8 + 0)), (7, .int 1), (6, .int (nI c9c)), (0, .ref mo), (1, .int (nI t9)), (3, .int (nI (2 + (5 * t9)))), (4, .int (nI (100 * (2 + (5 * t9)) + j))), (5, .int (-1))]) hx hb dX6_changed_147 rfl hl (by decide) rfl (fun ls hl => ?_)
                      refine lv_iinc (v := ((nI c9c) + 1)) (lv' := [(6, .int ((nI c9c) + 1)), (2, .int (r8 + 0)), (7, .int 1), (0, .ref mo), (1, .int (nI t9)), (3, .int (nI (2 + (5 * t9)))), (4, .int (nI (100 * (2 + (5 * t9)) + j))), (5, .int (-1))]) hx hb dX6_changed_148 hl (k := 2) rfl rfl (by decide) rfl (fun ls hl => ?_)
                      refine lv_goto (tgt := 64) hx hb dX6_changed_151 (by decide) ?_
                      rw [nI_1] at hl
                      exact ih64 (c9c + 1, (r8 + 0)) _ _ _ ⟨by omega, hm, hS, lv_sub hl [0, 1, 3, 4, 5, 6, 7] rfl⟩ (by show 95 - (c9c + 1) < 95 - c9c; omega)
                    · refine lv_iconst (v := 1) hx hb dX6_changed_141 (by decide) ?_
                      refine lv_goto (tgt := 146) hx hb dX6_changed_142 (by decide) ?_
                      refine lv_iadd hx hb dX6_changed_146 ?_
                      refine lv_istore_n (lv' := [(2, .int (r8 + 1)), (7, .int 1), (6, .int (nI c9c)), (0, .ref mo), (1, .int (nI t9)), (3, .int (nI (2 + (5 * t9)))), (4, .int (nI (100 * (2 + (5 * t9)) + j))), (5, .int (-1))]) hx hb dX6_changed_147 rfl hl (by decide) rfl (fun ls hl => ?_)
                      refine lv_iinc (v := ((nI c9c) + 1)) (lv' := [(6, .int ((nI c9c) + 1)), (2, .int (r8 + 1)), (7, .int 1), (0, .ref mo), (1, .int (nI t9)), (3, .int (nI (2 + (5 * t9)))), (4, .int (nI (100 * (2 + (5 * t9)) + j))), (5, .int (-1))]) hx hb dX6_changed_148 hl (k := 2) rfl rfl (by decide) rfl (fun ls hl => ?_)
                      refine lv_goto (tgt := 64) hx hb dX6_changed_151 (by decide) ?_
                      rw [nI_1] at hl
                      exact ih64 (c9c + 1, (r8 + 1)) _ _ _ ⟨by omega, hm, hS, lv_sub hl [0, 1, 3, 4, 5, 6, 7] rfl⟩ (by show 95 - (c9c + 1) < 95 - c9c; omega)
    · subst hf9
      refine W.eq (g2 := F0 m 46 ls [.int (nI nb9)]) rfl ?_
      refine W.widen (k := 0) (n := 0) (Nat.le_of_ble_eq_true rfl) (Nat.le_of_ble_eq_true rfl) ?_
      have hm : mm D (AZ z) M H := hm
      refine lv_istore (lv' := [(5, .int (nI nb9)), (4, .int (nI (100 * (2 + (5 * t9)) + j))), (2, .int r9), (0, .ref mo), (1, .int (nI t9)), (3, .int (nI (2 + (5 * t9))))]) hx hb dX6_changed_46 hl (by decide) rfl (fun ls hl => ?_)
      refine lv_iload_n hx hb dX6_changed_48 rfl (lv_at hl 2 rfl) ?_
      refine lv_iload hx hb dX6_changed_49 (lv_at hl 0 rfl) ?_
      refine lv_if_ge (tgt := 58) hx hb dX6_changed_51 (by decide) (fun c19 => ?_) (fun c19 => ?_)
      · refine lv_iconst (v := 0) hx hb dX6_changed_58 (by decide) ?_
        refine lv_iadd hx hb dX6_changed_59 ?_
        refine lv_istore_n (lv' := [(2, .int (r9 + 0)), (5, .int (nI nb9)), (4, .int (nI (100 * (2 + (5 * t9)) + j))), (0, .ref mo), (1, .int (nI t9)), (3, .int (nI (2 + (5 * t9))))]) hx hb dX6_changed_60 rfl hl (by decide) rfl (fun ls hl => ?_)
        refine lv_iconst (v := 0) hx hb dX6_changed_61 (by decide) ?_
        refine lv_istore (lv' := [(6, .int 0), (2, .int (r9 + 0)), (5, .int (nI nb9)), (4, .int (nI (100 * (2 + (5 * t9)) + j))), (0, .ref mo), (1, .int (nI t9)), (3, .int (nI (2 + (5 * t9))))]) hx hb dX6_changed_62 hl (by decide) rfl (fun ls hl => ?_)
        refine W_loop (σ := Nat × Int32) (fun ⟨c9c, r8⟩ H locs ls => (c9c ≤ 95) ∧ mm D (AZ z) M H ∧ va_S (AZ z) s.heap H locs ∧ lv_has ls 8 [(6, .int (nI c9c)), (2, .int r8), (0, .ref mo), (1, .int (nI t9)), (3, .int (nI (2 + (5 * t9)))), (4, .int (nI (100 * (2 + (5 * t9)) + j))), (5, .int (nI nb9))]) (fun ⟨c9c, r8⟩ => 95 - c9c) (fun ⟨c9c, r8⟩ => 0) (fun ⟨c9c, r8⟩ => 0) ?_ (0, (r9 + 0)) _ _ _ ⟨Nat.zero_le _, hm, hS, lv_sub hl [0, 1, 4, 5, 6, 3, 2] rfl⟩
        intro ⟨c9c, r8⟩ H locs ls hI ih64
        obtain ⟨hc9c, hm, hS, hl⟩ := hI
        try dsimp only at hm hl ih64 ⊢
        refine lv_iload hx hb dX6_changed_64 (lv_at hl 0 rfl) ?_
        refine lv_bipush (v := 95) hx hb dX6_changed_66 (by decide) ?_
        refine lv_icmp_ge (tgt := 154) hx hb dX6_changed_68 (by decide) (fun c20 => ?_) (fun c20 => ?_)
        · refine lv_iinc (v := ((nI (100 * (2 + (5 * t9)) + j)) + 1)) (lv' := [(4, .int ((nI (100 * (2 + (5 * t9)) + j)) + 1)), (6, .int (nI c9c)), (2, .int r8), (0, .ref mo), (1, .int (nI t9)), (3, .int (nI (2 + (5 * t9)))), (5, .int (nI nb9))]) hx hb dX6_changed_154 hl (k := 5) rfl rfl (by decide) rfl (fun ls hl => ?_)
          refine lv_goto (tgt := 14) hx hb dX6_changed_157 (by decide) ?_
          rw [nI_1] at hl
          exact ih14 (j + 1, r8) _ _ _ ⟨by omega, hm, hS, lv_sub hl [0, 2, 3, 4, 5] rfl⟩ (by show 100 - (j + 1) < 100 - j; omega)
        · have hlt_c9c : c9c < 95 := Nat.lt_of_not_le fun q => c20 (nI_le (a := 95) q (by omega))
          refine lv_aload_n hx hb dX6_changed_71 rfl (lv_at hl 2 rfl) ?_
          refine m_get (T := TX6) (N := 24) (ci := 6) (v := .ref dr) hx hb hts wX6 hown hK hm hM rfl 3 (by decide) f16 (fun _ h9 => h9) rfl dX6_changed_72 ?_
          refine lv_iload hx hb dX6_changed_75 (lv_at hl 5 rfl) ?_
          refine m_zald hx hb hK hm 2 hdr rfl (vp_in_nI (by omega) (by decide)) dX6_changed_77 ?_
          refine lv_iload hx hb dX6_changed_78 (lv_at hl 0 rfl) ?_
          refine m_kS (As := [.int (fdr ((nI (100 * (2 + (5 * t9)) + j))).toNatClampNeg), .int (nI c9c)]) (rest := []) (rm := { frames := 0, cells := 0, slots := 0, locals := 0 }) ⟨hx, hb, hml, hown, hts⟩ (s_X6_hasCode l D k z _ (fdr ((nI (100 * (2 + (5 * t9)) + j))).toNatClampNeg) (nI c9c)) (cwS 2 hts gX6_changed_X6_hasCode rfl rfl rfl (by decide +kernel) ⟨Nat.le_of_ble_eq_true rfl, Nat.le_of_ble_eq_true rfl⟩) hz hcx hm hS rfl hl.1 rfl (Nat.le_of_ble_eq_true rfl) dX6_changed_80 ⟨Nat.le_of_ble_eq_true rfl, Nat.le_of_ble_eq_true rfl⟩ (fun v M1 H locs hv hm hS => ?_)
          obtain ⟨⟨w21, hv1⟩, hM1⟩ := hv
          rw [hM1] at hm
          subst hv1
          refine W.eq (g2 := F0 m 83 ls [.int w21]) rfl ?_
          refine W.widen (k := 0) (n := 0) (Nat.le_of_ble_eq_true rfl) (Nat.le_of_ble_eq_true rfl) ?_
          have hm : mm D (AZ z) M H := hm
          refine lv_if_eq (tgt := 104) hx hb dX6_changed_83 (by decide) (fun c22 => ?_) (fun c22 => ?_)
          · refine lv_iconst (v := 0) hx hb dX6_changed_104 (by decide) ?_
            refine lv_istore (lv' := [(7, .int 0), (6, .int (nI c9c)), (2, .int r8), (0, .ref mo), (1, .int (nI t9)), (3, .int (nI (2 + (5 * t9)))), (4, .int (nI (100 * (2 + (5 * t9)) + j))), (5, .int (nI nb9))]) hx hb dX6_changed_105 hl (by decide) rfl (fun ls hl => ?_)
            refine lv_iload_n hx hb dX6_changed_107 rfl (lv_at hl 2 rfl) ?_
            refine lv_iload hx hb dX6_changed_108 (lv_at hl 0 rfl) ?_
            refine lv_if_eq (tgt := 145) hx hb dX6_changed_110 (by decide) (fun c23 => ?_) (fun c23 => ?_)
            · refine lv_iconst (v := 0) hx hb dX6_changed_145 (by decide) ?_
              refine lv_iadd hx hb dX6_changed_146 ?_
              refine lv_istore_n (lv' := [(2, .int (r8 + 0)), (7, .int 0), (6, .int (nI c9c)), (0, .ref mo), (1, .int (nI t9)), (3, .int (nI (2 + (5 * t9)))), (4, .int (nI (100 * (2 + (5 * t9)) + j))), (5, .int (nI nb9))]) hx hb dX6_changed_147 rfl hl (by decide) rfl (fun ls hl => ?_)
              refine lv_iinc (v := ((nI c9c) + 1)) (lv' := [(6, .int ((nI c9c) + 1)), (2, .int (r8 + 0)), (7, .int 0), (0, .ref mo), (1, .int (nI t9)), (3, .int (nI (2 + (5 * t9)))), (4, .int (nI (100 * (2 + (5 * t9)) + j))), (5, .int (nI nb9))]) hx hb dX6_changed_148 hl (k := 2) rfl rfl (by decide) rfl (fun ls hl => ?_)
              refine lv_goto (tgt := 64) hx hb dX6_changed_151 (by decide) ?_
              rw [nI_1] at hl
              exact ih64 (c9c + 1, (r8 + 0)) _ _ _ ⟨by omega, hm, hS, lv_sub hl [0, 1, 3, 4, 5, 6, 7] rfl⟩ (by show 95 - (c9c + 1) < 95 - c9c; omega)
            · first | exact absurd c23 (by decide) | exact absurd (by decide) c23
          · refine lv_iload hx hb dX6_changed_86 (lv_at hl 0 rfl) ?_
            refine lv_bipush (v := 15) hx hb dX6_changed_88 (by decide) ?_
            refine lv_icmp_lt (tgt := 100) hx hb dX6_changed_90 (by decide) (fun c24 => ?_) (fun c24 => ?_)
            · refine lv_iconst (v := 1) hx hb dX6_changed_100 (by decide) ?_
              refine lv_goto (tgt := 105) hx hb dX6_changed_101 (by decide) ?_
              refine lv_istore (lv' := [(7, .int 1), (6, .int (nI c9c)), (2, .int r8), (0, .ref mo), (1, .int (nI t9)), (3, .int (nI (2 + (5 * t9)))), (4, .int (nI (100 * (2 + (5 * t9)) + j))), (5, .int (nI nb9))]) hx hb dX6_changed_105 hl (by decide) rfl (fun ls hl => ?_)
              refine lv_iload_n hx hb dX6_changed_107 rfl (lv_at hl 2 rfl) ?_
              refine lv_iload hx hb dX6_changed_108 (lv_at hl 0 rfl) ?_
              refine lv_if_eq (tgt := 145) hx hb dX6_changed_110 (by decide) (fun c25 => ?_) (fun c25 => ?_)
              · first | exact absurd c25 (by decide) | exact absurd (by decide) c25
              · refine lv_aload_n hx hb dX6_changed_113 rfl (lv_at hl 3 rfl) ?_
                refine lv_iload hx hb dX6_changed_114 (lv_at hl 6 rfl) ?_
                refine lv_iload hx hb dX6_changed_116 (lv_at hl 1 rfl) ?_
                refine m_kV (As := [.int (nI (100 * (2 + (5 * t9)) + j)), .int (nI c9c)]) (rest := [.int r8]) (rm := { frames := 0, cells := 0, slots := 0, locals := 0 }) ⟨hx, hb, hml, hown, hts⟩ (s_X6_valueOf l D k z _ mo cn ia dr en la wo op mk ir se ec lc wc ol al dn md (100 * (2 + (5 * t9)) + j) c9c (by omega) (by omega) hI) (cwV 2 hts gX6_changed_X6_valueOf rfl rfl rfl (by decide +kernel) ⟨Nat.le_of_ble_eq_true rfl, Nat.le_of_ble_eq_true rfl⟩) (m_recv hK hm (q := (RX6, TX6, 24)) rfl hM) hz hcx hm hS rfl hl.1 rfl (Nat.le_of_ble_eq_true rfl) dX6_changed_118 ⟨Nat.le_of_ble_eq_true rfl, Nat.le_of_ble_eq_true rfl⟩ (fun v M1 H locs hv hm hS => ?_)
                obtain ⟨⟨w26, hv1, ew26⟩, hM1⟩ := hv
                rw [hM1] at hm
                subst hv1
                refine W.eq (g2 := F0 m 121 ls [.int w26, .int r8]) rfl ?_
                refine W.widen (k := 0) (n := 0) (Nat.le_of_ble_eq_true rfl) (Nat.le_of_ble_eq_true rfl) ?_
                have hm : mm D (AZ z) M H := hm
                refine lv_iload hx hb dX6_changed_121 (lv_at hl 7 rfl) ?_
                refine lv_if_ge (tgt := 130) hx hb dX6_changed_123 (by decide) (fun c27 => ?_) (fun c27 => ?_)
                · refine lv_aload_n hx hb dX6_changed_130 rfl (lv_at hl 3 rfl) ?_
                  refine lv_iload hx hb dX6_changed_131 (lv_at hl 7 rfl) ?_
                  refine lv_iload hx hb dX6_changed_133 (lv_at hl 1 rfl) ?_
                  refine m_kV (As := [.int (nI nb9), .int (nI c9c)]) (rest := [.int w26, .int r8]) (rm := { frames := 0, cells := 0, slots := 0, locals := 0 }) ⟨hx, hb, hml, hown, hts⟩ (s_X6_valueOf l D k z _ mo cn ia dr en la wo op mk ir se ec lc wc ol al dn md nb9 c9c (by omega) (by omega) hI) (cwV 2 hts gX6_changed_X6_valueOf rfl rfl rfl (by decide +kernel) ⟨Nat.le_of_ble_eq_true rfl, Nat.le_of_ble_eq_true rfl⟩) (m_recv hK hm (q := (RX6, TX6, 24)) rfl hM) hz hcx hm hS rfl hl.1 rfl (Nat.le_of_ble_eq_true rfl) dX6_changed_135 ⟨Nat.le_of_ble_eq_true rfl, Nat.le_of_ble_eq_true rfl⟩ (fun v M1 H locs hv hm hS => ?_)
                  obtain ⟨⟨w28, hv1, ew28⟩, hM1⟩ := hv
                  rw [hM1] at hm
                  subst hv1
                  refine W.eq (g2 := F0 m 138 ls [.int w28, .int w26, .int r8]) rfl ?_
                  refine W.widen (k := 0) (n := 0) (Nat.le_of_ble_eq_true rfl) (Nat.le_of_ble_eq_true rfl) ?_
                  have hm : mm D (AZ z) M H := hm
                  refine lv_icmp_eq (tgt := 145) hx hb dX6_changed_138 (by decide) (fun c29 => ?_) (fun c29 => ?_)
                  · refine lv_iconst (v := 0) hx hb dX6_changed_145 (by decide) ?_
                    refine lv_iadd hx hb dX6_changed_146 ?_
                    refine lv_istore_n (lv' := [(2, .int (r8 + 0)), (7, .int 1), (6, .int (nI c9c)), (0, .ref mo), (1, .int (nI t9)), (3, .int (nI (2 + (5 * t9)))), (4, .int (nI (100 * (2 + (5 * t9)) + j))), (5, .int (nI nb9))]) hx hb dX6_changed_147 rfl hl (by decide) rfl (fun ls hl => ?_)
                    refine lv_iinc (v := ((nI c9c) + 1)) (lv' := [(6, .int ((nI c9c) + 1)), (2, .int (r8 + 0)), (7, .int 1), (0, .ref mo), (1, .int (nI t9)), (3, .int (nI (2 + (5 * t9)))), (4, .int (nI (100 * (2 + (5 * t9)) + j))), (5, .int (nI nb9))]) hx hb dX6_changed_148 hl (k := 2) rfl rfl (by decide) rfl (fun ls hl => ?_)
                    refine lv_goto (tgt := 64) hx hb dX6_changed_151 (by decide) ?_
                    rw [nI_1] at hl
                    exact ih64 (c9c + 1, (r8 + 0)) _ _ _ ⟨by omega, hm, hS, lv_sub hl [0, 1, 3, 4, 5, 6, 7] rfl⟩ (by show 95 - (c9c + 1) < 95 - c9c; omega)
                  · refine lv_iconst (v := 1) hx hb dX6_changed_141 (by decide) ?_
                    refine lv_goto (tgt := 146) hx hb dX6_changed_142 (by decide) ?_
                    refine lv_iadd hx hb dX6_changed_146 ?_
                    refine lv_istore_n (lv' := [(2, .int (r8 + 1)), (7, .int 1), (6, .int (nI c9c)), (0, .ref mo), (1, .int (nI t9)), (3, .int (nI (2 + (5 * t9)))), (4, .int (nI (100 * (2 + (5 * t9)) + j))), (5, .int (nI nb9))]) hx hb dX6_changed_147 rfl hl (by decide) rfl (fun ls hl => ?_)
                    refine lv_iinc (v := ((nI c9c) + 1)) (lv' := [(6, .int ((nI c9c) + 1)), (2, .int (r8 + 1)), (7, .int 1), (0, .ref mo), (1, .int (nI t9)), (3, .int (nI (2 + (5 * t9)))), (4, .int (nI (100 * (2 + (5 * t9)) + j))), (5, .int (nI nb9))]) hx hb dX6_changed_148 hl (k := 2) rfl rfl (by decide) rfl (fun ls hl => ?_)
                    refine lv_goto (tgt := 64) hx hb dX6_changed_151 (by decide) ?_
                    rw [nI_1] at hl
                    exact ih64 (c9c + 1, (r8 + 1)) _ _ _ ⟨by omega, hm, hS, lv_sub hl [0, 1, 3, 4, 5, 6, 7] rfl⟩ (by show 95 - (c9c + 1) < 95 - c9c; omega)
                · exact absurd (nI_pos' (by omega)) c27
            · refine lv_iload hx hb dX6_changed_93 (lv_at hl 0 rfl) ?_
              refine lv_bipush (v := 29) hx hb dX6_changed_95 (by decide) ?_
              refine lv_icmp_le (tgt := 104) hx hb dX6_changed_97 (by decide) (fun c30 => ?_) (fun c30 => ?_)
              · refine lv_iconst (v := 0) hx hb dX6_changed_104 (by decide) ?_
                refine lv_istore (lv' := [(7, .int 0), (6, .int (nI c9c)), (2, .int r8), (0, .ref mo), (1, .int (nI t9)), (3, .int (nI (2 + (5 * t9)))), (4, .int (nI (100 * (2 + (5 * t9)) + j))), (5, .int (nI nb9))]) hx hb dX6_changed_105 hl (by decide) rfl (fun ls hl => ?_)
                refine lv_iload_n hx hb dX6_changed_107 rfl (lv_at hl 2 rfl) ?_
                refine lv_iload hx hb dX6_changed_108 (lv_at hl 0 rfl) ?_
                refine lv_if_eq (tgt := 145) hx hb dX6_changed_110 (by decide) (fun c31 => ?_) (fun c31 => ?_)
                · refine lv_iconst (v := 0) hx hb dX6_changed_145 (by decide) ?_
                  refine lv_iadd hx hb dX6_changed_146 ?_
                  refine lv_istore_n (lv' := [(2, .int (r8 + 0)), (7, .int 0), (6, .int (nI c9c)), (0, .ref mo), (1, .int (nI t9)), (3, .int (nI (2 + (5 * t9)))), (4, .int (nI (100 * (2 + (5 * t9)) + j))), (5, .int (nI nb9))]) hx hb dX6_changed_147 rfl hl (by decide) rfl (fun ls hl => ?_)
                  refine lv_iinc (v := ((nI c9c) + 1)) (lv' := [(6, .int ((nI c9c) + 1)), (2, .int (r8 + 0)), (7, .int 0), (0, .ref mo), (1, .int (nI t9)), (3, .int (nI (2 + (5 * t9)))), (4, .int (nI (100 * (2 + (5 * t9)) + j))), (5, .int (nI nb9))]) hx hb dX6_changed_148 hl (k := 2) rfl rfl (by decide) rfl (fun ls hl => ?_)
                  refine lv_goto (tgt := 64) hx hb dX6_changed_151 (by decide) ?_
                  rw [nI_1] at hl
                  exact ih64 (c9c + 1, (r8 + 0)) _ _ _ ⟨by omega, hm, hS, lv_sub hl [0, 1, 3, 4, 5, 6, 7] rfl⟩ (by show 95 - (c9c + 1) < 95 - c9c; omega)
                · first | exact absurd c31 (by decide) | exact absurd (by decide) c31
              · refine lv_iconst (v := 1) hx hb dX6_changed_100 (by decide) ?_
                refine lv_goto (tgt := 105) hx hb dX6_changed_101 (by decide) ?_
                refine lv_istore (lv' := [(7, .int 1), (6, .int (nI c9c)), (2, .int r8), (0, .ref mo), (1, .int (nI t9)), (3, .int (nI (2 + (5 * t9)))), (4, .int (nI (100 * (2 + (5 * t9)) + j))), (5, .int (nI nb9))]) hx hb dX6_changed_105 hl (by decide) rfl (fun ls hl => ?_)
                refine lv_iload_n hx hb dX6_changed_107 rfl (lv_at hl 2 rfl) ?_
                refine lv_iload hx hb dX6_changed_108 (lv_at hl 0 rfl) ?_
                refine lv_if_eq (tgt := 145) hx hb dX6_changed_110 (by decide) (fun c32 => ?_) (fun c32 => ?_)
                · first | exact absurd c32 (by decide) | exact absurd (by decide) c32
                · refine lv_aload_n hx hb dX6_changed_113 rfl (lv_at hl 3 rfl) ?_
                  refine lv_iload hx hb dX6_changed_114 (lv_at hl 6 rfl) ?_
                  refine lv_iload hx hb dX6_changed_116 (lv_at hl 1 rfl) ?_
                  refine m_kV (As := [.int (nI (100 * (2 + (5 * t9)) + j)), .int (nI c9c)]) (rest := [.int r8]) (rm := { frames := 0, cells := 0, slots := 0, locals := 0 }) ⟨hx, hb, hml, hown, hts⟩ (s_X6_valueOf l D k z _ mo cn ia dr en la wo op mk ir se ec lc wc ol al dn md (100 * (2 + (5 * t9)) + j) c9c (by omega) (by omega) hI) (cwV 2 hts gX6_changed_X6_valueOf rfl rfl rfl (by decide +kernel) ⟨Nat.le_of_ble_eq_true rfl, Nat.le_of_ble_eq_true rfl⟩) (m_recv hK hm (q := (RX6, TX6, 24)) rfl hM) hz hcx hm hS rfl hl.1 rfl (Nat.le_of_ble_eq_true rfl) dX6_changed_118 ⟨Nat.le_of_ble_eq_true rfl, Nat.le_of_ble_eq_true rfl⟩ (fun v M1 H locs hv hm hS => ?_)
                  obtain ⟨⟨w33, hv1, ew33⟩, hM1⟩ := hv
                  rw [hM1] at hm
                  subst hv1
                  refine W.eq (g2 := F0 m 121 ls [.int w33, .int r8]) rfl ?_
                  refine W.widen (k := 0) (n := 0) (Nat.le_of_ble_eq_true rfl) (Nat.le_of_ble_eq_true rfl) ?_
                  have hm : mm D (AZ z) M H := hm
                  refine lv_iload hx hb dX6_changed_121 (lv_at hl 7 rfl) ?_
                  refine lv_if_ge (tgt := 130) hx hb dX6_changed_123 (by decide) (fun c34 => ?_) (fun c34 => ?_)
                  · refine lv_aload_n hx hb dX6_changed_130 rfl (lv_at hl 3 rfl) ?_
                    refine lv_iload hx hb dX6_changed_131 (lv_at hl 7 rfl) ?_
                    refine lv_iload hx hb dX6_changed_133 (lv_at hl 1 rfl) ?_
                    refine m_kV (As := [.int (nI nb9), .int (nI c9c)]) (rest := [.int w33, .int r8]) (rm := { frames := 0, cells := 0, slots := 0, locals := 0 }) ⟨hx, hb, hml, hown, hts⟩ (s_X6_valueOf l D k z _ mo cn ia dr en la wo op mk ir se ec lc wc ol al dn md nb9 c9c (by omega) (by omega) hI) (cwV 2 hts gX6_changed_X6_valueOf rfl rfl rfl (by decide +kernel) ⟨Nat.le_of_ble_eq_true rfl, Nat.le_of_ble_eq_true rfl⟩) (m_recv hK hm (q := (RX6, TX6, 24)) rfl hM) hz hcx hm hS rfl hl.1 rfl (Nat.le_of_ble_eq_true rfl) dX6_changed_135 ⟨Nat.le_of_ble_eq_true rfl, Nat.le_of_ble_eq_true rfl⟩ (fun v M1 H locs hv hm hS => ?_)
                    obtain ⟨⟨w35, hv1, ew35⟩, hM1⟩ := hv
                    rw [hM1] at hm
                    subst hv1
                    refine W.eq (g2 := F0 m 138 ls [.int w35, .int w33, .int r8]) rfl ?_
                    refine W.widen (k := 0) (n := 0) (Nat.le_of_ble_eq_true rfl) (Nat.le_of_ble_eq_true rfl) ?_
                    have hm : mm D (AZ z) M H := hm
                    refine lv_icmp_eq (tgt := 145) hx hb dX6_changed_138 (by decide) (fun c36 => ?_) (fun c36 => ?_)
                    · refine lv_iconst (v := 0) hx hb dX6_changed_145 (by decide) ?_
                      refine lv_iadd hx hb dX6_changed_146 ?_
                      refine lv_istore_n (lv' := [(2, .int (r8 + 0)), (7, .int 1), (6, .int (nI c9c)), (0, .ref mo), (1, .int (nI t9)), (3, .int (nI (2 + (5 * t9)))), (4, .int (nI (100 * (2 + (5 * t9)) + j))), (5, .int (nI nb9))]) hx hb dX6_changed_147 rfl hl (by decide) rfl (fun ls hl => ?_)
                      refine lv_iinc (v := ((nI c9c) + 1)) (lv' := [(6, .int ((nI c9c) + 1)), (2, .int (r8 + 0)), (7, .int 1), (0, .ref mo), (1, .int (nI t9)), (3, .int (nI (2 + (5 * t9)))), (4, .int (nI (100 * (2 + (5 * t9)) + j))), (5, .int (nI nb9))]) hx hb dX6_changed_148 hl (k := 2) rfl rfl (by decide) rfl (fun ls hl => ?_)
                      refine lv_goto (tgt := 64) hx hb dX6_changed_151 (by decide) ?_
                      rw [nI_1] at hl
                      exact ih64 (c9c + 1, (r8 + 0)) _ _ _ ⟨by omega, hm, hS, lv_sub hl [0, 1, 3, 4, 5, 6, 7] rfl⟩ (by show 95 - (c9c + 1) < 95 - c9c; omega)
                    · refine lv_iconst (v := 1) hx hb dX6_changed_141 (by decide) ?_
                      refine lv_goto (tgt := 146) hx hb dX6_changed_142 (by decide) ?_
                      refine lv_iadd hx hb dX6_changed_146 ?_
                      refine lv_istore_n (lv' := [(2, .int (r8 + 1)), (7, .int 1), (6, .int (nI c9c)), (0, .ref mo), (1, .int (nI t9)), (3, .int (nI (2 + (5 * t9)))), (4, .int (nI (100 * (2 + (5 * t9)) + j))), (5, .int (nI nb9))]) hx hb dX6_changed_147 rfl hl (by decide) rfl (fun ls hl => ?_)
                      refine lv_iinc (v := ((nI c9c) + 1)) (lv' := [(6, .int ((nI c9c) + 1)), (2, .int (r8 + 1)), (7, .int 1), (0, .ref mo), (1, .int (nI t9)), (3, .int (nI (2 + (5 * t9)))), (4, .int (nI (100 * (2 + (5 * t9)) + j))), (5, .int (nI nb9))]) hx hb dX6_changed_148 hl (k := 2) rfl rfl (by decide) rfl (fun ls hl => ?_)
                      refine lv_goto (tgt := 64) hx hb dX6_changed_151 (by decide) ?_
                      rw [nI_1] at hl
                      exact ih64 (c9c + 1, (r8 + 1)) _ _ _ ⟨by omega, hm, hS, lv_sub hl [0, 1, 3, 4, 5, 6, 7] rfl⟩ (by show 95 - (c9c + 1) < 95 - c9c; omega)
                  · exact absurd (nI_pos' (by omega)) c34
      · exact absurd (nI_pos' (by omega)) c19

set_option maxHeartbeats 4000000 in
set_option maxRecDepth 100000 in
theorem s_X6_about (l : Launch) (D : va_G) (k : Nat → ClassId) (z : Nat) (M : mM) (mo cn ia dr en la wo op mk ir se ec lc wc ol al : Nat) (dn md : Int32)  (tq w9 : Int32) (hbd : md ≠ 0 → dn ≠ 0) (hI : mI k M mo cn ia dr en la wo op mk ir se ec lc wc ol al dn md) : mK l yX6_about wsX6_about ({ frames := 2, cells := 0, slots := 0, locals := 51 }) D k z [.ref mo, .int tq, .int w9] M (fun v M' => (∃ x, v = some (.int x)) ∧ mI k M' mo cn ia dr en la wo op mk ir se ec lc wc ol al dn md ∧ kpx (fun a => a ∈ [mo, cn, ia, dr, en, la, wo, op, mk, ir, se, ec, lc, wc, ol, al]) M M') := by
  refine Met.ofW (cc := cX6_about) (maxL := 3) (ret := (some .int)) (by decide) rfl ?_
  intro p e s m args below meth c s₁ B hml hv
  obtain ⟨rfl, hz, hcx, hm⟩ := hv
  have hx := B.exec
  have hb := B.bytes
  have hr := B.returns
  have hts := atoms_spec (ws := wsX6_about) B.pre
  have hown : s.vm.findClass RX6 = some m.cls := findClass_of_methodNamed B.named
  have hlocks := B.notSynchronized
  have hK := hcx.1
  have hS : va_S (AZ z) s.heap s.heap [] := va_S.rf
  have hA : ∀ q, s.heap.size ≤ q → AZ z q := fun q h => Nat.le_trans hz h
  have hl := lv_entry ([.ref mo, .int tq, .int w9]) (n := 3) (Nat.le_of_ble_eq_true rfl)
  rw [lg_entry_eq]
  generalize (lg_sl ([.ref mo, .int tq, .int w9]) ++ List.replicate (3 - (lg_sl ([.ref mo, .int tq, .int w9])).length) Slot.unset).toArray = ls at hl ⊢
  have hl : lv_has ls 3 [(0, .ref mo), (1, .int tq), (2, .int w9)] := hl
  have f7 := hts (.fieldLink RX6 7 "CommitTreeModel" "counts" "[I") (by decide +kernel)
  have f38 := hts (.fieldLink RX6 38 "CommitTreeModel" "marks" "[I") (by decide +kernel)
  have wX6 : ∀ w ∈ wsX60, w ∈ wsX6_about := by decide +kernel
  obtain ⟨cd, ni, pw, cm, wr, cs, hm9, fcn, fia, fdr, fen, fla, fwo, fop, fmk, fir, fse, fec, flc, fol, fal, fwc, hap, hM, hmd, ⟨hrC, hrL, hrM⟩, hcn, hia, hdr, hen, hla, hwo, hop, hmk, hir, hse, hec, hlc, hwc, hol, hal⟩ := id hI
  have ne_mo_cn : nq mo cn := pw_ne hap 0 1 (by decide) (Nat.le_of_ble_eq_true rfl)
  have ne_cn_mo : nq cn mo := Ne.symm ne_mo_cn
  have ne_mo_ia : nq mo ia := pw_ne hap 0 2 (by decide) (Nat.le_of_ble_eq_true rfl)
  have ne_ia_mo : nq ia mo := Ne.symm ne_mo_ia
  have ne_mo_dr : nq mo dr := pw_ne hap 0 3 (by decide) (Nat.le_of_ble_eq_true rfl)
  have ne_dr_mo : nq dr mo := Ne.symm ne_mo_dr
  have ne_mo_en : nq mo en := pw_ne hap 0 4 (by decide) (Nat.le_of_ble_eq_true rfl)
  have ne_en_mo : nq en mo := Ne.symm ne_mo_en
  have ne_mo_la : nq mo la := pw_ne hap 0 5 (by decide) (Nat.le_of_ble_eq_true rfl)
  have ne_la_mo : nq la mo := Ne.symm ne_mo_la
  have ne_mo_wo : nq mo wo := pw_ne hap 0 6 (by decide) (Nat.le_of_ble_eq_true rfl)
  have ne_wo_mo : nq wo mo := Ne.symm ne_mo_wo
  have ne_mo_op : nq mo op := pw_ne hap 0 7 (by decide) (Nat.le_of_ble_eq_true rfl)
  have ne_op_mo : nq op mo := Ne.symm ne_mo_op
  have ne_mo_mk : nq mo mk := pw_ne hap 0 8 (by decide) (Nat.le_of_ble_eq_true rfl)
  have ne_mk_mo : nq mk mo := Ne.symm ne_mo_mk
  have ne_mo_ir : nq mo ir := pw_ne hap 0 9 (by decide) (Nat.le_of_ble_eq_true rfl)
  have ne_ir_mo : nq ir mo := Ne.symm ne_mo_ir
  have ne_mo_se : nq mo se := pw_ne hap 0 10 (by decide) (Nat.le_of_ble_eq_true rfl)
  have ne_se_mo : nq se mo := Ne.symm ne_mo_se
  have ne_mo_ec : nq mo ec := pw_ne hap 0 11 (by decide) (Nat.le_of_ble_eq_true rfl)
  have ne_ec_mo : nq ec mo := Ne.symm ne_mo_ec
  have ne_mo_lc : nq mo lc := pw_ne hap 0 12 (by decide) (Nat.le_of_ble_eq_true rfl)
  have ne_lc_mo : nq lc mo := Ne.symm ne_mo_lc
  have ne_mo_wc : nq mo wc := pw_ne hap 0 13 (by decide) (Nat.le_of_ble_eq_true rfl)
  have ne_wc_mo : nq wc mo := Ne.symm ne_mo_wc
  have ne_mo_ol : nq mo ol := pw_ne hap 0 14 (by decide) (Nat.le_of_ble_eq_true rfl)
  have ne_ol_mo : nq ol mo := Ne.symm ne_mo_ol
  have ne_mo_al : nq mo al := pw_ne hap 0 15 (by decide) (Nat.le_of_ble_eq_true rfl)
  have ne_al_mo : nq al mo := Ne.symm ne_mo_al
  have ne_cn_ia : nq cn ia := pw_ne hap 1 2 (by decide) (Nat.le_of_ble_eq_true rfl)
  have ne_ia_cn : nq ia cn := Ne.symm ne_cn_ia
  have ne_cn_dr : nq cn dr := pw_ne hap 1 3 (by decide) (Nat.le_of_ble_eq_true rfl)
  have ne_dr_cn : nq dr cn := Ne.symm ne_cn_dr
  have ne_cn_en : nq cn en := pw_ne hap 1 4 (by decide) (Nat.le_of_ble_eq_true rfl)
  have ne_en_cn : nq en cn := Ne.symm ne_cn_en
  have ne_cn_la : nq cn la := pw_ne hap 1 5 (by decide) (Nat.le_of_ble_eq_true rfl)
  have ne_la_cn : nq la cn := Ne.symm ne_cn_la
  have ne_cn_wo : nq cn wo := pw_ne hap 1 6 (by decide) (Nat.le_of_ble_eq_true rfl)
  have ne_wo_cn : nq wo cn := Ne.symm ne_cn_wo
  have ne_cn_op : nq cn op := pw_ne hap 1 7 (by decide) (Nat.le_of_ble_eq_true rfl)
  have ne_op_cn : nq op cn := Ne.symm ne_cn_op
  have ne_cn_mk : nq cn mk := pw_ne hap 1 8 (by decide) (Nat.le_of_ble_eq_true rfl)
  have ne_mk_cn : nq mk cn := Ne.symm ne_cn_mk
  have ne_cn_ir : nq cn ir := pw_ne hap 1 9 (by decide) (Nat.le_of_ble_eq_true rfl)
  have ne_ir_cn : nq ir cn := Ne.symm ne_cn_ir
  have ne_cn_se : nq cn se := pw_ne hap 1 10 (by decide) (Nat.le_of_ble_eq_true rfl)
  have ne_se_cn : nq se cn := Ne.symm ne_cn_se
  have ne_cn_ec : nq cn ec := pw_ne hap 1 11 (by decide) (Nat.le_of_ble_eq_true rfl)
  have ne_ec_cn : nq ec cn := Ne.symm ne_cn_ec
  have ne_cn_lc : nq cn lc := pw_ne hap 1 12 (by decide) (Nat.le_of_ble_eq_true rfl)
  have ne_lc_cn : nq lc cn := Ne.symm ne_cn_lc
  have ne_cn_wc : nq cn wc := pw_ne hap 1 13 (by decide) (Nat.le_of_ble_eq_true rfl)
  have ne_wc_cn : nq wc cn := Ne.symm ne_cn_wc
  have ne_cn_ol : nq cn ol := pw_ne hap 1 14 (by decide) (Nat.le_of_ble_eq_true rfl)
  have ne_ol_cn : nq ol cn := Ne.symm ne_cn_ol
  have ne_cn_al : nq cn al := pw_ne hap 1 15 (by decide) (Nat.le_of_ble_eq_true rfl)
  have ne_al_cn : nq al cn := Ne.symm ne_cn_al
  have ne_ia_dr : nq ia dr := pw_ne hap 2 3 (by decide) (Nat.le_of_ble_eq_true rfl)
  have ne_dr_ia : nq dr ia := Ne.symm ne_ia_dr
  have ne_ia_en : nq ia en := pw_ne hap 2 4 (by decide) (Nat.le_of_ble_eq_true rfl)
  have ne_en_ia : nq en ia := Ne.symm ne_ia_en
  have ne_ia_la : nq ia la := pw_ne hap 2 5 (by decide) (Nat.le_of_ble_eq_true rfl)
  have ne_la_ia : nq la ia := Ne.symm ne_ia_la
  have ne_ia_wo : nq ia wo := pw_ne hap 2 6 (by decide) (Nat.le_of_ble_eq_true rfl)
  have ne_wo_ia : nq wo ia := Ne.symm ne_ia_wo
  have ne_ia_op : nq ia op := pw_ne hap 2 7 (by decide) (Nat.le_of_ble_eq_true rfl)
  have ne_op_ia : nq op ia := Ne.symm ne_ia_op
  have ne_ia_mk : nq ia mk := pw_ne hap 2 8 (by decide) (Nat.le_of_ble_eq_true rfl)
  have ne_mk_ia : nq mk ia := Ne.symm ne_ia_mk
  have ne_ia_ir : nq ia ir := pw_ne hap 2 9 (by decide) (Nat.le_of_ble_eq_true rfl)
  have ne_ir_ia : nq ir ia := Ne.symm ne_ia_ir
  have ne_ia_se : nq ia se := pw_ne hap 2 10 (by decide) (Nat.le_of_ble_eq_true rfl)
  have ne_se_ia : nq se ia := Ne.symm ne_ia_se
  have ne_ia_ec : nq ia ec := pw_ne hap 2 11 (by decide) (Nat.le_of_ble_eq_true rfl)
  have ne_ec_ia : nq ec ia := Ne.symm ne_ia_ec
  have ne_ia_lc : nq ia lc := pw_ne hap 2 12 (by decide) (Nat.le_of_ble_eq_true rfl)
  have ne_lc_ia : nq lc ia := Ne.symm ne_ia_lc
  have ne_ia_wc : nq ia wc := pw_ne hap 2 13 (by decide) (Nat.le_of_ble_eq_true rfl)
  have ne_wc_ia : nq wc ia := Ne.symm ne_ia_wc
  have ne_ia_ol : nq ia ol := pw_ne hap 2 14 (by decide) (Nat.le_of_ble_eq_true rfl)
  have ne_ol_ia : nq ol ia := Ne.symm ne_ia_ol
  have ne_ia_al : nq ia al := pw_ne hap 2 15 (by decide) (Nat.le_of_ble_eq_true rfl)
  have ne_al_ia : nq al ia := Ne.symm ne_ia_al
  have ne_dr_en : nq dr en := pw_ne hap 3 4 (by decide) (Nat.le_of_ble_eq_true rfl)
  have ne_en_dr : nq en dr := Ne.symm ne_dr_en
  have ne_dr_la : nq dr la := pw_ne hap 3 5 (by decide) (Nat.le_of_ble_eq_true rfl)
  have ne_la_dr : nq la dr := Ne.symm ne_dr_la
  have ne_dr_wo : nq dr wo := pw_ne hap 3 6 (by decide) (Nat.le_of_ble_eq_true rfl)
  have ne_wo_dr : nq wo dr := Ne.symm ne_dr_wo
  have ne_dr_op : nq dr op := pw_ne hap 3 7 (by decide) (Nat.le_of_ble_eq_true rfl)
  have ne_op_dr : nq op dr := Ne.symm ne_dr_op
  have ne_dr_mk : nq dr mk := pw_ne hap 3 8 (by decide) (Nat.le_of_ble_eq_true rfl)
  have ne_mk_dr : nq mk dr := Ne.symm ne_dr_mk
  have ne_dr_ir : nq dr ir := pw_ne hap 3 9 (by decide) (Nat.le_of_ble_eq_true rfl)
  have ne_ir_dr : nq ir dr := Ne.symm ne_dr_ir
  have ne_dr_se : nq dr se := pw_ne hap 3 10 (by decide) (Nat.le_of_ble_eq_true rfl)
  have ne_se_dr : nq se dr := Ne.symm ne_dr_se
  have ne_dr_ec : nq dr ec := pw_ne hap 3 11 (by decide) (Nat.le_of_ble_eq_true rfl)
  have ne_ec_dr : nq ec dr := Ne.symm ne_dr_ec
  have ne_dr_lc : nq dr lc := pw_ne hap 3 12 (by decide) (Nat.le_of_ble_eq_true rfl)
  have ne_lc_dr : nq lc dr := Ne.symm ne_dr_lc
  have ne_dr_wc : nq dr wc := pw_ne hap 3 13 (by decide) (Nat.le_of_ble_eq_true rfl)
  have ne_wc_dr : nq wc dr := Ne.symm ne_dr_wc
  have ne_dr_ol : nq dr ol := pw_ne hap 3 14 (by decide) (Nat.le_of_ble_eq_true rfl)
  have ne_ol_dr : nq ol dr := Ne.symm ne_dr_ol
  have ne_dr_al : nq dr al := pw_ne hap 3 15 (by decide) (Nat.le_of_ble_eq_true rfl)
  have ne_al_dr : nq al dr := Ne.symm ne_dr_al
  have ne_en_la : nq en la := pw_ne hap 4 5 (by decide) (Nat.le_of_ble_eq_true rfl)
  have ne_la_en : nq la en := Ne.symm ne_en_la
  have ne_en_wo : nq en wo := pw_ne hap 4 6 (by decide) (Nat.le_of_ble_eq_true rfl)
  have ne_wo_en : nq wo en := Ne.symm ne_en_wo
  have ne_en_op : nq en op := pw_ne hap 4 7 (by decide) (Nat.le_of_ble_eq_true rfl)
  have ne_op_en : nq op en := Ne.symm ne_en_op
  have ne_en_mk : nq en mk := pw_ne hap 4 8 (by decide) (Nat.le_of_ble_eq_true rfl)
  have ne_mk_en : nq mk en := Ne.symm ne_en_mk
  have ne_en_ir : nq en ir := pw_ne hap 4 9 (by decide) (Nat.le_of_ble_eq_true rfl)
  have ne_ir_en : nq ir en := Ne.symm ne_en_ir
  have ne_en_se : nq en se := pw_ne hap 4 10 (by decide) (Nat.le_of_ble_eq_true rfl)
  have ne_se_en : nq se en := Ne.symm ne_en_se
  have ne_en_ec : nq en ec := pw_ne hap 4 11 (by decide) (Nat.le_of_ble_eq_true rfl)
  have ne_ec_en : nq ec en := Ne.symm ne_en_ec
  have ne_en_lc : nq en lc := pw_ne hap 4 12 (by decide) (Nat.le_of_ble_eq_true rfl)
  have ne_lc_en : nq lc en := Ne.symm ne_en_lc
  have ne_en_wc : nq en wc := pw_ne hap 4 13 (by decide) (Nat.le_of_ble_eq_true rfl)
  have ne_wc_en : nq wc en := Ne.symm ne_en_wc
  have ne_en_ol : nq en ol := pw_ne hap 4 14 (by decide) (Nat.le_of_ble_eq_true rfl)
  have ne_ol_en : nq ol en := Ne.symm ne_en_ol
  have ne_en_al : nq en al := pw_ne hap 4 15 (by decide) (Nat.le_of_ble_eq_true rfl)
  have ne_al_en : nq al en := Ne.symm ne_en_al
  have ne_la_wo : nq la wo := pw_ne hap 5 6 (by decide) (Nat.le_of_ble_eq_true rfl)
  have ne_wo_la : nq wo la := Ne.symm ne_la_wo
  have ne_la_op : nq la op := pw_ne hap 5 7 (by decide) (Nat.le_of_ble_eq_true rfl)
  have ne_op_la : nq op la := Ne.symm ne_la_op
  have ne_la_mk : nq la mk := pw_ne hap 5 8 (by decide) (Nat.le_of_ble_eq_true rfl)
  have ne_mk_la : nq mk la := Ne.symm ne_la_mk
  have ne_la_ir : nq la ir := pw_ne hap 5 9 (by decide) (Nat.le_of_ble_eq_true rfl)
  have ne_ir_la : nq ir la := Ne.symm ne_la_ir
  have ne_la_se : nq la se := pw_ne hap 5 10 (by decide) (Nat.le_of_ble_eq_true rfl)
  have ne_se_la : nq se la := Ne.symm ne_la_se
  have ne_la_ec : nq la ec := pw_ne hap 5 11 (by decide) (Nat.le_of_ble_eq_true rfl)
  have ne_ec_la : nq ec la := Ne.symm ne_la_ec
  have ne_la_lc : nq la lc := pw_ne hap 5 12 (by decide) (Nat.le_of_ble_eq_true rfl)
  have ne_lc_la : nq lc la := Ne.symm ne_la_lc
  have ne_la_wc : nq la wc := pw_ne hap 5 13 (by decide) (Nat.le_of_ble_eq_true rfl)
  have ne_wc_la : nq wc la := Ne.symm ne_la_wc
  have ne_la_ol : nq la ol := pw_ne hap 5 14 (by decide) (Nat.le_of_ble_eq_true rfl)
  have ne_ol_la : nq ol la := Ne.symm ne_la_ol
  have ne_la_al : nq la al := pw_ne hap 5 15 (by decide) (Nat.le_of_ble_eq_true rfl)
  have ne_al_la : nq al la := Ne.symm ne_la_al
  have ne_wo_op : nq wo op := pw_ne hap 6 7 (by decide) (Nat.le_of_ble_eq_true rfl)
  have ne_op_wo : nq op wo := Ne.symm ne_wo_op
  have ne_wo_mk : nq wo mk := pw_ne hap 6 8 (by decide) (Nat.le_of_ble_eq_true rfl)
  have ne_mk_wo : nq mk wo := Ne.symm ne_wo_mk
  have ne_wo_ir : nq wo ir := pw_ne hap 6 9 (by decide) (Nat.le_of_ble_eq_true rfl)
  have ne_ir_wo : nq ir wo := Ne.symm ne_wo_ir
  have ne_wo_se : nq wo se := pw_ne hap 6 10 (by decide) (Nat.le_of_ble_eq_true rfl)
  have ne_se_wo : nq se wo := Ne.symm ne_wo_se
  have ne_wo_ec : nq wo ec := pw_ne hap 6 11 (by decide) (Nat.le_of_ble_eq_true rfl)
  have ne_ec_wo : nq ec wo := Ne.symm ne_wo_ec
  have ne_wo_lc : nq wo lc := pw_ne hap 6 12 (by decide) (Nat.le_of_ble_eq_true rfl)
  have ne_lc_wo : nq lc wo := Ne.symm ne_wo_lc
  have ne_wo_wc : nq wo wc := pw_ne hap 6 13 (by decide) (Nat.le_of_ble_eq_true rfl)
  have ne_wc_wo : nq wc wo := Ne.symm ne_wo_wc
  have ne_wo_ol : nq wo ol := pw_ne hap 6 14 (by decide) (Nat.le_of_ble_eq_true rfl)
  have ne_ol_wo : nq ol wo := Ne.symm ne_wo_ol
  have ne_wo_al : nq wo al := pw_ne hap 6 15 (by decide) (Nat.le_of_ble_eq_true rfl)
  have ne_al_wo : nq al wo := Ne.symm ne_wo_al
  have ne_op_mk : nq op mk := pw_ne hap 7 8 (by decide) (Nat.le_of_ble_eq_true rfl)
  have ne_mk_op : nq mk op := Ne.symm ne_op_mk
  have ne_op_ir : nq op ir := pw_ne hap 7 9 (by decide) (Nat.le_of_ble_eq_true rfl)
  have ne_ir_op : nq ir op := Ne.symm ne_op_ir
  have ne_op_se : nq op se := pw_ne hap 7 10 (by decide) (Nat.le_of_ble_eq_true rfl)
  have ne_se_op : nq se op := Ne.symm ne_op_se
  have ne_op_ec : nq op ec := pw_ne hap 7 11 (by decide) (Nat.le_of_ble_eq_true rfl)
  have ne_ec_op : nq ec op := Ne.symm ne_op_ec
  have ne_op_lc : nq op lc := pw_ne hap 7 12 (by decide) (Nat.le_of_ble_eq_true rfl)
  have ne_lc_op : nq lc op := Ne.symm ne_op_lc
  have ne_op_wc : nq op wc := pw_ne hap 7 13 (by decide) (Nat.le_of_ble_eq_true rfl)
  have ne_wc_op : nq wc op := Ne.symm ne_op_wc
  have ne_op_ol : nq op ol := pw_ne hap 7 14 (by decide) (Nat.le_of_ble_eq_true rfl)
  have ne_ol_op : nq ol op := Ne.symm ne_op_ol
  have ne_op_al : nq op al := pw_ne hap 7 15 (by decide) (Nat.le_of_ble_eq_true rfl)
  have ne_al_op : nq al op := Ne.symm ne_op_al
  have ne_mk_ir : nq mk ir := pw_ne hap 8 9 (by decide) (Nat.le_of_ble_eq_true rfl)
  have ne_ir_mk : nq ir mk := Ne.symm ne_mk_ir
  have ne_mk_se : nq mk se := pw_ne hap 8 10 (by decide) (Nat.le_of_ble_eq_true rfl)
  have ne_se_mk : nq se mk := Ne.symm ne_mk_se
  have ne_mk_ec : nq mk ec := pw_ne hap 8 11 (by decide) (Nat.le_of_ble_eq_true rfl)
  have ne_ec_mk : nq ec mk := Ne.symm ne_mk_ec
  have ne_mk_lc : nq mk lc := pw_ne hap 8 12 (by decide) (Nat.le_of_ble_eq_true rfl)
  have ne_lc_mk : nq lc mk := Ne.symm ne_mk_lc
  have ne_mk_wc : nq mk wc := pw_ne hap 8 13 (by decide) (Nat.le_of_ble_eq_true rfl)
  have ne_wc_mk : nq wc mk := Ne.symm ne_mk_wc
  have ne_mk_ol : nq mk ol := pw_ne hap 8 14 (by decide) (Nat.le_of_ble_eq_true rfl)
  have ne_ol_mk : nq ol mk := Ne.symm ne_mk_ol
  have ne_mk_al : nq mk al := pw_ne hap 8 15 (by decide) (Nat.le_of_ble_eq_true rfl)
  have ne_al_mk : nq al mk := Ne.symm ne_mk_al
  have ne_ir_se : nq ir se := pw_ne hap 9 10 (by decide) (Nat.le_of_ble_eq_true rfl)
  have ne_se_ir : nq se ir := Ne.symm ne_ir_se
  have ne_ir_ec : nq ir ec := pw_ne hap 9 11 (by decide) (Nat.le_of_ble_eq_true rfl)
  have ne_ec_ir : nq ec ir := Ne.symm ne_ir_ec
  have ne_ir_lc : nq ir lc := pw_ne hap 9 12 (by decide) (Nat.le_of_ble_eq_true rfl)
  have ne_lc_ir : nq lc ir := Ne.symm ne_ir_lc
  have ne_ir_wc : nq ir wc := pw_ne hap 9 13 (by decide) (Nat.le_of_ble_eq_true rfl)
  have ne_wc_ir : nq wc ir := Ne.symm ne_ir_wc
  have ne_ir_ol : nq ir ol := pw_ne hap 9 14 (by decide) (Nat.le_of_ble_eq_true rfl)
  have ne_ol_ir : nq ol ir := Ne.symm ne_ir_ol
  have ne_ir_al : nq ir al := pw_ne hap 9 15 (by decide) (Nat.le_of_ble_eq_true rfl)
  have ne_al_ir : nq al ir := Ne.symm ne_ir_al
  have ne_se_ec : nq se ec := pw_ne hap 10 11 (by decide) (Nat.le_of_ble_eq_true rfl)
  have ne_ec_se : nq ec se := Ne.symm ne_se_ec
  have ne_se_lc : nq se lc := pw_ne hap 10 12 (by decide) (Nat.le_of_ble_eq_true rfl)
  have ne_lc_se : nq lc se := Ne.symm ne_se_lc
  have ne_se_wc : nq se wc := pw_ne hap 10 13 (by decide) (Nat.le_of_ble_eq_true rfl)
  have ne_wc_se : nq wc se := Ne.symm ne_se_wc
  have ne_se_ol : nq se ol := pw_ne hap 10 14 (by decide) (Nat.le_of_ble_eq_true rfl)
  have ne_ol_se : nq ol se := Ne.symm ne_se_ol
  have ne_se_al : nq se al := pw_ne hap 10 15 (by decide) (Nat.le_of_ble_eq_true rfl)
  have ne_al_se : nq al se := Ne.symm ne_se_al
  have ne_ec_lc : nq ec lc := pw_ne hap 11 12 (by decide) (Nat.le_of_ble_eq_true rfl)
  have ne_lc_ec : nq lc ec := Ne.symm ne_ec_lc
  have ne_ec_wc : nq ec wc := pw_ne hap 11 13 (by decide) (Nat.le_of_ble_eq_true rfl)
  have ne_wc_ec : nq wc ec := Ne.symm ne_ec_wc
  have ne_ec_ol : nq ec ol := pw_ne hap 11 14 (by decide) (Nat.le_of_ble_eq_true rfl)
  have ne_ol_ec : nq ol ec := Ne.symm ne_ec_ol
  have ne_ec_al : nq ec al := pw_ne hap 11 15 (by decide) (Nat.le_of_ble_eq_true rfl)
  have ne_al_ec : nq al ec := Ne.symm ne_ec_al
  have ne_lc_wc : nq lc wc := pw_ne hap 12 13 (by decide) (Nat.le_of_ble_eq_true rfl)
  have ne_wc_lc : nq wc lc := Ne.symm ne_lc_wc
  have ne_lc_ol : nq lc ol := pw_ne hap 12 14 (by decide) (Nat.le_of_ble_eq_true rfl)
  have ne_ol_lc : nq ol lc := Ne.symm ne_lc_ol
  have ne_lc_al : nq lc al := pw_ne hap 12 15 (by decide) (Nat.le_of_ble_eq_true rfl)
  have ne_al_lc : nq al lc := Ne.symm ne_lc_al
  have ne_wc_ol : nq wc ol := pw_ne hap 13 14 (by decide) (Nat.le_of_ble_eq_true rfl)
  have ne_ol_wc : nq ol wc := Ne.symm ne_wc_ol
  have ne_wc_al : nq wc al := pw_ne hap 13 15 (by decide) (Nat.le_of_ble_eq_true rfl)
  have ne_al_wc : nq al wc := Ne.symm ne_wc_al
  have ne_ol_al : nq ol al := pw_ne hap 14 15 (by decide) (Nat.le_of_ble_eq_true rfl)
  have ne_al_ol : nq al ol := Ne.symm ne_ol_al
  have hkp : kpx (fun a => a ∈ [mo, cn, ia, dr, en, la, wo, op, mk, ir, se, ec, lc, wc, ol, al]) M M := kpx.refl _ _
  refine lv_aload_n hx hb dX6_about_0 rfl (lv_at hl 0 rfl) ?_
  refine lv_aload_n hx hb dX6_about_1 rfl (lv_at hl 0 rfl) ?_
  refine lv_iload_n hx hb dX6_about_2 rfl (lv_at hl 1 rfl) ?_
  refine m_kV (As := [.int tq]) (rest := [.ref mo]) (rm := { frames := 0, cells := 0, slots := 0, locals := 0 }) ⟨hx, hb, hml, hown, hts⟩ (s_X6_isOpen l D k z _ mo cn ia dr en la wo op mk ir se ec lc wc ol al dn md tq hI) (cwV 1 hts gX6_about_X6_isOpen rfl rfl rfl (by decide +kernel) ⟨Nat.le_of_ble_eq_true rfl, Nat.le_of_ble_eq_true rfl⟩) (m_recv hK hm (q := (RX6, TX6, 24)) rfl hM) hz hcx hm hS rfl hl.1 rfl (Nat.le_of_ble_eq_true rfl) dX6_about_3 ⟨Nat.le_of_ble_eq_true rfl, Nat.le_of_ble_eq_true rfl⟩ (fun v M1 H locs hv hm hS => ?_)
  obtain ⟨hv2, hM1⟩ := hv
  rw [hM1] at hm
  rcases hv2 with hv1 | ⟨hv1, hdn, t9, ht9, htE⟩
  · subst hv1
    refine W.eq (g2 := F0 m 6 ls [.int 0, .ref mo]) rfl ?_
    refine W.widen (k := 0) (n := 0) (Nat.le_of_ble_eq_true rfl) (Nat.le_of_ble_eq_true rfl) ?_
    have hm : mm D (AZ z) M H := hm
    refine lv_if_ne (tgt := 13) hx hb dX6_about_6 (by decide) (fun c1 => ?_) (fun c1 => ?_)
    · first | exact absurd c1 (by decide) | exact absurd (by decide) c1
    · refine lv_iconst (v := 1) hx hb dX6_about_9 (by decide) ?_
      refine lv_goto (tgt := 27) hx hb dX6_about_10 (by decide) ?_
      refine m_kV (As := [.int 1]) (rest := []) (rm := { frames := 0, cells := 0, slots := 0, locals := 0 }) ⟨hx, hb, hml, hown, hts⟩ (s_X6_failsE l D k z _ mo cn ia dr en la wo op mk ir se ec lc wc ol al cd ni dn md pw cm wr cs hm9 1 hM) (cwV 1 hts gX6_about_X6_fails rfl rfl rfl (by decide +kernel) ⟨Nat.le_of_ble_eq_true rfl, Nat.le_of_ble_eq_true rfl⟩) (m_recv hK hm (q := (RX6, TX6, 24)) rfl hM) hz hcx hm hS rfl hl.1 rfl (Nat.le_of_ble_eq_true rfl) dX6_about_27 ⟨Nat.le_of_ble_eq_true rfl, Nat.le_of_ble_eq_true rfl⟩ (fun v M1 H locs hv hm hS => ?_)
      obtain ⟨hv1, hM1⟩ := hv
      have hv1 : v = some (.int 1) := hv1.trans (by decide)
      subst hv1
      rw [hM1] at hm
      refine W.eq (g2 := F0 m 30 ls [.int 1]) rfl ?_
      refine W.widen (k := 0) (n := 0) (Nat.le_of_ble_eq_true rfl) (Nat.le_of_ble_eq_true rfl) ?_
      have hm : mm D (AZ z) (mu M mo (.inr (6, [.int 1, .ref cn, .ref ia, .ref dr, .ref en, .ref la, .ref wo, .int ni, .ref op, .ref mk, .ref ir, .int dn, .int md, .int pw, .int cm, .int wr, .ref se, .ref ec, .ref lc, .ref wc, .ref ol, .ref al, .int cs, .int hm9]))) H := hm
      have hkp : kpx (fun a => a ∈ [mo, cn, ia, dr, en, la, wo, op, mk, ir, se, ec, lc, wc, ol, al]) M (mu M mo (.inr (6, [.int 1, .ref cn, .ref ia, .ref dr, .ref en, .ref la, .ref wo, .int ni, .ref op, .ref mk, .ref ir, .int dn, .int md, .int pw, .int cm, .int wr, .ref se, .ref ec, .ref lc, .ref wc, .ref ol, .ref al, .int cs, .int hm9]))) := (hkp).self (by simp)
      refine lv_if_eq (tgt := 35) hx hb dX6_about_30 (by decide) (fun c2 => ?_) (fun c2 => ?_)
      · first | exact absurd c2 (by decide) | exact absurd (by decide) c2
      · refine lv_iconst (v := 0) hx hb dX6_about_33 (by decide) ?_
        refine W.iret (v := 0) hx hb hr (fun t ht hW => ⟨⟨some (.int 0), _, rfl, ?_, by rw [ht]; exact hm⟩, hS.F ht⟩) hS.2.2 dX6_about_34
        exact ⟨⟨_, rfl⟩, ⟨_, _, _, _, _, _, _, fcn, fia, fdr, fen, fla, fwo, fop, fmk, fir, fse, fec, flc, fol, fal, fwc, hap, (mu_self _ _ _), hmd, ⟨hrC, hrL, hrM⟩, ((mu_ne ne_cn_mo).trans hcn), ((mu_ne ne_ia_mo).trans hia), ((mu_ne ne_dr_mo).trans hdr), ((mu_ne ne_en_mo).trans hen), ((mu_ne ne_la_mo).trans hla), ((mu_ne ne_wo_mo).trans hwo), ((mu_ne ne_op_mo).trans hop), ((mu_ne ne_mk_mo).trans hmk), ((mu_ne ne_ir_mo).trans hir), ((mu_ne ne_se_mo).trans hse), ((mu_ne ne_ec_mo).trans hec), ((mu_ne ne_lc_mo).trans hlc), ((mu_ne ne_wc_mo).trans hwc), ((mu_ne ne_ol_mo).trans hol), ((mu_ne ne_al_mo).trans hal)⟩, hkp⟩
  · subst hv1
    subst htE
    refine W.eq (g2 := F0 m 6 ls [.int 1, .ref mo]) rfl ?_
    refine W.widen (k := 0) (n := 0) (Nat.le_of_ble_eq_true rfl) (Nat.le_of_ble_eq_true rfl) ?_
    have hm : mm D (AZ z) M H := hm
    refine lv_if_ne (tgt := 13) hx hb dX6_about_6 (by decide) (fun c3 => ?_) (fun c3 => ?_)
    · refine lv_iload_n hx hb dX6_about_13 rfl (lv_at hl 2 rfl) ?_
      refine lv_if_lt (tgt := 22) hx hb dX6_about_14 (by decide) (fun c4 => ?_) (fun c4 => ?_)
      · refine lv_iconst (v := 2) hx hb dX6_about_22 (by decide) ?_
        refine lv_goto (tgt := 27) hx hb dX6_about_23 (by decide) ?_
        refine m_kV (As := [.int 2]) (rest := []) (rm := { frames := 0, cells := 0, slots := 0, locals := 0 }) ⟨hx, hb, hml, hown, hts⟩ (s_X6_failsE l D k z _ mo cn ia dr en la wo op mk ir se ec lc wc ol al cd ni dn md pw cm wr cs hm9 2 hM) (cwV 1 hts gX6_about_X6_fails rfl rfl rfl (by decide +kernel) ⟨Nat.le_of_ble_eq_true rfl, Nat.le_of_ble_eq_true rfl⟩) (m_recv hK hm (q := (RX6, TX6, 24)) rfl hM) hz hcx hm hS rfl hl.1 rfl (Nat.le_of_ble_eq_true rfl) dX6_about_27 ⟨Nat.le_of_ble_eq_true rfl, Nat.le_of_ble_eq_true rfl⟩ (fun v M1 H locs hv hm hS => ?_)
        obtain ⟨hv1, hM1⟩ := hv
        have hv1 : v = some (.int 1) := hv1.trans (by decide)
        subst hv1
        rw [hM1] at hm
        refine W.eq (g2 := F0 m 30 ls [.int 1]) rfl ?_
        refine W.widen (k := 0) (n := 0) (Nat.le_of_ble_eq_true rfl) (Nat.le_of_ble_eq_true rfl) ?_
        have hm : mm D (AZ z) (mu M mo (.inr (6, [.int 2, .ref cn, .ref ia, .ref dr, .ref en, .ref la, .ref wo, .int ni, .ref op, .ref mk, .ref ir, .int dn, .int md, .int pw, .int cm, .int wr, .ref se, .ref ec, .ref lc, .ref wc, .ref ol, .ref al, .int cs, .int hm9]))) H := hm
        have hkp : kpx (fun a => a ∈ [mo, cn, ia, dr, en, la, wo, op, mk, ir, se, ec, lc, wc, ol, al]) M (mu M mo (.inr (6, [.int 2, .ref cn, .ref ia, .ref dr, .ref en, .ref la, .ref wo, .int ni, .ref op, .ref mk, .ref ir, .int dn, .int md, .int pw, .int cm, .int wr, .ref se, .ref ec, .ref lc, .ref wc, .ref ol, .ref al, .int cs, .int hm9]))) := (hkp).self (by simp)
        refine lv_if_eq (tgt := 35) hx hb dX6_about_30 (by decide) (fun c5 => ?_) (fun c5 => ?_)
        · first | exact absurd c5 (by decide) | exact absurd (by decide) c5
        · refine lv_iconst (v := 0) hx hb dX6_about_33 (by decide) ?_
          refine W.iret (v := 0) hx hb hr (fun t ht hW => ⟨⟨some (.int 0), _, rfl, ?_, by rw [ht]; exact hm⟩, hS.F ht⟩) hS.2.2 dX6_about_34
          exact ⟨⟨_, rfl⟩, ⟨_, _, _, _, _, _, _, fcn, fia, fdr, fen, fla, fwo, fop, fmk, fir, fse, fec, flc, fol, fal, fwc, hap, (mu_self _ _ _), hmd, ⟨hrC, hrL, hrM⟩, ((mu_ne ne_cn_mo).trans hcn), ((mu_ne ne_ia_mo).trans hia), ((mu_ne ne_dr_mo).trans hdr), ((mu_ne ne_en_mo).trans hen), ((mu_ne ne_la_mo).trans hla), ((mu_ne ne_wo_mo).trans hwo), ((mu_ne ne_op_mo).trans hop), ((mu_ne ne_mk_mo).trans hmk), ((mu_ne ne_ir_mo).trans hir), ((mu_ne ne_se_mo).trans hse), ((mu_ne ne_ec_mo).trans hec), ((mu_ne ne_lc_mo).trans hlc), ((mu_ne ne_wc_mo).trans hwc), ((mu_ne ne_ol_mo).trans hol), ((mu_ne ne_al_mo).trans hal)⟩, hkp⟩
      · refine lv_iload_n hx hb dX6_about_17 rfl (lv_at hl 2 rfl) ?_
        refine lv_iconst (v := 3) hx hb dX6_about_18 (by decide) ?_
        refine lv_icmp_le (tgt := 26) hx hb dX6_about_19 (by decide) (fun c6 => ?_) (fun c6 => ?_)
        · refine lv_iconst (v := 0) hx hb dX6_about_26 (by decide) ?_
          refine m_kV (As := [.int 0]) (rest := []) (rm := { frames := 0, cells := 0, slots := 0, locals := 0 }) ⟨hx, hb, hml, hown, hts⟩ (s_X6_failsE l D k z _ mo cn ia dr en la wo op mk ir se ec lc wc ol al cd ni dn md pw cm wr cs hm9 0 hM) (cwV 1 hts gX6_about_X6_fails rfl rfl rfl (by decide +kernel) ⟨Nat.le_of_ble_eq_true rfl, Nat.le_of_ble_eq_true rfl⟩) (m_recv hK hm (q := (RX6, TX6, 24)) rfl hM) hz hcx hm hS rfl hl.1 rfl (Nat.le_of_ble_eq_true rfl) dX6_about_27 ⟨Nat.le_of_ble_eq_true rfl, Nat.le_of_ble_eq_true rfl⟩ (fun v M1 H locs hv hm hS => ?_)
          obtain ⟨hv1, hM1⟩ := hv
          have hv1 : v = some (.int 0) := hv1.trans (by decide)
          subst hv1
          rw [hM1] at hm
          refine W.eq (g2 := F0 m 30 ls [.int 0]) rfl ?_
          refine W.widen (k := 0) (n := 0) (Nat.le_of_ble_eq_true rfl) (Nat.le_of_ble_eq_true rfl) ?_
          have hm : mm D (AZ z) (mu M mo (.inr (6, [.int 0, .ref cn, .ref ia, .ref dr, .ref en, .ref la, .ref wo, .int ni, .ref op, .ref mk, .ref ir, .int dn, .int md, .int pw, .int cm, .int wr, .ref se, .ref ec, .ref lc, .ref wc, .ref ol, .ref al, .int cs, .int hm9]))) H := hm
          have hkp : kpx (fun a => a ∈ [mo, cn, ia, dr, en, la, wo, op, mk, ir, se, ec, lc, wc, ol, al]) M (mu M mo (.inr (6, [.int 0, .ref cn, .ref ia, .ref dr, .ref en, .ref la, .ref wo, .int ni, .ref op, .ref mk, .ref ir, .int dn, .int md, .int pw, .int cm, .int wr, .ref se, .ref ec, .ref lc, .ref wc, .ref ol, .ref al, .int cs, .int hm9]))) := (hkp).self (by simp)
          refine lv_if_eq (tgt := 35) hx hb dX6_about_30 (by decide) (fun c7 => ?_) (fun c7 => ?_)
          · refine lv_iload_n hx hb dX6_about_35 rfl (lv_at hl 2 rfl) ?_
            refine lv_if_ne (tgt := 47) hx hb dX6_about_36 (by decide) (fun c8 => ?_) (fun c8 => ?_)
            · refine lv_iload_n hx hb dX6_about_47 rfl (lv_at hl 2 rfl) ?_
              refine lv_iconst (v := 1) hx hb dX6_about_48 (by decide) ?_
              refine lv_icmp_ne (tgt := 60) hx hb dX6_about_49 (by decide) (fun c9 => ?_) (fun c9 => ?_)
              · refine lv_iload_n hx hb dX6_about_60 rfl (lv_at hl 2 rfl) ?_
                refine lv_iconst (v := 2) hx hb dX6_about_61 (by decide) ?_
                refine lv_icmp_ne (tgt := 78) hx hb dX6_about_62 (by decide) (fun c10 => ?_) (fun c10 => ?_)
                · refine lv_aload_n hx hb dX6_about_78 rfl (lv_at hl 0 rfl) ?_
                  refine m_get (T := TX6) (N := 24) (ci := 6) (v := .ref mk) hx hb hts wX6 hown hK hm (mu_self _ _ _) rfl 9 (by decide) f38 (fun _ h9 => h9) rfl dX6_about_79 ?_
                  refine lv_iload_n hx hb dX6_about_82 rfl (lv_at hl 1 rfl) ?_
                  refine m_iald hx hb hK hm 0 ((mu_ne ne_mk_mo).trans hmk) rfl (vp_in_nI (by omega) (by decide)) dX6_about_83 ?_
                  obtain ⟨u11, hu11, eu11⟩ := hrM t9
                  refine W.eq (g2 := F0 m 84 ls [.int (nI u11)]) (by rw [show (fmk ((nI t9)).toNatClampNeg) = nI u11 from (congrArg fmk (show ((nI t9)).toNatClampNeg = t9 from nI_clamp (by omega))).trans eu11]) ?_
                  have hb_u11 := hu11
                  have hu11 : u11 ≤ 3 := hu11
                  refine W.iret (v := (nI u11)) hx hb hr (fun t ht hW => ⟨⟨some (.int (nI u11)), _, rfl, ?_, by rw [ht]; exact hm⟩, hS.F ht⟩) hS.2.2 dX6_about_84
                  exact ⟨⟨_, rfl⟩, ⟨_, _, _, _, _, _, _, fcn, fia, fdr, fen, fla, fwo, fop, fmk, fir, fse, fec, flc, fol, fal, fwc, hap, (mu_self _ _ _), hmd, ⟨hrC, hrL, hrM⟩, ((mu_ne ne_cn_mo).trans hcn), ((mu_ne ne_ia_mo).trans hia), ((mu_ne ne_dr_mo).trans hdr), ((mu_ne ne_en_mo).trans hen), ((mu_ne ne_la_mo).trans hla), ((mu_ne ne_wo_mo).trans hwo), ((mu_ne ne_op_mo).trans hop), ((mu_ne ne_mk_mo).trans hmk), ((mu_ne ne_ir_mo).trans hir), ((mu_ne ne_se_mo).trans hse), ((mu_ne ne_ec_mo).trans hec), ((mu_ne ne_lc_mo).trans hlc), ((mu_ne ne_wc_mo).trans hwc), ((mu_ne ne_ol_mo).trans hol), ((mu_ne ne_al_mo).trans hal)⟩, hkp⟩
                · refine lv_aload_n hx hb dX6_about_65 rfl (lv_at hl 0 rfl) ?_
                  refine m_get (T := TX6) (N := 24) (ci := 6) (v := .ref cn) hx hb hts wX6 hown hK hm (mu_self _ _ _) rfl 1 (by decide) f7 (fun _ h9 => h9) rfl dX6_about_66 ?_
                  refine lv_iconst (v := 2) hx hb dX6_about_69 (by decide) ?_
                  refine lv_iconst (v := 5) hx hb dX6_about_70 (by decide) ?_
                  refine lv_iload_n hx hb dX6_about_71 rfl (lv_at hl 1 rfl) ?_
                  refine lv_imul hx hb dX6_about_72 ?_
                  refine W.eq (g2 := F0 m 73 ls [.int (nI (5 * t9)), .int 2, .ref cn]) (by rw [show ((5) * ((nI t9)) : Int32) = nI (5 * t9) from pk_mul 5 t9]) ?_
                  refine lv_iadd hx hb dX6_about_73 ?_
                  refine W.eq (g2 := F0 m 74 ls [.int (nI (2 + (5 * t9))), .ref cn]) (by rw [show ((2) + ((nI (5 * t9))) : Int32) = nI (2 + (5 * t9)) from nI_add 2 (5 * t9)]) ?_
                  refine m_iald hx hb hK hm 0 ((mu_ne ne_cn_mo).trans hcn) rfl (vp_in_nI (by omega) (by decide)) dX6_about_74 ?_
                  obtain ⟨u12, hu12, eu12⟩ := hrC (2 + (5 * t9))
                  refine W.eq (g2 := F0 m 75 ls [.int (nI u12)]) (by rw [show (fcn ((nI (2 + (5 * t9)))).toNatClampNeg) = nI u12 from (congrArg fcn (show ((nI (2 + (5 * t9)))).toNatClampNeg = (2 + (5 * t9)) from nI_clamp (by omega))).trans eu12]) ?_
                  have hb_u12 := hu12
                  have hu12 : u12 ≤ 100 := Nat.le_trans hu12 (bC_le _)
                  refine lv_goto (tgt := 84) hx hb dX6_about_75 (by decide) ?_
                  refine W.iret (v := (nI u12)) hx hb hr (fun t ht hW => ⟨⟨some (.int (nI u12)), _, rfl, ?_, by rw [ht]; exact hm⟩, hS.F ht⟩) hS.2.2 dX6_about_84
                  exact ⟨⟨_, rfl⟩, ⟨_, _, _, _, _, _, _, fcn, fia, fdr, fen, fla, fwo, fop, fmk, fir, fse, fec, flc, fol, fal, fwc, hap, (mu_self _ _ _), hmd, ⟨hrC, hrL, hrM⟩, ((mu_ne ne_cn_mo).trans hcn), ((mu_ne ne_ia_mo).trans hia), ((mu_ne ne_dr_mo).trans hdr), ((mu_ne ne_en_mo).trans hen), ((mu_ne ne_la_mo).trans hla), ((mu_ne ne_wo_mo).trans hwo), ((mu_ne ne_op_mo).trans hop), ((mu_ne ne_mk_mo).trans hmk), ((mu_ne ne_ir_mo).trans hir), ((mu_ne ne_se_mo).trans hse), ((mu_ne ne_ec_mo).trans hec), ((mu_ne ne_lc_mo).trans hlc), ((mu_ne ne_wc_mo).trans hwc), ((mu_ne ne_ol_mo).trans hol), ((mu_ne ne_al_mo).trans hal)⟩, hkp⟩
              · refine lv_aload_n hx hb dX6_about_52 rfl (lv_at hl 0 rfl) ?_
                refine lv_iload_n hx hb dX6_about_53 rfl (lv_at hl 1 rfl) ?_
                have hI0 : mI k (mu M mo (.inr (6, [.int 0, .ref cn, .ref ia, .ref dr, .ref en, .ref la, .ref wo, .int ni, .ref op, .ref mk, .ref ir, .int dn, .int md, .int pw, .int cm, .int wr, .ref se, .ref ec, .ref lc, .ref wc, .ref ol, .ref al, .int cs, .int hm9]))) mo cn ia dr en la wo op mk ir se ec lc wc ol al dn md := ⟨_, _, _, _, _, _, _, fcn, fia, fdr, fen, fla, fwo, fop, fmk, fir, fse, fec, flc, fol, fal, fwc, hap, (mu_self _ _ _), hmd, ⟨hrC, hrL, hrM⟩, ((mu_ne ne_cn_mo).trans hcn), ((mu_ne ne_ia_mo).trans hia), ((mu_ne ne_dr_mo).trans hdr), ((mu_ne ne_en_mo).trans hen), ((mu_ne ne_la_mo).trans hla), ((mu_ne ne_wo_mo).trans hwo), ((mu_ne ne_op_mo).trans hop), ((mu_ne ne_mk_mo).trans hmk), ((mu_ne ne_ir_mo).trans hir), ((mu_ne ne_se_mo).trans hse), ((mu_ne ne_ec_mo).trans hec), ((mu_ne ne_lc_mo).trans hlc), ((mu_ne ne_wc_mo).trans hwc), ((mu_ne ne_ol_mo).trans hol), ((mu_ne ne_al_mo).trans hal)⟩
                refine m_kV (As := [.int (nI t9)]) (rest := []) (rm := { frames := 1, cells := 0, slots := 0, locals := 24 }) ⟨hx, hb, hml, hown, hts⟩ (s_X6_changed l D k z _ mo cn ia dr en la wo op mk ir se ec lc wc ol al dn md t9 (by omega) hI0) (cwV 1 hts gX6_about_X6_changed rfl rfl rfl (by decide +kernel) ⟨Nat.le_of_ble_eq_true rfl, Nat.le_of_ble_eq_true rfl⟩) (m_recv hK hm (q := (RX6, TX6, 24)) rfl (mu_self _ _ _)) hz hcx hm hS rfl hl.1 rfl (Nat.le_of_ble_eq_true rfl) dX6_about_54 ⟨Nat.le_of_ble_eq_true rfl, Nat.le_of_ble_eq_true rfl⟩ (fun v M1 H locs hv hm hS => ?_)
                obtain ⟨⟨w13, hv1⟩, hM1⟩ := hv
                rw [hM1] at hm
                subst hv1
                refine W.eq (g2 := F0 m 57 ls [.int w13]) rfl ?_
                refine W.widen (k := 0) (n := 0) (Nat.le_of_ble_eq_true rfl) (Nat.le_of_ble_eq_true rfl) ?_
                have hm : mm D (AZ z) (mu M mo (.inr (6, [.int 0, .ref cn, .ref ia, .ref dr, .ref en, .ref la, .ref wo, .int ni, .ref op, .ref mk, .ref ir, .int dn, .int md, .int pw, .int cm, .int wr, .ref se, .ref ec, .ref lc, .ref wc, .ref ol, .ref al, .int cs, .int hm9]))) H := hm
                refine lv_goto (tgt := 84) hx hb dX6_about_57 (by decide) ?_
                refine W.iret (v := w13) hx hb hr (fun t ht hW => ⟨⟨some (.int w13), _, rfl, ?_, by rw [ht]; exact hm⟩, hS.F ht⟩) hS.2.2 dX6_about_84
                exact ⟨⟨_, rfl⟩, ⟨_, _, _, _, _, _, _, fcn, fia, fdr, fen, fla, fwo, fop, fmk, fir, fse, fec, flc, fol, fal, fwc, hap, (mu_self _ _ _), hmd, ⟨hrC, hrL, hrM⟩, ((mu_ne ne_cn_mo).trans hcn), ((mu_ne ne_ia_mo).trans hia), ((mu_ne ne_dr_mo).trans hdr), ((mu_ne ne_en_mo).trans hen), ((mu_ne ne_la_mo).trans hla), ((mu_ne ne_wo_mo).trans hwo), ((mu_ne ne_op_mo).trans hop), ((mu_ne ne_mk_mo).trans hmk), ((mu_ne ne_ir_mo).trans hir), ((mu_ne ne_se_mo).trans hse), ((mu_ne ne_ec_mo).trans hec), ((mu_ne ne_lc_mo).trans hlc), ((mu_ne ne_wc_mo).trans hwc), ((mu_ne ne_ol_mo).trans hol), ((mu_ne ne_al_mo).trans hal)⟩, hkp⟩
            · refine lv_aload_n hx hb dX6_about_39 rfl (lv_at hl 0 rfl) ?_
              refine lv_iload_n hx hb dX6_about_40 rfl (lv_at hl 1 rfl) ?_
              have hI0 : mI k (mu M mo (.inr (6, [.int 0, .ref cn, .ref ia, .ref dr, .ref en, .ref la, .ref wo, .int ni, .ref op, .ref mk, .ref ir, .int dn, .int md, .int pw, .int cm, .int wr, .ref se, .ref ec, .ref lc, .ref wc, .ref ol, .ref al, .int cs, .int hm9]))) mo cn ia dr en la wo op mk ir se ec lc wc ol al dn md := ⟨_, _, _, _, _, _, _, fcn, fia, fdr, fen, fla, fwo, fop, fmk, fir, fse, fec, flc, fol, fal, fwc, hap, (mu_self _ _ _), hmd, ⟨hrC, hrL, hrM⟩, ((mu_ne ne_cn_mo).trans hcn), ((mu_ne ne_ia_mo).trans hia), ((mu_ne ne_dr_mo).trans hdr), ((mu_ne ne_en_mo).trans hen), ((mu_ne ne_la_mo).trans hla), ((mu_ne ne_wo_mo).trans hwo), ((mu_ne ne_op_mo).trans hop), ((mu_ne ne_mk_mo).trans hmk), ((mu_ne ne_ir_mo).trans hir), ((mu_ne ne_se_mo).trans hse), ((mu_ne ne_ec_mo).trans hec), ((mu_ne ne_lc_mo).trans hlc), ((mu_ne ne_wc_mo).trans hwc), ((mu_ne ne_ol_mo).trans hol), ((mu_ne ne_al_mo).trans hal)⟩
              refine m_kV (As := [.int (nI t9)]) (rest := []) (rm := { frames := 0, cells := 0, slots := 0, locals := 0 }) ⟨hx, hb, hml, hown, hts⟩ (s_X6_reads l D k z _ mo cn ia dr en la wo op mk ir se ec lc wc ol al dn md t9 (by omega) hI0) (cwV 1 hts gX6_about_X6_reads rfl rfl rfl (by decide +kernel) ⟨Nat.le_of_ble_eq_true rfl, Nat.le_of_ble_eq_true rfl⟩) (m_recv hK hm (q := (RX6, TX6, 24)) rfl (mu_self _ _ _)) hz hcx hm hS rfl hl.1 rfl (Nat.le_of_ble_eq_true rfl) dX6_about_41 ⟨Nat.le_of_ble_eq_true rfl, Nat.le_of_ble_eq_true rfl⟩ (fun v M1 H locs hv hm hS => ?_)
              obtain ⟨⟨w14, hv1⟩, hM1⟩ := hv
              rw [hM1] at hm
              subst hv1
              refine W.eq (g2 := F0 m 44 ls [.int w14]) rfl ?_
              refine W.widen (k := 0) (n := 0) (Nat.le_of_ble_eq_true rfl) (Nat.le_of_ble_eq_true rfl) ?_
              have hm : mm D (AZ z) (mu M mo (.inr (6, [.int 0, .ref cn, .ref ia, .ref dr, .ref en, .ref la, .ref wo, .int ni, .ref op, .ref mk, .ref ir, .int dn, .int md, .int pw, .int cm, .int wr, .ref se, .ref ec, .ref lc, .ref wc, .ref ol, .ref al, .int cs, .int hm9]))) H := hm
              refine lv_goto (tgt := 84) hx hb dX6_about_44 (by decide) ?_
              refine W.iret (v := w14) hx hb hr (fun t ht hW => ⟨⟨some (.int w14), _, rfl, ?_, by rw [ht]; exact hm⟩, hS.F ht⟩) hS.2.2 dX6_about_84
              exact ⟨⟨_, rfl⟩, ⟨_, _, _, _, _, _, _, fcn, fia, fdr, fen, fla, fwo, fop, fmk, fir, fse, fec, flc, fol, fal, fwc, hap, (mu_self _ _ _), hmd, ⟨hrC, hrL, hrM⟩, ((mu_ne ne_cn_mo).trans hcn), ((mu_ne ne_ia_mo).trans hia), ((mu_ne ne_dr_mo).trans hdr), ((mu_ne ne_en_mo).trans hen), ((mu_ne ne_la_mo).trans hla), ((mu_ne ne_wo_mo).trans hwo), ((mu_ne ne_op_mo).trans hop), ((mu_ne ne_mk_mo).trans hmk), ((mu_ne ne_ir_mo).trans hir), ((mu_ne ne_se_mo).trans hse), ((mu_ne ne_ec_mo).trans hec), ((mu_ne ne_lc_mo).trans hlc), ((mu_ne ne_wc_mo).trans hwc), ((mu_ne ne_ol_mo).trans hol), ((mu_ne ne_al_mo).trans hal)⟩, hkp⟩
          · first | exact absurd c7 (by decide) | exact absurd (by decide) c7
        · refine lv_iconst (v := 2) hx hb dX6_about_22 (by decide) ?_
          refine lv_goto (tgt := 27) hx hb dX6_about_23 (by decide) ?_
          refine m_kV (As := [.int 2]) (rest := []) (rm := { frames := 0, cells := 0, slots := 0, locals := 0 }) ⟨hx, hb, hml, hown, hts⟩ (s_X6_failsE l D k z _ mo cn ia dr en la wo op mk ir se ec lc wc ol al cd ni dn md pw cm wr cs hm9 2 hM) (cwV 1 hts gX6_about_X6_fails rfl rfl rfl (by decide +kernel) ⟨Nat.le_of_ble_eq_true rfl, Nat.le_of_ble_eq_true rfl⟩) (m_recv hK hm (q := (RX6, TX6, 24)) rfl hM) hz hcx hm hS rfl hl.1 rfl (Nat.le_of_ble_eq_true rfl) dX6_about_27 ⟨Nat.le_of_ble_eq_true rfl, Nat.le_of_ble_eq_true rfl⟩ (fun v M1 H locs hv hm hS => ?_)
          obtain ⟨hv1, hM1⟩ := hv
          have hv1 : v = some (.int 1) := hv1.trans (by decide)
          subst hv1
          rw [hM1] at hm
          refine W.eq (g2 := F0 m 30 ls [.int 1]) rfl ?_
          refine W.widen (k := 0) (n := 0) (Nat.le_of_ble_eq_true rfl) (Nat.le_of_ble_eq_true rfl) ?_
          have hm : mm D (AZ z) (mu M mo (.inr (6, [.int 2, .ref cn, .ref ia, .ref dr, .ref en, .ref la, .ref wo, .int ni, .ref op, .ref mk, .ref ir, .int dn, .int md, .int pw, .int cm, .int wr, .ref se, .ref ec, .ref lc, .ref wc, .ref ol, .ref al, .int cs, .int hm9]))) H := hm
          have hkp : kpx (fun a => a ∈ [mo, cn, ia, dr, en, la, wo, op, mk, ir, se, ec, lc, wc, ol, al]) M (mu M mo (.inr (6, [.int 2, .ref cn, .ref ia, .ref dr, .ref en, .ref la, .ref wo, .int ni, .ref op, .ref mk, .ref ir, .int dn, .int md, .int pw, .int cm, .int wr, .ref se, .ref ec, .ref lc, .ref wc, .ref ol, .ref al, .int cs, .int hm9]))) := (hkp).self (by simp)
          refine lv_if_eq (tgt := 35) hx hb dX6_about_30 (by decide) (fun c15 => ?_) (fun c15 => ?_)
          · first | exact absurd c15 (by decide) | exact absurd (by decide) c15
          · refine lv_iconst (v := 0) hx hb dX6_about_33 (by decide) ?_
            refine W.iret (v := 0) hx hb hr (fun t ht hW => ⟨⟨some (.int 0), _, rfl, ?_, by rw [ht]; exact hm⟩, hS.F ht⟩) hS.2.2 dX6_about_34
            exact ⟨⟨_, rfl⟩, ⟨_, _, _, _, _, _, _, fcn, fia, fdr, fen, fla, fwo, fop, fmk, fir, fse, fec, flc, fol, fal, fwc, hap, (mu_self _ _ _), hmd, ⟨hrC, hrL, hrM⟩, ((mu_ne ne_cn_mo).trans hcn), ((mu_ne ne_ia_mo).trans hia), ((mu_ne ne_dr_mo).trans hdr), ((mu_ne ne_en_mo).trans hen), ((mu_ne ne_la_mo).trans hla), ((mu_ne ne_wo_mo).trans hwo), ((mu_ne ne_op_mo).trans hop), ((mu_ne ne_mk_mo).trans hmk), ((mu_ne ne_ir_mo).trans hir), ((mu_ne ne_se_mo).trans hse), ((mu_ne ne_ec_mo).trans hec), ((mu_ne ne_lc_mo).trans hlc), ((mu_ne ne_wc_mo).trans hwc), ((mu_ne ne_ol_mo).trans hol), ((mu_ne ne_al_mo).trans hal)⟩, hkp⟩
    · first | exact absurd c3 (by decide) | exact absurd (by decide) c3
