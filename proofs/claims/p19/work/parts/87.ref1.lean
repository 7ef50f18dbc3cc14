/-- a boolean method's return, whatever the number: its last bit -/
theorem W.zretN {p : Program} {l : Launch} {e : Env} {R : Room} {s : State} {m : MethodId} {args : Array Value} {below : List Frame} {meth : Method} {c : Code} {H : Heap} {locs : List Loc} {cells slots : Nat} {cc : ByteArray} {Qc : Array Value → State → Outcome → State → Prop} {free : Addr → Prop} {v : Int32} (hexec : p.tables.exec = Jvm.exec) (hb : c.code = cc) (hr : meth.sig.returnType = some .boolean)
    (hq : ∀ t : State, t.heap = H → s.WarmedH t.vm → Qc args s (.returned (some (.int (v &&& 1)))) t) (hf : ∀ q ∈ locs, free q.base)
    {pc : Nat} {ls : Array Slot} (hdg : decode cc pc = .ok (.ireturn, 1)) (hlocks : meth.locks = false) : W p l e R s m args below meth c H locs cells slots (MQ below Qc args s cells slots free) (F0 m pc ls [.int v]) := by
  intro T hT X
  obtain ⟨fs, hret, hrun, hended, hW, hframe⟩ := X.leave (v := some (.int (v &&& 1))) (fun h => by rw [hr] at h; cases h)
  have hmeth' : T.vm.method? m = some meth := X.method'
  refine ⟨T.setFrames fs, ?_, .returned (some (.int (v &&& 1))), hrun, hended, hq _ hT hW, locs, ⟨⟨_, rfl⟩, hW, hframe⟩, hf⟩
  jvm_step X.here [X.here.top, hexec, hb, hdg, hmeth', hr, narrow]
  (try refine ⟨rfl, ?_⟩); (try refine ⟨rfl, ?_⟩)
  first | (intro acts; rw [hret _ acts rfl rfl rfl]) | rw [hret _ _ rfl rfl rfl]
  exact Steps.refl _
section NB
variable {a b : Nat}
theorem nb_le (ha : a < 2147483648) (hb : b < 2147483648) (h : nI a ≤ nI b) : a ≤ b := (nI_leI ha hb).mp h
theorem nb_nle (ha : a < 2147483648) (hb : b < 2147483648) (h : ¬ nI a ≤ nI b) : b < a := Nat.lt_of_not_le fun q => h ((nI_leI ha hb).mpr q)
theorem nb_lt (ha : a < 2147483648) (hb : b < 2147483648) (h : nI a < nI b) : a < b := Nat.lt_of_not_le fun q => Int32.not_le.mpr h ((nI_leI hb ha).mpr q)
theorem nb_nlt (ha : a < 2147483648) (hb : b < 2147483648) (h : ¬ nI a < nI b) : b ≤ a := (nI_leI hb ha).mp (Int32.not_lt.mp h)
theorem nb_eq (ha : a < 2147483648) (hb : b < 2147483648) (h : nI a = nI b) : a = b := nI_inj ha hb h
theorem nb_ne (h : nI a ≠ nI b) : a ≠ b := fun q => h (by rw [q])
theorem nb_m1 (ha : a < 2147483648) : nI a ≠ -1 := fun q => nI_pos (n := a) ha (by rw [q]; decide)
end NB
theorem bC_e60 {j : Nat} (h0 : j ≠ 0) (h31 : j ≠ 31) : bC j = 60 := by unfold bC; rw [if_neg h0, if_neg h31]
theorem nI_8 (n : Nat) : nI n + 8 = nI (n + 8) := nI_add n 8
theorem isP_15 {path : Int32} (h : isP path) (h0 : ¬ path = 0) : path &&& 15 ≠ 0 := by
  have h1 := h.2.2 0 (by decide)
  have h2 : dgt path 0 = path := by unfold dgt; rw [show (nI (4 * 0) &&& 31) = 0 from by decide]; simp
  unfold dOk at h1
  rw [h2] at h1
  rcases h1 with q | q
  · exact absurd q h0
  · exact q
theorem isP_15' {path : Int32} (h : isP path) (h0 : path ≠ 0) : path &&& 15 ≠ 0 := isP_15 h h0

set_option maxHeartbeats 4000000 in
set_option maxRecDepth 100000 in
theorem x_X6_parentOf (l : Launch) (D : va_G) (k : Nat → ClassId) (z : Nat) (M : mM) (mo cn ia dr en la wo op mk ir se ec lc wc ol al : Nat) (dn md : Int32)  (t9 : Nat) (ht9 : t9 < 6) (path : Int32) (hI : mI k M mo cn ia dr en la wo op mk ir se ec lc wc ol al dn md) : mK l yX6_parentOf wsX6_parentOf ({ frames := 4, cells := 0, slots := 0, locals := 97 }) D k z [.ref mo, .int (nI t9), .int path] M (fun v M' => (∃ f, v = some (.int f) ∧ fP (2 + 5 * t9) f) ∧ mI k M' mo cn ia dr en la wo op mk ir se ec lc wc ol al dn md ∧ kpx (fun a => a ∈ [ir]) M M') := by
  refine Met.ofW (cc := cX6_parentOf) (maxL := 3) (ret := (some .int)) (by decide) rfl ?_
  intro p e s m args below meth c s₁ B hml hv
  obtain ⟨rfl, hz, hcx, hm⟩ := hv
  have hx := B.exec
  have hb := B.bytes
  have hr := B.returns
  have hts := atoms_spec (ws := wsX6_parentOf) B.pre
  have hown : s.vm.findClass RX6 = some m.cls := findClass_of_methodNamed B.named
  have hlocks := B.notSynchronized
  have hK := hcx.1
  have hS : va_S (AZ z) s.heap s.heap [] := va_S.rf
  have hA : ∀ q, s.heap.size ≤ q → AZ z q := fun q h => Nat.le_trans hz h
  have hl := lv_entry ([.ref mo, .int (nI t9), .int path]) (n := 3) (Nat.le_of_ble_eq_true rfl)
  rw [lg_entry_eq]
  generalize (lg_sl ([.ref mo, .int (nI t9), .int path]) ++ List.replicate (3 - (lg_sl ([.ref mo, .int (nI t9), .int path])).length) Slot.unset).toArray = ls at hl ⊢
  have hl : lv_has ls 3 [(0, .ref mo), (1, .int (nI t9)), (2, .int path)] := hl
  obtain ⟨cd, ni, pw, cm, wr, cs, hm9, fcn, fia, fdr, fen, fla, fwo, fop, fmk, fir, fse, fec, flc, fol, fal, fwc, hap, hM, hmd, ⟨hrC, hrL, hrM⟩, hcn, hia, hdr, hen, hla, hwo, hop, hmk, hir, hse, hec, hlc, hwc, hol, hal⟩ := id hI
  have ne_mo_cn : nq mo cn := pw_ne hap 0 1 (by decide) (Nat.le_of_ble_eq_true rfl)
  have ne_cn_mo : nq cn mo := Ne.symm ne_mo_cn
  have ne_mo_ia : nq mo ia := pw_ne hap 0 2 (by decide) (Nat.le_of_ble_eq_true rfl)
  have ne_ia_mo : nq ia mo := Ne.symm ne_mo_ia
  have ne_mo_dr : nq mo dr := pw_ne hap 0 3 (by decide) (Nat.le_of_ble_eq_true rfl)
  have ne_dr_mo : nq dr mo := Ne.symm ne_mo_dr
  have ne_mo_en : nq mo en := pw_ne hap 0 4 (by decide) (Nat.le_of_ble_eq_true rfl)
  have ne_en_mo : nq en mo := Ne.symm ne_mo_en
  have ne_mo_la : nq mo la := pw_ne hap 0 5 (by decide) (Nat.le_of_ble_eq_true rfl)
  have ne_la_mo : nq la mo := Ne.symm ne_mo_la
  have ne_mo_wo : nq mo wo := pw_ne hap 0 6 (by decide) (Nat.le_of_ble_eq_true rfl)
  have ne_wo_mo : nq wo mo := Ne.symm ne_mo_wo
  have ne_mo_op : nq mo op := pw_ne hap 0 7 (by decide) (Nat.le_of_ble_eq_true rfl)
  have ne_op_mo : nq op mo := Ne.symm ne_mo_op
  have ne_mo_mk : nq mo mk := pw_ne hap 0 8 (by decide) (Nat.le_of_ble_eq_true rfl)
  have ne_mk_mo : nq mk mo := Ne.symm ne_mo_mk
  have ne_mo_ir : nq mo ir := pw_ne hap 0 9 (by decide) (Nat.le_of_ble_eq_true rfl)
  have ne_ir_mo : nq ir mo := Ne.symm ne_mo_ir
  have ne_mo_se : nq mo se := pw_ne hap 0 10 (by decide) (Nat.le_of_ble_eq_true rfl)
  have ne_se_mo : nq se mo := Ne.symm ne_mo_se
  have ne_mo_ec : nq mo ec := pw_ne hap 0 11 (by decide) (Nat.le_of_ble_eq_true rfl)
  have ne_ec_mo : nq ec mo := Ne.symm ne_mo_ec
  have ne_mo_lc : nq mo lc := pw_ne hap 0 12 (by decide) (Nat.le_of_ble_eq_true rfl)
  have ne_lc_mo : nq lc mo := Ne.symm ne_mo_lc
  have ne_mo_wc : nq mo wc := pw_ne hap 0 13 (by decide) (Nat.le_of_ble_eq_true rfl)
  have ne_wc_mo : nq wc mo := Ne.symm ne_mo_wc
  have ne_mo_ol : nq mo ol := pw_ne hap 0 14 (by decide) (Nat.le_of_ble_eq_true rfl)
  have ne_ol_mo : nq ol mo := Ne.symm ne_mo_ol
  have ne_mo_al : nq mo al := pw_ne hap 0 15 (by decide) (Nat.le_of_ble_eq_true rfl)
  have ne_al_mo : nq al mo := Ne.symm ne_mo_al
  have ne_cn_ia : nq cn ia := pw_ne hap 1 2 (by decide) (Nat.le_of_ble_eq_true rfl)
  have ne_ia_cn : nq ia cn := Ne.symm ne_cn_ia
  have ne_cn_dr : nq cn dr := pw_ne hap 1 3 (by decide) (Nat.le_of_ble_eq_true rfl)
  have ne_dr_cn : nq dr cn := Ne.symm ne_cn_dr
  have ne_cn_en : nq cn en := pw_ne hap 1 4 (by decide) (Nat.le_of_ble_eq_true rfl)
  have ne_en_cn : nq en cn := Ne.symm ne_cn_en
  have ne_cn_la : nq cn la := pw_ne hap 1 5 (by decide) (Nat.le_of_ble_eq_true rfl)
  have ne_la_cn : nq la cn := Ne.symm ne_cn_la
  have ne_cn_wo : nq cn wo := pw_ne hap 1 6 (by decide) (Nat.le_of_ble_eq_true rfl)
  have ne_wo_cn : nq wo cn := Ne.symm ne_cn_wo
  have ne_cn_op : nq cn op := pw_ne hap 1 7 (by decide) (Nat.le_of_ble_eq_true rfl)
  have ne_op_cn : nq op cn := Ne.symm ne_cn_op
  have ne_cn_mk : nq cn mk := pw_ne hap 1 8 (by decide) (Nat.le_of_ble_eq_true rfl)
  have ne_mk_cn : nq mk cn := Ne.symm ne_cn_mk
  have ne_cn_ir : nq cn ir := pw_ne hap 1 9 (by decide) (Nat.le_of_ble_eq_true rfl)
  have ne_ir_cn : nq ir cn := Ne.symm ne_cn_ir
  have ne_cn_se : nq cn se := pw_ne hap 1 10 (by decide) (Nat.le_of_ble_eq_true rfl)
  have ne_se_cn : nq se cn := Ne.symm ne_cn_se
  have ne_cn_ec : nq cn ec := pw_ne hap 1 11 (by decide) (Nat.le_of_ble_eq_true rfl)
  have ne_ec_cn : nq ec cn := Ne.symm ne_cn_ec
  have ne_cn_lc : nq cn lc := pw_ne hap 1 12 (by decide) (Nat.le_of_ble_eq_true rfl)
  have ne_lc_cn : nq lc cn := Ne.symm ne_cn_lc
  have ne_cn_wc : nq cn wc := pw_ne hap 1 13 (by decide) (Nat.le_of_ble_eq_true rfl)
  have ne_wc_cn : nq wc cn := Ne.symm ne_cn_wc
  have ne_cn_ol : nq cn ol := pw_ne hap 1 14 (by decide) (Nat.le_of_ble_eq_true rfl)
  have ne_ol_cn : nq ol cn := Ne.symm ne_cn_ol
  have ne_cn_al : nq cn al := pw_ne hap 1 15 (by decide) (Nat.le_of_ble_eq_true rfl)
  have ne_al_cn : nq al cn := Ne.symm ne_cn_al
  have ne_ia_dr : nq ia dr := pw_ne hap 2 3 (by decide) (Nat.le_of_ble_eq_true rfl)
  have ne_dr_ia : nq dr ia := Ne.symm ne_ia_dr
  have ne_ia_en : nq ia en := pw_ne hap 2 4 (by decide) (Nat.le_of_ble_eq_true rfl)
  have ne_en_ia : nq en ia := Ne.symm ne_ia_en
  have ne_ia_la : nq ia la := pw_ne hap 2 5 (by decide) (Nat.le_of_ble_eq_true rfl)
  have ne_la_ia : nq la ia := Ne.symm ne_ia_la
  have ne_ia_wo : nq ia wo := pw_ne hap 2 6 (by decide) (Nat.le_of_ble_eq_true rfl)
  have ne_wo_ia : nq wo ia := Ne.symm ne_ia_wo
  have ne_ia_op : nq ia op := pw_ne hap 2 7 (by decide) (Nat.le_of_ble_eq_true rfl)
  have ne_op_ia : nq op ia := Ne.symm ne_ia_op
  have ne_ia_mk : nq ia mk := pw_ne hap 2 8 (by decide) (Nat.le_of_ble_eq_true rfl)
  have ne_mk_ia : nq mk ia := Ne.symm ne_ia_mk
  have ne_ia_ir : nq ia ir := pw_ne hap 2 9 (by decide) (Nat.le_of_ble_eq_true rfl)
  have ne_ir_ia : nq ir ia := Ne.symm ne_ia_ir
  have ne_ia_se : nq ia se := pw_ne hap 2 10 (by decide) (Nat.le_of_ble_eq_true rfl)
  have ne_se_ia : nq se ia := Ne.symm ne_ia_se
  have ne_ia_ec : nq ia ec := pw_ne hap 2 11 (by decide) (Nat.le_of_ble_eq_true rfl)
  have ne_ec_ia : nq ec ia := Ne.symm ne_ia_ec
  have ne_ia_lc : nq ia lc := pw_ne hap 2 12 (by decide) (Nat.le_of_ble_eq_true rfl)
  have ne_lc_ia : nq lc ia := Ne.symm ne_ia_lc
  have ne_ia_wc : nq ia wc := pw_ne hap 2 13 (by decide) (Nat.le_of_ble_eq_true rfl)
  have ne_wc_ia : nq wc ia := Ne.symm ne_ia_wc
  have ne_ia_ol : nq ia ol := pw_ne hap 2 14 (by decide) (Nat.le_of_ble_eq_true rfl)
  have ne_ol_ia : nq ol ia := Ne.symm ne_ia_ol
  have ne_ia_al : nq ia al := pw_ne hap 2 15 (by decide) (Nat.le_of_ble_eq_true rfl)
  have ne_al_ia : nq al ia := Ne.symm ne_ia_al
  have ne_dr_en : nq dr en := pw_ne hap 3 4 (by decide) (Nat.le_of_ble_eq_true rfl)
  have ne_en_dr : nq en dr := Ne.symm ne_dr_en
  have ne_dr_la : nq dr la := pw_ne hap 3 5 (by decide) (Nat.le_of_ble_eq_true rfl)
  have ne_la_dr : nq la dr := Ne.symm ne_dr_la
  have ne_dr_wo : nq dr wo := pw_ne hap 3 6 (by decide) (Nat.le_of_ble_eq_true rfl)
  have ne_wo_dr : nq wo dr := Ne.symm ne_dr_wo
  have ne_dr_op : nq dr op := pw_ne hap 3 7 (by decide) (Nat.le_of_ble_eq_true rfl)
  have ne_op_dr : nq op dr := Ne.symm ne_dr_op
  have ne_dr_mk : nq dr mk := pw_ne hap 3 8 (by decide) (Nat.le_of_ble_eq_true rfl)
  have ne_mk_dr : nq mk dr := Ne.symm ne_dr_mk
  have ne_dr_ir : nq dr ir := pw_ne hap 3 9 (by decide) (Nat.le_of_ble_eq_true rfl)
  have ne_ir_dr : nq ir dr := Ne.symm ne_dr_ir
  have ne_dr_se : nq dr se := pw_ne hap 3 10 (by decide) (Nat.le_of_ble_eq_true rfl)
  have ne_se_dr : nq se dr := Ne.symm ne_dr_se
  have ne_dr_ec : nq dr ec := pw_ne hap 3 11 (by decide) (Nat.le_of_ble_eq_true rfl)
  have ne_ec_dr : nq ec dr := Ne.symm ne_dr_ec
  have ne_dr_lc : nq dr lc := pw_ne hap 3 12 (by decide) (Nat.le_of_ble_eq_true rfl)
  have ne_lc_dr : nq lc dr := Ne.symm ne_dr_lc
  have ne_dr_wc : nq dr wc := pw_ne hap 3 13 (by decide) (Nat.le_of_ble_eq_true rfl)
  have ne_wc_dr : nq wc dr := Ne.symm ne_dr_wc
  have ne_dr_ol : nq dr ol := pw_ne hap 3 14 (by decide) (Nat.le_of_ble_eq_true rfl)
  have ne_ol_dr : nq ol dr := Ne.symm ne_dr_ol
  have ne_dr_al : nq dr al := pw_ne hap 3 15 (by decide) (Nat.le_of_ble_eq_true rfl)
  have ne_al_dr : nq al dr := Ne.symm ne_dr_al
  have ne_en_la : nq en la := pw_ne hap 4 5 (by decide) (Nat.le_of_ble_eq_true rfl)
  have ne_la_en : nq la en := Ne.symm ne_en_la
  have ne_en_wo : nq en wo := pw_ne hap 4 6 (by decide) (Nat.le_of_ble_eq_true rfl)
  have ne_wo_en : nq wo en := Ne.symm ne_en_wo
  have ne_en_op : nq en op := pw_ne hap 4 7 (by decide) (Nat.le_of_ble_eq_true rfl)
  have ne_op_en : nq op en := Ne.symm ne_en_op
  have ne_en_mk : nq en mk := pw_ne hap 4 8 (by decide) (Nat.le_of_ble_eq_true rfl)
  have ne_mk_en : nq mk en := Ne.symm ne_en_mk
  have ne_en_ir : nq en ir := pw_ne hap 4 9 (by decide) (Nat.le_of_ble_eq_true rfl)
  have ne_ir_en : nq ir en := Ne.symm ne_en_ir
  have ne_en_se : nq en se := pw_ne hap 4 10 (by decide) (Nat.le_of_ble_eq_true rfl)
  have ne_se_en : nq se en := Ne.symm ne_en_se
  have ne_en_ec : nq en ec := pw_ne hap 4 11 (by decide) (Nat.le_of_ble_eq_true rfl)
  have ne_ec_en : nq ec en := Ne.symm ne_en_ec
  have ne_en_lc : nq en lc := pw_ne hap 4 12 (by decide) (Nat.le_of_ble_eq_true rfl)
  have ne_lc_en : nq lc en := Ne.symm ne_en_lc
  have ne_en_wc : nq en wc := pw_ne hap 4 13 (by decide) (Nat.le_of_ble_eq_true rfl)
  have ne_wc_en : nq wc en := Ne.symm ne_en_wc
  have ne_en_ol : nq en ol := pw_ne hap 4 14 (by decide) (Nat.le_of_ble_eq_true rfl)
  have ne_ol_en : nq ol en := Ne.symm ne_en_ol
  have ne_en_al : nq en al := pw_ne hap 4 15 (by decide) (Nat.le_of_ble_eq_true rfl)
  have ne_al_en : nq al en := Ne.symm ne_en_al
  have ne_la_wo : nq la wo := pw_ne hap 5 6 (by decide) (Nat.le_of_ble_eq_true rfl)
  have ne_wo_la : nq wo la := Ne.symm ne_la_wo
  have ne_la_op : nq la op := pw_ne hap 5 7 (by decide) (Nat.le_of_ble_eq_true rfl)
  have ne_op_la : nq op la := Ne.symm ne_la_op
  have ne_la_mk : nq la mk := pw_ne hap 5 8 (by decide) (Nat.le_of_ble_eq_true rfl)
  have ne_mk_la : nq mk la := Ne.symm ne_la_mk
  have ne_la_ir : nq la ir := pw_ne hap 5 9 (by decide) (Nat.le_of_ble_eq_true rfl)
  have ne_ir_la : nq ir la := Ne.symm ne_la_ir
  have ne_la_se : nq la se := pw_ne hap 5 10 (by decide) (Nat.le_of_ble_eq_true rfl)
  have ne_se_la : nq se la := Ne.symm ne_la_se
  have ne_la_ec : nq la ec := pw_ne hap 5 11 (by decide) (Nat.le_of_ble_eq_true rfl)
  have ne_ec_la : nq ec la := Ne.symm ne_la_ec
  have ne_la_lc : nq la lc := pw_ne hap 5 12 (by decide) (Nat.le_of_ble_eq_true rfl)
  have ne_lc_la : nq lc la := Ne.symm ne_la_lc
  have ne_la_wc : nq la wc := pw_ne hap 5 13 (by decide) (Nat.le_of_ble_eq_true rfl)
  have ne_wc_la : nq wc la := Ne.symm ne_la_wc
  have ne_la_ol : nq la ol := pw_ne hap 5 14 (by decide) (Nat.le_of_ble_eq_true rfl)
  have ne_ol_la : nq ol la := Ne.symm ne_la_ol
  have ne_la_al : nq la al := pw_ne hap 5 15 (by decide) (Nat.le_of_ble_eq_true rfl)
  have ne_al_la : nq al la := Ne.symm ne_la_al
  have ne_wo_op : nq wo op := pw_ne hap 6 7 (by decide) (Nat.le_of_ble_eq_true rfl)
  have ne_op_wo : nq op wo := Ne.symm ne_wo_op
  have ne_wo_mk : nq wo mk := pw_ne hap 6 8 (by decide) (Nat.le_of_ble_eq_true rfl)
  have ne_mk_wo : nq mk wo := Ne.symm ne_wo_mk
  have ne_wo_ir : nq wo ir := pw_ne hap 6 9 (by decide) (Nat.le_of_ble_eq_true rfl)
  have ne_ir_wo : nq ir wo := Ne.symm ne_wo_ir
  have ne_wo_se : nq wo se := pw_ne hap 6 10 (by decide) (Nat.le_of_ble_eq_true rfl)
  have ne_se_wo : nq se wo := Ne.symm ne_wo_se
  have ne_wo_ec : nq wo ec := pw_ne hap 6 11 (by decide) (Nat.le_of_ble_eq_true rfl)
  have ne_ec_wo : nq ec wo := Ne.symm ne_wo_ec
  have ne_wo_lc : nq wo lc := pw_ne hap 6 12 (by decide) (Nat.le_of_ble_eq_true rfl)
  have ne_lc_wo : nq lc wo := Ne.symm ne_wo_lc
  have ne_wo_wc : nq wo wc := pw_ne hap 6 13 (by decide) (Nat.le_of_ble_eq_true rfl)
  have ne_wc_wo : nq wc wo := Ne.symm ne_wo_wc
  have ne_wo_ol : nq wo ol := pw_ne hap 6 14 (by decide) (Nat.le_of_ble_eq_true rfl)
  have ne_ol_wo : nq ol wo := Ne.symm ne_wo_ol
  have ne_wo_al : nq wo al := pw_ne hap 6 15 (by decide) (Nat.le_of_ble_eq_true rfl)
  have ne_al_wo : nq al wo := Ne.symm ne_wo_al
  have ne_op_mk : nq op mk := pw_ne hap 7 8 (by decide) (Nat.le_of_ble_eq_true rfl)
  have ne_mk_op : nq mk op := Ne.symm ne_op_mk
  have ne_op_ir : nq op ir := pw_ne hap 7 9 (by decide) (Nat.le_of_ble_eq_true rfl)
  have ne_ir_op : nq ir op := Ne.symm ne_op_ir
  have ne_op_se : nq op se := pw_ne hap 7 10 (by decide) (Nat.le_of_ble_eq_true rfl)
  have ne_se_op : nq se op := Ne.symm ne_op_se
  have ne_op_ec : nq op ec := pw_ne hap 7 11 (by decide) (Nat.le_of_ble_eq_true rfl)
  have ne_ec_op : nq ec op := Ne.symm ne_op_ec
  have ne_op_lc : nq op lc := pw_ne hap 7 12 (by decide) (Nat.le_of_ble_eq_true rfl)
  have ne_lc_op : nq lc op := Ne.symm ne_op_lc
  have ne_op_wc : nq op wc := pw_ne hap 7 13 (by decide) (Nat.le_of_ble_eq_true rfl)
  have ne_wc_op : nq wc op := Ne.symm ne_op_wc
  have ne_op_ol : nq op ol := pw_ne hap 7 14 (by decide) (Nat.le_of_ble_eq_true rfl)
  have ne_ol_op : nq ol op := Ne.symm ne_op_ol
  have ne_op_al : nq op al := pw_ne hap 7 15 (by decide) (Nat.le_of_ble_eq_true rfl)
  have ne_al_op : nq al op := Ne.symm ne_op_al
  have ne_mk_ir : nq mk ir := pw_ne hap 8 9 (by decide) (Nat.le_of_ble_eq_true rfl)
  have ne_ir_mk : nq ir mk := Ne.symm ne_mk_ir
  have ne_mk_se : nq mk se := pw_ne hap 8 10 (by decide) (Nat.le_of_ble_eq_true rfl)
  have ne_se_mk : nq se mk := Ne.symm ne_mk_se
  have ne_mk_ec : nq mk ec := pw_ne hap 8 11 (by decide) (Nat.le_of_ble_eq_true rfl)
  have ne_ec_mk : nq ec mk := Ne.symm ne_mk_ec
  have ne_mk_lc : nq mk lc := pw_ne hap 8 12 (by decide) (Nat.le_of_ble_eq_true rfl)
  have ne_lc_mk : nq lc mk := Ne.symm ne_mk_lc
  have ne_mk_wc : nq mk wc := pw_ne hap 8 13 (by decide) (Nat.le_of_ble_eq_true rfl)
  have ne_wc_mk : nq wc mk := Ne.symm ne_mk_wc
  have ne_mk_ol : nq mk ol := pw_ne hap 8 14 (by decide) (Nat.le_of_ble_eq_true rfl)
  have ne_ol_mk : nq ol mk := Ne.symm ne_mk_ol
  have ne_mk_al : nq mk al := pw_ne hap 8 15 (by decide) (Nat.le_of_ble_eq_true rfl)
  have ne_al_mk : nq al mk := Ne.symm ne_mk_al
  have ne_ir_se : nq ir se := pw_ne hap 9 10 (by decide) (Nat.le_of_ble_eq_true rfl)
  have ne_se_ir : nq se ir := Ne.symm ne_ir_se
  have ne_ir_ec : nq ir ec := pw_ne hap 9 11 (by decide) (Nat.le_of_ble_eq_true rfl)
  have ne_ec_ir : nq ec ir := Ne.symm ne_ir_ec
  have ne_ir_lc : nq ir lc := pw_ne hap 9 12 (by decide) (Nat.le_of_ble_eq_true rfl)
  have ne_lc_ir : nq lc ir := Ne.symm ne_ir_lc
  have ne_ir_wc : nq ir wc := pw_ne hap 9 13 (by decide) (Nat.le_of_ble_eq_true rfl)
  have ne_wc_ir : nq wc ir := Ne.symm ne_ir_wc
  have ne_ir_ol : nq ir ol := pw_ne hap 9 14 (by decide) (Nat.le_of_ble_eq_true rfl)
  have ne_ol_ir : nq ol ir := Ne.symm ne_ir_ol
  have ne_ir_al : nq ir al := pw_ne hap 9 15 (by decide) (Nat.le_of_ble_eq_true rfl)
  have ne_al_ir : nq al ir := Ne.symm ne_ir_al
  have ne_se_ec : nq se ec := pw_ne hap 10 11 (by decide) (Nat.le_of_ble_eq_true rfl)
  have ne_ec_se : nq ec se := Ne.symm ne_se_ec
  have ne_se_lc : nq se lc := pw_ne hap 10 12 (by decide) (Nat.le_of_ble_eq_true rfl)
  have ne_lc_se : nq lc se := Ne.symm ne_se_lc
  have ne_se_wc : nq se wc := pw_ne hap 10 13 (by decide) (Nat.le_of_ble_eq_true rfl)
  have ne_wc_se : nq wc se := Ne.symm ne_se_wc
  have ne_se_ol : nq se ol := pw_ne hap 10 14 (by decide) (Nat.le_of_ble_eq_true rfl)
  have ne_ol_se : nq ol se := Ne.symm ne_se_ol
  have ne_se_al : nq se al := pw_ne hap 10 15 (by decide) (Nat.le_of_ble_eq_true rfl)
  have ne_al_se : nq al se := Ne.symm ne_se_al
  have ne_ec_lc : nq ec lc := pw_ne hap 11 12 (by decide) (Nat.le_of_ble_eq_true rfl)
  have ne_lc_ec : nq lc ec := Ne.symm ne_ec_lc
  have ne_ec_wc : nq ec wc := pw_ne hap 11 13 (by decide) (Nat.le_of_ble_eq_true rfl)
  have ne_wc_ec : nq wc ec := Ne.symm ne_ec_wc
  have ne_ec_ol : nq ec ol := pw_ne hap 11 14 (by decide) (Nat.le_of_ble_eq_true rfl)
  have ne_ol_ec : nq ol ec := Ne.symm ne_ec_ol
  have ne_ec_al : nq ec al := pw_ne hap 11 15 (by decide) (Nat.le_of_ble_eq_true rfl)
  have ne_al_ec : nq al ec := Ne.symm ne_ec_al
  have ne_lc_wc : nq lc wc := pw_ne hap 12 13 (by decide) (Nat.le_of_ble_eq_true rfl)
  have ne_wc_lc : nq wc lc := Ne.symm ne_lc_wc
  have ne_lc_ol : nq lc ol := pw_ne hap 12 14 (by decide) (Nat.le_of_ble_eq_true rfl)
  have ne_ol_lc : nq ol lc := Ne.symm ne_lc_ol
  have ne_lc_al : nq lc al := pw_ne hap 12 15 (by decide) (Nat.le_of_ble_eq_true rfl)
  have ne_al_lc : nq al lc := Ne.symm ne_lc_al
  have ne_wc_ol : nq wc ol := pw_ne hap 13 14 (by decide) (Nat.le_of_ble_eq_true rfl)
  have ne_ol_wc : nq ol wc := Ne.symm ne_wc_ol
  have ne_wc_al : nq wc al := pw_ne hap 13 15 (by decide) (Nat.le_of_ble_eq_true rfl)
  have ne_al_wc : nq al wc := Ne.symm ne_wc_al
  have ne_ol_al : nq ol al := pw_ne hap 14 15 (by decide) (Nat.le_of_ble_eq_true rfl)
  have ne_al_ol : nq al ol := Ne.symm ne_ol_al
  have hkp : kpx (fun a => a ∈ [ir]) M M := kpx.refl _ _
  refine lv_aload_n hx hb dX6_parentOf_0 rfl (lv_at hl 0 rfl) ?_
  refine lv_iload_n hx hb dX6_parentOf_1 rfl (lv_at hl 1 rfl) ?_
  refine lv_iload_n hx hb dX6_parentOf_2 rfl (lv_at hl 2 rfl) ?_
  refine lv_iconst (v := 4) hx hb dX6_parentOf_3 (by decide) ?_
  refine lv_ishr hx hb dX6_parentOf_4 ?_
  have hI0 : mI k M mo cn ia dr en la wo op mk ir se ec lc wc ol al dn md := ⟨_, _, _, _, _, _, _, fcn, fia, fdr, fen, fla, fwo, fop, fmk, fir, fse, fec, flc, fol, fal, fwc, hap, hM, hmd, ⟨hrC, hrL, hrM⟩, hcn, hia, hdr, hen, hla, hwo, hop, hmk, hir, hse, hec, hlc, hwc, hol, hal⟩
  refine m_kV (As := [.int (nI t9), .int (path >>> (4 &&& 31))]) (rest := []) (rm := { frames := 3, cells := 0, slots := 0, locals := 72 }) ⟨hx, hb, hml, hown, hts⟩ (x_X6_lookUp l D k z _ mo cn ia dr en la wo op mk ir se ec lc wc ol al dn md t9 (by omega) (path >>> (4 &&& 31)) hI0) (cwV 2 hts gX6_parentOf_X6_lookUp rfl rfl rfl (by decide +kernel) ⟨Nat.le_of_ble_eq_true rfl, Nat.le_of_ble_eq_true rfl⟩) (m_recv hK hm (q := (RX6, TX6, 24)) rfl hM) hz hcx hm hS rfl hl.1 rfl (Nat.le_of_ble_eq_true rfl) dX6_parentOf_5 ⟨Nat.le_of_ble_eq_true rfl, Nat.le_of_ble_eq_true rfl⟩ (fun v M1 H locs hv hm hS => ?_)
  obtain ⟨hv1, hI9, hk9⟩ := hv
  obtain ⟨_, _, _, _, _, _, _, _, _, _, _, _, _, _, _, fir_1, _, _, _, _, _, _, -, -, hmd_1, ⟨-, -, -⟩, -, -, -, -, -, -, -, -, hir_1, -, -, -, -, -, -⟩ := id hI9
  have kmo_1 := hk9 _ _ (by simp only [List.mem_cons, List.not_mem_nil, or_false, not_or]; exact ne_mo_ir) hM
  have kcn_1 := hk9 _ _ (by simp only [List.mem_cons, List.not_mem_nil, or_false, not_or]; exact ne_cn_ir) hcn
  have kia_1 := hk9 _ _ (by simp only [List.mem_cons, List.not_mem_nil, or_false, not_or]; exact ne_ia_ir) hia
  have kdr_1 := hk9 _ _ (by simp only [List.mem_cons, List.not_mem_nil, or_false, not_or]; exact ne_dr_ir) hdr
  have ken_1 := hk9 _ _ (by simp only [List.mem_cons, List.not_mem_nil, or_false, not_or]; exact ne_en_ir) hen
  have kla_1 := hk9 _ _ (by simp only [List.mem_cons, List.not_mem_nil, or_false, not_or]; exact ne_la_ir) hla
  have kwo_1 := hk9 _ _ (by simp only [List.mem_cons, List.not_mem_nil, or_false, not_or]; exact ne_wo_ir) hwo
  have kop_1 := hk9 _ _ (by simp only [List.mem_cons, List.not_mem_nil, or_false, not_or]; exact ne_op_ir) hop
  have kmk_1 := hk9 _ _ (by simp only [List.mem_cons, List.not_mem_nil, or_false, not_or]; exact ne_mk_ir) hmk
  have kse_1 := hk9 _ _ (by simp only [List.mem_cons, List.not_mem_nil, or_false, not_or]; exact ne_se_ir) hse
  have kec_1 := hk9 _ _ (by simp only [List.mem_cons, List.not_mem_nil, or_false, not_or]; exact ne_ec_ir) hec
  have klc_1 := hk9 _ _ (by simp only [List.mem_cons, List.not_mem_nil, or_false, not_or]; exact ne_lc_ir) hlc
  have kwc_1 := hk9 _ _ (by simp only [List.mem_cons, List.not_mem_nil, or_false, not_or]; exact ne_wc_ir) hwc
  have kol_1 := hk9 _ _ (by simp only [List.mem_cons, List.not_mem_nil, or_false, not_or]; exact ne_ol_ir) hol
  have kal_1 := hk9 _ _ (by simp only [List.mem_cons, List.not_mem_nil, or_false, not_or]; exact ne_al_ir) hal
  have hkp := hkp.trans (hk9.mono (fun a ha => by simp only [List.mem_cons, List.not_mem_nil, or_false] at ha ⊢; subst ha; simp))
  obtain ⟨Mc1, hMx⟩ : ∃ x : mM, x = M1 := ⟨M1, rfl⟩
  subst hMx
  obtain ⟨f101, hv1, hf101, hfq101⟩ := hv1
  subst hv1
  rcases hf101 with hf101 | ⟨nb101, hb101a, hb101b, hf101⟩
  · subst hf101
    refine W.eq (g2 := F0 m 8 ls [.int (-1)]) rfl ?_
    refine W.widen (k := 0) (n := 0) (Nat.le_of_ble_eq_true rfl) (Nat.le_of_ble_eq_true rfl) ?_
    have hm : mm D (AZ z) Mc1 H := hm
    refine W.iret (v := (-1)) hx hb hr (fun t ht hW => ⟨⟨some (.int (-1)), _, rfl, ?_, by rw [ht]; exact hm⟩, hS.F ht⟩) hS.2.2 dX6_parentOf_8
    exact ⟨⟨_, rfl, Or.inl rfl⟩, ⟨_, _, _, _, _, _, _, fcn, fia, fdr, fen, fla, fwo, fop, fmk, fir_1, fse, fec, flc, fol, fal, fwc, hap, kmo_1, hmd, ⟨hrC, hrL, hrM⟩, kcn_1, kia_1, kdr_1, ken_1, kla_1, kwo_1, kop_1, kmk_1, hir_1, kse_1, kec_1, klc_1, kwc_1, kol_1, kal_1⟩, hkp⟩
  · subst hf101
    refine W.eq (g2 := F0 m 8 ls [.int (nI nb101)]) rfl ?_
    refine W.widen (k := 0) (n := 0) (Nat.le_of_ble_eq_true rfl) (Nat.le_of_ble_eq_true rfl) ?_
    have hm : mm D (AZ z) Mc1 H := hm
    refine W.iret (v := (nI nb101)) hx hb hr (fun t ht hW => ⟨⟨some (.int (nI nb101)), _, rfl, ?_, by rw [ht]; exact hm⟩, hS.F ht⟩) hS.2.2 dX6_parentOf_8
    exact ⟨⟨_, rfl, Or.inr ⟨nb101, by omega, by omega, rfl⟩⟩, ⟨_, _, _, _, _, _, _, fcn, fia, fdr, fen, fla, fwo, fop, fmk, fir_1, fse, fec, flc, fol, fal, fwc, hap, kmo_1, hmd, ⟨hrC, hrL, hrM⟩, kcn_1, kia_1, kdr_1, ken_1, kla_1, kwo_1, kop_1, kmk_1, hir_1, kse_1, kec_1, klc_1, kwc_1, kol_1, kal_1⟩, hkp⟩

set_option maxHeartbeats 4000000 in
set_option maxRecDepth 100000 in
theorem s_X6_make0 (l : Launch) (D : va_G) (k : Nat → ClassId) (z : Nat) (M : mM) (mo cn ia dr en la wo op mk ir se ec lc wc ol al : Nat) (dn md : Int32)  (tq path : Int32) (hbd : md ≠ 0 → dn ≠ 0) (hI : mI k M mo cn ia dr en la wo op mk ir se ec lc wc ol al dn md) : mK l yX6_make wsX6_make ({ frames := 5, cells := 0, slots := 0, locals := 119 }) D k z [.ref mo, .int tq, .int path, .int 0] M (fun v M' => (v = none) ∧ mI k M' mo cn ia dr en la wo op mk ir se ec lc wc ol al dn md ∧ kpx (fun a => a ∈ [mo, cn, ia, dr, en, la, wo, op, mk, ir, se, ec, lc, wc, ol, al]) M M') := by
  refine Met.ofW (cc := cX6_make) (maxL := 10) (ret := none) (by decide) rfl ?_
  intro p e s m args below meth c s₁ B hml hv
  obtain ⟨rfl, hz, hcx, hm⟩ := hv
  have hx := B.exec
  have hb := B.bytes
  have hr := B.returns
  have hts := atoms_spec (ws := wsX6_make) B.pre
  have hown : s.vm.findClass RX6 = some m.cls := findClass_of_methodNamed B.named
  have hlocks := B.notSynchronized
  have hK := hcx.1
  have hS : va_S (AZ z) s.heap s.heap [] := va_S.rf
  have hA : ∀ q, s.heap.size ≤ q → AZ z q := fun q h => Nat.le_trans hz h
  have hl := lv_entry ([.ref mo, .int tq, .int path, .int 0]) (n := 10) (Nat.le_of_ble_eq_true rfl)
  rw [lg_entry_eq]
  generalize (lg_sl ([.ref mo, .int tq, .int path, .int 0]) ++ List.replicate (10 - (lg_sl ([.ref mo, .int tq, .int path, .int 0])).length) Slot.unset).toArray = ls at hl ⊢
  have hl : lv_has ls 10 [(0, .ref mo), (1, .int tq), (2, .int path), (3, .int 0)] := hl
  have f7 := hts (.fieldLink RX6 7 "CommitTreeModel" "counts" "[I") (by decide +kernel)
  have f13 := hts (.fieldLink RX6 13 "CommitTreeModel" "ids" "[I") (by decide +kernel)
  have f16 := hts (.fieldLink RX6 16 "CommitTreeModel" "dirs" "[Z") (by decide +kernel)
  have f21 := hts (.fieldLink RX6 21 "CommitTreeModel" "entries" "[I") (by decide +kernel)
  have f24 := hts (.fieldLink RX6 24 "CommitTreeModel" "lengths" "[I") (by decide +kernel)
  have f28 := hts (.fieldLink RX6 28 "CommitTreeModel" "words" "[I") (by decide +kernel)
  have f31 := hts (.fieldLink RX6 31 "CommitTreeModel" "nextId" "I") (by decide +kernel)
  have wX6 : ∀ w ∈ wsX60, w ∈ wsX6_make := by decide +kernel
  obtain ⟨cd, ni, pw, cm, wr, cs, hm9, fcn, fia, fdr, fen, fla, fwo, fop, fmk, fir, fse, fec, flc, fol, fal, fwc, hap, hM, hmd, ⟨hrC, hrL, hrM⟩, hcn, hia, hdr, hen, hla, hwo, hop, hmk, hir, hse, hec, hlc, hwc, hol, hal⟩ := id hI
  have ne_mo_cn : nq mo cn := pw_ne hap 0 1 (by decide) (Nat.le_of_ble_eq_true rfl)
  have ne_cn_mo : nq cn mo := Ne.symm ne_mo_cn
  have ne_mo_ia : nq mo ia := pw_ne hap 0 2 (by decide) (Nat.le_of_ble_eq_true rfl)
  have ne_ia_mo : nq ia mo := Ne.symm ne_mo_ia
  have ne_mo_dr : nq mo dr := pw_ne hap 0 3 (by decide) (Nat.le_of_ble_eq_true rfl)
  have ne_dr_mo : nq dr mo := Ne.symm ne_mo_dr
  have ne_mo_en : nq mo en := pw_ne hap 0 4 (by decide) (Nat.le_of_ble_eq_true rfl)
  have ne_en_mo : nq en mo := Ne.symm ne_mo_en
  have ne_mo_la : nq mo la := pw_ne hap 0 5 (by decide) (Nat.le_of_ble_eq_true rfl)
  have ne_la_mo : nq la mo := Ne.symm ne_mo_la
  have ne_mo_wo : nq mo wo := pw_ne hap 0 6 (by decide) (Nat.le_of_ble_eq_true rfl)
  have ne_wo_mo : nq wo mo := Ne.symm ne_mo_wo
  have ne_mo_op : nq mo op := pw_ne hap 0 7 (by decide) (Nat.le_of_ble_eq_true rfl)
  have ne_op_mo : nq op mo := Ne.symm ne_mo_op
  have ne_mo_mk : nq mo mk := pw_ne hap 0 8 (by decide) (Nat.le_of_ble_eq_true rfl)
  have ne_mk_mo : nq mk mo := Ne.symm ne_mo_mk
  have ne_mo_ir : nq mo ir := pw_ne hap 0 9 (by decide) (Nat.le_of_ble_eq_true rfl)
  have ne_ir_mo : nq ir mo := Ne.symm ne_mo_ir
  have ne_mo_se : nq mo se := pw_ne hap 0 10 (by decide) (Nat.le_of_ble_eq_true rfl)
  have ne_se_mo : nq se mo := Ne.symm ne_mo_se
  have ne_mo_ec : nq mo ec := pw_ne hap 0 11 (by decide) (Nat.le_of_ble_eq_true rfl)
  have ne_ec_mo : nq ec mo := Ne.symm ne_mo_ec
  have ne_mo_lc : nq mo lc := pw_ne hap 0 12 (by decide) (Nat.le_of_ble_eq_true rfl)
  have ne_lc_mo : nq lc mo := Ne.symm ne_mo_lc
  have ne_mo_wc : nq mo wc := pw_ne hap 0 13 (by decide) (Nat.le_of_ble_eq_true rfl)
  have ne_wc_mo : nq wc mo := Ne.symm ne_mo_wc
  have ne_mo_ol : nq mo ol := pw_ne hap 0 14 (by decide) (Nat.le_of_ble_eq_true rfl)
  have ne_ol_mo : nq ol mo := Ne.symm ne_mo_ol
  have ne_mo_al : nq mo al := pw_ne hap 0 15 (by decide) (Nat.le_of_ble_eq_true rfl)
  have ne_al_mo : nq al mo := Ne.symm ne_mo_al
  have ne_cn_ia : nq cn ia := pw_ne hap 1 2 (by decide) (Nat.le_of_ble_eq_true rfl)
  have ne_ia_cn : nq ia cn := Ne.symm ne_cn_ia
  have ne_cn_dr : nq cn dr := pw_ne hap 1 3 (by decide) (Nat.le_of_ble_eq_true rfl)
  have ne_dr_cn : nq dr cn := Ne.symm ne_cn_dr
  have ne_cn_en : nq cn en := pw_ne hap 1 4 (by decide) (Nat.le_of_ble_eq_true rfl)
  have ne_en_cn : nq en cn := Ne.symm ne_cn_en
  have ne_cn_la : nq cn la := pw_ne hap 1 5 (by decide) (Nat.le_of_ble_eq_true rfl)
  have ne_la_cn : nq la cn := Ne.symm ne_cn_la
  have ne_cn_wo : nq cn wo := pw_ne hap 1 6 (by decide) (Nat.le_of_ble_eq_true rfl)
  have ne_wo_cn : nq wo cn := Ne.symm ne_cn_wo
  have ne_cn_op : nq cn op := pw_ne hap 1 7 (by decide) (Nat.le_of_ble_eq_true rfl)
  have ne_op_cn : nq op cn := Ne.symm ne_cn_op
  have ne_cn_mk : nq cn mk := pw_ne hap 1 8 (by decide) (Nat.le_of_ble_eq_true rfl)
  have ne_mk_cn : nq mk cn := Ne.symm ne_cn_mk
  have ne_cn_ir : nq cn ir := pw_ne hap 1 9 (by decide) (Nat.le_of_ble_eq_true rfl)
  have ne_ir_cn : nq ir cn := Ne.symm ne_cn_ir
  have ne_cn_se : nq cn se := pw_ne hap 1 10 (by decide) (Nat.le_of_ble_eq_true rfl)
  have ne_se_cn : nq se cn := Ne.symm ne_cn_se
  have ne_cn_ec : nq cn ec := pw_ne hap 1 11 (by decide) (Nat.le_of_ble_eq_true rfl)
  have ne_ec_cn : nq ec cn := Ne.symm ne_cn_ec
  have ne_cn_lc : nq cn lc := pw_ne hap 1 12 (by decide) (Nat.le_of_ble_eq_true rfl)
  have ne_lc_cn : nq lc cn := Ne.symm ne_cn_lc
  have ne_cn_wc : nq cn wc := pw_ne hap 1 13 (by decide) (Nat.le_of_ble_eq_true rfl)
  have ne_wc_cn : nq wc cn := Ne.symm ne_cn_wc
  have ne_cn_ol : nq cn ol := pw_ne hap 1 14 (by decide) (Nat.le_of_ble_eq_true rfl)
  have ne_ol_cn : nq ol cn := Ne.symm ne_cn_ol
  have ne_cn_al : nq cn al := pw_ne hap 1 15 (by decide) (Nat.le_of_ble_eq_true rfl)
  have ne_al_cn : nq al cn := Ne.symm ne_cn_al
  have ne_ia_dr : nq ia dr := pw_ne hap 2 3 (by decide) (Nat.le_of_ble_eq_true rfl)
  have ne_dr_ia : nq dr ia := Ne.symm ne_ia_dr
  have ne_ia_en : nq ia en := pw_ne hap 2 4 (by decide) (Nat.le_of_ble_eq_true rfl)
  have ne_en_ia : nq en ia := Ne.symm ne_ia_en
  have ne_ia_la : nq ia la := pw_ne hap 2 5 (by decide) (Nat.le_of_ble_eq_true rfl)
  have ne_la_ia : nq la ia := Ne.symm ne_ia_la
  have ne_ia_wo : nq ia wo := pw_ne hap 2 6 (by decide) (Nat.le_of_ble_eq_true rfl)
  have ne_wo_ia : nq wo ia := Ne.symm ne_ia_wo
  have ne_ia_op : nq ia op := pw_ne hap 2 7 (by decide) (Nat.le_of_ble_eq_true rfl)
  have ne_op_ia : nq op ia := Ne.symm ne_ia_op
  have ne_ia_mk : nq ia mk := pw_ne hap 2 8 (by decide) (Nat.le_of_ble_eq_true rfl)
  have ne_mk_ia : nq mk ia := Ne.symm ne_ia_mk
  have ne_ia_ir : nq ia ir := pw_ne hap 2 9 (by decide) (Nat.le_of_ble_eq_true rfl)
  have ne_ir_ia : nq ir ia := Ne.symm ne_ia_ir
  have ne_ia_se : nq ia se := pw_ne hap 2 10 (by decide) (Nat.le_of_ble_eq_true rfl)
  have ne_se_ia : nq se ia := Ne.symm ne_ia_se
  have ne_ia_ec : nq ia ec := pw_ne hap 2 11 (by decide) (Nat.le_of_ble_eq_true rfl)
  have ne_ec_ia : nq ec ia := Ne.symm ne_ia_ec
  have ne_ia_lc : nq ia lc := pw_ne hap 2 12 (by decide) (Nat.le_of_ble_eq_true rfl)
  have ne_lc_ia : nq lc ia := Ne.symm ne_ia_lc
  have ne_ia_wc : nq ia wc := pw_ne hap 2 13 (by decide) (Nat.le_of_ble_eq_true rfl)
  have ne_wc_ia : nq wc ia := Ne.symm ne_ia_wc
  have ne_ia_ol : nq ia ol := pw_ne hap 2 14 (by decide) (Nat.le_of_ble_eq_true rfl)
  have ne_ol_ia : nq ol ia := Ne.symm ne_ia_ol
  have ne_ia_al : nq ia al := pw_ne hap 2 15 (by decide) (Nat.le_of_ble_eq_true rfl)
  have ne_al_ia : nq al ia := Ne.symm ne_ia_al
  have ne_dr_en : nq dr en := pw_ne hap 3 4 (by decide) (Nat.le_of_ble_eq_true rfl)
  have ne_en_dr : nq en dr := Ne.symm ne_dr_en
  have ne_dr_la : nq dr la := pw_ne hap 3 5 (by decide) (Nat.le_of_ble_eq_true rfl)
  have ne_la_dr : nq la dr := Ne.symm ne_dr_la
  have ne_dr_wo : nq dr wo := pw_ne hap 3 6 (by decide) (Nat.le_of_ble_eq_true rfl)
  have ne_wo_dr : nq wo dr := Ne.symm ne_dr_wo
  have ne_dr_op : nq dr op := pw_ne hap 3 7 (by decide) (Nat.le_of_ble_eq_true rfl)
  have ne_op_dr : nq op dr := Ne.symm ne_dr_op
  have ne_dr_mk : nq dr mk := pw_ne hap 3 8 (by decide) (Nat.le_of_ble_eq_true rfl)
  have ne_mk_dr : nq mk dr := Ne.symm ne_dr_mk
  have ne_dr_ir : nq dr ir := pw_ne hap 3 9 (by decide) (Nat.le_of_ble_eq_true rfl)
  have ne_ir_dr : nq ir dr := Ne.symm ne_dr_ir
  have ne_dr_se : nq dr se := pw_ne hap 3 10 (by decide) (Nat.le_of_ble_eq_true rfl)
  have ne_se_dr : nq se dr := Ne.symm ne_dr_se
  have ne_dr_ec : nq dr ec := pw_ne hap 3 11 (by decide) (Nat.le_of_ble_eq_true rfl)
  have ne_ec_dr : nq ec dr := Ne.symm ne_dr_ec
  have ne_dr_lc : nq dr lc := pw_ne hap 3 12 (by decide) (Nat.le_of_ble_eq_true rfl)
  have ne_lc_dr : nq lc dr := Ne.symm ne_dr_lc
  have ne_dr_wc : nq dr wc := pw_ne hap 3 13 (by decide) (Nat.le_of_ble_eq_true rfl)
  have ne_wc_dr : nq wc dr := Ne.symm ne_dr_wc
  have ne_dr_ol : nq dr ol := pw_ne hap 3 14 (by decide) (Nat.le_of_ble_eq_true rfl)
  have ne_ol_dr : nq ol dr := Ne.symm ne_dr_ol
  have ne_dr_al : nq dr al := pw_ne hap 3 15 (by decide) (Nat.le_of_ble_eq_true rfl)
  have ne_al_dr : nq al dr := Ne.symm ne_dr_al
  have ne_en_la : nq en la := pw_ne hap 4 5 (by decide) (Nat.le_of_ble_eq_true rfl)
  have ne_la_en : nq la en := Ne.symm ne_en_la
  have ne_en_wo : nq en wo := pw_ne hap 4 6 (by decide) (Nat.le_of_ble_eq_true rfl)
  have ne_wo_en : nq wo en := Ne.symm ne_en_wo
  have ne_en_op : nq en op := pw_ne hap 4 7 (by decide) (Nat.le_of_ble_eq_true rfl)
  have ne_op_en : nq op en := Ne.symm ne_en_op
  have ne_en_mk : nq en mk := pw_ne hap 4 8 (by decide) (Nat.le_of_ble_eq_true rfl)
  have ne_mk_en : nq mk en := Ne.symm ne_en_mk
  have ne_en_ir : nq en ir := pw_ne hap 4 9 (by decide) (Nat.le_of_ble_eq_true rfl)
  have ne_ir_en : nq ir en := Ne.symm ne_en_ir
  have ne_en_se : nq en se := pw_ne hap 4 10 (by decide) (Nat.le_of_ble_eq_true rfl)
  have ne_se_en : nq se en := Ne.symm ne_en_se
  have ne_en_ec : nq en ec := pw_ne hap 4 11 (by decide) (Nat.le_of_ble_eq_true rfl)
  have ne_ec_en : nq ec en := Ne.symm ne_en_ec
  have ne_en_lc : nq en lc := pw_ne hap 4 12 (by decide) (Nat.le_of_ble_eq_true rfl)
  have ne_lc_en : nq lc en := Ne.symm ne_en_lc
  have ne_en_wc : nq en wc := pw_ne hap 4 13 (by decide) (Nat.le_of_ble_eq_true rfl)
  have ne_wc_en : nq wc en := Ne.symm ne_en_wc
  have ne_en_ol : nq en ol := pw_ne hap 4 14 (by decide) (Nat.le_of_ble_eq_true rfl)
  have ne_ol_en : nq ol en := Ne.symm ne_en_ol
  have ne_en_al : nq en al := pw_ne hap 4 15 (by decide) (Nat.le_of_ble_eq_true rfl)
  have ne_al_en : nq al en := Ne.symm ne_en_al
  have ne_la_wo : nq la wo := pw_ne hap 5 6 (by decide) (Nat.le_of_ble_eq_true rfl)
  have ne_wo_la : nq wo la := Ne.symm ne_la_wo
  have ne_la_op : nq la op := pw_ne hap 5 7 (by decide) (Nat.le_of_ble_eq_true rfl)
  have ne_op_la : nq op la := Ne.symm ne_la_op
  have ne_la_mk : nq la mk := pw_ne hap 5 8 (by decide) (Nat.le_of_ble_eq_true rfl)
  have ne_mk_la : nq mk la := Ne.symm ne_la_mk
  have ne_la_ir : nq la ir := pw_ne hap 5 9 (by decide) (Nat.le_of_ble_eq_true rfl)
  have ne_ir_la : nq ir la := Ne.symm ne_la_ir
  have ne_la_se : nq la se := pw_ne hap 5 10 (by decide) (Nat.le_of_ble_eq_true rfl)
  have ne_se_la : nq se la := Ne.symm ne_la_se
  have ne_la_ec : nq la ec := pw_ne hap 5 11 (by decide) (Nat.le_of_ble_eq_true rfl)
  have ne_ec_la : nq ec la := Ne.symm ne_la_ec
  have ne_la_lc : nq la lc := pw_ne hap 5 12 (by decide) (Nat.le_of_ble_eq_true rfl)
  have ne_lc_la : nq lc la := Ne.symm ne_la_lc
  have ne_la_wc : nq la wc := pw_ne hap 5 13 (by decide) (Nat.le_of_ble_eq_true rfl)
  have ne_wc_la : nq wc la := Ne.symm ne_la_wc
  have ne_la_ol : nq la ol := pw_ne hap 5 14 (by decide) (Nat.le_of_ble_eq_true rfl)
  have ne_ol_la : nq ol la := Ne.symm ne_la_ol
  have ne_la_al : nq la al := pw_ne hap 5 15 (by decide) (Nat.le_of_ble_eq_true rfl)
  have ne_al_la : nq al la := Ne.symm ne_la_al
  have ne_wo_op : nq wo op := pw_ne hap 6 7 (by decide) (Nat.le_of_ble_eq_true rfl)
  have ne_op_wo : nq op wo := Ne.symm ne_wo_op
  have ne_wo_mk : nq wo mk := pw_ne hap 6 8 (by decide) (Nat.le_of_ble_eq_true rfl)
  have ne_mk_wo : nq mk wo := Ne.symm ne_wo_mk
  have ne_wo_ir : nq wo ir := pw_ne hap 6 9 (by decide) (Nat.le_of_ble_eq_true rfl)
  have ne_ir_wo : nq ir wo := Ne.symm ne_wo_ir
  have ne_wo_se : nq wo se := pw_ne hap 6 10 (by decide) (Nat.le_of_ble_eq_true rfl)
  have ne_se_wo : nq se wo := Ne.symm ne_wo_se
  have ne_wo_ec : nq wo ec := pw_ne hap 6 11 (by decide) (Nat.le_of_ble_eq_true rfl)
  have ne_ec_wo : nq ec wo := Ne.symm ne_wo_ec
  have ne_wo_lc : nq wo lc := pw_ne hap 6 12 (by decide) (Nat.le_of_ble_eq_true rfl)
  have ne_lc_wo : nq lc wo := Ne.symm ne_wo_lc
  have ne_wo_wc : nq wo wc := pw_ne hap 6 13 (by decide) (Nat.le_of_ble_eq_true rfl)
  have ne_wc_wo : nq wc wo := Ne.symm ne_wo_wc
  have ne_wo_ol : nq wo ol := pw_ne hap 6 14 (by decide) (Nat.le_of_ble_eq_true rfl)
  have ne_ol_wo : nq ol wo := Ne.symm ne_wo_ol
  have ne_wo_al : nq wo al := pw_ne hap 6 15 (by decide) (Nat.le_of_ble_eq_true rfl)
  have ne_al_wo : nq al wo := Ne.symm ne_wo_al
  have ne_op_mk : nq op mk := pw_ne hap 7 8 (by decide) (Nat.le_of_ble_eq_true rfl)
  have ne_mk_op : nq mk op := Ne.symm ne_op_mk
  have ne_op_ir : nq op ir := pw_ne hap 7 9 (by decide) (Nat.le_of_ble_eq_true rfl)
  have ne_ir_op : nq ir op := Ne.symm ne_op_ir
  have ne_op_se : nq op se := pw_ne hap 7 10 (by decide) (Nat.le_of_ble_eq_true rfl)
  have ne_se_op : nq se op := Ne.symm ne_op_se
  have ne_op_ec : nq op ec := pw_ne hap 7 11 (by decide) (Nat.le_of_ble_eq_true rfl)
  have ne_ec_op : nq ec op := Ne.symm ne_op_ec
  have ne_op_lc : nq op lc := pw_ne hap 7 12 (by decide) (Nat.le_of_ble_eq_true rfl)
  have ne_lc_op : nq lc op := Ne.symm ne_op_lc
  have ne_op_wc : nq op wc := pw_ne hap 7 13 (by decide) (Nat.le_of_ble_eq_true rfl)
  have ne_wc_op : nq wc op := Ne.symm ne_op_wc
  have ne_op_ol : nq op ol := pw_ne hap 7 14 (by decide) (Nat.le_of_ble_eq_true rfl)
  have ne_ol_op : nq ol op := Ne.symm ne_op_ol
  have ne_op_al : nq op al := pw_ne hap 7 15 (by decide) (Nat.le_of_ble_eq_true rfl)
  have ne_al_op : nq al op := Ne.symm ne_op_al
  have ne_mk_ir : nq mk ir := pw_ne hap 8 9 (by decide) (Nat.le_of_ble_eq_true rfl)
  have ne_ir_mk : nq ir mk := Ne.symm ne_mk_ir
  have ne_mk_se : nq mk se := pw_ne hap 8 10 (by decide) (Nat.le_of_ble_eq_true rfl)
  have ne_se_mk : nq se mk := Ne.symm ne_mk_se
  have ne_mk_ec : nq mk ec := pw_ne hap 8 11 (by decide) (Nat.le_of_ble_eq_true rfl)
  have ne_ec_mk : nq ec mk := Ne.symm ne_mk_ec
  have ne_mk_lc : nq mk lc := pw_ne hap 8 12 (by decide) (Nat.le_of_ble_eq_true rfl)
  have ne_lc_mk : nq lc mk := Ne.symm ne_mk_lc
  have ne_mk_wc : nq mk wc := pw_ne hap 8 13 (by decide) (Nat.le_of_ble_eq_true rfl)
  have ne_wc_mk : nq wc mk := Ne.symm ne_mk_wc
  have ne_mk_ol : nq mk ol := pw_ne hap 8 14 (by decide) (Nat.le_of_ble_eq_true rfl)
  have ne_ol_mk : nq ol mk := Ne.symm ne_mk_ol
  have ne_mk_al : nq mk al := pw_ne hap 8 15 (by decide) (Nat.le_of_ble_eq_true rfl)
  have ne_al_mk : nq al mk := Ne.symm ne_mk_al
  have ne_ir_se : nq ir se := pw_ne hap 9 10 (by decide) (Nat.le_of_ble_eq_true rfl)
  have ne_se_ir : nq se ir := Ne.symm ne_ir_se
  have ne_ir_ec : nq ir ec := pw_ne hap 9 11 (by decide) (Nat.le_of_ble_eq_true rfl)
  have ne_ec_ir : nq ec ir := Ne.symm ne_ir_ec
  have ne_ir_lc : nq ir lc := pw_ne hap 9 12 (by decide) (Nat.le_of_ble_eq_true rfl)
  have ne_lc_ir : nq lc ir := Ne.symm ne_ir_lc
  have ne_ir_wc : nq ir wc := pw_ne hap 9 13 (by decide) (Nat.le_of_ble_eq_true rfl)
  have ne_wc_ir : nq wc ir := Ne.symm ne_ir_wc
  have ne_ir_ol : nq ir ol := pw_ne hap 9 14 (by decide) (Nat.le_of_ble_eq_true rfl)
  have ne_ol_ir : nq ol ir := Ne.symm ne_ir_ol
  have ne_ir_al : nq ir al := pw_ne hap 9 15 (by decide) (Nat.le_of_ble_eq_true rfl)
  have ne_al_ir : nq al ir := Ne.symm ne_ir_al
  have ne_se_ec : nq se ec := pw_ne hap 10 11 (by decide) (Nat.le_of_ble_eq_true rfl)
  have ne_ec_se : nq ec se := Ne.symm ne_se_ec
  have ne_se_lc : nq se lc := pw_ne hap 10 12 (by decide) (Nat.le_of_ble_eq_true rfl)
  have ne_lc_se : nq lc se := Ne.symm ne_se_lc
  have ne_se_wc : nq se wc := pw_ne hap 10 13 (by decide) (Nat.le_of_ble_eq_true rfl)
  have ne_wc_se : nq wc se := Ne.symm ne_se_wc
  have ne_se_ol : nq se ol := pw_ne hap 10 14 (by decide) (Nat.le_of_ble_eq_true rfl)
  have ne_ol_se : nq ol se := Ne.symm ne_se_ol
  have ne_se_al : nq se al := pw_ne hap 10 15 (by decide) (Nat.le_of_ble_eq_true rfl)
  have ne_al_se : nq al se := Ne.symm ne_se_al
  have ne_ec_lc : nq ec lc := pw_ne hap 11 12 (by decide) (Nat.le_of_ble_eq_true rfl)
  have ne_lc_ec : nq lc ec := Ne.symm ne_ec_lc
  have ne_ec_wc : nq ec wc := pw_ne hap 11 13 (by decide) (Nat.le_of_ble_eq_true rfl)
  have ne_wc_ec : nq wc ec := Ne.symm ne_ec_wc
  have ne_ec_ol : nq ec ol := pw_ne hap 11 14 (by decide) (Nat.le_of_ble_eq_true rfl)
  have ne_ol_ec : nq ol ec := Ne.symm ne_ec_ol
  have ne_ec_al : nq ec al := pw_ne hap 11 15 (by decide) (Nat.le_of_ble_eq_true rfl)
  have ne_al_ec : nq al ec := Ne.symm ne_ec_al
  have ne_lc_wc : nq lc wc := pw_ne hap 12 13 (by decide) (Nat.le_of_ble_eq_true rfl)
  have ne_wc_lc : nq wc lc := Ne.symm ne_lc_wc
  have ne_lc_ol : nq lc ol := pw_ne hap 12 14 (by decide) (Nat.le_of_ble_eq_true rfl)
  have ne_ol_lc : nq ol lc := Ne.symm ne_lc_ol
  have ne_lc_al : nq lc al := pw_ne hap 12 15 (by decide) (Nat.le_of_ble_eq_true rfl)
  have ne_al_lc : nq al lc := Ne.symm ne_lc_al
  have ne_wc_ol : nq wc ol := pw_ne hap 13 14 (by decide) (Nat.le_of_ble_eq_true rfl)
  have ne_ol_wc : nq ol wc := Ne.symm ne_wc_ol
  have ne_wc_al : nq wc al := pw_ne hap 13 15 (by decide) (Nat.le_of_ble_eq_true rfl)
  have ne_al_wc : nq al wc := Ne.symm ne_wc_al
  have ne_ol_al : nq ol al := pw_ne hap 14 15 (by decide) (Nat.le_of_ble_eq_true rfl)
  have ne_al_ol : nq al ol := Ne.symm ne_ol_al
  have hkp : kpx (fun a => a ∈ [mo, cn, ia, dr, en, la, wo, op, mk, ir, se, ec, lc, wc, ol, al]) M M := kpx.refl _ _
  refine lv_aload_n hx hb dX6_make_0 rfl (lv_at hl 0 rfl) ?_
  refine lv_aload_n hx hb dX6_make_1 rfl (lv_at hl 0 rfl) ?_
  refine lv_iload_n hx hb dX6_make_2 rfl (lv_at hl 1 rfl) ?_
  refine m_kV (As := [.int tq]) (rest := [.ref mo]) (rm := { frames := 0, cells := 0, slots := 0, locals := 0 }) ⟨hx, hb, hml, hown, hts⟩ (s_X6_isOpen l D k z _ mo cn ia dr en la wo op mk ir se ec lc wc ol al dn md tq hI) (cwV 1 hts gX6_make_X6_isOpen rfl rfl rfl (by decide +kernel) ⟨Nat.le_of_ble_eq_true rfl, Nat.le_of_ble_eq_true rfl⟩) (m_recv hK hm (q := (RX6, TX6, 24)) rfl hM) hz hcx hm hS rfl hl.1 rfl (Nat.le_of_ble_eq_true rfl) dX6_make_3 ⟨Nat.le_of_ble_eq_true rfl, Nat.le_of_ble_eq_true rfl⟩ (fun v M1 H locs hv hm hS => ?_)
  obtain ⟨hv2, hM1⟩ := hv
  rw [hM1] at hm
  rcases hv2 with hv1 | ⟨hv1, hdn, t9, ht9, htE⟩
  · subst hv1
    refine W.eq (g2 := F0 m 6 ls [.int 0, .ref mo]) rfl ?_
    refine W.widen (k := 0) (n := 0) (Nat.le_of_ble_eq_true rfl) (Nat.le_of_ble_eq_true rfl) ?_
    have hm : mm D (AZ z) M H := hm
    refine lv_if_ne (tgt := 13) hx hb dX6_make_6 (by decide) (fun c1 => ?_) (fun c1 => ?_)
    · first | exact absurd c1 (by decide) | exact absurd (by decide) c1
    · refine lv_iconst (v := 1) hx hb dX6_make_9 (by decide) ?_
      refine lv_goto (tgt := 29) hx hb dX6_make_10 (by decide) ?_
      refine m_kV (As := [.int 1]) (rest := []) (rm := { frames := 0, cells := 0, slots := 0, locals := 0 }) ⟨hx, hb, hml, hown, hts⟩ (s_X6_failsE l D k z _ mo cn ia dr en la wo op mk ir se ec lc wc ol al cd ni dn md pw cm wr cs hm9 1 hM) (cwV 1 hts gX6_make_X6_fails rfl rfl rfl (by decide +kernel) ⟨Nat.le_of_ble_eq_true rfl, Nat.le_of_ble_eq_true rfl⟩) (m_recv hK hm (q := (RX6, TX6, 24)) rfl hM) hz hcx hm hS rfl hl.1 rfl (Nat.le_of_ble_eq_true rfl) dX6_make_29 ⟨Nat.le_of_ble_eq_true rfl, Nat.le_of_ble_eq_true rfl⟩ (fun v M1 H locs hv hm hS => ?_)
      obtain ⟨hv1, hM1⟩ := hv
      have hv1 : v = some (.int 1) := hv1.trans (by decide)
      subst hv1
      rw [hM1] at hm
      refine W.eq (g2 := F0 m 32 ls [.int 1]) rfl ?_
      refine W.widen (k := 0) (n := 0) (Nat.le_of_ble_eq_true rfl) (Nat.le_of_ble_eq_true rfl) ?_
      have hm : mm D (AZ z) (mu M mo (.inr (6, [.int 1, .ref cn, .ref ia, .ref dr, .ref en, .ref la, .ref wo, .int ni, .ref op, .ref mk, .ref ir, .int dn, .int md, .int pw, .int cm, .int wr, .ref se, .ref ec, .ref lc, .ref wc, .ref ol, .ref al, .int cs, .int hm9]))) H := hm
      have hkp : kpx (fun a => a ∈ [mo, cn, ia, dr, en, la, wo, op, mk, ir, se, ec, lc, wc, ol, al]) M (mu M mo (.inr (6, [.int 1, .ref cn, .ref ia, .ref dr, .ref en, .ref la, .ref wo, .int ni, .ref op, .ref mk, .ref ir, .int dn, .int md, .int pw, .int cm, .int wr, .ref se, .ref ec, .ref lc, .ref wc, .ref ol, .ref al, .int cs, .int hm9]))) := (hkp).self (by simp)
      refine lv_if_eq (tgt := 36) hx hb dX6_make_32 (by decide) (fun c2 => ?_) (fun c2 => ?_)
      · first | exact absurd c2 (by decide) | exact absurd (by decide) c2
      · refine W.vret hx hb hr (fun t ht hW => ⟨⟨none, _, rfl, ?_, by rw [ht]; exact hm⟩, hS.F ht⟩) hS.2.2 dX6_make_35
        exact ⟨rfl, ⟨_, _, _, _, _, _, _, fcn, fia, fdr, fen, fla, fwo, fop, fmk, fir, fse, fec, flc, fol, fal, fwc, hap, (mu_self _ _ _), hmd, ⟨hrC, hrL, hrM⟩, ((mu_ne ne_cn_mo).trans hcn), ((mu_ne ne_ia_mo).trans hia), ((mu_ne ne_dr_mo).trans hdr), ((mu_ne ne_en_mo).trans hen), ((mu_ne ne_la_mo).trans hla), ((mu_ne ne_wo_mo).trans hwo), ((mu_ne ne_op_mo).trans hop), ((mu_ne ne_mk_mo).trans hmk), ((mu_ne ne_ir_mo).trans hir), ((mu_ne ne_se_mo).trans hse), ((mu_ne ne_ec_mo).trans hec), ((mu_ne ne_lc_mo).trans hlc), ((mu_ne ne_wc_mo).trans hwc), ((mu_ne ne_ol_mo).trans hol), ((mu_ne ne_al_mo).trans hal)⟩, hkp⟩
  · subst hv1
    subst htE
    refine W.eq (g2 := F0 m 6 ls [.int 1, .ref mo]) rfl ?_
    refine W.widen (k := 0) (n := 0) (Nat.le_of_ble_eq_true rfl) (Nat.le_of_ble_eq_true rfl) ?_
    have hm : mm D (AZ z) M H := hm
    refine lv_if_ne (tgt := 13) hx hb dX6_make_6 (by decide) (fun c3 => ?_) (fun c3 => ?_)
    · refine lv_iload_n hx hb dX6_make_13 rfl (lv_at hl 2 rfl) ?_
      refine m_kS (As := [.int path]) (rest := [.ref mo]) (rm := { frames := 0, cells := 0, slots := 0, locals := 0 }) ⟨hx, hb, hml, hown, hts⟩ (c_X6_isPath l D k z _ path) (cwS 1 hts gX6_make_X6_isPath rfl rfl rfl (by decide +kernel) ⟨Nat.le_of_ble_eq_true rfl, Nat.le_of_ble_eq_true rfl⟩) hz hcx hm hS rfl hl.1 rfl (Nat.le_of_ble_eq_true rfl) dX6_make_14 ⟨Nat.le_of_ble_eq_true rfl, Nat.le_of_ble_eq_true rfl⟩ (fun v M1 H locs hv hm hS => ?_)
      obtain ⟨hv2, hM1⟩ := hv
      rw [hM1] at hm
      rcases hv2 with ⟨hp102, hv1⟩ | ⟨hp102, hv1⟩
      · subst hv1
        refine W.eq (g2 := F0 m 17 ls [.int 1, .ref mo]) rfl ?_
        refine W.widen (k := 0) (n := 0) (Nat.le_of_ble_eq_true rfl) (Nat.le_of_ble_eq_true rfl) ?_
        have hm : mm D (AZ z) M H := hm
        refine lv_if_eq (tgt := 24) hx hb dX6_make_17 (by decide) (fun c4 => ?_) (fun c4 => ?_)
        · first | exact absurd c4 (by decide) | exact absurd (by decide) c4
        · refine lv_iload_n hx hb dX6_make_20 rfl (lv_at hl 2 rfl) ?_
          refine lv_if_ne (tgt := 28) hx hb dX6_make_21 (by decide) (fun c5 => ?_) (fun c5 => ?_)
          · refine lv_iconst (v := 0) hx hb dX6_make_28 (by decide) ?_
            refine m_kV (As := [.int 0]) (rest := []) (rm := { frames := 0, cells := 0, slots := 0, locals := 0 }) ⟨hx, hb, hml, hown, hts⟩ (s_X6_failsE l D k z _ mo cn ia dr en la wo op mk ir se ec lc wc ol al cd ni dn md pw cm wr cs hm9 0 hM) (cwV 1 hts gX6_make_X6_fails rfl rfl rfl (by decide +kernel) ⟨Nat.le_of_ble_eq_true rfl, Nat.le_of_ble_eq_true rfl⟩) (m_recv hK hm (q := (RX6, TX6, 24)) rfl hM) hz hcx hm hS rfl hl.1 rfl (Nat.le_of_ble_eq_true rfl) dX6_make_29 ⟨Nat.le_of_ble_eq_true rfl, Nat.le_of_ble_eq_true rfl⟩ (fun v M1 H locs hv hm hS => ?_)
            obtain ⟨hv1, hM1⟩ := hv
            have hv1 : v = some (.int 0) := hv1.trans (by decide)
            subst hv1
            rw [hM1] at hm
            refine W.eq (g2 := F0 m 32 ls [.int 0]) rfl ?_
            refine W.widen (k := 0) (n := 0) (Nat.le_of_ble_eq_true rfl) (Nat.le_of_ble_eq_true rfl) ?_
            have hm : mm D (AZ z) (mu M mo (.inr (6, [.int 0, .ref cn, .ref ia, .ref dr, .ref en, .ref la, .ref wo, .int ni, .ref op, .ref mk, .ref ir, .int dn, .int md, .int pw, .int cm, .int wr, .ref se, .ref ec, .ref lc, .ref wc, .ref ol, .ref al, .int cs, .int hm9]))) H := hm
            have hkp : kpx (fun a => a ∈ [mo, cn, ia, dr, en, la, wo, op, mk, ir, se, ec, lc, wc, ol, al]) M (mu M mo (.inr (6, [.int 0, .ref cn, .ref ia, .ref dr, .ref en, .ref la, .ref wo, .int ni, .ref op, .ref mk, .ref ir, .int dn, .int md, .int pw, .int cm, .int wr, .ref se, .ref ec, .ref lc, .ref wc, .ref ol, .ref al, .int cs, .int hm9]))) := (hkp).self (by simp)
            refine lv_if_eq (tgt := 36) hx hb dX6_make_32 (by decide) (fun c6 => ?_) (fun c6 => ?_)
            · refine lv_aload_n hx hb dX6_make_36 rfl (lv_at hl 0 rfl) ?_
              refine lv_iload_n hx hb dX6_make_37 rfl (lv_at hl 1 rfl) ?_
              refine lv_iload_n hx hb dX6_make_38 rfl (lv_at hl 2 rfl) ?_
              have hI0 : mI k (mu M mo (.inr (6, [.int 0, .ref cn, .ref ia, .ref dr, .ref en, .ref la, .ref wo, .int ni, .ref op, .ref mk, .ref ir, .int dn, .int md, .int pw, .int cm, .int wr, .ref se, .ref ec, .ref lc, .ref wc, .ref ol, .ref al, .int cs, .int hm9]))) mo cn ia dr en la wo op mk ir se ec lc wc ol al dn md := ⟨_, _, _, _, _, _, _, fcn, fia, fdr, fen, fla, fwo, fop, fmk, fir, fse, fec, flc, fol, fal, fwc, hap, (mu_self _ _ _), hmd, ⟨hrC, hrL, hrM⟩, ((mu_ne ne_cn_mo).trans hcn), ((mu_ne ne_ia_mo).trans hia), ((mu_ne ne_dr_mo).trans hdr), ((mu_ne ne_en_mo).trans hen), ((mu_ne ne_la_mo).trans hla), ((mu_ne ne_wo_mo).trans hwo), ((mu_ne ne_op_mo).trans hop), ((mu_ne ne_mk_mo).trans hmk), ((mu_ne ne_ir_mo).trans hir), ((mu_ne ne_se_mo).trans hse), ((mu_ne ne_ec_mo).trans hec), ((mu_ne ne_lc_mo).trans hlc), ((mu_ne ne_wc_mo).trans hwc), ((mu_ne ne_ol_mo).trans hol), ((mu_ne ne_al_mo).trans hal)⟩
              refine m_kV (As := [.int (nI t9), .int path]) (rest := []) (rm := { frames := 4, cells := 0, slots := 0, locals := 97 }) ⟨hx, hb, hml, hown, hts⟩ (x_X6_parentOf l D k z _ mo cn ia dr en la wo op mk ir se ec lc wc ol al dn md t9 (by omega) path hI0) (cwV 2 hts gX6_make_X6_parentOf rfl rfl rfl (by decide +kernel) ⟨Nat.le_of_ble_eq_true rfl, Nat.le_of_ble_eq_true rfl⟩) (m_recv hK hm (q := (RX6, TX6, 24)) rfl (mu_self _ _ _)) hz hcx hm hS rfl hl.1 rfl (Nat.le_of_ble_eq_true rfl) dX6_make_39 ⟨Nat.le_of_ble_eq_true rfl, Nat.le_of_ble_eq_true rfl⟩ (fun v M1 H locs hv hm hS => ?_)
              obtain ⟨hv1, hI9, hk9⟩ := hv
              obtain ⟨_, _, _, _, _, _, _, _, _, _, _, _, _, _, _, fir_1, _, _, _, _, _, _, -, -, hmd_1, ⟨-, -, -⟩, -, -, -, -, -, -, -, -, hir_1, -, -, -, -, -, -⟩ := id hI9
              have kmo_1 := hk9 _ _ (by simp only [List.mem_cons, List.not_mem_nil, or_false, not_or]; exact ne_mo_ir) (mu_self _ _ _)
              have kcn_1 := hk9 _ _ (by simp only [List.mem_cons, List.not_mem_nil, or_false, not_or]; exact ne_cn_ir) ((mu_ne ne_cn_mo).trans hcn)
              have kia_1 := hk9 _ _ (by simp only [List.mem_cons, List.not_mem_nil, or_false, not_or]; exact ne_ia_ir) ((mu_ne ne_ia_mo).trans hia)
              have kdr_1 := hk9 _ _ (by simp only [List.mem_cons, List.not_mem_nil, or_false, not_or]; exact ne_dr_ir) ((mu_ne ne_dr_mo).trans hdr)
              have ken_1 := hk9 _ _ (by simp only [List.mem_cons, List.not_mem_nil, or_false, not_or]; exact ne_en_ir) ((mu_ne ne_en_mo).trans hen)
              have kla_1 := hk9 _ _ (by simp only [List.mem_cons, List.not_mem_nil, or_false, not_or]; exact ne_la_ir) ((mu_ne ne_la_mo).trans hla)
              have kwo_1 := hk9 _ _ (by simp only [List.mem_cons, List.not_mem_nil, or_false, not_or]; exact ne_wo_ir) ((mu_ne ne_wo_mo).trans hwo)
              have kop_1 := hk9 _ _ (by simp only [List.mem_cons, List.not_mem_nil, or_false, not_or]; exact ne_op_ir) ((mu_ne ne_op_mo).trans hop)
              have kmk_1 := hk9 _ _ (by simp only [List.mem_cons, List.not_mem_nil, or_false, not_or]; exact ne_mk_ir) ((mu_ne ne_mk_mo).trans hmk)
              have kse_1 := hk9 _ _ (by simp only [List.mem_cons, List.not_mem_nil, or_false, not_or]; exact ne_se_ir) ((mu_ne ne_se_mo).trans hse)
              have kec_1 := hk9 _ _ (by simp only [List.mem_cons, List.not_mem_nil, or_false, not_or]; exact ne_ec_ir) ((mu_ne ne_ec_mo).trans hec)
              have klc_1 := hk9 _ _ (by simp only [List.mem_cons, List.not_mem_nil, or_false, not_or]; exact ne_lc_ir) ((mu_ne ne_lc_mo).trans hlc)
              have kwc_1 := hk9 _ _ (by simp only [List.mem_cons, List.not_mem_nil, or_false, not_or]; exact ne_wc_ir) ((mu_ne ne_wc_mo).trans hwc)
              have kol_1 := hk9 _ _ (by simp only [List.mem_cons, List.not_mem_nil, or_false, not_or]; exact ne_ol_ir) ((mu_ne ne_ol_mo).trans hol)
              have kal_1 := hk9 _ _ (by simp only [List.mem_cons, List.not_mem_nil, or_false, not_or]; exact ne_al_ir) ((mu_ne ne_al_mo).trans hal)
              have hkp := hkp.trans (hk9.mono (fun a ha => by simp only [List.mem_cons, List.not_mem_nil, or_false] at ha ⊢; subst ha; simp))
              obtain ⟨Mc1, hMx⟩ : ∃ x : mM, x = M1 := ⟨M1, rfl⟩
              subst hMx
              obtain ⟨f103, hv1, hf103⟩ := hv1
              subst hv1
              rcases hf103 with hf103 | ⟨nb103, hb103a, hb103b, hf103⟩
              · subst hf103
                refine W.eq (g2 := F0 m 42 ls [.int (-1)]) rfl ?_
                refine W.widen (k := 0) (n := 0) (Nat.le_of_ble_eq_true rfl) (Nat.le_of_ble_eq_true rfl) ?_
                have hm : mm D (AZ z) Mc1 H := hm
                refine lv_istore (lv' := [(4, .int (-1)), (0, .ref mo), (1, .int (nI t9)), (2, .int path), (3, .int 0)]) hx hb dX6_make_42 hl (by decide) rfl (fun ls hl => ?_)
                refine lv_aload_n hx hb dX6_make_44 rfl (lv_at hl 1 rfl) ?_
                refine lv_iload hx hb dX6_make_45 (lv_at hl 0 rfl) ?_
                refine lv_if_ge (tgt := 54) hx hb dX6_make_47 (by decide) (fun c7 => ?_) (fun c7 => ?_)
                · first | exact absurd c7 (by decide) | exact absurd (by decide) c7
                · refine lv_iconst (v := 3) hx hb dX6_make_50 (by decide) ?_
                  refine lv_goto (tgt := 69) hx hb dX6_make_51 (by decide) ?_
                  refine m_kV (As := [.int 3]) (rest := []) (rm := { frames := 0, cells := 0, slots := 0, locals := 0 }) ⟨hx, hb, hml, hown, hts⟩ (s_X6_failsE l D k z _ mo cn ia dr en la wo op mk ir se ec lc wc ol al 0 ni dn md pw cm wr cs hm9 3 kmo_1) (cwV 1 hts gX6_make_X6_fails rfl rfl rfl (by decide +kernel) ⟨Nat.le_of_ble_eq_true rfl, Nat.le_of_ble_eq_true rfl⟩) (m_recv hK hm (q := (RX6, TX6, 24)) rfl kmo_1) hz hcx hm hS rfl hl.1 rfl (Nat.le_of_ble_eq_true rfl) dX6_make_69 ⟨Nat.le_of_ble_eq_true rfl, Nat.le_of_ble_eq_true rfl⟩ (fun v M1 H locs hv hm hS => ?_)
                  obtain ⟨hv1, hM1⟩ := hv
                  have hv1 : v = some (.int 1) := hv1.trans (by decide)
                  subst hv1
                  rw [hM1] at hm
                  refine W.eq (g2 := F0 m 72 ls [.int 1]) rfl ?_
                  refine W.widen (k := 0) (n := 0) (Nat.le_of_ble_eq_true rfl) (Nat.le_of_ble_eq_true rfl) ?_
                  have hm : mm D (AZ z) (mu Mc1 mo (.inr (6, [.int 3, .ref cn, .ref ia, .ref dr, .ref en, .ref la, .ref wo, .int ni, .ref op, .ref mk, .ref ir, .int dn, .int md, .int pw, .int cm, .int wr, .ref se, .ref ec, .ref lc, .ref wc, .ref ol, .ref al, .int cs, .int hm9]))) H := hm
                  have hkp : kpx (fun a => a ∈ [mo, cn, ia, dr, en, la, wo, op, mk, ir, se, ec, lc, wc, ol, al]) M (mu Mc1 mo (.inr (6, [.int 3, .ref cn, .ref ia, .ref dr, .ref en, .ref la, .ref wo, .int ni, .ref op, .ref mk, .ref ir, .int dn, .int md, .int pw, .int cm, .int wr, .ref se, .ref ec, .ref lc, .ref wc, .ref ol, .ref al, .int cs, .int hm9]))) := (hkp).self (by simp)
                  refine lv_if_eq (tgt := 76) hx hb dX6_make_72 (by decide) (fun c8 => ?_) (fun c8 => ?_)
                  · first | exact absurd c8 (by decide) | exact absurd (by decide) c8
                  · refine W.vret hx hb hr (fun t ht hW => ⟨⟨none, _, rfl, ?_, by rw [ht]; exact hm⟩, hS.F ht⟩) hS.2.2 dX6_make_75
                    exact ⟨rfl, ⟨_, _, _, _, _, _, _, fcn, fia, fdr, fen, fla, fwo, fop, fmk, fir_1, fse, fec, flc, fol, fal, fwc, hap, (mu_self _ _ _), hmd, ⟨hrC, hrL, hrM⟩, ((mu_ne ne_cn_mo).trans kcn_1), ((mu_ne ne_ia_mo).trans kia_1), ((mu_ne ne_dr_mo).trans kdr_1), ((mu_ne ne_en_mo).trans ken_1), ((mu_ne ne_la_mo).trans kla_1), ((mu_ne ne_wo_mo).trans kwo_1), ((mu_ne ne_op_mo).trans kop_1), ((mu_ne ne_mk_mo).trans kmk_1), ((mu_ne ne_ir_mo).trans hir_1), ((mu_ne ne_se_mo).trans kse_1), ((mu_ne ne_ec_mo).trans kec_1), ((mu_ne ne_lc_mo).trans klc_1), ((mu_ne ne_wc_mo).trans kwc_1), ((mu_ne ne_ol_mo).trans kol_1), ((mu_ne ne_al_mo).trans kal_1)⟩, hkp⟩
              · subst hf103
                refine W.eq (g2 := F0 m 42 ls [.int (nI nb103)]) rfl ?_
                refine W.widen (k := 0) (n := 0) (Nat.le_of_ble_eq_true rfl) (Nat.le_of_ble_eq_true rfl) ?_
                have hm : mm D (AZ z) Mc1 H := hm
                refine lv_istore (lv' := [(4, .int (nI nb103)), (0, .ref mo), (1, .int (nI t9)), (2, .int path), (3, .int 0)]) hx hb dX6_make_42 hl (by decide) rfl (fun ls hl => ?_)
                refine lv_aload_n hx hb dX6_make_44 rfl (lv_at hl 1 rfl) ?_
                refine lv_iload hx hb dX6_make_45 (lv_at hl 0 rfl) ?_
                refine lv_if_ge (tgt := 54) hx hb dX6_make_47 (by decide) (fun c9 => ?_) (fun c9 => ?_)
                · have hqc9 : 0 ≤ nb103 := nb_le (a := 0) (b := nb103) (by omega) (by omega) c9
                  refine lv_aload_n hx hb dX6_make_54 rfl (lv_at hl 1 rfl) ?_
                  refine m_get (T := TX6) (N := 24) (ci := 6) (v := .ref dr) hx hb hts wX6 hown hK hm kmo_1 rfl 3 (by decide) f16 (fun _ h9 => h9) rfl dX6_make_55 ?_
                  refine lv_iload hx hb dX6_make_58 (lv_at hl 0 rfl) ?_
                  refine m_zald hx hb hK hm 2 kdr_1 rfl (vp_in_nI (by omega) (by decide)) dX6_make_60 ?_
                  refine lv_if_ne (tgt := 68) hx hb dX6_make_61 (by decide) (fun c10 => ?_) (fun c10 => ?_)
                  · refine lv_iconst (v := 0) hx hb dX6_make_68 (by decide) ?_
                    refine m_kV (As := [.int 0]) (rest := []) (rm := { frames := 0, cells := 0, slots := 0, locals := 0 }) ⟨hx, hb, hml, hown, hts⟩ (s_X6_failsE l D k z _ mo cn ia dr en la wo op mk ir se ec lc wc ol al 0 ni dn md pw cm wr cs hm9 0 kmo_1) (cwV 1 hts gX6_make_X6_fails rfl rfl rfl (by decide +kernel) ⟨Nat.le_of_ble_eq_true rfl, Nat.le_of_ble_eq_true rfl⟩) (m_recv hK hm (q := (RX6, TX6, 24)) rfl kmo_1) hz hcx hm hS rfl hl.1 rfl (Nat.le_of_ble_eq_true rfl) dX6_make_69 ⟨Nat.le_of_ble_eq_true rfl, Nat.le_of_ble_eq_true rfl⟩ (fun v M1 H locs hv hm hS => ?_)
                    obtain ⟨hv1, hM1⟩ := hv
                    have hv1 : v = some (.int 0) := hv1.trans (by decide)
                    subst hv1
                    rw [hM1] at hm
                    refine W.eq (g2 := F0 m 72 ls [.int 0]) rfl ?_
                    refine W.widen (k := 0) (n := 0) (Nat.le_of_ble_eq_true rfl) (Nat.le_of_ble_eq_true rfl) ?_
                    have hm : mm D (AZ z) (mu Mc1 mo (.inr (6, [.int 0, .ref cn, .ref ia, .ref dr, .ref en, .ref la, .ref wo, .int ni, .ref op, .ref mk, .ref ir, .int dn, .int md, .int pw, .int cm, .int wr, .ref se, .ref ec, .ref lc, .ref wc, .ref ol, .ref al, .int cs, .int hm9]))) H := hm
                    have hkp : kpx (fun a => a ∈ [mo, cn, ia, dr, en, la, wo, op, mk, ir, se, ec, lc, wc, ol, al]) M (mu Mc1 mo (.inr (6, [.int 0, .ref cn, .ref ia, .ref dr, .ref en, .ref la, .ref wo, .int ni, .ref op, .ref mk, .ref ir, .int dn, .int md, .int pw, .int cm, .int wr, .ref se, .ref ec, .ref lc, .ref wc, .ref ol, .ref al, .int cs, .int hm9]))) := (hkp).self (by simp)
                    refine lv_if_eq (tgt := 76) hx hb dX6_make_72 (by decide) (fun c11 => ?_) (fun c11 => ?_)
                    · refine lv_iload_n hx hb dX6_make_76 rfl (lv_at hl 3 rfl) ?_
                      refine lv_bipush (v := 15) hx hb dX6_make_77 (by decide) ?_
                      refine lv_iand hx hb dX6_make_79 ?_
                      obtain ⟨d104, hd104, hde104⟩ := pk_andE path (m := 15) 4 (by decide)
                      have hd104p : 1 ≤ d104 := Nat.pos_of_ne_zero fun q => isP_15 hp102 c5 (by rw [hde104, q]; rfl)
                      refine W.eq (g2 := F0 m 80 ls [.int (nI d104)]) (by rw [hde104]) ?_
                      refine lv_istore (lv' := [(5, .int (nI d104)), (4, .int (nI nb103)), (0, .ref mo), (1, .int (nI t9)), (2, .int path), (3, .int 0)]) hx hb dX6_make_80 hl (by decide) rfl (fun ls hl => ?_)
                      refine lv_aload_n hx hb dX6_make_82 rfl (lv_at hl 2 rfl) ?_
                      refine lv_iload_n hx hb dX6_make_83 rfl (lv_at hl 3 rfl) ?_
                      refine lv_iload hx hb dX6_make_84 (lv_at hl 1 rfl) ?_
                      refine lv_iload hx hb dX6_make_86 (lv_at hl 0 rfl) ?_
                      have hI0 : mI k (mu Mc1 mo (.inr (6, [.int 0, .ref cn, .ref ia, .ref dr, .ref en, .ref la, .ref wo, .int ni, .ref op, .ref mk, .ref ir, .int dn, .int md, .int pw, .int cm, .int wr, .ref se, .ref ec, .ref lc, .ref wc, .ref ol, .ref al, .int cs, .int hm9]))) mo cn ia dr en la wo op mk ir se ec lc wc ol al dn md := ⟨_, _, _, _, _, _, _, fcn, fia, fdr, fen, fla, fwo, fop, fmk, fir_1, fse, fec, flc, fol, fal, fwc, hap, (mu_self _ _ _), hmd, ⟨hrC, hrL, hrM⟩, ((mu_ne ne_cn_mo).trans kcn_1), ((mu_ne ne_ia_mo).trans kia_1), ((mu_ne ne_dr_mo).trans kdr_1), ((mu_ne ne_en_mo).trans ken_1), ((mu_ne ne_la_mo).trans kla_1), ((mu_ne ne_wo_mo).trans kwo_1), ((mu_ne ne_op_mo).trans kop_1), ((mu_ne ne_mk_mo).trans kmk_1), ((mu_ne ne_ir_mo).trans hir_1), ((mu_ne ne_se_mo).trans kse_1), ((mu_ne ne_ec_mo).trans kec_1), ((mu_ne ne_lc_mo).trans klc_1), ((mu_ne ne_wc_mo).trans kwc_1), ((mu_ne ne_ol_mo).trans kol_1), ((mu_ne ne_al_mo).trans kal_1)⟩
                      refine m_kV (As := [.int (nI t9), .int (nI nb103), .int (nI d104)]) (rest := []) (rm := { frames := 2, cells := 0, slots := 0, locals := 48 }) ⟨hx, hb, hml, hown, hts⟩ (x_X6_enter l D k z _ mo cn ia dr en la wo op mk ir se ec lc wc ol al dn md t9 nb103 d104 (by omega) (by omega) (by omega) (by omega) hI0) (cwV 3 hts gX6_make_X6_enter rfl rfl rfl (by decide +kernel) ⟨Nat.le_of_ble_eq_true rfl, Nat.le_of_ble_eq_true rfl⟩) (m_recv hK hm (q := (RX6, TX6, 24)) rfl (mu_self _ _ _)) hz hcx hm hS rfl hl.1 rfl (Nat.le_of_ble_eq_true rfl) dX6_make_88 ⟨Nat.le_of_ble_eq_true rfl, Nat.le_of_ble_eq_true rfl⟩ (fun v M1 H locs hv hm hS => ?_)
                      obtain ⟨hv1, hI9, hk9⟩ := hv
                      obtain ⟨_, _, _, _, _, _, _, _, _, _, _, _, _, _, _, fir_2, _, _, _, _, _, _, -, -, hmd_2, ⟨-, -, -⟩, -, -, -, -, -, -, -, -, hir_2, -, -, -, -, -, -⟩ := id hI9
                      have kmo_2 := hk9 _ _ (by simp only [List.mem_cons, List.not_mem_nil, or_false, not_or]; exact ne_mo_ir) (mu_self _ _ _)
                      have kcn_2 := hk9 _ _ (by simp only [List.mem_cons, List.not_mem_nil, or_false, not_or]; exact ne_cn_ir) ((mu_ne ne_cn_mo).trans kcn_1)
                      have kia_2 := hk9 _ _ (by simp only [List.mem_cons, List.not_mem_nil, or_false, not_or]; exact ne_ia_ir) ((mu_ne ne_ia_mo).trans kia_1)
                      have kdr_2 := hk9 _ _ (by simp only [List.mem_cons, List.not_mem_nil, or_false, not_or]; exact ne_dr_ir) ((mu_ne ne_dr_mo).trans kdr_1)
                      have ken_2 := hk9 _ _ (by simp only [List.mem_cons, List.not_mem_nil, or_false, not_or]; exact ne_en_ir) ((mu_ne ne_en_mo).trans ken_1)
                      have kla_2 := hk9 _ _ (by simp only [List.mem_cons, List.not_mem_nil, or_false, not_or]; exact ne_la_ir) ((mu_ne ne_la_mo).trans kla_1)
                      have kwo_2 := hk9 _ _ (by simp only [List.mem_cons, List.not_mem_nil, or_false, not_or]; exact ne_wo_ir) ((mu_ne ne_wo_mo).trans kwo_1)
                      have kop_2 := hk9 _ _ (by simp only [List.mem_cons, List.not_mem_nil, or_false, not_or]; exact ne_op_ir) ((mu_ne ne_op_mo).trans kop_1)
                      have kmk_2 := hk9 _ _ (by simp only [List.mem_cons, List.not_mem_nil, or_false, not_or]; exact ne_mk_ir) ((mu_ne ne_mk_mo).trans kmk_1)
                      have kse_2 := hk9 _ _ (by simp only [List.mem_cons, List.not_mem_nil, or_false, not_or]; exact ne_se_ir) ((mu_ne ne_se_mo).trans kse_1)
                      have kec_2 := hk9 _ _ (by simp only [List.mem_cons, List.not_mem_nil, or_false, not_or]; exact ne_ec_ir) ((mu_ne ne_ec_mo).trans kec_1)
                      have klc_2 := hk9 _ _ (by simp only [List.mem_cons, List.not_mem_nil, or_false, not_or]; exact ne_lc_ir) ((mu_ne ne_lc_mo).trans klc_1)
                      have kwc_2 := hk9 _ _ (by simp only [List.mem_cons, List.not_mem_nil, or_false, not_or]; exact ne_wc_ir) ((mu_ne ne_wc_mo).trans kwc_1)
                      have kol_2 := hk9 _ _ (by simp only [List.mem_cons, List.not_mem_nil, or_false, not_or]; exact ne_ol_ir) ((mu_ne ne_ol_mo).trans kol_1)
                      have kal_2 := hk9 _ _ (by simp only [List.mem_cons, List.not_mem_nil, or_false, not_or]; exact ne_al_ir) ((mu_ne ne_al_mo).trans kal_1)
                      have hkp := hkp.trans (hk9.mono (fun a ha => by simp only [List.mem_cons, List.not_mem_nil, or_false] at ha ⊢; subst ha; simp))
                      obtain ⟨Mc2, hMx⟩ : ∃ x : mM, x = M1 := ⟨M1, rfl⟩
                      subst hMx
                      obtain ⟨f105, hv1, hf105⟩ := hv1
                      subst hv1
                      rcases hf105 with hf105 | ⟨nb105, uc105, g105, hg105, hgu105, hgb105, hb105a, hb105b, hf105⟩
                      · subst hf105
                        refine W.eq (g2 := F0 m 91 ls [.int (-1)]) rfl ?_
                        refine W.widen (k := 0) (n := 0) (Nat.le_of_ble_eq_true rfl) (Nat.le_of_ble_eq_true rfl) ?_
                        have hm : mm D (AZ z) Mc2 H := hm
                        refine lv_istore (lv' := [(6, .int (-1)), (5, .int (nI d104)), (4, .int (nI nb103)), (0, .ref mo), (1, .int (nI t9)), (2, .int path), (3, .int 0)]) hx hb dX6_make_91 hl (by decide) rfl (fun ls hl => ?_)
                        refine lv_aload_n hx hb dX6_make_93 rfl (lv_at hl 3 rfl) ?_
                        refine lv_iload_n hx hb dX6_make_94 rfl (lv_at hl 4 rfl) ?_
                        have hI0 : mI k Mc2 mo cn ia dr en la wo op mk ir se ec lc wc ol al dn md := ⟨_, _, _, _, _, _, _, fcn, fia, fdr, fen, fla, fwo, fop, fmk, fir_2, fse, fec, flc, fol, fal, fwc, hap, kmo_2, hmd, ⟨hrC, hrL, hrM⟩, kcn_2, kia_2, kdr_2, ken_2, kla_2, kwo_2, kop_2, kmk_2, hir_2, kse_2, kec_2, klc_2, kwc_2, kol_2, kal_2⟩
                        refine m_kV (As := [.int (nI t9)]) (rest := []) (rm := { frames := 0, cells := 0, slots := 0, locals := 0 }) ⟨hx, hb, hml, hown, hts⟩ (s_X6_tree l D k z _ mo cn ia dr en la wo op mk ir se ec lc wc ol al dn md t9 (by omega) hI0) (cwV 1 hts gX6_make_X6_tree rfl rfl rfl (by decide +kernel) ⟨Nat.le_of_ble_eq_true rfl, Nat.le_of_ble_eq_true rfl⟩) (m_recv hK hm (q := (RX6, TX6, 24)) rfl kmo_2) hz hcx hm hS rfl hl.1 rfl (Nat.le_of_ble_eq_true rfl) dX6_make_95 ⟨Nat.le_of_ble_eq_true rfl, Nat.le_of_ble_eq_true rfl⟩ (fun v M1 H locs hv hm hS => ?_)
                        obtain ⟨hv1, hM1⟩ := hv
                        subst hv1
                        rw [hM1] at hm
                        refine W.eq (g2 := F0 m 98 ls [.int (nI (2 + 5 * t9))]) rfl ?_
                        refine W.widen (k := 0) (n := 0) (Nat.le_of_ble_eq_true rfl) (Nat.le_of_ble_eq_true rfl) ?_
                        have hm : mm D (AZ z) Mc2 H := hm
                        refine lv_istore (lv' := [(7, .int (nI (2 + 5 * t9))), (6, .int (-1)), (5, .int (nI d104)), (4, .int (nI nb103)), (0, .ref mo), (1, .int (nI t9)), (2, .int path), (3, .int 0)]) hx hb dX6_make_98 hl (by decide) rfl (fun ls hl => ?_)
                        refine lv_aload_n hx hb dX6_make_100 rfl (lv_at hl 4 rfl) ?_
                        refine lv_iload hx hb dX6_make_101 (lv_at hl 1 rfl) ?_
                        refine lv_if_ge (tgt := 118) hx hb dX6_make_103 (by decide) (fun c12 => ?_) (fun c12 => ?_)
                        · first | exact absurd c12 (by decide) | exact absurd (by decide) c12
                        · refine lv_aload_n hx hb dX6_make_106 rfl (lv_at hl 4 rfl) ?_
                          refine m_get (T := TX6) (N := 24) (ci := 6) (v := .ref cn) hx hb hts wX6 hown hK hm kmo_2 rfl 1 (by decide) f7 (fun _ h9 => h9) rfl dX6_make_107 ?_
                          refine lv_iload hx hb dX6_make_110 (lv_at hl 0 rfl) ?_
                          refine m_iald hx hb hK hm 0 kcn_2 rfl (vp_in_nI (by omega) (by decide)) dX6_make_112 ?_
                          obtain ⟨u13, hu13, eu13⟩ := hrC (2 + 5 * t9)
                          refine W.eq (g2 := F0 m 113 ls [.int (nI u13), .ref mo]) (by rw [show (fcn ((nI (2 + 5 * t9))).toNatClampNeg) = nI u13 from (congrArg fcn (show ((nI (2 + 5 * t9))).toNatClampNeg = (2 + 5 * t9) from nI_clamp (by omega))).trans eu13]) ?_
                          have hb_u13 := hu13
                          have hu13 : u13 ≤ 100 := Nat.le_trans hu13 (bC_le _)
                          have hsu13 : u13 ≤ 60 := Nat.le_trans hb_u13 (bC_60 (by omega))
                          refine lv_bipush (v := 60) hx hb dX6_make_113 (by decide) ?_
                          refine lv_icmp_ne (tgt := 122) hx hb dX6_make_115 (by decide) (fun c14 => ?_) (fun c14 => ?_)
                          · have hqc14 : u13 ≠ 60 := nb_ne c14
                            refine lv_iconst (v := 0) hx hb dX6_make_122 (by decide) ?_
                            refine m_kV (As := [.int 0]) (rest := []) (rm := { frames := 0, cells := 0, slots := 0, locals := 0 }) ⟨hx, hb, hml, hown, hts⟩ (s_X6_failsE l D k z _ mo cn ia dr en la wo op mk ir se ec lc wc ol al 0 ni dn md pw cm wr cs hm9 0 kmo_2) (cwV 1 hts gX6_make_X6_fails rfl rfl rfl (by decide +kernel) ⟨Nat.le_of_ble_eq_true rfl, Nat.le_of_ble_eq_true rfl⟩) (m_recv hK hm (q := (RX6, TX6, 24)) rfl kmo_2) hz hcx hm hS rfl hl.1 rfl (Nat.le_of_ble_eq_true rfl) dX6_make_123 ⟨Nat.le_of_ble_eq_true rfl, Nat.le_of_ble_eq_true rfl⟩ (fun v M1 H locs hv hm hS => ?_)
                            obtain ⟨hv1, hM1⟩ := hv
                            have hv1 : v = some (.int 0) := hv1.trans (by decide)
                            subst hv1
                            rw [hM1] at hm
                            refine W.eq (g2 := F0 m 126 ls [.int 0]) rfl ?_
                            refine W.widen (k := 0) (n := 0) (Nat.le_of_ble_eq_true rfl) (Nat.le_of_ble_eq_true rfl) ?_
                            have hm : mm D (AZ z) (mu Mc2 mo (.inr (6, [.int 0, .ref cn, .ref ia, .ref dr, .ref en, .ref la, .ref wo, .int ni, .ref op, .ref mk, .ref ir, .int dn, .int md, .int pw, .int cm, .int wr, .ref se, .ref ec, .ref lc, .ref wc, .ref ol, .ref al, .int cs, .int hm9]))) H := hm
                            have hkp : kpx (fun a => a ∈ [mo, cn, ia, dr, en, la, wo, op, mk, ir, se, ec, lc, wc, ol, al]) M (mu Mc2 mo (.inr (6, [.int 0, .ref cn, .ref ia, .ref dr, .ref en, .ref la, .ref wo, .int ni, .ref op, .ref mk, .ref ir, .int dn, .int md, .int pw, .int cm, .int wr, .ref se, .ref ec, .ref lc, .ref wc, .ref ol, .ref al, .int cs, .int hm9]))) := (hkp).self (by simp)
                            refine lv_if_eq (tgt := 130) hx hb dX6_make_126 (by decide) (fun c15 => ?_) (fun c15 => ?_)
                            · refine lv_bipush (v := 100) hx hb dX6_make_130 (by decide) ?_
                              refine lv_iload hx hb dX6_make_132 (lv_at hl 0 rfl) ?_
                              refine lv_imul hx hb dX6_make_134 ?_
                              refine W.eq (g2 := F0 m 135 ls [.int (nI (100 * (2 + 5 * t9)))]) (by rw [show ((100) * ((nI (2 + 5 * t9))) : Int32) = nI (100 * (2 + 5 * t9)) from pk_mul 100 (2 + 5 * t9)]) ?_
                              refine lv_aload_n hx hb dX6_make_135 rfl (lv_at hl 4 rfl) ?_
                              refine m_get (T := TX6) (N := 24) (ci := 6) (v := .ref cn) hx hb hts wX6 hown hK hm (mu_self _ _ _) rfl 1 (by decide) f7 (fun _ h9 => h9) rfl dX6_make_136 ?_
                              refine lv_iload hx hb dX6_make_139 (lv_at hl 0 rfl) ?_
                              refine m_iald hx hb hK hm 0 ((mu_ne ne_cn_mo).trans kcn_2) rfl (vp_in_nI (by omega) (by decide)) dX6_make_141 ?_
                              refine W.eq (g2 := F0 m 142 ls [.int (nI u13), .int (nI (100 * (2 + 5 * t9)))]) (by rw [show (fcn ((nI (2 + 5 * t9))).toNatClampNeg) = nI u13 from (congrArg fcn (show ((nI (2 + 5 * t9))).toNatClampNeg = (2 + 5 * t9) from nI_clamp (by omega))).trans eu13]) ?_
                              refine lv_iadd hx hb dX6_make_142 ?_
                              refine W.eq (g2 := F0 m 143 ls [.int (nI ((100 * (2 + 5 * t9)) + u13))]) (by rw [show (((nI (100 * (2 + 5 * t9)))) + ((nI u13)) : Int32) = nI ((100 * (2 + 5 * t9)) + u13) from nI_add (100 * (2 + 5 * t9)) u13]) ?_
                              refine lv_istore (lv' := [(8, .int (nI ((100 * (2 + 5 * t9)) + u13))), (7, .int (nI (2 + 5 * t9))), (6, .int (-1)), (5, .int (nI d104)), (4, .int (nI nb103)), (0, .ref mo), (1, .int (nI t9)), (2, .int path), (3, .int 0)]) hx hb dX6_make_143 hl (by decide) rfl (fun ls hl => ?_)
                              refine lv_aload_n hx hb dX6_make_145 rfl (lv_at hl 5 rfl) ?_
                              refine m_get (T := TX6) (N := 24) (ci := 6) (v := .ref cn) hx hb hts wX6 hown hK hm (mu_self _ _ _) rfl 1 (by decide) f7 (fun _ h9 => h9) rfl dX6_make_146 ?_
                              refine lv_iload hx hb dX6_make_149 (lv_at hl 1 rfl) ?_
                              refine lv_dup2_11 hx hb dX6_make_151 rfl rfl ?_
                              refine m_iald hx hb hK hm 0 ((mu_ne ne_cn_mo).trans kcn_2) rfl (vp_in_nI (by omega) (by decide)) dX6_make_152 ?_
                              refine W.eq (g2 := F0 m 153 ls [.int (nI u13), .int (nI (2 + 5 * t9)), .ref cn]) (by rw [show (fcn ((nI (2 + 5 * t9))).toNatClampNeg) = nI u13 from (congrArg fcn (show ((nI (2 + 5 * t9))).toNatClampNeg = (2 + 5 * t9) from nI_clamp (by omega))).trans eu13]) ?_
                              refine lv_iconst (v := 1) hx hb dX6_make_153 (by decide) ?_
                              refine lv_iadd hx hb dX6_make_154 ?_
                              refine W.eq (g2 := F0 m 155 ls [.int (nI (u13 + 1)), .int (nI (2 + 5 * t9)), .ref cn]) (by rw [show (((nI u13)) + (1) : Int32) = nI (u13 + 1) from nI_add u13 1]) ?_
                              refine m_iast hx hb hK hm hS 0 ((mu_ne ne_cn_mo).trans kcn_2) rfl (vp_in_nI (by omega) (by decide)) dX6_make_155 (fun H locs hm hS => ?_)
                              have hrC : rng bC (upd fcn ((nI (2 + 5 * t9))).toNatClampNeg (nI (u13 + 1))) := (hrC).up _ (u13 + 1) (by rw [nI_clamp (by omega)]; exact (by rw [bC_e60 (by omega) (by omega)]; omega))
                              have hmd : md ≠ 0 → ∃ n, n ≤ 40 ∧ (upd fcn ((nI (2 + 5 * t9))).toNatClampNeg (nI (u13 + 1))) 31 = nI n := fun q => by obtain ⟨n, q2, q3⟩ := hmd q; exact ⟨n, q2, by rw [← q3]; exact if_neg (by rw [nI_clamp (by omega)]; omega)⟩
                              have hm : mm D (AZ z) (mu (mu Mc2 mo (.inr (6, [.int 0, .ref cn, .ref ia, .ref dr, .ref en, .ref la, .ref wo, .int ni, .ref op, .ref mk, .ref ir, .int dn, .int md, .int pw, .int cm, .int wr, .ref se, .ref ec, .ref lc, .ref wc, .ref ol, .ref al, .int cs, .int hm9]))) cn (.inl (k 0, 32, .inl (upd fcn ((nI (2 + 5 * t9))).toNatClampNeg (nI (u13 + 1)))))) H := hm
                              have hkp : kpx (fun a => a ∈ [mo, cn, ia, dr, en, la, wo, op, mk, ir, se, ec, lc, wc, ol, al]) M (mu (mu Mc2 mo (.inr (6, [.int 0, .ref cn, .ref ia, .ref dr, .ref en, .ref la, .ref wo, .int ni, .ref op, .ref mk, .ref ir, .int dn, .int md, .int pw, .int cm, .int wr, .ref se, .ref ec, .ref lc, .ref wc, .ref ol, .ref al, .int cs, .int hm9]))) cn (.inl (k 0, 32, .inl (upd fcn ((nI (2 + 5 * t9))).toNatClampNeg (nI (u13 + 1)))))) := (hkp).self (by simp)
                              refine lv_aload_n hx hb dX6_make_156 rfl (lv_at hl 5 rfl) ?_
                              refine m_get (T := TX6) (N := 24) (ci := 6) (v := .ref ia) hx hb hts wX6 hown hK hm ((mu_ne ne_mo_cn).trans (mu_self _ _ _)) rfl 2 (by decide) f13 (fun _ h9 => h9) rfl dX6_make_157 ?_
                              refine lv_iload hx hb dX6_make_160 (lv_at hl 0 rfl) ?_
                              refine lv_aload_n hx hb dX6_make_162 rfl (lv_at hl 5 rfl) ?_
                              refine m_get (T := TX6) (N := 24) (ci := 6) (v := .int ni) hx hb hts wX6 hown hK hm ((mu_ne ne_mo_cn).trans (mu_self _ _ _)) rfl 7 (by decide) f31 (fun _ h9 => h9) rfl dX6_make_163 ?_
                              refine m_iast hx hb hK hm hS 0 ((mu_ne ne_ia_cn).trans ((mu_ne ne_ia_mo).trans kia_2)) rfl (vp_in_nI (by omega) (by decide)) dX6_make_166 (fun H locs hm hS => ?_)
                              have hm : mm D (AZ z) (mu (mu (mu Mc2 mo (.inr (6, [.int 0, .ref cn, .ref ia, .ref dr, .ref en, .ref la, .ref wo, .int ni, .ref op, .ref mk, .ref ir, .int dn, .int md, .int pw, .int cm, .int wr, .ref se, .ref ec, .ref lc, .ref wc, .ref ol, .ref al, .int cs, .int hm9]))) cn (.inl (k 0, 32, .inl (upd fcn ((nI (2 + 5 * t9))).toNatClampNeg (nI (u13 + 1)))))) ia (.inl (k 0, 3200, .inl (upd fia ((nI ((100 * (2 + 5 * t9)) + u13))).toNatClampNeg ni)))) H := hm
                              have hkp : kpx (fun a => a ∈ [mo, cn, ia, dr, en, la, wo, op, mk, ir, se, ec, lc, wc, ol, al]) M (mu (mu (mu Mc2 mo (.inr (6, [.int 0, .ref cn, .ref ia, .ref dr, .ref en, .ref la, .ref wo, .int ni, .ref op, .ref mk, .ref ir, .int dn, .int md, .int pw, .int cm, .int wr, .ref se, .ref ec, .ref lc, .ref wc, .ref ol, .ref al, .int cs, .int hm9]))) cn (.inl (k 0, 32, .inl (upd fcn ((nI (2 + 5 * t9))).toNatClampNeg (nI (u13 + 1)))))) ia (.inl (k 0, 3200, .inl (upd fia ((nI ((100 * (2 + 5 * t9)) + u13))).toNatClampNeg ni)))) := (hkp).self (by simp)
                              refine lv_aload_n hx hb dX6_make_167 rfl (lv_at hl 5 rfl) ?_
                              refine m_get (T := TX6) (N := 24) (ci := 6) (v := .ref dr) hx hb hts wX6 hown hK hm ((mu_ne ne_mo_ia).trans ((mu_ne ne_mo_cn).trans (mu_self _ _ _))) rfl 3 (by decide) f16 (fun _ h9 => h9) rfl dX6_make_168 ?_
                              refine lv_iload hx hb dX6_make_171 (lv_at hl 0 rfl) ?_
                              refine lv_iload_n hx hb dX6_make_173 rfl (lv_at hl 8 rfl) ?_
                              refine m_zast hx hb hK hm hS 2 ((mu_ne ne_dr_ia).trans ((mu_ne ne_dr_cn).trans ((mu_ne ne_dr_mo).trans kdr_2))) rfl (vp_in_nI (by omega) (by decide)) dX6_make_174 (fun H locs hm hS => ?_)
                              have hm : mm D (AZ z) (mu (mu (mu (mu Mc2 mo (.inr (6, [.int 0, .ref cn, .ref ia, .ref dr, .ref en, .ref la, .ref wo, .int ni, .ref op, .ref mk, .ref ir, .int dn, .int md, .int pw, .int cm, .int wr, .ref se, .ref ec, .ref lc, .ref wc, .ref ol, .ref al, .int cs, .int hm9]))) cn (.inl (k 0, 32, .inl (upd fcn ((nI (2 + 5 * t9))).toNatClampNeg (nI (u13 + 1)))))) ia (.inl (k 0, 3200, .inl (upd fia ((nI ((100 * (2 + 5 * t9)) + u13))).toNatClampNeg ni)))) dr (.inl (k 2, 3200, .inl (upd fdr ((nI ((100 * (2 + 5 * t9)) + u13))).toNatClampNeg (vp_nar .boolean 0))))) H := hm
                              have hkp : kpx (fun a => a ∈ [mo, cn, ia, dr, en, la, wo, op, mk, ir, se, ec, lc, wc, ol, al]) M (mu (mu (mu (mu Mc2 mo (.inr (6, [.int 0, .ref cn, .ref ia, .ref dr, .ref en, .ref la, .ref wo, .int ni, .ref op, .ref mk, .ref ir, .int dn, .int md, .int pw, .int cm, .int wr, .ref se, .ref ec, .ref lc, .ref wc, .ref ol, .ref al, .int cs, .int hm9]))) cn (.inl (k 0, 32, .inl (upd fcn ((nI (2 + 5 * t9))).toNatClampNeg (nI (u13 + 1)))))) ia (.inl (k 0, 3200, .inl (upd fia ((nI ((100 * (2 + 5 * t9)) + u13))).toNatClampNeg ni)))) dr (.inl (k 2, 3200, .inl (upd fdr ((nI ((100 * (2 + 5 * t9)) + u13))).toNatClampNeg (vp_nar .boolean 0))))) := (hkp).self (by simp)
                              refine lv_aload_n hx hb dX6_make_175 rfl (lv_at hl 5 rfl) ?_
                              refine m_get (T := TX6) (N := 24) (ci := 6) (v := .ref la) hx hb hts wX6 hown hK hm ((mu_ne ne_mo_dr).trans ((mu_ne ne_mo_ia).trans ((mu_ne ne_mo_cn).trans (mu_self _ _ _)))) rfl 5 (by decide) f24 (fun _ h9 => h9) rfl dX6_make_176 ?_
                              refine lv_iload hx hb dX6_make_179 (lv_at hl 0 rfl) ?_
                              refine lv_iconst (v := 0) hx hb dX6_make_181 (by decide) ?_
                              refine m_iast hx hb hK hm hS 0 ((mu_ne ne_la_dr).trans ((mu_ne ne_la_ia).trans ((mu_ne ne_la_cn).trans ((mu_ne ne_la_mo).trans kla_2)))) rfl (vp_in_nI (by omega) (by decide)) dX6_make_182 (fun H locs hm hS => ?_)
                              have hrL : rng bL (upd fla ((nI ((100 * (2 + 5 * t9)) + u13))).toNatClampNeg 0) := (hrL).up _ 0 (show 0 ≤ 64 by omega)
                              have hm : mm D (AZ z) (mu (mu (mu (mu (mu Mc2 mo (.inr (6, [.int 0, .ref cn, .ref ia, .ref dr, .ref en, .ref la, .ref wo, .int ni, .ref op, .ref mk, .ref ir, .int dn, .int md, .int pw, .int cm, .int wr, .ref se, .ref ec, .ref lc, .ref wc, .ref ol, .ref al, .int cs, .int hm9]))) cn (.inl (k 0, 32, .inl (upd fcn ((nI (2 + 5 * t9))).toNatClampNeg (nI (u13 + 1)))))) ia (.inl (k 0, 3200, .inl (upd fia ((nI ((100 * (2 + 5 * t9)) + u13))).toNatClampNeg ni)))) dr (.inl (k 2, 3200, .inl (upd fdr ((nI ((100 * (2 + 5 * t9)) + u13))).toNatClampNeg (vp_nar .boolean 0))))) la (.inl (k 0, 3200, .inl (upd fla ((nI ((100 * (2 + 5 * t9)) + u13))).toNatClampNeg 0)))) H := hm
                              have hkp : kpx (fun a => a ∈ [mo, cn, ia, dr, en, la, wo, op, mk, ir, se, ec, lc, wc, ol, al]) M (mu (mu (mu (mu (mu Mc2 mo (.inr (6, [.int 0, .ref cn, .ref ia, .ref dr, .ref en, .ref la, .ref wo, .int ni, .ref op, .ref mk, .ref ir, .int dn, .int md, .int pw, .int cm, .int wr, .ref se, .ref ec, .ref lc, .ref wc, .ref ol, .ref al, .int cs, .int hm9]))) cn (.inl (k 0, 32, .inl (upd fcn ((nI (2 + 5 * t9))).toNatClampNeg (nI (u13 + 1)))))) ia (.inl (k 0, 3200, .inl (upd fia ((nI ((100 * (2 + 5 * t9)) + u13))).toNatClampNeg ni)))) dr (.inl (k 2, 3200, .inl (upd fdr ((nI ((100 * (2 + 5 * t9)) + u13))).toNatClampNeg (vp_nar .boolean 0))))) la (.inl (k 0, 3200, .inl (upd fla ((nI ((100 * (2 + 5 * t9)) + u13))).toNatClampNeg 0)))) := (hkp).self (by simp)
                              refine lv_iconst (v := 0) hx hb dX6_make_183 (by decide) ?_
                              refine lv_istore (lv' := [(9, .int 0), (8, .int (nI ((100 * (2 + 5 * t9)) + u13))), (7, .int (nI (2 + 5 * t9))), (6, .int (-1)), (5, .int (nI d104)), (4, .int (nI nb103)), (0, .ref mo), (1, .int (nI t9)), (2, .int path), (3, .int 0)]) hx hb dX6_make_184 hl (by decide) rfl (fun ls hl => ?_)
                              have hI0 : mI k (mu (mu (mu (mu (mu Mc2 mo (.inr (6, [.int 0, .ref cn, .ref ia, .ref dr, .ref en, .ref la, .ref wo, .int ni, .ref op, .ref mk, .ref ir, .int dn, .int md, .int pw, .int cm, .int wr, .ref se, .ref ec, .ref lc, .ref wc, .ref ol, .ref al, .int cs, .int hm9]))) cn (.inl (k 0, 32, .inl (upd fcn ((nI (2 + 5 * t9))).toNatClampNeg (nI (u13 + 1)))))) ia (.inl (k 0, 3200, .inl (upd fia ((nI ((100 * (2 + 5 * t9)) + u13))).toNatClampNeg ni)))) dr (.inl (k 2, 3200, .inl (upd fdr ((nI ((100 * (2 + 5 * t9)) + u13))).toNatClampNeg (vp_nar .boolean 0))))) la (.inl (k 0, 3200, .inl (upd fla ((nI ((100 * (2 + 5 * t9)) + u13))).toNatClampNeg 0)))) mo cn ia dr en la wo op mk ir se ec lc wc ol al dn md := ⟨_, _, _, _, _, _, _, (upd fcn ((nI (2 + 5 * t9))).toNatClampNeg (nI (u13 + 1))), (upd fia ((nI ((100 * (2 + 5 * t9)) + u13))).toNatClampNeg ni), (upd fdr ((nI ((100 * (2 + 5 * t9)) + u13))).toNatClampNeg (vp_nar .boolean 0)), fen, (upd fla ((nI ((100 * (2 + 5 * t9)) + u13))).toNatClampNeg 0), fwo, fop, fmk, fir_2, fse, fec, flc, fol, fal, fwc, hap, ((mu_ne ne_mo_la).trans ((mu_ne ne_mo_dr).trans ((mu_ne ne_mo_ia).trans ((mu_ne ne_mo_cn).trans (mu_self _ _ _))))), hmd, ⟨hrC, hrL, hrM⟩, ((mu_ne ne_cn_la).trans ((mu_ne ne_cn_dr).trans ((mu_ne ne_cn_ia).trans (mu_self _ _ _)))), ((mu_ne ne_ia_la).trans ((mu_ne ne_ia_dr).trans (mu_self _ _ _))), ((mu_ne ne_dr_la).trans (mu_self _ _ _)), ((mu_ne ne_en_la).trans ((mu_ne ne_en_dr).trans ((mu_ne ne_en_ia).trans ((mu_ne ne_en_cn).trans ((mu_ne ne_en_mo).trans ken_2))))), (mu_self _ _ _), ((mu_ne ne_wo_la).trans ((mu_ne ne_wo_dr).trans ((mu_ne ne_wo_ia).trans ((mu_ne ne_wo_cn).trans ((mu_ne ne_wo_mo).trans kwo_2))))), ((mu_ne ne_op_la).trans ((mu_ne ne_op_dr).trans ((mu_ne ne_op_ia).trans ((mu_ne ne_op_cn).trans ((mu_ne ne_op_mo).trans kop_2))))), ((mu_ne ne_mk_la).trans ((mu_ne ne_mk_dr).trans ((mu_ne ne_mk_ia).trans ((mu_ne ne_mk_cn).trans ((mu_ne ne_mk_mo).trans kmk_2))))), ((mu_ne ne_ir_la).trans ((mu_ne ne_ir_dr).trans ((mu_ne ne_ir_ia).trans ((mu_ne ne_ir_cn).trans ((mu_ne ne_ir_mo).trans hir_2))))), ((mu_ne ne_se_la).trans ((mu_ne ne_se_dr).trans ((mu_ne ne_se_ia).trans ((mu_ne ne_se_cn).trans ((mu_ne ne_se_mo).trans kse_2))))), ((mu_ne ne_ec_la).trans ((mu_ne ne_ec_dr).trans ((mu_ne ne_ec_ia).trans ((mu_ne ne_ec_cn).trans ((mu_ne ne_ec_mo).trans kec_2))))), ((mu_ne ne_lc_la).trans ((mu_ne ne_lc_dr).trans ((mu_ne ne_lc_ia).trans ((mu_ne ne_lc_cn).trans ((mu_ne ne_lc_mo).trans klc_2))))), ((mu_ne ne_wc_la).trans ((mu_ne ne_wc_dr).trans ((mu_ne ne_wc_ia).trans ((mu_ne ne_wc_cn).trans ((mu_ne ne_wc_mo).trans kwc_2))))), ((mu_ne ne_ol_la).trans ((mu_ne ne_ol_dr).trans ((mu_ne ne_ol_ia).trans ((mu_ne ne_ol_cn).trans ((mu_ne ne_ol_mo).trans kol_2))))), ((mu_ne ne_al_la).trans ((mu_ne ne_al_dr).trans ((mu_ne ne_al_ia).trans ((mu_ne ne_al_cn).trans ((mu_ne ne_al_mo).trans kal_2)))))⟩
                              refine W_loop (σ := Nat × mM) (fun ⟨j186, Ml186⟩ H locs ls => (0 ≤ j186 ∧ j186 < 2147483000) ∧ (mI k Ml186 mo cn ia dr en la wo op mk ir se ec lc wc ol al dn md) ∧ (kpx (fun a => a ∈ [mo, cn, ia, dr, en, la, wo, op, mk, ir, se, ec, lc, wc, ol, al]) M Ml186) ∧ (kpx (fun a => a ∈ [en]) (mu (mu (mu (mu (mu Mc2 mo (.inr (6, [.int 0, .ref cn, .ref ia, .ref dr, .ref en, .ref la, .ref wo, .int ni, .ref op, .ref mk, .ref ir, .int dn, .int md, .int pw, .int cm, .int wr, .ref se, .ref ec, .ref lc, .ref wc, .ref ol, .ref al, .int cs, .int hm9]))) cn (.inl (k 0, 32, .inl (upd fcn ((nI (2 + 5 * t9))).toNatClampNeg (nI (u13 + 1)))))) ia (.inl (k 0, 3200, .inl (upd fia ((nI ((100 * (2 + 5 * t9)) + u13))).toNatClampNeg ni)))) dr (.inl (k 2, 3200, .inl (upd fdr ((nI ((100 * (2 + 5 * t9)) + u13))).toNatClampNeg (vp_nar .boolean 0))))) la (.inl (k 0, 3200, .inl (upd fla ((nI ((100 * (2 + 5 * t9)) + u13))).toNatClampNeg 0)))) Ml186) ∧ mm D (AZ z) Ml186 H ∧ va_S (AZ z) s.heap H locs ∧ lv_has ls 10 [(9, .int (nI j186)), (8, .int (nI ((100 * (2 + 5 * t9)) + u13))), (7, .int (nI (2 + 5 * t9))), (6, .int (-1)), (5, .int (nI d104)), (4, .int (nI nb103)), (0, .ref mo), (1, .int (nI t9)), (2, .int path), (3, .int 0)]) (fun ⟨j186, Ml186⟩ => 2147483648 - j186) (fun _ => 0) (fun _ => 0) ?_ (0, (mu (mu (mu (mu (mu Mc2 mo (.inr (6, [.int 0, .ref cn, .ref ia, .ref dr, .ref en, .ref la, .ref wo, .int ni, .ref op, .ref mk, .ref ir, .int dn, .int md, .int pw, .int cm, .int wr, .ref se, .ref ec, .ref lc, .ref wc, .ref ol, .ref al, .int cs, .int hm9]))) cn (.inl (k 0, 32, .inl (upd fcn ((nI (2 + 5 * t9))).toNatClampNeg (nI (u13 + 1)))))) ia (.inl (k 0, 3200, .inl (upd fia ((nI ((100 * (2 + 5 * t9)) + u13))).toNatClampNeg ni)))) dr (.inl (k 2, 3200, .inl (upd fdr ((nI ((100 * (2 + 5 * t9)) + u13))).toNatClampNeg (vp_nar .boolean 0))))) la (.inl (k 0, 3200, .inl (upd fla ((nI ((100 * (2 + 5 * t9)) + u13))).toNatClampNeg 0))))) _ _ _ ⟨⟨Nat.le_refl _, by omega⟩, hI0, hkp, (kpx.refl _ _), hm, hS, lv_sub hl [0, 1, 2, 3, 4, 5, 6, 7, 8, 9] rfl⟩
                              intro ⟨j186, Ml186⟩ H locs ls hQ ih186
                              obtain ⟨hj186, hI, hkp, hkl186, hm, hS, hl⟩ := hQ
                              try dsimp only at hm hl ih186 hj186 hI hkp hkl186 ⊢
                              obtain ⟨_, _, _, _, _, _, _, _, _, _, fen_3, _, _, _, _, _, _, _, _, _, _, _, -, -, hmd_3, ⟨-, -, -⟩, -, -, -, hen_3, -, -, -, -, -, -, -, -, -, -, -⟩ := id hI
                              have kmo_3 := hkl186 _ _ (by simp only [List.mem_cons, List.not_mem_nil, or_false, not_or]; exact ne_mo_en) ((mu_ne ne_mo_la).trans ((mu_ne ne_mo_dr).trans ((mu_ne ne_mo_ia).trans ((mu_ne ne_mo_cn).trans (mu_self _ _ _)))))
                              have kcn_3 := hkl186 _ _ (by simp only [List.mem_cons, List.not_mem_nil, or_false, not_or]; exact ne_cn_en) ((mu_ne ne_cn_la).trans ((mu_ne ne_cn_dr).trans ((mu_ne ne_cn_ia).trans (mu_self _ _ _))))
                              have kia_3 := hkl186 _ _ (by simp only [List.mem_cons, List.not_mem_nil, or_false, not_or]; exact ne_ia_en) ((mu_ne ne_ia_la).trans ((mu_ne ne_ia_dr).trans (mu_self _ _ _)))
                              have kdr_3 := hkl186 _ _ (by simp only [List.mem_cons, List.not_mem_nil, or_false, not_or]; exact ne_dr_en) ((mu_ne ne_dr_la).trans (mu_self _ _ _))
                              have kla_3 := hkl186 _ _ (by simp only [List.mem_cons, List.not_mem_nil, or_false, not_or]; exact ne_la_en) (mu_self _ _ _)
                              have kwo_3 := hkl186 _ _ (by simp only [List.mem_cons, List.not_mem_nil, or_false, not_or]; exact ne_wo_en) ((mu_ne ne_wo_la).trans ((mu_ne ne_wo_dr).trans ((mu_ne ne_wo_ia).trans ((mu_ne ne_wo_cn).trans ((mu_ne ne_wo_mo).trans kwo_2)))))
                              have kop_3 := hkl186 _ _ (by simp only [List.mem_cons, List.not_mem_nil, or_false, not_or]; exact ne_op_en) ((mu_ne ne_op_la).trans ((mu_ne ne_op_dr).trans ((mu_ne ne_op_ia).trans ((mu_ne ne_op_cn).trans ((mu_ne ne_op_mo).trans kop_2)))))
                              have kmk_3 := hkl186 _ _ (by simp only [List.mem_cons, List.not_mem_nil, or_false, not_or]; exact ne_mk_en) ((mu_ne ne_mk_la).trans ((mu_ne ne_mk_dr).trans ((mu_ne ne_mk_ia).trans ((mu_ne ne_mk_cn).trans ((mu_ne ne_mk_mo).trans kmk_2)))))
                              have kir_3 := hkl186 _ _ (by simp only [List.mem_cons, List.not_mem_nil, or_false, not_or]; exact ne_ir_en) ((mu_ne ne_ir_la).trans ((mu_ne ne_ir_dr).trans ((mu_ne ne_ir_ia).trans ((mu_ne ne_ir_cn).trans ((mu_ne ne_ir_mo).trans hir_2)))))
                              have kse_3 := hkl186 _ _ (by simp only [List.mem_cons, List.not_mem_nil, or_false, not_or]; exact ne_se_en) ((mu_ne ne_se_la).trans ((mu_ne ne_se_dr).trans ((mu_ne ne_se_ia).trans ((mu_ne ne_se_cn).trans ((mu_ne ne_se_mo).trans kse_2)))))
                              have kec_3 := hkl186 _ _ (by simp only [List.mem_cons, List.not_mem_nil, or_false, not_or]; exact ne_ec_en) ((mu_ne ne_ec_la).trans ((mu_ne ne_ec_dr).trans ((mu_ne ne_ec_ia).trans ((mu_ne ne_ec_cn).trans ((mu_ne ne_ec_mo).trans kec_2)))))
                              have klc_3 := hkl186 _ _ (by simp only [List.mem_cons, List.not_mem_nil, or_false, not_or]; exact ne_lc_en) ((mu_ne ne_lc_la).trans ((mu_ne ne_lc_dr).trans ((mu_ne ne_lc_ia).trans ((mu_ne ne_lc_cn).trans ((mu_ne ne_lc_mo).trans klc_2)))))
                              have kwc_3 := hkl186 _ _ (by simp only [List.mem_cons, List.not_mem_nil, or_false, not_or]; exact ne_wc_en) ((mu_ne ne_wc_la).trans ((mu_ne ne_wc_dr).trans ((mu_ne ne_wc_ia).trans ((mu_ne ne_wc_cn).trans ((mu_ne ne_wc_mo).trans kwc_2)))))
                              have kol_3 := hkl186 _ _ (by simp only [List.mem_cons, List.not_mem_nil, or_false, not_or]; exact ne_ol_en) ((mu_ne ne_ol_la).trans ((mu_ne ne_ol_dr).trans ((mu_ne ne_ol_ia).trans ((mu_ne ne_ol_cn).trans ((mu_ne ne_ol_mo).trans kol_2)))))
                              have kal_3 := hkl186 _ _ (by simp only [List.mem_cons, List.not_mem_nil, or_false, not_or]; exact ne_al_en) ((mu_ne ne_al_la).trans ((mu_ne ne_al_dr).trans ((mu_ne ne_al_ia).trans ((mu_ne ne_al_cn).trans ((mu_ne ne_al_mo).trans kal_2)))))
                              refine lv_iload hx hb dX6_make_186 (lv_at hl 0 rfl) ?_
                              refine lv_bipush (v := 16) hx hb dX6_make_188 (by decide) ?_
                              refine lv_icmp_ge (tgt := 213) hx hb dX6_make_190 (by decide) (fun c16 => ?_) (fun c16 => ?_)
                              · have hqc16 : 16 ≤ j186 := nb_le (a := 16) (b := j186) (by omega) (by omega) c16
                                refine lv_iconst (v := 0) hx hb dX6_make_213 (by decide) ?_
                                refine lv_istore (lv' := [(9, .int 0), (8, .int (nI ((100 * (2 + 5 * t9)) + u13))), (7, .int (nI (2 + 5 * t9))), (6, .int (-1)), (5, .int (nI d104)), (4, .int (nI nb103)), (0, .ref mo), (1, .int (nI t9)), (2, .int path), (3, .int 0)]) hx hb dX6_make_214 hl (by decide) rfl (fun ls hl => ?_)
                                have hI0 : mI k Ml186 mo cn ia dr en la wo op mk ir se ec lc wc ol al dn md := ⟨_, _, _, _, _, _, _, (upd fcn ((nI (2 + 5 * t9))).toNatClampNeg (nI (u13 + 1))), (upd fia ((nI ((100 * (2 + 5 * t9)) + u13))).toNatClampNeg ni), (upd fdr ((nI ((100 * (2 + 5 * t9)) + u13))).toNatClampNeg (vp_nar .boolean 0)), fen_3, (upd fla ((nI ((100 * (2 + 5 * t9)) + u13))).toNatClampNeg 0), fwo, fop, fmk, fir_2, fse, fec, flc, fol, fal, fwc, hap, kmo_3, hmd, ⟨hrC, hrL, hrM⟩, kcn_3, kia_3, kdr_3, hen_3, kla_3, kwo_3, kop_3, kmk_3, kir_3, kse_3, kec_3, klc_3, kwc_3, kol_3, kal_3⟩
                                refine W_loop (σ := Nat × mM) (fun ⟨j216, Ml216⟩ H locs ls => (0 ≤ j216 ∧ j216 < 2147483000) ∧ (mI k Ml216 mo cn ia dr en la wo op mk ir se ec lc wc ol al dn md) ∧ (kpx (fun a => a ∈ [mo, cn, ia, dr, en, la, wo, op, mk, ir, se, ec, lc, wc, ol, al]) M Ml216) ∧ (kpx (fun a => a ∈ [wo]) Ml186 Ml216) ∧ mm D (AZ z) Ml216 H ∧ va_S (AZ z) s.heap H locs ∧ lv_has ls 10 [(9, .int (nI j216)), (8, .int (nI ((100 * (2 + 5 * t9)) + u13))), (7, .int (nI (2 + 5 * t9))), (6, .int (-1)), (5, .int (nI d104)), (4, .int (nI nb103)), (0, .ref mo), (1, .int (nI t9)), (2, .int path), (3, .int 0)]) (fun ⟨j216, Ml216⟩ => 2147483648 - j216) (fun _ => 0) (fun _ => 0) ?_ (0, Ml186) _ _ _ ⟨⟨Nat.le_refl _, by omega⟩, hI0, hkp, (kpx.refl _ _), hm, hS, lv_sub hl [0, 1, 2, 3, 4, 5, 6, 7, 8, 9] rfl⟩
                                intro ⟨j216, Ml216⟩ H locs ls hQ ih216
                                obtain ⟨hj216, hI, hkp, hkl216, hm, hS, hl⟩ := hQ
                                try dsimp only at hm hl ih216 hj216 hI hkp hkl216 ⊢
                                obtain ⟨_, _, _, _, _, _, _, _, _, _, _, _, fwo_4, _, _, _, _, _, _, _, _, _, -, -, hmd_4, ⟨-, -, -⟩, -, -, -, -, -, hwo_4, -, -, -, -, -, -, -, -, -⟩ := id hI
                                have kmo_4 := hkl216 _ _ (by simp only [List.mem_cons, List.not_mem_nil, or_false, not_or]; exact ne_mo_wo) kmo_3
                                have kcn_4 := hkl216 _ _ (by simp only [List.mem_cons, List.not_mem_nil, or_false, not_or]; exact ne_cn_wo) kcn_3
                                have kia_4 := hkl216 _ _ (by simp only [List.mem_cons, List.not_mem_nil, or_false, not_or]; exact ne_ia_wo) kia_3
                                have kdr_4 := hkl216 _ _ (by simp only [List.mem_cons, List.not_mem_nil, or_false, not_or]; exact ne_dr_wo) kdr_3
                                have ken_4 := hkl216 _ _ (by simp only [List.mem_cons, List.not_mem_nil, or_false, not_or]; exact ne_en_wo) hen_3
                                have kla_4 := hkl216 _ _ (by simp only [List.mem_cons, List.not_mem_nil, or_false, not_or]; exact ne_la_wo) kla_3
                                have kop_4 := hkl216 _ _ (by simp only [List.mem_cons, List.not_mem_nil, or_false, not_or]; exact ne_op_wo) kop_3
                                have kmk_4 := hkl216 _ _ (by simp only [List.mem_cons, List.not_mem_nil, or_false, not_or]; exact ne_mk_wo) kmk_3
                                have kir_4 := hkl216 _ _ (by simp only [List.mem_cons, List.not_mem_nil, or_false, not_or]; exact ne_ir_wo) kir_3
                                have kse_4 := hkl216 _ _ (by simp only [List.mem_cons, List.not_mem_nil, or_false, not_or]; exact ne_se_wo) kse_3
                                have kec_4 := hkl216 _ _ (by simp only [List.mem_cons, List.not_mem_nil, or_false, not_or]; exact ne_ec_wo) kec_3
                                have klc_4 := hkl216 _ _ (by simp only [List.mem_cons, List.not_mem_nil, or_false, not_or]; exact ne_lc_wo) klc_3
                                have kwc_4 := hkl216 _ _ (by simp only [List.mem_cons, List.not_mem_nil, or_false, not_or]; exact ne_wc_wo) kwc_3
                                have kol_4 := hkl216 _ _ (by simp only [List.mem_cons, List.not_mem_nil, or_false, not_or]; exact ne_ol_wo) kol_3
                                have kal_4 := hkl216 _ _ (by simp only [List.mem_cons, List.not_mem_nil, or_false, not_or]; exact ne_al_wo) kal_3
                                refine lv_iload hx hb dX6_make_216 (lv_at hl 0 rfl) ?_
                                refine lv_bipush (v := 64) hx hb dX6_make_218 (by decide) ?_
                                refine lv_icmp_ge (tgt := 243) hx hb dX6_make_220 (by decide) (fun c17 => ?_) (fun c17 => ?_)
                                · have hqc17 : 64 ≤ j216 := nb_le (a := 64) (b := j216) (by omega) (by omega) c17
                                  refine lv_aload_n hx hb dX6_make_243 rfl (lv_at hl 6 rfl) ?_
                                  refine m_get (T := TX6) (N := 24) (ci := 6) (v := .ref en) hx hb hts wX6 hown hK hm kmo_4 rfl 4 (by decide) f21 (fun _ h9 => h9) rfl dX6_make_244 ?_
                                  refine lv_bipush (v := 16) hx hb dX6_make_247 (by decide) ?_
                                  refine lv_iload hx hb dX6_make_249 (lv_at hl 5 rfl) ?_
                                  refine lv_imul hx hb dX6_make_251 ?_
                                  refine W.eq (g2 := F0 m 252 ls [.int (nI (16 * nb103)), .ref en]) (by rw [show ((16) * ((nI nb103)) : Int32) = nI (16 * nb103) from pk_mul 16 nb103]) ?_
                                  refine lv_iload hx hb dX6_make_252 (lv_at hl 4 rfl) ?_
                                  refine lv_iadd hx hb dX6_make_254 ?_
                                  refine W.eq (g2 := F0 m 255 ls [.int (nI ((16 * nb103) + d104)), .ref en]) (by rw [show (((nI (16 * nb103))) + ((nI d104)) : Int32) = nI ((16 * nb103) + d104) from nI_add (16 * nb103) d104]) ?_
                                  refine lv_aload_n hx hb dX6_make_255 rfl (lv_at hl 6 rfl) ?_
                                  refine m_get (T := TX6) (N := 24) (ci := 6) (v := .int ni) hx hb hts wX6 hown hK hm kmo_4 rfl 7 (by decide) f31 (fun _ h9 => h9) rfl dX6_make_256 ?_
                                  refine m_iast hx hb hK hm hS 0 ken_4 rfl (vp_in_nI (by omega) (by decide)) dX6_make_259 (fun H locs hm hS => ?_)
                                  have hm : mm D (AZ z) (mu Ml216 en (.inl (k 0, 51200, .inl (upd fen_3 ((nI ((16 * nb103) + d104))).toNatClampNeg ni)))) H := hm
                                  have hkp : kpx (fun a => a ∈ [mo, cn, ia, dr, en, la, wo, op, mk, ir, se, ec, lc, wc, ol, al]) M (mu Ml216 en (.inl (k 0, 51200, .inl (upd fen_3 ((nI ((16 * nb103) + d104))).toNatClampNeg ni)))) := (hkp).self (by simp)
                                  refine lv_aload_n hx hb dX6_make_260 rfl (lv_at hl 6 rfl) ?_
                                  refine lv_dup hx hb dX6_make_261 rfl ?_
                                  refine m_get (T := TX6) (N := 24) (ci := 6) (v := .int ni) hx hb hts wX6 hown hK hm ((mu_ne ne_mo_en).trans kmo_4) rfl 7 (by decide) f31 (fun _ h9 => h9) rfl dX6_make_262 ?_
                                  refine lv_iconst (v := 1) hx hb dX6_make_265 (by decide) ?_
                                  refine lv_iadd hx hb dX6_make_266 ?_
                                  refine m_put (T := TX6) (N := 24) (ci := 6) (v := .int (ni + 1)) (ty := .int) hx hb hts wX6 tyX6 tyX6_ok nmX6 hown hK hm hS ((mu_ne ne_mo_en).trans kmo_4) rfl 7 (by decide) f31 (fun _ h9 => h9) rfl (by decide +kernel) rfl rfl (Nat.le_of_ble_eq_true rfl) dX6_make_267 (fun H locs hm hS => ?_)
                                  have hm : mm D (AZ z) (mu (mu Ml216 en (.inl (k 0, 51200, .inl (upd fen_3 ((nI ((16 * nb103) + d104))).toNatClampNeg ni)))) mo (.inr (6, [.int 0, .ref cn, .ref ia, .ref dr, .ref en, .ref la, .ref wo, .int (ni + 1), .ref op, .ref mk, .ref ir, .int dn, .int md, .int pw, .int cm, .int wr, .ref se, .ref ec, .ref lc, .ref wc, .ref ol, .ref al, .int cs, .int hm9]))) H := hm
                                  have hkp : kpx (fun a => a ∈ [mo, cn, ia, dr, en, la, wo, op, mk, ir, se, ec, lc, wc, ol, al]) M (mu (mu Ml216 en (.inl (k 0, 51200, .inl (upd fen_3 ((nI ((16 * nb103) + d104))).toNatClampNeg ni)))) mo (.inr (6, [.int 0, .ref cn, .ref ia, .ref dr, .ref en, .ref la, .ref wo, .int (ni + 1), .ref op, .ref mk, .ref ir, .int dn, .int md, .int pw, .int cm, .int wr, .ref se, .ref ec, .ref lc, .ref wc, .ref ol, .ref al, .int cs, .int hm9]))) := (hkp).self (by simp)
                                  refine W.vret hx hb hr (fun t ht hW => ⟨⟨none, _, rfl, ?_, by rw [ht]; exact hm⟩, hS.F ht⟩) hS.2.2 dX6_make_270
                                  exact ⟨rfl, ⟨_, _, _, _, _, _, _, (upd fcn ((nI (2 + 5 * t9))).toNatClampNeg (nI (u13 + 1))), (upd fia ((nI ((100 * (2 + 5 * t9)) + u13))).toNatClampNeg ni), (upd fdr ((nI ((100 * (2 + 5 * t9)) + u13))).toNatClampNeg (vp_nar .boolean 0)), (upd fen_3 ((nI ((16 * nb103) + d104))).toNatClampNeg ni), (upd fla ((nI ((100 * (2 + 5 * t9)) + u13))).toNatClampNeg 0), fwo_4, fop, fmk, fir_2, fse, fec, flc, fol, fal, fwc, hap, (mu_self _ _ _), hmd, ⟨hrC, hrL, hrM⟩, ((mu_ne ne_cn_mo).trans ((mu_ne ne_cn_en).trans kcn_4)), ((mu_ne ne_ia_mo).trans ((mu_ne ne_ia_en).trans kia_4)), ((mu_ne ne_dr_mo).trans ((mu_ne ne_dr_en).trans kdr_4)), ((mu_ne ne_en_mo).trans (mu_self _ _ _)), ((mu_ne ne_la_mo).trans ((mu_ne ne_la_en).trans kla_4)), ((mu_ne ne_wo_mo).trans ((mu_ne ne_wo_en).trans hwo_4)), ((mu_ne ne_op_mo).trans ((mu_ne ne_op_en).trans kop_4)), ((mu_ne ne_mk_mo).trans ((mu_ne ne_mk_en).trans kmk_4)), ((mu_ne ne_ir_mo).trans ((mu_ne ne_ir_en).trans kir_4)), ((mu_ne ne_se_mo).trans ((mu_ne ne_se_en).trans kse_4)), ((mu_ne ne_ec_mo).trans ((mu_ne ne_ec_en).trans kec_4)), ((mu_ne ne_lc_mo).trans ((mu_ne ne_lc_en).trans klc_4)), ((mu_ne ne_wc_mo).trans ((mu_ne ne_wc_en).trans kwc_4)), ((mu_ne ne_ol_mo).trans ((mu_ne ne_ol_en).trans kol_4)), ((mu_ne ne_al_mo).trans ((mu_ne ne_al_en).trans kal_4))⟩, hkp⟩
                                · have hqc17 : j216 < 64 := nb_nle (a := 64) (b := j216) (by omega) (by omega) c17
                                  refine lv_aload_n hx hb dX6_make_223 rfl (lv_at hl 6 rfl) ?_
                                  refine m_get (T := TX6) (N := 24) (ci := 6) (v := .ref wo) hx hb hts wX6 hown hK hm kmo_4 rfl 6 (by decide) f28 (fun _ h9 => h9) rfl dX6_make_224 ?_
                                  refine lv_bipush (v := 64) hx hb dX6_make_227 (by decide) ?_
                                  refine lv_iload hx hb dX6_make_229 (lv_at hl 1 rfl) ?_
                                  refine lv_imul hx hb dX6_make_231 ?_
                                  refine W.eq (g2 := F0 m 232 ls [.int (nI (64 * ((100 * (2 + 5 * t9)) + u13))), .ref wo]) (by rw [show ((64) * ((nI ((100 * (2 + 5 * t9)) + u13))) : Int32) = nI (64 * ((100 * (2 + 5 * t9)) + u13)) from pk_mul 64 ((100 * (2 + 5 * t9)) + u13)]) ?_
                                  refine lv_iload hx hb dX6_make_232 (lv_at hl 0 rfl) ?_
                                  refine lv_iadd hx hb dX6_make_234 ?_
                                  refine W.eq (g2 := F0 m 235 ls [.int (nI ((64 * ((100 * (2 + 5 * t9)) + u13)) + j216)), .ref wo]) (by rw [show (((nI (64 * ((100 * (2 + 5 * t9)) + u13)))) + ((nI j216)) : Int32) = nI ((64 * ((100 * (2 + 5 * t9)) + u13)) + j216) from nI_add (64 * ((100 * (2 + 5 * t9)) + u13)) j216]) ?_
                                  refine lv_iconst (v := 0) hx hb dX6_make_235 (by decide) ?_
                                  refine m_iast hx hb hK hm hS 0 hwo_4 rfl (vp_in_nI (by omega) (by decide)) dX6_make_236 (fun H locs hm hS => ?_)
                                  have hm : mm D (AZ z) (mu Ml216 wo (.inl (k 0, 204800, .inl (upd fwo_4 ((nI ((64 * ((100 * (2 + 5 * t9)) + u13)) + j216))).toNatClampNeg 0)))) H := hm
                                  have hkp : kpx (fun a => a ∈ [mo, cn, ia, dr, en, la, wo, op, mk, ir, se, ec, lc, wc, ol, al]) M (mu Ml216 wo (.inl (k 0, 204800, .inl (upd fwo_4 ((nI ((64 * ((100 * (2 + 5 * t9)) + u13)) + j216))).toNatClampNeg 0)))) := (hkp).self (by simp)
                                  have hkl216 : kpx (fun a => a ∈ [wo]) Ml186 (mu Ml216 wo (.inl (k 0, 204800, .inl (upd fwo_4 ((nI ((64 * ((100 * (2 + 5 * t9)) + u13)) + j216))).toNatClampNeg 0)))) := hkl216.self (by simp)
                                  refine lv_iinc (v := ((nI j216) + 1)) (lv' := [(9, .int ((nI j216) + 1)), (8, .int (nI ((100 * (2 + 5 * t9)) + u13))), (7, .int (nI (2 + 5 * t9))), (6, .int (-1)), (5, .int (nI d104)), (4, .int (nI nb103)), (0, .ref mo), (1, .int (nI t9)), (2, .int path), (3, .int 0)]) hx hb dX6_make_237 hl (k := 0) rfl rfl (by decide) rfl (fun ls hl => ?_)
                                  refine lv_goto (tgt := 216) hx hb dX6_make_240 (by decide) ?_
                                  rw [nI_1] at hl
                                  exact ih216 (j216 + 1, (mu Ml216 wo (.inl (k 0, 204800, .inl (upd fwo_4 ((nI ((64 * ((100 * (2 + 5 * t9)) + u13)) + j216))).toNatClampNeg 0))))) _ _ _ ⟨⟨by omega, by omega⟩, ⟨_, _, _, _, _, _, _, (upd fcn ((nI (2 + 5 * t9))).toNatClampNeg (nI (u13 + 1))), (upd fia ((nI ((100 * (2 + 5 * t9)) + u13))).toNatClampNeg ni), (upd fdr ((nI ((100 * (2 + 5 * t9)) + u13))).toNatClampNeg (vp_nar .boolean 0)), fen_3, (upd fla ((nI ((100 * (2 + 5 * t9)) + u13))).toNatClampNeg 0), (upd fwo_4 ((nI ((64 * ((100 * (2 + 5 * t9)) + u13)) + j216))).toNatClampNeg 0), fop, fmk, fir_2, fse, fec, flc, fol, fal, fwc, hap, ((mu_ne ne_mo_wo).trans kmo_4), hmd, ⟨hrC, hrL, hrM⟩, ((mu_ne ne_cn_wo).trans kcn_4), ((mu_ne ne_ia_wo).trans kia_4), ((mu_ne ne_dr_wo).trans kdr_4), ((mu_ne ne_en_wo).trans ken_4), ((mu_ne ne_la_wo).trans kla_4), (mu_self _ _ _), ((mu_ne ne_op_wo).trans kop_4), ((mu_ne ne_mk_wo).trans kmk_4), ((mu_ne ne_ir_wo).trans kir_4), ((mu_ne ne_se_wo).trans kse_4), ((mu_ne ne_ec_wo).trans kec_4), ((mu_ne ne_lc_wo).trans klc_4), ((mu_ne ne_wc_wo).trans kwc_4), ((mu_ne ne_ol_wo).trans kol_4), ((mu_ne ne_al_wo).trans kal_4)⟩, hkp, hkl216, hm, hS, lv_sub hl [0, 1, 2, 3, 4, 5, 6, 7, 8, 9] rfl⟩ (by show 2147483648 - (j216 + 1) < 2147483648 - j216; omega)
                              · have hqc16 : j186 < 16 := nb_nle (a := 16) (b := j186) (by omega) (by omega) c16
                                refine lv_aload_n hx hb dX6_make_193 rfl (lv_at hl 6 rfl) ?_
                                refine m_get (T := TX6) (N := 24) (ci := 6) (v := .ref en) hx hb hts wX6 hown hK hm kmo_3 rfl 4 (by decide) f21 (fun _ h9 => h9) rfl dX6_make_194 ?_
                                refine lv_bipush (v := 16) hx hb dX6_make_197 (by decide) ?_
                                refine lv_iload hx hb dX6_make_199 (lv_at hl 1 rfl) ?_
                                refine lv_imul hx hb dX6_make_201 ?_
                                refine W.eq (g2 := F0 m 202 ls [.int (nI (16 * ((100 * (2 + 5 * t9)) + u13))), .ref en]) (by rw [show ((16) * ((nI ((100 * (2 + 5 * t9)) + u13))) : Int32) = nI (16 * ((100 * (2 + 5 * t9)) + u13)) from pk_mul 16 ((100 * (2 + 5 * t9)) + u13)]) ?_
                                refine lv_iload hx hb dX6_make_202 (lv_at hl 0 rfl) ?_
                                refine lv_iadd hx hb dX6_make_204 ?_
                                refine W.eq (g2 := F0 m 205 ls [.int (nI ((16 * ((100 * (2 + 5 * t9)) + u13)) + j186)), .ref en]) (by rw [show (((nI (16 * ((100 * (2 + 5 * t9)) + u13)))) + ((nI j186)) : Int32) = nI ((16 * ((100 * (2 + 5 * t9)) + u13)) + j186) from nI_add (16 * ((100 * (2 + 5 * t9)) + u13)) j186]) ?_
                                refine lv_iconst (v := 0) hx hb dX6_make_205 (by decide) ?_
                                refine m_iast hx hb hK hm hS 0 hen_3 rfl (vp_in_nI (by omega) (by decide)) dX6_make_206 (fun H locs hm hS => ?_)
                                have hm : mm D (AZ z) (mu Ml186 en (.inl (k 0, 51200, .inl (upd fen_3 ((nI ((16 * ((100 * (2 + 5 * t9)) + u13)) + j186))).toNatClampNeg 0)))) H := hm
                                have hkp : kpx (fun a => a ∈ [mo, cn, ia, dr, en, la, wo, op, mk, ir, se, ec, lc, wc, ol, al]) M (mu Ml186 en (.inl (k 0, 51200, .inl (upd fen_3 ((nI ((16 * ((100 * (2 + 5 * t9)) + u13)) + j186))).toNatClampNeg 0)))) := (hkp).self (by simp)
                                have hkl186 : kpx (fun a => a ∈ [en]) (mu (mu (mu (mu (mu Mc2 mo (.inr (6, [.int 0, .ref cn, .ref ia, .ref dr, .ref en, .ref la, .ref wo, .int ni, .ref op, .ref mk, .ref ir, .int dn, .int md, .int pw, .int cm, .int wr, .ref se, .ref ec, .ref lc, .ref wc, .ref ol, .ref al, .int cs, .int hm9]))) cn (.inl (k 0, 32, .inl (upd fcn ((nI (2 + 5 * t9))).toNatClampNeg (nI (u13 + 1)))))) ia (.inl (k 0, 3200, .inl (upd fia ((nI ((100 * (2 + 5 * t9)) + u13))).toNatClampNeg ni)))) dr (.inl (k 2, 3200, .inl (upd fdr ((nI ((100 * (2 + 5 * t9)) + u13))).toNatClampNeg (vp_nar .boolean 0))))) la (.inl (k 0, 3200, .inl (upd fla ((nI ((100 * (2 + 5 * t9)) + u13))).toNatClampNeg 0)))) (mu Ml186 en (.inl (k 0, 51200, .inl (upd fen_3 ((nI ((16 * ((100 * (2 + 5 * t9)) + u13)) + j186))).toNatClampNeg 0)))) := hkl186.self (by simp)
                                refine lv_iinc (v := ((nI j186) + 1)) (lv' := [(9, .int ((nI j186) + 1)), (8, .int (nI ((100 * (2 + 5 * t9)) + u13))), (7, .int (nI (2 + 5 * t9))), (6, .int (-1)), (5, .int (nI d104)), (4, .int (nI nb103)), (0, .ref mo), (1, .int (nI t9)), (2, .int path), (3, .int 0)]) hx hb dX6_make_207 hl (k := 0) rfl rfl (by decide) rfl (fun ls hl => ?_)
                                refine lv_goto (tgt := 186) hx hb dX6_make_210 (by decide) ?_
                                rw [nI_1] at hl
                                exact ih186 (j186 + 1, (mu Ml186 en (.inl (k 0, 51200, .inl (upd fen_3 ((nI ((16 * ((100 * (2 + 5 * t9)) + u13)) + j186))).toNatClampNeg 0))))) _ _ _ ⟨⟨by omega, by omega⟩, ⟨_, _, _, _, _, _, _, (upd fcn ((nI (2 + 5 * t9))).toNatClampNeg (nI (u13 + 1))), (upd fia ((nI ((100 * (2 + 5 * t9)) + u13))).toNatClampNeg ni), (upd fdr ((nI ((100 * (2 + 5 * t9)) + u13))).toNatClampNeg (vp_nar .boolean 0)), (upd fen_3 ((nI ((16 * ((100 * (2 + 5 * t9)) + u13)) + j186))).toNatClampNeg 0), (upd fla ((nI ((100 * (2 + 5 * t9)) + u13))).toNatClampNeg 0), fwo, fop, fmk, fir_2, fse, fec, flc, fol, fal, fwc, hap, ((mu_ne ne_mo_en).trans kmo_3), hmd, ⟨hrC, hrL, hrM⟩, ((mu_ne ne_cn_en).trans kcn_3), ((mu_ne ne_ia_en).trans kia_3), ((mu_ne ne_dr_en).trans kdr_3), (mu_self _ _ _), ((mu_ne ne_la_en).trans kla_3), ((mu_ne ne_wo_en).trans kwo_3), ((mu_ne ne_op_en).trans kop_3), ((mu_ne ne_mk_en).trans kmk_3), ((mu_ne ne_ir_en).trans kir_3), ((mu_ne ne_se_en).trans kse_3), ((mu_ne ne_ec_en).trans kec_3), ((mu_ne ne_lc_en).trans klc_3), ((mu_ne ne_wc_en).trans kwc_3), ((mu_ne ne_ol_en).trans kol_3), ((mu_ne ne_al_en).trans kal_3)⟩, hkp, hkl186, hm, hS, lv_sub hl [0, 1, 2, 3, 4, 5, 6, 7, 8, 9] rfl⟩ (by show 2147483648 - (j186 + 1) < 2147483648 - j186; omega)
                            · first | exact absurd c15 (by decide) | exact absurd (by decide) c15
                          · have hqc14 : u13 = 60 := by first | exact nb_eq (by omega) (by omega) c14 | exact nb_eq (by omega) (by omega) (Classical.not_not.mp c14)
                            refine lv_iconst (v := 4) hx hb dX6_make_118 (by decide) ?_
                            refine lv_goto (tgt := 123) hx hb dX6_make_119 (by decide) ?_
                            refine m_kV (As := [.int 4]) (rest := []) (rm := { frames := 0, cells := 0, slots := 0, locals := 0 }) ⟨hx, hb, hml, hown, hts⟩ (s_X6_failsE l D k z _ mo cn ia dr en la wo op mk ir se ec lc wc ol al 0 ni dn md pw cm wr cs hm9 4 kmo_2) (cwV 1 hts gX6_make_X6_fails rfl rfl rfl (by decide +kernel) ⟨Nat.le_of_ble_eq_true rfl, Nat.le_of_ble_eq_true rfl⟩) (m_recv hK hm (q := (RX6, TX6, 24)) rfl kmo_2) hz hcx hm hS rfl hl.1 rfl (Nat.le_of_ble_eq_true rfl) dX6_make_123 ⟨Nat.le_of_ble_eq_true rfl, Nat.le_of_ble_eq_true rfl⟩ (fun v M1 H locs hv hm hS => ?_)
                            obtain ⟨hv1, hM1⟩ := hv
                            have hv1 : v = some (.int 1) := hv1.trans (by decide)
                            subst hv1
                            rw [hM1] at hm
                            refine W.eq (g2 := F0 m 126 ls [.int 1]) rfl ?_
                            refine W.widen (k := 0) (n := 0) (Nat.le_of_ble_eq_true rfl) (Nat.le_of_ble_eq_true rfl) ?_
                            have hm : mm D (AZ z) (mu Mc2 mo (.inr (6, [.int 4, .ref cn, .ref ia, .ref dr, .ref en, .ref la, .ref wo, .int ni, .ref op, .ref mk, .ref ir, .int dn, .int md, .int pw, .int cm, .int wr, .ref se, .ref ec, .ref lc, .ref wc, .ref ol, .ref al, .int cs, .int hm9]))) H := hm
                            have hkp : kpx (fun a => a ∈ [mo, cn, ia, dr, en, la, wo, op, mk, ir, se, ec, lc, wc, ol, al]) M (mu Mc2 mo (.inr (6, [.int 4, .ref cn, .ref ia, .ref dr, .ref en, .ref la, .ref wo, .int ni, .ref op, .ref mk, .ref ir, .int dn, .int md, .int pw, .int cm, .int wr, .ref se, .ref ec, .ref lc, .ref wc, .ref ol, .ref al, .int cs, .int hm9]))) := (hkp).self (by simp)
                            refine lv_if_eq (tgt := 130) hx hb dX6_make_126 (by decide) (fun c18 => ?_) (fun c18 => ?_)
                            · first | exact absurd c18 (by decide) | exact absurd (by decide) c18
                            · refine W.vret hx hb hr (fun t ht hW => ⟨⟨none, _, rfl, ?_, by rw [ht]; exact hm⟩, hS.F ht⟩) hS.2.2 dX6_make_129
                              exact ⟨rfl, ⟨_, _, _, _, _, _, _, fcn, fia, fdr, fen, fla, fwo, fop, fmk, fir_2, fse, fec, flc, fol, fal, fwc, hap, (mu_self _ _ _), hmd, ⟨hrC, hrL, hrM⟩, ((mu_ne ne_cn_mo).trans kcn_2), ((mu_ne ne_ia_mo).trans kia_2), ((mu_ne ne_dr_mo).trans kdr_2), ((mu_ne ne_en_mo).trans ken_2), ((mu_ne ne_la_mo).trans kla_2), ((mu_ne ne_wo_mo).trans kwo_2), ((mu_ne ne_op_mo).trans kop_2), ((mu_ne ne_mk_mo).trans kmk_2), ((mu_ne ne_ir_mo).trans hir_2), ((mu_ne ne_se_mo).trans kse_2), ((mu_ne ne_ec_mo).trans kec_2), ((mu_ne ne_lc_mo).trans klc_2), ((mu_ne ne_wc_mo).trans kwc_2), ((mu_ne ne_ol_mo).trans kol_2), ((mu_ne ne_al_mo).trans kal_2)⟩, hkp⟩
                      · have huc105 := Nat.le_trans hgb105 (bC_le _)
                        subst hf105
                        refine W.eq (g2 := F0 m 91 ls [.int (nI nb105)]) rfl ?_
                        refine W.widen (k := 0) (n := 0) (Nat.le_of_ble_eq_true rfl) (Nat.le_of_ble_eq_true rfl) ?_
                        have hm : mm D (AZ z) Mc2 H := hm
                        refine lv_istore (lv' := [(6, .int (nI nb105)), (5, .int (nI d104)), (4, .int (nI nb103)), (0, .ref mo), (1, .int (nI t9)), (2, .int path), (3, .int 0)]) hx hb dX6_make_91 hl (by decide) rfl (fun ls hl => ?_)
                        refine lv_aload_n hx hb dX6_make_93 rfl (lv_at hl 3 rfl) ?_
                        refine lv_iload_n hx hb dX6_make_94 rfl (lv_at hl 4 rfl) ?_
                        have hI0 : mI k Mc2 mo cn ia dr en la wo op mk ir se ec lc wc ol al dn md := ⟨_, _, _, _, _, _, _, fcn, fia, fdr, fen, fla, fwo, fop, fmk, fir_2, fse, fec, flc, fol, fal, fwc, hap, kmo_2, hmd, ⟨hrC, hrL, hrM⟩, kcn_2, kia_2, kdr_2, ken_2, kla_2, kwo_2, kop_2, kmk_2, hir_2, kse_2, kec_2, klc_2, kwc_2, kol_2, kal_2⟩
                        refine m_kV (As := [.int (nI t9)]) (rest := []) (rm := { frames := 0, cells := 0, slots := 0, locals := 0 }) ⟨hx, hb, hml, hown, hts⟩ (s_X6_tree l D k z _ mo cn ia dr en la wo op mk ir se ec lc wc ol al dn md t9 (by omega) hI0) (cwV 1 hts gX6_make_X6_tree rfl rfl rfl (by decide +kernel) ⟨Nat.le_of_ble_eq_true rfl, Nat.le_of_ble_eq_true rfl⟩) (m_recv hK hm (q := (RX6, TX6, 24)) rfl kmo_2) hz hcx hm hS rfl hl.1 rfl (Nat.le_of_ble_eq_true rfl) dX6_make_95 ⟨Nat.le_of_ble_eq_true rfl, Nat.le_of_ble_eq_true rfl⟩ (fun v M1 H locs hv hm hS => ?_)
                        obtain ⟨hv1, hM1⟩ := hv
                        subst hv1
                        rw [hM1] at hm
                        refine W.eq (g2 := F0 m 98 ls [.int (nI (2 + 5 * t9))]) rfl ?_
                        refine W.widen (k := 0) (n := 0) (Nat.le_of_ble_eq_true rfl) (Nat.le_of_ble_eq_true rfl) ?_
                        have hm : mm D (AZ z) Mc2 H := hm
                        refine lv_istore (lv' := [(7, .int (nI (2 + 5 * t9))), (6, .int (nI nb105)), (5, .int (nI d104)), (4, .int (nI nb103)), (0, .ref mo), (1, .int (nI t9)), (2, .int path), (3, .int 0)]) hx hb dX6_make_98 hl (by decide) rfl (fun ls hl => ?_)
                        refine lv_aload_n hx hb dX6_make_100 rfl (lv_at hl 4 rfl) ?_
                        refine lv_iload hx hb dX6_make_101 (lv_at hl 1 rfl) ?_
                        refine lv_if_ge (tgt := 118) hx hb dX6_make_103 (by decide) (fun c19 => ?_) (fun c19 => ?_)
                        · have hqc19 : 0 ≤ nb105 := nb_le (a := 0) (b := nb105) (by omega) (by omega) c19
                          refine lv_iconst (v := 4) hx hb dX6_make_118 (by decide) ?_
                          refine lv_goto (tgt := 123) hx hb dX6_make_119 (by decide) ?_
                          refine m_kV (As := [.int 4]) (rest := []) (rm := { frames := 0, cells := 0, slots := 0, locals := 0 }) ⟨hx, hb, hml, hown, hts⟩ (s_X6_failsE l D k z _ mo cn ia dr en la wo op mk ir se ec lc wc ol al 0 ni dn md pw cm wr cs hm9 4 kmo_2) (cwV 1 hts gX6_make_X6_fails rfl rfl rfl (by decide +kernel) ⟨Nat.le_of_ble_eq_true rfl, Nat.le_of_ble_eq_true rfl⟩) (m_recv hK hm (q := (RX6, TX6, 24)) rfl kmo_2) hz hcx hm hS rfl hl.1 rfl (Nat.le_of_ble_eq_true rfl) dX6_make_123 ⟨Nat.le_of_ble_eq_true rfl, Nat.le_of_ble_eq_true rfl⟩ (fun v M1 H locs hv hm hS => ?_)
                          obtain ⟨hv1, hM1⟩ := hv
                          have hv1 : v = some (.int 1) := hv1.trans (by decide)
                          subst hv1
                          rw [hM1] at hm
                          refine W.eq (g2 := F0 m 126 ls [.int 1]) rfl ?_
                          refine W.widen (k := 0) (n := 0) (Nat.le_of_ble_eq_true rfl) (Nat.le_of_ble_eq_true rfl) ?_
                          have hm : mm D (AZ z) (mu Mc2 mo (.inr (6, [.int 4, .ref cn, .ref ia, .ref dr, .ref en, .ref la, .ref wo, .int ni, .ref op, .ref mk, .ref ir, .int dn, .int md, .int pw, .int cm, .int wr, .ref se, .ref ec, .ref lc, .ref wc, .ref ol, .ref al, .int cs, .int hm9]))) H := hm
                          have hkp : kpx (fun a => a ∈ [mo, cn, ia, dr, en, la, wo, op, mk, ir, se, ec, lc, wc, ol, al]) M (mu Mc2 mo (.inr (6, [.int 4, .ref cn, .ref ia, .ref dr, .ref en, .ref la, .ref wo, .int ni, .ref op, .ref mk, .ref ir, .int dn, .int md, .int pw, .int cm, .int wr, .ref se, .ref ec, .ref lc, .ref wc, .ref ol, .ref al, .int cs, .int hm9]))) := (hkp).self (by simp)
                          refine lv_if_eq (tgt := 130) hx hb dX6_make_126 (by decide) (fun c20 => ?_) (fun c20 => ?_)
                          · first | exact absurd c20 (by decide) | exact absurd (by decide) c20
                          · refine W.vret hx hb hr (fun t ht hW => ⟨⟨none, _, rfl, ?_, by rw [ht]; exact hm⟩, hS.F ht⟩) hS.2.2 dX6_make_129
                            exact ⟨rfl, ⟨_, _, _, _, _, _, _, fcn, fia, fdr, fen, fla, fwo, fop, fmk, fir_2, fse, fec, flc, fol, fal, fwc, hap, (mu_self _ _ _), hmd, ⟨hrC, hrL, hrM⟩, ((mu_ne ne_cn_mo).trans kcn_2), ((mu_ne ne_ia_mo).trans kia_2), ((mu_ne ne_dr_mo).trans kdr_2), ((mu_ne ne_en_mo).trans ken_2), ((mu_ne ne_la_mo).trans kla_2), ((mu_ne ne_wo_mo).trans kwo_2), ((mu_ne ne_op_mo).trans kop_2), ((mu_ne ne_mk_mo).trans kmk_2), ((mu_ne ne_ir_mo).trans hir_2), ((mu_ne ne_se_mo).trans kse_2), ((mu_ne ne_ec_mo).trans kec_2), ((mu_ne ne_lc_mo).trans klc_2), ((mu_ne ne_wc_mo).trans kwc_2), ((mu_ne ne_ol_mo).trans kol_2), ((mu_ne ne_al_mo).trans kal_2)⟩, hkp⟩
                        · have hqc19 : nb105 < 0 := nb_nle (a := 0) (b := nb105) (by omega) (by omega) c19
                          omega
                    · first | exact absurd c11 (by decide) | exact absurd (by decide) c11
                  · refine lv_iconst (v := 4) hx hb dX6_make_64 (by decide) ?_
                    refine lv_goto (tgt := 69) hx hb dX6_make_65 (by decide) ?_
                    refine m_kV (As := [.int 4]) (rest := []) (rm := { frames := 0, cells := 0, slots := 0, locals := 0 }) ⟨hx, hb, hml, hown, hts⟩ (s_X6_failsE l D k z _ mo cn ia dr en la wo op mk ir se ec lc wc ol al 0 ni dn md pw cm wr cs hm9 4 kmo_1) (cwV 1 hts gX6_make_X6_fails rfl rfl rfl (by decide +kernel) ⟨Nat.le_of_ble_eq_true rfl, Nat.le_of_ble_eq_true rfl⟩) (m_recv hK hm (q := (RX6, TX6, 24)) rfl kmo_1) hz hcx hm hS rfl hl.1 rfl (Nat.le_of_ble_eq_true rfl) dX6_make_69 ⟨Nat.le_of_ble_eq_true rfl, Nat.le_of_ble_eq_true rfl⟩ (fun v M1 H locs hv hm hS => ?_)
                    obtain ⟨hv1, hM1⟩ := hv
                    have hv1 : v = some (.int 1) := hv1.trans (by decide)
                    subst hv1
                    rw [hM1] at hm
                    refine W.eq (g2 := F0 m 72 ls [.int 1]) rfl ?_
                    refine W.widen (k := 0) (n := 0) (Nat.le_of_ble_eq_true rfl) (Nat.le_of_ble_eq_true rfl) ?_
                    have hm : mm D (AZ z) (mu Mc1 mo (.inr (6, [.int 4, .ref cn, .ref ia, .ref dr, .ref en, .ref la, .ref wo, .int ni, .ref op, .ref mk, .ref ir, .int dn, .int md, .int pw, .int cm, .int wr, .ref se, .ref ec, .ref lc, .ref wc, .ref ol, .ref al, .int cs, .int hm9]))) H := hm
                    have hkp : kpx (fun a => a ∈ [mo, cn, ia, dr, en, la, wo, op, mk, ir, se, ec, lc, wc, ol, al]) M (mu Mc1 mo (.inr (6, [.int 4, .ref cn, .ref ia, .ref dr, .ref en, .ref la, .ref wo, .int ni, .ref op, .ref mk, .ref ir, .int dn, .int md, .int pw, .int cm, .int wr, .ref se, .ref ec, .ref lc, .ref wc, .ref ol, .ref al, .int cs, .int hm9]))) := (hkp).self (by simp)
                    refine lv_if_eq (tgt := 76) hx hb dX6_make_72 (by decide) (fun c21 => ?_) (fun c21 => ?_)
                    · first | exact absurd c21 (by decide) | exact absurd (by decide) c21
                    · refine W.vret hx hb hr (fun t ht hW => ⟨⟨none, _, rfl, ?_, by rw [ht]; exact hm⟩, hS.F ht⟩) hS.2.2 dX6_make_75
                      exact ⟨rfl, ⟨_, _, _, _, _, _, _, fcn, fia, fdr, fen, fla, fwo, fop, fmk, fir_1, fse, fec, flc, fol, fal, fwc, hap, (mu_self _ _ _), hmd, ⟨hrC, hrL, hrM⟩, ((mu_ne ne_cn_mo).trans kcn_1), ((mu_ne ne_ia_mo).trans kia_1), ((mu_ne ne_dr_mo).trans kdr_1), ((mu_ne ne_en_mo).trans ken_1), ((mu_ne ne_la_mo).trans kla_1), ((mu_ne ne_wo_mo).trans kwo_1), ((mu_ne ne_op_mo).trans kop_1), ((mu_ne ne_mk_mo).trans kmk_1), ((mu_ne ne_ir_mo).trans hir_1), ((mu_ne ne_se_mo).trans kse_1), ((mu_ne ne_ec_mo).trans kec_1), ((mu_ne ne_lc_mo).trans klc_1), ((mu_ne ne_wc_mo).trans kwc_1), ((mu_ne ne_ol_mo).trans kol_1), ((mu_ne ne_al_mo).trans kal_1)⟩, hkp⟩
                · have hqc9 : nb103 < 0 := nb_nle (a := 0) (b := nb103) (by omega) (by omega) c9
                  omega
            · first | exact absurd c6 (by decide) | exact absurd (by decide) c6
          · refine lv_iconst (v := 2) hx hb dX6_make_24 (by decide) ?_
            refine lv_goto (tgt := 29) hx hb dX6_make_25 (by decide) ?_
            refine m_kV (As := [.int 2]) (rest := []) (rm := { frames := 0, cells := 0, slots := 0, locals := 0 }) ⟨hx, hb, hml, hown, hts⟩ (s_X6_failsE l D k z _ mo cn ia dr en la wo op mk ir se ec lc wc ol al cd ni dn md pw cm wr cs hm9 2 hM) (cwV 1 hts gX6_make_X6_fails rfl rfl rfl (by decide +kernel) ⟨Nat.le_of_ble_eq_true rfl, Nat.le_of_ble_eq_true rfl⟩) (m_recv hK hm (q := (RX6, TX6, 24)) rfl hM) hz hcx hm hS rfl hl.1 rfl (Nat.le_of_ble_eq_true rfl) dX6_make_29 ⟨Nat.le_of_ble_eq_true rfl, Nat.le_of_ble_eq_true rfl⟩ (fun v M1 H locs hv hm hS => ?_)
            obtain ⟨hv1, hM1⟩ := hv
            have hv1 : v = some (.int 1) := hv1.trans (by decide)
            subst hv1
            rw [hM1] at hm
            refine W.eq (g2 := F0 m 32 ls [.int 1]) rfl ?_
            refine W.widen (k := 0) (n := 0) (Nat.le_of_ble_eq_true rfl) (Nat.le_of_ble_eq_true rfl) ?_
            have hm : mm D (AZ z) (mu M mo (.inr (6, [.int 2, .ref cn, .ref ia, .ref dr, .ref en, .ref la, .ref wo, .int ni, .ref op, .ref mk, .ref ir, .int dn, .int md, .int pw, .int cm, .int wr, .ref se, .ref ec, .ref lc, .ref wc, .ref ol, .ref al, .int cs, .int hm9]))) H := hm
            have hkp : kpx (fun a => a ∈ [mo, cn, ia, dr, en, la, wo, op, mk, ir, se, ec, lc, wc, ol, al]) M (mu M mo (.inr (6, [.int 2, .ref cn, .ref ia, .ref dr, .ref en, .ref la, .ref wo, .int ni, .ref op, .ref mk, .ref ir, .int dn, .int md, .int pw, .int cm, .int wr, .ref se, .ref ec, .ref lc, .ref wc, .ref ol, .ref al, .int cs, .int hm9]))) := (hkp).self (by simp)
            refine lv_if_eq (tgt := 36) hx hb dX6_make_32 (by decide) (fun c22 => ?_) (fun c22 => ?_)
            · first | exact absurd c22 (by decide) | exact absurd (by decide) c22
            · refine W.vret hx hb hr (fun t ht hW => ⟨⟨none, _, rfl, ?_, by rw [ht]; exact hm⟩, hS.F ht⟩) hS.2.2 dX6_make_35
              exact ⟨rfl, ⟨_, _, _, _, _, _, _, fcn, fia, fdr, fen, fla, fwo, fop, fmk, fir, fse, fec, flc, fol, fal, fwc, hap, (mu_self _ _ _), hmd, ⟨hrC, hrL, hrM⟩, ((mu_ne ne_cn_mo).trans hcn), ((mu_ne ne_ia_mo).trans hia), ((mu_ne ne_dr_mo).trans hdr), ((mu_ne ne_en_mo).trans hen), ((mu_ne ne_la_mo).trans hla), ((mu_ne ne_wo_mo).trans hwo), ((mu_ne ne_op_mo).trans hop), ((mu_ne ne_mk_mo).trans hmk), ((mu_ne ne_ir_mo).trans hir), ((mu_ne ne_se_mo).trans hse), ((mu_ne ne_ec_mo).trans hec), ((mu_ne ne_lc_mo).trans hlc), ((mu_ne ne_wc_mo).trans hwc), ((mu_ne ne_ol_mo).trans hol), ((mu_ne ne_al_mo).trans hal)⟩, hkp⟩
      · subst hv1
        refine W.eq (g2 := F0 m 17 ls [.int 0, .ref mo]) rfl ?_
        refine W.widen (k := 0) (n := 0) (Nat.le_of_ble_eq_true rfl) (Nat.le_of_ble_eq_true rfl) ?_
        have hm : mm D (AZ z) M H := hm
        refine lv_if_eq (tgt := 24) hx hb dX6_make_17 (by decide) (fun c23 => ?_) (fun c23 => ?_)
        · refine lv_iconst (v := 2) hx hb dX6_make_24 (by decide) ?_
          refine lv_goto (tgt := 29) hx hb dX6_make_25 (by decide) ?_
          refine m_kV (As := [.int 2]) (rest := []) (rm := { frames := 0, cells := 0, slots := 0, locals := 0 }) ⟨hx, hb, hml, hown, hts⟩ (s_X6_failsE l D k z _ mo cn ia dr en la wo op mk ir se ec lc wc ol al cd ni dn md pw cm wr cs hm9 2 hM) (cwV 1 hts gX6_make_X6_fails rfl rfl rfl (by decide +kernel) ⟨Nat.le_of_ble_eq_true rfl, Nat.le_of_ble_eq_true rfl⟩) (m_recv hK hm (q := (RX6, TX6, 24)) rfl hM) hz hcx hm hS rfl hl.1 rfl (Nat.le_of_ble_eq_true rfl) dX6_make_29 ⟨Nat.le_of_ble_eq_true rfl, Nat.le_of_ble_eq_true rfl⟩ (fun v M1 H locs hv hm hS => ?_)
          obtain ⟨hv1, hM1⟩ := hv
          have hv1 : v = some (.int 1) := hv1.trans (by decide)
          subst hv1
          rw [hM1] at hm
          refine W.eq (g2 := F0 m 32 ls [.int 1]) rfl ?_
          refine W.widen (k := 0) (n := 0) (Nat.le_of_ble_eq_true rfl) (Nat.le_of_ble_eq_true rfl) ?_
          have hm : mm D (AZ z) (mu M mo (.inr (6, [.int 2, .ref cn, .ref ia, .ref dr, .ref en, .ref la, .ref wo, .int ni, .ref op, .ref mk, .ref ir, .int dn, .int md, .int pw, .int cm, .int wr, .ref se, .ref ec, .ref lc, .ref wc, .ref ol, .ref al, .int cs, .int hm9]))) H := hm
          have hkp : kpx (fun a => a ∈ [mo, cn, ia, dr, en, la, wo, op, mk, ir, se, ec, lc, wc, ol, al]) M (mu M mo (.inr (6, [.int 2, .ref cn, .ref ia, .ref dr, .ref en, .ref la, .ref wo, .int ni, .ref op, .ref mk, .ref ir, .int dn, .int md, .int pw, .int cm, .int wr, .ref se, .ref ec, .ref lc, .ref wc, .ref ol, .ref al, .int cs, .int hm9]))) := (hkp).self (by simp)
          refine lv_if_eq (tgt := 36) hx hb dX6_make_32 (by decide) (fun c24 => ?_) (fun c24 => ?_)
          · first | exact absurd c24 (by decide) | exact absurd (by decide) c24
          · refine W.vret hx hb hr (fun t ht hW => ⟨⟨none, _, rfl, ?_, by rw [ht]; exact hm⟩, hS.F ht⟩) hS.2.2 dX6_make_35
            exact ⟨rfl, ⟨_, _, _, _, _, _, _, fcn, fia, fdr, fen, fla, fwo, fop, fmk, fir, fse, fec, flc, fol, fal, fwc, hap, (mu_self _ _ _), hmd, ⟨hrC, hrL, hrM⟩, ((mu_ne ne_cn_mo).trans hcn), ((mu_ne ne_ia_mo).trans hia), ((mu_ne ne_dr_mo).trans hdr), ((mu_ne ne_en_mo).trans hen), ((mu_ne ne_la_mo).trans hla), ((mu_ne ne_wo_mo).trans hwo), ((mu_ne ne_op_mo).trans hop), ((mu_ne ne_mk_mo).trans hmk), ((mu_ne ne_ir_mo).trans hir), ((mu_ne ne_se_mo).trans hse), ((mu_ne ne_ec_mo).trans hec), ((mu_ne ne_lc_mo).trans hlc), ((mu_ne ne_wc_mo).trans hwc), ((mu_ne ne_ol_mo).trans hol), ((mu_ne ne_al_mo).trans hal)⟩, hkp⟩
        · first | exact absurd c23 (by decide) | exact absurd (by decide) c23
    · first | exact absurd c3 (by decide) | exact absurd (by decide) c3

set_option maxHeartbeats 4000000 in
set_option maxRecDepth 100000 in
theorem s_X6_make1 (l : Launch) (D : va_G) (k : Nat → ClassId) (z : Nat) (M : mM) (mo cn ia dr en la wo op mk ir se ec lc wc ol al : Nat) (dn md : Int32)  (tq path : Int32) (hbd : md ≠ 0 → dn ≠ 0) (hI : mI k M mo cn ia dr en la wo op mk ir se ec lc wc ol al dn md) : mK l yX6_make wsX6_make ({ frames := 5, cells := 0, slots := 0, locals := 119 }) D k z [.ref mo, .int tq, .int path, .int 1] M (fun v M' => (v = none) ∧ mI k M' mo cn ia dr en la wo op mk ir se ec lc wc ol al dn md ∧ kpx (fun a => a ∈ [mo, cn, ia, dr, en, la, wo, op, mk, ir, se, ec, lc, wc, ol, al]) M M') := by
  refine Met.ofW (cc := cX6_make) (maxL := 10) (ret := none) (by decide) rfl ?_
  intro p e s m args below meth c s₁ B hml hv
  obtain ⟨rfl, hz, hcx, hm⟩ := hv
  have hx := B.exec
  have hb := B.bytes
  have hr := B.returns
  have hts := atoms_spec (ws := wsX6_make) B.pre
  have hown : s.vm.findClass RX6 = some m.cls := findClass_of_methodNamed B.named
  have hlocks := B.notSynchronized
  have hK := hcx.1
  have hS : va_S (AZ z) s.heap s.heap [] := va_S.rf
  have hA : ∀ q, s.heap.size ≤ q → AZ z q := fun q h => Nat.le_trans hz h
  have hl := lv_entry ([.ref mo, .int tq, .int path, .int 1]) (n := 10) (Nat.le_of_ble_eq_true rfl)
  rw [lg_entry_eq]
  generalize (lg_sl ([.ref mo, .int tq, .int path, .int 1]) ++ List.replicate (10 - (lg_sl ([.ref mo, .int tq, .int path, .int 1])).length) Slot.unset).toArray = ls at hl ⊢
  have hl : lv_has ls 10 [(0, .ref mo), (1, .int tq), (2, .int path), (3, .int 1)] := hl
  have f7 := hts (.fieldLink RX6 7 "CommitTreeModel" "counts" "[I") (by decide +kernel)
  have f13 := hts (.fieldLink RX6 13 "CommitTreeModel" "ids" "[I") (by decide +kernel)
  have f16 := hts (.fieldLink RX6 16 "CommitTreeModel" "dirs" "[Z") (by decide +kernel)
  have f21 := hts (.fieldLink RX6 21 "CommitTreeModel" "entries" "[I") (by decide +kernel)
  have f24 := hts (.fieldLink RX6 24 "CommitTreeModel" "lengths" "[I") (by decide +kernel)
  have f28 := hts (.fieldLink RX6 28 "CommitTreeModel" "words" "[I") (by decide +kernel)
  have f31 := hts (.fieldLink RX6 31 "CommitTreeModel" "nextId" "I") (by decide +kernel)
  have wX6 : ∀ w ∈ wsX60, w ∈ wsX6_make := by decide +kernel
  obtain ⟨cd, ni, pw, cm, wr, cs, hm9, fcn, fia, fdr, fen, fla, fwo, fop, fmk, fir, fse, fec, flc, fol, fal, fwc, hap, hM, hmd, ⟨hrC, hrL, hrM⟩, hcn, hia, hdr, hen, hla, hwo, hop, hmk, hir, hse, hec, hlc, hwc, hol, hal⟩ := id hI
  have ne_mo_cn : nq mo cn := pw_ne hap 0 1 (by decide) (Nat.le_of_ble_eq_true rfl)
  have ne_cn_mo : nq cn mo := Ne.symm ne_mo_cn
  have ne_mo_ia : nq mo ia := pw_ne hap 0 2 (by decide) (Nat.le_of_ble_eq_true rfl)
  have ne_ia_mo : nq ia mo := Ne.symm ne_mo_ia
  have ne_mo_dr : nq mo dr := pw_ne hap 0 3 (by decide) (Nat.le_of_ble_eq_true rfl)
  have ne_dr_mo : nq dr mo := Ne.symm ne_mo_dr
  have ne_mo_en : nq mo en := pw_ne hap 0 4 (by decide) (Nat.le_of_ble_eq_true rfl)
  have ne_en_mo : nq en mo := Ne.symm ne_mo_en
  have ne_mo_la : nq mo la := pw_ne hap 0 5 (by decide) (Nat.le_of_ble_eq_true rfl)
  have ne_la_mo : nq la mo := Ne.symm ne_mo_la
  have ne_mo_wo : nq mo wo := pw_ne hap 0 6 (by decide) (Nat.le_of_ble_eq_true rfl)
  have ne_wo_mo : nq wo mo := Ne.symm ne_mo_wo
  have ne_mo_op : nq mo op := pw_ne hap 0 7 (by decide) (Nat.le_of_ble_eq_true rfl)
  have ne_op_mo : nq op mo := Ne.symm ne_mo_op
  have ne_mo_mk : nq mo mk := pw_ne hap 0 8 (by decide) (Nat.le_of_ble_eq_true rfl)
  have ne_mk_mo : nq mk mo := Ne.symm ne_mo_mk
  have ne_mo_ir : nq mo ir := pw_ne hap 0 9 (by decide) (Nat.le_of_ble_eq_true rfl)
  have ne_ir_mo : nq ir mo := Ne.symm ne_mo_ir
  have ne_mo_se : nq mo se := pw_ne hap 0 10 (by decide) (Nat.le_of_ble_eq_true rfl)
  have ne_se_mo : nq se mo := Ne.symm ne_mo_se
  have ne_mo_ec : nq mo ec := pw_ne hap 0 11 (by decide) (Nat.le_of_ble_eq_true rfl)
  have ne_ec_mo : nq ec mo := Ne.symm ne_mo_ec
  have ne_mo_lc : nq mo lc := pw_ne hap 0 12 (by decide) (Nat.le_of_ble_eq_true rfl)
  have ne_lc_mo : nq lc mo := Ne.symm ne_mo_lc
  have ne_mo_wc : nq mo wc := pw_ne hap 0 13 (by decide) (Nat.le_of_ble_eq_true rfl)
  have ne_wc_mo : nq wc mo := Ne.symm ne_mo_wc
  have ne_mo_ol : nq mo ol := pw_ne hap 0 14 (by decide) (Nat.le_of_ble_eq_true rfl)
  have ne_ol_mo : nq ol mo := Ne.symm ne_mo_ol
  have ne_mo_al : nq mo al := pw_ne hap 0 15 (by decide) (Nat.le_of_ble_eq_true rfl)
  have ne_al_mo : nq al mo := Ne.symm ne_mo_al
  have ne_cn_ia : nq cn ia := pw_ne hap 1 2 (by decide) (Nat.le_of_ble_eq_true rfl)
  have ne_ia_cn : nq ia cn := Ne.symm ne_cn_ia
  have ne_cn_dr : nq cn dr := pw_ne hap 1 3 (by decide) (Nat.le_of_ble_eq_true rfl)
  have ne_dr_cn : nq dr cn := Ne.symm ne_cn_dr
  have ne_cn_en : nq cn en := pw_ne hap 1 4 (by decide) (Nat.le_of_ble_eq_true rfl)
  have ne_en_cn : nq en cn := Ne.symm ne_cn_en
  have ne_cn_la : nq cn la := pw_ne hap 1 5 (by decide) (Nat.le_of_ble_eq_true rfl)
  have ne_la_cn : nq la cn := Ne.symm ne_cn_la
  have ne_cn_wo : nq cn wo := pw_ne hap 1 6 (by decide) (Nat.le_of_ble_eq_true rfl)
  have ne_wo_cn : nq wo cn := Ne.symm ne_cn_wo
  have ne_cn_op : nq cn op := pw_ne hap 1 7 (by decide) (Nat.le_of_ble_eq_true rfl)
  have ne_op_cn : nq op cn := Ne.symm ne_cn_op
  have ne_cn_mk : nq cn mk := pw_ne hap 1 8 (by decide) (Nat.le_of_ble_eq_true rfl)
  have ne_mk_cn : nq mk cn := Ne.symm ne_cn_mk
  have ne_cn_ir : nq cn ir := pw_ne hap 1 9 (by decide) (Nat.le_of_ble_eq_true rfl)
  have ne_ir_cn : nq ir cn := Ne.symm ne_cn_ir
  have ne_cn_se : nq cn se := pw_ne hap 1 10 (by decide) (Nat.le_of_ble_eq_true rfl)
  have ne_se_cn : nq se cn := Ne.symm ne_cn_se
  have ne_cn_ec : nq cn ec := pw_ne hap 1 11 (by decide) (Nat.le_of_ble_eq_true rfl)
  have ne_ec_cn : nq ec cn := Ne.symm ne_cn_ec
  have ne_cn_lc : nq cn lc := pw_ne hap 1 12 (by decide) (Nat.le_of_ble_eq_true rfl)
  have ne_lc_cn : nq lc cn := Ne.symm ne_cn_lc
  have ne_cn_wc : nq cn wc := pw_ne hap 1 13 (by decide) (Nat.le_of_ble_eq_true rfl)
  have ne_wc_cn : nq wc cn := Ne.symm ne_cn_wc
  have ne_cn_ol : nq cn ol := pw_ne hap 1 14 (by decide) (Nat.le_of_ble_eq_true rfl)
  have ne_ol_cn : nq ol cn := Ne.symm ne_cn_ol
  have ne_cn_al : nq cn al := pw_ne hap 1 15 (by decide) (Nat.le_of_ble_eq_true rfl)
  have ne_al_cn : nq al cn := Ne.symm ne_cn_al
  have ne_ia_dr : nq ia dr := pw_ne hap 2 3 (by decide) (Nat.le_of_ble_eq_true rfl)
  have ne_dr_ia : nq dr ia := Ne.symm ne_ia_dr
  have ne_ia_en : nq ia en := pw_ne hap 2 4 (by decide) (Nat.le_of_ble_eq_true rfl)
  have ne_en_ia : nq en ia := Ne.symm ne_ia_en
  have ne_ia_la : nq ia la := pw_ne hap 2 5 (by decide) (Nat.le_of_ble_eq_true rfl)
  have ne_la_ia : nq la ia := Ne.symm ne_ia_la
  have ne_ia_wo : nq ia wo := pw_ne hap 2 6 (by decide) (Nat.le_of_ble_eq_true rfl)
  have ne_wo_ia : nq wo ia := Ne.symm ne_ia_wo
  have ne_ia_op : nq ia op := pw_ne hap 2 7 (by decide) (Nat.le_of_ble_eq_true rfl)
  have ne_op_ia : nq op ia := Ne.symm ne_ia_op
  have ne_ia_mk : nq ia mk := pw_ne hap 2 8 (by decide) (Nat.le_of_ble_eq_true rfl)
  have ne_mk_ia : nq mk ia := Ne.symm ne_ia_mk
  have ne_ia_ir : nq ia ir := pw_ne hap 2 9 (by decide) (Nat.le_of_ble_eq_true rfl)
  have ne_ir_ia : nq ir ia := Ne.symm ne_ia_ir
  have ne_ia_se : nq ia se := pw_ne hap 2 10 (by decide) (Nat.le_of_ble_eq_true rfl)
  have ne_se_ia : nq se ia := Ne.symm ne_ia_se
  have ne_ia_ec : nq ia ec := pw_ne hap 2 11 (by decide) (Nat.le_of_ble_eq_true rfl)
  have ne_ec_ia : nq ec ia := Ne.symm ne_ia_ec
  have ne_ia_lc : nq ia lc := pw_ne hap 2 12 (by decide) (Nat.le_of_ble_eq_true rfl)
  have ne_lc_ia : nq lc ia := Ne.symm ne_ia_lc
  have ne_ia_wc : nq ia wc := pw_ne hap 2 13 (by decide) (Nat.le_of_ble_eq_true rfl)
  have ne_wc_ia : nq wc ia := Ne.symm ne_ia_wc
  have ne_ia_ol : nq ia ol := pw_ne hap 2 14 (by decide) (Nat.le_of_ble_eq_true rfl)
  have ne_ol_ia : nq ol ia := Ne.symm ne_ia_ol
  have ne_ia_al : nq ia al := pw_ne hap 2 15 (by decide) (Nat.le_of_ble_eq_true rfl)
  have ne_al_ia : nq al ia := Ne.symm ne_ia_al
  have ne_dr_en : nq dr en := pw_ne hap 3 4 (by decide) (Nat.le_of_ble_eq_true rfl)
  have ne_en_dr : nq en dr := Ne.symm ne_dr_en
  have ne_dr_la : nq dr la := pw_ne hap 3 5 (by decide) (Nat.le_of_ble_eq_true rfl)
  have ne_la_dr : nq la dr := Ne.symm ne_dr_la
  have ne_dr_wo : nq dr wo := pw_ne hap 3 6 (by decide) (Nat.le_of_ble_eq_true rfl)
  have ne_wo_dr : nq wo dr := Ne.symm ne_dr_wo
  have ne_dr_op : nq dr op := pw_ne hap 3 7 (by decide) (Nat.le_of_ble_eq_true rfl)
  have ne_op_dr : nq op dr := Ne.symm ne_dr_op
  have ne_dr_mk : nq dr mk := pw_ne hap 3 8 (by decide) (Nat.le_of_ble_eq_true rfl)
  have ne_mk_dr : nq mk dr := Ne.symm ne_dr_mk
  have ne_dr_ir : nq dr ir := pw_ne hap 3 9 (by decide) (Nat.le_of_ble_eq_true rfl)
  have ne_ir_dr : nq ir dr := Ne.symm ne_dr_ir
  have ne_dr_se : nq dr se := pw_ne hap 3 10 (by decide) (Nat.le_of_ble_eq_true rfl)
  have ne_se_dr : nq se dr := Ne.symm ne_dr_se
  have ne_dr_ec : nq dr ec := pw_ne hap 3 11 (by decide) (Nat.le_of_ble_eq_true rfl)
  have ne_ec_dr : nq ec dr := Ne.symm ne_dr_ec
  have ne_dr_lc : nq dr lc := pw_ne hap 3 12 (by decide) (Nat.le_of_ble_eq_true rfl)
  have ne_lc_dr : nq lc dr := Ne.symm ne_dr_lc
  have ne_dr_wc : nq dr wc := pw_ne hap 3 13 (by decide) (Nat.le_of_ble_eq_true rfl)
  have ne_wc_dr : nq wc dr := Ne.symm ne_dr_wc
  have ne_dr_ol : nq dr ol := pw_ne hap 3 14 (by decide) (Nat.le_of_ble_eq_true rfl)
  have ne_ol_dr : nq ol dr := Ne.symm ne_dr_ol
  have ne_dr_al : nq dr al := pw_ne hap 3 15 (by decide) (Nat.le_of_ble_eq_true rfl)
  have ne_al_dr : nq al dr := Ne.symm ne_dr_al
  have ne_en_la : nq en la := pw_ne hap 4 5 (by decide) (Nat.le_of_ble_eq_true rfl)
  have ne_la_en : nq la en := Ne.symm ne_en_la
  have ne_en_wo : nq en wo := pw_ne hap 4 6 (by decide) (Nat.le_of_ble_eq_true rfl)
  have ne_wo_en : nq wo en := Ne.symm ne_en_wo
  have ne_en_op : nq en op := pw_ne hap 4 7 (by decide) (Nat.le_of_ble_eq_true rfl)
  have ne_op_en : nq op en := Ne.symm ne_en_op
  have ne_en_mk : nq en mk := pw_ne hap 4 8 (by decide) (Nat.le_of_ble_eq_true rfl)
  have ne_mk_en : nq mk en := Ne.symm ne_en_mk
  have ne_en_ir : nq en ir := pw_ne hap 4 9 (by decide) (Nat.le_of_ble_eq_true rfl)
  have ne_ir_en : nq ir en := Ne.symm ne_en_ir
  have ne_en_se : nq en se := pw_ne hap 4 10 (by decide) (Nat.le_of_ble_eq_true rfl)
  have ne_se_en : nq se en := Ne.symm ne_en_se
  have ne_en_ec : nq en ec := pw_ne hap 4 11 (by decide) (Nat.le_of_ble_eq_true rfl)
  have ne_ec_en : nq ec en := Ne.symm ne_en_ec
  have ne_en_lc : nq en lc := pw_ne hap 4 12 (by decide) (Nat.le_of_ble_eq_true rfl)
  have ne_lc_en : nq lc en := Ne.symm ne_en_lc
  have ne_en_wc : nq en wc := pw_ne hap 4 13 (by decide) (Nat.le_of_ble_eq_true rfl)
  have ne_wc_en : nq wc en := Ne.symm ne_en_wc
  have ne_en_ol : nq en ol := pw_ne hap 4 14 (by decide) (Nat.le_of_ble_eq_true rfl)
  have ne_ol_en : nq ol en := Ne.symm ne_en_ol
  have ne_en_al : nq en al := pw_ne hap 4 15 (by decide) (Nat.le_of_ble_eq_true rfl)
  have ne_al_en : nq al en := Ne.symm ne_en_al
  have ne_la_wo : nq la wo := pw_ne hap 5 6 (by decide) (Nat.le_of_ble_eq_true rfl)
  have ne_wo_la : nq wo la := Ne.symm ne_la_wo
  have ne_la_op : nq la op := pw_ne hap 5 7 (by decide) (Nat.le_of_ble_eq_true rfl)
  have ne_op_la : nq op la := Ne.symm ne_la_op
  have ne_la_mk : nq la mk := pw_ne hap 5 8 (by decide) (Nat.le_of_ble_eq_true rfl)
  have ne_mk_la : nq mk la := Ne.symm ne_la_mk
  have ne_la_ir : nq la ir := pw_ne hap 5 9 (by decide) (Nat.le_of_ble_eq_true rfl)
  have ne_ir_la : nq ir la := Ne.symm ne_la_ir
  have ne_la_se : nq la se := pw_ne hap 5 10 (by decide) (Nat.le_of_ble_eq_true rfl)
  have ne_se_la : nq se la := Ne.symm ne_la_se
  have ne_la_ec : nq la ec := pw_ne hap 5 11 (by decide) (Nat.le_of_ble_eq_true rfl)
  have ne_ec_la : nq ec la := Ne.symm ne_la_ec
  have ne_la_lc : nq la lc := pw_ne hap 5 12 (by decide) (Nat.le_of_ble_eq_true rfl)
  have ne_lc_la : nq lc la := Ne.symm ne_la_lc
  have ne_la_wc : nq la wc := pw_ne hap 5 13 (by decide) (Nat.le_of_ble_eq_true rfl)
  have ne_wc_la : nq wc la := Ne.symm ne_la_wc
  have ne_la_ol : nq la ol := pw_ne hap 5 14 (by decide) (Nat.le_of_ble_eq_true rfl)
  have ne_ol_la : nq ol la := Ne.symm ne_la_ol
  have ne_la_al : nq la al := pw_ne hap 5 15 (by decide) (Nat.le_of_ble_eq_true rfl)
  have ne_al_la : nq al la := Ne.symm ne_la_al
  have ne_wo_op : nq wo op := pw_ne hap 6 7 (by decide) (Nat.le_of_ble_eq_true rfl)
  have ne_op_wo : nq op wo := Ne.symm ne_wo_op
  have ne_wo_mk : nq wo mk := pw_ne hap 6 8 (by decide) (Nat.le_of_ble_eq_true rfl)
  have ne_mk_wo : nq mk wo := Ne.symm ne_wo_mk
  have ne_wo_ir : nq wo ir := pw_ne hap 6 9 (by decide) (Nat.le_of_ble_eq_true rfl)
  have ne_ir_wo : nq ir wo := Ne.symm ne_wo_ir
  have ne_wo_se : nq wo se := pw_ne hap 6 10 (by decide) (Nat.le_of_ble_eq_true rfl)
  have ne_se_wo : nq se wo := Ne.symm ne_wo_se
  have ne_wo_ec : nq wo ec := pw_ne hap 6 11 (by decide) (Nat.le_of_ble_eq_true rfl)
  have ne_ec_wo : nq ec wo := Ne.symm ne_wo_ec
  have ne_wo_lc : nq wo lc := pw_ne hap 6 12 (by decide) (Nat.le_of_ble_eq_true rfl)
  have ne_lc_wo : nq lc wo := Ne.symm ne_wo_lc
  have ne_wo_wc : nq wo wc := pw_ne hap 6 13 (by decide) (Nat.le_of_ble_eq_true rfl)
  have ne_wc_wo : nq wc wo := Ne.symm ne_wo_wc
  have ne_wo_ol : nq wo ol := pw_ne hap 6 14 (by decide) (Nat.le_of_ble_eq_true rfl)
  have ne_ol_wo : nq ol wo := Ne.symm ne_wo_ol
  have ne_wo_al : nq wo al := pw_ne hap 6 15 (by decide) (Nat.le_of_ble_eq_true rfl)
  have ne_al_wo : nq al wo := Ne.symm ne_wo_al
  have ne_op_mk : nq op mk := pw_ne hap 7 8 (by decide) (Nat.le_of_ble_eq_true rfl)
  have ne_mk_op : nq mk op := Ne.symm ne_op_mk
  have ne_op_ir : nq op ir := pw_ne hap 7 9 (by decide) (Nat.le_of_ble_eq_true rfl)
  have ne_ir_op : nq ir op := Ne.symm ne_op_ir
  have ne_op_se : nq op se := pw_ne hap 7 10 (by decide) (Nat.le_of_ble_eq_true rfl)
  have ne_se_op : nq se op := Ne.symm ne_op_se
  have ne_op_ec : nq op ec := pw_ne hap 7 11 (by decide) (Nat.le_of_ble_eq_true rfl)
  have ne_ec_op : nq ec op := Ne.symm ne_op_ec
  have ne_op_lc : nq op lc := pw_ne hap 7 12 (by decide) (Nat.le_of_ble_eq_true rfl)
  have ne_lc_op : nq lc op := Ne.symm ne_op_lc
  have ne_op_wc : nq op wc := pw_ne hap 7 13 (by decide) (Nat.le_of_ble_eq_true rfl)
  have ne_wc_op : nq wc op := Ne.symm ne_op_wc
  have ne_op_ol : nq op ol := pw_ne hap 7 14 (by decide) (Nat.le_of_ble_eq_true rfl)
  have ne_ol_op : nq ol op := Ne.symm ne_op_ol
  have ne_op_al : nq op al := pw_ne hap 7 15 (by decide) (Nat.le_of_ble_eq_true rfl)
  have ne_al_op : nq al op := Ne.symm ne_op_al
  have ne_mk_ir : nq mk ir := pw_ne hap 8 9 (by decide) (Nat.le_of_ble_eq_true rfl)
  have ne_ir_mk : nq ir mk := Ne.symm ne_mk_ir
  have ne_mk_se : nq mk se := pw_ne hap 8 10 (by decide) (Nat.le_of_ble_eq_true rfl)
  have ne_se_mk : nq se mk := Ne.symm ne_mk_se
  have ne_mk_ec : nq mk ec := pw_ne hap 8 11 (by decide) (Nat.le_of_ble_eq_true rfl)
  have ne_ec_mk : nq ec mk := Ne.symm ne_mk_ec
  have ne_mk_lc : nq mk lc := pw_ne hap 8 12 (by decide) (Nat.le_of_ble_eq_true rfl)
  have ne_lc_mk : nq lc mk := Ne.symm ne_mk_lc
  have ne_mk_wc : nq mk wc := pw_ne hap 8 13 (by decide) (Nat.le_of_ble_eq_true rfl)
  have ne_wc_mk : nq wc mk := Ne.symm ne_mk_wc
  have ne_mk_ol : nq mk ol := pw_ne hap 8 14 (by decide) (Nat.le_of_ble_eq_true rfl)
  have ne_ol_mk : nq ol mk := Ne.symm ne_mk_ol
  have ne_mk_al : nq mk al := pw_ne hap 8 15 (by decide) (Nat.le_of_ble_eq_true rfl)
  have ne_al_mk : nq al mk := Ne.symm ne_mk_al
  have ne_ir_se : nq ir se := pw_ne hap 9 10 (by decide) (Nat.le_of_ble_eq_true rfl)
  have ne_se_ir : nq se ir := Ne.symm ne_ir_se
  have ne_ir_ec : nq ir ec := pw_ne hap 9 11 (by decide) (Nat.le_of_ble_eq_true rfl)
  have ne_ec_ir : nq ec ir := Ne.symm ne_ir_ec
  have ne_ir_lc : nq ir lc := pw_ne hap 9 12 (by decide) (Nat.le_of_ble_eq_true rfl)
  have ne_lc_ir : nq lc ir := Ne.symm ne_ir_lc
  have ne_ir_wc : nq ir wc := pw_ne hap 9 13 (by decide) (Nat.le_of_ble_eq_true rfl)
  have ne_wc_ir : nq wc ir := Ne.symm ne_ir_wc
  have ne_ir_ol : nq ir ol := pw_ne hap 9 14 (by decide) (Nat.le_of_ble_eq_true rfl)
  have ne_ol_ir : nq ol ir := Ne.symm ne_ir_ol
  have ne_ir_al : nq ir al := pw_ne hap 9 15 (by decide) (Nat.le_of_ble_eq_true rfl)
  have ne_al_ir : nq al ir := Ne.symm ne_ir_al
  have ne_se_ec : nq se ec := pw_ne hap 10 11 (by decide) (Nat.le_of_ble_eq_true rfl)
  have ne_ec_se : nq ec se := Ne.symm ne_se_ec
  have ne_se_lc : nq se lc := pw_ne hap 10 12 (by decide) (Nat.le_of_ble_eq_true rfl)
  have ne_lc_se : nq lc se := Ne.symm ne_se_lc
  have ne_se_wc : nq se wc := pw_ne hap 10 13 (by decide) (Nat.le_of_ble_eq_true rfl)
  have ne_wc_se : nq wc se := Ne.symm ne_se_wc
  have ne_se_ol : nq se ol := pw_ne hap 10 14 (by decide) (Nat.le_of_ble_eq_true rfl)
  have ne_ol_se : nq ol se := Ne.symm ne_se_ol
  have ne_se_al : nq se al := pw_ne hap 10 15 (by decide) (Nat.le_of_ble_eq_true rfl)
  have ne_al_se : nq al se := Ne.symm ne_se_al
  have ne_ec_lc : nq ec lc := pw_ne hap 11 12 (by decide) (Nat.le_of_ble_eq_true rfl)
  have ne_lc_ec : nq lc ec := Ne.symm ne_ec_lc
  have ne_ec_wc : nq ec wc := pw_ne hap 11 13 (by decide) (Nat.le_of_ble_eq_true rfl)
  have ne_wc_ec : nq wc ec := Ne.symm ne_ec_wc
  have ne_ec_ol : nq ec ol := pw_ne hap 11 14 (by decide) (Nat.le_of_ble_eq_true rfl)
  have ne_ol_ec : nq ol ec := Ne.symm ne_ec_ol
  have ne_ec_al : nq ec al := pw_ne hap 11 15 (by decide) (Nat.le_of_ble_eq_true rfl)
  have ne_al_ec : nq al ec := Ne.symm ne_ec_al
  have ne_lc_wc : nq lc wc := pw_ne hap 12 13 (by decide) (Nat.le_of_ble_eq_true rfl)
  have ne_wc_lc : nq wc lc := Ne.symm ne_lc_wc
  have ne_lc_ol : nq lc ol := pw_ne hap 12 14 (by decide) (Nat.le_of_ble_eq_true rfl)
  have ne_ol_lc : nq ol lc := Ne.symm ne_lc_ol
  have ne_lc_al : nq lc al := pw_ne hap 12 15 (by decide) (Nat.le_of_ble_eq_true rfl)
  have ne_al_lc : nq al lc := Ne.symm ne_lc_al
  have ne_wc_ol : nq wc ol := pw_ne hap 13 14 (by decide) (Nat.le_of_ble_eq_true rfl)
  have ne_ol_wc : nq ol wc := Ne.symm ne_wc_ol
  have ne_wc_al : nq wc al := pw_ne hap 13 15 (by decide) (Nat.le_of_ble_eq_true rfl)
  have ne_al_wc : nq al wc := Ne.symm ne_wc_al
  have ne_ol_al : nq ol al := pw_ne hap 14 15 (by decide) (Nat.le_of_ble_eq_true rfl)
  have ne_al_ol : nq al ol := Ne.symm ne_ol_al
  have hkp : kpx (fun a => a ∈ [mo, cn, ia, dr, en, la, wo, op, mk, ir, se, ec, lc, wc, ol, al]) M M := kpx.refl _ _
  refine lv_aload_n hx hb dX6_make_0 rfl (lv_at hl 0 rfl) ?_
  refine lv_aload_n hx hb dX6_make_1 rfl (lv_at hl 0 rfl) ?_
  refine lv_iload_n hx hb dX6_make_2 rfl (lv_at hl 1 rfl) ?_
  refine m_kV (As := [.int tq]) (rest := [.ref mo]) (rm := { frames := 0, cells := 0, slots := 0, locals := 0 }) ⟨hx, hb, hml, hown, hts⟩ (s_X6_isOpen l D k z _ mo cn ia dr en la wo op mk ir se ec lc wc ol al dn md tq hI) (cwV 1 hts gX6_make_X6_isOpen rfl rfl rfl (by decide +kernel) ⟨Nat.le_of_ble_eq_true rfl, Nat.le_of_ble_eq_true rfl⟩) (m_recv hK hm (q := (RX6, TX6, 24)) rfl hM) hz hcx hm hS rfl hl.1 rfl (Nat.le_of_ble_eq_true rfl) dX6_make_3 ⟨Nat.le_of_ble_eq_true rfl, Nat.le_of_ble_eq_true rfl⟩ (fun v M1 H locs hv hm hS => ?_)
  obtain ⟨hv2, hM1⟩ := hv
  rw [hM1] at hm
  rcases hv2 with hv1 | ⟨hv1, hdn, t9, ht9, htE⟩
  · subst hv1
    refine W.eq (g2 := F0 m 6 ls [.int 0, .ref mo]) rfl ?_
    refine W.widen (k := 0) (n := 0) (Nat.le_of_ble_eq_true rfl) (Nat.le_of_ble_eq_true rfl) ?_
    have hm : mm D (AZ z) M H := hm
    refine lv_if_ne (tgt := 13) hx hb dX6_make_6 (by decide) (fun c1 => ?_) (fun c1 => ?_)
    · first | exact absurd c1 (by decide) | exact absurd (by decide) c1
    · refine lv_iconst (v := 1) hx hb dX6_make_9 (by decide) ?_
      refine lv_goto (tgt := 29) hx hb dX6_make_10 (by decide) ?_
      refine m_kV (As := [.int 1]) (rest := []) (rm := { frames := 0, cells := 0, slots := 0, locals := 0 }) ⟨hx, hb, hml, hown, hts⟩ (s_X6_failsE l D k z _ mo cn ia dr en la wo op mk ir se ec lc wc ol al cd ni dn md pw cm wr cs hm9 1 hM) (cwV 1 hts gX6_make_X6_fails rfl rfl rfl (by decide +kernel) ⟨Nat.le_of_ble_eq_true rfl, Nat.le_of_ble_eq_true rfl⟩) (m_recv hK hm (q := (RX6, TX6, 24)) rfl hM) hz hcx hm hS rfl hl.1 rfl (Nat.le_of_ble_eq_true rfl) dX6_make_29 ⟨Nat.le_of_ble_eq_true rfl, Nat.le_of_ble_eq_true rfl⟩ (fun v M1 H locs hv hm hS => ?_)
      obtain ⟨hv1, hM1⟩ := hv
      have hv1 : v = some (.int 1) := hv1.trans (by decide)
      subst hv1
      rw [hM1] at hm
      refine W.eq (g2 := F0 m 32 ls [.int 1]) rfl ?_
      refine W.widen (k := 0) (n := 0) (Nat.le_of_ble_eq_true rfl) (Nat.le_of_ble_eq_true rfl) ?_
      have hm : mm D (AZ z) (mu M mo (.inr (6, [.int 1, .ref cn, .ref ia, .ref dr, .ref en, .ref la, .ref wo, .int ni, .ref op, .ref mk, .ref ir, .int dn, .int md, .int pw, .int cm, .int wr, .ref se, .ref ec, .ref lc, .ref wc, .ref ol, .ref al, .int cs, .int hm9]))) H := hm
      have hkp : kpx (fun a => a ∈ [mo, cn, ia, dr, en, la, wo, op, mk, ir, se, ec, lc, wc, ol, al]) M (mu M mo (.inr (6, [.int 1, .ref cn, .ref ia, .ref dr, .ref en, .ref la, .ref wo, .int ni, .ref op, .ref mk, .ref ir, .int dn, .int md, .int pw, .int cm, .int wr, .ref se, .ref ec, .ref lc, .ref wc, .ref ol, .ref al, .int cs, .int hm9]))) := (hkp).self (by simp)
      refine lv_if_eq (tgt := 36) hx hb dX6_make_32 (by decide) (fun c2 => ?_) (fun c2 => ?_)
      · first | exact absurd c2 (by decide) | exact absurd (by decide) c2
      · refine W.vret hx hb hr (fun t ht hW => ⟨⟨none, _, rfl, ?_, by rw [ht]; exact hm⟩, hS.F ht⟩) hS.2.2 dX6_make_35
        exact ⟨rfl, ⟨_, _, _, _, _, _, _, fcn, fia, fdr, fen, fla, fwo, fop, fmk, fir, fse, fec, flc, fol, fal, fwc, hap, (mu_self _ _ _), hmd, ⟨hrC, hrL, hrM⟩, ((mu_ne ne_cn_mo).trans hcn), ((mu_ne ne_ia_mo).trans hia), ((mu_ne ne_dr_mo).trans hdr), ((mu_ne ne_en_mo).trans hen), ((mu_ne ne_la_mo).trans hla), ((mu_ne ne_wo_mo).trans hwo), ((mu_ne ne_op_mo).trans hop), ((mu_ne ne_mk_mo).trans hmk), ((mu_ne ne_ir_mo).trans hir), ((mu_ne ne_se_mo).trans hse), ((mu_ne ne_ec_mo).trans hec), ((mu_ne ne_lc_mo).trans hlc), ((mu_ne ne_wc_mo).trans hwc), ((mu_ne ne_ol_mo).trans hol), ((mu_ne ne_al_mo).trans hal)⟩, hkp⟩
  · subst hv1
    subst htE
    refine W.eq (g2 := F0 m 6 ls [.int 1, .ref mo]) rfl ?_
    refine W.widen (k := 0) (n := 0) (Nat.le_of_ble_eq_true rfl) (Nat.le_of_ble_eq_true rfl) ?_
    have hm : mm D (AZ z) M H := hm
    refine lv_if_ne (tgt := 13) hx hb dX6_make_6 (by decide) (fun c3 => ?_) (fun c3 => ?_)
    · refine lv_iload_n hx hb dX6_make_13 rfl (lv_at hl 2 rfl) ?_
      refine m_kS (As := [.int path]) (rest := [.ref mo]) (rm := { frames := 0, cells := 0, slots := 0, locals := 0 }) ⟨hx, hb, hml, hown, hts⟩ (c_X6_isPath l D k z _ path) (cwS 1 hts gX6_make_X6_isPath rfl rfl rfl (by decide +kernel) ⟨Nat.le_of_ble_eq_true rfl, Nat.le_of_ble_eq_true rfl⟩) hz hcx hm hS rfl hl.1 rfl (Nat.le_of_ble_eq_true rfl) dX6_make_14 ⟨Nat.le_of_ble_eq_true rfl, Nat.le_of_ble_eq_true rfl⟩ (fun v M1 H locs hv hm hS => ?_)
      obtain ⟨hv2, hM1⟩ := hv
      rw [hM1] at hm
      rcases hv2 with ⟨hp106, hv1⟩ | ⟨hp106, hv1⟩
      · subst hv1
        refine W.eq (g2 := F0 m 17 ls [.int 1, .ref mo]) rfl ?_
        refine W.widen (k := 0) (n := 0) (Nat.le_of_ble_eq_true rfl) (Nat.le_of_ble_eq_true rfl) ?_
        have hm : mm D (AZ z) M H := hm
        refine lv_if_eq (tgt := 24) hx hb dX6_make_17 (by decide) (fun c4 => ?_) (fun c4 => ?_)
        · first | exact absurd c4 (by decide) | exact absurd (by decide) c4
        · refine lv_iload_n hx hb dX6_make_20 rfl (lv_at hl 2 rfl) ?_
          refine lv_if_ne (tgt := 28) hx hb dX6_make_21 (by decide) (fun c5 => ?_) (fun c5 => ?_)
          · refine lv_iconst (v := 0) hx hb dX6_make_28 (by decide) ?_
            refine m_kV (As := [.int 0]) (rest := []) (rm := { frames := 0, cells := 0, slots := 0, locals := 0 }) ⟨hx, hb, hml, hown, hts⟩ (s_X6_failsE l D k z _ mo cn ia dr en la wo op mk ir se ec lc wc ol al cd ni dn md pw cm wr cs hm9 0 hM) (cwV 1 hts gX6_make_X6_fails rfl rfl rfl (by decide +kernel) ⟨Nat.le_of_ble_eq_true rfl, Nat.le_of_ble_eq_true rfl⟩) (m_recv hK hm (q := (RX6, TX6, 24)) rfl hM) hz hcx hm hS rfl hl.1 rfl (Nat.le_of_ble_eq_true rfl) dX6_make_29 ⟨Nat.le_of_ble_eq_true rfl, Nat.le_of_ble_eq_true rfl⟩ (fun v M1 H locs hv hm hS => ?_)
            obtain ⟨hv1, hM1⟩ := hv
            have hv1 : v = some (.int 0) := hv1.trans (by decide)
            subst hv1
            rw [hM1] at hm
            refine W.eq (g2 := F0 m 32 ls [.int 0]) rfl ?_
            refine W.widen (k := 0) (n := 0) (Nat.le_of_ble_eq_true rfl) (Nat.le_of_ble_eq_true rfl) ?_
            have hm : mm D (AZ z) (mu M mo (.inr (6, [.int 0, .ref cn, .ref ia, .ref dr, .ref en, .ref la, .ref wo, .int ni, .ref op, .ref mk, .ref ir, .int dn, .int md, .int pw, .int cm, .int wr, .ref se, .ref ec, .ref lc, .ref wc, .ref ol, .ref al, .int cs, .int hm9]))) H := hm
            have hkp : kpx (fun a => a ∈ [mo, cn, ia, dr, en, la, wo, op, mk, ir, se, ec, lc, wc, ol, al]) M (mu M mo (.inr (6, [.int 0, .ref cn, .ref ia, .ref dr, .ref en, .ref la, .ref wo, .int ni, .ref op, .ref mk, .ref ir, .int dn, .int md, .int pw, .int cm, .int wr, .ref se, .ref ec, .ref lc, .ref wc, .ref ol, .ref al, .int cs, .int hm9]))) := (hkp).self (by simp)
            refine lv_if_eq (tgt := 36) hx hb dX6_make_32 (by decide) (fun c6 => ?_) (fun c6 => ?_)
            · refine lv_aload_n hx hb dX6_make_36 rfl (lv_at hl 0 rfl) ?_
              refine lv_iload_n hx hb dX6_make_37 rfl (lv_at hl 1 rfl) ?_
              refine lv_iload_n hx hb dX6_make_38 rfl (lv_at hl 2 rfl) ?_
              have hI0 : mI k (mu M mo (.inr (6, [.int 0, .ref cn, .ref ia, .ref dr, .ref en, .ref la, .ref wo, .int ni, .ref op, .ref mk, .ref ir, .int dn, .int md, .int pw, .int cm, .int wr, .ref se, .ref ec, .ref lc, .ref wc, .ref ol, .ref al, .int cs, .int hm9]))) mo cn ia dr en la wo op mk ir se ec lc wc ol al dn md := ⟨_, _, _, _, _, _, _, fcn, fia, fdr, fen, fla, fwo, fop, fmk, fir, fse, fec, flc, fol, fal, fwc, hap, (mu_self _ _ _), hmd, ⟨hrC, hrL, hrM⟩, ((mu_ne ne_cn_mo).trans hcn), ((mu_ne ne_ia_mo).trans hia), ((mu_ne ne_dr_mo).trans hdr), ((mu_ne ne_en_mo).trans hen), ((mu_ne ne_la_mo).trans hla), ((mu_ne ne_wo_mo).trans hwo), ((mu_ne ne_op_mo).trans hop), ((mu_ne ne_mk_mo).trans hmk), ((mu_ne ne_ir_mo).trans hir), ((mu_ne ne_se_mo).trans hse), ((mu_ne ne_ec_mo).trans hec), ((mu_ne ne_lc_mo).trans hlc), ((mu_ne ne_wc_mo).trans hwc), ((mu_ne ne_ol_mo).trans hol), ((mu_ne ne_al_mo).trans hal)⟩
              refine m_kV (As := [.int (nI t9), .int path]) (rest := []) (rm := { frames := 4, cells := 0, slots := 0, locals := 97 }) ⟨hx, hb, hml, hown, hts⟩ (x_X6_parentOf l D k z _ mo cn ia dr en la wo op mk ir se ec lc wc ol al dn md t9 (by omega) path hI0) (cwV 2 hts gX6_make_X6_parentOf rfl rfl rfl (by decide +kernel) ⟨Nat.le_of_ble_eq_true rfl, Nat.le_of_ble_eq_true rfl⟩) (m_recv hK hm (q := (RX6, TX6, 24)) rfl (mu_self _ _ _)) hz hcx hm hS rfl hl.1 rfl (Nat.le_of_ble_eq_true rfl) dX6_make_39 ⟨Nat.le_of_ble_eq_true rfl, Nat.le_of_ble_eq_true rfl⟩ (fun v M1 H locs hv hm hS => ?_)
              obtain ⟨hv1, hI9, hk9⟩ := hv
              obtain ⟨_, _, _, _, _, _, _, _, _, _, _, _, _, _, _, fir_1, _, _, _, _, _, _, -, -, hmd_1, ⟨-, -, -⟩, -, -, -, -, -, -, -, -, hir_1, -, -, -, -, -, -⟩ := id hI9
              have kmo_1 := hk9 _ _ (by simp only [List.mem_cons, List.not_mem_nil, or_false, not_or]; exact ne_mo_ir) (mu_self _ _ _)
              have kcn_1 := hk9 _ _ (by simp only [List.mem_cons, List.not_mem_nil, or_false, not_or]; exact ne_cn_ir) ((mu_ne ne_cn_mo).trans hcn)
              have kia_1 := hk9 _ _ (by simp only [List.mem_cons, List.not_mem_nil, or_false, not_or]; exact ne_ia_ir) ((mu_ne ne_ia_mo).trans hia)
              have kdr_1 := hk9 _ _ (by simp only [List.mem_cons, List.not_mem_nil, or_false, not_or]; exact ne_dr_ir) ((mu_ne ne_dr_mo).trans hdr)
              have ken_1 := hk9 _ _ (by simp only [List.mem_cons, List.not_mem_nil, or_false, not_or]; exact ne_en_ir) ((mu_ne ne_en_mo).trans hen)
              have kla_1 := hk9 _ _ (by simp only [List.mem_cons, List.not_mem_nil, or_false, not_or]; exact ne_la_ir) ((mu_ne ne_la_mo).trans hla)
              have kwo_1 := hk9 _ _ (by simp only [List.mem_cons, List.not_mem_nil, or_false, not_or]; exact ne_wo_ir) ((mu_ne ne_wo_mo).trans hwo)
              have kop_1 := hk9 _ _ (by simp only [List.mem_cons, List.not_mem_nil, or_false, not_or]; exact ne_op_ir) ((mu_ne ne_op_mo).trans hop)
              have kmk_1 := hk9 _ _ (by simp only [List.mem_cons, List.not_mem_nil, or_false, not_or]; exact ne_mk_ir) ((mu_ne ne_mk_mo).trans hmk)
              have kse_1 := hk9 _ _ (by simp only [List.mem_cons, List.not_mem_nil, or_false, not_or]; exact ne_se_ir) ((mu_ne ne_se_mo).trans hse)
              have kec_1 := hk9 _ _ (by simp only [List.mem_cons, List.not_mem_nil, or_false, not_or]; exact ne_ec_ir) ((mu_ne ne_ec_mo).trans hec)
              have klc_1 := hk9 _ _ (by simp only [List.mem_cons, List.not_mem_nil, or_false, not_or]; exact ne_lc_ir) ((mu_ne ne_lc_mo).trans hlc)
              have kwc_1 := hk9 _ _ (by simp only [List.mem_cons, List.not_mem_nil, or_false, not_or]; exact ne_wc_ir) ((mu_ne ne_wc_mo).trans hwc)
              have kol_1 := hk9 _ _ (by simp only [List.mem_cons, List.not_mem_nil, or_false, not_or]; exact ne_ol_ir) ((mu_ne ne_ol_mo).trans hol)
              have kal_1 := hk9 _ _ (by simp only [List.mem_cons, List.not_mem_nil, or_false, not_or]; exact ne_al_ir) ((mu_ne ne_al_mo).trans hal)
              have hkp := hkp.trans (hk9.mono (fun a ha => by simp only [List.mem_cons, List.not_mem_nil, or_false] at ha ⊢; subst ha; simp))
              obtain ⟨Mc1, hMx⟩ : ∃ x : mM, x = M1 := ⟨M1, rfl⟩
              subst hMx
              obtain ⟨f107, hv1, hf107⟩ := hv1
              subst hv1
              rcases hf107 with hf107 | ⟨nb107, hb107a, hb107b, hf107⟩
              · subst hf107
                refine W.eq (g2 := F0 m 42 ls [.int (-1)]) rfl ?_
                refine W.widen (k := 0) (n := 0) (Nat.le_of_ble_eq_true rfl) (Nat.le_of_ble_eq_true rfl) ?_
                have hm : mm D (AZ z) Mc1 H := hm
                refine lv_istore (lv' := [(4, .int (-1)), (0, .ref mo), (1, .int (nI t9)), (2, .int path), (3, .int 1)]) hx hb dX6_make_42 hl (by decide) rfl (fun ls hl => ?_)
                refine lv_aload_n hx hb dX6_make_44 rfl (lv_at hl 1 rfl) ?_
                refine lv_iload hx hb dX6_make_45 (lv_at hl 0 rfl) ?_
                refine lv_if_ge (tgt := 54) hx hb dX6_make_47 (by decide) (fun c7 => ?_) (fun c7 => ?_)
                · first | exact absurd c7 (by decide) | exact absurd (by decide) c7
                · refine lv_iconst (v := 3) hx hb dX6_make_50 (by decide) ?_
                  refine lv_goto (tgt := 69) hx hb dX6_make_51 (by decide) ?_
                  refine m_kV (As := [.int 3]) (rest := []) (rm := { frames := 0, cells := 0, slots := 0, locals := 0 }) ⟨hx, hb, hml, hown, hts⟩ (s_X6_failsE l D k z _ mo cn ia dr en la wo op mk ir se ec lc wc ol al 0 ni dn md pw cm wr cs hm9 3 kmo_1) (cwV 1 hts gX6_make_X6_fails rfl rfl rfl (by decide +kernel) ⟨Nat.le_of_ble_eq_true rfl, Nat.le_of_ble_eq_true rfl⟩) (m_recv hK hm (q := (RX6, TX6, 24)) rfl kmo_1) hz hcx hm hS rfl hl.1 rfl (Nat.le_of_ble_eq_true rfl) dX6_make_69 ⟨Nat.le_of_ble_eq_true rfl, Nat.le_of_ble_eq_true rfl⟩ (fun v M1 H locs hv hm hS => ?_)
                  obtain ⟨hv1, hM1⟩ := hv
                  have hv1 : v = some (.int 1) := hv1.trans (by decide)
                  subst hv1
                  rw [hM1] at hm
                  refine W.eq (g2 := F0 m 72 ls [.int 1]) rfl ?_
                  refine W.widen (k := 0) (n := 0) (Nat.le_of_ble_eq_true rfl) (Nat.le_of_ble_eq_true rfl) ?_
                  have hm : mm D (AZ z) (mu Mc1 mo (.inr (6, [.int 3, .ref cn, .ref ia, .ref dr, .ref en, .ref la, .ref wo, .int ni, .ref op, .ref mk, .ref ir, .int dn, .int md, .int pw, .int cm, .int wr, .ref se, .ref ec, .ref lc, .ref wc, .ref ol, .ref al, .int cs, .int hm9]))) H := hm
                  have hkp : kpx (fun a => a ∈ [mo, cn, ia, dr, en, la, wo, op, mk, ir, se, ec, lc, wc, ol, al]) M (mu Mc1 mo (.inr (6, [.int 3, .ref cn, .ref ia, .ref dr, .ref en, .ref la, .ref wo, .int ni, .ref op, .ref mk, .ref ir, .int dn, .int md, .int pw, .int cm, .int wr, .ref se, .ref ec, .ref lc, .ref wc, .ref ol, .ref al, .int cs, .int hm9]))) := (hkp).self (by simp)
                  refine lv_if_eq (tgt := 76) hx hb dX6_make_72 (by decide) (fun c8 => ?_) (fun c8 => ?_)
                  · first | exact absurd c8 (by decide) | exact absurd (by decide) c8
                  · refine W.vret hx hb hr (fun t ht hW => ⟨⟨none, _, rfl, ?_, by rw [ht]; exact hm⟩, hS.F ht⟩) hS.2.2 dX6_make_75
                    exact ⟨rfl, ⟨_, _, _, _, _, _, _, fcn, fia, fdr, fen, fla, fwo, fop, fmk, fir_1, fse, fec, flc, fol, fal, fwc, hap, (mu_self _ _ _), hmd, ⟨hrC, hrL, hrM⟩, ((mu_ne ne_cn_mo).trans kcn_1), ((mu_ne ne_ia_mo).trans kia_1), ((mu_ne ne_dr_mo).trans kdr_1), ((mu_ne ne_en_mo).trans ken_1), ((mu_ne ne_la_mo).trans kla_1), ((mu_ne ne_wo_mo).trans kwo_1), ((mu_ne ne_op_mo).trans kop_1), ((mu_ne ne_mk_mo).trans kmk_1), ((mu_ne ne_ir_mo).trans hir_1), ((mu_ne ne_se_mo).trans kse_1), ((mu_ne ne_ec_mo).trans kec_1), ((mu_ne ne_lc_mo).trans klc_1), ((mu_ne ne_wc_mo).trans kwc_1), ((mu_ne ne_ol_mo).trans kol_1), ((mu_ne ne_al_mo).trans kal_1)⟩, hkp⟩
              · subst hf107
                refine W.eq (g2 := F0 m 42 ls [.int (nI nb107)]) rfl ?_
                refine W.widen (k := 0) (n := 0) (Nat.le_of_ble_eq_true rfl) (Nat.le_of_ble_eq_true rfl) ?_
                have hm : mm D (AZ z) Mc1 H := hm
                refine lv_istore (lv' := [(4, .int (nI nb107)), (0, .ref mo), (1, .int (nI t9)), (2, .int path), (3, .int 1)]) hx hb dX6_make_42 hl (by decide) rfl (fun ls hl => ?_)
                refine lv_aload_n hx hb dX6_make_44 rfl (lv_at hl 1 rfl) ?_
                refine lv_iload hx hb dX6_make_45 (lv_at hl 0 rfl) ?_
                refine lv_if_ge (tgt := 54) hx hb dX6_make_47 (by decide) (fun c9 => ?_) (fun c9 => ?_)
                · have hqc9 : 0 ≤ nb107 := nb_le (a := 0) (b := nb107) (by omega) (by omega) c9
                  refine lv_aload_n hx hb dX6_make_54 rfl (lv_at hl 1 rfl) ?_
                  refine m_get (T := TX6) (N := 24) (ci := 6) (v := .ref dr) hx hb hts wX6 hown hK hm kmo_1 rfl 3 (by decide) f16 (fun _ h9 => h9) rfl dX6_make_55 ?_
                  refine lv_iload hx hb dX6_make_58 (lv_at hl 0 rfl) ?_
                  refine m_zald hx hb hK hm 2 kdr_1 rfl (vp_in_nI (by omega) (by decide)) dX6_make_60 ?_
                  refine lv_if_ne (tgt := 68) hx hb dX6_make_61 (by decide) (fun c10 => ?_) (fun c10 => ?_)
                  · refine lv_iconst (v := 0) hx hb dX6_make_68 (by decide) ?_
                    refine m_kV (As := [.int 0]) (rest := []) (rm := { frames := 0, cells := 0, slots := 0, locals := 0 }) ⟨hx, hb, hml, hown, hts⟩ (s_X6_failsE l D k z _ mo cn ia dr en la wo op mk ir se ec lc wc ol al 0 ni dn md pw cm wr cs hm9 0 kmo_1) (cwV 1 hts gX6_make_X6_fails rfl rfl rfl (by decide +kernel) ⟨Nat.le_of_ble_eq_true rfl, Nat.le_of_ble_eq_true rfl⟩) (m_recv hK hm (q := (RX6, TX6, 24)) rfl kmo_1) hz hcx hm hS rfl hl.1 rfl (Nat.le_of_ble_eq_true rfl) dX6_make_69 ⟨Nat.le_of_ble_eq_true rfl, Nat.le_of_ble_eq_true rfl⟩ (fun v M1 H locs hv hm hS => ?_)
                    obtain ⟨hv1, hM1⟩ := hv
                    have hv1 : v = some (.int 0) := hv1.trans (by decide)
                    subst hv1
                    rw [hM1] at hm
                    refine W.eq (g2 := F0 m 72 ls [.int 0]) rfl ?_
                    refine W.widen (k := 0) (n := 0) (Nat.le_of_ble_eq_true rfl) (Nat.le_of_ble_eq_true rfl) ?_
                    have hm : mm D (AZ z) (mu Mc1 mo (.inr (6, [.int 0, .ref cn, .ref ia, .ref dr, .ref en, .ref la, .ref wo, .int ni, .ref op, .ref mk, .ref ir, .int dn, .int md, .int pw, .int cm, .int wr, .ref se, .ref ec, .ref lc, .ref wc, .ref ol, .ref al, .int cs, .int hm9]))) H := hm
                    have hkp : kpx (fun a => a ∈ [mo, cn, ia, dr, en, la, wo, op, mk, ir, se, ec, lc, wc, ol, al]) M (mu Mc1 mo (.inr (6, [.int 0, .ref cn, .ref ia, .ref dr, .ref en, .ref la, .ref wo, .int ni, .ref op, .ref mk, .ref ir, .int dn, .int md, .int pw, .int cm, .int wr, .ref se, .ref ec, .ref lc, .ref wc, .ref ol, .ref al, .int cs, .int hm9]))) := (hkp).self (by simp)
                    refine lv_if_eq (tgt := 76) hx hb dX6_make_72 (by decide) (fun c11 => ?_) (fun c11 => ?_)
                    · refine lv_iload_n hx hb dX6_make_76 rfl (lv_at hl 3 rfl) ?_
                      refine lv_bipush (v := 15) hx hb dX6_make_77 (by decide) ?_
                      refine lv_iand hx hb dX6_make_79 ?_
                      obtain ⟨d108, hd108, hde108⟩ := pk_andE path (m := 15) 4 (by decide)
                      have hd108p : 1 ≤ d108 := Nat.pos_of_ne_zero fun q => isP_15 hp106 c5 (by rw [hde108, q]; rfl)
                      refine W.eq (g2 := F0 m 80 ls [.int (nI d108)]) (by rw [hde108]) ?_
                      refine lv_istore (lv' := [(5, .int (nI d108)), (4, .int (nI nb107)), (0, .ref mo), (1, .int (nI t9)), (2, .int path), (3, .int 1)]) hx hb dX6_make_80 hl (by decide) rfl (fun ls hl => ?_)
                      refine lv_aload_n hx hb dX6_make_82 rfl (lv_at hl 2 rfl) ?_
                      refine lv_iload_n hx hb dX6_make_83 rfl (lv_at hl 3 rfl) ?_
                      refine lv_iload hx hb dX6_make_84 (lv_at hl 1 rfl) ?_
                      refine lv_iload hx hb dX6_make_86 (lv_at hl 0 rfl) ?_
                      have hI0 : mI k (mu Mc1 mo (.inr (6, [.int 0, .ref cn, .ref ia, .ref dr, .ref en, .ref la, .ref wo, .int ni, .ref op, .ref mk, .ref ir, .int dn, .int md, .int pw, .int cm, .int wr, .ref se, .ref ec, .ref lc, .ref wc, .ref ol, .ref al, .int cs, .int hm9]))) mo cn ia dr en la wo op mk ir se ec lc wc ol al dn md := ⟨_, _, _, _, _, _, _, fcn, fia, fdr, fen, fla, fwo, fop, fmk, fir_1, fse, fec, flc, fol, fal, fwc, hap, (mu_self _ _ _), hmd, ⟨hrC, hrL, hrM⟩, ((mu_ne ne_cn_mo).trans kcn_1), ((mu_ne ne_ia_mo).trans kia_1), ((mu_ne ne_dr_mo).trans kdr_1), ((mu_ne ne_en_mo).trans ken_1), ((mu_ne ne_la_mo).trans kla_1), ((mu_ne ne_wo_mo).trans kwo_1), ((mu_ne ne_op_mo).trans kop_1), ((mu_ne ne_mk_mo).trans kmk_1), ((mu_ne ne_ir_mo).trans hir_1), ((mu_ne ne_se_mo).trans kse_1), ((mu_ne ne_ec_mo).trans kec_1), ((mu_ne ne_lc_mo).trans klc_1), ((mu_ne ne_wc_mo).trans kwc_1), ((mu_ne ne_ol_mo).trans kol_1), ((mu_ne ne_al_mo).trans kal_1)⟩
                      refine m_kV (As := [.int (nI t9), .int (nI nb107), .int (nI d108)]) (rest := []) (rm := { frames := 2, cells := 0, slots := 0, locals := 48 }) ⟨hx, hb, hml, hown, hts⟩ (x_X6_enter l D k z _ mo cn ia dr en la wo op mk ir se ec lc wc ol al dn md t9 nb107 d108 (by omega) (by omega) (by omega) (by omega) hI0) (cwV 3 hts gX6_make_X6_enter rfl rfl rfl (by decide +kernel) ⟨Nat.le_of_ble_eq_true rfl, Nat.le_of_ble_eq_true rfl⟩) (m_recv hK hm (q := (RX6, TX6, 24)) rfl (mu_self _ _ _)) hz hcx hm hS rfl hl.1 rfl (Nat.le_of_ble_eq_true rfl) dX6_make_88 ⟨Nat.le_of_ble_eq_true rfl, Nat.le_of_ble_eq_true rfl⟩ (fun v M1 H locs hv hm hS => ?_)
                      obtain ⟨hv1, hI9, hk9⟩ := hv
                      obtain ⟨_, _, _, _, _, _, _, _, _, _, _, _, _, _, _, fir_2, _, _, _, _, _, _, -, -, hmd_2, ⟨-, -, -⟩, -, -, -, -, -, -, -, -, hir_2, -, -, -, -, -, -⟩ := id hI9
                      have kmo_2 := hk9 _ _ (by simp only [List.mem_cons, List.not_mem_nil, or_false, not_or]; exact ne_mo_ir) (mu_self _ _ _)
                      have kcn_2 := hk9 _ _ (by simp only [List.mem_cons, List.not_mem_nil, or_false, not_or]; exact ne_cn_ir) ((mu_ne ne_cn_mo).trans kcn_1)
                      have kia_2 := hk9 _ _ (by simp only [List.mem_cons, List.not_mem_nil, or_false, not_or]; exact ne_ia_ir) ((mu_ne ne_ia_mo).trans kia_1)
                      have kdr_2 := hk9 _ _ (by simp only [List.mem_cons, List.not_mem_nil, or_false, not_or]; exact ne_dr_ir) ((mu_ne ne_dr_mo).trans kdr_1)
                      have ken_2 := hk9 _ _ (by simp only [List.mem_cons, List.not_mem_nil, or_false, not_or]; exact ne_en_ir) ((mu_ne ne_en_mo).trans ken_1)
                      have kla_2 := hk9 _ _ (by simp only [List.mem_cons, List.not_mem_nil, or_false, not_or]; exact ne_la_ir) ((mu_ne ne_la_mo).trans kla_1)
                      have kwo_2 := hk9 _ _ (by simp only [List.mem_cons, List.not_mem_nil, or_false, not_or]; exact ne_wo_ir) ((mu_ne ne_wo_mo).trans kwo_1)
                      have kop_2 := hk9 _ _ (by simp only [List.mem_cons, List.not_mem_nil, or_false, not_or]; exact ne_op_ir) ((mu_ne ne_op_mo).trans kop_1)
                      have kmk_2 := hk9 _ _ (by simp only [List.mem_cons, List.not_mem_nil, or_false, not_or]; exact ne_mk_ir) ((mu_ne ne_mk_mo).trans kmk_1)
                      have kse_2 := hk9 _ _ (by simp only [List.mem_cons, List.not_mem_nil, or_false, not_or]; exact ne_se_ir) ((mu_ne ne_se_mo).trans kse_1)
                      have kec_2 := hk9 _ _ (by simp only [List.mem_cons, List.not_mem_nil, or_false, not_or]; exact ne_ec_ir) ((mu_ne ne_ec_mo).trans kec_1)
                      have klc_2 := hk9 _ _ (by simp only [List.mem_cons, List.not_mem_nil, or_false, not_or]; exact ne_lc_ir) ((mu_ne ne_lc_mo).trans klc_1)
                      have kwc_2 := hk9 _ _ (by simp only [List.mem_cons, List.not_mem_nil, or_false, not_or]; exact ne_wc_ir) ((mu_ne ne_wc_mo).trans kwc_1)
                      have kol_2 := hk9 _ _ (by simp only [List.mem_cons, List.not_mem_nil, or_false, not_or]; exact ne_ol_ir) ((mu_ne ne_ol_mo).trans kol_1)
                      have kal_2 := hk9 _ _ (by simp only [List.mem_cons, List.not_mem_nil, or_false, not_or]; exact ne_al_ir) ((mu_ne ne_al_mo).trans kal_1)
                      have hkp := hkp.trans (hk9.mono (fun a ha => by simp only [List.mem_cons, List.not_mem_nil, or_false] at ha ⊢; subst ha; simp))
                      obtain ⟨Mc2, hMx⟩ : ∃ x : mM, x = M1 := ⟨M1, rfl⟩
                      subst hMx
                      obtain ⟨f109, hv1, hf109⟩ := hv1
                      subst hv1
                      rcases hf109 with hf109 | ⟨nb109, uc109, g109, hg109, hgu109, hgb109, hb109a, hb109b, hf109⟩
                      · subst hf109
                        refine W.eq (g2 := F0 m 91 ls [.int (-1)]) rfl ?_
                        refine W.widen (k := 0) (n := 0) (Nat.le_of_ble_eq_true rfl) (Nat.le_of_ble_eq_true rfl) ?_
                        have hm : mm D (AZ z) Mc2 H := hm
                        refine lv_istore (lv' := [(6, .int (-1)), (5, .int (nI d108)), (4, .int (nI nb107)), (0, .ref mo), (1, .int (nI t9)), (2, .int path), (3, .int 1)]) hx hb dX6_make_91 hl (by decide) rfl (fun ls hl => ?_)
                        refine lv_aload_n hx hb dX6_make_93 rfl (lv_at hl 3 rfl) ?_
                        refine lv_iload_n hx hb dX6_make_94 rfl (lv_at hl 4 rfl) ?_
                        have hI0 : mI k Mc2 mo cn ia dr en la wo op mk ir se ec lc wc ol al dn md := ⟨_, _, _, _, _, _, _, fcn, fia, fdr, fen, fla, fwo, fop, fmk, fir_2, fse, fec, flc, fol, fal, fwc, hap, kmo_2, hmd, ⟨hrC, hrL, hrM⟩, kcn_2, kia_2, kdr_2, ken_2, kla_2, kwo_2, kop_2, kmk_2, hir_2, kse_2, kec_2, klc_2, kwc_2, kol_2, kal_2⟩
                        refine m_kV (As := [.int (nI t9)]) (rest := []) (rm := { frames := 0, cells := 0, slots := 0, locals := 0 }) ⟨hx, hb, hml, hown, hts⟩ (s_X6_tree l D k z _ mo cn ia dr en la wo op mk ir se ec lc wc ol al dn md t9 (by omega) hI0) (cwV 1 hts gX6_make_X6_tree rfl rfl rfl (by decide +kernel) ⟨Nat.le_of_ble_eq_true rfl, Nat.le_of_ble_eq_true rfl⟩) (m_recv hK hm (q := (RX6, TX6, 24)) rfl kmo_2) hz hcx hm hS rfl hl.1 rfl (Nat.le_of_ble_eq_true rfl) dX6_make_95 ⟨Nat.le_of_ble_eq_true rfl, Nat.le_of_ble_eq_true rfl⟩ (fun v M1 H locs hv hm hS => ?_)
                        obtain ⟨hv1, hM1⟩ := hv
                        subst hv1
                        rw [hM1] at hm
                        refine W.eq (g2 := F0 m 98 ls [.int (nI (2 + 5 * t9))]) rfl ?_
                        refine W.widen (k := 0) (n := 0) (Nat.le_of_ble_eq_true rfl) (Nat.le_of_ble_eq_true rfl) ?_
                        have hm : mm D (AZ z) Mc2 H := hm
                        refine lv_istore (lv' := [(7, .int (nI (2 + 5 * t9))), (6, .int (-1)), (5, .int (nI d108)), (4, .int (nI nb107)), (0, .ref mo), (1, .int (nI t9)), (2, .int path), (3, .int 1)]) hx hb dX6_make_98 hl (by decide) rfl (fun ls hl => ?_)
                        refine lv_aload_n hx hb dX6_make_100 rfl (lv_at hl 4 rfl) ?_
                        refine lv_iload hx hb dX6_make_101 (lv_at hl 1 rfl) ?_
                        refine lv_if_ge (tgt := 118) hx hb dX6_make_103 (by decide) (fun c12 => ?_) (fun c12 => ?_)
                        · first | exact absurd c12 (by decide) | exact absurd (by decide) c12
                        · refine lv_aload_n hx hb dX6_make_106 rfl (lv_at hl 4 rfl) ?_
                          refine m_get (T := TX6) (N := 24) (ci := 6) (v := .ref cn) hx hb hts wX6 hown hK hm kmo_2 rfl 1 (by decide) f7 (fun _ h9 => h9) rfl dX6_make_107 ?_
                          refine lv_iload hx hb dX6_make_110 (lv_at hl 0 rfl) ?_
                          refine m_iald hx hb hK hm 0 kcn_2 rfl (vp_in_nI (by omega) (by decide)) dX6_make_112 ?_
                          obtain ⟨u13, hu13, eu13⟩ := hrC (2 + 5 * t9)
                          refine W.eq (g2 := F0 m 113 ls [.int (nI u13), .ref mo]) (by rw [show (fcn ((nI (2 + 5 * t9))).toNatClampNeg) = nI u13 from (congrArg fcn (show ((nI (2 + 5 * t9))).toNatClampNeg = (2 + 5 * t9) from nI_clamp (by omega))).trans eu13]) ?_
                          have hb_u13 := hu13
                          have hu13 : u13 ≤ 100 := Nat.le_trans hu13 (bC_le _)
                          have hsu13 : u13 ≤ 60 := Nat.le_trans hb_u13 (bC_60 (by omega))
                          refine lv_bipush (v := 60) hx hb dX6_make_113 (by decide) ?_
                          refine lv_icmp_ne (tgt := 122) hx hb dX6_make_115 (by decide) (fun c14 => ?_) (fun c14 => ?_)
                          · have hqc14 : u13 ≠ 60 := nb_ne c14
                            refine lv_iconst (v := 0) hx hb dX6_make_122 (by decide) ?_
                            refine m_kV (As := [.int 0]) (rest := []) (rm := { frames := 0, cells := 0, slots := 0, locals := 0 }) ⟨hx, hb, hml, hown, hts⟩ (s_X6_failsE l D k z _ mo cn ia dr en la wo op mk ir se ec lc wc ol al 0 ni dn md pw cm wr cs hm9 0 kmo_2) (cwV 1 hts gX6_make_X6_fails rfl rfl rfl (by decide +kernel) ⟨Nat.le_of_ble_eq_true rfl, Nat.le_of_ble_eq_true rfl⟩) (m_recv hK hm (q := (RX6, TX6, 24)) rfl kmo_2) hz hcx hm hS rfl hl.1 rfl (Nat.le_of_ble_eq_true rfl) dX6_make_123 ⟨Nat.le_of_ble_eq_true rfl, Nat.le_of_ble_eq_true rfl⟩ (fun v M1 H locs hv hm hS => ?_)
                            obtain ⟨hv1, hM1⟩ := hv
                            have hv1 : v = some (.int 0) := hv1.trans (by decide)
                            subst hv1
                            rw [hM1] at hm
                            refine W.eq (g2 := F0 m 126 ls [.int 0]) rfl ?_
                            refine W.widen (k := 0) (n := 0) (Nat.le_of_ble_eq_true rfl) (Nat.le_of_ble_eq_true rfl) ?_
                            have hm : mm D (AZ z) (mu Mc2 mo (.inr (6, [.int 0, .ref cn, .ref ia, .ref dr, .ref en, .ref la, .ref wo, .int ni, .ref op, .ref mk, .ref ir, .int dn, .int md, .int pw, .int cm, .int wr, .ref se, .ref ec, .ref lc, .ref wc, .ref ol, .ref al, .int cs, .int hm9]))) H := hm
                            have hkp : kpx (fun a => a ∈ [mo, cn, ia, dr, en, la, wo, op, mk, ir, se, ec, lc, wc, ol, al]) M (mu Mc2 mo (.inr (6, [.int 0, .ref cn, .ref ia, .ref dr, .ref en, .ref la, .ref wo, .int ni, .ref op, .ref mk, .ref ir, .int dn, .int md, .int pw, .int cm, .int wr, .ref se, .ref ec, .ref lc, .ref wc, .ref ol, .ref al, .int cs, .int hm9]))) := (hkp).self (by simp)
                            refine lv_if_eq (tgt := 130) hx hb dX6_make_126 (by decide) (fun c15 => ?_) (fun c15 => ?_)
                            · refine lv_bipush (v := 100) hx hb dX6_make_130 (by decide) ?_
                              refine lv_iload hx hb dX6_make_132 (lv_at hl 0 rfl) ?_
                              refine lv_imul hx hb dX6_make_134 ?_
                              refine W.eq (g2 := F0 m 135 ls [.int (nI (100 * (2 + 5 * t9)))]) (by rw [show ((100) * ((nI (2 + 5 * t9))) : Int32) = nI (100 * (2 + 5 * t9)) from pk_mul 100 (2 + 5 * t9)]) ?_
                              refine lv_aload_n hx hb dX6_make_135 rfl (lv_at hl 4 rfl) ?_
                              refine m_get (T := TX6) (N := 24) (ci := 6) (v := .ref cn) hx hb hts wX6 hown hK hm (mu_self _ _ _) rfl 1 (by decide) f7 (fun _ h9 => h9) rfl dX6_make_136 ?_
                              refine lv_iload hx hb dX6_make_139 (lv_at hl 0 rfl) ?_
                              refine m_iald hx hb hK hm 0 ((mu_ne ne_cn_mo).trans kcn_2) rfl (vp_in_nI (by omega) (by decide)) dX6_make_141 ?_
                              refine W.eq (g2 := F0 m 142 ls [.int (nI u13), .int (nI (100 * (2 + 5 * t9)))]) (by rw [show (fcn ((nI (2 + 5 * t9))).toNatClampNeg) = nI u13 from (congrArg fcn (show ((nI (2 + 5 * t9))).toNatClampNeg = (2 + 5 * t9) from nI_clamp (by omega))).trans eu13]) ?_
                              refine lv_iadd hx hb dX6_make_142 ?_
                              refine W.eq (g2 := F0 m 143 ls [.int (nI ((100 * (2 + 5 * t9)) + u13))]) (by rw [show (((nI (100 * (2 + 5 * t9)))) + ((nI u13)) : Int32) = nI ((100 * (2 + 5 * t9)) + u13) from nI_add (100 * (2 + 5 * t9)) u13]) ?_
                              refine lv_istore (lv' := [(8, .int (nI ((100 * (2 + 5 * t9)) + u13))), (7, .int (nI (2 + 5 * t9))), (6, .int (-1)), (5, .int (nI d108)), (4, .int (nI nb107)), (0, .ref mo), (1, .int (nI t9)), (2, .int path), (3, .int 1)]) hx hb dX6_make_143 hl (by decide) rfl (fun ls hl => ?_)
                              refine lv_aload_n hx hb dX6_make_145 rfl (lv_at hl 5 rfl) ?_
                              refine m_get (T := TX6) (N := 24) (ci := 6) (v := .ref cn) hx hb hts wX6 hown hK hm (mu_self _ _ _) rfl 1 (by decide) f7 (fun _ h9 => h9) rfl dX6_make_146 ?_
                              refine lv_iload hx hb dX6_make_149 (lv_at hl 1 rfl) ?_
                              refine lv_dup2_11 hx hb dX6_make_151 rfl rfl ?_
                              refine m_iald hx hb hK hm 0 ((mu_ne ne_cn_mo).trans kcn_2) rfl (vp_in_nI (by omega) (by decide)) dX6_make_152 ?_
                              refine W.eq (g2 := F0 m 153 ls [.int (nI u13), .int (nI (2 + 5 * t9)), .ref cn]) (by rw [show (fcn ((nI (2 + 5 * t9))).toNatClampNeg) = nI u13 from (congrArg fcn (show ((nI (2 + 5 * t9))).toNatClampNeg = (2 + 5 * t9) from nI_clamp (by omega))).trans eu13]) ?_
                              refine lv_iconst (v := 1) hx hb dX6_make_153 (by decide) ?_
                              refine lv_iadd hx hb dX6_make_154 ?_
                              refine W.eq (g2 := F0 m 155 ls [.int (nI (u13 + 1)), .int (nI (2 + 5 * t9)), .ref cn]) (by rw [show (((nI u13)) + (1) : Int32) = nI (u13 + 1) from nI_add u13 1]) ?_
                              refine m_iast hx hb hK hm hS 0 ((mu_ne ne_cn_mo).trans kcn_2) rfl (vp_in_nI (by omega) (by decide)) dX6_make_155 (fun H locs hm hS => ?_)
                              have hrC : rng bC (upd fcn ((nI (2 + 5 * t9))).toNatClampNeg (nI (u13 + 1))) := (hrC).up _ (u13 + 1) (by rw [nI_clamp (by omega)]; exact (by rw [bC_e60 (by omega) (by omega)]; omega))
                              have hmd : md ≠ 0 → ∃ n, n ≤ 40 ∧ (upd fcn ((nI (2 + 5 * t9))).toNatClampNeg (nI (u13 + 1))) 31 = nI n := fun q => by obtain ⟨n, q2, q3⟩ := hmd q; exact ⟨n, q2, by rw [← q3]; exact if_neg (by rw [nI_clamp (by omega)]; omega)⟩
                              have hm : mm D (AZ z) (mu (mu Mc2 mo (.inr (6, [.int 0, .ref cn, .ref ia, .ref dr, .ref en, .ref la, .ref wo, .int ni, .ref op, .ref mk, .ref ir, .int dn, .int md, .int pw, .int cm, .int wr, .ref se, .ref ec, .ref lc, .ref wc, .ref ol, .ref al, .int cs, .int hm9]))) cn (.inl (k 0, 32, .inl (upd fcn ((nI (2 + 5 * t9))).toNatClampNeg (nI (u13 + 1)))))) H := hm
                              have hkp : kpx (fun a => a ∈ [mo, cn, ia, dr, en, la, wo, op, mk, ir, se, ec, lc, wc, ol, al]) M (mu (mu Mc2 mo (.inr (6, [.int 0, .ref cn, .ref ia, .ref dr, .ref en, .ref la, .ref wo, .int ni, .ref op, .ref mk, .ref ir, .int dn, .int md, .int pw, .int cm, .int wr, .ref se, .ref ec, .ref lc, .ref wc, .ref ol, .ref al, .int cs, .int hm9]))) cn (.inl (k 0, 32, .inl (upd fcn ((nI (2 + 5 * t9))).toNatClampNeg (nI (u13 + 1)))))) := (hkp).self (by simp)
                              refine lv_aload_n hx hb dX6_make_156 rfl (lv_at hl 5 rfl) ?_
                              refine m_get (T := TX6) (N := 24) (ci := 6) (v := .ref ia) hx hb hts wX6 hown hK hm ((mu_ne ne_mo_cn).trans (mu_self _ _ _)) rfl 2 (by decide) f13 (fun _ h9 => h9) rfl dX6_make_157 ?_
                              refine lv_iload hx hb dX6_make_160 (lv_at hl 0 rfl) ?_
                              refine lv_aload_n hx hb dX6_make_162 rfl (lv_at hl 5 rfl) ?_
                              refine m_get (T := TX6) (N := 24) (ci := 6) (v := .int ni) hx hb hts wX6 hown hK hm ((mu_ne ne_mo_cn).trans (mu_self _ _ _)) rfl 7 (by decide) f31 (fun _ h9 => h9) rfl dX6_make_163 ?_
                              refine m_iast hx hb hK hm hS 0 ((mu_ne ne_ia_cn).trans ((mu_ne ne_ia_mo).trans kia_2)) rfl (vp_in_nI (by omega) (by decide)) dX6_make_166 (fun H locs hm hS => ?_)
                              have hm : mm D (AZ z) (mu (mu (mu Mc2 mo (.inr (6, [.int 0, .ref cn, .ref ia, .ref dr, .ref en, .ref la, .ref wo, .int ni, .ref op, .ref mk, .ref ir, .int dn, .int md, .int pw, .int cm, .int wr, .ref se, .ref ec, .ref lc, .ref wc, .ref ol, .ref al, .int cs, .int hm9]))) cn (.inl (k 0, 32, .inl (upd fcn ((nI (2 + 5 * t9))).toNatClampNeg (nI (u13 + 1)))))) ia (.inl (k 0, 3200, .inl (upd fia ((nI ((100 * (2 + 5 * t9)) + u13))).toNatClampNeg ni)))) H := hm
                              have hkp : kpx (fun a => a ∈ [mo, cn, ia, dr, en, la, wo, op, mk, ir, se, ec, lc, wc, ol, al]) M (mu (mu (mu Mc2 mo (.inr (6, [.int 0, .ref cn, .ref ia, .ref dr, .ref en, .ref la, .ref wo, .int ni, .ref op, .ref mk, .ref ir, .int dn, .int md, .int pw, .int cm, .int wr, .ref se, .ref ec, .ref lc, .ref wc, .ref ol, .ref al, .int cs, .int hm9]))) cn (.inl (k 0, 32, .inl (upd fcn ((nI (2 + 5 * t9))).toNatClampNeg (nI (u13 + 1)))))) ia (.inl (k 0, 3200, .inl (upd fia ((nI ((100 * (2 + 5 * t9)) + u13))).toNatClampNeg ni)))) := (hkp).self (by simp)
                              refine lv_aload_n hx hb dX6_make_167 rfl (lv_at hl 5 rfl) ?_
                              refine m_get (T := TX6) (N := 24) (ci := 6) (v := .ref dr) hx hb hts wX6 hown hK hm ((mu_ne ne_mo_ia).trans ((mu_ne ne_mo_cn).trans (mu_self _ _ _))) rfl 3 (by decide) f16 (fun _ h9 => h9) rfl dX6_make_168 ?_
                              refine lv_iload hx hb dX6_make_171 (lv_at hl 0 rfl) ?_
                              refine lv_iload_n hx hb dX6_make_173 rfl (lv_at hl 8 rfl) ?_
                              refine m_zast hx hb hK hm hS 2 ((mu_ne ne_dr_ia).trans ((mu_ne ne_dr_cn).trans ((mu_ne ne_dr_mo).trans kdr_2))) rfl (vp_in_nI (by omega) (by decide)) dX6_make_174 (fun H locs hm hS => ?_)
                              have hm : mm D (AZ z) (mu (mu (mu (mu Mc2 mo (.inr (6, [.int 0, .ref cn, .ref ia, .ref dr, .ref en, .ref la, .ref wo, .int ni, .ref op, .ref mk, .ref ir, .int dn, .int md, .int pw, .int cm, .int wr, .ref se, .ref ec, .ref lc, .ref wc, .ref ol, .ref al, .int cs, .int hm9]))) cn (.inl (k 0, 32, .inl (upd fcn ((nI (2 + 5 * t9))).toNatClampNeg (nI (u13 + 1)))))) ia (.inl (k 0, 3200, .inl (upd fia ((nI ((100 * (2 + 5 * t9)) + u13))).toNatClampNeg ni)))) dr (.inl (k 2, 3200, .inl (upd fdr ((nI ((100 * (2 + 5 * t9)) + u13))).toNatClampNeg (vp_nar .boolean 1))))) H := hm
                              have hkp : kpx (fun a => a ∈ [mo, cn, ia, dr, en, la, wo, op, mk, ir, se, ec, lc, wc, ol, al]) M (mu (mu (mu (mu Mc2 mo (.inr (6, [.int 0, .ref cn, .ref ia, .ref dr, .ref en, .ref la, .ref wo, .int ni, .ref op, .ref mk, .ref ir, .int dn, .int md, .int pw, .int cm, .int wr, .ref se, .ref ec, .ref lc, .ref wc, .ref ol, .ref al, .int cs, .int hm9]))) cn (.inl (k 0, 32, .inl (upd fcn ((nI (2 + 5 * t9))).toNatClampNeg (nI (u13 + 1)))))) ia (.inl (k 0, 3200, .inl (upd fia ((nI ((100 * (2 + 5 * t9)) + u13))).toNatClampNeg ni)))) dr (.inl (k 2, 3200, .inl (upd fdr ((nI ((100 * (2 + 5 * t9)) + u13))).toNatClampNeg (vp_nar .boolean 1))))) := (hkp).self (by simp)
                              refine lv_aload_n hx hb dX6_make_175 rfl (lv_at hl 5 rfl) ?_
                              refine m_get (T := TX6) (N := 24) (ci := 6) (v := .ref la) hx hb hts wX6 hown hK hm ((mu_ne ne_mo_dr).trans ((mu_ne ne_mo_ia).trans ((mu_ne ne_mo_cn).trans (mu_self _ _ _)))) rfl 5 (by decide) f24 (fun _ h9 => h9) rfl dX6_make_176 ?_
                              refine lv_iload hx hb dX6_make_179 (lv_at hl 0 rfl) ?_
                              refine lv_iconst (v := 0) hx hb dX6_make_181 (by decide) ?_
                              refine m_iast hx hb hK hm hS 0 ((mu_ne ne_la_dr).trans ((mu_ne ne_la_ia).trans ((mu_ne ne_la_cn).trans ((mu_ne ne_la_mo).trans kla_2)))) rfl (vp_in_nI (by omega) (by decide)) dX6_make_182 (fun H locs hm hS => ?_)
                              have hrL : rng bL (upd fla ((nI ((100 * (2 + 5 * t9)) + u13))).toNatClampNeg 0) := (hrL).up _ 0 (show 0 ≤ 64 by omega)
                              have hm : mm D (AZ z) (mu (mu (mu (mu (mu Mc2 mo (.inr (6, [.int 0, .ref cn, .ref ia, .ref dr, .ref en, .ref la, .ref wo, .int ni, .ref op, .ref mk, .ref ir, .int dn, .int md, .int pw, .int cm, .int wr, .ref se, .ref ec, .ref lc, .ref wc, .ref ol, .ref al, .int cs, .int hm9]))) cn (.inl (k 0, 32, .inl (upd fcn ((nI (2 + 5 * t9))).toNatClampNeg (nI (u13 + 1)))))) ia (.inl (k 0, 3200, .inl (upd fia ((nI ((100 * (2 + 5 * t9)) + u13))).toNatClampNeg ni)))) dr (.inl (k 2, 3200, .inl (upd fdr ((nI ((100 * (2 + 5 * t9)) + u13))).toNatClampNeg (vp_nar .boolean 1))))) la (.inl (k 0, 3200, .inl (upd fla ((nI ((100 * (2 + 5 * t9)) + u13))).toNatClampNeg 0)))) H := hm
                              have hkp : kpx (fun a => a ∈ [mo, cn, ia, dr, en, la, wo, op, mk, ir, se, ec, lc, wc, ol, al]) M (mu (mu (mu (mu (mu Mc2 mo (.inr (6, [.int 0, .ref cn, .ref ia, .ref dr, .ref en, .ref la, .ref wo, .int ni, .ref op, .ref mk, .ref ir, .int dn, .int md, .int pw, .int cm, .int wr, .ref se, .ref ec, .ref lc, .ref wc, .ref ol, .ref al, .int cs, .int hm9]))) cn (.inl (k 0, 32, .inl (upd fcn ((nI (2 + 5 * t9))).toNatClampNeg (nI (u13 + 1)))))) ia (.inl (k 0, 3200, .inl (upd fia ((nI ((100 * (2 + 5 * t9)) + u13))).toNatClampNeg ni)))) dr (.inl (k 2, 3200, .inl (upd fdr ((nI ((100 * (2 + 5 * t9)) + u13))).toNatClampNeg (vp_nar .boolean 1))))) la (.inl (k 0, 3200, .inl (upd fla ((nI ((100 * (2 + 5 * t9)) + u13))).toNatClampNeg 0)))) := (hkp).self (by simp)
                              refine lv_iconst (v := 0) hx hb dX6_make_183 (by decide) ?_
                              refine lv_istore (lv' := [(9, .int 0), (8, .int (nI ((100 * (2 + 5 * t9)) + u13))), (7, .int (nI (2 + 5 * t9))), (6, .int (-1)), (5, .int (nI d108)), (4, .int (nI nb107)), (0, .ref mo), (1, .int (nI t9)), (2, .int path), (3, .int 1)]) hx hb dX6_make_184 hl (by decide) rfl (fun ls hl => ?_)
                              have hI0 : mI k (mu (mu (mu (mu (mu Mc2 mo (.inr (6, [.int 0, .ref cn, .ref ia, .ref dr, .ref en, .ref la, .ref wo, .int ni, .ref op, .ref mk, .ref ir, .int dn, .int md, .int pw, .int cm, .int wr, .ref se, .ref ec, .ref lc, .ref wc, .ref ol, .ref al, .int cs, .int hm9]))) cn (.inl (k 0, 32, .inl (upd fcn ((nI (2 + 5 * t9))).toNatClampNeg (nI (u13 + 1)))))) ia (.inl (k 0, 3200, .inl (upd fia ((nI ((100 * (2 + 5 * t9)) + u13))).toNatClampNeg ni)))) dr (.inl (k 2, 3200, .inl (upd fdr ((nI ((100 * (2 + 5 * t9)) + u13))).toNatClampNeg (vp_nar .boolean 1))))) la (.inl (k 0, 3200, .inl (upd fla ((nI ((100 * (2 + 5 * t9)) + u13))).toNatClampNeg 0)))) mo cn ia dr en la wo op mk ir se ec lc wc ol al dn md := ⟨_, _, _, _, _, _, _, (upd fcn ((nI (2 + 5 * t9))).toNatClampNeg (nI (u13 + 1))), (upd fia ((nI ((100 * (2 + 5 * t9)) + u13))).toNatClampNeg ni), (upd fdr ((nI ((100 * (2 + 5 * t9)) + u13))).toNatClampNeg (vp_nar .boolean 1)), fen, (upd fla ((nI ((100 * (2 + 5 * t9)) + u13))).toNatClampNeg 0), fwo, fop, fmk, fir_2, fse, fec, flc, fol, fal, fwc, hap, ((mu_ne ne_mo_la).trans ((mu_ne ne_mo_dr).trans ((mu_ne ne_mo_ia).trans ((mu_ne ne_mo_cn).trans (mu_self _ _ _))))), hmd, ⟨hrC, hrL, hrM⟩, ((mu_ne ne_cn_la).trans ((mu_ne ne_cn_dr).trans ((mu_ne ne_cn_ia).trans (mu_self _ _ _)))), ((mu_ne ne_ia_la).trans ((mu_ne ne_ia_dr).trans (mu_self _ _ _))), ((mu_ne ne_dr_la).trans (mu_self _ _ _)), ((mu_ne ne_en_la).trans ((mu_ne ne_en_dr).trans ((mu_ne ne_en_ia).trans ((mu_ne ne_en_cn).trans ((mu_ne ne_en_mo).trans ken_2))))), (mu_self _ _ _), ((mu_ne ne_wo_la).trans ((mu_ne ne_wo_dr).trans ((mu_ne ne_wo_ia).trans ((mu_ne ne_wo_cn).trans ((mu_ne ne_wo_mo).trans kwo_2))))), ((mu_ne ne_op_la).trans ((mu_ne ne_op_dr).trans ((mu_ne ne_op_ia).trans ((mu_ne ne_op_cn).trans ((mu_ne ne_op_mo).trans kop_2))))), ((mu_ne ne_mk_la).trans ((mu_ne ne_mk_dr).trans ((mu_ne ne_mk_ia).trans ((mu_ne ne_mk_cn).trans ((mu_ne ne_mk_mo).trans kmk_2))))), ((mu_ne ne_ir_la).trans ((mu_ne ne_ir_dr).trans ((mu_ne ne_ir_ia).trans ((mu_ne ne_ir_cn).trans ((mu_ne ne_ir_mo).trans hir_2))))), ((mu_ne ne_se_la).trans ((mu_ne ne_se_dr).trans ((mu_ne ne_se_ia).trans ((mu_ne ne_se_cn).trans ((mu_ne ne_se_mo).trans kse_2))))), ((mu_ne ne_ec_la).trans ((mu_ne ne_ec_dr).trans ((mu_ne ne_ec_ia).trans ((mu_ne ne_ec_cn).trans ((mu_ne ne_ec_mo).trans kec_2))))), ((mu_ne ne_lc_la).trans ((mu_ne ne_lc_dr).trans ((mu_ne ne_lc_ia).trans ((mu_ne ne_lc_cn).trans ((mu_ne ne_lc_mo).trans klc_2))))), ((mu_ne ne_wc_la).trans ((mu_ne ne_wc_dr).trans ((mu_ne ne_wc_ia).trans ((mu_ne ne_wc_cn).trans ((mu_ne ne_wc_mo).trans kwc_2))))), ((mu_ne ne_ol_la).trans ((mu_ne ne_ol_dr).trans ((mu_ne ne_ol_ia).trans ((mu_ne ne_ol_cn).trans ((mu_ne ne_ol_mo).trans kol_2))))), ((mu_ne ne_al_la).trans ((mu_ne ne_al_dr).trans ((mu_ne ne_al_ia).trans ((mu_ne ne_al_cn).trans ((mu_ne ne_al_mo).trans kal_2)))))⟩
                              refine W_loop (σ := Nat × mM) (fun ⟨j186, Ml186⟩ H locs ls => (0 ≤ j186 ∧ j186 < 2147483000) ∧ (mI k Ml186 mo cn ia dr en la wo op mk ir se ec lc wc ol al dn md) ∧ (kpx (fun a => a ∈ [mo, cn, ia, dr, en, la, wo, op, mk, ir, se, ec, lc, wc, ol, al]) M Ml186) ∧ (kpx (fun a => a ∈ [en]) (mu (mu (mu (mu (mu Mc2 mo (.inr (6, [.int 0, .ref cn, .ref ia, .ref dr, .ref en, .ref la, .ref wo, .int ni, .ref op, .ref mk, .ref ir, .int dn, .int md, .int pw, .int cm, .int wr, .ref se, .ref ec, .ref lc, .ref wc, .ref ol, .ref al, .int cs, .int hm9]))) cn (.inl (k 0, 32, .inl (upd fcn ((nI (2 + 5 * t9))).toNatClampNeg (nI (u13 + 1)))))) ia (.inl (k 0, 3200, .inl (upd fia ((nI ((100 * (2 + 5 * t9)) + u13))).toNatClampNeg ni)))) dr (.inl (k 2, 3200, .inl (upd fdr ((nI ((100 * (2 + 5 * t9)) + u13))).toNatClampNeg (vp_nar .boolean 1))))) la (.inl (k 0, 3200, .inl (upd fla ((nI ((100 * (2 + 5 * t9)) + u13))).toNatClampNeg 0)))) Ml186) ∧ mm D (AZ z) Ml186 H ∧ va_S (AZ z) s.heap H locs ∧ lv_has ls 10 [(9, .int (nI j186)), (8, .int (nI ((100 * (2 + 5 * t9)) + u13))), (7, .int (nI (2 + 5 * t9))), (6, .int (-1)), (5, .int (nI d108)), (4, .int (nI nb107)), (0, .ref mo), (1, .int (nI t9)), (2, .int path), (3, .int 1)]) (fun ⟨j186, Ml186⟩ => 2147483648 - j186) (fun _ => 0) (fun _ => 0) ?_ (0, (mu (mu (mu (mu (mu Mc2 mo (.inr (6, [.int 0, .ref cn, .ref ia, .ref dr, .ref en, .ref la, .ref wo, .int ni, .ref op, .ref mk, .ref ir, .int dn, .int md, .int pw, .int cm, .int wr, .ref se, .ref ec, .ref lc, .ref wc, .ref ol, .ref al, .int cs, .int hm9]))) cn (.inl (k 0, 32, .inl (upd fcn ((nI (2 + 5 * t9))).toNatClampNeg (nI (u13 + 1)))))) ia (.inl (k 0, 3200, .inl (upd fia ((nI ((100 * (2 + 5 * t9)) + u13))).toNatClampNeg ni)))) dr (.inl (k 2, 3200, .inl (upd fdr ((nI ((100 * (2 + 5 * t9)) + u13))).toNatClampNeg (vp_nar .boolean 1))))) la (.inl (k 0, 3200, .inl (upd fla ((nI ((100 * (2 + 5 * t9)) + u13))).toNatClampNeg 0))))) _ _ _ ⟨⟨Nat.le_refl _, by omega⟩, hI0, hkp, (kpx.refl _ _), hm, hS, lv_sub hl [0, 1, 2, 3, 4, 5, 6, 7, 8, 9] rfl⟩
                              intro ⟨j186, Ml186⟩ H locs ls hQ ih186
                              obtain ⟨hj186, hI, hkp, hkl186, hm, hS, hl⟩ := hQ
                              try dsimp only at hm hl ih186 hj186 hI hkp hkl186 ⊢
                              obtain ⟨_, _, _, _, _, _, _, _, _, _, fen_3, _, _, _, _, _, _, _, _, _, _, _, -, -, hmd_3, ⟨-, -, -⟩, -, -, -, hen_3, -, -, -, -, -, -, -, -, -, -, -⟩ := id hI
                              have kmo_3 := hkl186 _ _ (by simp only [List.mem_cons, List.not_mem_nil, or_false, not_or]; exact ne_mo_en) ((mu_ne ne_mo_la).trans ((mu_ne ne_mo_dr).trans ((mu_ne ne_mo_ia).trans ((mu_ne ne_mo_cn).trans (mu_self _ _ _)))))
                              have kcn_3 := hkl186 _ _ (by simp only [List.mem_cons, List.not_mem_nil, or_false, not_or]; exact ne_cn_en) ((mu_ne ne_cn_la).trans ((mu_ne ne_cn_dr).trans ((mu_ne ne_cn_ia).trans (mu_self _ _ _))))
                              have kia_3 := hkl186 _ _ (by simp only [List.mem_cons, List.not_mem_nil, or_false, not_or]; exact ne_ia_en) ((mu_ne ne_ia_la).trans ((mu_ne ne_ia_dr).trans (mu_self _ _ _)))
                              have kdr_3 := hkl186 _ _ (by simp only [List.mem_cons, List.not_mem_nil, or_false, not_or]; exact ne_dr_en) ((mu_ne ne_dr_la).trans (mu_self _ _ _))
                              have kla_3 := hkl186 _ _ (by simp only [List.mem_cons, List.not_mem_nil, or_false, not_or]; exact ne_la_en) (mu_self _ _ _)
                              have kwo_3 := hkl186 _ _ (by simp only [List.mem_cons, List.not_mem_nil, or_false, not_or]; exact ne_wo_en) ((mu_ne ne_wo_la).trans ((mu_ne ne_wo_dr).trans ((mu_ne ne_wo_ia).trans ((mu_ne ne_wo_cn).trans ((mu_ne ne_wo_mo).trans kwo_2)))))
                              have kop_3 := hkl186 _ _ (by simp only [List.mem_cons, List.not_mem_nil, or_false, not_or]; exact ne_op_en) ((mu_ne ne_op_la).trans ((mu_ne ne_op_dr).trans ((mu_ne ne_op_ia).trans ((mu_ne ne_op_cn).trans ((mu_ne ne_op_mo).trans kop_2)))))
                              have kmk_3 := hkl186 _ _ (by simp only [List.mem_cons, List.not_mem_nil, or_false, not_or]; exact ne_mk_en) ((mu_ne ne_mk_la).trans ((mu_ne ne_mk_dr).trans ((mu_ne ne_mk_ia).trans ((mu_ne ne_mk_cn).trans ((mu_ne ne_mk_mo).trans kmk_2)))))
                              have kir_3 := hkl186 _ _ (by simp only [List.mem_cons, List.not_mem_nil, or_false, not_or]; exact ne_ir_en) ((mu_ne ne_ir_la).trans ((mu_ne ne_ir_dr).trans ((mu_ne ne_ir_ia).trans ((mu_ne ne_ir_cn).trans ((mu_ne ne_ir_mo).trans hir_2)))))
                              have kse_3 := hkl186 _ _ (by simp only [List.mem_cons, List.not_mem_nil, or_false, not_or]; exact ne_se_en) ((mu_ne ne_se_la).trans ((mu_ne ne_se_dr).trans ((mu_ne ne_se_ia).trans ((mu_ne ne_se_cn).trans ((mu_ne ne_se_mo).trans kse_2)))))
                              have kec_3 := hkl186 _ _ (by simp only [List.mem_cons, List.not_mem_nil, or_false, not_or]; exact ne_ec_en) ((mu_ne ne_ec_la).trans ((mu_ne ne_ec_dr).trans ((mu_ne ne_ec_ia).trans ((mu_ne ne_ec_cn).trans ((mu_ne ne_ec_mo).trans kec_2)))))
                              have klc_3 := hkl186 _ _ (by simp only [List.mem_cons, List.not_mem_nil, or_false, not_or]; exact ne_lc_en) ((mu_ne ne_lc_la).trans ((mu_ne ne_lc_dr).trans ((mu_ne ne_lc_ia).trans ((mu_ne ne_lc_cn).trans ((mu_ne ne_lc_mo).trans klc_2)))))
                              have kwc_3 := hkl186 _ _ (by simp only [List.mem_cons, List.not_mem_nil, or_false, not_or]; exact ne_wc_en) ((mu_ne ne_wc_la).trans ((mu_ne ne_wc_dr).trans ((mu_ne ne_wc_ia).trans ((mu_ne ne_wc_cn).trans ((mu_ne ne_wc_mo).trans kwc_2)))))
                              have kol_3 := hkl186 _ _ (by simp only [List.mem_cons, List.not_mem_nil, or_false, not_or]; exact ne_ol_en) ((mu_ne ne_ol_la).trans ((mu_ne ne_ol_dr).trans ((mu_ne ne_ol_ia).trans ((mu_ne ne_ol_cn).trans ((mu_ne ne_ol_mo).trans kol_2)))))
                              have kal_3 := hkl186 _ _ (by simp only [List.mem_cons, List.not_mem_nil, or_false, not_or]; exact ne_al_en) ((mu_ne ne_al_la).trans ((mu_ne ne_al_dr).trans ((mu_ne ne_al_ia).trans ((mu_ne ne_al_cn).trans ((mu_ne ne_al_mo).trans kal_2)))))
                              refine lv_iload hx hb dX6_make_186 (lv_at hl 0 rfl) ?_
                              refine lv_bipush (v := 16) hx hb dX6_make_188 (by decide) ?_
                              refine lv_icmp_ge (tgt := 213) hx hb dX6_make_190 (by decide) (fun c16 => ?_) (fun c16 => ?_)
                              · have hqc16 : 16 ≤ j186 := nb_le (a := 16) (b := j186) (by omega) (by omega) c16
                                refine lv_iconst (v := 0) hx hb dX6_make_213 (by decide) ?_
                                refine lv_istore (lv' := [(9, .int 0), (8, .int (nI ((100 * (2 + 5 * t9)) + u13))), (7, .int (nI (2 + 5 * t9))), (6, .int (-1)), (5, .int (nI d108)), (4, .int (nI nb107)), (0, .ref mo), (1, .int (nI t9)), (2, .int path), (3, .int 1)]) hx hb dX6_make_214 hl (by decide) rfl (fun ls hl => ?_)
                                have hI0 : mI k Ml186 mo cn ia dr en la wo op mk ir se ec lc wc ol al dn md := ⟨_, _, _, _, _, _, _, (upd fcn ((nI (2 + 5 * t9))).toNatClampNeg (nI (u13 + 1))), (upd fia ((nI ((100 * (2 + 5 * t9)) + u13))).toNatClampNeg ni), (upd fdr ((nI ((100 * (2 + 5 * t9)) + u13))).toNatClampNeg (vp_nar .boolean 1)), fen_3, (upd fla ((nI ((100 * (2 + 5 * t9)) + u13))).toNatClampNeg 0), fwo, fop, fmk, fir_2, fse, fec, flc, fol, fal, fwc, hap, kmo_3, hmd, ⟨hrC, hrL, hrM⟩, kcn_3, kia_3, kdr_3, hen_3, kla_3, kwo_3, kop_3, kmk_3, kir_3, kse_3, kec_3, klc_3, kwc_3, kol_3, kal_3⟩
                                refine W_loop (σ := Nat × mM) (fun ⟨j216, Ml216⟩ H locs ls => (0 ≤ j216 ∧ j216 < 2147483000) ∧ (mI k Ml216 mo cn ia dr en la wo op mk ir se ec lc wc ol al dn md) ∧ (kpx (fun a => a ∈ [mo, cn, ia, dr, en, la, wo, op, mk, ir, se, ec, lc, wc, ol, al]) M Ml216) ∧ (kpx (fun a => a ∈ [wo]) Ml186 Ml216) ∧ mm D (AZ z) Ml216 H ∧ va_S (AZ z) s.heap H locs ∧ lv_has ls 10 [(9, .int (nI j216)), (8, .int (nI ((100 * (2 + 5 * t9)) + u13))), (7, .int (nI (2 + 5 * t9))), (6, .int (-1)), (5, .int (nI d108)), (4, .int (nI nb107)), (0, .ref mo), (1, .int (nI t9)), (2, .int path), (3, .int 1)]) (fun ⟨j216, Ml216⟩ => 2147483648 - j216) (fun _ => 0) (fun _ => 0) ?_ (0, Ml186) _ _ _ ⟨⟨Nat.le_refl _, by omega⟩, hI0, hkp, (kpx.refl _ _), hm, hS, lv_sub hl [0, 1, 2, 3, 4, 5, 6, 7, 8, 9] rfl⟩
                                intro ⟨j216, Ml216⟩ H locs ls hQ ih216
                                obtain ⟨hj216, hI, hkp, hkl216, hm, hS, hl⟩ := hQ
                                try dsimp only at hm hl ih216 hj216 hI hkp hkl216 ⊢
                                obtain ⟨_, _, _, _, _, _, _, _, _, _, _, _, fwo_4, _, _, _, _, _, _, _, _, _, -, -, hmd_4, ⟨-, -, -⟩, -, -, -, -, -, hwo_4, -, -, -, -, -, -, -, -, -⟩ := id hI
                                have kmo_4 := hkl216 _ _ (by simp only [List.mem_cons, List.not_mem_nil, or_false, not_or]; exact ne_mo_wo) kmo_3
                                have kcn_4 := hkl216 _ _ (by simp only [List.mem_cons, List.not_mem_nil, or_false, not_or]; exact ne_cn_wo) kcn_3
                                have kia_4 := hkl216 _ _ (by simp only [List.mem_cons, List.not_mem_nil, or_false, not_or]; exact ne_ia_wo) kia_3
                                have kdr_4 := hkl216 _ _ (by simp only [List.mem_cons, List.not_mem_nil, or_false, not_or]; exact ne_dr_wo) kdr_3
                                have ken_4 := hkl216 _ _ (by simp only [List.mem_cons, List.not_mem_nil, or_false, not_or]; exact ne_en_wo) hen_3
                                have kla_4 := hkl216 _ _ (by simp only [List.mem_cons, List.not_mem_nil, or_false, not_or]; exact ne_la_wo) kla_3
                                have kop_4 := hkl216 _ _ (by simp only [List.mem_cons, List.not_mem_nil, or_false, not_or]; exact ne_op_wo) kop_3
                                have kmk_4 := hkl216 _ _ (by simp only [List.mem_cons, List.not_mem_nil, or_false, not_or]; exact ne_mk_wo) kmk_3
                                have kir_4 := hkl216 _ _ (by simp only [List.mem_cons, List.not_mem_nil, or_false, not_or]; exact ne_ir_wo) kir_3
                                have kse_4 := hkl216 _ _ (by simp only [List.mem_cons, List.not_mem_nil, or_false, not_or]; exact ne_se_wo) kse_3
                                have kec_4 := hkl216 _ _ (by simp only [List.mem_cons, List.not_mem_nil, or_false, not_or]; exact ne_ec_wo) kec_3
                                have klc_4 := hkl216 _ _ (by simp only [List.mem_cons, List.not_mem_nil, or_false, not_or]; exact ne_lc_wo) klc_3
                                have kwc_4 := hkl216 _ _ (by simp only [List.mem_cons, List.not_mem_nil, or_false, not_or]; exact ne_wc_wo) kwc_3
                                have kol_4 := hkl216 _ _ (by simp only [List.mem_cons, List.not_mem_nil, or_false, not_or]; exact ne_ol_wo) kol_3
                                have kal_4 := hkl216 _ _ (by simp only [List.mem_cons, List.not_mem_nil, or_false, not_or]; exact ne_al_wo) kal_3
                                refine lv_iload hx hb dX6_make_216 (lv_at hl 0 rfl) ?_
                                refine lv_bipush (v := 64) hx hb dX6_make_218 (by decide) ?_
                                refine lv_icmp_ge (tgt := 243) hx hb dX6_make_220 (by decide) (fun c17 => ?_) (fun c17 => ?_)
                                · have hqc17 : 64 ≤ j216 := nb_le (a := 64) (b := j216) (by omega) (by omega) c17
                                  refine lv_aload_n hx hb dX6_make_243 rfl (lv_at hl 6 rfl) ?_
                                  refine m_get (T := TX6) (N := 24) (ci := 6) (v := .ref en) hx hb hts wX6 hown hK hm kmo_4 rfl 4 (by decide) f21 (fun _ h9 => h9) rfl dX6_make_244 ?_
                                  refine lv_bipush (v := 16) hx hb dX6_make_247 (by decide) ?_
                                  refine lv_iload hx hb dX6_make_249 (lv_at hl 5 rfl) ?_
                                  refine lv_imul hx hb dX6_make_251 ?_
                                  refine W.eq (g2 := F0 m 252 ls [.int (nI (16 * nb107)), .ref en]) (by rw [show ((16) * ((nI nb107)) : Int32) = nI (16 * nb107) from pk_mul 16 nb107]) ?_
                                  refine lv_iload hx hb dX6_make_252 (lv_at hl 4 rfl) ?_
                                  refine lv_iadd hx hb dX6_make_254 ?_
                                  refine W.eq (g2 := F0 m 255 ls [.int (nI ((16 * nb107) + d108)), .ref en]) (by rw [show (((nI (16 * nb107))) + ((nI d108)) : Int32) = nI ((16 * nb107) + d108) from nI_add (16 * nb107) d108]) ?_
                                  refine lv_aload_n hx hb dX6_make_255 rfl (lv_at hl 6 rfl) ?_
                                  refine m_get (T := TX6) (N := 24) (ci := 6) (v := .int ni) hx hb hts wX6 hown hK hm kmo_4 rfl 7 (by decide) f31 (fun _ h9 => h9) rfl dX6_make_256 ?_
                                  refine m_iast hx hb hK hm hS 0 ken_4 rfl (vp_in_nI (by omega) (by decide)) dX6_make_259 (fun H locs hm hS => ?_)
                                  have hm : mm D (AZ z) (mu Ml216 en (.inl (k 0, 51200, .inl (upd fen_3 ((nI ((16 * nb107) + d108))).toNatClampNeg ni)))) H := hm
                                  have hkp : kpx (fun a => a ∈ [mo, cn, ia, dr, en, la, wo, op, mk, ir, se, ec, lc, wc, ol, al]) M (mu Ml216 en (.inl (k 0, 51200, .inl (upd fen_3 ((nI ((16 * nb107) + d108))).toNatClampNeg ni)))) := (hkp).self (by simp)
                                  refine lv_aload_n hx hb dX6_make_260 rfl (lv_at hl 6 rfl) ?_
                                  refine lv_dup hx hb dX6_make_261 rfl ?_
                                  refine m_get (T := TX6) (N := 24) (ci := 6) (v := .int ni) hx hb hts wX6 hown hK hm ((mu_ne ne_mo_en).trans kmo_4) rfl 7 (by decide) f31 (fun _ h9 => h9) rfl dX6_make_262 ?_
                                  refine lv_iconst (v := 1) hx hb dX6_make_265 (by decide) ?_
                                  refine lv_iadd hx hb dX6_make_266 ?_
                                  refine m_put (T := TX6) (N := 24) (ci := 6) (v := .int (ni + 1)) (ty := .int) hx hb hts wX6 tyX6 tyX6_ok nmX6 hown hK hm hS ((mu_ne ne_mo_en).trans kmo_4) rfl 7 (by decide) f31 (fun _ h9 => h9) rfl (by decide +kernel) rfl rfl (Nat.le_of_ble_eq_true rfl) dX6_make_267 (fun H locs hm hS => ?_)
                                  have hm : mm D (AZ z) (mu (mu Ml216 en (.inl (k 0, 51200, .inl (upd fen_3 ((nI ((16 * nb107) + d108))).toNatClampNeg ni)))) mo (.inr (6, [.int 0, .ref cn, .ref ia, .ref dr, .ref en, .ref la, .ref wo, .int (ni + 1), .ref op, .ref mk, .ref ir, .int dn, .int md, .int pw, .int cm, .int wr, .ref se, .ref ec, .ref lc, .ref wc, .ref ol, .ref al, .int cs, .int hm9]))) H := hm
                                  have hkp : kpx (fun a => a ∈ [mo, cn, ia, dr, en, la, wo, op, mk, ir, se, ec, lc, wc, ol, al]) M (mu (mu Ml216 en (.inl (k 0, 51200, .inl (upd fen_3 ((nI ((16 * nb107) + d108))).toNatClampNeg ni)))) mo (.inr (6, [.int 0, .ref cn, .ref ia, .ref dr, .ref en, .ref la, .ref wo, .int (ni + 1), .ref op, .ref mk, .ref ir, .int dn, .int md, .int pw, .int cm, .int wr, .ref se, .ref ec, .ref lc, .ref wc, .ref ol, .ref al, .int cs, .int hm9]))) := (hkp).self (by simp)
                                  refine W.vret hx hb hr (fun t ht hW => ⟨⟨none, _, rfl, ?_, by rw [ht]; exact hm⟩, hS.F ht⟩) hS.2.2 dX6_make_270
                                  exact ⟨rfl, ⟨_, _, _, _, _, _, _, (upd fcn ((nI (2 + 5 * t9))).toNatClampNeg (nI (u13 + 1))), (upd fia ((nI ((100 * (2 + 5 * t9)) + u13))).toNatClampNeg ni), (upd fdr ((nI ((100 * (2 + 5 * t9)) + u13))).toNatClampNeg (vp_nar .boolean 1)), (upd fen_3 ((nI ((16 * nb107) + d108))).toNatClampNeg ni), (upd fla ((nI ((100 * (2 + 5 * t9)) + u13))).toNatClampNeg 0), fwo_4, fop, fmk, fir_2, fse, fec, flc, fol, fal, fwc, hap, (mu_self _ _ _), hmd, ⟨hrC, hrL, hrM⟩, ((mu_ne ne_cn_mo).trans ((mu_ne ne_cn_en).trans kcn_4)), ((mu_ne ne_ia_mo).trans ((mu_ne ne_ia_en).trans kia_4)), ((mu_ne ne_dr_mo).trans ((mu_ne ne_dr_en).trans kdr_4)), ((mu_ne ne_en_mo).trans (mu_self _ _ _)), ((mu_ne ne_la_mo).trans ((mu_ne ne_la_en).trans kla_4)), ((mu_ne ne_wo_mo).trans ((mu_ne ne_wo_en).trans hwo_4)), ((mu_ne ne_op_mo).trans ((mu_ne ne_op_en).trans kop_4)), ((mu_ne ne_mk_mo).trans ((mu_ne ne_mk_en).trans kmk_4)), ((mu_ne ne_ir_mo).trans ((mu_ne ne_ir_en).trans kir_4)), ((mu_ne ne_se_mo).trans ((mu_ne ne_se_en).trans kse_4)), ((mu_ne ne_ec_mo).trans ((mu_ne ne_ec_en).trans kec_4)), ((mu_ne ne_lc_mo).trans ((mu_ne ne_lc_en).trans klc_4)), ((mu_ne ne_wc_mo).trans ((mu_ne ne_wc_en).trans kwc_4)), ((mu_ne ne_ol_mo).trans ((mu_ne ne_ol_en).trans kol_4)), ((mu_ne ne_al_mo).trans ((mu_ne ne_al_en).trans kal_4))⟩, hkp⟩
                                · have hqc17 : j216 < 64 := nb_nle (a := 64) (b := j216) (by omega) (by omega) c17
                                  refine lv_aload_n hx hb dX6_make_223 rfl (lv_at hl 6 rfl) ?_
                                  refine m_get (T := TX6) (N := 24) (ci := 6) (v := .ref wo) hx hb hts wX6 hown hK hm kmo_4 rfl 6 (by decide) f28 (fun _ h9 => h9) rfl dX6_make_224 ?_
                                  refine lv_bipush (v := 64) hx hb dX6_make_227 (by decide) ?_
                                  refine lv_iload hx hb dX6_make_229 (lv_at hl 1 rfl) ?_
                                  refine lv_imul hx hb dX6_make_231 ?_
                                  refine W.eq (g2 := F0 m 232 ls [.int (nI (64 * ((100 * (2 + 5 * t9)) + u13))), .ref wo]) (by rw [show ((64) * ((nI ((100 * (2 + 5 * t9)) + u13))) : Int32) = nI (64 * ((100 * (2 + 5 * t9)) + u13)) from pk_mul 64 ((100 * (2 + 5 * t9)) + u13)]) ?_
                                  refine lv_iload hx hb dX6_make_232 (lv_at hl 0 rfl) ?_
                                  refine lv_iadd hx hb dX6_make_234 ?_
                                  refine W.eq (g2 := F0 m 235 ls [.int (nI ((64 * ((100 * (2 + 5 * t9)) + u13)) + j216)), .ref wo]) (by rw [show (((nI (64 * ((100 * (2 + 5 * t9)) + u13)))) + ((nI j216)) : Int32) = nI ((64 * ((100 * (2 + 5 * t9)) + u13)) + j216) from nI_add (64 * ((100 * (2 + 5 * t9)) + u13)) j216]) ?_
                                  refine lv_iconst (v := 0) hx hb dX6_make_235 (by decide) ?_
                                  refine m_iast hx hb hK hm hS 0 hwo_4 rfl (vp_in_nI (by omega) (by decide)) dX6_make_236 (fun H locs hm hS => ?_)
                                  have hm : mm D (AZ z) (mu Ml216 wo (.inl (k 0, 204800, .inl (upd fwo_4 ((nI ((64 * ((100 * (2 + 5 * t9)) + u13)) + j216))).toNatClampNeg 0)))) H := hm
                                  have hkp : kpx (fun a => a ∈ [mo, cn, ia, dr, en, la, wo, op, mk, ir, se, ec, lc, wc, ol, al]) M (mu Ml216 wo (.inl (k 0, 204800, .inl (upd fwo_4 ((nI ((64 * ((100 * (2 + 5 * t9)) + u13)) + j216))).toNatClampNeg 0)))) := (hkp).self (by simp)
                                  have hkl216 : kpx (fun a => a ∈ [wo]) Ml186 (mu Ml216 wo (.inl (k 0, 204800, .inl (upd fwo_4 ((nI ((64 * ((100 * (2 + 5 * t9)) + u13)) + j216))).toNatClampNeg 0)))) := hkl216.self (by simp)
                                  refine lv_iinc (v := ((nI j216) + 1)) (lv' := [(9, .int ((nI j216) + 1)), (8, .int (nI ((100 * (2 + 5 * t9)) + u13))), (7, .int (nI (2 + 5 * t9))), (6, .int (-1)), (5, .int (nI d108)), (4, .int (nI nb107)), (0, .ref mo), (1, .int (nI t9)), (2, .int path), (3, .int 1)]) hx hb dX6_make_237 hl (k := 0) rfl rfl (by decide) rfl (fun ls hl => ?_)
                                  refine lv_goto (tgt := 216) hx hb dX6_make_240 (by decide) ?_
                                  rw [nI_1] at hl
                                  exact ih216 (j216 + 1, (mu Ml216 wo (.inl (k 0, 204800, .inl (upd fwo_4 ((nI ((64 * ((100 * (2 + 5 * t9)) + u13)) + j216))).toNatClampNeg 0))))) _ _ _ ⟨⟨by omega, by omega⟩, ⟨_, _, _, _, _, _, _, (upd fcn ((nI (2 + 5 * t9))).toNatClampNeg (nI (u13 + 1))), (upd fia ((nI ((100 * (2 + 5 * t9)) + u13))).toNatClampNeg ni), (upd fdr ((nI ((100 * (2 + 5 * t9)) + u13))).toNatClampNeg (vp_nar .boolean 1)), fen_3, (upd fla ((nI ((100 * (2 + 5 * t9)) + u13))).toNatClampNeg 0), (upd fwo_4 ((nI ((64 * ((100 * (2 + 5 * t9)) + u13)) + j216))).toNatClampNeg 0), fop, fmk, fir_2, fse, fec, flc, fol, fal, fwc, hap, ((mu_ne ne_mo_wo).trans kmo_4), hmd, ⟨hrC, hrL, hrM⟩, ((mu_ne ne_cn_wo).trans kcn_4), ((mu_ne ne_ia_wo).trans kia_4), ((mu_ne ne_dr_wo).trans kdr_4), ((mu_ne ne_en_wo).trans ken_4), ((mu_ne ne_la_wo).trans kla_4), (mu_self _ _ _), ((mu_ne ne_op_wo).trans kop_4), ((mu_ne ne_mk_wo).trans kmk_4), ((mu_ne ne_ir_wo).trans kir_4), ((mu_ne ne_se_wo).trans kse_4), ((mu_ne ne_ec_wo).trans kec_4), ((mu_ne ne_lc_wo).trans klc_4), ((mu_ne ne_wc_wo).trans kwc_4), ((mu_ne ne_ol_wo).trans kol_4), ((mu_ne ne_al_wo).trans kal_4)⟩, hkp, hkl216, hm, hS, lv_sub hl [0, 1, 2, 3, 4, 5, 6, 7, 8, 9] rfl⟩ (by show 2147483648 - (j216 + 1) < 2147483648 - j216; omega)
                              · have hqc16 : j186 < 16 := nb_nle (a := 16) (b := j186) (by omega) (by omega) c16
                                refine lv_aload_n hx hb dX6_make_193 rfl (lv_at hl 6 rfl) ?_
                                refine m_get (T := TX6) (N := 24) (ci := 6) (v := .ref en) hx hb hts wX6 hown hK hm kmo_3 rfl 4 (by decide) f21 (fun _ h9 => h9) rfl dX6_make_194 ?_
                                refine lv_bipush (v := 16) hx hb dX6_make_197 (by decide) ?_
                                refine lv_iload hx hb dX6_make_199 (lv_at hl 1 rfl) ?_
                                refine lv_imul hx hb dX6_make_201 ?_
                                refine W.eq (g2 := F0 m 202 ls [.int (nI (16 * ((100 * (2 + 5 * t9)) + u13))), .ref en]) (by rw [show ((16) * ((nI ((100 * (2 + 5 * t9)) + u13))) : Int32) = nI (16 * ((100 * (2 + 5 * t9)) + u13)) from pk_mul 16 ((100 * (2 + 5 * t9)) + u13)]) ?_
                                refine lv_iload hx hb dX6_make_202 (lv_at hl 0 rfl) ?_
                                refine lv_iadd hx hb dX6_make_204 ?_
                                refine W.eq (g2 := F0 m 205 ls [.int (nI ((16 * ((100 * (2 + 5 * t9)) + u13)) + j186)), .ref en]) (by rw [show (((nI (16 * ((100 * (2 + 5 * t9)) + u13)))) + ((nI j186)) : Int32) = nI ((16 * ((100 * (2 + 5 * t9)) + u13)) + j186) from nI_add (16 * ((100 * (2 + 5 * t9)) + u13)) j186]) ?_
                                refine lv_iconst (v := 0) hx hb dX6_make_205 (by decide) ?_
                                refine m_iast hx hb hK hm hS 0 hen_3 rfl (vp_in_nI (by omega) (by decide)) dX6_make_206 (fun H locs hm hS => ?_)
                                have hm : mm D (AZ z) (mu Ml186 en (.inl (k 0, 51200, .inl (upd fen_3 ((nI ((16 * ((100 * (2 + 5 * t9)) + u13)) + j186))).toNatClampNeg 0)))) H := hm
                                have hkp : kpx (fun a => a ∈ [mo, cn, ia, dr, en, la, wo, op, mk, ir, se, ec, lc, wc, ol, al]) M (mu Ml186 en (.inl (k 0, 51200, .inl (upd fen_3 ((nI ((16 * ((100 * (2 + 5 * t9)) + u13)) + j186))).toNatClampNeg 0)))) := (hkp).self (by simp)
                                have hkl186 : kpx (fun a => a ∈ [en]) (mu (mu (mu (mu (mu Mc2 mo (.inr (6, [.int 0, .ref cn, .ref ia, .ref dr, .ref en, .ref la, .ref wo, .int ni, .ref op, .ref mk, .ref ir, .int dn, .int md, .int pw, .int cm, .int wr, .ref se, .ref ec, .ref lc, .ref wc, .ref ol, .ref al, .int cs, .int hm9]))) cn (.inl (k 0, 32, .inl (upd fcn ((nI (2 + 5 * t9))).toNatClampNeg (nI (u13 + 1)))))) ia (.inl (k 0, 3200, .inl (upd fia ((nI ((100 * (2 + 5 * t9)) + u13))).toNatClampNeg ni)))) dr (.inl (k 2, 3200, .inl (upd fdr ((nI ((100 * (2 + 5 * t9)) + u13))).toNatClampNeg (vp_nar .boolean 1))))) la (.inl (k 0, 3200, .inl (upd fla ((nI ((100 * (2 + 5 * t9)) + u13))).toNatClampNeg 0)))) (mu Ml186 en (.inl (k 0, 51200, .inl (upd fen_3 ((nI ((16 * ((100 * (2 + 5 * t9)) + u13)) + j186))).toNatClampNeg 0)))) := hkl186.self (by simp)
                                refine lv_iinc (v := ((nI j186) + 1)) (lv' := [(9, .int ((nI j186) + 1)), (8, .int (nI ((100 * (2 + 5 * t9)) + u13))), (7, .int (nI (2 + 5 * t9))), (6, .int (-1)), (5, .int (nI d108)), (4, .int (nI nb107)), (0, .ref mo), (1, .int (nI t9)), (2, .int path), (3, .int 1)]) hx hb dX6_make_207 hl (k := 0) rfl rfl (by decide) rfl (fun ls hl => ?_)
                                refine lv_goto (tgt := 186) hx hb dX6_make_210 (by decide) ?_
                                rw [nI_1] at hl
                                exact ih186 (j186 + 1, (mu Ml186 en (.inl (k 0, 51200, .inl (upd fen_3 ((nI ((16 * ((100 * (2 + 5 * t9)) + u13)) + j186))).toNatClampNeg 0))))) _ _ _ ⟨⟨by omega, by omega⟩, ⟨_, _, _, _, _, _, _, (upd fcn ((nI (2 + 5 * t9))).toNatClampNeg (nI (u13 + 1))), (upd fia ((nI ((100 * (2 + 5 * t9)) + u13))).toNatClampNeg ni), (upd fdr ((nI ((100 * (2 + 5 * t9)) + u13))).toNatClampNeg (vp_nar .boolean 1)), (upd fen_3 ((nI ((16 * ((100 * (2 + 5 * t9)) + u13)) + j186))).toNatClampNeg 0), (upd fla ((nI ((100 * (2 + 5 * t9)) + u13))).toNatClampNeg 0), fwo, fop, fmk, fir_2, fse, fec, flc, fol, fal, fwc, hap, ((mu_ne ne_mo_en).trans kmo_3), hmd, ⟨hrC, hrL, hrM⟩, ((mu_ne ne_cn_en).trans kcn_3), ((mu_ne ne_ia_en).trans kia_3), ((mu_ne ne_dr_en).trans kdr_3), (mu_self _ _ _), ((mu_ne ne_la_en).trans kla_3), ((mu_ne ne_wo_en).trans kwo_3), ((mu_ne ne_op_en).trans kop_3), ((mu_ne ne_mk_en).trans kmk_3), ((mu_ne ne_ir_en).trans kir_3), ((mu_ne ne_se_en).trans kse_3), ((mu_ne ne_ec_en).trans kec_3), ((mu_ne ne_lc_en).trans klc_3), ((mu_ne ne_wc_en).trans kwc_3), ((mu_ne ne_ol_en).trans kol_3), ((mu_ne ne_al_en).trans kal_3)⟩, hkp, hkl186, hm, hS, lv_sub hl [0, 1, 2, 3, 4, 5, 6, 7, 8, 9] rfl⟩ (by show 2147483648 - (j186 + 1) < 2147483648 - j186; omega)
                            · first | exact absurd c15 (by decide) | exact absurd (by decide) c15
                          · have hqc14 : u13 = 60 := by first | exact nb_eq (by omega) (by omega) c14 | exact nb_eq (by omega) (by omega) (Classical.not_not.mp c14)
                            refine lv_iconst (v := 4) hx hb dX6_make_118 (by decide) ?_
                            refine lv_goto (tgt := 123) hx hb dX6_make_119 (by decide) ?_
                            refine m_kV (As := [.int 4]) (rest := []) (rm := { frames := 0, cells := 0, slots := 0, locals := 0 }) ⟨hx, hb, hml, hown, hts⟩ (s_X6_failsE l D k z _ mo cn ia dr en la wo op mk ir se ec lc wc ol al 0 ni dn md pw cm wr cs hm9 4 kmo_2) (cwV 1 hts gX6_make_X6_fails rfl rfl rfl (by decide +kernel) ⟨Nat.le_of_ble_eq_true rfl, Nat.le_of_ble_eq_true rfl⟩) (m_recv hK hm (q := (RX6, TX6, 24)) rfl kmo_2) hz hcx hm hS rfl hl.1 rfl (Nat.le_of_ble_eq_true rfl) dX6_make_123 ⟨Nat.le_of_ble_eq_true rfl, Nat.le_of_ble_eq_true rfl⟩ (fun v M1 H locs hv hm hS => ?_)
                            obtain ⟨hv1, hM1⟩ := hv
                            have hv1 : v = some (.int 1) := hv1.trans (by decide)
                            subst hv1
                            rw [hM1] at hm
                            refine W.eq (g2 := F0 m 126 ls [.int 1]) rfl ?_
                            refine W.widen (k := 0) (n := 0) (Nat.le_of_ble_eq_true rfl) (Nat.le_of_ble_eq_true rfl) ?_
                            have hm : mm D (AZ z) (mu Mc2 mo (.inr (6, [.int 4, .ref cn, .ref ia, .ref dr, .ref en, .ref la, .ref wo, .int ni, .ref op, .ref mk, .ref ir, .int dn, .int md, .int pw, .int cm, .int wr, .ref se, .ref ec, .ref lc, .ref wc, .ref ol, .ref al, .int cs, .int hm9]))) H := hm
                            have hkp : kpx (fun a => a ∈ [mo, cn, ia, dr, en, la, wo, op, mk, ir, se, ec, lc, wc, ol, al]) M (mu Mc2 mo (.inr (6, [.int 4, .ref cn, .ref ia, .ref dr, .ref en, .ref la, .ref wo, .int ni, .ref op, .ref mk, .ref ir, .int dn, .int md, .int pw, .int cm, .int wr, .ref se, .ref ec, .ref lc, .ref wc, .ref ol, .ref al, .int cs, .int hm9]))) := (hkp).self (by simp)
                            refine lv_if_eq (tgt := 130) hx hb dX6_make_126 (by decide) (fun c18 => ?_) (fun c18 => ?_)
                            · first | exact absurd c18 (by decide) | exact absurd (by decide) c18
                            · refine W.vret hx hb hr (fun t ht hW => ⟨⟨none, _, rfl, ?_, by rw [ht]; exact hm⟩, hS.F ht⟩) hS.2.2 dX6_make_129
                              exact ⟨rfl, ⟨_, _, _, _, _, _, _, fcn, fia, fdr, fen, fla, fwo, fop, fmk, fir_2, fse, fec, flc, fol, fal, fwc, hap, (mu_self _ _ _), hmd, ⟨hrC, hrL, hrM⟩, ((mu_ne ne_cn_mo).trans kcn_2), ((mu_ne ne_ia_mo).trans kia_2), ((mu_ne ne_dr_mo).trans kdr_2), ((mu_ne ne_en_mo).trans ken_2), ((mu_ne ne_la_mo).trans kla_2), ((mu_ne ne_wo_mo).trans kwo_2), ((mu_ne ne_op_mo).trans kop_2), ((mu_ne ne_mk_mo).trans kmk_2), ((mu_ne ne_ir_mo).trans hir_2), ((mu_ne ne_se_mo).trans kse_2), ((mu_ne ne_ec_mo).trans kec_2), ((mu_ne ne_lc_mo).trans klc_2), ((mu_ne ne_wc_mo).trans kwc_2), ((mu_ne ne_ol_mo).trans kol_2), ((mu_ne ne_al_mo).trans kal_2)⟩, hkp⟩
                      · have huc109 := Nat.le_trans hgb109 (bC_le _)
                        subst hf109
                        refine W.eq (g2 := F0 m 91 ls [.int (nI nb109)]) rfl ?_
                        refine W.widen (k := 0) (n := 0) (Nat.le_of_ble_eq_true rfl) (Nat.le_of_ble_eq_true rfl) ?_
                        have hm : mm D (AZ z) Mc2 H := hm
                        refine lv_istore (lv' := [(6, .int (nI nb109)), (5, .int (nI d108)), (4, .int (nI nb107)), (0, .ref mo), (1, .int (nI t9)), (2, .int path), (3, .int 1)]) hx hb dX6_make_91 hl (by decide) rfl (fun ls hl => ?_)
                        refine lv_aload_n hx hb dX6_make_93 rfl (lv_at hl 3 rfl) ?_
                        refine lv_iload_n hx hb dX6_make_94 rfl (lv_at hl 4 rfl) ?_
                        have hI0 : mI k Mc2 mo cn ia dr en la wo op mk ir se ec lc wc ol al dn md := ⟨_, _, _, _, _, _, _, fcn, fia, fdr, fen, fla, fwo, fop, fmk, fir_2, fse, fec, flc, fol, fal, fwc, hap, kmo_2, hmd, ⟨hrC, hrL, hrM⟩, kcn_2, kia_2, kdr_2, ken_2, kla_2, kwo_2, kop_2, kmk_2, hir_2, kse_2, kec_2, klc_2, kwc_2, kol_2, kal_2⟩
                        refine m_kV (As := [.int (nI t9)]) (rest := []) (rm := { frames := 0, cells := 0, slots := 0, locals := 0 }) ⟨hx, hb, hml, hown, hts⟩ (s_X6_tree l D k z _ mo cn ia dr en la wo op mk ir se ec lc wc ol al dn md t9 (by omega) hI0) (cwV 1 hts gX6_make_X6_tree rfl rfl rfl (by decide +kernel) ⟨Nat.le_of_ble_eq_true rfl, Nat.le_of_ble_eq_true rfl⟩) (m_recv hK hm (q := (RX6, TX6, 24)) rfl kmo_2) hz hcx hm hS rfl hl.1 rfl (Nat.le_of_ble_eq_true rfl) dX6_make_95 ⟨Nat.le_of_ble_eq_true rfl, Nat.le_of_ble_eq_true rfl⟩ (fun v M1 H locs hv hm hS => ?_)
                        obtain ⟨hv1, hM1⟩ := hv
                        subst hv1
                        rw [hM1] at hm
                        refine W.eq (g2 := F0 m 98 ls [.int (nI (2 + 5 * t9))]) rfl ?_
                        refine W.widen (k := 0) (n := 0) (Nat.le_of_ble_eq_true rfl) (Nat.le_of_ble_eq_true rfl) ?_
                        have hm : mm D (AZ z) Mc2 H := hm
                        refine lv_istore (lv' := [(7, .int (nI (2 + 5 * t9))), (6, .int (nI nb109)), (5, .int (nI d108)), (4, .int (nI nb107)), (0, .ref mo), (1, .int (nI t9)), (2, .int path), (3, .int 1)]) hx hb dX6_make_98 hl (by decide) rfl (fun ls hl => ?_)
                        refine lv_aload_n hx hb dX6_make_100 rfl (lv_at hl 4 rfl) ?_
                        refine lv_iload hx hb dX6_make_101 (lv_at hl 1 rfl) ?_
                        refine lv_if_ge (tgt := 118) hx hb dX6_make_103 (by decide) (fun c19 => ?_) (fun c19 => ?_)
                        · have hqc19 : 0 ≤ nb109 := nb_le (a := 0) (b := nb109) (by omega) (by omega) c19
                          refine lv_iconst (v := 4) hx hb dX6_make_118 (by decide) ?_
                          refine lv_goto (tgt := 123) hx hb dX6_make_119 (by decide) ?_
                          refine m_kV (As := [.int 4]) (rest := []) (rm := { frames := 0, cells := 0, slots := 0, locals := 0 }) ⟨hx, hb, hml, hown, hts⟩ (s_X6_failsE l D k z _ mo cn ia dr en la wo op mk ir se ec lc wc ol al 0 ni dn md pw cm wr cs hm9 4 kmo_2) (cwV 1 hts gX6_make_X6_fails rfl rfl rfl (by decide +kernel) ⟨Nat.le_of_ble_eq_true rfl, Nat.le_of_ble_eq_true rfl⟩) (m_recv hK hm (q := (RX6, TX6, 24)) rfl kmo_2) hz hcx hm hS rfl hl.1 rfl (Nat.le_of_ble_eq_true rfl) dX6_make_123 ⟨Nat.le_of_ble_eq_true rfl, Nat.le_of_ble_eq_true rfl⟩ (fun v M1 H locs hv hm hS => ?_)
                          obtain ⟨hv1, hM1⟩ := hv
                          have hv1 : v = some (.int 1) := hv1.trans (by decide)
                          subst hv1
                          rw [hM1] at hm
                          refine W.eq (g2 := F0 m 126 ls [.int 1]) rfl ?_
                          refine W.widen (k := 0) (n := 0) (Nat.le_of_ble_eq_true rfl) (Nat.le_of_ble_eq_true rfl) ?_
                          have hm : mm D (AZ z) (mu Mc2 mo (.inr (6, [.int 4, .ref cn, .ref ia, .ref dr, .ref en, .ref la, .ref wo, .int ni, .ref op, .ref mk, .ref ir, .int dn, .int md, .int pw, .int cm, .int wr, .ref se, .ref ec, .ref lc, .ref wc, .ref ol, .ref al, .int cs, .int hm9]))) H := hm
                          have hkp : kpx (fun a => a ∈ [mo, cn, ia, dr, en, la, wo, op, mk, ir, se, ec, lc, wc, ol, al]) M (mu Mc2 mo (.inr (6, [.int 4, .ref cn, .ref ia, .ref dr, .ref en, .ref la, .ref wo, .int ni, .ref op, .ref mk, .ref ir, .int dn, .int md, .int pw, .int cm, .int wr, .ref se, .ref ec, .ref lc, .ref wc, .ref ol, .ref al, .int cs, .int hm9]))) := (hkp).self (by simp)
                          refine lv_if_eq (tgt := 130) hx hb dX6_make_126 (by decide) (fun c20 => ?_) (fun c20 => ?_)
                          · first | exact absurd c20 (by decide) | exact absurd (by decide) c20
                          · refine W.vret hx hb hr (fun t ht hW => ⟨⟨none, _, rfl, ?_, by rw [ht]; exact hm⟩, hS.F ht⟩) hS.2.2 dX6_make_129
                            exact ⟨rfl, ⟨_, _, _, _, _, _, _, fcn, fia, fdr, fen, fla, fwo, fop, fmk, fir_2, fse, fec, flc, fol, fal, fwc, hap, (mu_self _ _ _), hmd, ⟨hrC, hrL, hrM⟩, ((mu_ne ne_cn_mo).trans kcn_2), ((mu_ne ne_ia_mo).trans kia_2), ((mu_ne ne_dr_mo).trans kdr_2), ((mu_ne ne_en_mo).trans ken_2), ((mu_ne ne_la_mo).trans kla_2), ((mu_ne ne_wo_mo).trans kwo_2), ((mu_ne ne_op_mo).trans kop_2), ((mu_ne ne_mk_mo).trans kmk_2), ((mu_ne ne_ir_mo).trans hir_2), ((mu_ne ne_se_mo).trans kse_2), ((mu_ne ne_ec_mo).trans kec_2), ((mu_ne ne_lc_mo).trans klc_2), ((mu_ne ne_wc_mo).trans kwc_2), ((mu_ne ne_ol_mo).trans kol_2), ((mu_ne ne_al_mo).trans kal_2)⟩, hkp⟩
                        · have hqc19 : nb109 < 0 := nb_nle (a := 0) (b := nb109) (by omega) (by omega) c19
                          omega
                    · first | exact absurd c11 (by decide) | exact absurd (by decide) c11
                  · refine lv_iconst (v := 4) hx hb dX6_make_64 (by decide) ?_
                    refine lv_goto (tgt := 69) hx hb dX6_make_65 (by decide) ?_
                    refine m_kV (As := [.int 4]) (rest := []) (rm := { frames := 0, cells := 0, slots := 0, locals := 0 }) ⟨hx, hb, hml, hown, hts⟩ (s_X6_failsE l D k z _ mo cn ia dr en la wo op mk ir se ec lc wc ol al 0 ni dn md pw cm wr cs hm9 4 kmo_1) (cwV 1 hts gX6_make_X6_fails rfl rfl rfl (by decide +kernel) ⟨Nat.le_of_ble_eq_true rfl, Nat.le_of_ble_eq_true rfl⟩) (m_recv hK hm (q := (RX6, TX6, 24)) rfl kmo_1) hz hcx hm hS rfl hl.1 rfl (Nat.le_of_ble_eq_true rfl) dX6_make_69 ⟨Nat.le_of_ble_eq_true rfl, Nat.le_of_ble_eq_true rfl⟩ (fun v M1 H locs hv hm hS => ?_)
                    obtain ⟨hv1, hM1⟩ := hv
                    have hv1 : v = some (.int 1) := hv1.trans (by decide)
                    subst hv1
                    rw [hM1] at hm
                    refine W.eq (g2 := F0 m 72 ls [.int 1]) rfl ?_
                    refine W.widen (k := 0) (n := 0) (Nat.le_of_ble_eq_true rfl) (Nat.le_of_ble_eq_true rfl) ?_
                    have hm : mm D (AZ z) (mu Mc1 mo (.inr (6, [.int 4, .ref cn, .ref ia, .ref dr, .ref en, .ref la, .ref wo, .int ni, .ref op, .ref mk, .ref ir, .int dn, .int md, .int pw, .int cm, .int wr, .ref se, .ref ec, .ref lc, .ref wc, .ref ol, .ref al, .int cs, .int hm9]))) H := hm
                    have hkp : kpx (fun a => a ∈ [mo, cn, ia, dr, en, la, wo, op, mk, ir, se, ec, lc, wc, ol, al]) M (mu Mc1 mo (.inr (6, [.int 4, .ref cn, .ref ia, .ref dr, .ref en, .ref la, .ref wo, .int ni, .ref op, .ref mk, .ref ir, .int dn, .int md, .int pw, .int cm, .int wr, .ref se, .ref ec, .ref lc, .ref wc, .ref ol, .ref al, .int cs, .int hm9]))) := (hkp).self (by simp)
                    refine lv_if_eq (tgt := 76) hx hb dX6_make_72 (by decide) (fun c21 => ?_) (fun c21 => ?_)
                    · first | exact absurd c21 (by decide) | exact absurd (by decide) c21
                    · refine W.vret hx hb hr (fun t ht hW => ⟨⟨none, _, rfl, ?_, by rw [ht]; exact hm⟩, hS.F ht⟩) hS.2.2 dX6_make_75
                      exact ⟨rfl, ⟨_, _, _, _, _, _, _, fcn, fia, fdr, fen, fla, fwo, fop, fmk, fir_1, fse, fec, flc, fol, fal, fwc, hap, (mu_self _ _ _), hmd, ⟨hrC, hrL, hrM⟩, ((mu_ne ne_cn_mo).trans kcn_1), ((mu_ne ne_ia_mo).trans kia_1), ((mu_ne ne_dr_mo).trans kdr_1), ((mu_ne ne_en_mo).trans ken_1), ((mu_ne ne_la_mo).trans kla_1), ((mu_ne ne_wo_mo).trans kwo_1), ((mu_ne ne_op_mo).trans kop_1), ((mu_ne ne_mk_mo).trans kmk_1), ((mu_ne ne_ir_mo).trans hir_1), ((mu_ne ne_se_mo).trans kse_1), ((mu_ne ne_ec_mo).trans kec_1), ((mu_ne ne_lc_mo).trans klc_1), ((mu_ne ne_wc_mo).trans kwc_1), ((mu_ne ne_ol_mo).trans kol_1), ((mu_ne ne_al_mo).trans kal_1)⟩, hkp⟩
                · have hqc9 : nb107 < 0 := nb_nle (a := 0) (b := nb107) (by omega) (by omega) c9
                  omega
            · first | exact absurd c6 (by decide) | exact absurd (by decide) c6
          · refine lv_iconst (v := 2) hx hb dX6_make_24 (by decide) ?_
            refine lv_goto (tgt := 29) hx hb dX6_make_25 (by decide) ?_
            refine m_kV (As := [.int 2]) (rest := []) (rm := { frames := 0, cells := 0, slots := 0, locals := 0 }) ⟨hx, hb, hml, hown, hts⟩ (s_X6_failsE l D k z _ mo cn ia dr en la wo op mk ir se ec lc wc ol al cd ni dn md pw cm wr cs hm9 2 hM) (cwV 1 hts gX6_make_X6_fails rfl rfl rfl (by decide +kernel) ⟨Nat.le_of_ble_eq_true rfl, Nat.le_of_ble_eq_true rfl⟩) (m_recv hK hm (q := (RX6, TX6, 24)) rfl hM) hz hcx hm hS rfl hl.1 rfl (Nat.le_of_ble_eq_true rfl) dX6_make_29 ⟨Nat.le_of_ble_eq_true rfl, Nat.le_of_ble_eq_true rfl⟩ (fun v M1 H locs hv hm hS => ?_)
            obtain ⟨hv1, hM1⟩ := hv
            have hv1 : v = some (.int 1) := hv1.trans (by decide)
            subst hv1
            rw [hM1] at hm
            refine W.eq (g2 := F0 m 32 ls [.int 1]) rfl ?_
            refine W.widen (k := 0) (n := 0) (Nat.le_of_ble_eq_true rfl) (Nat.le_of_ble_eq_true rfl) ?_
            have hm : mm D (AZ z) (mu M mo (.inr (6, [.int 2, .ref cn, .ref ia, .ref dr, .ref en, .ref la, .ref wo, .int ni, .ref op, .ref mk, .ref ir, .int dn, .int md, .int pw, .int cm, .int wr, .ref se, .ref ec, .ref lc, .ref wc, .ref ol, .ref al, .int cs, .int hm9]))) H := hm
            have hkp : kpx (fun a => a ∈ [mo, cn, ia, dr, en, la, wo, op, mk, ir, se, ec, lc, wc, ol, al]) M (mu M mo (.inr (6, [.int 2, .ref cn, .ref ia, .ref dr, .ref en, .ref la, .ref wo, .int ni, .ref op, .ref mk, .ref ir, .int dn, .int md, .int pw, .int cm, .int wr, .ref se, .ref ec, .ref lc, .ref wc, .ref ol, .ref al, .int cs, .int hm9]))) := (hkp).self (by simp)
            refine lv_if_eq (tgt := 36) hx hb dX6_make_32 (by decide) (fun c22 => ?_) (fun c22 => ?_)
            · first | exact absurd c22 (by decide) | exact absurd (by decide) c22
            · refine W.vret hx hb hr (fun t ht hW => ⟨⟨none, _, rfl, ?_, by rw [ht]; exact hm⟩, hS.F ht⟩) hS.2.2 dX6_make_35
              exact ⟨rfl, ⟨_, _, _, _, _, _, _, fcn, fia, fdr, fen, fla, fwo, fop, fmk, fir, fse, fec, flc, fol, fal, fwc, hap, (mu_self _ _ _), hmd, ⟨hrC, hrL, hrM⟩, ((mu_ne ne_cn_mo).trans hcn), ((mu_ne ne_ia_mo).trans hia), ((mu_ne ne_dr_mo).trans hdr), ((mu_ne ne_en_mo).trans hen), ((mu_ne ne_la_mo).trans hla), ((mu_ne ne_wo_mo).trans hwo), ((mu_ne ne_op_mo).trans hop), ((mu_ne ne_mk_mo).trans hmk), ((mu_ne ne_ir_mo).trans hir), ((mu_ne ne_se_mo).trans hse), ((mu_ne ne_ec_mo).trans hec), ((mu_ne ne_lc_mo).trans hlc), ((mu_ne ne_wc_mo).trans hwc), ((mu_ne ne_ol_mo).trans hol), ((mu_ne ne_al_mo).trans hal)⟩, hkp⟩
      · subst hv1
        refine W.eq (g2 := F0 m 17 ls [.int 0, .ref mo]) rfl ?_
        refine W.widen (k := 0) (n := 0) (Nat.le_of_ble_eq_true rfl) (Nat.le_of_ble_eq_true rfl) ?_
        have hm : mm D (AZ z) M H := hm
        refine lv_if_eq (tgt := 24) hx hb dX6_make_17 (by decide) (fun c23 => ?_) (fun c23 => ?_)
        · refine lv_iconst (v := 2) hx hb dX6_make_24 (by decide) ?_
          refine lv_goto (tgt := 29) hx hb dX6_make_25 (by decide) ?_
          refine m_kV (As := [.int 2]) (rest := []) (rm := { frames := 0, cells := 0, slots := 0, locals := 0 }) ⟨hx, hb, hml, hown, hts⟩ (s_X6_failsE l D k z _ mo cn ia dr en la wo op mk ir se ec lc wc ol al cd ni dn md pw cm wr cs hm9 2 hM) (cwV 1 hts gX6_make_X6_fails rfl rfl rfl (by decide +kernel) ⟨Nat.le_of_ble_eq_true rfl, Nat.le_of_ble_eq_true rfl⟩) (m_recv hK hm (q := (RX6, TX6, 24)) rfl hM) hz hcx hm hS rfl hl.1 rfl (Nat.le_of_ble_eq_true rfl) dX6_make_29 ⟨Nat.le_of_ble_eq_true rfl, Nat.le_of_ble_eq_true rfl⟩ (fun v M1 H locs hv hm hS => ?_)
          obtain ⟨hv1, hM1⟩ := hv
          have hv1 : v = some (.int 1) := hv1.trans (by decide)
          subst hv1
          rw [hM1] at hm
          refine W.eq (g2 := F0 m 32 ls [.int 1]) rfl ?_
          refine W.widen (k := 0) (n := 0) (Nat.le_of_ble_eq_true rfl) (Nat.le_of_ble_eq_true rfl) ?_
          have hm : mm D (AZ z) (mu M mo (.inr (6, [.int 2, .ref cn, .ref ia, .ref dr, .ref en, .ref la, .ref wo, .int ni, .ref op, .ref mk, .ref ir, .int dn, .int md, .int pw, .int cm, .int wr, .ref se, .ref ec, .ref lc, .ref wc, .ref ol, .ref al, .int cs, .int hm9]))) H := hm
          have hkp : kpx (fun a => a ∈ [mo, cn, ia, dr, en, la, wo, op, mk, ir, se, ec, lc, wc, ol, al]) M (mu M mo (.inr (6, [.int 2, .ref cn, .ref ia, .ref dr, .ref en, .ref la, .ref wo, .int ni, .ref op, .ref mk, .ref ir, .int dn, .int md, .int pw, .int cm, .int wr, .ref se, .ref ec, .ref lc, .ref wc, .ref ol, .ref al, .int cs, .int hm9]))) := (hkp).self (by simp)
          refine lv_if_eq (tgt := 36) hx hb dX6_make_32 (by decide) (fun c24 => ?_) (fun c24 => ?_)
          · first | exact absurd c24 (by decide) | exact absurd (by decide) c24
          · refine W.vret hx hb hr (fun t ht hW => ⟨⟨none, _, rfl, ?_, by rw [ht]; exact hm⟩, hS.F ht⟩) hS.2.2 dX6_make_35
            exact ⟨rfl, ⟨_, _, _, _, _, _, _, fcn, fia, fdr, fen, fla, fwo, fop, fmk, fir, fse, fec, flc, fol, fal, fwc, hap, (mu_self _ _ _), hmd, ⟨hrC, hrL, hrM⟩, ((mu_ne ne_cn_mo).trans hcn), ((mu_ne ne_ia_mo).trans hia), ((mu_ne ne_dr_mo).trans hdr), ((mu_ne ne_en_mo).trans hen), ((mu_ne ne_la_mo).trans hla), ((mu_ne ne_wo_mo).trans hwo), ((mu_ne ne_op_mo).trans hop), ((mu_ne ne_mk_mo).trans hmk), ((mu_ne ne_ir_mo).trans hir), ((mu_ne ne_se_mo).trans hse), ((mu_ne ne_ec_mo).trans hec), ((mu_ne ne_lc_mo).trans hlc), ((mu_ne ne_wc_mo).trans hwc), ((mu_ne ne_ol_mo).trans hol), ((mu_ne ne_al_mo).trans hal)⟩, hkp⟩
        · first | exact absurd c23 (by decide) | exact absurd (by decide) c23
    · first | exact absurd c3 (by decide) | exact absurd (by decide) c3
