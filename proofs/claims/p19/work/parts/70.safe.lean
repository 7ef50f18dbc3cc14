/-! The reference on any state: what its cells may hold. -/
/-- not the same, out of the arithmetic's sight -/
def nq (a b : Nat) : Prop := a ≠ b
theorem kpx.mono {h h' : Nat → Prop} {M M' : mM} (hk : kpx h M M') (hh : ∀ a, h a → h' a) : kpx h' M M' := fun a e ha hM => hk a e (fun q => ha (hh a q)) hM
def rng (b : Nat → Nat) (f : Nat → Int32) : Prop := ∀ j, ∃ n, n ≤ b j ∧ f j = nI n
def bC (j : Nat) : Nat := if j = 0 then 40 else if j = 31 then 100 else 60
def bL (_ : Nat) : Nat := 64
def bM (_ : Nat) : Nat := 3
theorem rng.up {b : Nat → Nat} {f : Nat → Int32} (h : rng b f) (i n : Nat) (hn : n ≤ b i) : rng b (upd f i (nI n)) := fun j => by
  by_cases hj : j = i
  · subst hj; exact ⟨n, hn, by simp [upd]⟩
  · obtain ⟨m, h1, h2⟩ := h j
    exact ⟨m, h1, by simp [upd, hj, h2]⟩
theorem bC_le (j : Nat) : bC j ≤ 100 := by unfold bC; split <;> (try split) <;> omega
theorem bC_60 {j : Nat} (h : j ≠ 31) : bC j ≤ 60 := by unfold bC; split <;> (try split) <;> omega
def mI (k : Nat → ClassId) (M : mM) (mo cn ia dr en la wo op mk ir se ec lc wc ol al : Nat) (dn md : Int32) : Prop := ∃ (cd ni pw cm wr cs hm9 : Int32) (fcn fia fdr fen fla fwo fop fmk fir fse fec flc fol fal : Nat → Int32) (fwc : Nat → Int64), [mo, cn, ia, dr, en, la, wo, op, mk, ir, se, ec, lc, wc, ol, al].Pairwise (· ≠ ·) ∧ M mo = some (.inr (6, [.int cd, .ref cn, .ref ia, .ref dr, .ref en, .ref la, .ref wo, .int ni, .ref op, .ref mk, .ref ir, .int dn, .int md, .int pw, .int cm, .int wr, .ref se, .ref ec, .ref lc, .ref wc, .ref ol, .ref al, .int cs, .int hm9])) ∧ (md ≠ 0 → ∃ n, n ≤ 40 ∧ fcn 31 = nI n) ∧ (rng bC fcn ∧ rng bL fla ∧ rng bM fmk) ∧ M cn = some (.inl (k 0, 32, .inl fcn)) ∧ M ia = some (.inl (k 0, 3200, .inl fia)) ∧ M dr = some (.inl (k 2, 3200, .inl fdr)) ∧ M en = some (.inl (k 0, 51200, .inl fen)) ∧ M la = some (.inl (k 0, 3200, .inl fla)) ∧ M wo = some (.inl (k 0, 204800, .inl fwo)) ∧ M op = some (.inl (k 2, 6, .inl fop)) ∧ M mk = some (.inl (k 0, 6, .inl fmk)) ∧ M ir = some (.inl (k 2, 57000, .inl fir)) ∧ M se = some (.inl (k 2, 100, .inl fse)) ∧ M ec = some (.inl (k 0, 100, .inl fec)) ∧ M lc = some (.inl (k 2, 100, .inl flc)) ∧ M wc = some (.inl (k 1, 100, .inr (.inl fwc))) ∧ M ol = some (.inl (k 0, 100, .inl fol)) ∧ M al = some (.inl (k 2, 100, .inl fal))

/-- where find may have found -/
def fP (t : Nat) (f : Int32) : Prop := f = -1 ∨ ∃ n, 100 * t ≤ n ∧ n < 100 * t + 100 ∧ f = nI n

set_option maxHeartbeats 4000000 in
set_option maxRecDepth 100000 in
theorem s_X6_find (l : Launch) (D : va_G) (k : Nat → ClassId) (z : Nat) (M : mM) (mo cn ia dr en la wo op mk ir se ec lc wc ol al : Nat) (dn md : Int32)  (t9 : Nat) (ht9 : t9 < 32) (id9 : Int32) (hI : mI k M mo cn ia dr en la wo op mk ir se ec lc wc ol al dn md) : mK l yX6_find wsX6_find ({ frames := 0, cells := 0, slots := 0, locals := 0 }) D k z [.ref mo, .int (nI t9), .int id9] M (fun v M' => (∃ f, v = some (.int f) ∧ fP t9 f) ∧ M' = M) := by
  refine Met.ofW (cc := cX6_find) (maxL := 5) (ret := (some .int)) (by decide) rfl ?_
  intro p e s m args below meth c s₁ B hml hv
  obtain ⟨rfl, hz, hcx, hm⟩ := hv
  have hx := B.exec
  have hb := B.bytes
  have hr := B.returns
  have hts := atoms_spec (ws := wsX6_find) B.pre
  have hown : s.vm.findClass RX6 = some m.cls := findClass_of_methodNamed B.named
  have hlocks := B.notSynchronized
  have hK := hcx.1
  have hS : va_S (AZ z) s.heap s.heap [] := va_S.rf
  have hA : ∀ q, s.heap.size ≤ q → AZ z q := fun q h => Nat.le_trans hz h
  have hl := lv_entry ([.ref mo, .int (nI t9), .int id9]) (n := 5) (Nat.le_of_ble_eq_true rfl)
  rw [lg_entry_eq]
  generalize (lg_sl ([.ref mo, .int (nI t9), .int id9]) ++ List.replicate (5 - (lg_sl ([.ref mo, .int (nI t9), .int id9])).length) Slot.unset).toArray = ls at hl ⊢
  have hl : lv_has ls 5 [(0, .ref mo), (1, .int (nI t9)), (2, .int id9)] := hl
  have f7 := hts (.fieldLink RX6 7 "CommitTreeModel" "counts" "[I") (by decide +kernel)
  have f13 := hts (.fieldLink RX6 13 "CommitTreeModel" "ids" "[I") (by decide +kernel)
  have wX6 : ∀ w ∈ wsX60, w ∈ wsX6_find := by decide +kernel
  obtain ⟨cd, ni, pw, cm, wr, cs, hm9, fcn, fia, fdr, fen, fla, fwo, fop, fmk, fir, fse, fec, flc, fol, fal, fwc, hap, hM, hmd, ⟨hrC, hrL, hrM⟩, hcn, hia, hdr, hen, hla, hwo, hop, hmk, hir, hse, hec, hlc, hwc, hol, hal⟩ := id hI
  have ne_mo_cn : nq mo cn := pw_ne hap 0 1 (by decide) (Nat.le_of_ble_eq_true rfl)
  have ne_cn_mo : nq cn mo := Ne.symm ne_mo_cn
  have ne_mo_ia : nq mo ia := pw_ne hap 0 2 (by decide) (Nat.le_of_ble_eq_true rfl)
  have ne_ia_mo : nq ia mo := Ne.symm ne_mo_ia
  have ne_mo_dr : nq mo dr := pw_ne hap 0 3 (by decide) (Nat.le_of_ble_eq_true rfl)
  have ne_dr_mo : nq dr mo := Ne.symm ne_mo_dr
  have ne_mo_en : nq mo en := pw_ne hap 0 4 (by decide) (Nat.le_of_ble_eq_true rfl)
  have ne_en_mo : nq en mo := Ne.symm ne_mo_en
  have ne_mo_la : nq mo la := pw_ne hap 0 5 (by decide) (Nat.le_of_ble_eq_true rfl)
  have ne_la_mo : nq la mo := Ne.symm ne_mo_la
  have ne_mo_wo : nq mo wo := pw_ne hap 0 6 (by decide) (Nat.le_of_ble_eq_true rfl)
  have ne_wo_mo : nq wo mo := Ne.symm ne_mo_wo
  have ne_mo_op : nq mo op := pw_ne hap 0 7 (by decide) (Nat.le_of_ble_eq_true rfl)
  have ne_op_mo : nq op mo := Ne.symm ne_mo_op
  have ne_mo_mk : nq mo mk := pw_ne hap 0 8 (by decide) (Nat.le_of_ble_eq_true rfl)
  have ne_mk_mo : nq mk mo := Ne.symm ne_mo_mk
  have ne_mo_ir : nq mo ir := pw_ne hap 0 9 (by decide) (Nat.le_of_ble_eq_true rfl)
  have ne_ir_mo : nq ir mo := Ne.symm ne_mo_ir
  have ne_mo_se : nq mo se := pw_ne hap 0 10 (by decide) (Nat.le_of_ble_eq_true rfl)
  have ne_se_mo : nq se mo := Ne.symm ne_mo_se
  have ne_mo_ec : nq mo ec := pw_ne hap 0 11 (by decide) (Nat.le_of_ble_eq_true rfl)
  have ne_ec_mo : nq ec mo := Ne.symm ne_mo_ec
  have ne_mo_lc : nq mo lc := pw_ne hap 0 12 (by decide) (Nat.le_of_ble_eq_true rfl)
  have ne_lc_mo : nq lc mo := Ne.symm ne_mo_lc
  have ne_mo_wc : nq mo wc := pw_ne hap 0 13 (by decide) (Nat.le_of_ble_eq_true rfl)
  have ne_wc_mo : nq wc mo := Ne.symm ne_mo_wc
  have ne_mo_ol : nq mo ol := pw_ne hap 0 14 (by decide) (Nat.le_of_ble_eq_true rfl)
  have ne_ol_mo : nq ol mo := Ne.symm ne_mo_ol
  have ne_mo_al : nq mo al := pw_ne hap 0 15 (by decide) (Nat.le_of_ble_eq_true rfl)
  have ne_al_mo : nq al mo := Ne.symm ne_mo_al
  have ne_cn_ia : nq cn ia := pw_ne hap 1 2 (by decide) (Nat.le_of_ble_eq_true rfl)
  have ne_ia_cn : nq ia cn := Ne.symm ne_cn_ia
  have ne_cn_dr : nq cn dr := pw_ne hap 1 3 (by decide) (Nat.le_of_ble_eq_true rfl)
  have ne_dr_cn : nq dr cn := Ne.symm ne_cn_dr
  have ne_cn_en : nq cn en := pw_ne hap 1 4 (by decide) (Nat.le_of_ble_eq_true rfl)
  have ne_en_cn : nq en cn := Ne.symm ne_cn_en
  have ne_cn_la : nq cn la := pw_ne hap 1 5 (by decide) (Nat.le_of_ble_eq_true rfl)
  have ne_la_cn : nq la cn := Ne.symm ne_cn_la
  have ne_cn_wo : nq cn wo := pw_ne hap 1 6 (by decide) (Nat.le_of_ble_eq_true rfl)
  have ne_wo_cn : nq wo cn := Ne.symm ne_cn_wo
  have ne_cn_op : nq cn op := pw_ne hap 1 7 (by decide) (Nat.le_of_ble_eq_true rfl)
  have ne_op_cn : nq op cn := Ne.symm ne_cn_op
  have ne_cn_mk : nq cn mk := pw_ne hap 1 8 (by decide) (Nat.le_of_ble_eq_true rfl)
  have ne_mk_cn : nq mk cn := Ne.symm ne_cn_mk
  have ne_cn_ir : nq cn ir := pw_ne hap 1 9 (by decide) (Nat.le_of_ble_eq_true rfl)
  have ne_ir_cn : nq ir cn := Ne.symm ne_cn_ir
  have ne_cn_se : nq cn se := pw_ne hap 1 10 (by decide) (Nat.le_of_ble_eq_true rfl)
  have ne_se_cn : nq se cn := Ne.symm ne_cn_se
  have ne_cn_ec : nq cn ec := pw_ne hap 1 11 (by decide) (Nat.le_of_ble_eq_true rfl)
  have ne_ec_cn : nq ec cn := Ne.symm ne_cn_ec
  have ne_cn_lc : nq cn lc := pw_ne hap 1 12 (by decide) (Nat.le_of_ble_eq_true rfl)
  have ne_lc_cn : nq lc cn := Ne.symm ne_cn_lc
  have ne_cn_wc : nq cn wc := pw_ne hap 1 13 (by decide) (Nat.le_of_ble_eq_true rfl)
  have ne_wc_cn : nq wc cn := Ne.symm ne_cn_wc
  have ne_cn_ol : nq cn ol := pw_ne hap 1 14 (by decide) (Nat.le_of_ble_eq_true rfl)
  have ne_ol_cn : nq ol cn := Ne.symm ne_cn_ol
  have ne_cn_al : nq cn al := pw_ne hap 1 15 (by decide) (Nat.le_of_ble_eq_true rfl)
  have ne_al_cn : nq al cn := Ne.symm ne_cn_al
  have ne_ia_dr : nq ia dr := pw_ne hap 2 3 (by decide) (Nat.le_of_ble_eq_true rfl)
  have ne_dr_ia : nq dr ia := Ne.symm ne_ia_dr
  have ne_ia_en : nq ia en := pw_ne hap 2 4 (by decide) (Nat.le_of_ble_eq_true rfl)
  have ne_en_ia : nq en ia := Ne.symm ne_ia_en
  have ne_ia_la : nq ia la := pw_ne hap 2 5 (by decide) (Nat.le_of_ble_eq_true rfl)
  have ne_la_ia : nq la ia := Ne.symm ne_ia_la
  have ne_ia_wo : nq ia wo := pw_ne hap 2 6 (by decide) (Nat.le_of_ble_eq_true rfl)
  have ne_wo_ia : nq wo ia := Ne.symm ne_ia_wo
  have ne_ia_op : nq ia op := pw_ne hap 2 7 (by decide) (Nat.le_of_ble_eq_true rfl)
  have ne_op_ia : nq op ia := Ne.symm ne_ia_op
  have ne_ia_mk : nq ia mk := pw_ne hap 2 8 (by decide) (Nat.le_of_ble_eq_true rfl)
  have ne_mk_ia : nq mk ia := Ne.symm ne_ia_mk
  have ne_ia_ir : nq ia ir := pw_ne hap 2 9 (by decide) (Nat.le_of_ble_eq_true rfl)
  have ne_ir_ia : nq ir ia := Ne.symm ne_ia_ir
  have ne_ia_se : nq ia se := pw_ne hap 2 10 (by decide) (Nat.le_of_ble_eq_true rfl)
  have ne_se_ia : nq se ia := Ne.symm ne_ia_se
  have ne_ia_ec : nq ia ec := pw_ne hap 2 11 (by decide) (Nat.le_of_ble_eq_true rfl)
  have ne_ec_ia : nq ec ia := Ne.symm ne_ia_ec
  have ne_ia_lc : nq ia lc := pw_ne hap 2 12 (by decide) (Nat.le_of_ble_eq_true rfl)
  have ne_lc_ia : nq lc ia := Ne.symm ne_ia_lc
  have ne_ia_wc : nq ia wc := pw_ne hap 2 13 (by decide) (Nat.le_of_ble_eq_true rfl)
  have ne_wc_ia : nq wc ia := Ne.symm ne_ia_wc
  have ne_ia_ol : nq ia ol := pw_ne hap 2 14 (by decide) (Nat.le_of_ble_eq_true rfl)
  have ne_ol_ia : nq ol ia := Ne.symm ne_ia_ol
  have ne_ia_al : nq ia al := pw_ne hap 2 15 (by decide) (Nat.le_of_ble_eq_true rfl)
  have ne_al_ia : nq al ia := Ne.symm ne_ia_al
  have ne_dr_en : nq dr en := pw_ne hap 3 4 (by decide) (Nat.le_of_ble_eq_true rfl)
  have ne_en_dr : nq en dr := Ne.symm ne_dr_en
  have ne_dr_la : nq dr la := pw_ne hap 3 5 (by decide) (Nat.le_of_ble_eq_true rfl)
  have ne_la_dr : nq la dr := Ne.symm ne_dr_la
  have ne_dr_wo : nq dr wo := pw_ne hap 3 6 (by decide) (Nat.le_of_ble_eq_true rfl)
  have ne_wo_dr : nq wo dr := Ne.symm ne_dr_wo
  have ne_dr_op : nq dr op := pw_ne hap 3 7 (by decide) (Nat.le_of_ble_eq_true rfl)
  have ne_op_dr : nq op dr := Ne.symm ne_dr_op
  have ne_dr_mk : nq dr mk := pw_ne hap 3 8 (by decide) (Nat.le_of_ble_eq_true rfl)
  have ne_mk_dr : nq mk dr := Ne.symm ne_dr_mk
  have ne_dr_ir : nq dr ir := pw_ne hap 3 9 (by decide) (Nat.le_of_ble_eq_true rfl)
  have ne_ir_dr : nq ir dr := Ne.symm ne_dr_ir
  have ne_dr_se : nq dr se := pw_ne hap 3 10 (by decide) (Nat.le_of_ble_eq_true rfl)
  have ne_se_dr : nq se dr := Ne.symm ne_dr_se
  have ne_dr_ec : nq dr ec := pw_ne hap 3 11 (by decide) (Nat.le_of_ble_eq_true rfl)
  have ne_ec_dr : nq ec dr := Ne.symm ne_dr_ec
  have ne_dr_lc : nq dr lc := pw_ne hap 3 12 (by decide) (Nat.le_of_ble_eq_true rfl)
  have ne_lc_dr : nq lc dr := Ne.symm ne_dr_lc
  have ne_dr_wc : nq dr wc := pw_ne hap 3 13 (by decide) (Nat.le_of_ble_eq_true rfl)
  have ne_wc_dr : nq wc dr := Ne.symm ne_dr_wc
  have ne_dr_ol : nq dr ol := pw_ne hap 3 14 (by decide) (Nat.le_of_ble_eq_true rfl)
  have ne_ol_dr : nq ol dr := Ne.symm ne_dr_ol
  have ne_dr_al : nq dr al := pw_ne hap 3 15 (by decide) (Nat.le_of_ble_eq_true rfl)
  have ne_al_dr : nq al dr := Ne.symm ne_dr_al
  have ne_en_la : nq en la := pw_ne hap 4 5 (by decide) (Nat.le_of_ble_eq_true rfl)
  have ne_la_en : nq la en := Ne.symm ne_en_la
  have ne_en_wo : nq en wo := pw_ne hap 4 6 (by decide) (Nat.le_of_ble_eq_true rfl)
  have ne_wo_en : nq wo en := Ne.symm ne_en_wo
  have ne_en_op : nq en op := pw_ne hap 4 7 (by decide) (Nat.le_of_ble_eq_true rfl)
  have ne_op_en : nq op en := Ne.symm ne_en_op
  have ne_en_mk : nq en mk := pw_ne hap 4 8 (by decide) (Nat.le_of_ble_eq_true rfl)
  have ne_mk_en : nq mk en := Ne.symm ne_en_mk
  have ne_en_ir : nq en ir := pw_ne hap 4 9 (by decide) (Nat.le_of_ble_eq_true rfl)
  have ne_ir_en : nq ir en := Ne.symm ne_en_ir
  have ne_en_se : nq en se := pw_ne hap 4 10 (by decide) (Nat.le_of_ble_eq_true rfl)
  have ne_se_en : nq se en := Ne.symm ne_en_se
  have ne_en_ec : nq en ec := pw_ne hap 4 11 (by decide) (Nat.le_of_ble_eq_true rfl)
  have ne_ec_en : nq ec en := Ne.symm ne_en_ec
  have ne_en_lc : nq en lc := pw_ne hap 4 12 (by decide) (Nat.le_of_ble_eq_true rfl)
  have ne_lc_en : nq lc en := Ne.symm ne_en_lc
  have ne_en_wc : nq en wc := pw_ne hap 4 13 (by decide) (Nat.le_of_ble_eq_true rfl)
  have ne_wc_en : nq wc en := Ne.symm ne_en_wc
  have ne_en_ol : nq en ol := pw_ne hap 4 14 (by decide) (Nat.le_of_ble_eq_true rfl)
  have ne_ol_en : nq ol en := Ne.symm ne_en_ol
  have ne_en_al : nq en al := pw_ne hap 4 15 (by decide) (Nat.le_of_ble_eq_true rfl)
  have ne_al_en : nq al en := Ne.symm ne_en_al
  have ne_la_wo : nq la wo := pw_ne hap 5 6 (by decide) (Nat.le_of_ble_eq_true rfl)
  have ne_wo_la : nq wo la := Ne.symm ne_la_wo
  have ne_la_op : nq la op := pw_ne hap 5 7 (by decide) (Nat.le_of_ble_eq_true rfl)
  have ne_op_la : nq op la := Ne.symm ne_la_op
  have ne_la_mk : nq la mk := pw_ne hap 5 8 (by decide) (Nat.le_of_ble_eq_true rfl)
  have ne_mk_la : nq mk la := Ne.symm ne_la_mk
  have ne_la_ir : nq la ir := pw_ne hap 5 9 (by decide) (Nat.le_of_ble_eq_true rfl)
  have ne_ir_la : nq ir la := Ne.symm ne_la_ir
  have ne_la_se : nq la se := pw_ne hap 5 10 (by decide) (Nat.le_of_ble_eq_true rfl)
  have ne_se_la : nq se la := Ne.symm ne_la_se
  have ne_la_ec : nq la ec := pw_ne hap 5 11 (by decide) (Nat.le_of_ble_eq_true rfl)
  have ne_ec_la : nq ec la := Ne.symm ne_la_ec
  have ne_la_lc : nq la lc := pw_ne hap 5 12 (by decide) (Nat.le_of_ble_eq_true rfl)
  have ne_lc_la : nq lc la := Ne.symm ne_la_lc
  have ne_la_wc : nq la wc := pw_ne hap 5 13 (by decide) (Nat.le_of_ble_eq_true rfl)
  have ne_wc_la : nq wc la := Ne.symm ne_la_wc
  have ne_la_ol : nq la ol := pw_ne hap 5 14 (by decide) (Nat.le_of_ble_eq_true rfl)
  have ne_ol_la : nq ol la := Ne.symm ne_la_ol
  have ne_la_al : nq la al := pw_ne hap 5 15 (by decide) (Nat.le_of_ble_eq_true rfl)
  have ne_al_la : nq al la := Ne.symm ne_la_al
  have ne_wo_op : nq wo op := pw_ne hap 6 7 (by decide) (Nat.le_of_ble_eq_true rfl)
  have ne_op_wo : nq op wo := Ne.symm ne_wo_op
  have ne_wo_mk : nq wo mk := pw_ne hap 6 8 (by decide) (Nat.le_of_ble_eq_true rfl)
  have ne_mk_wo : nq mk wo := Ne.symm ne_wo_mk
  have ne_wo_ir : nq wo ir := pw_ne hap 6 9 (by decide) (Nat.le_of_ble_eq_true rfl)
  have ne_ir_wo : nq ir wo := Ne.symm ne_wo_ir
  have ne_wo_se : nq wo se := pw_ne hap 6 10 (by decide) (Nat.le_of_ble_eq_true rfl)
  have ne_se_wo : nq se wo := Ne.symm ne_wo_se
  have ne_wo_ec : nq wo ec := pw_ne hap 6 11 (by decide) (Nat.le_of_ble_eq_true rfl)
  have ne_ec_wo : nq ec wo := Ne.symm ne_wo_ec
  have ne_wo_lc : nq wo lc := pw_ne hap 6 12 (by decide) (Nat.le_of_ble_eq_true rfl)
  have ne_lc_wo : nq lc wo := Ne.symm ne_wo_lc
  have ne_wo_wc : nq wo wc := pw_ne hap 6 13 (by decide) (Nat.le_of_ble_eq_true rfl)
  have ne_wc_wo : nq wc wo := Ne.symm ne_wo_wc
  have ne_wo_ol : nq wo ol := pw_ne hap 6 14 (by decide) (Nat.le_of_ble_eq_true rfl)
  have ne_ol_wo : nq ol wo := Ne.symm ne_wo_ol
  have ne_wo_al : nq wo al := pw_ne hap 6 15 (by decide) (Nat.le_of_ble_eq_true rfl)
  have ne_al_wo : nq al wo := Ne.symm ne_wo_al
  have ne_op_mk : nq op mk := pw_ne hap 7 8 (by decide) (Nat.le_of_ble_eq_true rfl)
  have ne_mk_op : nq mk op := Ne.symm ne_op_mk
  have ne_op_ir : nq op ir := pw_ne hap 7 9 (by decide) (Nat.le_of_ble_eq_true rfl)
  have ne_ir_op : nq ir op := Ne.symm ne_op_ir
  have ne_op_se : nq op se := pw_ne hap 7 10 (by decide) (Nat.le_of_ble_eq_true rfl)
  have ne_se_op : nq se op := Ne.symm ne_op_se
  have ne_op_ec : nq op ec := pw_ne hap 7 11 (by decide) (Nat.le_of_ble_eq_true rfl)
  have ne_ec_op : nq ec op := Ne.symm ne_op_ec
  have ne_op_lc : nq op lc := pw_ne hap 7 12 (by decide) (Nat.le_of_ble_eq_true rfl)
  have ne_lc_op : nq lc op := Ne.symm ne_op_lc
  have ne_op_wc : nq op wc := pw_ne hap 7 13 (by decide) (Nat.le_of_ble_eq_true rfl)
  have ne_wc_op : nq wc op := Ne.symm ne_op_wc
  have ne_op_ol : nq op ol := pw_ne hap 7 14 (by decide) (Nat.le_of_ble_eq_true rfl)
  have ne_ol_op : nq ol op := Ne.symm ne_op_ol
  have ne_op_al : nq op al := pw_ne hap 7 15 (by decide) (Nat.le_of_ble_eq_true rfl)
  have ne_al_op : nq al op := Ne.symm ne_op_al
  have ne_mk_ir : nq mk ir := pw_ne hap 8 9 (by decide) (Nat.le_of_ble_eq_true rfl)
  have ne_ir_mk : nq ir mk := Ne.symm ne_mk_ir
  have ne_mk_se : nq mk se := pw_ne hap 8 10 (by decide) (Nat.le_of_ble_eq_true rfl)
  have ne_se_mk : nq se mk := Ne.symm ne_mk_se
  have ne_mk_ec : nq mk ec := pw_ne hap 8 11 (by decide) (Nat.le_of_ble_eq_true rfl)
  have ne_ec_mk : nq ec mk := Ne.symm ne_mk_ec
  have ne_mk_lc : nq mk lc := pw_ne hap 8 12 (by decide) (Nat.le_of_ble_eq_true rfl)
  have ne_lc_mk : nq lc mk := Ne.symm ne_mk_lc
  have ne_mk_wc : nq mk wc := pw_ne hap 8 13 (by decide) (Nat.le_of_ble_eq_true rfl)
  have ne_wc_mk : nq wc mk := Ne.symm ne_mk_wc
  have ne_mk_ol : nq mk ol := pw_ne hap 8 14 (by decide) (Nat.le_of_ble_eq_true rfl)
  have ne_ol_mk : nq ol mk := Ne.symm ne_mk_ol
  have ne_mk_al : nq mk al := pw_ne hap 8 15 (by decide) (Nat.le_of_ble_eq_true rfl)
  have ne_al_mk : nq al mk := Ne.symm ne_mk_al
  have ne_ir_se : nq ir se := pw_ne hap 9 10 (by decide) (Nat.le_of_ble_eq_true rfl)
  have ne_se_ir : nq se ir := Ne.symm ne_ir_se
  have ne_ir_ec : nq ir ec := pw_ne hap 9 11 (by decide) (Nat.le_of_ble_eq_true rfl)
  have ne_ec_ir : nq ec ir := Ne.symm ne_ir_ec
  have ne_ir_lc : nq ir lc := pw_ne hap 9 12 (by decide) (Nat.le_of_ble_eq_true rfl)
  have ne_lc_ir : nq lc ir := Ne.symm ne_ir_lc
  have ne_ir_wc : nq ir wc := pw_ne hap 9 13 (by decide) (Nat.le_of_ble_eq_true rfl)
  have ne_wc_ir : nq wc ir := Ne.symm ne_ir_wc
  have ne_ir_ol : nq ir ol := pw_ne hap 9 14 (by decide) (Nat.le_of_ble_eq_true rfl)
  have ne_ol_ir : nq ol ir := Ne.symm ne_ir_ol
  have ne_ir_al : nq ir al := pw_ne hap 9 15 (by decide) (Nat.le_of_ble_eq_true rfl)
  have ne_al_ir : nq al ir := Ne.symm ne_ir_al
  have ne_se_ec : nq se ec := pw_ne hap 10 11 (by decide) (Nat.le_of_ble_eq_true rfl)
  have ne_ec_se : nq ec se := Ne.symm ne_se_ec
  have ne_se_lc : nq se lc := pw_ne hap 10 12 (by decide) (Nat.le_of_ble_eq_true rfl)
  have ne_lc_se : nq lc se := Ne.symm ne_se_lc
  have ne_se_wc : nq se wc := pw_ne hap 10 13 (by decide) (Nat.le_of_ble_eq_true rfl)
  have ne_wc_se : nq wc se := Ne.symm ne_se_wc
  have ne_se_ol : nq se ol := pw_ne hap 10 14 (by decide) (Nat.le_of_ble_eq_true rfl)
  have ne_ol_se : nq ol se := Ne.symm ne_se_ol
  have ne_se_al : nq se al := pw_ne hap 10 15 (by decide) (Nat.le_of_ble_eq_true rfl)
  have ne_al_se : nq al se := Ne.symm ne_se_al
  have ne_ec_lc : nq ec lc := pw_ne hap 11 12 (by decide) (Nat.le_of_ble_eq_true rfl)
  have ne_lc_ec : nq lc ec := Ne.symm ne_ec_lc
  have ne_ec_wc : nq ec wc := pw_ne hap 11 13 (by decide) (Nat.le_of_ble_eq_true rfl)
  have ne_wc_ec : nq wc ec := Ne.symm ne_ec_wc
  have ne_ec_ol : nq ec ol := pw_ne hap 11 14 (by decide) (Nat.le_of_ble_eq_true rfl)
  have ne_ol_ec : nq ol ec := Ne.symm ne_ec_ol
  have ne_ec_al : nq ec al := pw_ne hap 11 15 (by decide) (Nat.le_of_ble_eq_true rfl)
  have ne_al_ec : nq al ec := Ne.symm ne_ec_al
  have ne_lc_wc : nq lc wc := pw_ne hap 12 13 (by decide) (Nat.le_of_ble_eq_true rfl)
  have ne_wc_lc : nq wc lc := Ne.symm ne_lc_wc
  have ne_lc_ol : nq lc ol := pw_ne hap 12 14 (by decide) (Nat.le_of_ble_eq_true rfl)
  have ne_ol_lc : nq ol lc := Ne.symm ne_lc_ol
  have ne_lc_al : nq lc al := pw_ne hap 12 15 (by decide) (Nat.le_of_ble_eq_true rfl)
  have ne_al_lc : nq al lc := Ne.symm ne_lc_al
  have ne_wc_ol : nq wc ol := pw_ne hap 13 14 (by decide) (Nat.le_of_ble_eq_true rfl)
  have ne_ol_wc : nq ol wc := Ne.symm ne_wc_ol
  have ne_wc_al : nq wc al := pw_ne hap 13 15 (by decide) (Nat.le_of_ble_eq_true rfl)
  have ne_al_wc : nq al wc := Ne.symm ne_wc_al
  have ne_ol_al : nq ol al := pw_ne hap 14 15 (by decide) (Nat.le_of_ble_eq_true rfl)
  have ne_al_ol : nq al ol := Ne.symm ne_ol_al
  refine lv_iconst (v := (-1)) hx hb dX6_find_0 (by decide) ?_
  refine lv_istore_n (lv' := [(3, .int (-1)), (0, .ref mo), (1, .int (nI t9)), (2, .int id9)]) hx hb dX6_find_1 rfl hl (by decide) rfl (fun ls hl => ?_)
  refine lv_bipush (v := 100) hx hb dX6_find_2 (by decide) ?_
  refine lv_iload_n hx hb dX6_find_4 rfl (lv_at hl 2 rfl) ?_
  refine lv_imul hx hb dX6_find_5 ?_
  refine W.eq (g2 := F0 m 6 ls [.int (nI (100 * t9))]) (by rw [show ((100) * ((nI t9)) : Int32) = nI (100 * t9) from pk_mul 100 t9]) ?_
  refine lv_istore (lv' := [(4, .int (nI (100 * t9))), (3, .int (-1)), (0, .ref mo), (1, .int (nI t9)), (2, .int id9)]) hx hb dX6_find_6 hl (by decide) rfl (fun ls hl => ?_)
  refine W_loop (σ := Nat × Int32) (fun ⟨j, f⟩ H locs ls => (j ≤ 100) ∧ (fP t9 f) ∧ mm D (AZ z) M H ∧ va_S (AZ z) s.heap H locs ∧ lv_has ls 5 [(4, .int (nI (100 * t9 + j))), (3, .int f), (0, .ref mo), (1, .int (nI t9)), (2, .int id9)]) (fun ⟨j, f⟩ => 100 - j) (fun ⟨j, f⟩ => 0) (fun ⟨j, f⟩ => 0) ?_ (0, -1) _ _ _ ⟨Nat.zero_le _, Or.inl rfl, hm, hS, lv_sub hl [0, 1, 2, 3, 4] rfl⟩
  intro ⟨j, f⟩ H locs ls hI ih8
  obtain ⟨hj, hf, hm, hS, hl⟩ := hI
  try dsimp only at hm hl ih8 ⊢
  refine lv_iload hx hb dX6_find_8 (lv_at hl 0 rfl) ?_
  refine lv_bipush (v := 100) hx hb dX6_find_10 (by decide) ?_
  refine lv_iload_n hx hb dX6_find_12 rfl (lv_at hl 3 rfl) ?_
  refine lv_imul hx hb dX6_find_13 ?_
  refine W.eq (g2 := F0 m 14 ls [.int (nI (100 * t9)), .int (nI (100 * t9 + j))]) (by rw [show ((100) * ((nI t9)) : Int32) = nI (100 * t9) from pk_mul 100 t9]) ?_
  refine lv_aload_n hx hb dX6_find_14 rfl (lv_at hl 2 rfl) ?_
  refine m_get (T := TX6) (N := 24) (ci := 6) (v := .ref cn) hx hb hts wX6 hown hK hm hM rfl 1 (by decide) f7 (fun _ h9 => h9) rfl dX6_find_15 ?_
  refine lv_iload_n hx hb dX6_find_18 rfl (lv_at hl 3 rfl) ?_
  refine m_iald hx hb hK hm 0 hcn rfl (vp_in_nI (by omega) (by decide)) dX6_find_19 ?_
  obtain ⟨u1, hu1, eu1⟩ := hrC t9
  refine W.eq (g2 := F0 m 20 ls [.int (nI u1), .int (nI (100 * t9)), .int (nI (100 * t9 + j))]) (by rw [show (fcn ((nI t9)).toNatClampNeg) = nI u1 from (congrArg fcn (show ((nI t9)).toNatClampNeg = t9 from nI_clamp (by omega))).trans eu1]) ?_
  have hb_u1 := hu1
  have hu1 : u1 ≤ 100 := Nat.le_trans hu1 (bC_le _)
  refine lv_iadd hx hb dX6_find_20 ?_
  refine W.eq (g2 := F0 m 21 ls [.int (nI ((100 * t9) + u1)), .int (nI (100 * t9 + j))]) (by rw [show (((nI (100 * t9))) + ((nI u1)) : Int32) = nI ((100 * t9) + u1) from nI_add (100 * t9) u1]) ?_
  refine lv_icmp_ge (tgt := 48) hx hb dX6_find_21 (by decide) (fun c2 => ?_) (fun c2 => ?_)
  · refine lv_iload_n hx hb dX6_find_48 rfl (lv_at hl 1 rfl) ?_
    refine W.iret (v := f) hx hb hr (fun t ht hW => ⟨⟨some (.int f), _, rfl, ?_, by rw [ht]; exact hm⟩, hS.F ht⟩) hS.2.2 dX6_find_49
    exact ⟨⟨_, rfl, hf⟩, rfl⟩
  · have hlt9 : j < u1 := Nat.lt_of_not_le fun q => c2 (nI_le (by omega) (by omega))
    refine lv_aload_n hx hb dX6_find_24 rfl (lv_at hl 2 rfl) ?_
    refine m_get (T := TX6) (N := 24) (ci := 6) (v := .ref ia) hx hb hts wX6 hown hK hm hM rfl 2 (by decide) f13 (fun _ h9 => h9) rfl dX6_find_25 ?_
    refine lv_iload hx hb dX6_find_28 (lv_at hl 0 rfl) ?_
    refine m_iald hx hb hK hm 0 hia rfl (vp_in_nI (by omega) (by decide)) dX6_find_30 ?_
    refine lv_iload_n hx hb dX6_find_31 rfl (lv_at hl 4 rfl) ?_
    refine lv_icmp_ne (tgt := 40) hx hb dX6_find_32 (by decide) (fun c3 => ?_) (fun c3 => ?_)
    · refine lv_iload_n hx hb dX6_find_40 rfl (lv_at hl 1 rfl) ?_
      refine lv_istore_n (lv' := [(3, .int f), (4, .int (nI (100 * t9 + j))), (0, .ref mo), (1, .int (nI t9)), (2, .int id9)]) hx hb dX6_find_41 rfl hl (by decide) rfl (fun ls hl => ?_)
      refine lv_iinc (v := ((nI (100 * t9 + j)) + 1)) (lv' := [(4, .int ((nI (100 * t9 + j)) + 1)), (3, .int f), (0, .ref mo), (1, .int (nI t9)), (2, .int id9)]) hx hb dX6_find_42 hl (k := 1) rfl rfl (by decide) rfl (fun ls hl => ?_)
      refine lv_goto (tgt := 8) hx hb dX6_find_45 (by decide) ?_
      rw [nI_1] at hl
      exact ih8 (j + 1, f) _ _ _ ⟨by omega, hf, hm, hS, lv_sub hl [0, 1, 2, 3, 4] rfl⟩ (by show 100 - (j + 1) < 100 - j; omega)
    · refine lv_iload hx hb dX6_find_35 (lv_at hl 0 rfl) ?_
      refine lv_goto (tgt := 41) hx hb dX6_find_37 (by decide) ?_
      refine lv_istore_n (lv' := [(3, .int (nI (100 * t9 + j))), (4, .int (nI (100 * t9 + j))), (0, .ref mo), (1, .int (nI t9)), (2, .int id9)]) hx hb dX6_find_41 rfl hl (by decide) rfl (fun ls hl => ?_)
      refine lv_iinc (v := ((nI (100 * t9 + j)) + 1)) (lv' := [(4, .int ((nI (100 * t9 + j)) + 1)), (3, .int (nI (100 * t9 + j))), (0, .ref mo), (1, .int (nI t9)), (2, .int id9)]) hx hb dX6_find_42 hl (k := 1) rfl rfl (by decide) rfl (fun ls hl => ?_)
      refine lv_goto (tgt := 8) hx hb dX6_find_45 (by decide) ?_
      rw [nI_1] at hl
      exact ih8 (j + 1, (nI (100 * t9 + j))) _ _ _ ⟨by omega, Or.inr ⟨100 * t9 + j, by omega, by omega, rfl⟩, hm, hS, lv_sub hl [0, 1, 2, 3, 4] rfl⟩ (by show 100 - (j + 1) < 100 - j; omega)

set_option maxHeartbeats 4000000 in
set_option maxRecDepth 100000 in
theorem s_X6_valueOf (l : Launch) (D : va_G) (k : Nat → ClassId) (z : Nat) (M : mM) (mo cn ia dr en la wo op mk ir se ec lc wc ol al : Nat) (dn md : Int32)  (n9 c9c : Nat) (hn9 : n9 < 3200) (hc9 : c9c < 95) (hI : mI k M mo cn ia dr en la wo op mk ir se ec lc wc ol al dn md) : mK l yX6_valueOf wsX6_valueOf ({ frames := 0, cells := 0, slots := 0, locals := 0 }) D k z [.ref mo, .int (nI n9), .int (nI c9c)] M (fun v M' => (∃ x, v = some (.int x) ∧ (c9c = 30 → ∃ y, y ≤ 64 ∧ x = nI y)) ∧ M' = M) := by
  refine Met.ofW (cc := cX6_valueOf) (maxL := 3) (ret := (some .int)) (by decide) rfl ?_
  intro p e s m args below meth c s₁ B hml hv
  obtain ⟨rfl, hz, hcx, hm⟩ := hv
  have hx := B.exec
  have hb := B.bytes
  have hr := B.returns
  have hts := atoms_spec (ws := wsX6_valueOf) B.pre
  have hown : s.vm.findClass RX6 = some m.cls := findClass_of_methodNamed B.named
  have hlocks := B.notSynchronized
  have hK := hcx.1
  have hS : va_S (AZ z) s.heap s.heap [] := va_S.rf
  have hA : ∀ q, s.heap.size ≤ q → AZ z q := fun q h => Nat.le_trans hz h
  have hl := lv_entry ([.ref mo, .int (nI n9), .int (nI c9c)]) (n := 3) (Nat.le_of_ble_eq_true rfl)
  rw [lg_entry_eq]
  generalize (lg_sl ([.ref mo, .int (nI n9), .int (nI c9c)]) ++ List.replicate (3 - (lg_sl ([.ref mo, .int (nI n9), .int (nI c9c)])).length) Slot.unset).toArray = ls at hl ⊢
  have hl : lv_has ls 3 [(0, .ref mo), (1, .int (nI n9)), (2, .int (nI c9c))] := hl
  have f21 := hts (.fieldLink RX6 21 "CommitTreeModel" "entries" "[I") (by decide +kernel)
  have f24 := hts (.fieldLink RX6 24 "CommitTreeModel" "lengths" "[I") (by decide +kernel)
  have f28 := hts (.fieldLink RX6 28 "CommitTreeModel" "words" "[I") (by decide +kernel)
  have wX6 : ∀ w ∈ wsX60, w ∈ wsX6_valueOf := by decide +kernel
  obtain ⟨cd, ni, pw, cm, wr, cs, hm9, fcn, fia, fdr, fen, fla, fwo, fop, fmk, fir, fse, fec, flc, fol, fal, fwc, hap, hM, hmd, ⟨hrC, hrL, hrM⟩, hcn, hia, hdr, hen, hla, hwo, hop, hmk, hir, hse, hec, hlc, hwc, hol, hal⟩ := id hI
  have ne_mo_cn : nq mo cn := pw_ne hap 0 1 (by decide) (Nat.le_of_ble_eq_true rfl)
  have ne_cn_mo : nq cn mo := Ne.symm ne_mo_cn
  have ne_mo_ia : nq mo ia := pw_ne hap 0 2 (by decide) (Nat.le_of_ble_eq_true rfl)
  have ne_ia_mo : nq ia mo := Ne.symm ne_mo_ia
  have ne_mo_dr : nq mo dr := pw_ne hap 0 3 (by decide) (Nat.le_of_ble_eq_true rfl)
  have ne_dr_mo : nq dr mo := Ne.symm ne_mo_dr
  have ne_mo_en : nq mo en := pw_ne hap 0 4 (by decide) (Nat.le_of_ble_eq_true rfl)
  have ne_en_mo : nq en mo := Ne.symm ne_mo_en
  have ne_mo_la : nq mo la := pw_ne hap 0 5 (by decide) (Nat.le_of_ble_eq_true rfl)
  have ne_la_mo : nq la mo := Ne.symm ne_mo_la
  have ne_mo_wo : nq mo wo := pw_ne hap 0 6 (by decide) (Nat.le_of_ble_eq_true rfl)
  have ne_wo_mo : nq wo mo := Ne.symm ne_mo_wo
  have ne_mo_op : nq mo op := pw_ne hap 0 7 (by decide) (Nat.le_of_ble_eq_true rfl)
  have ne_op_mo : nq op mo := Ne.symm ne_mo_op
  have ne_mo_mk : nq mo mk := pw_ne hap 0 8 (by decide) (Nat.le_of_ble_eq_true rfl)
  have ne_mk_mo : nq mk mo := Ne.symm ne_mo_mk
  have ne_mo_ir : nq mo ir := pw_ne hap 0 9 (by decide) (Nat.le_of_ble_eq_true rfl)
  have ne_ir_mo : nq ir mo := Ne.symm ne_mo_ir
  have ne_mo_se : nq mo se := pw_ne hap 0 10 (by decide) (Nat.le_of_ble_eq_true rfl)
  have ne_se_mo : nq se mo := Ne.symm ne_mo_se
  have ne_mo_ec : nq mo ec := pw_ne hap 0 11 (by decide) (Nat.le_of_ble_eq_true rfl)
  have ne_ec_mo : nq ec mo := Ne.symm ne_mo_ec
  have ne_mo_lc : nq mo lc := pw_ne hap 0 12 (by decide) (Nat.le_of_ble_eq_true rfl)
  have ne_lc_mo : nq lc mo := Ne.symm ne_mo_lc
  have ne_mo_wc : nq mo wc := pw_ne hap 0 13 (by decide) (Nat.le_of_ble_eq_true rfl)
  have ne_wc_mo : nq wc mo := Ne.symm ne_mo_wc
  have ne_mo_ol : nq mo ol := pw_ne hap 0 14 (by decide) (Nat.le_of_ble_eq_true rfl)
  have ne_ol_mo : nq ol mo := Ne.symm ne_mo_ol
  have ne_mo_al : nq mo al := pw_ne hap 0 15 (by decide) (Nat.le_of_ble_eq_true rfl)
  have ne_al_mo : nq al mo := Ne.symm ne_mo_al
  have ne_cn_ia : nq cn ia := pw_ne hap 1 2 (by decide) (Nat.le_of_ble_eq_true rfl)
  have ne_ia_cn : nq ia cn := Ne.symm ne_cn_ia
  have ne_cn_dr : nq cn dr := pw_ne hap 1 3 (by decide) (Nat.le_of_ble_eq_true rfl)
  have ne_dr_cn : nq dr cn := Ne.symm ne_cn_dr
  have ne_cn_en : nq cn en := pw_ne hap 1 4 (by decide) (Nat.le_of_ble_eq_true rfl)
  have ne_en_cn : nq en cn := Ne.symm ne_cn_en
  have ne_cn_la : nq cn la := pw_ne hap 1 5 (by decide) (Nat.le_of_ble_eq_true rfl)
  have ne_la_cn : nq la cn := Ne.symm ne_cn_la
  have ne_cn_wo : nq cn wo := pw_ne hap 1 6 (by decide) (Nat.le_of_ble_eq_true rfl)
  have ne_wo_cn : nq wo cn := Ne.symm ne_cn_wo
  have ne_cn_op : nq cn op := pw_ne hap 1 7 (by decide) (Nat.le_of_ble_eq_true rfl)
  have ne_op_cn : nq op cn := Ne.symm ne_cn_op
  have ne_cn_mk : nq cn mk := pw_ne hap 1 8 (by decide) (Nat.le_of_ble_eq_true rfl)
  have ne_mk_cn : nq mk cn := Ne.symm ne_cn_mk
  have ne_cn_ir : nq cn ir := pw_ne hap 1 9 (by decide) (Nat.le_of_ble_eq_true rfl)
  have ne_ir_cn : nq ir cn := Ne.symm ne_cn_ir
  have ne_cn_se : nq cn se := pw_ne hap 1 10 (by decide) (Nat.le_of_ble_eq_true rfl)
  have ne_se_cn : nq se cn := Ne.symm ne_cn_se
  have ne_cn_ec : nq cn ec := pw_ne hap 1 11 (by decide) (Nat.le_of_ble_eq_true rfl)
  have ne_ec_cn : nq ec cn := Ne.symm ne_cn_ec
  have ne_cn_lc : nq cn lc := pw_ne hap 1 12 (by decide) (Nat.le_of_ble_eq_true rfl)
  have ne_lc_cn : nq lc cn := Ne.symm ne_cn_lc
  have ne_cn_wc : nq cn wc := pw_ne hap 1 13 (by decide) (Nat.le_of_ble_eq_true rfl)
  have ne_wc_cn : nq wc cn := Ne.symm ne_cn_wc
  have ne_cn_ol : nq cn ol := pw_ne hap 1 14 (by decide) (Nat.le_of_ble_eq_true rfl)
  have ne_ol_cn : nq ol cn := Ne.symm ne_cn_ol
  have ne_cn_al : nq cn al := pw_ne hap 1 15 (by decide) (Nat.le_of_ble_eq_true rfl)
  have ne_al_cn : nq al cn := Ne.symm ne_cn_al
  have ne_ia_dr : nq ia dr := pw_ne hap 2 3 (by decide) (Nat.le_of_ble_eq_true rfl)
  have ne_dr_ia : nq dr ia := Ne.symm ne_ia_dr
  have ne_ia_en : nq ia en := pw_ne hap 2 4 (by decide) (Nat.le_of_ble_eq_true rfl)
  have ne_en_ia : nq en ia := Ne.symm ne_ia_en
  have ne_ia_la : nq ia la := pw_ne hap 2 5 (by decide) (Nat.le_of_ble_eq_true rfl)
  have ne_la_ia : nq la ia := Ne.symm ne_ia_la
  have ne_ia_wo : nq ia wo := pw_ne hap 2 6 (by decide) (Nat.le_of_ble_eq_true rfl)
  have ne_wo_ia : nq wo ia := Ne.symm ne_ia_wo
  have ne_ia_op : nq ia op := pw_ne hap 2 7 (by decide) (Nat.le_of_ble_eq_true rfl)
  have ne_op_ia : nq op ia := Ne.symm ne_ia_op
  have ne_ia_mk : nq ia mk := pw_ne hap 2 8 (by decide) (Nat.le_of_ble_eq_true rfl)
  have ne_mk_ia : nq mk ia := Ne.symm ne_ia_mk
  have ne_ia_ir : nq ia ir := pw_ne hap 2 9 (by decide) (Nat.le_of_ble_eq_true rfl)
  have ne_ir_ia : nq ir ia := Ne.symm ne_ia_ir
  have ne_ia_se : nq ia se := pw_ne hap 2 10 (by decide) (Nat.le_of_ble_eq_true rfl)
  have ne_se_ia : nq se ia := Ne.symm ne_ia_se
  have ne_ia_ec : nq ia ec := pw_ne hap 2 11 (by decide) (Nat.le_of_ble_eq_true rfl)
  have ne_ec_ia : nq ec ia := Ne.symm ne_ia_ec
  have ne_ia_lc : nq ia lc := pw_ne hap 2 12 (by decide) (Nat.le_of_ble_eq_true rfl)
  have ne_lc_ia : nq lc ia := Ne.symm ne_ia_lc
  have ne_ia_wc : nq ia wc := pw_ne hap 2 13 (by decide) (Nat.le_of_ble_eq_true rfl)
  have ne_wc_ia : nq wc ia := Ne.symm ne_ia_wc
  have ne_ia_ol : nq ia ol := pw_ne hap 2 14 (by decide) (Nat.le_of_ble_eq_true rfl)
  have ne_ol_ia : nq ol ia := Ne.symm ne_ia_ol
  have ne_ia_al : nq ia al := pw_ne hap 2 15 (by decide) (Nat.le_of_ble_eq_true rfl)
  have ne_al_ia : nq al ia := Ne.symm ne_ia_al
  have ne_dr_en : nq dr en := pw_ne hap 3 4 (by decide) (Nat.le_of_ble_eq_true rfl)
  have ne_en_dr : nq en dr := Ne.symm ne_dr_en
  have ne_dr_la : nq dr la := pw_ne hap 3 5 (by decide) (Nat.le_of_ble_eq_true rfl)
  have ne_la_dr : nq la dr := Ne.symm ne_dr_la
  have ne_dr_wo : nq dr wo := pw_ne hap 3 6 (by decide) (Nat.le_of_ble_eq_true rfl)
  have ne_wo_dr : nq wo dr := Ne.symm ne_dr_wo
  have ne_dr_op : nq dr op := pw_ne hap 3 7 (by decide) (Nat.le_of_ble_eq_true rfl)
  have ne_op_dr : nq op dr := Ne.symm ne_dr_op
  have ne_dr_mk : nq dr mk := pw_ne hap 3 8 (by decide) (Nat.le_of_ble_eq_true rfl)
  have ne_mk_dr : nq mk dr := Ne.symm ne_dr_mk
  have ne_dr_ir : nq dr ir := pw_ne hap 3 9 (by decide) (Nat.le_of_ble_eq_true rfl)
  have ne_ir_dr : nq ir dr := Ne.symm ne_dr_ir
  have ne_dr_se : nq dr se := pw_ne hap 3 10 (by decide) (Nat.le_of_ble_eq_true rfl)
  have ne_se_dr : nq se dr := Ne.symm ne_dr_se
  have ne_dr_ec : nq dr ec := pw_ne hap 3 11 (by decide) (Nat.le_of_ble_eq_true rfl)
  have ne_ec_dr : nq ec dr := Ne.symm ne_dr_ec
  have ne_dr_lc : nq dr lc := pw_ne hap 3 12 (by decide) (Nat.le_of_ble_eq_true rfl)
  have ne_lc_dr : nq lc dr := Ne.symm ne_dr_lc
  have ne_dr_wc : nq dr wc := pw_ne hap 3 13 (by decide) (Nat.le_of_ble_eq_true rfl)
  have ne_wc_dr : nq wc dr := Ne.symm ne_dr_wc
  have ne_dr_ol : nq dr ol := pw_ne hap 3 14 (by decide) (Nat.le_of_ble_eq_true rfl)
  have ne_ol_dr : nq ol dr := Ne.symm ne_dr_ol
  have ne_dr_al : nq dr al := pw_ne hap 3 15 (by decide) (Nat.le_of_ble_eq_true rfl)
  have ne_al_dr : nq al dr := Ne.symm ne_dr_al
  have ne_en_la : nq en la := pw_ne hap 4 5 (by decide) (Nat.le_of_ble_eq_true rfl)
  have ne_la_en : nq la en := Ne.symm ne_en_la
  have ne_en_wo : nq en wo := pw_ne hap 4 6 (by decide) (Nat.le_of_ble_eq_true rfl)
  have ne_wo_en : nq wo en := Ne.symm ne_en_wo
  have ne_en_op : nq en op := pw_ne hap 4 7 (by decide) (Nat.le_of_ble_eq_true rfl)
  have ne_op_en : nq op en := Ne.symm ne_en_op
  have ne_en_mk : nq en mk := pw_ne hap 4 8 (by decide) (Nat.le_of_ble_eq_true rfl)
  have ne_mk_en : nq mk en := Ne.symm ne_en_mk
  have ne_en_ir : nq en ir := pw_ne hap 4 9 (by decide) (Nat.le_of_ble_eq_true rfl)
  have ne_ir_en : nq ir en := Ne.symm ne_en_ir
  have ne_en_se : nq en se := pw_ne hap 4 10 (by decide) (Nat.le_of_ble_eq_true rfl)
  have ne_se_en : nq se en := Ne.symm ne_en_se
  have ne_en_ec : nq en ec := pw_ne hap 4 11 (by decide) (Nat.le_of_ble_eq_true rfl)
  have ne_ec_en : nq ec en := Ne.symm ne_en_ec
  have ne_en_lc : nq en lc := pw_ne hap 4 12 (by decide) (Nat.le_of_ble_eq_true rfl)
  have ne_lc_en : nq lc en := Ne.symm ne_en_lc
  have ne_en_wc : nq en wc := pw_ne hap 4 13 (by decide) (Nat.le_of_ble_eq_true rfl)
  have ne_wc_en : nq wc en := Ne.symm ne_en_wc
  have ne_en_ol : nq en ol := pw_ne hap 4 14 (by decide) (Nat.le_of_ble_eq_true rfl)
  have ne_ol_en : nq ol en := Ne.symm ne_en_ol
  have ne_en_al : nq en al := pw_ne hap 4 15 (by decide) (Nat.le_of_ble_eq_true rfl)
  have ne_al_en : nq al en := Ne.symm ne_en_al
  have ne_la_wo : nq la wo := pw_ne hap 5 6 (by decide) (Nat.le_of_ble_eq_true rfl)
  have ne_wo_la : nq wo la := Ne.symm ne_la_wo
  have ne_la_op : nq la op := pw_ne hap 5 7 (by decide) (Nat.le_of_ble_eq_true rfl)
  have ne_op_la : nq op la := Ne.symm ne_la_op
  have ne_la_mk : nq la mk := pw_ne hap 5 8 (by decide) (Nat.le_of_ble_eq_true rfl)
  have ne_mk_la : nq mk la := Ne.symm ne_la_mk
  have ne_la_ir : nq la ir := pw_ne hap 5 9 (by decide) (Nat.le_of_ble_eq_true rfl)
  have ne_ir_la : nq ir la := Ne.symm ne_la_ir
  have ne_la_se : nq la se := pw_ne hap 5 10 (by decide) (Nat.le_of_ble_eq_true rfl)
  have ne_se_la : nq se la := Ne.symm ne_la_se
  have ne_la_ec : nq la ec := pw_ne hap 5 11 (by decide) (Nat.le_of_ble_eq_true rfl)
  have ne_ec_la : nq ec la := Ne.symm ne_la_ec
  have ne_la_lc : nq la lc := pw_ne hap 5 12 (by decide) (Nat.le_of_ble_eq_true rfl)
  have ne_lc_la : nq lc la := Ne.symm ne_la_lc
  have ne_la_wc : nq la wc := pw_ne hap 5 13 (by decide) (Nat.le_of_ble_eq_true rfl)
  have ne_wc_la : nq wc la := Ne.symm ne_la_wc
  have ne_la_ol : nq la ol := pw_ne hap 5 14 (by decide) (Nat.le_of_ble_eq_true rfl)
  have ne_ol_la : nq ol la := Ne.symm ne_la_ol
  have ne_la_al : nq la al := pw_ne hap 5 15 (by decide) (Nat.le_of_ble_eq_true rfl)
  have ne_al_la : nq al la := Ne.symm ne_la_al
  have ne_wo_op : nq wo op := pw_ne hap 6 7 (by decide) (Nat.le_of_ble_eq_true rfl)
  have ne_op_wo : nq op wo := Ne.symm ne_wo_op
  have ne_wo_mk : nq wo mk := pw_ne hap 6 8 (by decide) (Nat.le_of_ble_eq_true rfl)
  have ne_mk_wo : nq mk wo := Ne.symm ne_wo_mk
  have ne_wo_ir : nq wo ir := pw_ne hap 6 9 (by decide) (Nat.le_of_ble_eq_true rfl)
  have ne_ir_wo : nq ir wo := Ne.symm ne_wo_ir
  have ne_wo_se : nq wo se := pw_ne hap 6 10 (by decide) (Nat.le_of_ble_eq_true rfl)
  have ne_se_wo : nq se wo := Ne.symm ne_wo_se
  have ne_wo_ec : nq wo ec := pw_ne hap 6 11 (by decide) (Nat.le_of_ble_eq_true rfl)
  have ne_ec_wo : nq ec wo := Ne.symm ne_wo_ec
  have ne_wo_lc : nq wo lc := pw_ne hap 6 12 (by decide) (Nat.le_of_ble_eq_true rfl)
  have ne_lc_wo : nq lc wo := Ne.symm ne_wo_lc
  have ne_wo_wc : nq wo wc := pw_ne hap 6 13 (by decide) (Nat.le_of_ble_eq_true rfl)
  have ne_wc_wo : nq wc wo := Ne.symm ne_wo_wc
  have ne_wo_ol : nq wo ol := pw_ne hap 6 14 (by decide) (Nat.le_of_ble_eq_true rfl)
  have ne_ol_wo : nq ol wo := Ne.symm ne_wo_ol
  have ne_wo_al : nq wo al := pw_ne hap 6 15 (by decide) (Nat.le_of_ble_eq_true rfl)
  have ne_al_wo : nq al wo := Ne.symm ne_wo_al
  have ne_op_mk : nq op mk := pw_ne hap 7 8 (by decide) (Nat.le_of_ble_eq_true rfl)
  have ne_mk_op : nq mk op := Ne.symm ne_op_mk
  have ne_op_ir : nq op ir := pw_ne hap 7 9 (by decide) (Nat.le_of_ble_eq_true rfl)
  have ne_ir_op : nq ir op := Ne.symm ne_op_ir
  have ne_op_se : nq op se := pw_ne hap 7 10 (by decide) (Nat.le_of_ble_eq_true rfl)
  have ne_se_op : nq se op := Ne.symm ne_op_se
  have ne_op_ec : nq op ec := pw_ne hap 7 11 (by decide) (Nat.le_of_ble_eq_true rfl)
  have ne_ec_op : nq ec op := Ne.symm ne_op_ec
  have ne_op_lc : nq op lc := pw_ne hap 7 12 (by decide) (Nat.le_of_ble_eq_true rfl)
  have ne_lc_op : nq lc op := Ne.symm ne_op_lc
  have ne_op_wc : nq op wc := pw_ne hap 7 13 (by decide) (Nat.le_of_ble_eq_true rfl)
  have ne_wc_op : nq wc op := Ne.symm ne_op_wc
  have ne_op_ol : nq op ol := pw_ne hap 7 14 (by decide) (Nat.le_of_ble_eq_true rfl)
  have ne_ol_op : nq ol op := Ne.symm ne_op_ol
  have ne_op_al : nq op al := pw_ne hap 7 15 (by decide) (Nat.le_of_ble_eq_true rfl)
  have ne_al_op : nq al op := Ne.symm ne_op_al
  have ne_mk_ir : nq mk ir := pw_ne hap 8 9 (by decide) (Nat.le_of_ble_eq_true rfl)
  have ne_ir_mk : nq ir mk := Ne.symm ne_mk_ir
  have ne_mk_se : nq mk se := pw_ne hap 8 10 (by decide) (Nat.le_of_ble_eq_true rfl)
  have ne_se_mk : nq se mk := Ne.symm ne_mk_se
  have ne_mk_ec : nq mk ec := pw_ne hap 8 11 (by decide) (Nat.le_of_ble_eq_true rfl)
  have ne_ec_mk : nq ec mk := Ne.symm ne_mk_ec
  have ne_mk_lc : nq mk lc := pw_ne hap 8 12 (by decide) (Nat.le_of_ble_eq_true rfl)
  have ne_lc_mk : nq lc mk := Ne.symm ne_mk_lc
  have ne_mk_wc : nq mk wc := pw_ne hap 8 13 (by decide) (Nat.le_of_ble_eq_true rfl)
  have ne_wc_mk : nq wc mk := Ne.symm ne_mk_wc
  have ne_mk_ol : nq mk ol := pw_ne hap 8 14 (by decide) (Nat.le_of_ble_eq_true rfl)
  have ne_ol_mk : nq ol mk := Ne.symm ne_mk_ol
  have ne_mk_al : nq mk al := pw_ne hap 8 15 (by decide) (Nat.le_of_ble_eq_true rfl)
  have ne_al_mk : nq al mk := Ne.symm ne_mk_al
  have ne_ir_se : nq ir se := pw_ne hap 9 10 (by decide) (Nat.le_of_ble_eq_true rfl)
  have ne_se_ir : nq se ir := Ne.symm ne_ir_se
  have ne_ir_ec : nq ir ec := pw_ne hap 9 11 (by decide) (Nat.le_of_ble_eq_true rfl)
  have ne_ec_ir : nq ec ir := Ne.symm ne_ir_ec
  have ne_ir_lc : nq ir lc := pw_ne hap 9 12 (by decide) (Nat.le_of_ble_eq_true rfl)
  have ne_lc_ir : nq lc ir := Ne.symm ne_ir_lc
  have ne_ir_wc : nq ir wc := pw_ne hap 9 13 (by decide) (Nat.le_of_ble_eq_true rfl)
  have ne_wc_ir : nq wc ir := Ne.symm ne_ir_wc
  have ne_ir_ol : nq ir ol := pw_ne hap 9 14 (by decide) (Nat.le_of_ble_eq_true rfl)
  have ne_ol_ir : nq ol ir := Ne.symm ne_ir_ol
  have ne_ir_al : nq ir al := pw_ne hap 9 15 (by decide) (Nat.le_of_ble_eq_true rfl)
  have ne_al_ir : nq al ir := Ne.symm ne_ir_al
  have ne_se_ec : nq se ec := pw_ne hap 10 11 (by decide) (Nat.le_of_ble_eq_true rfl)
  have ne_ec_se : nq ec se := Ne.symm ne_se_ec
  have ne_se_lc : nq se lc := pw_ne hap 10 12 (by decide) (Nat.le_of_ble_eq_true rfl)
  have ne_lc_se : nq lc se := Ne.symm ne_se_lc
  have ne_se_wc : nq se wc := pw_ne hap 10 13 (by decide) (Nat.le_of_ble_eq_true rfl)
  have ne_wc_se : nq wc se := Ne.symm ne_se_wc
  have ne_se_ol : nq se ol := pw_ne hap 10 14 (by decide) (Nat.le_of_ble_eq_true rfl)
  have ne_ol_se : nq ol se := Ne.symm ne_se_ol
  have ne_se_al : nq se al := pw_ne hap 10 15 (by decide) (Nat.le_of_ble_eq_true rfl)
  have ne_al_se : nq al se := Ne.symm ne_se_al
  have ne_ec_lc : nq ec lc := pw_ne hap 11 12 (by decide) (Nat.le_of_ble_eq_true rfl)
  have ne_lc_ec : nq lc ec := Ne.symm ne_ec_lc
  have ne_ec_wc : nq ec wc := pw_ne hap 11 13 (by decide) (Nat.le_of_ble_eq_true rfl)
  have ne_wc_ec : nq wc ec := Ne.symm ne_ec_wc
  have ne_ec_ol : nq ec ol := pw_ne hap 11 14 (by decide) (Nat.le_of_ble_eq_true rfl)
  have ne_ol_ec : nq ol ec := Ne.symm ne_ec_ol
  have ne_ec_al : nq ec al := pw_ne hap 11 15 (by decide) (Nat.le_of_ble_eq_true rfl)
  have ne_al_ec : nq al ec := Ne.symm ne_ec_al
  have ne_lc_wc : nq lc wc := pw_ne hap 12 13 (by decide) (Nat.le_of_ble_eq_true rfl)
  have ne_wc_lc : nq wc lc := Ne.symm ne_lc_wc
  have ne_lc_ol : nq lc ol := pw_ne hap 12 14 (by decide) (Nat.le_of_ble_eq_true rfl)
  have ne_ol_lc : nq ol lc := Ne.symm ne_lc_ol
  have ne_lc_al : nq lc al := pw_ne hap 12 15 (by decide) (Nat.le_of_ble_eq_true rfl)
  have ne_al_lc : nq al lc := Ne.symm ne_lc_al
  have ne_wc_ol : nq wc ol := pw_ne hap 13 14 (by decide) (Nat.le_of_ble_eq_true rfl)
  have ne_ol_wc : nq ol wc := Ne.symm ne_wc_ol
  have ne_wc_al : nq wc al := pw_ne hap 13 15 (by decide) (Nat.le_of_ble_eq_true rfl)
  have ne_al_wc : nq al wc := Ne.symm ne_wc_al
  have ne_ol_al : nq ol al := pw_ne hap 14 15 (by decide) (Nat.le_of_ble_eq_true rfl)
  have ne_al_ol : nq al ol := Ne.symm ne_ol_al
  refine lv_iload_n hx hb dX6_valueOf_0 rfl (lv_at hl 2 rfl) ?_
  refine lv_bipush (v := 15) hx hb dX6_valueOf_1 (by decide) ?_
  refine lv_icmp_ge (tgt := 20) hx hb dX6_valueOf_3 (by decide) (fun c1 => ?_) (fun c1 => ?_)
  · have hge3 : 15 ≤ c9c := (nI_leI (a := 15) (by decide) (by omega)).mp c1
    refine lv_iload_n hx hb dX6_valueOf_20 rfl (lv_at hl 2 rfl) ?_
    refine lv_bipush (v := 30) hx hb dX6_valueOf_21 (by decide) ?_
    refine lv_icmp_ge (tgt := 49) hx hb dX6_valueOf_23 (by decide) (fun c2 => ?_) (fun c2 => ?_)
    · have hge23 : 30 ≤ c9c := (nI_leI (a := 30) (by decide) (by omega)).mp c2
      refine lv_iload_n hx hb dX6_valueOf_49 rfl (lv_at hl 2 rfl) ?_
      refine lv_bipush (v := 30) hx hb dX6_valueOf_50 (by decide) ?_
      refine lv_icmp_ne (tgt := 64) hx hb dX6_valueOf_52 (by decide) (fun c3 => ?_) (fun c3 => ?_)
      · have hne52 : c9c ≠ 30 := fun q => c3 (by rw [q]; rfl)
        refine lv_aload_n hx hb dX6_valueOf_64 rfl (lv_at hl 0 rfl) ?_
        refine m_get (T := TX6) (N := 24) (ci := 6) (v := .ref wo) hx hb hts wX6 hown hK hm hM rfl 6 (by decide) f28 (fun _ h9 => h9) rfl dX6_valueOf_65 ?_
        refine lv_bipush (v := 64) hx hb dX6_valueOf_68 (by decide) ?_
        refine lv_iload_n hx hb dX6_valueOf_70 rfl (lv_at hl 1 rfl) ?_
        refine lv_imul hx hb dX6_valueOf_71 ?_
        refine W.eq (g2 := F0 m 72 ls [.int (nI (64 * n9)), .ref wo]) (by rw [show ((64) * ((nI n9)) : Int32) = nI (64 * n9) from pk_mul 64 n9]) ?_
        refine lv_iload_n hx hb dX6_valueOf_72 rfl (lv_at hl 2 rfl) ?_
        refine lv_iadd hx hb dX6_valueOf_73 ?_
        refine W.eq (g2 := F0 m 74 ls [.int (nI ((64 * n9) + c9c)), .ref wo]) (by rw [show (((nI (64 * n9))) + ((nI c9c)) : Int32) = nI ((64 * n9) + c9c) from nI_add (64 * n9) c9c]) ?_
        refine lv_bipush (v := 31) hx hb dX6_valueOf_74 (by decide) ?_
        refine lv_isub hx hb dX6_valueOf_76 ?_
        refine W.eq (g2 := F0 m 77 ls [.int (nI (((64 * n9) + c9c) - 31)), .ref wo]) (by rw [show (((nI ((64 * n9) + c9c))) - (31) : Int32) = nI (((64 * n9) + c9c) - 31) from pk_sub (a := ((64 * n9) + c9c)) (b := 31) (by omega)]) ?_
        refine m_iald hx hb hK hm 0 hwo rfl (vp_in_nI (by omega) (by decide)) dX6_valueOf_77 ?_
        refine W.iret (v := (fwo ((nI (((64 * n9) + c9c) - 31))).toNatClampNeg)) hx hb hr (fun t ht hW => ⟨⟨some (.int (fwo ((nI (((64 * n9) + c9c) - 31))).toNatClampNeg)), _, rfl, ?_, by rw [ht]; exact hm⟩, hS.F ht⟩) hS.2.2 dX6_valueOf_78
        first
          | exact ⟨⟨_, rfl, fun _ => ⟨_, by assumption, rfl⟩⟩, rfl⟩
          | exact ⟨⟨_, rfl, fun q => absurd q hne52⟩, rfl⟩
      · refine lv_aload_n hx hb dX6_valueOf_55 rfl (lv_at hl 0 rfl) ?_
        refine m_get (T := TX6) (N := 24) (ci := 6) (v := .ref la) hx hb hts wX6 hown hK hm hM rfl 5 (by decide) f24 (fun _ h9 => h9) rfl dX6_valueOf_56 ?_
        refine lv_iload_n hx hb dX6_valueOf_59 rfl (lv_at hl 1 rfl) ?_
        refine m_iald hx hb hK hm 0 hla rfl (vp_in_nI (by omega) (by decide)) dX6_valueOf_60 ?_
        obtain ⟨u4, hu4, eu4⟩ := hrL n9
        refine W.eq (g2 := F0 m 61 ls [.int (nI u4)]) (by rw [show (fla ((nI n9)).toNatClampNeg) = nI u4 from (congrArg fla (show ((nI n9)).toNatClampNeg = n9 from nI_clamp (by omega))).trans eu4]) ?_
        have hb_u4 := hu4
        have hu4 : u4 ≤ 64 := hu4
        refine lv_goto (tgt := 78) hx hb dX6_valueOf_61 (by decide) ?_
        refine W.iret (v := (nI u4)) hx hb hr (fun t ht hW => ⟨⟨some (.int (nI u4)), _, rfl, ?_, by rw [ht]; exact hm⟩, hS.F ht⟩) hS.2.2 dX6_valueOf_78
        first
          | exact ⟨⟨_, rfl, fun _ => ⟨_, by assumption, rfl⟩⟩, rfl⟩
          | exact ⟨⟨_, rfl, fun q => absurd q hne52⟩, rfl⟩
    · have hlt23 : c9c < 30 := Nat.lt_of_not_le fun q => c2 (nI_le (a := 30) q (by omega))
      refine lv_aload_n hx hb dX6_valueOf_26 rfl (lv_at hl 0 rfl) ?_
      refine m_get (T := TX6) (N := 24) (ci := 6) (v := .ref en) hx hb hts wX6 hown hK hm hM rfl 4 (by decide) f21 (fun _ h9 => h9) rfl dX6_valueOf_27 ?_
      refine lv_bipush (v := 16) hx hb dX6_valueOf_30 (by decide) ?_
      refine lv_iload_n hx hb dX6_valueOf_32 rfl (lv_at hl 1 rfl) ?_
      refine lv_imul hx hb dX6_valueOf_33 ?_
      refine W.eq (g2 := F0 m 34 ls [.int (nI (16 * n9)), .ref en]) (by rw [show ((16) * ((nI n9)) : Int32) = nI (16 * n9) from pk_mul 16 n9]) ?_
      refine lv_iload_n hx hb dX6_valueOf_34 rfl (lv_at hl 2 rfl) ?_
      refine lv_iadd hx hb dX6_valueOf_35 ?_
      refine W.eq (g2 := F0 m 36 ls [.int (nI ((16 * n9) + c9c)), .ref en]) (by rw [show (((nI (16 * n9))) + ((nI c9c)) : Int32) = nI ((16 * n9) + c9c) from nI_add (16 * n9) c9c]) ?_
      refine lv_bipush (v := 14) hx hb dX6_valueOf_36 (by decide) ?_
      refine lv_isub hx hb dX6_valueOf_38 ?_
      refine W.eq (g2 := F0 m 39 ls [.int (nI (((16 * n9) + c9c) - 14)), .ref en]) (by rw [show (((nI ((16 * n9) + c9c))) - (14) : Int32) = nI (((16 * n9) + c9c) - 14) from pk_sub (a := ((16 * n9) + c9c)) (b := 14) (by omega)]) ?_
      refine m_iald hx hb hK hm 0 hen rfl (vp_in_nI (by omega) (by decide)) dX6_valueOf_39 ?_
      refine lv_if_le (tgt := 47) hx hb dX6_valueOf_40 (by decide) (fun c5 => ?_) (fun c5 => ?_)
      · refine lv_iconst (v := 0) hx hb dX6_valueOf_47 (by decide) ?_
        refine W.iret (v := 0) hx hb hr (fun t ht hW => ⟨⟨some (.int 0), _, rfl, ?_, by rw [ht]; exact hm⟩, hS.F ht⟩) hS.2.2 dX6_valueOf_48
        exact ⟨⟨_, rfl, fun q => by omega⟩, rfl⟩
      · refine lv_iconst (v := 1) hx hb dX6_valueOf_43 (by decide) ?_
        refine lv_goto (tgt := 48) hx hb dX6_valueOf_44 (by decide) ?_
        refine W.iret (v := 1) hx hb hr (fun t ht hW => ⟨⟨some (.int 1), _, rfl, ?_, by rw [ht]; exact hm⟩, hS.F ht⟩) hS.2.2 dX6_valueOf_48
        exact ⟨⟨_, rfl, fun q => by omega⟩, rfl⟩
  · have hlt3 : c9c < 15 := Nat.lt_of_not_le fun q => c1 (nI_le (a := 15) q (by omega))
    refine lv_aload_n hx hb dX6_valueOf_6 rfl (lv_at hl 0 rfl) ?_
    refine m_get (T := TX6) (N := 24) (ci := 6) (v := .ref en) hx hb hts wX6 hown hK hm hM rfl 4 (by decide) f21 (fun _ h9 => h9) rfl dX6_valueOf_7 ?_
    refine lv_bipush (v := 16) hx hb dX6_valueOf_10 (by decide) ?_
    refine lv_iload_n hx hb dX6_valueOf_12 rfl (lv_at hl 1 rfl) ?_
    refine lv_imul hx hb dX6_valueOf_13 ?_
    refine W.eq (g2 := F0 m 14 ls [.int (nI (16 * n9)), .ref en]) (by rw [show ((16) * ((nI n9)) : Int32) = nI (16 * n9) from pk_mul 16 n9]) ?_
    refine lv_iload_n hx hb dX6_valueOf_14 rfl (lv_at hl 2 rfl) ?_
    refine lv_iadd hx hb dX6_valueOf_15 ?_
    refine W.eq (g2 := F0 m 16 ls [.int (nI ((16 * n9) + c9c)), .ref en]) (by rw [show (((nI (16 * n9))) + ((nI c9c)) : Int32) = nI ((16 * n9) + c9c) from nI_add (16 * n9) c9c]) ?_
    refine lv_iconst (v := 1) hx hb dX6_valueOf_16 (by decide) ?_
    refine lv_iadd hx hb dX6_valueOf_17 ?_
    refine W.eq (g2 := F0 m 18 ls [.int (nI (((16 * n9) + c9c) + 1)), .ref en]) (by rw [show (((nI ((16 * n9) + c9c))) + (1) : Int32) = nI (((16 * n9) + c9c) + 1) from nI_add ((16 * n9) + c9c) 1]) ?_
    refine m_iald hx hb hK hm 0 hen rfl (vp_in_nI (by omega) (by decide)) dX6_valueOf_18 ?_
    refine W.iret (v := (fen ((nI (((16 * n9) + c9c) + 1))).toNatClampNeg)) hx hb hr (fun t ht hW => ⟨⟨some (.int (fen ((nI (((16 * n9) + c9c) + 1))).toNatClampNeg)), _, rfl, ?_, by rw [ht]; exact hm⟩, hS.F ht⟩) hS.2.2 dX6_valueOf_19
    exact ⟨⟨_, rfl, fun q => by omega⟩, rfl⟩

set_option maxHeartbeats 4000000 in
set_option maxRecDepth 100000 in
theorem s_X6_hasCode (l : Launch) (D : va_G) (k : Nat → ClassId) (z : Nat) (M : mM)  (d9 c9c : Int32) : mK l yX6_hasCode wsX6_hasCode ({ frames := 0, cells := 0, slots := 0, locals := 0 }) D k z [.int d9, .int c9c] M (fun v M' => (∃ x, v = some (.int x)) ∧ M' = M) := by
  refine Met.ofW (cc := cX6_hasCode) (maxL := 2) (ret := (some .boolean)) (by decide) rfl ?_
  intro p e s m args below meth c s₁ B hml hv
  obtain ⟨rfl, hz, hcx, hm⟩ := hv
  have hx := B.exec
  have hb := B.bytes
  have hr := B.returns
  have hts := atoms_spec (ws := wsX6_hasCode) B.pre
  have hown : s.vm.findClass RX6 = some m.cls := findClass_of_methodNamed B.named
  have hlocks := B.notSynchronized
  have hK := hcx.1
  have hS : va_S (AZ z) s.heap s.heap [] := va_S.rf
  have hA : ∀ q, s.heap.size ≤ q → AZ z q := fun q h => Nat.le_trans hz h
  have hl := lv_entry ([.int d9, .int c9c]) (n := 2) (Nat.le_of_ble_eq_true rfl)
  rw [lg_entry_eq]
  generalize (lg_sl ([.int d9, .int c9c]) ++ List.replicate (2 - (lg_sl ([.int d9, .int c9c])).length) Slot.unset).toArray = ls at hl ⊢
  have hl : lv_has ls 2 [(0, .int d9), (1, .int c9c)] := hl
  refine lv_iload_n hx hb dX6_hasCode_0 rfl (lv_at hl 0 rfl) ?_
  refine lv_iload_n hx hb dX6_hasCode_1 rfl (lv_at hl 1 rfl) ?_
  refine lv_bipush (v := 30) hx hb dX6_hasCode_2 (by decide) ?_
  refine lv_icmp_ge (tgt := 11) hx hb dX6_hasCode_4 (by decide) (fun c1 => ?_) (fun c1 => ?_)
  · refine lv_iconst (v := 0) hx hb dX6_hasCode_11 (by decide) ?_
    refine lv_icmp_ne (tgt := 19) hx hb dX6_hasCode_12 (by decide) (fun c2 => ?_) (fun c2 => ?_)
    · refine lv_iconst (v := 0) hx hb dX6_hasCode_19 (by decide) ?_
      refine W.zret hx hb hr rfl (fun t ht hW => ⟨⟨some (.int 0), _, rfl, ?_, by rw [ht]; exact hm⟩, hS.F ht⟩) hS.2.2 dX6_hasCode_20
      exact ⟨⟨_, rfl⟩, rfl⟩
    · refine lv_iconst (v := 1) hx hb dX6_hasCode_15 (by decide) ?_
      refine lv_goto (tgt := 20) hx hb dX6_hasCode_16 (by decide) ?_
      refine W.zret hx hb hr rfl (fun t ht hW => ⟨⟨some (.int 1), _, rfl, ?_, by rw [ht]; exact hm⟩, hS.F ht⟩) hS.2.2 dX6_hasCode_20
      exact ⟨⟨_, rfl⟩, rfl⟩
  · refine lv_iconst (v := 1) hx hb dX6_hasCode_7 (by decide) ?_
    refine lv_goto (tgt := 12) hx hb dX6_hasCode_8 (by decide) ?_
    refine lv_icmp_ne (tgt := 19) hx hb dX6_hasCode_12 (by decide) (fun c3 => ?_) (fun c3 => ?_)
    · refine lv_iconst (v := 0) hx hb dX6_hasCode_19 (by decide) ?_
      refine W.zret hx hb hr rfl (fun t ht hW => ⟨⟨some (.int 0), _, rfl, ?_, by rw [ht]; exact hm⟩, hS.F ht⟩) hS.2.2 dX6_hasCode_20
      exact ⟨⟨_, rfl⟩, rfl⟩
    · refine lv_iconst (v := 1) hx hb dX6_hasCode_15 (by decide) ?_
      refine lv_goto (tgt := 20) hx hb dX6_hasCode_16 (by decide) ?_
      refine W.zret hx hb hr rfl (fun t ht hW => ⟨⟨some (.int 1), _, rfl, ?_, by rw [ht]; exact hm⟩, hS.F ht⟩) hS.2.2 dX6_hasCode_20
      exact ⟨⟨_, rfl⟩, rfl⟩
