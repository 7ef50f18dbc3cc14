/-! What find finds, as a value; the nodes along a path. -/
def fv (ia : Nat → Int32) (id : Int32) (b : Nat) : Nat → Int32
  | 0 => -1
  | j + 1 => if ia (b + j) = id then nI (b + j) else fv ia id b j
theorem fv_cases (ia : Nat → Int32) (id : Int32) (b : Nat) : ∀ u, fv ia id b u = -1 ∨ ∃ n, b ≤ n ∧ n < b + u ∧ fv ia id b u = nI n
  | 0 => Or.inl rfl
  | u + 1 => by
    unfold fv
    by_cases h : ia (b + u) = id
    · rw [if_pos h]; exact Or.inr ⟨b + u, by omega, by omega, rfl⟩
    · rw [if_neg h]
      rcases fv_cases ia id b u with q | ⟨n, q1, q2, q3⟩
      · exact Or.inl q
      · exact Or.inr ⟨n, q1, by omega, q3⟩
/-- the three rows of a tree T that a look goes by -/
def rw3 (k : Nat → ClassId) (M : mM) (cn ia en T : Nat) (g a e : Nat → Int32) (u : Nat) : Prop := M cn = some (.inl (k 0, 32, .inl g)) ∧ M ia = some (.inl (k 0, 3200, .inl a)) ∧ M en = some (.inl (k 0, 51200, .inl e)) ∧ g T = nI u ∧ u ≤ 60
def dg (path : Int32) (i : Nat) : Int32 := (path >>> (nI (4 * i) &&& 31)) &&& 15
def okc (a e : Nat → Int32) (T u : Nat) (path : Int32) (c : Nat → Nat) (j : Nat) : Prop := c 7 = 100 * T ∧ ∀ i, j ≤ i → i < 7 → (100 * T ≤ c i ∧ c i < 100 * T + 100) ∧ ((dg path i = 0 ∧ c i = c (i + 1)) ∨ ∃ d, 1 ≤ d ∧ d < 16 ∧ dg path i = nI d ∧ fv a (e (16 * c (i + 1) + d)) (100 * T) u = nI (c i))
theorem okc.bnd {a e : Nat → Int32} {T u : Nat} {path : Int32} {c : Nat → Nat} {j : Nat} (h : okc a e T u path c j) (i : Nat) (h1 : j ≤ i) (h2 : i ≤ 7) : 100 * T ≤ c i ∧ c i < 100 * T + 100 := by
  by_cases hi : i = 7
  · subst hi; rw [h.1]; omega
  · exact (h.2 i h1 (by omega)).1
theorem okc.up {a e : Nat → Int32} {T u : Nat} {path : Int32} {c : Nat → Nat} {i n : Nat} (h : okc a e T u path c (i + 1)) (hi : i < 7) (hb : 100 * T ≤ n ∧ n < 100 * T + 100)
    (hs : (dg path i = 0 ∧ n = c (i + 1)) ∨ ∃ d, 1 ≤ d ∧ d < 16 ∧ dg path i = nI d ∧ fv a (e (16 * c (i + 1) + d)) (100 * T) u = nI n) : okc a e T u path (fun x => if x = i then n else c x) i := by
  refine ⟨?_, fun x h1 h2 => ?_⟩
  · show (if 7 = i then n else c 7) = _
    rw [if_neg (by omega)]; exact h.1
  · show (100 * T ≤ (if x = i then n else c x) ∧ (if x = i then n else c x) < _) ∧ ((_ ∧ (if x = i then n else c x) = (if x + 1 = i then n else c (x + 1))) ∨ ∃ d, _ ∧ _ ∧ _ ∧ fv a (e (16 * (if x + 1 = i then n else c (x + 1)) + d)) _ u = nI (if x = i then n else c x))
    by_cases hx : x = i
    · subst hx
      rw [if_pos rfl, if_neg (by omega)]
      exact ⟨hb, hs⟩
    · rw [if_neg hx, if_neg (by omega)]
      exact h.2 x (by omega) h2
def okL (a e : Nat → Int32) (T u : Nat) (path : Int32) (j : Nat) (x : Int32) : Prop := x = -1 ∨ ∃ c, okc a e T u path c j ∧ x = nI (c j)
theorem okL_0 {a e : Nat → Int32} {T u : Nat} {path : Int32} {c : Nat → Nat} {i : Nat} (h : okc a e T u path c (i + 1)) (hi : i < 7) (h0 : dg path i ≤ 0) : okL a e T u path i (nI (c (i + 1))) := by
  have hz : dg path i = 0 := by
    rcases d15_pos (x := path >>> (nI (4 * i) &&& 31)) with ⟨h1, -, -⟩ | ⟨-, h1, -⟩
    · exact h1
    · exact absurd h0 h1
  exact Or.inr ⟨_, h.up hi (h.bnd (i + 1) (Nat.le_refl _) (by omega)) (Or.inl ⟨hz, rfl⟩), by rw [if_pos rfl]⟩
theorem okL_1 {a e : Nat → Int32} {T u : Nat} (hu : u ≤ 60) {path : Int32} {c : Nat → Nat} {i d : Nat} (h : okc a e T u path c (i + 1)) (hi : i < 7) (hd1 : 1 ≤ d) (hd2 : d < 16) (hd : dg path i = nI d) {x : Int32} (hx : x = if e (16 * c (i + 1) + d) = 0 then -1 else fv a (e (16 * c (i + 1) + d)) (100 * T) u) : okL a e T u path i x := by
  by_cases h0 : e (16 * c (i + 1) + d) = 0
  · rw [if_pos h0] at hx; exact Or.inl hx
  · rw [if_neg h0] at hx
    rcases fv_cases a (e (16 * c (i + 1) + d)) (100 * T) u with q | ⟨n, q1, q2, q3⟩
    · exact Or.inl (hx.trans q)
    · exact Or.inr ⟨_, h.up hi ⟨q1, by omega⟩ (Or.inr ⟨d, hd1, hd2, hd, q3⟩), by rw [if_pos rfl, hx, q3]⟩
def jj (j : Nat) : Nat := if j = 7 then 7 else j + 1
theorem dg_s {path : Int32} (h : isP path) : (dg (path >>> (4 &&& 31)) 6 = 0) ∧ ∀ i, i ≤ 5 → dg (path >>> (4 &&& 31)) i = dg path (i + 1) := by
  obtain ⟨p, hp, rfl⟩ : ∃ p, p < 268435456 ∧ path = nI p := by
    rcases pk_ix path (n := 268435456) (by decide) with q | q | q
    · exact absurd q h.1
    · exact absurd (Int32.le_trans q h.2.1) (by decide)
    · exact q
  unfold dg
  rw [pk_shrN (by omega) _ 4 (by decide)]
  refine ⟨?_, fun i hi => ?_⟩
  · rw [pk_shrN (by omega) _ 24 (by decide), show p / 2 ^ 4 / 2 ^ 24 = 0 by omega]; decide
  · rcases (show i = 0 ∨ i = 1 ∨ i = 2 ∨ i = 3 ∨ i = 4 ∨ i = 5 by omega) with rfl | rfl | rfl | rfl | rfl | rfl
    · rw [pk_shrN (by omega) _ 0 (by decide), pk_shrN (by omega) _ 4 (by decide), Nat.div_div_eq_div_mul]
    · rw [pk_shrN (by omega) _ 4 (by decide), pk_shrN (by omega) _ 8 (by decide), Nat.div_div_eq_div_mul]
    · rw [pk_shrN (by omega) _ 8 (by decide), pk_shrN (by omega) _ 12 (by decide), Nat.div_div_eq_div_mul]
    · rw [pk_shrN (by omega) _ 12 (by decide), pk_shrN (by omega) _ 16 (by decide), Nat.div_div_eq_div_mul]
    · rw [pk_shrN (by omega) _ 16 (by decide), pk_shrN (by omega) _ 20 (by decide), Nat.div_div_eq_div_mul]
    · rw [pk_shrN (by omega) _ 20 (by decide), pk_shrN (by omega) _ 24 (by decide), Nat.div_div_eq_div_mul]
theorem sil_b {a e : Nat → Int32} {T u : Nat} {path : Int32} {c : Nat → Nat} (h : okc a e T u path c 0) {j : Nat} (hj : j ≤ 7) : 100 * T ≤ c (jj j) ∧ c (jj j) < 100 * T + 100 := by
  refine h.bnd _ (Nat.zero_le _) ?_
  unfold jj; split <;> omega
theorem sil_0 {a e : Nat → Int32} {T u : Nat} {path : Int32} {c : Nat → Nat} (h : okc a e T u path c 0) (hp : isP path) {i : Nat} (hi : i ≤ 6) (h0 : dg (path >>> (4 &&& 31)) i ≤ 0) : c (jj (i + 1)) = c (jj i) := by
  by_cases h6 : i = 6
  · subst h6; rfl
  · have hz : dg (path >>> (4 &&& 31)) i = 0 := by
      rcases d15_pos (x := (path >>> (4 &&& 31)) >>> (nI (4 * i) &&& 31)) with ⟨h1, -, -⟩ | ⟨-, h1, -⟩
      · exact h1
      · exact absurd h0 h1
    rw [(dg_s hp).2 i (by omega)] at hz
    have e1 : jj (i + 1) = i + 1 + 1 := if_neg (by omega)
    have e2 : jj i = i + 1 := if_neg (by omega)
    rw [e1, e2]
    rcases (h.2 (i + 1) (Nat.zero_le _) (by omega)).2 with ⟨-, q⟩ | ⟨d, q1, q2, q3, -⟩
    · exact q.symm
    · rw [hz] at q3
      have := nI_inj (a := 0) (b := d) (by decide) (by omega) q3
      omega
theorem sil_1 {a e : Nat → Int32} {T u : Nat} {path : Int32} {c : Nat → Nat} (h : okc a e T u path c 0) (hp : isP path) {i d : Nat} (hi : i ≤ 6) (hd1 : 1 ≤ d) (hd2 : d < 16) (hd : dg (path >>> (4 &&& 31)) i = nI d) : fv a (e (16 * c (jj (i + 1)) + d)) (100 * T) u = nI (c (jj i)) := by
  by_cases h6 : i = 6
  · subst h6
    rw [(dg_s hp).1] at hd
    have := nI_inj (a := 0) (b := d) (by decide) (by omega) hd
    omega
  · rw [(dg_s hp).2 i (by omega)] at hd
    have e1 : jj (i + 1) = i + 1 + 1 := if_neg (by omega)
    have e2 : jj i = i + 1 := if_neg (by omega)
    rw [e1, e2]
    rcases (h.2 (i + 1) (Nat.zero_le _) (by omega)).2 with ⟨q, -⟩ | ⟨d2, q1, q2, q3, q4⟩
    · rw [q] at hd
      have := nI_inj (a := 0) (b := d) (by decide) (by omega) hd
      omega
    · have := nI_inj (by omega) (by omega) (hd.symm.trans q3)
      subst this
      exact q4

set_option maxHeartbeats 4000000 in
set_option maxRecDepth 100000 in
theorem y_X6_find (l : Launch) (D : va_G) (k : Nat → ClassId) (z : Nat) (M : mM) (mo cn ia dr en la wo op mk ir se ec lc wc ol al : Nat) (dn md : Int32)  (t9 : Nat) (ht9 : t9 < 32) (id9 : Int32) (g7 a7 e7 : Nat → Int32) (u7 : Nat) (hR : rw3 k M cn ia en t9 g7 a7 e7 u7) (hI : mI k M mo cn ia dr en la wo op mk ir se ec lc wc ol al dn md) : mK l yX6_find wsX6_find ({ frames := 0, cells := 0, slots := 0, locals := 0 }) D k z [.ref mo, .int (nI t9), .int id9] M (fun v M' => (v = some (.int (fv a7 id9 (100 * t9) u7))) ∧ M' = M) := by
  refine Met.ofW (cc := cX6_find) (maxL := 5) (ret := (some .int)) (by decide) rfl ?_
  intro p e s m args below meth c s₁ B hml hv
  obtain ⟨rfl, hz, hcx, hm⟩ := hv
  have hx := B.exec
  have hb := B.bytes
  have hr := B.returns
  have hts := atoms_spec (ws := wsX6_find) B.pre
  have hown : s.vm.findClass RX6 = some m.cls := findClass_of_methodNamed B.named
  have hlocks := B.notSynchronized
  have hK := hcx.1
  have hS : va_S (AZ z) s.heap s.heap [] := va_S.rf
  have hA : ∀ q, s.heap.size ≤ q → AZ z q := fun q h => Nat.le_trans hz h
  have hl := lv_entry ([.ref mo, .int (nI t9), .int id9]) (n := 5) (Nat.le_of_ble_eq_true rfl)
  rw [lg_entry_eq]
  generalize (lg_sl ([.ref mo, .int (nI t9), .int id9]) ++ List.replicate (5 - (lg_sl ([.ref mo, .int (nI t9), .int id9])).length) Slot.unset).toArray = ls at hl ⊢
  have hl : lv_has ls 5 [(0, .ref mo), (1, .int (nI t9)), (2, .int id9)] := hl
  have f7 := hts (.fieldLink RX6 7 "CommitTreeModel" "counts" "[I") (by decide +kernel)
  have f13 := hts (.fieldLink RX6 13 "CommitTreeModel" "ids" "[I") (by decide +kernel)
  have wX6 : ∀ w ∈ wsX60, w ∈ wsX6_find := by decide +kernel
  obtain ⟨cd, ni, pw, cm, wr, cs, hm9, fcn, fia, fdr, fen, fla, fwo, fop, fmk, fir, fse, fec, flc, fol, fal, fwc, hap, hM, hmd, ⟨hrC, hrL, hrM⟩, hcn, hia, hdr, hen, hla, hwo, hop, hmk, hir, hse, hec, hlc, hwc, hol, hal⟩ := id hI
  have ne_mo_cn : nq mo cn := pw_ne hap 0 1 (by decide) (Nat.le_of_ble_eq_true rfl)
  have ne_cn_mo : nq cn mo := Ne.symm ne_mo_cn
  have ne_mo_ia : nq mo ia := pw_ne hap 0 2 (by decide) (Nat.le_of_ble_eq_true rfl)
  have ne_ia_mo : nq ia mo := Ne.symm ne_mo_ia
  have ne_mo_dr : nq mo dr := pw_ne hap 0 3 (by decide) (Nat.le_of_ble_eq_true rfl)
  have ne_dr_mo : nq dr mo := Ne.symm ne_mo_dr
  have ne_mo_en : nq mo en := pw_ne hap 0 4 (by decide) (Nat.le_of_ble_eq_true rfl)
  have ne_en_mo : nq en mo := Ne.symm ne_mo_en
  have ne_mo_la : nq mo la := pw_ne hap 0 5 (by decide) (Nat.le_of_ble_eq_true rfl)
  have ne_la_mo : nq la mo := Ne.symm ne_mo_la
  have ne_mo_wo : nq mo wo := pw_ne hap 0 6 (by decide) (Nat.le_of_ble_eq_true rfl)
  have ne_wo_mo : nq wo mo := Ne.symm ne_mo_wo
  have ne_mo_op : nq mo op := pw_ne hap 0 7 (by decide) (Nat.le_of_ble_eq_true rfl)
  have ne_op_mo : nq op mo := Ne.symm ne_mo_op
  have ne_mo_mk : nq mo mk := pw_ne hap 0 8 (by decide) (Nat.le_of_ble_eq_true rfl)
  have ne_mk_mo : nq mk mo := Ne.symm ne_mo_mk
  have ne_mo_ir : nq mo ir := pw_ne hap 0 9 (by decide) (Nat.le_of_ble_eq_true rfl)
  have ne_ir_mo : nq ir mo := Ne.symm ne_mo_ir
  have ne_mo_se : nq mo se := pw_ne hap 0 10 (by decide) (Nat.le_of_ble_eq_true rfl)
  have ne_se_mo : nq se mo := Ne.symm ne_mo_se
  have ne_mo_ec : nq mo ec := pw_ne hap 0 11 (by decide) (Nat.le_of_ble_eq_true rfl)
  have ne_ec_mo : nq ec mo := Ne.symm ne_mo_ec
  have ne_mo_lc : nq mo lc := pw_ne hap 0 12 (by decide) (Nat.le_of_ble_eq_true rfl)
  have ne_lc_mo : nq lc mo := Ne.symm ne_mo_lc
  have ne_mo_wc : nq mo wc := pw_ne hap 0 13 (by decide) (Nat.le_of_ble_eq_true rfl)
  have ne_wc_mo : nq wc mo := Ne.symm ne_mo_wc
  have ne_mo_ol : nq mo ol := pw_ne hap 0 14 (by decide) (Nat.le_of_ble_eq_true rfl)
  have ne_ol_mo : nq ol mo := Ne.symm ne_mo_ol
  have ne_mo_al : nq mo al := pw_ne hap 0 15 (by decide) (Nat.le_of_ble_eq_true rfl)
  have ne_al_mo : nq al mo := Ne.symm ne_mo_al
  have ne_cn_ia : nq cn ia := pw_ne hap 1 2 (by decide) (Nat.le_of_ble_eq_true rfl)
  have ne_ia_cn : nq ia cn := Ne.symm ne_cn_ia
  have ne_cn_dr : nq cn dr := pw_ne hap 1 3 (by decide) (Nat.le_of_ble_eq_true rfl)
  have ne_dr_cn : nq dr cn := Ne.symm ne_cn_dr
  have ne_cn_en : nq cn en := pw_ne hap 1 4 (by decide) (Nat.le_of_ble_eq_true rfl)
  have ne_en_cn : nq en cn := Ne.symm ne_cn_en
  have ne_cn_la : nq cn la := pw_ne hap 1 5 (by decide) (Nat.le_of_ble_eq_true rfl)
  have ne_la_cn : nq la cn := Ne.symm ne_cn_la
  have ne_cn_wo : nq cn wo := pw_ne hap 1 6 (by decide) (Nat.le_of_ble_eq_true rfl)
  have ne_wo_cn : nq wo cn := Ne.symm ne_cn_wo
  have ne_cn_op : nq cn op := pw_ne hap 1 7 (by decide) (Nat.le_of_ble_eq_true rfl)
  have ne_op_cn : nq op cn := Ne.symm ne_cn_op
  have ne_cn_mk : nq cn mk := pw_ne hap 1 8 (by decide) (Nat.le_of_ble_eq_true rfl)
  have ne_mk_cn : nq mk cn := Ne.symm ne_cn_mk
  have ne_cn_ir : nq cn ir := pw_ne hap 1 9 (by decide) (Nat.le_of_ble_eq_true rfl)
  have ne_ir_cn : nq ir cn := Ne.symm ne_cn_ir
  have ne_cn_se : nq cn se := pw_ne hap 1 10 (by decide) (Nat.le_of_ble_eq_true rfl)
  have ne_se_cn : nq se cn := Ne.symm ne_cn_se
  have ne_cn_ec : nq cn ec := pw_ne hap 1 11 (by decide) (Nat.le_of_ble_eq_true rfl)
  have ne_ec_cn : nq ec cn := Ne.symm ne_cn_ec
  have ne_cn_lc : nq cn lc := pw_ne hap 1 12 (by decide) (Nat.le_of_ble_eq_true rfl)
  have ne_lc_cn : nq lc cn := Ne.symm ne_cn_lc
  have ne_cn_wc : nq cn wc := pw_ne hap 1 13 (by decide) (Nat.le_of_ble_eq_true rfl)
  have ne_wc_cn : nq wc cn := Ne.symm ne_cn_wc
  have ne_cn_ol : nq cn ol := pw_ne hap 1 14 (by decide) (Nat.le_of_ble_eq_true rfl)
  have ne_ol_cn : nq ol cn := Ne.symm ne_cn_ol
  have ne_cn_al : nq cn al := pw_ne hap 1 15 (by decide) (Nat.le_of_ble_eq_true rfl)
  have ne_al_cn : nq al cn := Ne.symm ne_cn_al
  have ne_ia_dr : nq ia dr := pw_ne hap 2 3 (by decide) (Nat.le_of_ble_eq_true rfl)
  have ne_dr_ia : nq dr ia := Ne.symm ne_ia_dr
  have ne_ia_en : nq ia en := pw_ne hap 2 4 (by decide) (Nat.le_of_ble_eq_true rfl)
  have ne_en_ia : nq en ia := Ne.symm ne_ia_en
  have ne_ia_la : nq ia la := pw_ne hap 2 5 (by decide) (Nat.le_of_ble_eq_true rfl)
  have ne_la_ia : nq la ia := Ne.symm ne_ia_la
  have ne_ia_wo : nq ia wo := pw_ne hap 2 6 (by decide) (Nat.le_of_ble_eq_true rfl)
  have ne_wo_ia : nq wo ia := Ne.symm ne_ia_wo
  have ne_ia_op : nq ia op := pw_ne hap 2 7 (by decide) (Nat.le_of_ble_eq_true rfl)
  have ne_op_ia : nq op ia := Ne.symm ne_ia_op
  have ne_ia_mk : nq ia mk := pw_ne hap 2 8 (by decide) (Nat.le_of_ble_eq_true rfl)
  have ne_mk_ia : nq mk ia := Ne.symm ne_ia_mk
  have ne_ia_ir : nq ia ir := pw_ne hap 2 9 (by decide) (Nat.le_of_ble_eq_true rfl)
  have ne_ir_ia : nq ir ia := Ne.symm ne_ia_ir
  have ne_ia_se : nq ia se := pw_ne hap 2 10 (by decide) (Nat.le_of_ble_eq_true rfl)
  have ne_se_ia : nq se ia := Ne.symm ne_ia_se
  have ne_ia_ec : nq ia ec := pw_ne hap 2 11 (by decide) (Nat.le_of_ble_eq_true rfl)
  have ne_ec_ia : nq ec ia := Ne.symm ne_ia_ec
  have ne_ia_lc : nq ia lc := pw_ne hap 2 12 (by decide) (Nat.le_of_ble_eq_true rfl)
  have ne_lc_ia : nq lc ia := Ne.symm ne_ia_lc
  have ne_ia_wc : nq ia wc := pw_ne hap 2 13 (by decide) (Nat.le_of_ble_eq_true rfl)
  have ne_wc_ia : nq wc ia := Ne.symm ne_ia_wc
  have ne_ia_ol : nq ia ol := pw_ne hap 2 14 (by decide) (Nat.le_of_ble_eq_true rfl)
  have ne_ol_ia : nq ol ia := Ne.symm ne_ia_ol
  have ne_ia_al : nq ia al := pw_ne hap 2 15 (by decide) (Nat.le_of_ble_eq_true rfl)
  have ne_al_ia : nq al ia := Ne.symm ne_ia_al
  have ne_dr_en : nq dr en := pw_ne hap 3 4 (by decide) (Nat.le_of_ble_eq_true rfl)
  have ne_en_dr : nq en dr := Ne.symm ne_dr_en
  have ne_dr_la : nq dr la := pw_ne hap 3 5 (by decide) (Nat.le_of_ble_eq_true rfl)
  have ne_la_dr : nq la dr := Ne.symm ne_dr_la
  have ne_dr_wo : nq dr wo := pw_ne hap 3 6 (by decide) (Nat.le_of_ble_eq_true rfl)
  have ne_wo_dr : nq wo dr := Ne.symm ne_dr_wo
  have ne_dr_op : nq dr op := pw_ne hap 3 7 (by decide) (Nat.le_of_ble_eq_true rfl)
  have ne_op_dr : nq op dr := Ne.symm ne_dr_op
  have ne_dr_mk : nq dr mk := pw_ne hap 3 8 (by decide) (Nat.le_of_ble_eq_true rfl)
  have ne_mk_dr : nq mk dr := Ne.symm ne_dr_mk
  have ne_dr_ir : nq dr ir := pw_ne hap 3 9 (by decide) (Nat.le_of_ble_eq_true rfl)
  have ne_ir_dr : nq ir dr := Ne.symm ne_dr_ir
  have ne_dr_se : nq dr se := pw_ne hap 3 10 (by decide) (Nat.le_of_ble_eq_true rfl)
  have ne_se_dr : nq se dr := Ne.symm ne_dr_se
  have ne_dr_ec : nq dr ec := pw_ne hap 3 11 (by decide) (Nat.le_of_ble_eq_true rfl)
  have ne_ec_dr : nq ec dr := Ne.symm ne_dr_ec
  have ne_dr_lc : nq dr lc := pw_ne hap 3 12 (by decide) (Nat.le_of_ble_eq_true rfl)
  have ne_lc_dr : nq lc dr := Ne.symm ne_dr_lc
  have ne_dr_wc : nq dr wc := pw_ne hap 3 13 (by decide) (Nat.le_of_ble_eq_true rfl)
  have ne_wc_dr : nq wc dr := Ne.symm ne_dr_wc
  have ne_dr_ol : nq dr ol := pw_ne hap 3 14 (by decide) (Nat.le_of_ble_eq_true rfl)
  have ne_ol_dr : nq ol dr := Ne.symm ne_dr_ol
  have ne_dr_al : nq dr al := pw_ne hap 3 15 (by decide) (Nat.le_of_ble_eq_true rfl)
  have ne_al_dr : nq al dr := Ne.symm ne_dr_al
  have ne_en_la : nq en la := pw_ne hap 4 5 (by decide) (Nat.le_of_ble_eq_true rfl)
  have ne_la_en : nq la en := Ne.symm ne_en_la
  have ne_en_wo : nq en wo := pw_ne hap 4 6 (by decide) (Nat.le_of_ble_eq_true rfl)
  have ne_wo_en : nq wo en := Ne.symm ne_en_wo
  have ne_en_op : nq en op := pw_ne hap 4 7 (by decide) (Nat.le_of_ble_eq_true rfl)
  have ne_op_en : nq op en := Ne.symm ne_en_op
  have ne_en_mk : nq en mk := pw_ne hap 4 8 (by decide) (Nat.le_of_ble_eq_true rfl)
  have ne_mk_en : nq mk en := Ne.symm ne_en_mk
  have ne_en_ir : nq en ir := pw_ne hap 4 9 (by decide) (Nat.le_of_ble_eq_true rfl)
  have ne_ir_en : nq ir en := Ne.symm ne_en_ir
  have ne_en_se : nq en se := pw_ne hap 4 10 (by decide) (Nat.le_of_ble_eq_true rfl)
  have ne_se_en : nq se en := Ne.symm ne_en_se
  have ne_en_ec : nq en ec := pw_ne hap 4 11 (by decide) (Nat.le_of_ble_eq_true rfl)
  have ne_ec_en : nq ec en := Ne.symm ne_en_ec
  have ne_en_lc : nq en lc := pw_ne hap 4 12 (by decide) (Nat.le_of_ble_eq_true rfl)
  have ne_lc_en : nq lc en := Ne.symm ne_en_lc
  have ne_en_wc : nq en wc := pw_ne hap 4 13 (by decide) (Nat.le_of_ble_eq_true rfl)
  have ne_wc_en : nq wc en := Ne.symm ne_en_wc
  have ne_en_ol : nq en ol := pw_ne hap 4 14 (by decide) (Nat.le_of_ble_eq_true rfl)
  have ne_ol_en : nq ol en := Ne.symm ne_en_ol
  have ne_en_al : nq en al := pw_ne hap 4 15 (by decide) (Nat.le_of_ble_eq_true rfl)
  have ne_al_en : nq al en := Ne.symm ne_en_al
  have ne_la_wo : nq la wo := pw_ne hap 5 6 (by decide) (Nat.le_of_ble_eq_true rfl)
  have ne_wo_la : nq wo la := Ne.symm ne_la_wo
  have ne_la_op : nq la op := pw_ne hap 5 7 (by decide) (Nat.le_of_ble_eq_true rfl)
  have ne_op_la : nq op la := Ne.symm ne_la_op
  have ne_la_mk : nq la mk := pw_ne hap 5 8 (by decide) (Nat.le_of_ble_eq_true rfl)
  have ne_mk_la : nq mk la := Ne.symm ne_la_mk
  have ne_la_ir : nq la ir := pw_ne hap 5 9 (by decide) (Nat.le_of_ble_eq_true rfl)
  have ne_ir_la : nq ir la := Ne.symm ne_la_ir
  have ne_la_se : nq la se := pw_ne hap 5 10 (by decide) (Nat.le_of_ble_eq_true rfl)
  have ne_se_la : nq se la := Ne.symm ne_la_se
  have ne_la_ec : nq la ec := pw_ne hap 5 11 (by decide) (Nat.le_of_ble_eq_true rfl)
  have ne_ec_la : nq ec la := Ne.symm ne_la_ec
  have ne_la_lc : nq la lc := pw_ne hap 5 12 (by decide) (Nat.le_of_ble_eq_true rfl)
  have ne_lc_la : nq lc la := Ne.symm ne_la_lc
  have ne_la_wc : nq la wc := pw_ne hap 5 13 (by decide) (Nat.le_of_ble_eq_true rfl)
  have ne_wc_la : nq wc la := Ne.symm ne_la_wc
  have ne_la_ol : nq la ol := pw_ne hap 5 14 (by decide) (Nat.le_of_ble_eq_true rfl)
  have ne_ol_la : nq ol la := Ne.symm ne_la_ol
  have ne_la_al : nq la al := pw_ne hap 5 15 (by decide) (Nat.le_of_ble_eq_true rfl)
  have ne_al_la : nq al la := Ne.symm ne_la_al
  have ne_wo_op : nq wo op := pw_ne hap 6 7 (by decide) (Nat.le_of_ble_eq_true rfl)
  have ne_op_wo : nq op wo := Ne.symm ne_wo_op
  have ne_wo_mk : nq wo mk := pw_ne hap 6 8 (by decide) (Nat.le_of_ble_eq_true rfl)
  have ne_mk_wo : nq mk wo := Ne.symm ne_wo_mk
  have ne_wo_ir : nq wo ir := pw_ne hap 6 9 (by decide) (Nat.le_of_ble_eq_true rfl)
  have ne_ir_wo : nq ir wo := Ne.symm ne_wo_ir
  have ne_wo_se : nq wo se := pw_ne hap 6 10 (by decide) (Nat.le_of_ble_eq_true rfl)
  have ne_se_wo : nq se wo := Ne.symm ne_wo_se
  have ne_wo_ec : nq wo ec := pw_ne hap 6 11 (by decide) (Nat.le_of_ble_eq_true rfl)
  have ne_ec_wo : nq ec wo := Ne.symm ne_wo_ec
  have ne_wo_lc : nq wo lc := pw_ne hap 6 12 (by decide) (Nat.le_of_ble_eq_true rfl)
  have ne_lc_wo : nq lc wo := Ne.symm ne_wo_lc
  have ne_wo_wc : nq wo wc := pw_ne hap 6 13 (by decide) (Nat.le_of_ble_eq_true rfl)
  have ne_wc_wo : nq wc wo := Ne.symm ne_wo_wc
  have ne_wo_ol : nq wo ol := pw_ne hap 6 14 (by decide) (Nat.le_of_ble_eq_true rfl)
  have ne_ol_wo : nq ol wo := Ne.symm ne_wo_ol
  have ne_wo_al : nq wo al := pw_ne hap 6 15 (by decide) (Nat.le_of_ble_eq_true rfl)
  have ne_al_wo : nq al wo := Ne.symm ne_wo_al
  have ne_op_mk : nq op mk := pw_ne hap 7 8 (by decide) (Nat.le_of_ble_eq_true rfl)
  have ne_mk_op : nq mk op := Ne.symm ne_op_mk
  have ne_op_ir : nq op ir := pw_ne hap 7 9 (by decide) (Nat.le_of_ble_eq_true rfl)
  have ne_ir_op : nq ir op := Ne.symm ne_op_ir
  have ne_op_se : nq op se := pw_ne hap 7 10 (by decide) (Nat.le_of_ble_eq_true rfl)
  have ne_se_op : nq se op := Ne.symm ne_op_se
  have ne_op_ec : nq op ec := pw_ne hap 7 11 (by decide) (Nat.le_of_ble_eq_true rfl)
  have ne_ec_op : nq ec op := Ne.symm ne_op_ec
  have ne_op_lc : nq op lc := pw_ne hap 7 12 (by decide) (Nat.le_of_ble_eq_true rfl)
  have ne_lc_op : nq lc op := Ne.symm ne_op_lc
  have ne_op_wc : nq op wc := pw_ne hap 7 13 (by decide) (Nat.le_of_ble_eq_true rfl)
  have ne_wc_op : nq wc op := Ne.symm ne_op_wc
  have ne_op_ol : nq op ol := pw_ne hap 7 14 (by decide) (Nat.le_of_ble_eq_true rfl)
  have ne_ol_op : nq ol op := Ne.symm ne_op_ol
  have ne_op_al : nq op al := pw_ne hap 7 15 (by decide) (Nat.le_of_ble_eq_true rfl)
  have ne_al_op : nq al op := Ne.symm ne_op_al
  have ne_mk_ir : nq mk ir := pw_ne hap 8 9 (by decide) (Nat.le_of_ble_eq_true rfl)
  have ne_ir_mk : nq ir mk := Ne.symm ne_mk_ir
  have ne_mk_se : nq mk se := pw_ne hap 8 10 (by decide) (Nat.le_of_ble_eq_true rfl)
  have ne_se_mk : nq se mk := Ne.symm ne_mk_se
  have ne_mk_ec : nq mk ec := pw_ne hap 8 11 (by decide) (Nat.le_of_ble_eq_true rfl)
  have ne_ec_mk : nq ec mk := Ne.symm ne_mk_ec
  have ne_mk_lc : nq mk lc := pw_ne hap 8 12 (by decide) (Nat.le_of_ble_eq_true rfl)
  have ne_lc_mk : nq lc mk := Ne.symm ne_mk_lc
  have ne_mk_wc : nq mk wc := pw_ne hap 8 13 (by decide) (Nat.le_of_ble_eq_true rfl)
  have ne_wc_mk : nq wc mk := Ne.symm ne_mk_wc
  have ne_mk_ol : nq mk ol := pw_ne hap 8 14 (by decide) (Nat.le_of_ble_eq_true rfl)
  have ne_ol_mk : nq ol mk := Ne.symm ne_mk_ol
  have ne_mk_al : nq mk al := pw_ne hap 8 15 (by decide) (Nat.le_of_ble_eq_true rfl)
  have ne_al_mk : nq al mk := Ne.symm ne_mk_al
  have ne_ir_se : nq ir se := pw_ne hap 9 10 (by decide) (Nat.le_of_ble_eq_true rfl)
  have ne_se_ir : nq se ir := Ne.symm ne_ir_se
  have ne_ir_ec : nq ir ec := pw_ne hap 9 11 (by decide) (Nat.le_of_ble_eq_true rfl)
  have ne_ec_ir : nq ec ir := Ne.symm ne_ir_ec
  have ne_ir_lc : nq ir lc := pw_ne hap 9 12 (by decide) (Nat.le_of_ble_eq_true rfl)
  have ne_lc_ir : nq lc ir := Ne.symm ne_ir_lc
  have ne_ir_wc : nq ir wc := pw_ne hap 9 13 (by decide) (Nat.le_of_ble_eq_true rfl)
  have ne_wc_ir : nq wc ir := Ne.symm ne_ir_wc
  have ne_ir_ol : nq ir ol := pw_ne hap 9 14 (by decide) (Nat.le_of_ble_eq_true rfl)
  have ne_ol_ir : nq ol ir := Ne.symm ne_ir_ol
  have ne_ir_al : nq ir al := pw_ne hap 9 15 (by decide) (Nat.le_of_ble_eq_true rfl)
  have ne_al_ir : nq al ir := Ne.symm ne_ir_al
  have ne_se_ec : nq se ec := pw_ne hap 10 11 (by decide) (Nat.le_of_ble_eq_true rfl)
  have ne_ec_se : nq ec se := Ne.symm ne_se_ec
  have ne_se_lc : nq se lc := pw_ne hap 10 12 (by decide) (Nat.le_of_ble_eq_true rfl)
  have ne_lc_se : nq lc se := Ne.symm ne_se_lc
  have ne_se_wc : nq se wc := pw_ne hap 10 13 (by decide) (Nat.le_of_ble_eq_true rfl)
  have ne_wc_se : nq wc se := Ne.symm ne_se_wc
  have ne_se_ol : nq se ol := pw_ne hap 10 14 (by decide) (Nat.le_of_ble_eq_true rfl)
  have ne_ol_se : nq ol se := Ne.symm ne_se_ol
  have ne_se_al : nq se al := pw_ne hap 10 15 (by decide) (Nat.le_of_ble_eq_true rfl)
  have ne_al_se : nq al se := Ne.symm ne_se_al
  have ne_ec_lc : nq ec lc := pw_ne hap 11 12 (by decide) (Nat.le_of_ble_eq_true rfl)
  have ne_lc_ec : nq lc ec := Ne.symm ne_ec_lc
  have ne_ec_wc : nq ec wc := pw_ne hap 11 13 (by decide) (Nat.le_of_ble_eq_true rfl)
  have ne_wc_ec : nq wc ec := Ne.symm ne_ec_wc
  have ne_ec_ol : nq ec ol := pw_ne hap 11 14 (by decide) (Nat.le_of_ble_eq_true rfl)
  have ne_ol_ec : nq ol ec := Ne.symm ne_ec_ol
  have ne_ec_al : nq ec al := pw_ne hap 11 15 (by decide) (Nat.le_of_ble_eq_true rfl)
  have ne_al_ec : nq al ec := Ne.symm ne_ec_al
  have ne_lc_wc : nq lc wc := pw_ne hap 12 13 (by decide) (Nat.le_of_ble_eq_true rfl)
  have ne_wc_lc : nq wc lc := Ne.symm ne_lc_wc
  have ne_lc_ol : nq lc ol := pw_ne hap 12 14 (by decide) (Nat.le_of_ble_eq_true rfl)
  have ne_ol_lc : nq ol lc := Ne.symm ne_lc_ol
  have ne_lc_al : nq lc al := pw_ne hap 12 15 (by decide) (Nat.le_of_ble_eq_true rfl)
  have ne_al_lc : nq al lc := Ne.symm ne_lc_al
  have ne_wc_ol : nq wc ol := pw_ne hap 13 14 (by decide) (Nat.le_of_ble_eq_true rfl)
  have ne_ol_wc : nq ol wc := Ne.symm ne_wc_ol
  have ne_wc_al : nq wc al := pw_ne hap 13 15 (by decide) (Nat.le_of_ble_eq_true rfl)
  have ne_al_wc : nq al wc := Ne.symm ne_wc_al
  have ne_ol_al : nq ol al := pw_ne hap 14 15 (by decide) (Nat.le_of_ble_eq_true rfl)
  have ne_al_ol : nq al ol := Ne.symm ne_ol_al
  obtain ⟨hR1, hR2, hR3, hRu, hR6⟩ := hR
  have hge : fcn = g7 := by
    have h9 := hR1.symm.trans hcn
    cases h9; rfl
  have hae : fia = a7 := by
    have h9 := hR2.symm.trans hia
    cases h9; rfl
  have hee : fen = e7 := by
    have h9 := hR3.symm.trans hen
    cases h9; rfl
  subst hge
  subst hae
  subst hee
  refine lv_iconst (v := (-1)) hx hb dX6_find_0 (by decide) ?_
  refine lv_istore_n (lv' := [(3, .int (-1)), (0, .ref mo), (1, .int (nI t9)), (2, .int id9)]) hx hb dX6_find_1 rfl hl (by decide) rfl (fun ls hl => ?_)
  refine lv_bipush (v := 100) hx hb dX6_find_2 (by decide) ?_
  refine lv_iload_n hx hb dX6_find_4 rfl (lv_at hl 2 rfl) ?_
  refine lv_imul hx hb dX6_find_5 ?_
  refine W.eq (g2 := F0 m 6 ls [.int (nI (100 * t9))]) (by rw [show ((100) * ((nI t9)) : Int32) = nI (100 * t9) from pk_mul 100 t9]) ?_
  refine lv_istore (lv' := [(4, .int (nI (100 * t9))), (3, .int (-1)), (0, .ref mo), (1, .int (nI t9)), (2, .int id9)]) hx hb dX6_find_6 hl (by decide) rfl (fun ls hl => ?_)
  refine W_loop (σ := Nat) (fun j H locs ls => (j ≤ u7) ∧ mm D (AZ z) M H ∧ va_S (AZ z) s.heap H locs ∧ lv_has ls 5 [(4, .int (nI (100 * t9 + j))), (3, .int (fv fia id9 (100 * t9) j)), (0, .ref mo), (1, .int (nI t9)), (2, .int id9)]) (fun j => u7 - j) (fun j => 0) (fun j => 0) ?_ 0 _ _ _ ⟨Nat.zero_le _, hm, hS, lv_sub hl [0, 1, 2, 3, 4] rfl⟩
  intro j H locs ls hI ih8
  obtain ⟨hj, hm, hS, hl⟩ := hI
  try dsimp only at hm hl ih8 ⊢
  refine lv_iload hx hb dX6_find_8 (lv_at hl 0 rfl) ?_
  refine lv_bipush (v := 100) hx hb dX6_find_10 (by decide) ?_
  refine lv_iload_n hx hb dX6_find_12 rfl (lv_at hl 3 rfl) ?_
  refine lv_imul hx hb dX6_find_13 ?_
  refine W.eq (g2 := F0 m 14 ls [.int (nI (100 * t9)), .int (nI (100 * t9 + j))]) (by rw [show ((100) * ((nI t9)) : Int32) = nI (100 * t9) from pk_mul 100 t9]) ?_
  refine lv_aload_n hx hb dX6_find_14 rfl (lv_at hl 2 rfl) ?_
  refine m_get (T := TX6) (N := 24) (ci := 6) (v := .ref cn) hx hb hts wX6 hown hK hm hM rfl 1 (by decide) f7 (fun _ h9 => h9) rfl dX6_find_15 ?_
  refine lv_iload_n hx hb dX6_find_18 rfl (lv_at hl 3 rfl) ?_
  refine m_iald hx hb hK hm 0 hcn rfl (vp_in_nI (by omega) (by decide)) dX6_find_19 ?_
  obtain ⟨u1, hu1, eu1⟩ := hrC t9
  refine W.eq (g2 := F0 m 20 ls [.int (nI u1), .int (nI (100 * t9)), .int (nI (100 * t9 + j))]) (by rw [show (fcn ((nI t9)).toNatClampNeg) = nI u1 from (congrArg fcn (show ((nI t9)).toNatClampNeg = t9 from nI_clamp (by omega))).trans eu1]) ?_
  have hb_u1 := hu1
  have hu1 : u1 ≤ 100 := Nat.le_trans hu1 (bC_le _)
  refine lv_iadd hx hb dX6_find_20 ?_
  refine W.eq (g2 := F0 m 21 ls [.int (nI ((100 * t9) + u1)), .int (nI (100 * t9 + j))]) (by rw [show (((nI (100 * t9))) + ((nI u1)) : Int32) = nI ((100 * t9) + u1) from nI_add (100 * t9) u1]) ?_
  refine lv_icmp_ge (tgt := 48) hx hb dX6_find_21 (by decide) (fun c2 => ?_) (fun c2 => ?_)
  · have hs9 : u1 = u7 := nI_inj (by omega) (by omega) (eu1.symm.trans hRu)
    have hju : j = u7 := Nat.le_antisymm hj (by have := (nI_leI (a := 100 * t9 + u1) (b := 100 * t9 + j) (by omega) (by omega)).mp c2; omega)
    refine lv_iload_n hx hb dX6_find_48 rfl (lv_at hl 1 rfl) ?_
    refine W.iret (v := (fv fia id9 (100 * t9) j)) hx hb hr (fun t ht hW => ⟨⟨some (.int (fv fia id9 (100 * t9) j)), _, rfl, ?_, by rw [ht]; exact hm⟩, hS.F ht⟩) hS.2.2 dX6_find_49
    exact ⟨by rw [← hju], rfl⟩
  · have hs9 : u1 = u7 := nI_inj (by omega) (by omega) (eu1.symm.trans hRu)
    have hlt9 : j < u1 := Nat.lt_of_not_le fun q => c2 (nI_le (by omega) (by omega))
    refine lv_aload_n hx hb dX6_find_24 rfl (lv_at hl 2 rfl) ?_
    refine m_get (T := TX6) (N := 24) (ci := 6) (v := .ref ia) hx hb hts wX6 hown hK hm hM rfl 2 (by decide) f13 (fun _ h9 => h9) rfl dX6_find_25 ?_
    refine lv_iload hx hb dX6_find_28 (lv_at hl 0 rfl) ?_
    refine m_iald hx hb hK hm 0 hia rfl (vp_in_nI (by omega) (by decide)) dX6_find_30 ?_
    refine lv_iload_n hx hb dX6_find_31 rfl (lv_at hl 4 rfl) ?_
    refine lv_icmp_ne (tgt := 40) hx hb dX6_find_32 (by decide) (fun c3 => ?_) (fun c3 => ?_)
    · refine lv_iload_n hx hb dX6_find_40 rfl (lv_at hl 1 rfl) ?_
      refine lv_istore_n (lv' := [(3, .int (fv fia id9 (100 * t9) j)), (4, .int (nI (100 * t9 + j))), (0, .ref mo), (1, .int (nI t9)), (2, .int id9)]) hx hb dX6_find_41 rfl hl (by decide) rfl (fun ls hl => ?_)
      refine lv_iinc (v := ((nI (100 * t9 + j)) + 1)) (lv' := [(4, .int ((nI (100 * t9 + j)) + 1)), (3, .int (fv fia id9 (100 * t9) j)), (0, .ref mo), (1, .int (nI t9)), (2, .int id9)]) hx hb dX6_find_42 hl (k := 1) rfl rfl (by decide) rfl (fun ls hl => ?_)
      refine lv_goto (tgt := 8) hx hb dX6_find_45 (by decide) ?_
      rw [nI_1] at hl
      rw [nI_clamp (show 100 * t9 + j < 2147483648 by omega)] at c3
      have hfs : (fv fia id9 (100 * t9) j) = fv fia id9 (100 * t9) (j + 1) := (if_neg c3).symm
      rw [hfs] at hl
      exact ih8 (j + 1) _ _ _ ⟨by omega, hm, hS, lv_sub hl [0, 1, 2, 3, 4] rfl⟩ (by show u7 - (j + 1) < u7 - j; omega)
    · refine lv_iload hx hb dX6_find_35 (lv_at hl 0 rfl) ?_
      refine lv_goto (tgt := 41) hx hb dX6_find_37 (by decide) ?_
      refine lv_istore_n (lv' := [(3, .int (nI (100 * t9 + j))), (4, .int (nI (100 * t9 + j))), (0, .ref mo), (1, .int (nI t9)), (2, .int id9)]) hx hb dX6_find_41 rfl hl (by decide) rfl (fun ls hl => ?_)
      refine lv_iinc (v := ((nI (100 * t9 + j)) + 1)) (lv' := [(4, .int ((nI (100 * t9 + j)) + 1)), (3, .int (nI (100 * t9 + j))), (0, .ref mo), (1, .int (nI t9)), (2, .int id9)]) hx hb dX6_find_42 hl (k := 1) rfl rfl (by decide) rfl (fun ls hl => ?_)
      refine lv_goto (tgt := 8) hx hb dX6_find_45 (by decide) ?_
      rw [nI_1] at hl
      rw [nI_clamp (show 100 * t9 + j < 2147483648 by omega)] at c3
      have hfs : (nI (100 * t9 + j)) = fv fia id9 (100 * t9) (j + 1) := (if_pos (by first | exact c3 | exact Classical.not_not.mp c3)).symm
      rw [hfs] at hl
      exact ih8 (j + 1) _ _ _ ⟨by omega, hm, hS, lv_sub hl [0, 1, 2, 3, 4] rfl⟩ (by show u7 - (j + 1) < u7 - j; omega)

set_option maxHeartbeats 4000000 in
set_option maxRecDepth 100000 in
theorem y_X6_enter (l : Launch) (D : va_G) (k : Nat → ClassId) (z : Nat) (M : mM) (mo cn ia dr en la wo op mk ir se ec lc wc ol al : Nat) (dn md : Int32)  (t9 n9 d9 : Nat) (ht9 : t9 < 6) (hn9 : n9 < 3200) (hd9 : 1 ≤ d9) (hd8 : d9 < 16) (g7 a7 e7 : Nat → Int32) (u7 : Nat) (hR : rw3 k M cn ia en (2 + 5 * t9) g7 a7 e7 u7) (hI : mI k M mo cn ia dr en la wo op mk ir se ec lc wc ol al dn md) : mK l yX6_enter wsX6_enter ({ frames := 2, cells := 0, slots := 0, locals := 48 }) D k z [.ref mo, .int (nI t9), .int (nI n9), .int (nI d9)] M (fun v M' => (v = some (.int (if e7 (16 * n9 + d9) = 0 then -1 else fv a7 (e7 (16 * n9 + d9)) (100 * (2 + 5 * t9)) u7))) ∧ mI k M' mo cn ia dr en la wo op mk ir se ec lc wc ol al dn md ∧ kpx (fun a => a ∈ [ir]) M M') := by
  refine Met.ofW (cc := cX6_enter) (maxL := 5) (ret := (some .int)) (by decide) rfl ?_
  intro p e s m args below meth c s₁ B hml hv
  obtain ⟨rfl, hz, hcx, hm⟩ := hv
  have hx := B.exec
  have hb := B.bytes
  have hr := B.returns
  have hts := atoms_spec (ws := wsX6_enter) B.pre
  have hown : s.vm.findClass RX6 = some m.cls := findClass_of_methodNamed B.named
  have hlocks := B.notSynchronized
  have hK := hcx.1
  have hS : va_S (AZ z) s.heap s.heap [] := va_S.rf
  have hA : ∀ q, s.heap.size ≤ q → AZ z q := fun q h => Nat.le_trans hz h
  have hl := lv_entry ([.ref mo, .int (nI t9), .int (nI n9), .int (nI d9)]) (n := 5) (Nat.le_of_ble_eq_true rfl)
  rw [lg_entry_eq]
  generalize (lg_sl ([.ref mo, .int (nI t9), .int (nI n9), .int (nI d9)]) ++ List.replicate (5 - (lg_sl ([.ref mo, .int (nI t9), .int (nI n9), .int (nI d9)])).length) Slot.unset).toArray = ls at hl ⊢
  have hl : lv_has ls 5 [(0, .ref mo), (1, .int (nI t9)), (2, .int (nI n9)), (3, .int (nI d9))] := hl
  have f21 := hts (.fieldLink RX6 21 "CommitTreeModel" "entries" "[I") (by decide +kernel)
  have wX6 : ∀ w ∈ wsX60, w ∈ wsX6_enter := by decide +kernel
  obtain ⟨cd, ni, pw, cm, wr, cs, hm9, fcn, fia, fdr, fen, fla, fwo, fop, fmk, fir, fse, fec, flc, fol, fal, fwc, hap, hM, hmd, ⟨hrC, hrL, hrM⟩, hcn, hia, hdr, hen, hla, hwo, hop, hmk, hir, hse, hec, hlc, hwc, hol, hal⟩ := id hI
  have ne_mo_cn : nq mo cn := pw_ne hap 0 1 (by decide) (Nat.le_of_ble_eq_true rfl)
  have ne_cn_mo : nq cn mo := Ne.symm ne_mo_cn
  have ne_mo_ia : nq mo ia := pw_ne hap 0 2 (by decide) (Nat.le_of_ble_eq_true rfl)
  have ne_ia_mo : nq ia mo := Ne.symm ne_mo_ia
  have ne_mo_dr : nq mo dr := pw_ne hap 0 3 (by decide) (Nat.le_of_ble_eq_true rfl)
  have ne_dr_mo : nq dr mo := Ne.symm ne_mo_dr
  have ne_mo_en : nq mo en := pw_ne hap 0 4 (by decide) (Nat.le_of_ble_eq_true rfl)
  have ne_en_mo : nq en mo := Ne.symm ne_mo_en
  have ne_mo_la : nq mo la := pw_ne hap 0 5 (by decide) (Nat.le_of_ble_eq_true rfl)
  have ne_la_mo : nq la mo := Ne.symm ne_mo_la
  have ne_mo_wo : nq mo wo := pw_ne hap 0 6 (by decide) (Nat.le_of_ble_eq_true rfl)
  have ne_wo_mo : nq wo mo := Ne.symm ne_mo_wo
  have ne_mo_op : nq mo op := pw_ne hap 0 7 (by decide) (Nat.le_of_ble_eq_true rfl)
  have ne_op_mo : nq op mo := Ne.symm ne_mo_op
  have ne_mo_mk : nq mo mk := pw_ne hap 0 8 (by decide) (Nat.le_of_ble_eq_true rfl)
  have ne_mk_mo : nq mk mo := Ne.symm ne_mo_mk
  have ne_mo_ir : nq mo ir := pw_ne hap 0 9 (by decide) (Nat.le_of_ble_eq_true rfl)
  have ne_ir_mo : nq ir mo := Ne.symm ne_mo_ir
  have ne_mo_se : nq mo se := pw_ne hap 0 10 (by decide) (Nat.le_of_ble_eq_true rfl)
  have ne_se_mo : nq se mo := Ne.symm ne_mo_se
  have ne_mo_ec : nq mo ec := pw_ne hap 0 11 (by decide) (Nat.le_of_ble_eq_true rfl)
  have ne_ec_mo : nq ec mo := Ne.symm ne_mo_ec
  have ne_mo_lc : nq mo lc := pw_ne hap 0 12 (by decide) (Nat.le_of_ble_eq_true rfl)
  have ne_lc_mo : nq lc mo := Ne.symm ne_mo_lc
  have ne_mo_wc : nq mo wc := pw_ne hap 0 13 (by decide) (Nat.le_of_ble_eq_true rfl)
  have ne_wc_mo : nq wc mo := Ne.symm ne_mo_wc
  have ne_mo_ol : nq mo ol := pw_ne hap 0 14 (by decide) (Nat.le_of_ble_eq_true rfl)
  have ne_ol_mo : nq ol mo := Ne.symm ne_mo_ol
  have ne_mo_al : nq mo al := pw_ne hap 0 15 (by decide) (Nat.le_of_ble_eq_true rfl)
  have ne_al_mo : nq al mo := Ne.symm ne_mo_al
  have ne_cn_ia : nq cn ia := pw_ne hap 1 2 (by decide) (Nat.le_of_ble_eq_true rfl)
  have ne_ia_cn : nq ia cn := Ne.symm ne_cn_ia
  have ne_cn_dr : nq cn dr := pw_ne hap 1 3 (by decide) (Nat.le_of_ble_eq_true rfl)
  have ne_dr_cn : nq dr cn := Ne.symm ne_cn_dr
  have ne_cn_en : nq cn en := pw_ne hap 1 4 (by decide) (Nat.le_of_ble_eq_true rfl)
  have ne_en_cn : nq en cn := Ne.symm ne_cn_en
  have ne_cn_la : nq cn la := pw_ne hap 1 5 (by decide) (Nat.le_of_ble_eq_true rfl)
  have ne_la_cn : nq la cn := Ne.symm ne_cn_la
  have ne_cn_wo : nq cn wo := pw_ne hap 1 6 (by decide) (Nat.le_of_ble_eq_true rfl)
  have ne_wo_cn : nq wo cn := Ne.symm ne_cn_wo
  have ne_cn_op : nq cn op := pw_ne hap 1 7 (by decide) (Nat.le_of_ble_eq_true rfl)
  have ne_op_cn : nq op cn := Ne.symm ne_cn_op
  have ne_cn_mk : nq cn mk := pw_ne hap 1 8 (by decide) (Nat.le_of_ble_eq_true rfl)
  have ne_mk_cn : nq mk cn := Ne.symm ne_cn_mk
  have ne_cn_ir : nq cn ir := pw_ne hap 1 9 (by decide) (Nat.le_of_ble_eq_true rfl)
  have ne_ir_cn : nq ir cn := Ne.symm ne_cn_ir
  have ne_cn_se : nq cn se := pw_ne hap 1 10 (by decide) (Nat.le_of_ble_eq_true rfl)
  have ne_se_cn : nq se cn := Ne.symm ne_cn_se
  have ne_cn_ec : nq cn ec := pw_ne hap 1 11 (by decide) (Nat.le_of_ble_eq_true rfl)
  have ne_ec_cn : nq ec cn := Ne.symm ne_cn_ec
  have ne_cn_lc : nq cn lc := pw_ne hap 1 12 (by decide) (Nat.le_of_ble_eq_true rfl)
  have ne_lc_cn : nq lc cn := Ne.symm ne_cn_lc
  have ne_cn_wc : nq cn wc := pw_ne hap 1 13 (by decide) (Nat.le_of_ble_eq_true rfl)
  have ne_wc_cn : nq wc cn := Ne.symm ne_cn_wc
  have ne_cn_ol : nq cn ol := pw_ne hap 1 14 (by decide) (Nat.le_of_ble_eq_true rfl)
  have ne_ol_cn : nq ol cn := Ne.symm ne_cn_ol
  have ne_cn_al : nq cn al := pw_ne hap 1 15 (by decide) (Nat.le_of_ble_eq_true rfl)
  have ne_al_cn : nq al cn := Ne.symm ne_cn_al
  have ne_ia_dr : nq ia dr := pw_ne hap 2 3 (by decide) (Nat.le_of_ble_eq_true rfl)
  have ne_dr_ia : nq dr ia := Ne.symm ne_ia_dr
  have ne_ia_en : nq ia en := pw_ne hap 2 4 (by decide) (Nat.le_of_ble_eq_true rfl)
  have ne_en_ia : nq en ia := Ne.symm ne_ia_en
  have ne_ia_la : nq ia la := pw_ne hap 2 5 (by decide) (Nat.le_of_ble_eq_true rfl)
  have ne_la_ia : nq la ia := Ne.symm ne_ia_la
  have ne_ia_wo : nq ia wo := pw_ne hap 2 6 (by decide) (Nat.le_of_ble_eq_true rfl)
  have ne_wo_ia : nq wo ia := Ne.symm ne_ia_wo
  have ne_ia_op : nq ia op := pw_ne hap 2 7 (by decide) (Nat.le_of_ble_eq_true rfl)
  have ne_op_ia : nq op ia := Ne.symm ne_ia_op
  have ne_ia_mk : nq ia mk := pw_ne hap 2 8 (by decide) (Nat.le_of_ble_eq_true rfl)
  have ne_mk_ia : nq mk ia := Ne.symm ne_ia_mk
  have ne_ia_ir : nq ia ir := pw_ne hap 2 9 (by decide) (Nat.le_of_ble_eq_true rfl)
  have ne_ir_ia : nq ir ia := Ne.symm ne_ia_ir
  have ne_ia_se : nq ia se := pw_ne hap 2 10 (by decide) (Nat.le_of_ble_eq_true rfl)
  have ne_se_ia : nq se ia := Ne.symm ne_ia_se
  have ne_ia_ec : nq ia ec := pw_ne hap 2 11 (by decide) (Nat.le_of_ble_eq_true rfl)
  have ne_ec_ia : nq ec ia := Ne.symm ne_ia_ec
  have ne_ia_lc : nq ia lc := pw_ne hap 2 12 (by decide) (Nat.le_of_ble_eq_true rfl)
  have ne_lc_ia : nq lc ia := Ne.symm ne_ia_lc
  have ne_ia_wc : nq ia wc := pw_ne hap 2 13 (by decide) (Nat.le_of_ble_eq_true rfl)
  have ne_wc_ia : nq wc ia := Ne.symm ne_ia_wc
  have ne_ia_ol : nq ia ol := pw_ne hap 2 14 (by decide) (Nat.le_of_ble_eq_true rfl)
  have ne_ol_ia : nq ol ia := Ne.symm ne_ia_ol
  have ne_ia_al : nq ia al := pw_ne hap 2 15 (by decide) (Nat.le_of_ble_eq_true rfl)
  have ne_al_ia : nq al ia := Ne.symm ne_ia_al
  have ne_dr_en : nq dr en := pw_ne hap 3 4 (by decide) (Nat.le_of_ble_eq_true rfl)
  have ne_en_dr : nq en dr := Ne.symm ne_dr_en
  have ne_dr_la : nq dr la := pw_ne hap 3 5 (by decide) (Nat.le_of_ble_eq_true rfl)
  have ne_la_dr : nq la dr := Ne.symm ne_dr_la
  have ne_dr_wo : nq dr wo := pw_ne hap 3 6 (by decide) (Nat.le_of_ble_eq_true rfl)
  have ne_wo_dr : nq wo dr := Ne.symm ne_dr_wo
  have ne_dr_op : nq dr op := pw_ne hap 3 7 (by decide) (Nat.le_of_ble_eq_true rfl)
  have ne_op_dr : nq op dr := Ne.symm ne_dr_op
  have ne_dr_mk : nq dr mk := pw_ne hap 3 8 (by decide) (Nat.le_of_ble_eq_true rfl)
  have ne_mk_dr : nq mk dr := Ne.symm ne_dr_mk
  have ne_dr_ir : nq dr ir := pw_ne hap 3 9 (by decide) (Nat.le_of_ble_eq_true rfl)
  have ne_ir_dr : nq ir dr := Ne.symm ne_dr_ir
  have ne_dr_se : nq dr se := pw_ne hap 3 10 (by decide) (Nat.le_of_ble_eq_true rfl)
  have ne_se_dr : nq se dr := Ne.symm ne_dr_se
  have ne_dr_ec : nq dr ec := pw_ne hap 3 11 (by decide) (Nat.le_of_ble_eq_true rfl)
  have ne_ec_dr : nq ec dr := Ne.symm ne_dr_ec
  have ne_dr_lc : nq dr lc := pw_ne hap 3 12 (by decide) (Nat.le_of_ble_eq_true rfl)
  have ne_lc_dr : nq lc dr := Ne.symm ne_dr_lc
  have ne_dr_wc : nq dr wc := pw_ne hap 3 13 (by decide) (Nat.le_of_ble_eq_true rfl)
  have ne_wc_dr : nq wc dr := Ne.symm ne_dr_wc
  have ne_dr_ol : nq dr ol := pw_ne hap 3 14 (by decide) (Nat.le_of_ble_eq_true rfl)
  have ne_ol_dr : nq ol dr := Ne.symm ne_dr_ol
  have ne_dr_al : nq dr al := pw_ne hap 3 15 (by decide) (Nat.le_of_ble_eq_true rfl)
  have ne_al_dr : nq al dr := Ne.symm ne_dr_al
  have ne_en_la : nq en la := pw_ne hap 4 5 (by decide) (Nat.le_of_ble_eq_true rfl)
  have ne_la_en : nq la en := Ne.symm ne_en_la
  have ne_en_wo : nq en wo := pw_ne hap 4 6 (by decide) (Nat.le_of_ble_eq_true rfl)
  have ne_wo_en : nq wo en := Ne.symm ne_en_wo
  have ne_en_op : nq en op := pw_ne hap 4 7 (by decide) (Nat.le_of_ble_eq_true rfl)
  have ne_op_en : nq op en := Ne.symm ne_en_op
  have ne_en_mk : nq en mk := pw_ne hap 4 8 (by decide) (Nat.le_of_ble_eq_true rfl)
  have ne_mk_en : nq mk en := Ne.symm ne_en_mk
  have ne_en_ir : nq en ir := pw_ne hap 4 9 (by decide) (Nat.le_of_ble_eq_true rfl)
  have ne_ir_en : nq ir en := Ne.symm ne_en_ir
  have ne_en_se : nq en se := pw_ne hap 4 10 (by decide) (Nat.le_of_ble_eq_true rfl)
  have ne_se_en : nq se en := Ne.symm ne_en_se
  have ne_en_ec : nq en ec := pw_ne hap 4 11 (by decide) (Nat.le_of_ble_eq_true rfl)
  have ne_ec_en : nq ec en := Ne.symm ne_en_ec
  have ne_en_lc : nq en lc := pw_ne hap 4 12 (by decide) (Nat.le_of_ble_eq_true rfl)
  have ne_lc_en : nq lc en := Ne.symm ne_en_lc
  have ne_en_wc : nq en wc := pw_ne hap 4 13 (by decide) (Nat.le_of_ble_eq_true rfl)
  have ne_wc_en : nq wc en := Ne.symm ne_en_wc
  have ne_en_ol : nq en ol := pw_ne hap 4 14 (by decide) (Nat.le_of_ble_eq_true rfl)
  have ne_ol_en : nq ol en := Ne.symm ne_en_ol
  have ne_en_al : nq en al := pw_ne hap 4 15 (by decide) (Nat.le_of_ble_eq_true rfl)
  have ne_al_en : nq al en := Ne.symm ne_en_al
  have ne_la_wo : nq la wo := pw_ne hap 5 6 (by decide) (Nat.le_of_ble_eq_true rfl)
  have ne_wo_la : nq wo la := Ne.symm ne_la_wo
  have ne_la_op : nq la op := pw_ne hap 5 7 (by decide) (Nat.le_of_ble_eq_true rfl)
  have ne_op_la : nq op la := Ne.symm ne_la_op
  have ne_la_mk : nq la mk := pw_ne hap 5 8 (by decide) (Nat.le_of_ble_eq_true rfl)
  have ne_mk_la : nq mk la := Ne.symm ne_la_mk
  have ne_la_ir : nq la ir := pw_ne hap 5 9 (by decide) (Nat.le_of_ble_eq_true rfl)
  have ne_ir_la : nq ir la := Ne.symm ne_la_ir
  have ne_la_se : nq la se := pw_ne hap 5 10 (by decide) (Nat.le_of_ble_eq_true rfl)
  have ne_se_la : nq se la := Ne.symm ne_la_se
  have ne_la_ec : nq la ec := pw_ne hap 5 11 (by decide) (Nat.le_of_ble_eq_true rfl)
  have ne_ec_la : nq ec la := Ne.symm ne_la_ec
  have ne_la_lc : nq la lc := pw_ne hap 5 12 (by decide) (Nat.le_of_ble_eq_true rfl)
  have ne_lc_la : nq lc la := Ne.symm ne_la_lc
  have ne_la_wc : nq la wc := pw_ne hap 5 13 (by decide) (Nat.le_of_ble_eq_true rfl)
  have ne_wc_la : nq wc la := Ne.symm ne_la_wc
  have ne_la_ol : nq la ol := pw_ne hap 5 14 (by decide) (Nat.le_of_ble_eq_true rfl)
  have ne_ol_la : nq ol la := Ne.symm ne_la_ol
  have ne_la_al : nq la al := pw_ne hap 5 15 (by decide) (Nat.le_of_ble_eq_true rfl)
  have ne_al_la : nq al la := Ne.symm ne_la_al
  have ne_wo_op : nq wo op := pw_ne hap 6 7 (by decide) (Nat.le_of_ble_eq_true rfl)
  have ne_op_wo : nq op wo := Ne.symm ne_wo_op
  have ne_wo_mk : nq wo mk := pw_ne hap 6 8 (by decide) (Nat.le_of_ble_eq_true rfl)
  have ne_mk_wo : nq mk wo := Ne.symm ne_wo_mk
  have ne_wo_ir : nq wo ir := pw_ne hap 6 9 (by decide) (Nat.le_of_ble_eq_true rfl)
  have ne_ir_wo : nq ir wo := Ne.symm ne_wo_ir
  have ne_wo_se : nq wo se := pw_ne hap 6 10 (by decide) (Nat.le_of_ble_eq_true rfl)
  have ne_se_wo : nq se wo := Ne.symm ne_wo_se
  have ne_wo_ec : nq wo ec := pw_ne hap 6 11 (by decide) (Nat.le_of_ble_eq_true rfl)
  have ne_ec_wo : nq ec wo := Ne.symm ne_wo_ec
  have ne_wo_lc : nq wo lc := pw_ne hap 6 12 (by decide) (Nat.le_of_ble_eq_true rfl)
  have ne_lc_wo : nq lc wo := Ne.symm ne_wo_lc
  have ne_wo_wc : nq wo wc := pw_ne hap 6 13 (by decide) (Nat.le_of_ble_eq_true rfl)
  have ne_wc_wo : nq wc wo := Ne.symm ne_wo_wc
  have ne_wo_ol : nq wo ol := pw_ne hap 6 14 (by decide) (Nat.le_of_ble_eq_true rfl)
  have ne_ol_wo : nq ol wo := Ne.symm ne_wo_ol
  have ne_wo_al : nq wo al := pw_ne hap 6 15 (by decide) (Nat.le_of_ble_eq_true rfl)
  have ne_al_wo : nq al wo := Ne.symm ne_wo_al
  have ne_op_mk : nq op mk := pw_ne hap 7 8 (by decide) (Nat.le_of_ble_eq_true rfl)
  have ne_mk_op : nq mk op := Ne.symm ne_op_mk
  have ne_op_ir : nq op ir := pw_ne hap 7 9 (by decide) (Nat.le_of_ble_eq_true rfl)
  have ne_ir_op : nq ir op := Ne.symm ne_op_ir
  have ne_op_se : nq op se := pw_ne hap 7 10 (by decide) (Nat.le_of_ble_eq_true rfl)
  have ne_se_op : nq se op := Ne.symm ne_op_se
  have ne_op_ec : nq op ec := pw_ne hap 7 11 (by decide) (Nat.le_of_ble_eq_true rfl)
  have ne_ec_op : nq ec op := Ne.symm ne_op_ec
  have ne_op_lc : nq op lc := pw_ne hap 7 12 (by decide) (Nat.le_of_ble_eq_true rfl)
  have ne_lc_op : nq lc op := Ne.symm ne_op_lc
  have ne_op_wc : nq op wc := pw_ne hap 7 13 (by decide) (Nat.le_of_ble_eq_true rfl)
  have ne_wc_op : nq wc op := Ne.symm ne_op_wc
  have ne_op_ol : nq op ol := pw_ne hap 7 14 (by decide) (Nat.le_of_ble_eq_true rfl)
  have ne_ol_op : nq ol op := Ne.symm ne_op_ol
  have ne_op_al : nq op al := pw_ne hap 7 15 (by decide) (Nat.le_of_ble_eq_true rfl)
  have ne_al_op : nq al op := Ne.symm ne_op_al
  have ne_mk_ir : nq mk ir := pw_ne hap 8 9 (by decide) (Nat.le_of_ble_eq_true rfl)
  have ne_ir_mk : nq ir mk := Ne.symm ne_mk_ir
  have ne_mk_se : nq mk se := pw_ne hap 8 10 (by decide) (Nat.le_of_ble_eq_true rfl)
  have ne_se_mk : nq se mk := Ne.symm ne_mk_se
  have ne_mk_ec : nq mk ec := pw_ne hap 8 11 (by decide) (Nat.le_of_ble_eq_true rfl)
  have ne_ec_mk : nq ec mk := Ne.symm ne_mk_ec
  have ne_mk_lc : nq mk lc := pw_ne hap 8 12 (by decide) (Nat.le_of_ble_eq_true rfl)
  have ne_lc_mk : nq lc mk := Ne.symm ne_mk_lc
  have ne_mk_wc : nq mk wc := pw_ne hap 8 13 (by decide) (Nat.le_of_ble_eq_true rfl)
  have ne_wc_mk : nq wc mk := Ne.symm ne_mk_wc
  have ne_mk_ol : nq mk ol := pw_ne hap 8 14 (by decide) (Nat.le_of_ble_eq_true rfl)
  have ne_ol_mk : nq ol mk := Ne.symm ne_mk_ol
  have ne_mk_al : nq mk al := pw_ne hap 8 15 (by decide) (Nat.le_of_ble_eq_true rfl)
  have ne_al_mk : nq al mk := Ne.symm ne_mk_al
  have ne_ir_se : nq ir se := pw_ne hap 9 10 (by decide) (Nat.le_of_ble_eq_true rfl)
  have ne_se_ir : nq se ir := Ne.symm ne_ir_se
  have ne_ir_ec : nq ir ec := pw_ne hap 9 11 (by decide) (Nat.le_of_ble_eq_true rfl)
  have ne_ec_ir : nq ec ir := Ne.symm ne_ir_ec
  have ne_ir_lc : nq ir lc := pw_ne hap 9 12 (by decide) (Nat.le_of_ble_eq_true rfl)
  have ne_lc_ir : nq lc ir := Ne.symm ne_ir_lc
  have ne_ir_wc : nq ir wc := pw_ne hap 9 13 (by decide) (Nat.le_of_ble_eq_true rfl)
  have ne_wc_ir : nq wc ir := Ne.symm ne_ir_wc
  have ne_ir_ol : nq ir ol := pw_ne hap 9 14 (by decide) (Nat.le_of_ble_eq_true rfl)
  have ne_ol_ir : nq ol ir := Ne.symm ne_ir_ol
  have ne_ir_al : nq ir al := pw_ne hap 9 15 (by decide) (Nat.le_of_ble_eq_true rfl)
  have ne_al_ir : nq al ir := Ne.symm ne_ir_al
  have ne_se_ec : nq se ec := pw_ne hap 10 11 (by decide) (Nat.le_of_ble_eq_true rfl)
  have ne_ec_se : nq ec se := Ne.symm ne_se_ec
  have ne_se_lc : nq se lc := pw_ne hap 10 12 (by decide) (Nat.le_of_ble_eq_true rfl)
  have ne_lc_se : nq lc se := Ne.symm ne_se_lc
  have ne_se_wc : nq se wc := pw_ne hap 10 13 (by decide) (Nat.le_of_ble_eq_true rfl)
  have ne_wc_se : nq wc se := Ne.symm ne_se_wc
  have ne_se_ol : nq se ol := pw_ne hap 10 14 (by decide) (Nat.le_of_ble_eq_true rfl)
  have ne_ol_se : nq ol se := Ne.symm ne_se_ol
  have ne_se_al : nq se al := pw_ne hap 10 15 (by decide) (Nat.le_of_ble_eq_true rfl)
  have ne_al_se : nq al se := Ne.symm ne_se_al
  have ne_ec_lc : nq ec lc := pw_ne hap 11 12 (by decide) (Nat.le_of_ble_eq_true rfl)
  have ne_lc_ec : nq lc ec := Ne.symm ne_ec_lc
  have ne_ec_wc : nq ec wc := pw_ne hap 11 13 (by decide) (Nat.le_of_ble_eq_true rfl)
  have ne_wc_ec : nq wc ec := Ne.symm ne_ec_wc
  have ne_ec_ol : nq ec ol := pw_ne hap 11 14 (by decide) (Nat.le_of_ble_eq_true rfl)
  have ne_ol_ec : nq ol ec := Ne.symm ne_ec_ol
  have ne_ec_al : nq ec al := pw_ne hap 11 15 (by decide) (Nat.le_of_ble_eq_true rfl)
  have ne_al_ec : nq al ec := Ne.symm ne_ec_al
  have ne_lc_wc : nq lc wc := pw_ne hap 12 13 (by decide) (Nat.le_of_ble_eq_true rfl)
  have ne_wc_lc : nq wc lc := Ne.symm ne_lc_wc
  have ne_lc_ol : nq lc ol := pw_ne hap 12 14 (by decide) (Nat.le_of_ble_eq_true rfl)
  have ne_ol_lc : nq ol lc := Ne.symm ne_lc_ol
  have ne_lc_al : nq lc al := pw_ne hap 12 15 (by decide) (Nat.le_of_ble_eq_true rfl)
  have ne_al_lc : nq al lc := Ne.symm ne_lc_al
  have ne_wc_ol : nq wc ol := pw_ne hap 13 14 (by decide) (Nat.le_of_ble_eq_true rfl)
  have ne_ol_wc : nq ol wc := Ne.symm ne_wc_ol
  have ne_wc_al : nq wc al := pw_ne hap 13 15 (by decide) (Nat.le_of_ble_eq_true rfl)
  have ne_al_wc : nq al wc := Ne.symm ne_wc_al
  have ne_ol_al : nq ol al := pw_ne hap 14 15 (by decide) (Nat.le_of_ble_eq_true rfl)
  have ne_al_ol : nq al ol := Ne.symm ne_ol_al
  have hkp : kpx (fun a => a ∈ [ir]) M M := kpx.refl _ _
  obtain ⟨hR1, hR2, hR3, hRu, hR6⟩ := hR
  have hge : fcn = g7 := by
    have h9 := hR1.symm.trans hcn
    cases h9; rfl
  have hae : fia = a7 := by
    have h9 := hR2.symm.trans hia
    cases h9; rfl
  have hee : fen = e7 := by
    have h9 := hR3.symm.trans hen
    cases h9; rfl
  subst hge
  subst hae
  subst hee
  refine lv_aload_n hx hb dX6_enter_0 rfl (lv_at hl 0 rfl) ?_
  refine lv_iload_n hx hb dX6_enter_1 rfl (lv_at hl 1 rfl) ?_
  refine lv_iload_n hx hb dX6_enter_2 rfl (lv_at hl 2 rfl) ?_
  refine lv_iload_n hx hb dX6_enter_3 rfl (lv_at hl 3 rfl) ?_
  refine lv_iconst (v := 1) hx hb dX6_enter_4 (by decide) ?_
  refine lv_isub hx hb dX6_enter_5 ?_
  refine W.eq (g2 := F0 m 6 ls [.int (nI (d9 - 1)), .int (nI n9), .int (nI t9), .ref mo]) (by rw [show (((nI d9)) - (1) : Int32) = nI (d9 - 1) from pk_sub (a := d9) (b := 1) (by omega)]) ?_
  have hI0 : mI k M mo cn ia dr en la wo op mk ir se ec lc wc ol al dn md := ⟨_, _, _, _, _, _, _, fcn, fia, fdr, fen, fla, fwo, fop, fmk, fir, fse, fec, flc, fol, fal, fwc, hap, hM, hmd, ⟨hrC, hrL, hrM⟩, hcn, hia, hdr, hen, hla, hwo, hop, hmk, hir, hse, hec, hlc, hwc, hol, hal⟩
  refine m_kV (As := [.int (nI t9), .int (nI n9), .int (nI (d9 - 1))]) (rest := []) (rm := { frames := 1, cells := 0, slots := 0, locals := 24 }) ⟨hx, hb, hml, hown, hts⟩ (x_X6_lookAt l D k z _ mo cn ia dr en la wo op mk ir se ec lc wc ol al dn md t9 n9 (d9 - 1) (by omega) (by omega) (by omega) hI0) (cwV 3 hts gX6_enter_X6_lookAt rfl rfl rfl (by decide +kernel) ⟨Nat.le_of_ble_eq_true rfl, Nat.le_of_ble_eq_true rfl⟩) (m_recv hK hm (q := (RX6, TX6, 24)) rfl hM) hz hcx hm hS rfl hl.1 rfl (Nat.le_of_ble_eq_true rfl) dX6_enter_6 ⟨Nat.le_of_ble_eq_true rfl, Nat.le_of_ble_eq_true rfl⟩ (fun v M1 H locs hv hm hS => ?_)
  obtain ⟨hv1, hI9, hk9⟩ := hv
  obtain ⟨_, _, _, _, _, _, _, _, _, _, _, _, _, _, _, fir_1, _, _, _, _, _, _, -, -, hmd_1, ⟨-, -, -⟩, -, -, -, -, -, -, -, -, hir_1, -, -, -, -, -, -⟩ := id hI9
  have kmo_1 := hk9 _ _ (by simp only [List.mem_cons, List.not_mem_nil, or_false, not_or]; exact ne_mo_ir) hM
  have kcn_1 := hk9 _ _ (by simp only [List.mem_cons, List.not_mem_nil, or_false, not_or]; exact ne_cn_ir) hcn
  have kia_1 := hk9 _ _ (by simp only [List.mem_cons, List.not_mem_nil, or_false, not_or]; exact ne_ia_ir) hia
  have kdr_1 := hk9 _ _ (by simp only [List.mem_cons, List.not_mem_nil, or_false, not_or]; exact ne_dr_ir) hdr
  have ken_1 := hk9 _ _ (by simp only [List.mem_cons, List.not_mem_nil, or_false, not_or]; exact ne_en_ir) hen
  have kla_1 := hk9 _ _ (by simp only [List.mem_cons, List.not_mem_nil, or_false, not_or]; exact ne_la_ir) hla
  have kwo_1 := hk9 _ _ (by simp only [List.mem_cons, List.not_mem_nil, or_false, not_or]; exact ne_wo_ir) hwo
  have kop_1 := hk9 _ _ (by simp only [List.mem_cons, List.not_mem_nil, or_false, not_or]; exact ne_op_ir) hop
  have kmk_1 := hk9 _ _ (by simp only [List.mem_cons, List.not_mem_nil, or_false, not_or]; exact ne_mk_ir) hmk
  have kse_1 := hk9 _ _ (by simp only [List.mem_cons, List.not_mem_nil, or_false, not_or]; exact ne_se_ir) hse
  have kec_1 := hk9 _ _ (by simp only [List.mem_cons, List.not_mem_nil, or_false, not_or]; exact ne_ec_ir) hec
  have klc_1 := hk9 _ _ (by simp only [List.mem_cons, List.not_mem_nil, or_false, not_or]; exact ne_lc_ir) hlc
  have kwc_1 := hk9 _ _ (by simp only [List.mem_cons, List.not_mem_nil, or_false, not_or]; exact ne_wc_ir) hwc
  have kol_1 := hk9 _ _ (by simp only [List.mem_cons, List.not_mem_nil, or_false, not_or]; exact ne_ol_ir) hol
  have kal_1 := hk9 _ _ (by simp only [List.mem_cons, List.not_mem_nil, or_false, not_or]; exact ne_al_ir) hal
  have hkp := hkp.trans (hk9.mono (fun a ha => by simp only [List.mem_cons, List.not_mem_nil, or_false] at ha ⊢; subst ha; simp))
  obtain ⟨Mc1, hMx⟩ : ∃ x : mM, x = M1 := ⟨M1, rfl⟩
  subst hMx
  subst hv1
  refine W.eq (g2 := F0 m 9 ls []) rfl ?_
  refine W.widen (k := 0) (n := 0) (Nat.le_of_ble_eq_true rfl) (Nat.le_of_ble_eq_true rfl) ?_
  have hm : mm D (AZ z) Mc1 H := hm
  refine lv_aload_n hx hb dX6_enter_9 rfl (lv_at hl 0 rfl) ?_
  refine m_get (T := TX6) (N := 24) (ci := 6) (v := .ref en) hx hb hts wX6 hown hK hm kmo_1 rfl 4 (by decide) f21 (fun _ h9 => h9) rfl dX6_enter_10 ?_
  refine lv_bipush (v := 16) hx hb dX6_enter_13 (by decide) ?_
  refine lv_iload_n hx hb dX6_enter_15 rfl (lv_at hl 2 rfl) ?_
  refine lv_imul hx hb dX6_enter_16 ?_
  refine W.eq (g2 := F0 m 17 ls [.int (nI (16 * n9)), .ref en]) (by rw [show ((16) * ((nI n9)) : Int32) = nI (16 * n9) from pk_mul 16 n9]) ?_
  refine lv_iload_n hx hb dX6_enter_17 rfl (lv_at hl 3 rfl) ?_
  refine lv_iadd hx hb dX6_enter_18 ?_
  refine W.eq (g2 := F0 m 19 ls [.int (nI ((16 * n9) + d9)), .ref en]) (by rw [show (((nI (16 * n9))) + ((nI d9)) : Int32) = nI ((16 * n9) + d9) from nI_add (16 * n9) d9]) ?_
  refine m_iald hx hb hK hm 0 ken_1 rfl (vp_in_nI (by omega) (by decide)) dX6_enter_19 ?_
  refine lv_istore (lv' := [(4, .int (fen ((nI ((16 * n9) + d9))).toNatClampNeg)), (0, .ref mo), (1, .int (nI t9)), (2, .int (nI n9)), (3, .int (nI d9))]) hx hb dX6_enter_20 hl (by decide) rfl (fun ls hl => ?_)
  refine lv_iload hx hb dX6_enter_22 (lv_at hl 0 rfl) ?_
  refine lv_if_ne (tgt := 31) hx hb dX6_enter_24 (by decide) (fun c1 => ?_) (fun c1 => ?_)
  · refine lv_aload_n hx hb dX6_enter_31 rfl (lv_at hl 1 rfl) ?_
    refine lv_aload_n hx hb dX6_enter_32 rfl (lv_at hl 1 rfl) ?_
    refine lv_iload_n hx hb dX6_enter_33 rfl (lv_at hl 2 rfl) ?_
    have hI0 : mI k Mc1 mo cn ia dr en la wo op mk ir se ec lc wc ol al dn md := ⟨_, _, _, _, _, _, _, fcn, fia, fdr, fen, fla, fwo, fop, fmk, fir_1, fse, fec, flc, fol, fal, fwc, hap, kmo_1, hmd, ⟨hrC, hrL, hrM⟩, kcn_1, kia_1, kdr_1, ken_1, kla_1, kwo_1, kop_1, kmk_1, hir_1, kse_1, kec_1, klc_1, kwc_1, kol_1, kal_1⟩
    refine m_kV (As := [.int (nI t9)]) (rest := [.ref mo]) (rm := { frames := 0, cells := 0, slots := 0, locals := 0 }) ⟨hx, hb, hml, hown, hts⟩ (s_X6_tree l D k z _ mo cn ia dr en la wo op mk ir se ec lc wc ol al dn md t9 (by omega) hI0) (cwV 1 hts gX6_enter_X6_tree rfl rfl rfl (by decide +kernel) ⟨Nat.le_of_ble_eq_true rfl, Nat.le_of_ble_eq_true rfl⟩) (m_recv hK hm (q := (RX6, TX6, 24)) rfl kmo_1) hz hcx hm hS rfl hl.1 rfl (Nat.le_of_ble_eq_true rfl) dX6_enter_34 ⟨Nat.le_of_ble_eq_true rfl, Nat.le_of_ble_eq_true rfl⟩ (fun v M1 H locs hv hm hS => ?_)
    obtain ⟨hv1, hM1⟩ := hv
    subst hv1
    rw [hM1] at hm
    refine W.eq (g2 := F0 m 37 ls [.int (nI (2 + 5 * t9)), .ref mo]) rfl ?_
    refine W.widen (k := 0) (n := 0) (Nat.le_of_ble_eq_true rfl) (Nat.le_of_ble_eq_true rfl) ?_
    have hm : mm D (AZ z) Mc1 H := hm
    refine lv_iload hx hb dX6_enter_37 (lv_at hl 0 rfl) ?_
    have hI0 : mI k Mc1 mo cn ia dr en la wo op mk ir se ec lc wc ol al dn md := ⟨_, _, _, _, _, _, _, fcn, fia, fdr, fen, fla, fwo, fop, fmk, fir_1, fse, fec, flc, fol, fal, fwc, hap, kmo_1, hmd, ⟨hrC, hrL, hrM⟩, kcn_1, kia_1, kdr_1, ken_1, kla_1, kwo_1, kop_1, kmk_1, hir_1, kse_1, kec_1, klc_1, kwc_1, kol_1, kal_1⟩
    refine m_kV (As := [.int (nI (2 + 5 * t9)), .int (fen ((nI ((16 * n9) + d9))).toNatClampNeg)]) (rest := []) (rm := { frames := 0, cells := 0, slots := 0, locals := 0 }) ⟨hx, hb, hml, hown, hts⟩ (y_X6_find l D k z _ mo cn ia dr en la wo op mk ir se ec lc wc ol al dn md (2 + 5 * t9) (by omega) (fen ((nI ((16 * n9) + d9))).toNatClampNeg) fcn fia fen u7 ⟨kcn_1, kia_1, ken_1, hRu, hR6⟩ hI0) (cwV 2 hts gX6_enter_X6_find rfl rfl rfl (by decide +kernel) ⟨Nat.le_of_ble_eq_true rfl, Nat.le_of_ble_eq_true rfl⟩) (m_recv hK hm (q := (RX6, TX6, 24)) rfl kmo_1) hz hcx hm hS rfl hl.1 rfl (Nat.le_of_ble_eq_true rfl) dX6_enter_39 ⟨Nat.le_of_ble_eq_true rfl, Nat.le_of_ble_eq_true rfl⟩ (fun v M1 H locs hv hm hS => ?_)
    obtain ⟨hv1, hM1⟩ := hv
    rw [hM1] at hm
    subst hv1
    refine W.eq (g2 := F0 m 42 ls [.int (fv fia (fen ((nI ((16 * n9) + d9))).toNatClampNeg) (100 * (2 + 5 * t9)) u7)]) rfl ?_
    refine W.widen (k := 0) (n := 0) (Nat.le_of_ble_eq_true rfl) (Nat.le_of_ble_eq_true rfl) ?_
    have hm : mm D (AZ z) Mc1 H := hm
    refine W.iret (v := (fv fia (fen ((nI ((16 * n9) + d9))).toNatClampNeg) (100 * (2 + 5 * t9)) u7)) hx hb hr (fun t ht hW => ⟨⟨some (.int (fv fia (fen ((nI ((16 * n9) + d9))).toNatClampNeg) (100 * (2 + 5 * t9)) u7)), _, rfl, ?_, by rw [ht]; exact hm⟩, hS.F ht⟩) hS.2.2 dX6_enter_42
    rw [nI_clamp (by omega)] at c1
    exact ⟨by rw [if_neg c1, nI_clamp (by omega)], ⟨_, _, _, _, _, _, _, fcn, fia, fdr, fen, fla, fwo, fop, fmk, fir_1, fse, fec, flc, fol, fal, fwc, hap, kmo_1, hmd, ⟨hrC, hrL, hrM⟩, kcn_1, kia_1, kdr_1, ken_1, kla_1, kwo_1, kop_1, kmk_1, hir_1, kse_1, kec_1, klc_1, kwc_1, kol_1, kal_1⟩, hkp⟩
  · refine lv_iconst (v := (-1)) hx hb dX6_enter_27 (by decide) ?_
    refine lv_goto (tgt := 42) hx hb dX6_enter_28 (by decide) ?_
    refine W.iret (v := (-1)) hx hb hr (fun t ht hW => ⟨⟨some (.int (-1)), _, rfl, ?_, by rw [ht]; exact hm⟩, hS.F ht⟩) hS.2.2 dX6_enter_42
    rw [nI_clamp (by omega)] at c1
    exact ⟨by rw [if_pos (by first | exact c1 | exact Classical.not_not.mp c1)], ⟨_, _, _, _, _, _, _, fcn, fia, fdr, fen, fla, fwo, fop, fmk, fir_1, fse, fec, flc, fol, fal, fwc, hap, kmo_1, hmd, ⟨hrC, hrL, hrM⟩, kcn_1, kia_1, kdr_1, ken_1, kla_1, kwo_1, kop_1, kmk_1, hir_1, kse_1, kec_1, klc_1, kwc_1, kol_1, kal_1⟩, hkp⟩

set_option maxHeartbeats 4000000 in
set_option maxRecDepth 100000 in
theorem y_X6_lookUp (l : Launch) (D : va_G) (k : Nat → ClassId) (z : Nat) (M : mM) (mo cn ia dr en la wo op mk ir se ec lc wc ol al : Nat) (dn md : Int32)  (t9 : Nat) (ht9 : t9 < 6) (path : Int32) (g7 a7 e7 : Nat → Int32) (u7 : Nat) (hR : rw3 k M cn ia en (2 + 5 * t9) g7 a7 e7 u7) (hI : mI k M mo cn ia dr en la wo op mk ir se ec lc wc ol al dn md) : mK l yX6_lookUp wsX6_lookUp ({ frames := 3, cells := 0, slots := 0, locals := 72 }) D k z [.ref mo, .int (nI t9), .int path] M (fun v M' => (∃ f, v = some (.int f) ∧ okL a7 e7 (2 + 5 * t9) u7 path 0 f) ∧ mI k M' mo cn ia dr en la wo op mk ir se ec lc wc ol al dn md ∧ kpx (fun a => a ∈ [ir]) M M') := by
  refine Met.ofW (cc := cX6_lookUp) (maxL := 6) (ret := (some .int)) (by decide) rfl ?_
  intro p e s m args below meth c s₁ B hml hv
  obtain ⟨rfl, hz, hcx, hm⟩ := hv
  have hx := B.exec
  have hb := B.bytes
  have hr := B.returns
  have hts := atoms_spec (ws := wsX6_lookUp) B.pre
  have hown : s.vm.findClass RX6 = some m.cls := findClass_of_methodNamed B.named
  have hlocks := B.notSynchronized
  have hK := hcx.1
  have hS : va_S (AZ z) s.heap s.heap [] := va_S.rf
  have hA : ∀ q, s.heap.size ≤ q → AZ z q := fun q h => Nat.le_trans hz h
  have hl := lv_entry ([.ref mo, .int (nI t9), .int path]) (n := 6) (Nat.le_of_ble_eq_true rfl)
  rw [lg_entry_eq]
  generalize (lg_sl ([.ref mo, .int (nI t9), .int path]) ++ List.replicate (6 - (lg_sl ([.ref mo, .int (nI t9), .int path])).length) Slot.unset).toArray = ls at hl ⊢
  have hl : lv_has ls 6 [(0, .ref mo), (1, .int (nI t9)), (2, .int path)] := hl
  have f16 := hts (.fieldLink RX6 16 "CommitTreeModel" "dirs" "[Z") (by decide +kernel)
  have wX6 : ∀ w ∈ wsX60, w ∈ wsX6_lookUp := by decide +kernel
  obtain ⟨cd, ni, pw, cm, wr, cs, hm9, fcn, fia, fdr, fen, fla, fwo, fop, fmk, fir, fse, fec, flc, fol, fal, fwc, hap, hM, hmd, ⟨hrC, hrL, hrM⟩, hcn, hia, hdr, hen, hla, hwo, hop, hmk, hir, hse, hec, hlc, hwc, hol, hal⟩ := id hI
  have ne_mo_cn : nq mo cn := pw_ne hap 0 1 (by decide) (Nat.le_of_ble_eq_true rfl)
  have ne_cn_mo : nq cn mo := Ne.symm ne_mo_cn
  have ne_mo_ia : nq mo ia := pw_ne hap 0 2 (by decide) (Nat.le_of_ble_eq_true rfl)
  have ne_ia_mo : nq ia mo := Ne.symm ne_mo_ia
  have ne_mo_dr : nq mo dr := pw_ne hap 0 3 (by decide) (Nat.le_of_ble_eq_true rfl)
  have ne_dr_mo : nq dr mo := Ne.symm ne_mo_dr
  have ne_mo_en : nq mo en := pw_ne hap 0 4 (by decide) (Nat.le_of_ble_eq_true rfl)
  have ne_en_mo : nq en mo := Ne.symm ne_mo_en
  have ne_mo_la : nq mo la := pw_ne hap 0 5 (by decide) (Nat.le_of_ble_eq_true rfl)
  have ne_la_mo : nq la mo := Ne.symm ne_mo_la
  have ne_mo_wo : nq mo wo := pw_ne hap 0 6 (by decide) (Nat.le_of_ble_eq_true rfl)
  have ne_wo_mo : nq wo mo := Ne.symm ne_mo_wo
  have ne_mo_op : nq mo op := pw_ne hap 0 7 (by decide) (Nat.le_of_ble_eq_true rfl)
  have ne_op_mo : nq op mo := Ne.symm ne_mo_op
  have ne_mo_mk : nq mo mk := pw_ne hap 0 8 (by decide) (Nat.le_of_ble_eq_true rfl)
  have ne_mk_mo : nq mk mo := Ne.symm ne_mo_mk
  have ne_mo_ir : nq mo ir := pw_ne hap 0 9 (by decide) (Nat.le_of_ble_eq_true rfl)
  have ne_ir_mo : nq ir mo := Ne.symm ne_mo_ir
  have ne_mo_se : nq mo se := pw_ne hap 0 10 (by decide) (Nat.le_of_ble_eq_true rfl)
  have ne_se_mo : nq se mo := Ne.symm ne_mo_se
  have ne_mo_ec : nq mo ec := pw_ne hap 0 11 (by decide) (Nat.le_of_ble_eq_true rfl)
  have ne_ec_mo : nq ec mo := Ne.symm ne_mo_ec
  have ne_mo_lc : nq mo lc := pw_ne hap 0 12 (by decide) (Nat.le_of_ble_eq_true rfl)
  have ne_lc_mo : nq lc mo := Ne.symm ne_mo_lc
  have ne_mo_wc : nq mo wc := pw_ne hap 0 13 (by decide) (Nat.le_of_ble_eq_true rfl)
  have ne_wc_mo : nq wc mo := Ne.symm ne_mo_wc
  have ne_mo_ol : nq mo ol := pw_ne hap 0 14 (by decide) (Nat.le_of_ble_eq_true rfl)
  have ne_ol_mo : nq ol mo := Ne.symm ne_mo_ol
  have ne_mo_al : nq mo al := pw_ne hap 0 15 (by decide) (Nat.le_of_ble_eq_true rfl)
  have ne_al_mo : nq al mo := Ne.symm ne_mo_al
  have ne_cn_ia : nq cn ia := pw_ne hap 1 2 (by decide) (Nat.le_of_ble_eq_true rfl)
  have ne_ia_cn : nq ia cn := Ne.symm ne_cn_ia
  have ne_cn_dr : nq cn dr := pw_ne hap 1 3 (by decide) (Nat.le_of_ble_eq_true rfl)
  have ne_dr_cn : nq dr cn := Ne.symm ne_cn_dr
  have ne_cn_en : nq cn en := pw_ne hap 1 4 (by decide) (Nat.le_of_ble_eq_true rfl)
  have ne_en_cn : nq en cn := Ne.symm ne_cn_en
  have ne_cn_la : nq cn la := pw_ne hap 1 5 (by decide) (Nat.le_of_ble_eq_true rfl)
  have ne_la_cn : nq la cn := Ne.symm ne_cn_la
  have ne_cn_wo : nq cn wo := pw_ne hap 1 6 (by decide) (Nat.le_of_ble_eq_true rfl)
  have ne_wo_cn : nq wo cn := Ne.symm ne_cn_wo
  have ne_cn_op : nq cn op := pw_ne hap 1 7 (by decide) (Nat.le_of_ble_eq_true rfl)
  have ne_op_cn : nq op cn := Ne.symm ne_cn_op
  have ne_cn_mk : nq cn mk := pw_ne hap 1 8 (by decide) (Nat.le_of_ble_eq_true rfl)
  have ne_mk_cn : nq mk cn := Ne.symm ne_cn_mk
  have ne_cn_ir : nq cn ir := pw_ne hap 1 9 (by decide) (Nat.le_of_ble_eq_true rfl)
  have ne_ir_cn : nq ir cn := Ne.symm ne_cn_ir
  have ne_cn_se : nq cn se := pw_ne hap 1 10 (by decide) (Nat.le_of_ble_eq_true rfl)
  have ne_se_cn : nq se cn := Ne.symm ne_cn_se
  have ne_cn_ec : nq cn ec := pw_ne hap 1 11 (by decide) (Nat.le_of_ble_eq_true rfl)
  have ne_ec_cn : nq ec cn := Ne.symm ne_cn_ec
  have ne_cn_lc : nq cn lc := pw_ne hap 1 12 (by decide) (Nat.le_of_ble_eq_true rfl)
  have ne_lc_cn : nq lc cn := Ne.symm ne_cn_lc
  have ne_cn_wc : nq cn wc := pw_ne hap 1 13 (by decide) (Nat.le_of_ble_eq_true rfl)
  have ne_wc_cn : nq wc cn := Ne.symm ne_cn_wc
  have ne_cn_ol : nq cn ol := pw_ne hap 1 14 (by decide) (Nat.le_of_ble_eq_true rfl)
  have ne_ol_cn : nq ol cn := Ne.symm ne_cn_ol
  have ne_cn_al : nq cn al := pw_ne hap 1 15 (by decide) (Nat.le_of_ble_eq_true rfl)
  have ne_al_cn : nq al cn := Ne.symm ne_cn_al
  have ne_ia_dr : nq ia dr := pw_ne hap 2 3 (by decide) (Nat.le_of_ble_eq_true rfl)
  have ne_dr_ia : nq dr ia := Ne.symm ne_ia_dr
  have ne_ia_en : nq ia en := pw_ne hap 2 4 (by decide) (Nat.le_of_ble_eq_true rfl)
  have ne_en_ia : nq en ia := Ne.symm ne_ia_en
  have ne_ia_la : nq ia la := pw_ne hap 2 5 (by decide) (Nat.le_of_ble_eq_true rfl)
  have ne_la_ia : nq la ia := Ne.symm ne_ia_la
  have ne_ia_wo : nq ia wo := pw_ne hap 2 6 (by decide) (Nat.le_of_ble_eq_true rfl)
  have ne_wo_ia : nq wo ia := Ne.symm ne_ia_wo
  have ne_ia_op : nq ia op := pw_ne hap 2 7 (by decide) (Nat.le_of_ble_eq_true rfl)
  have ne_op_ia : nq op ia := Ne.symm ne_ia_op
  have ne_ia_mk : nq ia mk := pw_ne hap 2 8 (by decide) (Nat.le_of_ble_eq_true rfl)
  have ne_mk_ia : nq mk ia := Ne.symm ne_ia_mk
  have ne_ia_ir : nq ia ir := pw_ne hap 2 9 (by decide) (Nat.le_of_ble_eq_true rfl)
  have ne_ir_ia : nq ir ia := Ne.symm ne_ia_ir
  have ne_ia_se : nq ia se := pw_ne hap 2 10 (by decide) (Nat.le_of_ble_eq_true rfl)
  have ne_se_ia : nq se ia := Ne.symm ne_ia_se
  have ne_ia_ec : nq ia ec := pw_ne hap 2 11 (by decide) (Nat.le_of_ble_eq_true rfl)
  have ne_ec_ia : nq ec ia := Ne.symm ne_ia_ec
  have ne_ia_lc : nq ia lc := pw_ne hap 2 12 (by decide) (Nat.le_of_ble_eq_true rfl)
  have ne_lc_ia : nq lc ia := Ne.symm ne_ia_lc
  have ne_ia_wc : nq ia wc := pw_ne hap 2 13 (by decide) (Nat.le_of_ble_eq_true rfl)
  have ne_wc_ia : nq wc ia := Ne.symm ne_ia_wc
  have ne_ia_ol : nq ia ol := pw_ne hap 2 14 (by decide) (Nat.le_of_ble_eq_true rfl)
  have ne_ol_ia : nq ol ia := Ne.symm ne_ia_ol
  have ne_ia_al : nq ia al := pw_ne hap 2 15 (by decide) (Nat.le_of_ble_eq_true rfl)
  have ne_al_ia : nq al ia := Ne.symm ne_ia_al
  have ne_dr_en : nq dr en := pw_ne hap 3 4 (by decide) (Nat.le_of_ble_eq_true rfl)
  have ne_en_dr : nq en dr := Ne.symm ne_dr_en
  have ne_dr_la : nq dr la := pw_ne hap 3 5 (by decide) (Nat.le_of_ble_eq_true rfl)
  have ne_la_dr : nq la dr := Ne.symm ne_dr_la
  have ne_dr_wo : nq dr wo := pw_ne hap 3 6 (by decide) (Nat.le_of_ble_eq_true rfl)
  have ne_wo_dr : nq wo dr := Ne.symm ne_dr_wo
  have ne_dr_op : nq dr op := pw_ne hap 3 7 (by decide) (Nat.le_of_ble_eq_true rfl)
  have ne_op_dr : nq op dr := Ne.symm ne_dr_op
  have ne_dr_mk : nq dr mk := pw_ne hap 3 8 (by decide) (Nat.le_of_ble_eq_true rfl)
  have ne_mk_dr : nq mk dr := Ne.symm ne_dr_mk
  have ne_dr_ir : nq dr ir := pw_ne hap 3 9 (by decide) (Nat.le_of_ble_eq_true rfl)
  have ne_ir_dr : nq ir dr := Ne.symm ne_dr_ir
  have ne_dr_se : nq dr se := pw_ne hap 3 10 (by decide) (Nat.le_of_ble_eq_true rfl)
  have ne_se_dr : nq se dr := Ne.symm ne_dr_se
  have ne_dr_ec : nq dr ec := pw_ne hap 3 11 (by decide) (Nat.le_of_ble_eq_true rfl)
  have ne_ec_dr : nq ec dr := Ne.symm ne_dr_ec
  have ne_dr_lc : nq dr lc := pw_ne hap 3 12 (by decide) (Nat.le_of_ble_eq_true rfl)
  have ne_lc_dr : nq lc dr := Ne.symm ne_dr_lc
  have ne_dr_wc : nq dr wc := pw_ne hap 3 13 (by decide) (Nat.le_of_ble_eq_true rfl)
  have ne_wc_dr : nq wc dr := Ne.symm ne_dr_wc
  have ne_dr_ol : nq dr ol := pw_ne hap 3 14 (by decide) (Nat.le_of_ble_eq_true rfl)
  have ne_ol_dr : nq ol dr := Ne.symm ne_dr_ol
  have ne_dr_al : nq dr al := pw_ne hap 3 15 (by decide) (Nat.le_of_ble_eq_true rfl)
  have ne_al_dr : nq al dr := Ne.symm ne_dr_al
  have ne_en_la : nq en la := pw_ne hap 4 5 (by decide) (Nat.le_of_ble_eq_true rfl)
  have ne_la_en : nq la en := Ne.symm ne_en_la
  have ne_en_wo : nq en wo := pw_ne hap 4 6 (by decide) (Nat.le_of_ble_eq_true rfl)
  have ne_wo_en : nq wo en := Ne.symm ne_en_wo
  have ne_en_op : nq en op := pw_ne hap 4 7 (by decide) (Nat.le_of_ble_eq_true rfl)
  have ne_op_en : nq op en := Ne.symm ne_en_op
  have ne_en_mk : nq en mk := pw_ne hap 4 8 (by decide) (Nat.le_of_ble_eq_true rfl)
  have ne_mk_en : nq mk en := Ne.symm ne_en_mk
  have ne_en_ir : nq en ir := pw_ne hap 4 9 (by decide) (Nat.le_of_ble_eq_true rfl)
  have ne_ir_en : nq ir en := Ne.symm ne_en_ir
  have ne_en_se : nq en se := pw_ne hap 4 10 (by decide) (Nat.le_of_ble_eq_true rfl)
  have ne_se_en : nq se en := Ne.symm ne_en_se
  have ne_en_ec : nq en ec := pw_ne hap 4 11 (by decide) (Nat.le_of_ble_eq_true rfl)
  have ne_ec_en : nq ec en := Ne.symm ne_en_ec
  have ne_en_lc : nq en lc := pw_ne hap 4 12 (by decide) (Nat.le_of_ble_eq_true rfl)
  have ne_lc_en : nq lc en := Ne.symm ne_en_lc
  have ne_en_wc : nq en wc := pw_ne hap 4 13 (by decide) (Nat.le_of_ble_eq_true rfl)
  have ne_wc_en : nq wc en := Ne.symm ne_en_wc
  have ne_en_ol : nq en ol := pw_ne hap 4 14 (by decide) (Nat.le_of_ble_eq_true rfl)
  have ne_ol_en : nq ol en := Ne.symm ne_en_ol
  have ne_en_al : nq en al := pw_ne hap 4 15 (by decide) (Nat.le_of_ble_eq_true rfl)
  have ne_al_en : nq al en := Ne.symm ne_en_al
  have ne_la_wo : nq la wo := pw_ne hap 5 6 (by decide) (Nat.le_of_ble_eq_true rfl)
  have ne_wo_la : nq wo la := Ne.symm ne_la_wo
  have ne_la_op : nq la op := pw_ne hap 5 7 (by decide) (Nat.le_of_ble_eq_true rfl)
  have ne_op_la : nq op la := Ne.symm ne_la_op
  have ne_la_mk : nq la mk := pw_ne hap 5 8 (by decide) (Nat.le_of_ble_eq_true rfl)
  have ne_mk_la : nq mk la := Ne.symm ne_la_mk
  have ne_la_ir : nq la ir := pw_ne hap 5 9 (by decide) (Nat.le_of_ble_eq_true rfl)
  have ne_ir_la : nq ir la := Ne.symm ne_la_ir
  have ne_la_se : nq la se := pw_ne hap 5 10 (by decide) (Nat.le_of_ble_eq_true rfl)
  have ne_se_la : nq se la := Ne.symm ne_la_se
  have ne_la_ec : nq la ec := pw_ne hap 5 11 (by decide) (Nat.le_of_ble_eq_true rfl)
  have ne_ec_la : nq ec la := Ne.symm ne_la_ec
  have ne_la_lc : nq la lc := pw_ne hap 5 12 (by decide) (Nat.le_of_ble_eq_true rfl)
  have ne_lc_la : nq lc la := Ne.symm ne_la_lc
  have ne_la_wc : nq la wc := pw_ne hap 5 13 (by decide) (Nat.le_of_ble_eq_true rfl)
  have ne_wc_la : nq wc la := Ne.symm ne_la_wc
  have ne_la_ol : nq la ol := pw_ne hap 5 14 (by decide) (Nat.le_of_ble_eq_true rfl)
  have ne_ol_la : nq ol la := Ne.symm ne_la_ol
  have ne_la_al : nq la al := pw_ne hap 5 15 (by decide) (Nat.le_of_ble_eq_true rfl)
  have ne_al_la : nq al la := Ne.symm ne_la_al
  have ne_wo_op : nq wo op := pw_ne hap 6 7 (by decide) (Nat.le_of_ble_eq_true rfl)
  have ne_op_wo : nq op wo := Ne.symm ne_wo_op
  have ne_wo_mk : nq wo mk := pw_ne hap 6 8 (by decide) (Nat.le_of_ble_eq_true rfl)
  have ne_mk_wo : nq mk wo := Ne.symm ne_wo_mk
  have ne_wo_ir : nq wo ir := pw_ne hap 6 9 (by decide) (Nat.le_of_ble_eq_true rfl)
  have ne_ir_wo : nq ir wo := Ne.symm ne_wo_ir
  have ne_wo_se : nq wo se := pw_ne hap 6 10 (by decide) (Nat.le_of_ble_eq_true rfl)
  have ne_se_wo : nq se wo := Ne.symm ne_wo_se
  have ne_wo_ec : nq wo ec := pw_ne hap 6 11 (by decide) (Nat.le_of_ble_eq_true rfl)
  have ne_ec_wo : nq ec wo := Ne.symm ne_wo_ec
  have ne_wo_lc : nq wo lc := pw_ne hap 6 12 (by decide) (Nat.le_of_ble_eq_true rfl)
  have ne_lc_wo : nq lc wo := Ne.symm ne_wo_lc
  have ne_wo_wc : nq wo wc := pw_ne hap 6 13 (by decide) (Nat.le_of_ble_eq_true rfl)
  have ne_wc_wo : nq wc wo := Ne.symm ne_wo_wc
  have ne_wo_ol : nq wo ol := pw_ne hap 6 14 (by decide) (Nat.le_of_ble_eq_true rfl)
  have ne_ol_wo : nq ol wo := Ne.symm ne_wo_ol
  have ne_wo_al : nq wo al := pw_ne hap 6 15 (by decide) (Nat.le_of_ble_eq_true rfl)
  have ne_al_wo : nq al wo := Ne.symm ne_wo_al
  have ne_op_mk : nq op mk := pw_ne hap 7 8 (by decide) (Nat.le_of_ble_eq_true rfl)
  have ne_mk_op : nq mk op := Ne.symm ne_op_mk
  have ne_op_ir : nq op ir := pw_ne hap 7 9 (by decide) (Nat.le_of_ble_eq_true rfl)
  have ne_ir_op : nq ir op := Ne.symm ne_op_ir
  have ne_op_se : nq op se := pw_ne hap 7 10 (by decide) (Nat.le_of_ble_eq_true rfl)
  have ne_se_op : nq se op := Ne.symm ne_op_se
  have ne_op_ec : nq op ec := pw_ne hap 7 11 (by decide) (Nat.le_of_ble_eq_true rfl)
  have ne_ec_op : nq ec op := Ne.symm ne_op_ec
  have ne_op_lc : nq op lc := pw_ne hap 7 12 (by decide) (Nat.le_of_ble_eq_true rfl)
  have ne_lc_op : nq lc op := Ne.symm ne_op_lc
  have ne_op_wc : nq op wc := pw_ne hap 7 13 (by decide) (Nat.le_of_ble_eq_true rfl)
  have ne_wc_op : nq wc op := Ne.symm ne_op_wc
  have ne_op_ol : nq op ol := pw_ne hap 7 14 (by decide) (Nat.le_of_ble_eq_true rfl)
  have ne_ol_op : nq ol op := Ne.symm ne_op_ol
  have ne_op_al : nq op al := pw_ne hap 7 15 (by decide) (Nat.le_of_ble_eq_true rfl)
  have ne_al_op : nq al op := Ne.symm ne_op_al
  have ne_mk_ir : nq mk ir := pw_ne hap 8 9 (by decide) (Nat.le_of_ble_eq_true rfl)
  have ne_ir_mk : nq ir mk := Ne.symm ne_mk_ir
  have ne_mk_se : nq mk se := pw_ne hap 8 10 (by decide) (Nat.le_of_ble_eq_true rfl)
  have ne_se_mk : nq se mk := Ne.symm ne_mk_se
  have ne_mk_ec : nq mk ec := pw_ne hap 8 11 (by decide) (Nat.le_of_ble_eq_true rfl)
  have ne_ec_mk : nq ec mk := Ne.symm ne_mk_ec
  have ne_mk_lc : nq mk lc := pw_ne hap 8 12 (by decide) (Nat.le_of_ble_eq_true rfl)
  have ne_lc_mk : nq lc mk := Ne.symm ne_mk_lc
  have ne_mk_wc : nq mk wc := pw_ne hap 8 13 (by decide) (Nat.le_of_ble_eq_true rfl)
  have ne_wc_mk : nq wc mk := Ne.symm ne_mk_wc
  have ne_mk_ol : nq mk ol := pw_ne hap 8 14 (by decide) (Nat.le_of_ble_eq_true rfl)
  have ne_ol_mk : nq ol mk := Ne.symm ne_mk_ol
  have ne_mk_al : nq mk al := pw_ne hap 8 15 (by decide) (Nat.le_of_ble_eq_true rfl)
  have ne_al_mk : nq al mk := Ne.symm ne_mk_al
  have ne_ir_se : nq ir se := pw_ne hap 9 10 (by decide) (Nat.le_of_ble_eq_true rfl)
  have ne_se_ir : nq se ir := Ne.symm ne_ir_se
  have ne_ir_ec : nq ir ec := pw_ne hap 9 11 (by decide) (Nat.le_of_ble_eq_true rfl)
  have ne_ec_ir : nq ec ir := Ne.symm ne_ir_ec
  have ne_ir_lc : nq ir lc := pw_ne hap 9 12 (by decide) (Nat.le_of_ble_eq_true rfl)
  have ne_lc_ir : nq lc ir := Ne.symm ne_ir_lc
  have ne_ir_wc : nq ir wc := pw_ne hap 9 13 (by decide) (Nat.le_of_ble_eq_true rfl)
  have ne_wc_ir : nq wc ir := Ne.symm ne_ir_wc
  have ne_ir_ol : nq ir ol := pw_ne hap 9 14 (by decide) (Nat.le_of_ble_eq_true rfl)
  have ne_ol_ir : nq ol ir := Ne.symm ne_ir_ol
  have ne_ir_al : nq ir al := pw_ne hap 9 15 (by decide) (Nat.le_of_ble_eq_true rfl)
  have ne_al_ir : nq al ir := Ne.symm ne_ir_al
  have ne_se_ec : nq se ec := pw_ne hap 10 11 (by decide) (Nat.le_of_ble_eq_true rfl)
  have ne_ec_se : nq ec se := Ne.symm ne_se_ec
  have ne_se_lc : nq se lc := pw_ne hap 10 12 (by decide) (Nat.le_of_ble_eq_true rfl)
  have ne_lc_se : nq lc se := Ne.symm ne_se_lc
  have ne_se_wc : nq se wc := pw_ne hap 10 13 (by decide) (Nat.le_of_ble_eq_true rfl)
  have ne_wc_se : nq wc se := Ne.symm ne_se_wc
  have ne_se_ol : nq se ol := pw_ne hap 10 14 (by decide) (Nat.le_of_ble_eq_true rfl)
  have ne_ol_se : nq ol se := Ne.symm ne_se_ol
  have ne_se_al : nq se al := pw_ne hap 10 15 (by decide) (Nat.le_of_ble_eq_true rfl)
  have ne_al_se : nq al se := Ne.symm ne_se_al
  have ne_ec_lc : nq ec lc := pw_ne hap 11 12 (by decide) (Nat.le_of_ble_eq_true rfl)
  have ne_lc_ec : nq lc ec := Ne.symm ne_ec_lc
  have ne_ec_wc : nq ec wc := pw_ne hap 11 13 (by decide) (Nat.le_of_ble_eq_true rfl)
  have ne_wc_ec : nq wc ec := Ne.symm ne_ec_wc
  have ne_ec_ol : nq ec ol := pw_ne hap 11 14 (by decide) (Nat.le_of_ble_eq_true rfl)
  have ne_ol_ec : nq ol ec := Ne.symm ne_ec_ol
  have ne_ec_al : nq ec al := pw_ne hap 11 15 (by decide) (Nat.le_of_ble_eq_true rfl)
  have ne_al_ec : nq al ec := Ne.symm ne_ec_al
  have ne_lc_wc : nq lc wc := pw_ne hap 12 13 (by decide) (Nat.le_of_ble_eq_true rfl)
  have ne_wc_lc : nq wc lc := Ne.symm ne_lc_wc
  have ne_lc_ol : nq lc ol := pw_ne hap 12 14 (by decide) (Nat.le_of_ble_eq_true rfl)
  have ne_ol_lc : nq ol lc := Ne.symm ne_lc_ol
  have ne_lc_al : nq lc al := pw_ne hap 12 15 (by decide) (Nat.le_of_ble_eq_true rfl)
  have ne_al_lc : nq al lc := Ne.symm ne_lc_al
  have ne_wc_ol : nq wc ol := pw_ne hap 13 14 (by decide) (Nat.le_of_ble_eq_true rfl)
  have ne_ol_wc : nq ol wc := Ne.symm ne_wc_ol
  have ne_wc_al : nq wc al := pw_ne hap 13 15 (by decide) (Nat.le_of_ble_eq_true rfl)
  have ne_al_wc : nq al wc := Ne.symm ne_wc_al
  have ne_ol_al : nq ol al := pw_ne hap 14 15 (by decide) (Nat.le_of_ble_eq_true rfl)
  have ne_al_ol : nq al ol := Ne.symm ne_ol_al
  have hkp : kpx (fun a => a ∈ [ir]) M M := kpx.refl _ _
  obtain ⟨hR1, hR2, hR3, hRu, hR6⟩ := hR
  have hge : fcn = g7 := by
    have h9 := hR1.symm.trans hcn
    cases h9; rfl
  have hae : fia = a7 := by
    have h9 := hR2.symm.trans hia
    cases h9; rfl
  have hee : fen = e7 := by
    have h9 := hR3.symm.trans hen
    cases h9; rfl
  subst hge
  subst hae
  subst hee
  refine lv_bipush (v := 100) hx hb dX6_lookUp_0 (by decide) ?_
  refine lv_aload_n hx hb dX6_lookUp_2 rfl (lv_at hl 0 rfl) ?_
  refine lv_iload_n hx hb dX6_lookUp_3 rfl (lv_at hl 1 rfl) ?_
  have hI0 : mI k M mo cn ia dr en la wo op mk ir se ec lc wc ol al dn md := ⟨_, _, _, _, _, _, _, fcn, fia, fdr, fen, fla, fwo, fop, fmk, fir, fse, fec, flc, fol, fal, fwc, hap, hM, hmd, ⟨hrC, hrL, hrM⟩, hcn, hia, hdr, hen, hla, hwo, hop, hmk, hir, hse, hec, hlc, hwc, hol, hal⟩
  refine m_kV (As := [.int (nI t9)]) (rest := [.int 100]) (rm := { frames := 0, cells := 0, slots := 0, locals := 0 }) ⟨hx, hb, hml, hown, hts⟩ (s_X6_tree l D k z _ mo cn ia dr en la wo op mk ir se ec lc wc ol al dn md t9 (by omega) hI0) (cwV 1 hts gX6_lookUp_X6_tree rfl rfl rfl (by decide +kernel) ⟨Nat.le_of_ble_eq_true rfl, Nat.le_of_ble_eq_true rfl⟩) (m_recv hK hm (q := (RX6, TX6, 24)) rfl hM) hz hcx hm hS rfl hl.1 rfl (Nat.le_of_ble_eq_true rfl) dX6_lookUp_4 ⟨Nat.le_of_ble_eq_true rfl, Nat.le_of_ble_eq_true rfl⟩ (fun v M1 H locs hv hm hS => ?_)
  obtain ⟨hv1, hM1⟩ := hv
  subst hv1
  rw [hM1] at hm
  refine W.eq (g2 := F0 m 7 ls [.int (nI (2 + 5 * t9)), .int 100]) rfl ?_
  refine W.widen (k := 0) (n := 0) (Nat.le_of_ble_eq_true rfl) (Nat.le_of_ble_eq_true rfl) ?_
  have hm : mm D (AZ z) M H := hm
  refine lv_imul hx hb dX6_lookUp_7 ?_
  refine W.eq (g2 := F0 m 8 ls [.int (nI (100 * (2 + 5 * t9)))]) (by rw [show ((100) * ((nI (2 + 5 * t9))) : Int32) = nI (100 * (2 + 5 * t9)) from pk_mul 100 (2 + 5 * t9)]) ?_
  refine lv_istore_n (lv' := [(3, .int (nI (100 * (2 + 5 * t9)))), (0, .ref mo), (1, .int (nI t9)), (2, .int path)]) hx hb dX6_lookUp_8 rfl hl (by decide) rfl (fun ls hl => ?_)
  refine lv_bipush (v := 24) hx hb dX6_lookUp_9 (by decide) ?_
  refine lv_istore (lv' := [(4, .int 24), (3, .int (nI (100 * (2 + 5 * t9)))), (0, .ref mo), (1, .int (nI t9)), (2, .int path)]) hx hb dX6_lookUp_11 hl (by decide) rfl (fun ls hl => ?_)
  have hI0 : mI k M mo cn ia dr en la wo op mk ir se ec lc wc ol al dn md := ⟨_, _, _, _, _, _, _, fcn, fia, fdr, fen, fla, fwo, fop, fmk, fir, fse, fec, flc, fol, fal, fwc, hap, hM, hmd, ⟨hrC, hrL, hrM⟩, hcn, hia, hdr, hen, hla, hwo, hop, hmk, hir, hse, hec, hlc, hwc, hol, hal⟩
  refine W_loop (σ := Nat × Int32 × mM) (fun ⟨j, a9, Mj⟩ H locs ls => (j ≤ 7) ∧ okL fia fen (2 + 5 * t9) u7 path j a9 ∧ mI k Mj mo cn ia dr en la wo op mk ir se ec lc wc ol al dn md ∧ kpx (fun a => a ∈ [ir]) M Mj ∧ mm D (AZ z) Mj H ∧ va_S (AZ z) s.heap H locs ∧ lv_has ls 6 [(4, .int (nI (4 * j) - 4)), (3, .int a9), (0, .ref mo), (1, .int (nI t9)), (2, .int path)]) (fun ⟨j, a9, Mj⟩ => j) (fun _ => 0) (fun _ => 0) ?_ (7, (nI (100 * (2 + 5 * t9))), M) _ _ _ ⟨Nat.le_refl _, Or.inr ⟨fun _ => 100 * (2 + 5 * t9), ⟨rfl, fun i h1 h2 => absurd h1 (by omega)⟩, rfl⟩, hI0, hkp, hm, hS, lv_sub hl [0, 1, 2, 3, 4] rfl⟩
  intro ⟨j, a9, Mj⟩ H locs ls hQ ih13
  obtain ⟨hj, hf, hI, hkp, hm, hS, hl⟩ := hQ
  try dsimp only at hm hl hf ih13 ⊢
  obtain ⟨_, _, _, _, _, _, _, _, _, _, _, _, _, _, _, fir_1, _, _, _, _, _, _, -, -, hmd_1, ⟨-, -, -⟩, -, -, -, -, -, -, -, -, hir_1, -, -, -, -, -, -⟩ := id hI
  have kmo_1 := hkp _ _ (by simp only [List.mem_cons, List.not_mem_nil, or_false, not_or]; exact ne_mo_ir) hM
  have kcn_1 := hkp _ _ (by simp only [List.mem_cons, List.not_mem_nil, or_false, not_or]; exact ne_cn_ir) hcn
  have kia_1 := hkp _ _ (by simp only [List.mem_cons, List.not_mem_nil, or_false, not_or]; exact ne_ia_ir) hia
  have kdr_1 := hkp _ _ (by simp only [List.mem_cons, List.not_mem_nil, or_false, not_or]; exact ne_dr_ir) hdr
  have ken_1 := hkp _ _ (by simp only [List.mem_cons, List.not_mem_nil, or_false, not_or]; exact ne_en_ir) hen
  have kla_1 := hkp _ _ (by simp only [List.mem_cons, List.not_mem_nil, or_false, not_or]; exact ne_la_ir) hla
  have kwo_1 := hkp _ _ (by simp only [List.mem_cons, List.not_mem_nil, or_false, not_or]; exact ne_wo_ir) hwo
  have kop_1 := hkp _ _ (by simp only [List.mem_cons, List.not_mem_nil, or_false, not_or]; exact ne_op_ir) hop
  have kmk_1 := hkp _ _ (by simp only [List.mem_cons, List.not_mem_nil, or_false, not_or]; exact ne_mk_ir) hmk
  have kse_1 := hkp _ _ (by simp only [List.mem_cons, List.not_mem_nil, or_false, not_or]; exact ne_se_ir) hse
  have kec_1 := hkp _ _ (by simp only [List.mem_cons, List.not_mem_nil, or_false, not_or]; exact ne_ec_ir) hec
  have klc_1 := hkp _ _ (by simp only [List.mem_cons, List.not_mem_nil, or_false, not_or]; exact ne_lc_ir) hlc
  have kwc_1 := hkp _ _ (by simp only [List.mem_cons, List.not_mem_nil, or_false, not_or]; exact ne_wc_ir) hwc
  have kol_1 := hkp _ _ (by simp only [List.mem_cons, List.not_mem_nil, or_false, not_or]; exact ne_ol_ir) hol
  have kal_1 := hkp _ _ (by simp only [List.mem_cons, List.not_mem_nil, or_false, not_or]; exact ne_al_ir) hal
  refine lv_iload hx hb dX6_lookUp_13 (lv_at hl 0 rfl) ?_
  refine lv_if_lt (tgt := 64) hx hb dX6_lookUp_15 (by decide) (fun c1 => ?_) (fun c1 => ?_)
  · refine lv_iload_n hx hb dX6_lookUp_64 rfl (lv_at hl 1 rfl) ?_
    refine W.iret (v := a9) hx hb hr (fun t ht hW => ⟨⟨some (.int a9), _, rfl, ?_, by rw [ht]; exact hm⟩, hS.F ht⟩) hS.2.2 dX6_lookUp_65
    first
      | exact ⟨⟨_, rfl, Or.inl (by rcases hf with q | ⟨c, q1, q3⟩; exact q; exact absurd rfl (by rw [q3]; exact nI_pos (by have := q1.bnd j (Nat.le_refl _) hj; omega)))⟩, hI, hkp⟩
      | exact ⟨⟨_, rfl, by
          cases j with
          | zero => exact hf
          | succ i => exact absurd c1 (by rw [show (4 : Int32) = nI 4 from rfl, pk_sub (a := 4 * (i + 1)) (b := 4) (by omega)]; exact nI_pos (n := 4 * (i + 1) - 4) (by omega))⟩, hI, hkp⟩
  · refine lv_iload_n hx hb dX6_lookUp_18 rfl (lv_at hl 1 rfl) ?_
    refine lv_if_lt (tgt := 64) hx hb dX6_lookUp_19 (by decide) (fun c2 => ?_) (fun c2 => ?_)
    · refine lv_iload_n hx hb dX6_lookUp_64 rfl (lv_at hl 1 rfl) ?_
      refine W.iret (v := a9) hx hb hr (fun t ht hW => ⟨⟨some (.int a9), _, rfl, ?_, by rw [ht]; exact hm⟩, hS.F ht⟩) hS.2.2 dX6_lookUp_65
      first
        | exact ⟨⟨_, rfl, Or.inl (by rcases hf with q | ⟨c, q1, q3⟩; exact q; exact absurd c2 (by rw [q3]; exact nI_pos (by have := q1.bnd j (Nat.le_refl _) hj; omega)))⟩, hI, hkp⟩
        | exact ⟨⟨_, rfl, by
            cases j with
            | zero => exact hf
            | succ i => exact absurd c1 (by rw [show (4 : Int32) = nI 4 from rfl, pk_sub (a := 4 * (i + 1)) (b := 4) (by omega)]; exact nI_pos (n := 4 * (i + 1) - 4) (by omega))⟩, hI, hkp⟩
    · obtain ⟨i, rfl⟩ : ∃ i, j = i + 1 := by
        cases j with
        | zero => exact absurd (by decide) c1
        | succ i => exact ⟨i, rfl⟩
      have hk9 : nI (4 * (i + 1)) - 4 = nI (4 * i) := by rw [show (4 : Int32) = nI 4 from rfl, pk_sub (by omega)]; congr 1
      rw [hk9] at hl
      obtain ⟨c9, hc9, rfl⟩ : ∃ c, okc fia fen (2 + 5 * t9) u7 path c (i + 1) ∧ a9 = nI (c (i + 1)) := by
        rcases hf with q | q
        · exact absurd (by rw [q]; decide) c2
        · exact q
      have hcb := hc9.bnd (i + 1) (Nat.le_refl _) (by omega)
      refine lv_iload_n hx hb dX6_lookUp_22 rfl (lv_at hl 4 rfl) ?_
      refine lv_iload hx hb dX6_lookUp_23 (lv_at hl 0 rfl) ?_
      refine lv_ishr hx hb dX6_lookUp_25 ?_
      refine lv_bipush (v := 15) hx hb dX6_lookUp_26 (by decide) ?_
      refine lv_iand hx hb dX6_lookUp_28 ?_
      refine lv_istore (lv' := [(5, .int ((path >>> ((nI (4 * i)) &&& 31)) &&& 15)), (4, .int (nI (4 * i))), (3, .int (nI (c9 (i + 1)))), (0, .ref mo), (1, .int (nI t9)), (2, .int path)]) hx hb dX6_lookUp_29 hl (by decide) rfl (fun ls hl => ?_)
      refine lv_iload hx hb dX6_lookUp_31 (lv_at hl 0 rfl) ?_
      refine lv_if_le (tgt := 58) hx hb dX6_lookUp_33 (by decide) (fun c3 => ?_) (fun c3 => ?_)
      · refine lv_iinc (v := ((nI (4 * i)) + (-4))) (lv' := [(4, .int ((nI (4 * i)) + (-4))), (5, .int ((path >>> ((nI (4 * i)) &&& 31)) &&& 15)), (3, .int (nI (c9 (i + 1)))), (0, .ref mo), (1, .int (nI t9)), (2, .int path)]) hx hb dX6_lookUp_58 hl (k := 1) rfl rfl (by decide) rfl (fun ls hl => ?_)
        refine lv_goto (tgt := 13) hx hb dX6_lookUp_61 (by decide) ?_
        rw [show nI (4 * i) + (-4) = nI (4 * i) - 4 from (Int32.sub_eq_add_neg _ _).symm] at hl
        exact ih13 (i, (nI (c9 (i + 1))), Mj) _ _ _ ⟨by omega, okL_0 hc9 (by omega) c3, ⟨_, _, _, _, _, _, _, fcn, fia, fdr, fen, fla, fwo, fop, fmk, fir_1, fse, fec, flc, fol, fal, fwc, hap, kmo_1, hmd, ⟨hrC, hrL, hrM⟩, kcn_1, kia_1, kdr_1, ken_1, kla_1, kwo_1, kop_1, kmk_1, hir_1, kse_1, kec_1, klc_1, kwc_1, kol_1, kal_1⟩, hkp, hm, hS, lv_sub hl [0, 2, 3, 4, 5] rfl⟩ (by show i < i + 1; omega)
      · refine lv_aload_n hx hb dX6_lookUp_36 rfl (lv_at hl 3 rfl) ?_
        refine m_get (T := TX6) (N := 24) (ci := 6) (v := .ref dr) hx hb hts wX6 hown hK hm kmo_1 rfl 3 (by decide) f16 (fun _ h9 => h9) rfl dX6_lookUp_37 ?_
        refine lv_iload_n hx hb dX6_lookUp_40 rfl (lv_at hl 2 rfl) ?_
        refine m_zald hx hb hK hm 2 kdr_1 rfl (vp_in_nI (by omega) (by decide)) dX6_lookUp_41 ?_
        refine lv_if_eq (tgt := 56) hx hb dX6_lookUp_42 (by decide) (fun c4 => ?_) (fun c4 => ?_)
        · refine lv_iconst (v := (-1)) hx hb dX6_lookUp_56 (by decide) ?_
          refine lv_istore_n (lv' := [(3, .int (-1)), (5, .int ((path >>> ((nI (4 * i)) &&& 31)) &&& 15)), (4, .int (nI (4 * i))), (0, .ref mo), (1, .int (nI t9)), (2, .int path)]) hx hb dX6_lookUp_57 rfl hl (by decide) rfl (fun ls hl => ?_)
          refine lv_iinc (v := ((nI (4 * i)) + (-4))) (lv' := [(4, .int ((nI (4 * i)) + (-4))), (3, .int (-1)), (5, .int ((path >>> ((nI (4 * i)) &&& 31)) &&& 15)), (0, .ref mo), (1, .int (nI t9)), (2, .int path)]) hx hb dX6_lookUp_58 hl (k := 2) rfl rfl (by decide) rfl (fun ls hl => ?_)
          refine lv_goto (tgt := 13) hx hb dX6_lookUp_61 (by decide) ?_
          rw [show nI (4 * i) + (-4) = nI (4 * i) - 4 from (Int32.sub_eq_add_neg _ _).symm] at hl
          exact ih13 (i, (-1), Mj) _ _ _ ⟨by omega, Or.inl rfl, ⟨_, _, _, _, _, _, _, fcn, fia, fdr, fen, fla, fwo, fop, fmk, fir_1, fse, fec, flc, fol, fal, fwc, hap, kmo_1, hmd, ⟨hrC, hrL, hrM⟩, kcn_1, kia_1, kdr_1, ken_1, kla_1, kwo_1, kop_1, kmk_1, hir_1, kse_1, kec_1, klc_1, kwc_1, kol_1, kal_1⟩, hkp, hm, hS, lv_sub hl [0, 1, 3, 4, 5] rfl⟩ (by show i < i + 1; omega)
        · refine lv_aload_n hx hb dX6_lookUp_45 rfl (lv_at hl 3 rfl) ?_
          refine lv_iload_n hx hb dX6_lookUp_46 rfl (lv_at hl 4 rfl) ?_
          refine lv_iload_n hx hb dX6_lookUp_47 rfl (lv_at hl 2 rfl) ?_
          refine lv_iload hx hb dX6_lookUp_48 (lv_at hl 0 rfl) ?_
          obtain ⟨d9, hd8, hde⟩ := pk_andE (path >>> (nI (4 * i) &&& 31)) (m := 15) 4 (by decide)
          have hd9 : 1 ≤ d9 := Nat.pos_of_ne_zero fun q => c3 (by rw [hde, q]; decide)
          have hde9 : dg path i = nI d9 := hde
          refine W.eq (g2 := F0 m 50 ls [.int (nI d9), .int (nI (c9 (i + 1))), .int (nI t9), .ref mo]) (by rw [hde]) ?_
          have hI0 : mI k Mj mo cn ia dr en la wo op mk ir se ec lc wc ol al dn md := ⟨_, _, _, _, _, _, _, fcn, fia, fdr, fen, fla, fwo, fop, fmk, fir_1, fse, fec, flc, fol, fal, fwc, hap, kmo_1, hmd, ⟨hrC, hrL, hrM⟩, kcn_1, kia_1, kdr_1, ken_1, kla_1, kwo_1, kop_1, kmk_1, hir_1, kse_1, kec_1, klc_1, kwc_1, kol_1, kal_1⟩
          refine m_kV (As := [.int (nI t9), .int (nI (c9 (i + 1))), .int (nI d9)]) (rest := []) (rm := { frames := 2, cells := 0, slots := 0, locals := 48 }) ⟨hx, hb, hml, hown, hts⟩ (y_X6_enter l D k z _ mo cn ia dr en la wo op mk ir se ec lc wc ol al dn md t9 (c9 (i + 1)) d9 ht9 (by omega) hd9 (by omega) fcn fia fen u7 ⟨kcn_1, kia_1, ken_1, hRu, hR6⟩ hI0) (cwV 3 hts gX6_lookUp_X6_enter rfl rfl rfl (by decide +kernel) ⟨Nat.le_of_ble_eq_true rfl, Nat.le_of_ble_eq_true rfl⟩) (m_recv hK hm (q := (RX6, TX6, 24)) rfl kmo_1) hz hcx hm hS rfl hl.1 rfl (Nat.le_of_ble_eq_true rfl) dX6_lookUp_50 ⟨Nat.le_of_ble_eq_true rfl, Nat.le_of_ble_eq_true rfl⟩ (fun v M1 H locs hv hm hS => ?_)
          obtain ⟨hv1, hI, hk9⟩ := hv
          obtain ⟨_, _, _, _, _, _, _, _, _, _, _, _, _, _, _, fir_2, _, _, _, _, _, _, -, -, hmd_2, ⟨-, -, -⟩, -, -, -, -, -, -, -, -, hir_2, -, -, -, -, -, -⟩ := id hI
          have kmo_2 := hk9 _ _ (by simp only [List.mem_cons, List.not_mem_nil, or_false, not_or]; exact ne_mo_ir) kmo_1
          have kcn_2 := hk9 _ _ (by simp only [List.mem_cons, List.not_mem_nil, or_false, not_or]; exact ne_cn_ir) kcn_1
          have kia_2 := hk9 _ _ (by simp only [List.mem_cons, List.not_mem_nil, or_false, not_or]; exact ne_ia_ir) kia_1
          have kdr_2 := hk9 _ _ (by simp only [List.mem_cons, List.not_mem_nil, or_false, not_or]; exact ne_dr_ir) kdr_1
          have ken_2 := hk9 _ _ (by simp only [List.mem_cons, List.not_mem_nil, or_false, not_or]; exact ne_en_ir) ken_1
          have kla_2 := hk9 _ _ (by simp only [List.mem_cons, List.not_mem_nil, or_false, not_or]; exact ne_la_ir) kla_1
          have kwo_2 := hk9 _ _ (by simp only [List.mem_cons, List.not_mem_nil, or_false, not_or]; exact ne_wo_ir) kwo_1
          have kop_2 := hk9 _ _ (by simp only [List.mem_cons, List.not_mem_nil, or_false, not_or]; exact ne_op_ir) kop_1
          have kmk_2 := hk9 _ _ (by simp only [List.mem_cons, List.not_mem_nil, or_false, not_or]; exact ne_mk_ir) kmk_1
          have kse_2 := hk9 _ _ (by simp only [List.mem_cons, List.not_mem_nil, or_false, not_or]; exact ne_se_ir) kse_1
          have kec_2 := hk9 _ _ (by simp only [List.mem_cons, List.not_mem_nil, or_false, not_or]; exact ne_ec_ir) kec_1
          have klc_2 := hk9 _ _ (by simp only [List.mem_cons, List.not_mem_nil, or_false, not_or]; exact ne_lc_ir) klc_1
          have kwc_2 := hk9 _ _ (by simp only [List.mem_cons, List.not_mem_nil, or_false, not_or]; exact ne_wc_ir) kwc_1
          have kol_2 := hk9 _ _ (by simp only [List.mem_cons, List.not_mem_nil, or_false, not_or]; exact ne_ol_ir) kol_1
          have kal_2 := hk9 _ _ (by simp only [List.mem_cons, List.not_mem_nil, or_false, not_or]; exact ne_al_ir) kal_1
          have hkp := hkp.trans hk9
          obtain ⟨Mc1, hMx⟩ : ∃ x : mM, x = M1 := ⟨M1, rfl⟩
          subst hMx
          obtain ⟨f9, hf9⟩ : ∃ f9 : Int32, f9 = (if fen (16 * c9 (i + 1) + d9) = 0 then -1 else fv fia (fen (16 * c9 (i + 1) + d9)) (100 * (2 + 5 * t9)) u7) := ⟨_, rfl⟩
          rw [← hf9] at hv1
          subst hv1
          refine W.eq (g2 := F0 m 53 ls [.int f9]) rfl ?_
          refine W.widen (k := 0) (n := 0) (Nat.le_of_ble_eq_true rfl) (Nat.le_of_ble_eq_true rfl) ?_
          have hm : mm D (AZ z) Mc1 H := hm
          refine lv_goto (tgt := 57) hx hb dX6_lookUp_53 (by decide) ?_
          refine lv_istore_n (lv' := [(3, .int f9), (5, .int ((path >>> ((nI (4 * i)) &&& 31)) &&& 15)), (4, .int (nI (4 * i))), (0, .ref mo), (1, .int (nI t9)), (2, .int path)]) hx hb dX6_lookUp_57 rfl hl (by decide) rfl (fun ls hl => ?_)
          refine lv_iinc (v := ((nI (4 * i)) + (-4))) (lv' := [(4, .int ((nI (4 * i)) + (-4))), (3, .int f9), (5, .int ((path >>> ((nI (4 * i)) &&& 31)) &&& 15)), (0, .ref mo), (1, .int (nI t9)), (2, .int path)]) hx hb dX6_lookUp_58 hl (k := 2) rfl rfl (by decide) rfl (fun ls hl => ?_)
          refine lv_goto (tgt := 13) hx hb dX6_lookUp_61 (by decide) ?_
          rw [show nI (4 * i) + (-4) = nI (4 * i) - 4 from (Int32.sub_eq_add_neg _ _).symm] at hl
          exact ih13 (i, f9, Mc1) _ _ _ ⟨by omega, okL_1 hR6 hc9 (by omega) hd9 hd8 hde9 hf9, ⟨_, _, _, _, _, _, _, fcn, fia, fdr, fen, fla, fwo, fop, fmk, fir_2, fse, fec, flc, fol, fal, fwc, hap, kmo_2, hmd, ⟨hrC, hrL, hrM⟩, kcn_2, kia_2, kdr_2, ken_2, kla_2, kwo_2, kop_2, kmk_2, hir_2, kse_2, kec_2, klc_2, kwc_2, kol_2, kal_2⟩, hkp, hm, hS, lv_sub hl [0, 1, 3, 4, 5] rfl⟩ (by show i < i + 1; omega)

set_option maxHeartbeats 4000000 in
set_option maxRecDepth 100000 in
theorem y_X6_lookUpSilently (l : Launch) (D : va_G) (k : Nat → ClassId) (z : Nat) (M : mM) (mo cn ia dr en la wo op mk ir se ec lc wc ol al : Nat) (dn md : Int32)  (t9 : Nat) (ht9 : t9 < 6) (path : Int32) (hP9 : isP path) (g7 a7 e7 : Nat → Int32) (u7 : Nat) (hR : rw3 k M cn ia en (2 + 5 * t9) g7 a7 e7 u7) (c9 : Nat → Nat) (hC9 : okc a7 e7 (2 + 5 * t9) u7 path c9 0) (hI : mI k M mo cn ia dr en la wo op mk ir se ec lc wc ol al dn md) : mK l yX6_lookUpSilently wsX6_lookUpSilently ({ frames := 1, cells := 0, slots := 0, locals := 24 }) D k z [.ref mo, .int (nI t9), .int (path >>> (4 &&& 31))] M (fun v M' => (v = some (.int (nI (c9 1)))) ∧ M' = M) := by
  refine Met.ofW (cc := cX6_lookUpSilently) (maxL := 6) (ret := (some .int)) (by decide) rfl ?_
  intro p e s m args below meth c s₁ B hml hv
  obtain ⟨rfl, hz, hcx, hm⟩ := hv
  have hx := B.exec
  have hb := B.bytes
  have hr := B.returns
  have hts := atoms_spec (ws := wsX6_lookUpSilently) B.pre
  have hown : s.vm.findClass RX6 = some m.cls := findClass_of_methodNamed B.named
  have hlocks := B.notSynchronized
  have hK := hcx.1
  have hS : va_S (AZ z) s.heap s.heap [] := va_S.rf
  have hA : ∀ q, s.heap.size ≤ q → AZ z q := fun q h => Nat.le_trans hz h
  have hl := lv_entry ([.ref mo, .int (nI t9), .int (path >>> (4 &&& 31))]) (n := 6) (Nat.le_of_ble_eq_true rfl)
  rw [lg_entry_eq]
  generalize (lg_sl ([.ref mo, .int (nI t9), .int (path >>> (4 &&& 31))]) ++ List.replicate (6 - (lg_sl ([.ref mo, .int (nI t9), .int (path >>> (4 &&& 31))])).length) Slot.unset).toArray = ls at hl ⊢
  have hl : lv_has ls 6 [(0, .ref mo), (1, .int (nI t9)), (2, .int (path >>> (4 &&& 31)))] := hl
  have f21 := hts (.fieldLink RX6 21 "CommitTreeModel" "entries" "[I") (by decide +kernel)
  have wX6 : ∀ w ∈ wsX60, w ∈ wsX6_lookUpSilently := by decide +kernel
  obtain ⟨cd, ni, pw, cm, wr, cs, hm9, fcn, fia, fdr, fen, fla, fwo, fop, fmk, fir, fse, fec, flc, fol, fal, fwc, hap, hM, hmd, ⟨hrC, hrL, hrM⟩, hcn, hia, hdr, hen, hla, hwo, hop, hmk, hir, hse, hec, hlc, hwc, hol, hal⟩ := id hI
  have ne_mo_cn : nq mo cn := pw_ne hap 0 1 (by decide) (Nat.le_of_ble_eq_true rfl)
  have ne_cn_mo : nq cn mo := Ne.symm ne_mo_cn
  have ne_mo_ia : nq mo ia := pw_ne hap 0 2 (by decide) (Nat.le_of_ble_eq_true rfl)
  have ne_ia_mo : nq ia mo := Ne.symm ne_mo_ia
  have ne_mo_dr : nq mo dr := pw_ne hap 0 3 (by decide) (Nat.le_of_ble_eq_true rfl)
  have ne_dr_mo : nq dr mo := Ne.symm ne_mo_dr
  have ne_mo_en : nq mo en := pw_ne hap 0 4 (by decide) (Nat.le_of_ble_eq_true rfl)
  have ne_en_mo : nq en mo := Ne.symm ne_mo_en
  have ne_mo_la : nq mo la := pw_ne hap 0 5 (by decide) (Nat.le_of_ble_eq_true rfl)
  have ne_la_mo : nq la mo := Ne.symm ne_mo_la
  have ne_mo_wo : nq mo wo := pw_ne hap 0 6 (by decide) (Nat.le_of_ble_eq_true rfl)
  have ne_wo_mo : nq wo mo := Ne.symm ne_mo_wo
  have ne_mo_op : nq mo op := pw_ne hap 0 7 (by decide) (Nat.le_of_ble_eq_true rfl)
  have ne_op_mo : nq op mo := Ne.symm ne_mo_op
  have ne_mo_mk : nq mo mk := pw_ne hap 0 8 (by decide) (Nat.le_of_ble_eq_true rfl)
  have ne_mk_mo : nq mk mo := Ne.symm ne_mo_mk
  have ne_mo_ir : nq mo ir := pw_ne hap 0 9 (by decide) (Nat.le_of_ble_eq_true rfl)
  have ne_ir_mo : nq ir mo := Ne.symm ne_mo_ir
  have ne_mo_se : nq mo se := pw_ne hap 0 10 (by decide) (Nat.le_of_ble_eq_true rfl)
  have ne_se_mo : nq se mo := Ne.symm ne_mo_se
  have ne_mo_ec : nq mo ec := pw_ne hap 0 11 (by decide) (Nat.le_of_ble_eq_true rfl)
  have ne_ec_mo : nq ec mo := Ne.symm ne_mo_ec
  have ne_mo_lc : nq mo lc := pw_ne hap 0 12 (by decide) (Nat.le_of_ble_eq_true rfl)
  have ne_lc_mo : nq lc mo := Ne.symm ne_mo_lc
  have ne_mo_wc : nq mo wc := pw_ne hap 0 13 (by decide) (Nat.le_of_ble_eq_true rfl)
  have ne_wc_mo : nq wc mo := Ne.symm ne_mo_wc
  have ne_mo_ol : nq mo ol := pw_ne hap 0 14 (by decide) (Nat.le_of_ble_eq_true rfl)
  have ne_ol_mo : nq ol mo := Ne.symm ne_mo_ol
  have ne_mo_al : nq mo al := pw_ne hap 0 15 (by decide) (Nat.le_of_ble_eq_true rfl)
  have ne_al_mo : nq al mo := Ne.symm ne_mo_al
  have ne_cn_ia : nq cn ia := pw_ne hap 1 2 (by decide) (Nat.le_of_ble_eq_true rfl)
  have ne_ia_cn : nq ia cn := Ne.symm ne_cn_ia
  have ne_cn_dr : nq cn dr := pw_ne hap 1 3 (by decide) (Nat.le_of_ble_eq_true rfl)
  have ne_dr_cn : nq dr cn := Ne.symm ne_cn_dr
  have ne_cn_en : nq cn en := pw_ne hap 1 4 (by decide) (Nat.le_of_ble_eq_true rfl)
  have ne_en_cn : nq en cn := Ne.symm ne_cn_en
  have ne_cn_la : nq cn la := pw_ne hap 1 5 (by decide) (Nat.le_of_ble_eq_true rfl)
  have ne_la_cn : nq la cn := Ne.symm ne_cn_la
  have ne_cn_wo : nq cn wo := pw_ne hap 1 6 (by decide) (Nat.le_of_ble_eq_true rfl)
  have ne_wo_cn : nq wo cn := Ne.symm ne_cn_wo
  have ne_cn_op : nq cn op := pw_ne hap 1 7 (by decide) (Nat.le_of_ble_eq_true rfl)
  have ne_op_cn : nq op cn := Ne.symm ne_cn_op
  have ne_cn_mk : nq cn mk := pw_ne hap 1 8 (by decide) (Nat.le_of_ble_eq_true rfl)
  have ne_mk_cn : nq mk cn := Ne.symm ne_cn_mk
  have ne_cn_ir : nq cn ir := pw_ne hap 1 9 (by decide) (Nat.le_of_ble_eq_true rfl)
  have ne_ir_cn : nq ir cn := Ne.symm ne_cn_ir
  have ne_cn_se : nq cn se := pw_ne hap 1 10 (by decide) (Nat.le_of_ble_eq_true rfl)
  have ne_se_cn : nq se cn := Ne.symm ne_cn_se
  have ne_cn_ec : nq cn ec := pw_ne hap 1 11 (by decide) (Nat.le_of_ble_eq_true rfl)
  have ne_ec_cn : nq ec cn := Ne.symm ne_cn_ec
  have ne_cn_lc : nq cn lc := pw_ne hap 1 12 (by decide) (Nat.le_of_ble_eq_true rfl)
  have ne_lc_cn : nq lc cn := Ne.symm ne_cn_lc
  have ne_cn_wc : nq cn wc := pw_ne hap 1 13 (by decide) (Nat.le_of_ble_eq_true rfl)
  have ne_wc_cn : nq wc cn := Ne.symm ne_cn_wc
  have ne_cn_ol : nq cn ol := pw_ne hap 1 14 (by decide) (Nat.le_of_ble_eq_true rfl)
  have ne_ol_cn : nq ol cn := Ne.symm ne_cn_ol
  have ne_cn_al : nq cn al := pw_ne hap 1 15 (by decide) (Nat.le_of_ble_eq_true rfl)
  have ne_al_cn : nq al cn := Ne.symm ne_cn_al
  have ne_ia_dr : nq ia dr := pw_ne hap 2 3 (by decide) (Nat.le_of_ble_eq_true rfl)
  have ne_dr_ia : nq dr ia := Ne.symm ne_ia_dr
  have ne_ia_en : nq ia en := pw_ne hap 2 4 (by decide) (Nat.le_of_ble_eq_true rfl)
  have ne_en_ia : nq en ia := Ne.symm ne_ia_en
  have ne_ia_la : nq ia la := pw_ne hap 2 5 (by decide) (Nat.le_of_ble_eq_true rfl)
  have ne_la_ia : nq la ia := Ne.symm ne_ia_la
  have ne_ia_wo : nq ia wo := pw_ne hap 2 6 (by decide) (Nat.le_of_ble_eq_true rfl)
  have ne_wo_ia : nq wo ia := Ne.symm ne_ia_wo
  have ne_ia_op : nq ia op := pw_ne hap 2 7 (by decide) (Nat.le_of_ble_eq_true rfl)
  have ne_op_ia : nq op ia := Ne.symm ne_ia_op
  have ne_ia_mk : nq ia mk := pw_ne hap 2 8 (by decide) (Nat.le_of_ble_eq_true rfl)
  have ne_mk_ia : nq mk ia := Ne.symm ne_ia_mk
  have ne_ia_ir : nq ia ir := pw_ne hap 2 9 (by decide) (Nat.le_of_ble_eq_true rfl)
  have ne_ir_ia : nq ir ia := Ne.symm ne_ia_ir
  have ne_ia_se : nq ia se := pw_ne hap 2 10 (by decide) (Nat.le_of_ble_eq_true rfl)
  have ne_se_ia : nq se ia := Ne.symm ne_ia_se
  have ne_ia_ec : nq ia ec := pw_ne hap 2 11 (by decide) (Nat.le_of_ble_eq_true rfl)
  have ne_ec_ia : nq ec ia := Ne.symm ne_ia_ec
  have ne_ia_lc : nq ia lc := pw_ne hap 2 12 (by decide) (Nat.le_of_ble_eq_true rfl)
  have ne_lc_ia : nq lc ia := Ne.symm ne_ia_lc
  have ne_ia_wc : nq ia wc := pw_ne hap 2 13 (by decide) (Nat.le_of_ble_eq_true rfl)
  have ne_wc_ia : nq wc ia := Ne.symm ne_ia_wc
  have ne_ia_ol : nq ia ol := pw_ne hap 2 14 (by decide) (Nat.le_of_ble_eq_true rfl)
  have ne_ol_ia : nq ol ia := Ne.symm ne_ia_ol
  have ne_ia_al : nq ia al := pw_ne hap 2 15 (by decide) (Nat.le_of_ble_eq_true rfl)
  have ne_al_ia : nq al ia := Ne.symm ne_ia_al
  have ne_dr_en : nq dr en := pw_ne hap 3 4 (by decide) (Nat.le_of_ble_eq_true rfl)
  have ne_en_dr : nq en dr := Ne.symm ne_dr_en
  have ne_dr_la : nq dr la := pw_ne hap 3 5 (by decide) (Nat.le_of_ble_eq_true rfl)
  have ne_la_dr : nq la dr := Ne.symm ne_dr_la
  have ne_dr_wo : nq dr wo := pw_ne hap 3 6 (by decide) (Nat.le_of_ble_eq_true rfl)
  have ne_wo_dr : nq wo dr := Ne.symm ne_dr_wo
  have ne_dr_op : nq dr op := pw_ne hap 3 7 (by decide) (Nat.le_of_ble_eq_true rfl)
  have ne_op_dr : nq op dr := Ne.symm ne_dr_op
  have ne_dr_mk : nq dr mk := pw_ne hap 3 8 (by decide) (Nat.le_of_ble_eq_true rfl)
  have ne_mk_dr : nq mk dr := Ne.symm ne_dr_mk
  have ne_dr_ir : nq dr ir := pw_ne hap 3 9 (by decide) (Nat.le_of_ble_eq_true rfl)
  have ne_ir_dr : nq ir dr := Ne.symm ne_dr_ir
  have ne_dr_se : nq dr se := pw_ne hap 3 10 (by decide) (Nat.le_of_ble_eq_true rfl)
  have ne_se_dr : nq se dr := Ne.symm ne_dr_se
  have ne_dr_ec : nq dr ec := pw_ne hap 3 11 (by decide) (Nat.le_of_ble_eq_true rfl)
  have ne_ec_dr : nq ec dr := Ne.symm ne_dr_ec
  have ne_dr_lc : nq dr lc := pw_ne hap 3 12 (by decide) (Nat.le_of_ble_eq_true rfl)
  have ne_lc_dr : nq lc dr := Ne.symm ne_dr_lc
  have ne_dr_wc : nq dr wc := pw_ne hap 3 13 (by decide) (Nat.le_of_ble_eq_true rfl)
  have ne_wc_dr : nq wc dr := Ne.symm ne_dr_wc
  have ne_dr_ol : nq dr ol := pw_ne hap 3 14 (by decide) (Nat.le_of_ble_eq_true rfl)
  have ne_ol_dr : nq ol dr := Ne.symm ne_dr_ol
  have ne_dr_al : nq dr al := pw_ne hap 3 15 (by decide) (Nat.le_of_ble_eq_true rfl)
  have ne_al_dr : nq al dr := Ne.symm ne_dr_al
  have ne_en_la : nq en la := pw_ne hap 4 5 (by decide) (Nat.le_of_ble_eq_true rfl)
  have ne_la_en : nq la en := Ne.symm ne_en_la
  have ne_en_wo : nq en wo := pw_ne hap 4 6 (by decide) (Nat.le_of_ble_eq_true rfl)
  have ne_wo_en : nq wo en := Ne.symm ne_en_wo
  have ne_en_op : nq en op := pw_ne hap 4 7 (by decide) (Nat.le_of_ble_eq_true rfl)
  have ne_op_en : nq op en := Ne.symm ne_en_op
  have ne_en_mk : nq en mk := pw_ne hap 4 8 (by decide) (Nat.le_of_ble_eq_true rfl)
  have ne_mk_en : nq mk en := Ne.symm ne_en_mk
  have ne_en_ir : nq en ir := pw_ne hap 4 9 (by decide) (Nat.le_of_ble_eq_true rfl)
  have ne_ir_en : nq ir en := Ne.symm ne_en_ir
  have ne_en_se : nq en se := pw_ne hap 4 10 (by decide) (Nat.le_of_ble_eq_true rfl)
  have ne_se_en : nq se en := Ne.symm ne_en_se
  have ne_en_ec : nq en ec := pw_ne hap 4 11 (by decide) (Nat.le_of_ble_eq_true rfl)
  have ne_ec_en : nq ec en := Ne.symm ne_en_ec
  have ne_en_lc : nq en lc := pw_ne hap 4 12 (by decide) (Nat.le_of_ble_eq_true rfl)
  have ne_lc_en : nq lc en := Ne.symm ne_en_lc
  have ne_en_wc : nq en wc := pw_ne hap 4 13 (by decide) (Nat.le_of_ble_eq_true rfl)
  have ne_wc_en : nq wc en := Ne.symm ne_en_wc
  have ne_en_ol : nq en ol := pw_ne hap 4 14 (by decide) (Nat.le_of_ble_eq_true rfl)
  have ne_ol_en : nq ol en := Ne.symm ne_en_ol
  have ne_en_al : nq en al := pw_ne hap 4 15 (by decide) (Nat.le_of_ble_eq_true rfl)
  have ne_al_en : nq al en := Ne.symm ne_en_al
  have ne_la_wo : nq la wo := pw_ne hap 5 6 (by decide) (Nat.le_of_ble_eq_true rfl)
  have ne_wo_la : nq wo la := Ne.symm ne_la_wo
  have ne_la_op : nq la op := pw_ne hap 5 7 (by decide) (Nat.le_of_ble_eq_true rfl)
  have ne_op_la : nq op la := Ne.symm ne_la_op
  have ne_la_mk : nq la mk := pw_ne hap 5 8 (by decide) (Nat.le_of_ble_eq_true rfl)
  have ne_mk_la : nq mk la := Ne.symm ne_la_mk
  have ne_la_ir : nq la ir := pw_ne hap 5 9 (by decide) (Nat.le_of_ble_eq_true rfl)
  have ne_ir_la : nq ir la := Ne.symm ne_la_ir
  have ne_la_se : nq la se := pw_ne hap 5 10 (by decide) (Nat.le_of_ble_eq_true rfl)
  have ne_se_la : nq se la := Ne.symm ne_la_se
  have ne_la_ec : nq la ec := pw_ne hap 5 11 (by decide) (Nat.le_of_ble_eq_true rfl)
  have ne_ec_la : nq ec la := Ne.symm ne_la_ec
  have ne_la_lc : nq la lc := pw_ne hap 5 12 (by decide) (Nat.le_of_ble_eq_true rfl)
  have ne_lc_la : nq lc la := Ne.symm ne_la_lc
  have ne_la_wc : nq la wc := pw_ne hap 5 13 (by decide) (Nat.le_of_ble_eq_true rfl)
  have ne_wc_la : nq wc la := Ne.symm ne_la_wc
  have ne_la_ol : nq la ol := pw_ne hap 5 14 (by decide) (Nat.le_of_ble_eq_true rfl)
  have ne_ol_la : nq ol la := Ne.symm ne_la_ol
  have ne_la_al : nq la al := pw_ne hap 5 15 (by decide) (Nat.le_of_ble_eq_true rfl)
  have ne_al_la : nq al la := Ne.symm ne_la_al
  have ne_wo_op : nq wo op := pw_ne hap 6 7 (by decide) (Nat.le_of_ble_eq_true rfl)
  have ne_op_wo : nq op wo := Ne.symm ne_wo_op
  have ne_wo_mk : nq wo mk := pw_ne hap 6 8 (by decide) (Nat.le_of_ble_eq_true rfl)
  have ne_mk_wo : nq mk wo := Ne.symm ne_wo_mk
  have ne_wo_ir : nq wo ir := pw_ne hap 6 9 (by decide) (Nat.le_of_ble_eq_true rfl)
  have ne_ir_wo : nq ir wo := Ne.symm ne_wo_ir
  have ne_wo_se : nq wo se := pw_ne hap 6 10 (by decide) (Nat.le_of_ble_eq_true rfl)
  have ne_se_wo : nq se wo := Ne.symm ne_wo_se
  have ne_wo_ec : nq wo ec := pw_ne hap 6 11 (by decide) (Nat.le_of_ble_eq_true rfl)
  have ne_ec_wo : nq ec wo := Ne.symm ne_wo_ec
  have ne_wo_lc : nq wo lc := pw_ne hap 6 12 (by decide) (Nat.le_of_ble_eq_true rfl)
  have ne_lc_wo : nq lc wo := Ne.symm ne_wo_lc
  have ne_wo_wc : nq wo wc := pw_ne hap 6 13 (by decide) (Nat.le_of_ble_eq_true rfl)
  have ne_wc_wo : nq wc wo := Ne.symm ne_wo_wc
  have ne_wo_ol : nq wo ol := pw_ne hap 6 14 (by decide) (Nat.le_of_ble_eq_true rfl)
  have ne_ol_wo : nq ol wo := Ne.symm ne_wo_ol
  have ne_wo_al : nq wo al := pw_ne hap 6 15 (by decide) (Nat.le_of_ble_eq_true rfl)
  have ne_al_wo : nq al wo := Ne.symm ne_wo_al
  have ne_op_mk : nq op mk := pw_ne hap 7 8 (by decide) (Nat.le_of_ble_eq_true rfl)
  have ne_mk_op : nq mk op := Ne.symm ne_op_mk
  have ne_op_ir : nq op ir := pw_ne hap 7 9 (by decide) (Nat.le_of_ble_eq_true rfl)
  have ne_ir_op : nq ir op := Ne.symm ne_op_ir
  have ne_op_se : nq op se := pw_ne hap 7 10 (by decide) (Nat.le_of_ble_eq_true rfl)
  have ne_se_op : nq se op := Ne.symm ne_op_se
  have ne_op_ec : nq op ec := pw_ne hap 7 11 (by decide) (Nat.le_of_ble_eq_true rfl)
  have ne_ec_op : nq ec op := Ne.symm ne_op_ec
  have ne_op_lc : nq op lc := pw_ne hap 7 12 (by decide) (Nat.le_of_ble_eq_true rfl)
  have ne_lc_op : nq lc op := Ne.symm ne_op_lc
  have ne_op_wc : nq op wc := pw_ne hap 7 13 (by decide) (Nat.le_of_ble_eq_true rfl)
  have ne_wc_op : nq wc op := Ne.symm ne_op_wc
  have ne_op_ol : nq op ol := pw_ne hap 7 14 (by decide) (Nat.le_of_ble_eq_true rfl)
  have ne_ol_op : nq ol op := Ne.symm ne_op_ol
  have ne_op_al : nq op al := pw_ne hap 7 15 (by decide) (Nat.le_of_ble_eq_true rfl)
  have ne_al_op : nq al op := Ne.symm ne_op_al
  have ne_mk_ir : nq mk ir := pw_ne hap 8 9 (by decide) (Nat.le_of_ble_eq_true rfl)
  have ne_ir_mk : nq ir mk := Ne.symm ne_mk_ir
  have ne_mk_se : nq mk se := pw_ne hap 8 10 (by decide) (Nat.le_of_ble_eq_true rfl)
  have ne_se_mk : nq se mk := Ne.symm ne_mk_se
  have ne_mk_ec : nq mk ec := pw_ne hap 8 11 (by decide) (Nat.le_of_ble_eq_true rfl)
  have ne_ec_mk : nq ec mk := Ne.symm ne_mk_ec
  have ne_mk_lc : nq mk lc := pw_ne hap 8 12 (by decide) (Nat.le_of_ble_eq_true rfl)
  have ne_lc_mk : nq lc mk := Ne.symm ne_mk_lc
  have ne_mk_wc : nq mk wc := pw_ne hap 8 13 (by decide) (Nat.le_of_ble_eq_true rfl)
  have ne_wc_mk : nq wc mk := Ne.symm ne_mk_wc
  have ne_mk_ol : nq mk ol := pw_ne hap 8 14 (by decide) (Nat.le_of_ble_eq_true rfl)
  have ne_ol_mk : nq ol mk := Ne.symm ne_mk_ol
  have ne_mk_al : nq mk al := pw_ne hap 8 15 (by decide) (Nat.le_of_ble_eq_true rfl)
  have ne_al_mk : nq al mk := Ne.symm ne_mk_al
  have ne_ir_se : nq ir se := pw_ne hap 9 10 (by decide) (Nat.le_of_ble_eq_true rfl)
  have ne_se_ir : nq se ir := Ne.symm ne_ir_se
  have ne_ir_ec : nq ir ec := pw_ne hap 9 11 (by decide) (Nat.le_of_ble_eq_true rfl)
  have ne_ec_ir : nq ec ir := Ne.symm ne_ir_ec
  have ne_ir_lc : nq ir lc := pw_ne hap 9 12 (by decide) (Nat.le_of_ble_eq_true rfl)
  have ne_lc_ir : nq lc ir := Ne.symm ne_ir_lc
  have ne_ir_wc : nq ir wc := pw_ne hap 9 13 (by decide) (Nat.le_of_ble_eq_true rfl)
  have ne_wc_ir : nq wc ir := Ne.symm ne_ir_wc
  have ne_ir_ol : nq ir ol := pw_ne hap 9 14 (by decide) (Nat.le_of_ble_eq_true rfl)
  have ne_ol_ir : nq ol ir := Ne.symm ne_ir_ol
  have ne_ir_al : nq ir al := pw_ne hap 9 15 (by decide) (Nat.le_of_ble_eq_true rfl)
  have ne_al_ir : nq al ir := Ne.symm ne_ir_al
  have ne_se_ec : nq se ec := pw_ne hap 10 11 (by decide) (Nat.le_of_ble_eq_true rfl)
  have ne_ec_se : nq ec se := Ne.symm ne_se_ec
  have ne_se_lc : nq se lc := pw_ne hap 10 12 (by decide) (Nat.le_of_ble_eq_true rfl)
  have ne_lc_se : nq lc se := Ne.symm ne_se_lc
  have ne_se_wc : nq se wc := pw_ne hap 10 13 (by decide) (Nat.le_of_ble_eq_true rfl)
  have ne_wc_se : nq wc se := Ne.symm ne_se_wc
  have ne_se_ol : nq se ol := pw_ne hap 10 14 (by decide) (Nat.le_of_ble_eq_true rfl)
  have ne_ol_se : nq ol se := Ne.symm ne_se_ol
  have ne_se_al : nq se al := pw_ne hap 10 15 (by decide) (Nat.le_of_ble_eq_true rfl)
  have ne_al_se : nq al se := Ne.symm ne_se_al
  have ne_ec_lc : nq ec lc := pw_ne hap 11 12 (by decide) (Nat.le_of_ble_eq_true rfl)
  have ne_lc_ec : nq lc ec := Ne.symm ne_ec_lc
  have ne_ec_wc : nq ec wc := pw_ne hap 11 13 (by decide) (Nat.le_of_ble_eq_true rfl)
  have ne_wc_ec : nq wc ec := Ne.symm ne_ec_wc
  have ne_ec_ol : nq ec ol := pw_ne hap 11 14 (by decide) (Nat.le_of_ble_eq_true rfl)
  have ne_ol_ec : nq ol ec := Ne.symm ne_ec_ol
  have ne_ec_al : nq ec al := pw_ne hap 11 15 (by decide) (Nat.le_of_ble_eq_true rfl)
  have ne_al_ec : nq al ec := Ne.symm ne_ec_al
  have ne_lc_wc : nq lc wc := pw_ne hap 12 13 (by decide) (Nat.le_of_ble_eq_true rfl)
  have ne_wc_lc : nq wc lc := Ne.symm ne_lc_wc
  have ne_lc_ol : nq lc ol := pw_ne hap 12 14 (by decide) (Nat.le_of_ble_eq_true rfl)
  have ne_ol_lc : nq ol lc := Ne.symm ne_lc_ol
  have ne_lc_al : nq lc al := pw_ne hap 12 15 (by decide) (Nat.le_of_ble_eq_true rfl)
  have ne_al_lc : nq al lc := Ne.symm ne_lc_al
  have ne_wc_ol : nq wc ol := pw_ne hap 13 14 (by decide) (Nat.le_of_ble_eq_true rfl)
  have ne_ol_wc : nq ol wc := Ne.symm ne_wc_ol
  have ne_wc_al : nq wc al := pw_ne hap 13 15 (by decide) (Nat.le_of_ble_eq_true rfl)
  have ne_al_wc : nq al wc := Ne.symm ne_wc_al
  have ne_ol_al : nq ol al := pw_ne hap 14 15 (by decide) (Nat.le_of_ble_eq_true rfl)
  have ne_al_ol : nq al ol := Ne.symm ne_ol_al
  obtain ⟨hR1, hR2, hR3, hRu, hR6⟩ := hR
  have hge : fcn = g7 := by
    have h9 := hR1.symm.trans hcn
    cases h9; rfl
  have hae : fia = a7 := by
    have h9 := hR2.symm.trans hia
    cases h9; rfl
  have hee : fen = e7 := by
    have h9 := hR3.symm.trans hen
    cases h9; rfl
  subst hge
  subst hae
  subst hee
  refine lv_bipush (v := 100) hx hb dX6_lookUpSilently_0 (by decide) ?_
  refine lv_aload_n hx hb dX6_lookUpSilently_2 rfl (lv_at hl 0 rfl) ?_
  refine lv_iload_n hx hb dX6_lookUpSilently_3 rfl (lv_at hl 1 rfl) ?_
  have hI0 : mI k M mo cn ia dr en la wo op mk ir se ec lc wc ol al dn md := ⟨_, _, _, _, _, _, _, fcn, fia, fdr, fen, fla, fwo, fop, fmk, fir, fse, fec, flc, fol, fal, fwc, hap, hM, hmd, ⟨hrC, hrL, hrM⟩, hcn, hia, hdr, hen, hla, hwo, hop, hmk, hir, hse, hec, hlc, hwc, hol, hal⟩
  refine m_kV (As := [.int (nI t9)]) (rest := [.int 100]) (rm := { frames := 0, cells := 0, slots := 0, locals := 0 }) ⟨hx, hb, hml, hown, hts⟩ (s_X6_tree l D k z _ mo cn ia dr en la wo op mk ir se ec lc wc ol al dn md t9 (by omega) hI0) (cwV 1 hts gX6_lookUpSilently_X6_tree rfl rfl rfl (by decide +kernel) ⟨Nat.le_of_ble_eq_true rfl, Nat.le_of_ble_eq_true rfl⟩) (m_recv hK hm (q := (RX6, TX6, 24)) rfl hM) hz hcx hm hS rfl hl.1 rfl (Nat.le_of_ble_eq_true rfl) dX6_lookUpSilently_4 ⟨Nat.le_of_ble_eq_true rfl, Nat.le_of_ble_eq_true rfl⟩ (fun v M1 H locs hv hm hS => ?_)
  obtain ⟨hv1, hM1⟩ := hv
  subst hv1
  rw [hM1] at hm
  refine W.eq (g2 := F0 m 7 ls [.int (nI (2 + 5 * t9)), .int 100]) rfl ?_
  refine W.widen (k := 0) (n := 0) (Nat.le_of_ble_eq_true rfl) (Nat.le_of_ble_eq_true rfl) ?_
  have hm : mm D (AZ z) M H := hm
  refine lv_imul hx hb dX6_lookUpSilently_7 ?_
  refine W.eq (g2 := F0 m 8 ls [.int (nI (100 * (2 + 5 * t9)))]) (by rw [show ((100) * ((nI (2 + 5 * t9))) : Int32) = nI (100 * (2 + 5 * t9)) from pk_mul 100 (2 + 5 * t9)]) ?_
  refine lv_istore_n (lv' := [(3, .int (nI (100 * (2 + 5 * t9)))), (0, .ref mo), (1, .int (nI t9)), (2, .int (path >>> (4 &&& 31)))]) hx hb dX6_lookUpSilently_8 rfl hl (by decide) rfl (fun ls hl => ?_)
  refine lv_bipush (v := 24) hx hb dX6_lookUpSilently_9 (by decide) ?_
  refine lv_istore (lv' := [(4, .int 24), (3, .int (nI (100 * (2 + 5 * t9)))), (0, .ref mo), (1, .int (nI t9)), (2, .int (path >>> (4 &&& 31)))]) hx hb dX6_lookUpSilently_11 hl (by decide) rfl (fun ls hl => ?_)
  refine W_loop (σ := Nat) (fun j H locs ls => (j ≤ 7) ∧ mm D (AZ z) M H ∧ va_S (AZ z) s.heap H locs ∧ lv_has ls 6 [(4, .int (nI (4 * j) - 4)), (3, .int (nI (c9 (jj j)))), (0, .ref mo), (1, .int (nI t9)), (2, .int (path >>> (4 &&& 31)))]) (fun j => j) (fun _ => 0) (fun _ => 0) ?_ 7 _ _ _ ⟨Nat.le_refl _, hm, hS, lv_sub hl [0, 1, 2, 3, 4] (by rw [show c9 (jj 7) = 100 * (2 + 5 * t9) from hC9.1]; rfl)⟩
  intro j H locs ls hQ ih13
  obtain ⟨hj, hm, hS, hl⟩ := hQ
  refine lv_iload hx hb dX6_lookUpSilently_13 (lv_at hl 0 rfl) ?_
  refine lv_if_lt (tgt := 64) hx hb dX6_lookUpSilently_15 (by decide) (fun c1 => ?_) (fun c1 => ?_)
  · refine lv_iload_n hx hb dX6_lookUpSilently_64 rfl (lv_at hl 1 rfl) ?_
    refine W.iret (v := (nI (c9 (jj j)))) hx hb hr (fun t ht hW => ⟨⟨some (.int (nI (c9 (jj j)))), _, rfl, ?_, by rw [ht]; exact hm⟩, hS.F ht⟩) hS.2.2 dX6_lookUpSilently_65
    cases j with
    | zero => exact ⟨rfl, rfl⟩
    | succ i => exact absurd c1 (by rw [show (4 : Int32) = nI 4 from rfl, pk_sub (a := 4 * (i + 1)) (b := 4) (by omega)]; exact nI_pos (n := 4 * (i + 1) - 4) (by omega))
  · obtain ⟨i, rfl⟩ : ∃ i, j = i + 1 := by
      cases j with
      | zero => exact absurd (by decide) c1
      | succ i => exact ⟨i, rfl⟩
    have hk9 : nI (4 * (i + 1)) - 4 = nI (4 * i) := by rw [show (4 : Int32) = nI 4 from rfl, pk_sub (by omega)]; congr 1
    rw [hk9] at hl
    have hcb := sil_b hC9 hj
    refine lv_iload_n hx hb dX6_lookUpSilently_18 rfl (lv_at hl 4 rfl) ?_
    refine lv_iload hx hb dX6_lookUpSilently_19 (lv_at hl 0 rfl) ?_
    refine lv_ishr hx hb dX6_lookUpSilently_21 ?_
    refine lv_bipush (v := 15) hx hb dX6_lookUpSilently_22 (by decide) ?_
    refine lv_iand hx hb dX6_lookUpSilently_24 ?_
    refine lv_istore (lv' := [(5, .int (((path >>> (4 &&& 31)) >>> ((nI (4 * i)) &&& 31)) &&& 15)), (4, .int (nI (4 * i))), (3, .int (nI (c9 (jj (i + 1))))), (0, .ref mo), (1, .int (nI t9)), (2, .int (path >>> (4 &&& 31)))]) hx hb dX6_lookUpSilently_25 hl (by decide) rfl (fun ls hl => ?_)
    refine lv_iload hx hb dX6_lookUpSilently_27 (lv_at hl 0 rfl) ?_
    refine lv_if_le (tgt := 56) hx hb dX6_lookUpSilently_29 (by decide) (fun c2 => ?_) (fun c2 => ?_)
    · refine lv_iload_n hx hb dX6_lookUpSilently_56 rfl (lv_at hl 2 rfl) ?_
      refine lv_istore_n (lv' := [(3, .int (nI (c9 (jj (i + 1))))), (5, .int (((path >>> (4 &&& 31)) >>> ((nI (4 * i)) &&& 31)) &&& 15)), (4, .int (nI (4 * i))), (0, .ref mo), (1, .int (nI t9)), (2, .int (path >>> (4 &&& 31)))]) hx hb dX6_lookUpSilently_57 rfl hl (by decide) rfl (fun ls hl => ?_)
      refine lv_iinc (v := ((nI (4 * i)) + (-4))) (lv' := [(4, .int ((nI (4 * i)) + (-4))), (3, .int (nI (c9 (jj (i + 1))))), (5, .int (((path >>> (4 &&& 31)) >>> ((nI (4 * i)) &&& 31)) &&& 15)), (0, .ref mo), (1, .int (nI t9)), (2, .int (path >>> (4 &&& 31)))]) hx hb dX6_lookUpSilently_58 hl (k := 2) rfl rfl (by decide) rfl (fun ls hl => ?_)
      refine lv_goto (tgt := 13) hx hb dX6_lookUpSilently_61 (by decide) ?_
      rw [show nI (4 * i) + (-4) = nI (4 * i) - 4 from (Int32.sub_eq_add_neg _ _).symm] at hl
      rw [sil_0 hC9 hP9 (by omega) c2] at hl
      exact ih13 i _ _ _ ⟨by omega, hm, hS, lv_sub hl [0, 1, 3, 4, 5] rfl⟩ (by omega)
    · refine lv_aload_n hx hb dX6_lookUpSilently_32 rfl (lv_at hl 3 rfl) ?_
      refine lv_aload_n hx hb dX6_lookUpSilently_33 rfl (lv_at hl 3 rfl) ?_
      refine lv_iload_n hx hb dX6_lookUpSilently_34 rfl (lv_at hl 4 rfl) ?_
      have hI0 : mI k M mo cn ia dr en la wo op mk ir se ec lc wc ol al dn md := ⟨_, _, _, _, _, _, _, fcn, fia, fdr, fen, fla, fwo, fop, fmk, fir, fse, fec, flc, fol, fal, fwc, hap, hM, hmd, ⟨hrC, hrL, hrM⟩, hcn, hia, hdr, hen, hla, hwo, hop, hmk, hir, hse, hec, hlc, hwc, hol, hal⟩
      refine m_kV (As := [.int (nI t9)]) (rest := [.ref mo]) (rm := { frames := 0, cells := 0, slots := 0, locals := 0 }) ⟨hx, hb, hml, hown, hts⟩ (s_X6_tree l D k z _ mo cn ia dr en la wo op mk ir se ec lc wc ol al dn md t9 (by omega) hI0) (cwV 1 hts gX6_lookUpSilently_X6_tree rfl rfl rfl (by decide +kernel) ⟨Nat.le_of_ble_eq_true rfl, Nat.le_of_ble_eq_true rfl⟩) (m_recv hK hm (q := (RX6, TX6, 24)) rfl hM) hz hcx hm hS rfl hl.1 rfl (Nat.le_of_ble_eq_true rfl) dX6_lookUpSilently_35 ⟨Nat.le_of_ble_eq_true rfl, Nat.le_of_ble_eq_true rfl⟩ (fun v M1 H locs hv hm hS => ?_)
      obtain ⟨hv1, hM1⟩ := hv
      subst hv1
      rw [hM1] at hm
      refine W.eq (g2 := F0 m 38 ls [.int (nI (2 + 5 * t9)), .ref mo]) rfl ?_
      refine W.widen (k := 0) (n := 0) (Nat.le_of_ble_eq_true rfl) (Nat.le_of_ble_eq_true rfl) ?_
      have hm : mm D (AZ z) M H := hm
      refine lv_aload_n hx hb dX6_lookUpSilently_38 rfl (lv_at hl 3 rfl) ?_
      refine m_get (T := TX6) (N := 24) (ci := 6) (v := .ref en) hx hb hts wX6 hown hK hm hM rfl 4 (by decide) f21 (fun _ h9 => h9) rfl dX6_lookUpSilently_39 ?_
      refine lv_bipush (v := 16) hx hb dX6_lookUpSilently_42 (by decide) ?_
      refine lv_iload_n hx hb dX6_lookUpSilently_44 rfl (lv_at hl 2 rfl) ?_
      refine lv_imul hx hb dX6_lookUpSilently_45 ?_
      refine W.eq (g2 := F0 m 46 ls [.int (nI (16 * (c9 (jj (i + 1))))), .ref en, .int (nI (2 + 5 * t9)), .ref mo]) (by rw [show ((16) * ((nI (c9 (jj (i + 1))))) : Int32) = nI (16 * (c9 (jj (i + 1)))) from pk_mul 16 (c9 (jj (i + 1)))]) ?_
      refine lv_iload hx hb dX6_lookUpSilently_46 (lv_at hl 0 rfl) ?_
      obtain ⟨d9, hd8, hde⟩ := pk_andE ((path >>> (4 &&& 31)) >>> (nI (4 * i) &&& 31)) (m := 15) 4 (by decide)
      have hd9 : 1 ≤ d9 := Nat.pos_of_ne_zero fun q => c2 (by rw [hde, q]; decide)
      refine W.eq (g2 := F0 m 48 ls [.int (nI d9), .int (nI (16 * (c9 (jj (i + 1))))), .ref en, .int (nI (2 + 5 * t9)), .ref mo]) (by rw [hde]) ?_
      refine lv_iadd hx hb dX6_lookUpSilently_48 ?_
      refine W.eq (g2 := F0 m 49 ls [.int (nI ((16 * (c9 (jj (i + 1)))) + d9)), .ref en, .int (nI (2 + 5 * t9)), .ref mo]) (by rw [show (((nI (16 * (c9 (jj (i + 1)))))) + ((nI d9)) : Int32) = nI ((16 * (c9 (jj (i + 1)))) + d9) from nI_add (16 * (c9 (jj (i + 1)))) d9]) ?_
      refine m_iald hx hb hK hm 0 hen rfl (vp_in_nI (by omega) (by decide)) dX6_lookUpSilently_49 ?_
      have hI0 : mI k M mo cn ia dr en la wo op mk ir se ec lc wc ol al dn md := ⟨_, _, _, _, _, _, _, fcn, fia, fdr, fen, fla, fwo, fop, fmk, fir, fse, fec, flc, fol, fal, fwc, hap, hM, hmd, ⟨hrC, hrL, hrM⟩, hcn, hia, hdr, hen, hla, hwo, hop, hmk, hir, hse, hec, hlc, hwc, hol, hal⟩
      refine m_kV (As := [.int (nI (2 + 5 * t9)), .int (fen ((nI ((16 * (c9 (jj (i + 1)))) + d9))).toNatClampNeg)]) (rest := []) (rm := { frames := 0, cells := 0, slots := 0, locals := 0 }) ⟨hx, hb, hml, hown, hts⟩ (y_X6_find l D k z _ mo cn ia dr en la wo op mk ir se ec lc wc ol al dn md (2 + 5 * t9) (by omega) (fen ((nI ((16 * (c9 (jj (i + 1)))) + d9))).toNatClampNeg) fcn fia fen u7 ⟨hcn, hia, hen, hRu, hR6⟩ hI0) (cwV 2 hts gX6_lookUpSilently_X6_find rfl rfl rfl (by decide +kernel) ⟨Nat.le_of_ble_eq_true rfl, Nat.le_of_ble_eq_true rfl⟩) (m_recv hK hm (q := (RX6, TX6, 24)) rfl hM) hz hcx hm hS rfl hl.1 rfl (Nat.le_of_ble_eq_true rfl) dX6_lookUpSilently_50 ⟨Nat.le_of_ble_eq_true rfl, Nat.le_of_ble_eq_true rfl⟩ (fun v M1 H locs hv hm hS => ?_)
      obtain ⟨hv1, hM1⟩ := hv
      rw [hM1] at hm
      rw [nI_clamp (show 16 * c9 (jj (i + 1)) + d9 < 2147483648 by omega), sil_1 hC9 hP9 (by omega) hd9 hd8 hde] at hv1
      subst hv1
      refine W.eq (g2 := F0 m 53 ls [.int (nI (c9 (jj i)))]) rfl ?_
      refine W.widen (k := 0) (n := 0) (Nat.le_of_ble_eq_true rfl) (Nat.le_of_ble_eq_true rfl) ?_
      have hm : mm D (AZ z) M H := hm
      refine lv_goto (tgt := 57) hx hb dX6_lookUpSilently_53 (by decide) ?_
      refine lv_istore_n (lv' := [(3, .int (nI (c9 (jj i)))), (5, .int (((path >>> (4 &&& 31)) >>> ((nI (4 * i)) &&& 31)) &&& 15)), (4, .int (nI (4 * i))), (0, .ref mo), (1, .int (nI t9)), (2, .int (path >>> (4 &&& 31)))]) hx hb dX6_lookUpSilently_57 rfl hl (by decide) rfl (fun ls hl => ?_)
      refine lv_iinc (v := ((nI (4 * i)) + (-4))) (lv' := [(4, .int ((nI (4 * i)) + (-4))), (3, .int (nI (c9 (jj i)))), (5, .int (((path >>> (4 &&& 31)) >>> ((nI (4 * i)) &&& 31)) &&& 15)), (0, .ref mo), (1, .int (nI t9)), (2, .int (path >>> (4 &&& 31)))]) hx hb dX6_lookUpSilently_58 hl (k := 2) rfl rfl (by decide) rfl (fun ls hl => ?_)
      refine lv_goto (tgt := 13) hx hb dX6_lookUpSilently_61 (by decide) ?_
      rw [show nI (4 * i) + (-4) = nI (4 * i) - 4 from (Int32.sub_eq_add_neg _ _).symm] at hl
      exact ih13 i _ _ _ ⟨by omega, hm, hS, lv_sub hl [0, 1, 3, 4, 5] rfl⟩ (by omega)
