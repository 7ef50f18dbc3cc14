/-- Merge.mergedNode: the cell at i of the node as it comes; the first of them -/
def mgC (f tt : NV) (N : Nat) (dr sz : Int32) (g : Nat → Int32) (i : Nat) : Int32 := if dr = 0 ∧ ¬ nI i < sz then 0 else mergedV (ndc f (nI i)) (ndc tt (nI i)) (nd_cell N g (nI i))
def preF (c : Nat → Int32) (n : Nat) : Nat → Int32 := fun j => if j < n then c j else 0
theorem preF_0 (c : Nat → Int32) : preF c 0 = fun _ => 0 := by funext j; simp [preF]
theorem preF_v {c : Nat → Int32} {n : Nat} {v : Int32} (h : c n = v) : upd (preF c n) n v = preF c (n + 1) := by
  subst h
  funext j
  by_cases hj : j = n
  · subst hj; simp [upd, preF]
  · by_cases h2 : j < n
    · have h3 : j < n + 1 := by omega
      simp [upd, preF, hj, h2, h3]
    · have h3 : ¬ j < n + 1 := by omega
      simp [upd, preF, hj, h2, h3]

set_option maxHeartbeats 4000000 in
set_option maxRecDepth 100000 in
theorem c_X1_mergedNodeS (l : Launch) (D : va_G) (k : Nat → ClassId) (z : Nat) (M : mM) (fa na : Nat) : mK l yX1_mergedNode wsX1_mergedNode ({ frames := 2, cells := 2, slots := 68, locals := 40 }) D k z [.ref fa, .ref fa, .ref na] M (fun v M' => v = some (.ref na) ∧ M' = M) := by
  refine Met.ofW (cc := cX1_mergedNode) (maxL := 7) (ret := (some (.object "CommitTree$Node"))) (by decide) rfl ?_
  intro p e s m args below meth c s₁ B hml hv
  obtain ⟨rfl, hz, hcx, hm⟩ := hv
  have hx := B.exec
  have hb := B.bytes
  have hr := B.returns
  have hts := atoms_spec (ws := wsX1_mergedNode) B.pre
  have hown : s.vm.findClass RX1 = some m.cls := findClass_of_methodNamed B.named
  have hlocks := B.notSynchronized
  have hK := hcx.1
  have hS : va_S (AZ z) s.heap s.heap [] := va_S.rf
  have hA : ∀ q, s.heap.size ≤ q → AZ z q := fun q h => Nat.le_trans hz h
  have hl := lv_entry ([.ref fa, .ref fa, .ref na]) (n := 7) (Nat.le_of_ble_eq_true rfl)
  rw [lg_entry_eq]
  generalize (lg_sl ([.ref fa, .ref fa, .ref na]) ++ List.replicate (7 - (lg_sl ([.ref fa, .ref fa, .ref na])).length) Slot.unset).toArray = ls at hl ⊢
  have hl : lv_has ls 7 [(0, .ref fa), (1, .ref fa), (2, .ref na)] := hl
  have f46 := hts (.fieldLink RX1 46 "CommitTree$Node" "id" "I") (by decide +kernel)
  have f64 := hts (.fieldLink RX1 64 "CommitTree$Node" "directory" "Z") (by decide +kernel)
  have f68 := hts (.fieldLink RX1 68 "CommitTree$Node" "cells" "[I") (by decide +kernel)
  have f80 := hts (.fieldLink RX1 80 "CommitTree$Node" "size" "I") (by decide +kernel)
  have wX2 : ∀ w ∈ wsX20, w ∈ wsX1_mergedNode := by decide +kernel
  refine lv_aload_n hx hb dX1_mergedNode_0 rfl (lv_at hl 1 rfl) ?_
  refine lv_aload_n hx hb dX1_mergedNode_1 rfl (lv_at hl 0 rfl) ?_
  refine lv_acmp_ne (rx := some fa) (ry := some fa) (tgt := 7) hx hb dX1_mergedNode_2 (by decide) (fun c1 => ?_) (fun c1 => ?_)
  · exact absurd rfl c1
  · refine lv_aload_n hx hb dX1_mergedNode_5 rfl (lv_at hl 2 rfl) ?_
    refine W.widen (k := 2) (n := 68) (by omega) (by omega) ?_
    refine W.aret (v := .ref na) hx hb hr (Or.inl ⟨_, rfl⟩) (Or.inr ⟨_, rfl⟩) (fun t ht hW => ⟨⟨some (.ref na), _, rfl, ?_, by rw [ht]; exact hm⟩, hS.F ht⟩) hS.2.2 dX1_mergedNode_6
    exact ⟨rfl, rfl⟩

set_option maxHeartbeats 4000000 in
set_option maxRecDepth 100000 in
theorem c_X1_mergedNode1 (l : Launch) (D : va_G) (k : Nat → ClassId) (z : Nat) (M : mM) (fa ta na cna : Nat) (f tt : NV) (id sz : Int32) (g : Nat → Int32) (hne : ta ≠ fa) (hF : nodeAt k M fa f) (hT : nodeAt k M ta tt) (hnna : M na = some (.inr (2, [.int id, .int 1, .int sz, .ref cna]))) (hcna : M cna = some (.inl (k 0, 16, .inl g))) : mK l yX1_mergedNode wsX1_mergedNode ({ frames := 2, cells := 2, slots := 68, locals := 40 }) D k z [.ref fa, .ref ta, .ref na] M (fun v M' => ∃ q qa, M q = none ∧ M qa = none ∧ q ≠ qa ∧ v = some (.ref q) ∧ M' = mu (mu M qa (.inl (k 0, 16, .inl (preF (mgC f tt 16 1 (mergedV f.2.2.1 tt.2.2.1 sz) g) 16)))) q (.inr (2, [.int id, .int 1, .int (mergedV f.2.2.1 tt.2.2.1 sz), .ref qa]))) := by
  refine Met.ofW (cc := cX1_mergedNode) (maxL := 7) (ret := (some (.object "CommitTree$Node"))) (by decide) rfl ?_
  intro p e s m args below meth c s₁ B hml hv
  obtain ⟨rfl, hz, hcx, hm⟩ := hv
  have hx := B.exec
  have hb := B.bytes
  have hr := B.returns
  have hts := atoms_spec (ws := wsX1_mergedNode) B.pre
  have hown : s.vm.findClass RX1 = some m.cls := findClass_of_methodNamed B.named
  have hlocks := B.notSynchronized
  have hK := hcx.1
  have hS : va_S (AZ z) s.heap s.heap [] := va_S.rf
  have hA : ∀ q, s.heap.size ≤ q → AZ z q := fun q h => Nat.le_trans hz h
  have hl := lv_entry ([.ref fa, .ref ta, .ref na]) (n := 7) (Nat.le_of_ble_eq_true rfl)
  rw [lg_entry_eq]
  generalize (lg_sl ([.ref fa, .ref ta, .ref na]) ++ List.replicate (7 - (lg_sl ([.ref fa, .ref ta, .ref na])).length) Slot.unset).toArray = ls at hl ⊢
  have hl : lv_has ls 7 [(0, .ref fa), (1, .ref ta), (2, .ref na)] := hl
  have f46 := hts (.fieldLink RX1 46 "CommitTree$Node" "id" "I") (by decide +kernel)
  have f64 := hts (.fieldLink RX1 64 "CommitTree$Node" "directory" "Z") (by decide +kernel)
  have f68 := hts (.fieldLink RX1 68 "CommitTree$Node" "cells" "[I") (by decide +kernel)
  have f80 := hts (.fieldLink RX1 80 "CommitTree$Node" "size" "I") (by decide +kernel)
  have wX2 : ∀ w ∈ wsX20, w ∈ wsX1_mergedNode := by decide +kernel
  obtain ⟨hdf, cfa, hnfa, hcfa⟩ := And.intro hF.1 hF.2
  obtain ⟨hdt, cta, hnta, hcta⟩ := And.intro hT.1 hT.2
  refine lv_aload_n hx hb dX1_mergedNode_0 rfl (lv_at hl 1 rfl) ?_
  refine lv_aload_n hx hb dX1_mergedNode_1 rfl (lv_at hl 0 rfl) ?_
  refine lv_acmp_ne (rx := some ta) (ry := some fa) (tgt := 7) hx hb dX1_mergedNode_2 (by decide) (fun c1 => ?_) (fun c1 => ?_)
  · refine lv_aload_n hx hb dX1_mergedNode_7 rfl (lv_at hl 0 rfl) ?_
    refine m_get (T := TX2) (N := 4) (ci := 2) (v := .int f.2.2.1) hx hb hts wX2 hown hK hm hnfa rfl 2 (by decide) f80 (fun _ h9 => h9) rfl dX1_mergedNode_8 ?_
    refine lv_aload_n hx hb dX1_mergedNode_11 rfl (lv_at hl 1 rfl) ?_
    refine m_get (T := TX2) (N := 4) (ci := 2) (v := .int tt.2.2.1) hx hb hts wX2 hown hK hm hnta rfl 2 (by decide) f80 (fun _ h9 => h9) rfl dX1_mergedNode_12 ?_
    refine lv_aload_n hx hb dX1_mergedNode_15 rfl (lv_at hl 2 rfl) ?_
    refine m_get (T := TX2) (N := 4) (ci := 2) (v := .int sz) hx hb hts wX2 hown hK hm hnna rfl 2 (by decide) f80 (fun _ h9 => h9) rfl dX1_mergedNode_16 ?_
    refine m_kS (As := [.int f.2.2.1, .int tt.2.2.1, .int sz]) (rest := []) (rm := { frames := 0, cells := 0, slots := 0, locals := 0 }) ⟨hx, hb, hml, hown, hts⟩ (c_X1_merged l D k z _ f.2.2.1 tt.2.2.1 sz) (cwS 3 hts gX1_mergedNode_X1_merged rfl rfl rfl (by decide +kernel) ⟨Nat.le_of_ble_eq_true rfl, Nat.le_of_ble_eq_true rfl⟩) hz hcx hm hS rfl hl.1 rfl (Nat.le_of_ble_eq_true rfl) dX1_mergedNode_19 ⟨Nat.le_of_ble_eq_true rfl, Nat.le_of_ble_eq_true rfl⟩ (fun v M1 H locs hv hm hS => ?_)
    obtain ⟨rfl, hM1⟩ := hv
    rw [hM1] at hm
    refine W.eq (g2 := F0 m 22 ls [.int (mergedV f.2.2.1 tt.2.2.1 sz)]) rfl ?_
    refine W.widen (k := 0) (n := 0) (Nat.le_of_ble_eq_true rfl) (Nat.le_of_ble_eq_true rfl) ?_
    have hm : mm D (AZ z) M H := hm
    refine lv_istore_n (lv' := [(3, .int (mergedV f.2.2.1 tt.2.2.1 sz)), (0, .ref fa), (1, .ref ta), (2, .ref na)]) hx hb dX1_mergedNode_22 rfl hl (by decide) rfl (fun ls hl => ?_)
    refine lv_aload_n hx hb dX1_mergedNode_23 rfl (lv_at hl 3 rfl) ?_
    refine m_get (T := TX2) (N := 4) (ci := 2) (v := .ref cna) hx hb hts wX2 hown hK hm hnna rfl 3 (by decide) f68 (fun _ h9 => h9) rfl dX1_mergedNode_24 ?_
    refine m_alen hx hb hK hm 0 hcna rfl (v := nI 16) rfl dX1_mergedNode_27 ?_
    refine m_newa (atype := .int) hx hb (hts (.arrayClass .int) (by decide +kernel)) (ty := .int) rfl (fun C h => by cases h) hK 0 rfl hm hS hA (N' := 16) (a0 := (16, .inl (fun _ => 0))) (fun cA => vp_cell_i cA _ _) (by decide) rfl (by decide) (Nat.le_of_ble_eq_true rfl) (Nat.le_of_ble_eq_true rfl) dX1_mergedNode_28 (fun qa H hqa hm hS => ?_)
    refine W.widen (k := 1) (n := 16) (Nat.le_of_ble_eq_true rfl) (Nat.le_of_ble_eq_true rfl) ?_
    have ne_fa_qa : fa ≠ qa := m_fr hqa hnfa
    have ne_qa_fa : qa ≠ fa := Ne.symm ne_fa_qa
    have ne_ta_qa : ta ≠ qa := m_fr hqa hnta
    have ne_qa_ta : qa ≠ ta := Ne.symm ne_ta_qa
    have ne_cfa_qa : cfa ≠ qa := m_fr hqa hcfa
    have ne_qa_cfa : qa ≠ cfa := Ne.symm ne_cfa_qa
    have ne_cta_qa : cta ≠ qa := m_fr hqa hcta
    have ne_qa_cta : qa ≠ cta := Ne.symm ne_cta_qa
    have ne_na_qa : na ≠ qa := m_fr hqa hnna
    have ne_qa_na : qa ≠ na := Ne.symm ne_na_qa
    have ne_cna_qa : cna ≠ qa := m_fr hqa hcna
    have ne_qa_cna : qa ≠ cna := Ne.symm ne_cna_qa
    have hm : mm D (AZ z) (mu M qa (.inl (k 0, 16, .inl (fun _ => 0)))) H := hm
    refine lv_astore (lv' := [(4, .ref qa), (3, .int (mergedV f.2.2.1 tt.2.2.1 sz)), (0, .ref fa), (1, .ref ta), (2, .ref na)]) hx hb dX1_mergedNode_30 hl (by decide) rfl (fun ls hl => ?_)
    refine lv_iconst (v := 0) hx hb dX1_mergedNode_32 (by decide) ?_
    refine lv_istore (lv' := [(5, .int 0), (4, .ref qa), (3, .int (mergedV f.2.2.1 tt.2.2.1 sz)), (0, .ref fa), (1, .ref ta), (2, .ref na)]) hx hb dX1_mergedNode_33 hl (by decide) rfl (fun ls hl => ?_)
    rw [← preF_0 (mgC f tt 16 1 (mergedV f.2.2.1 tt.2.2.1 sz) g)] at hm
    refine W_loop (σ := Nat) (fun i H locs ls => (i ≤ 16) ∧ mm D (AZ z) (mu M qa (.inl (k 0, 16, .inl (preF (mgC f tt 16 1 (mergedV f.2.2.1 tt.2.2.1 sz) g) i)))) H ∧ va_S (AZ z) s.heap H locs ∧ lv_has ls 7 [(5, .int (nI i)), (0, .ref fa), (1, .ref ta), (2, .ref na), (3, .int (mergedV f.2.2.1 tt.2.2.1 sz)), (4, .ref qa)]) (fun i => 16 - i) (fun i => 1) (fun i => 16) ?_ 0 _ _ _ ⟨Nat.zero_le _, hm, hS, lv_sub hl [0, 3, 4, 5, 2, 1] rfl⟩
    intro i H locs ls hI ih35
    obtain ⟨hi, hm, hS, hl⟩ := hI
    try dsimp only at hm hl ih35 ⊢
    refine lv_iload hx hb dX1_mergedNode_35 (lv_at hl 0 rfl) ?_
    refine lv_aload hx hb dX1_mergedNode_37 (lv_at hl 5 rfl) ?_
    refine m_alen hx hb hK hm 0 (mu_self _ _ _) rfl (v := nI 16) rfl dX1_mergedNode_39 ?_
    refine lv_icmp_ge (tgt := 104) hx hb dX1_mergedNode_40 (by decide) (fun c3 => ?_) (fun c3 => ?_)
    · refine m_new (T := TX2) (N := 4) (ci := 2) (fs := [.int 0, .int 0, .int 0, .null]) hx hb hts wX2 tyX2 tyX2_ok hown (hts (.classLink RX1 25 RX2) (by decide +kernel)) (hts (.instantiable RX2 4) (by decide +kernel)) (hts (.initialized RX2) (by decide +kernel)) hK hm hS hA rfl (fun j hj => by rcases (show j = 0 ∨ j = 1 ∨ j = 2 ∨ j = 3 by omega) with rfl | rfl | rfl | rfl <;> rfl) (Nat.le_of_ble_eq_true rfl) (Nat.le_of_ble_eq_true rfl) dX1_mergedNode_104 (fun q H hq hm hS => ?_)
      refine W.widen (k := 2) (n := 20) (Nat.le_of_ble_eq_true rfl) (Nat.le_of_ble_eq_true rfl) ?_
      have ne_fa_q : fa ≠ q := m_fr hq ((mu_ne ne_fa_qa).trans hnfa)
      have ne_q_fa : q ≠ fa := Ne.symm ne_fa_q
      have ne_ta_q : ta ≠ q := m_fr hq ((mu_ne ne_ta_qa).trans hnta)
      have ne_q_ta : q ≠ ta := Ne.symm ne_ta_q
      have ne_cfa_q : cfa ≠ q := m_fr hq ((mu_ne ne_cfa_qa).trans hcfa)
      have ne_q_cfa : q ≠ cfa := Ne.symm ne_cfa_q
      have ne_cta_q : cta ≠ q := m_fr hq ((mu_ne ne_cta_qa).trans hcta)
      have ne_q_cta : q ≠ cta := Ne.symm ne_cta_q
      have ne_na_q : na ≠ q := m_fr hq ((mu_ne ne_na_qa).trans hnna)
      have ne_q_na : q ≠ na := Ne.symm ne_na_q
      have ne_cna_q : cna ≠ q := m_fr hq ((mu_ne ne_cna_qa).trans hcna)
      have ne_q_cna : q ≠ cna := Ne.symm ne_cna_q
      have ne_qa_q : qa ≠ q := m_fr hq (mu_self _ _ _)
      have ne_q_qa : q ≠ qa := Ne.symm ne_qa_q
      have hm : mm D (AZ z) (mu (mu M qa (.inl (k 0, 16, .inl (preF (mgC f tt 16 1 (mergedV f.2.2.1 tt.2.2.1 sz) g) i)))) q (.inr (2, [.int 0, .int 0, .int 0, .null]))) H := hm
      refine lv_dup hx hb dX1_mergedNode_107 rfl ?_
      refine lv_aload_n hx hb dX1_mergedNode_108 rfl (lv_at hl 3 rfl) ?_
      refine m_get (T := TX2) (N := 4) (ci := 2) (v := .int id) hx hb hts wX2 hown hK hm ((mu_ne ne_na_q).trans ((mu_ne ne_na_qa).trans hnna)) rfl 0 (by decide) f46 (fun _ h9 => h9) rfl dX1_mergedNode_109 ?_
      refine lv_aload_n hx hb dX1_mergedNode_112 rfl (lv_at hl 3 rfl) ?_
      refine m_get (T := TX2) (N := 4) (ci := 2) (v := .int 1) hx hb hts wX2 hown hK hm ((mu_ne ne_na_q).trans ((mu_ne ne_na_qa).trans hnna)) rfl 1 (by decide) f64 (fun _ h9 => h9) rfl dX1_mergedNode_113 ?_
      refine lv_iload_n hx hb dX1_mergedNode_116 rfl (lv_at hl 4 rfl) ?_
      refine lv_aload hx hb dX1_mergedNode_117 (lv_at hl 5 rfl) ?_
      refine m_kI (As := [.int id, .int 1, .int (mergedV f.2.2.1 tt.2.2.1 sz), .ref qa]) (rest := [.ref q]) (rm := { frames := 1, cells := 0, slots := 0, locals := 12 }) ⟨hx, hb, hml, hown, hts⟩ (c_X2_init l D k z _ q qa id 1 (mergedV f.2.2.1 tt.2.2.1 sz) (by decide) (mu_self _ _ _)) (cwI 4 hts gX1_mergedNode_X2_init rfl rfl rfl (hts (.initialized RX2) (by decide +kernel)) (hts (.methodLink RX1 103 yX2_init) (by decide +kernel)) (hts (.instanceMethod yX2_init) (by decide +kernel)) rfl (by decide +kernel) ⟨Nat.le_of_ble_eq_true rfl, Nat.le_of_ble_eq_true rfl⟩) hz hcx hm hS rfl hl.1 rfl (Nat.le_of_ble_eq_true rfl) dX1_mergedNode_119 ⟨Nat.le_of_ble_eq_true rfl, Nat.le_of_ble_eq_true rfl⟩ (fun v M1 H locs hv hm hS => ?_)
      obtain ⟨rfl, rfl⟩ := hv
      refine W.eq (g2 := F0 m 122 ls [.ref q]) rfl ?_
      refine W.widen (k := 2) (n := 20) (Nat.le_of_ble_eq_true rfl) (Nat.le_of_ble_eq_true rfl) ?_
      have hm : mm D (AZ z) (mu (mu (mu M qa (.inl (k 0, 16, .inl (preF (mgC f tt 16 1 (mergedV f.2.2.1 tt.2.2.1 sz) g) i)))) q (.inr (2, [.int 0, .int 0, .int 0, .null]))) q (.inr (2, [.int id, .int 1, .int (mergedV f.2.2.1 tt.2.2.1 sz), .ref qa]))) H := hm
      refine W.widen (k := 2) (n := 68) (by omega) (by omega) ?_
      refine W.aret (v := .ref q) hx hb hr (Or.inl ⟨_, rfl⟩) (Or.inr ⟨_, rfl⟩) (fun t ht hW => ⟨⟨some (.ref q), _, rfl, ?_, by rw [ht]; exact hm⟩, hS.F ht⟩) hS.2.2 dX1_mergedNode_122
      have he : i = 16 := Nat.le_antisymm hi ((nI_leI (by decide) (by omega)).mp c3)
      subst he
      refine ⟨q, qa, (mu_ne ne_q_qa).symm.trans hq, hqa, ne_q_qa, rfl, ?_⟩
      rw [mu_mu]
    · have hlt9 : i < 16 := Nat.lt_of_not_le fun q => c3 (nI_le q (by omega))
      have hcl : (nI i).toNatClampNeg = i := nI_clamp (by omega)
      refine lv_aload_n hx hb dX1_mergedNode_43 rfl (lv_at hl 3 rfl) ?_
      refine m_get (T := TX2) (N := 4) (ci := 2) (v := .int 1) hx hb hts wX2 hown hK hm ((mu_ne ne_na_qa).trans hnna) rfl 1 (by decide) f64 (fun _ h9 => h9) rfl dX1_mergedNode_44 ?_
      refine lv_if_ne (tgt := 60) hx hb dX1_mergedNode_47 (by decide) (fun c5 => ?_) (fun c5 => ?_)
      · refine lv_iconst (v := 0) hx hb dX1_mergedNode_60 (by decide) ?_
        refine lv_istore (lv' := [(6, .int 0), (5, .int (nI i)), (0, .ref fa), (1, .ref ta), (2, .ref na), (3, .int (mergedV f.2.2.1 tt.2.2.1 sz)), (4, .ref qa)]) hx hb dX1_mergedNode_61 hl (by decide) rfl (fun ls hl => ?_)
        refine lv_aload hx hb dX1_mergedNode_63 (lv_at hl 6 rfl) ?_
        refine lv_iload hx hb dX1_mergedNode_65 (lv_at hl 1 rfl) ?_
        refine lv_iload hx hb dX1_mergedNode_67 (lv_at hl 0 rfl) ?_
        refine lv_if_eq (tgt := 76) hx hb dX1_mergedNode_69 (by decide) (fun c6 => ?_) (fun c6 => ?_)
        · refine lv_aload_n hx hb dX1_mergedNode_76 rfl (lv_at hl 2 rfl) ?_
          refine lv_iload hx hb dX1_mergedNode_77 (lv_at hl 1 rfl) ?_
          refine m_kV (As := [.int (nI i)]) (rest := [.int (nI i), .ref qa]) (rm := { frames := 0, cells := 0, slots := 0, locals := 0 }) ⟨hx, hb, hml, hown, hts⟩ (c_X2_cell l D k z _ fa cfa (nlen f) f.1 f.2.1 f.2.2.1 (nI i) f.2.2.2 (nlen31 f) ((mu_ne ne_fa_qa).trans hnfa) ((mu_ne ne_cfa_qa).trans hcfa)) (cwV 1 hts gX1_mergedNode_X2_cell rfl rfl rfl (by decide +kernel) ⟨Nat.le_of_ble_eq_true rfl, Nat.le_of_ble_eq_true rfl⟩) (m_recv hK hm (q := (RX2, TX2, 4)) rfl ((mu_ne ne_fa_qa).trans hnfa)) hz hcx hm hS rfl hl.1 rfl (Nat.le_of_ble_eq_true rfl) dX1_mergedNode_79 ⟨Nat.le_of_ble_eq_true rfl, Nat.le_of_ble_eq_true rfl⟩ (fun v M1 H locs hv hm hS => ?_)
          obtain ⟨rfl, hM1⟩ := hv
          rw [hM1] at hm
          refine W.eq (g2 := F0 m 82 ls [.int (ndc f (nI i)), .int (nI i), .ref qa]) rfl ?_
          refine W.widen (k := 1) (n := 16) (Nat.le_of_ble_eq_true rfl) (Nat.le_of_ble_eq_true rfl) ?_
          have hm : mm D (AZ z) (mu M qa (.inl (k 0, 16, .inl (preF (mgC f tt 16 1 (mergedV f.2.2.1 tt.2.2.1 sz) g) i)))) H := hm
          refine lv_aload_n hx hb dX1_mergedNode_82 rfl (lv_at hl 3 rfl) ?_
          refine lv_iload hx hb dX1_mergedNode_83 (lv_at hl 1 rfl) ?_
          refine m_kV (As := [.int (nI i)]) (rest := [.int (ndc f (nI i)), .int (nI i), .ref qa]) (rm := { frames := 0, cells := 0, slots := 0, locals := 0 }) ⟨hx, hb, hml, hown, hts⟩ (c_X2_cell l D k z _ ta cta (nlen tt) tt.1 tt.2.1 tt.2.2.1 (nI i) tt.2.2.2 (nlen31 tt) ((mu_ne ne_ta_qa).trans hnta) ((mu_ne ne_cta_qa).trans hcta)) (cwV 1 hts gX1_mergedNode_X2_cell rfl rfl rfl (by decide +kernel) ⟨Nat.le_of_ble_eq_true rfl, Nat.le_of_ble_eq_true rfl⟩) (m_recv hK hm (q := (RX2, TX2, 4)) rfl ((mu_ne ne_ta_qa).trans hnta)) hz hcx hm hS rfl hl.1 rfl (Nat.le_of_ble_eq_true rfl) dX1_mergedNode_85 ⟨Nat.le_of_ble_eq_true rfl, Nat.le_of_ble_eq_true rfl⟩ (fun v M1 H locs hv hm hS => ?_)
          obtain ⟨rfl, hM1⟩ := hv
          rw [hM1] at hm
          refine W.eq (g2 := F0 m 88 ls [.int (ndc tt (nI i)), .int (ndc f (nI i)), .int (nI i), .ref qa]) rfl ?_
          refine W.widen (k := 1) (n := 16) (Nat.le_of_ble_eq_true rfl) (Nat.le_of_ble_eq_true rfl) ?_
          have hm : mm D (AZ z) (mu M qa (.inl (k 0, 16, .inl (preF (mgC f tt 16 1 (mergedV f.2.2.1 tt.2.2.1 sz) g) i)))) H := hm
          refine lv_aload_n hx hb dX1_mergedNode_88 rfl (lv_at hl 4 rfl) ?_
          refine lv_iload hx hb dX1_mergedNode_89 (lv_at hl 1 rfl) ?_
          refine m_kV (As := [.int (nI i)]) (rest := [.int (ndc tt (nI i)), .int (ndc f (nI i)), .int (nI i), .ref qa]) (rm := { frames := 0, cells := 0, slots := 0, locals := 0 }) ⟨hx, hb, hml, hown, hts⟩ (c_X2_cell l D k z _ na cna 16 id 1 sz (nI i) g (by decide) ((mu_ne ne_na_qa).trans hnna) ((mu_ne ne_cna_qa).trans hcna)) (cwV 1 hts gX1_mergedNode_X2_cell rfl rfl rfl (by decide +kernel) ⟨Nat.le_of_ble_eq_true rfl, Nat.le_of_ble_eq_true rfl⟩) (m_recv hK hm (q := (RX2, TX2, 4)) rfl ((mu_ne ne_na_qa).trans hnna)) hz hcx hm hS rfl hl.1 rfl (Nat.le_of_ble_eq_true rfl) dX1_mergedNode_91 ⟨Nat.le_of_ble_eq_true rfl, Nat.le_of_ble_eq_true rfl⟩ (fun v M1 H locs hv hm hS => ?_)
          obtain ⟨rfl, hM1⟩ := hv
          rw [hM1] at hm
          refine W.eq (g2 := F0 m 94 ls [.int (nd_cell 16 g (nI i)), .int (ndc tt (nI i)), .int (ndc f (nI i)), .int (nI i), .ref qa]) rfl ?_
          refine W.widen (k := 1) (n := 16) (Nat.le_of_ble_eq_true rfl) (Nat.le_of_ble_eq_true rfl) ?_
          have hm : mm D (AZ z) (mu M qa (.inl (k 0, 16, .inl (preF (mgC f tt 16 1 (mergedV f.2.2.1 tt.2.2.1 sz) g) i)))) H := hm
          refine m_kS (As := [.int (ndc f (nI i)), .int (ndc tt (nI i)), .int (nd_cell 16 g (nI i))]) (rest := [.int (nI i), .ref qa]) (rm := { frames := 0, cells := 0, slots := 0, locals := 0 }) ⟨hx, hb, hml, hown, hts⟩ (c_X1_merged l D k z _ (ndc f (nI i)) (ndc tt (nI i)) (nd_cell 16 g (nI i))) (cwS 3 hts gX1_mergedNode_X1_merged rfl rfl rfl (by decide +kernel) ⟨Nat.le_of_ble_eq_true rfl, Nat.le_of_ble_eq_true rfl⟩) hz hcx hm hS rfl hl.1 rfl (Nat.le_of_ble_eq_true rfl) dX1_mergedNode_94 ⟨Nat.le_of_ble_eq_true rfl, Nat.le_of_ble_eq_true rfl⟩ (fun v M1 H locs hv hm hS => ?_)
          obtain ⟨rfl, hM1⟩ := hv
          rw [hM1] at hm
          refine W.eq (g2 := F0 m 97 ls [.int (mergedV (ndc f (nI i)) (ndc tt (nI i)) (nd_cell 16 g (nI i))), .int (nI i), .ref qa]) rfl ?_
          refine W.widen (k := 1) (n := 16) (Nat.le_of_ble_eq_true rfl) (Nat.le_of_ble_eq_true rfl) ?_
          have hm : mm D (AZ z) (mu M qa (.inl (k 0, 16, .inl (preF (mgC f tt 16 1 (mergedV f.2.2.1 tt.2.2.1 sz) g) i)))) H := hm
          refine m_iast hx hb hK hm hS 0 (mu_self _ _ _) rfl (vp_in_nI hlt9 (by decide)) dX1_mergedNode_97 (fun H locs hm hS => ?_)
          have hm : mm D (AZ z) (mu (mu M qa (.inl (k 0, 16, .inl (preF (mgC f tt 16 1 (mergedV f.2.2.1 tt.2.2.1 sz) g) i)))) qa (.inl (k 0, 16, .inl (upd (preF (mgC f tt 16 1 (mergedV f.2.2.1 tt.2.2.1 sz) g) i) ((nI i)).toNatClampNeg (mergedV (ndc f (nI i)) (ndc tt (nI i)) (nd_cell 16 g (nI i))))))) H := hm
          refine lv_iinc (v := ((nI i) + 1)) (lv' := [(5, .int ((nI i) + 1)), (6, .int 0), (0, .ref fa), (1, .ref ta), (2, .ref na), (3, .int (mergedV f.2.2.1 tt.2.2.1 sz)), (4, .ref qa)]) hx hb dX1_mergedNode_98 hl (k := 1) rfl rfl (by decide) rfl (fun ls hl => ?_)
          refine lv_goto (tgt := 35) hx hb dX1_mergedNode_101 (by decide) ?_
          rw [nI_1] at hl
          rw [hcl, preF_v (c := (mgC f tt 16 1 (mergedV f.2.2.1 tt.2.2.1 sz) g)) (n := i) (v := (mergedV (ndc f (nI i)) (ndc tt (nI i)) (nd_cell 16 g (nI i)))) (by simp [mgC, c5, c6]), mu_mu] at hm
          exact ih35 (i + 1) _ _ _ ⟨by omega, hm, hS, lv_sub hl [0, 2, 3, 4, 5, 6] rfl⟩ (by omega)
        · first | exact absurd c6 (by decide) | exact absurd (by decide) c6
      · first | exact absurd c5 (by decide) | exact absurd (by decide) c5
  · exact absurd (Option.some.inj c1) hne

set_option maxHeartbeats 4000000 in
set_option maxRecDepth 100000 in
theorem c_X1_mergedNode0 (l : Launch) (D : va_G) (k : Nat → ClassId) (z : Nat) (M : mM) (fa ta na cna : Nat) (f tt : NV) (id sz : Int32) (g : Nat → Int32) (hne : ta ≠ fa) (hF : nodeAt k M fa f) (hT : nodeAt k M ta tt) (hnna : M na = some (.inr (2, [.int id, .int 0, .int sz, .ref cna]))) (hcna : M cna = some (.inl (k 0, 64, .inl g))) : mK l yX1_mergedNode wsX1_mergedNode ({ frames := 2, cells := 2, slots := 68, locals := 40 }) D k z [.ref fa, .ref ta, .ref na] M (fun v M' => ∃ q qa, M q = none ∧ M qa = none ∧ q ≠ qa ∧ v = some (.ref q) ∧ M' = mu (mu M qa (.inl (k 0, 64, .inl (preF (mgC f tt 64 0 (mergedV f.2.2.1 tt.2.2.1 sz) g) 64)))) q (.inr (2, [.int id, .int 0, .int (mergedV f.2.2.1 tt.2.2.1 sz), .ref qa]))) := by
  refine Met.ofW (cc := cX1_mergedNode) (maxL := 7) (ret := (some (.object "CommitTree$Node"))) (by decide) rfl ?_
  intro p e s m args below meth c s₁ B hml hv
  obtain ⟨rfl, hz, hcx, hm⟩ := hv
  have hx := B.exec
  have hb := B.bytes
  have hr := B.returns
  have hts := atoms_spec (ws := wsX1_mergedNode) B.pre
  have hown : s.vm.findClass RX1 = some m.cls := findClass_of_methodNamed B.named
  have hlocks := B.notSynchronized
  have hK := hcx.1
  have hS : va_S (AZ z) s.heap s.heap [] := va_S.rf
  have hA : ∀ q, s.heap.size ≤ q → AZ z q := fun q h => Nat.le_trans hz h
  have hl := lv_entry ([.ref fa, .ref ta, .ref na]) (n := 7) (Nat.le_of_ble_eq_true rfl)
  rw [lg_entry_eq]
  generalize (lg_sl ([.ref fa, .ref ta, .ref na]) ++ List.replicate (7 - (lg_sl ([.ref fa, .ref ta, .ref na])).length) Slot.unset).toArray = ls at hl ⊢
  have hl : lv_has ls 7 [(0, .ref fa), (1, .ref ta), (2, .ref na)] := hl
  have f46 := hts (.fieldLink RX1 46 "CommitTree$Node" "id" "I") (by decide +kernel)
  have f64 := hts (.fieldLink RX1 64 "CommitTree$Node" "directory" "Z") (by decide +kernel)
  have f68 := hts (.fieldLink RX1 68 "CommitTree$Node" "cells" "[I") (by decide +kernel)
  have f80 := hts (.fieldLink RX1 80 "CommitTree$Node" "size" "I") (by decide +kernel)
  have wX2 : ∀ w ∈ wsX20, w ∈ wsX1_mergedNode := by decide +kernel
  obtain ⟨hdf, cfa, hnfa, hcfa⟩ := And.intro hF.1 hF.2
  obtain ⟨hdt, cta, hnta, hcta⟩ := And.intro hT.1 hT.2
  refine lv_aload_n hx hb dX1_mergedNode_0 rfl (lv_at hl 1 rfl) ?_
  refine lv_aload_n hx hb dX1_mergedNode_1 rfl (lv_at hl 0 rfl) ?_
  refine lv_acmp_ne (rx := some ta) (ry := some fa) (tgt := 7) hx hb dX1_mergedNode_2 (by decide) (fun c1 => ?_) (fun c1 => ?_)
  · refine lv_aload_n hx hb dX1_mergedNode_7 rfl (lv_at hl 0 rfl) ?_
    refine m_get (T := TX2) (N := 4) (ci := 2) (v := .int f.2.2.1) hx hb hts wX2 hown hK hm hnfa rfl 2 (by decide) f80 (fun _ h9 => h9) rfl dX1_mergedNode_8 ?_
    refine lv_aload_n hx hb dX1_mergedNode_11 rfl (lv_at hl 1 rfl) ?_
    refine m_get (T := TX2) (N := 4) (ci := 2) (v := .int tt.2.2.1) hx hb hts wX2 hown hK hm hnta rfl 2 (by decide) f80 (fun _ h9 => h9) rfl dX1_mergedNode_12 ?_
    refine lv_aload_n hx hb dX1_mergedNode_15 rfl (lv_at hl 2 rfl) ?_
    refine m_get (T := TX2) (N := 4) (ci := 2) (v := .int sz) hx hb hts wX2 hown hK hm hnna rfl 2 (by decide) f80 (fun _ h9 => h9) rfl dX1_mergedNode_16 ?_
    refine m_kS (As := [.int f.2.2.1, .int tt.2.2.1, .int sz]) (rest := []) (rm := { frames := 0, cells := 0, slots := 0, locals := 0 }) ⟨hx, hb, hml, hown, hts⟩ (c_X1_merged l D k z _ f.2.2.1 tt.2.2.1 sz) (cwS 3 hts gX1_mergedNode_X1_merged rfl rfl rfl (by decide +kernel) ⟨Nat.le_of_ble_eq_true rfl, Nat.le_of_ble_eq_true rfl⟩) hz hcx hm hS rfl hl.1 rfl (Nat.le_of_ble_eq_true rfl) dX1_mergedNode_19 ⟨Nat.le_of_ble_eq_true rfl, Nat.le_of_ble_eq_true rfl⟩ (fun v M1 H locs hv hm hS => ?_)
    obtain ⟨rfl, hM1⟩ := hv
    rw [hM1] at hm
    refine W.eq (g2 := F0 m 22 ls [.int (mergedV f.2.2.1 tt.2.2.1 sz)]) rfl ?_
    refine W.widen (k := 0) (n := 0) (Nat.le_of_ble_eq_true rfl) (Nat.le_of_ble_eq_true rfl) ?_
    have hm : mm D (AZ z) M H := hm
    refine lv_istore_n (lv' := [(3, .int (mergedV f.2.2.1 tt.2.2.1 sz)), (0, .ref fa), (1, .ref ta), (2, .ref na)]) hx hb dX1_mergedNode_22 rfl hl (by decide) rfl (fun ls hl => ?_)
    refine lv_aload_n hx hb dX1_mergedNode_23 rfl (lv_at hl 3 rfl) ?_
    refine m_get (T := TX2) (N := 4) (ci := 2) (v := .ref cna) hx hb hts wX2 hown hK hm hnna rfl 3 (by decide) f68 (fun _ h9 => h9) rfl dX1_mergedNode_24 ?_
    refine m_alen hx hb hK hm 0 hcna rfl (v := nI 64) rfl dX1_mergedNode_27 ?_
    refine m_newa (atype := .int) hx hb (hts (.arrayClass .int) (by decide +kernel)) (ty := .int) rfl (fun C h => by cases h) hK 0 rfl hm hS hA (N' := 64) (a0 := (64, .inl (fun _ => 0))) (fun cA => vp_cell_i cA _ _) (by decide) rfl (by decide) (Nat.le_of_ble_eq_true rfl) (Nat.le_of_ble_eq_true rfl) dX1_mergedNode_28 (fun qa H hqa hm hS => ?_)
    refine W.widen (k := 1) (n := 64) (Nat.le_of_ble_eq_true rfl) (Nat.le_of_ble_eq_true rfl) ?_
    have ne_fa_qa : fa ≠ qa := m_fr hqa hnfa
    have ne_qa_fa : qa ≠ fa := Ne.symm ne_fa_qa
    have ne_ta_qa : ta ≠ qa := m_fr hqa hnta
    have ne_qa_ta : qa ≠ ta := Ne.symm ne_ta_qa
    have ne_cfa_qa : cfa ≠ qa := m_fr hqa hcfa
    have ne_qa_cfa : qa ≠ cfa := Ne.symm ne_cfa_qa
    have ne_cta_qa : cta ≠ qa := m_fr hqa hcta
    have ne_qa_cta : qa ≠ cta := Ne.symm ne_cta_qa
    have ne_na_qa : na ≠ qa := m_fr hqa hnna
    have ne_qa_na : qa ≠ na := Ne.symm ne_na_qa
    have ne_cna_qa : cna ≠ qa := m_fr hqa hcna
    have ne_qa_cna : qa ≠ cna := Ne.symm ne_cna_qa
    have hm : mm D (AZ z) (mu M qa (.inl (k 0, 64, .inl (fun _ => 0)))) H := hm
    refine lv_astore (lv' := [(4, .ref qa), (3, .int (mergedV f.2.2.1 tt.2.2.1 sz)), (0, .ref fa), (1, .ref ta), (2, .ref na)]) hx hb dX1_mergedNode_30 hl (by decide) rfl (fun ls hl => ?_)
    refine lv_iconst (v := 0) hx hb dX1_mergedNode_32 (by decide) ?_
    refine lv_istore (lv' := [(5, .int 0), (4, .ref qa), (3, .int (mergedV f.2.2.1 tt.2.2.1 sz)), (0, .ref fa), (1, .ref ta), (2, .ref na)]) hx hb dX1_mergedNode_33 hl (by decide) rfl (fun ls hl => ?_)
    rw [← preF_0 (mgC f tt 64 0 (mergedV f.2.2.1 tt.2.2.1 sz) g)] at hm
    refine W_loop (σ := Nat) (fun i H locs ls => (i ≤ 64) ∧ mm D (AZ z) (mu M qa (.inl (k 0, 64, .inl (preF (mgC f tt 64 0 (mergedV f.2.2.1 tt.2.2.1 sz) g) i)))) H ∧ va_S (AZ z) s.heap H locs ∧ lv_has ls 7 [(5, .int (nI i)), (0, .ref fa), (1, .ref ta), (2, .ref na), (3, .int (mergedV f.2.2.1 tt.2.2.1 sz)), (4, .ref qa)]) (fun i => 64 - i) (fun i => 1) (fun i => 64) ?_ 0 _ _ _ ⟨Nat.zero_le _, hm, hS, lv_sub hl [0, 3, 4, 5, 2, 1] rfl⟩
    intro i H locs ls hI ih35
    obtain ⟨hi, hm, hS, hl⟩ := hI
    try dsimp only at hm hl ih35 ⊢
    refine lv_iload hx hb dX1_mergedNode_35 (lv_at hl 0 rfl) ?_
    refine lv_aload hx hb dX1_mergedNode_37 (lv_at hl 5 rfl) ?_
    refine m_alen hx hb hK hm 0 (mu_self _ _ _) rfl (v := nI 64) rfl dX1_mergedNode_39 ?_
    refine lv_icmp_ge (tgt := 104) hx hb dX1_mergedNode_40 (by decide) (fun c3 => ?_) (fun c3 => ?_)
    · refine m_new (T := TX2) (N := 4) (ci := 2) (fs := [.int 0, .int 0, .int 0, .null]) hx hb hts wX2 tyX2 tyX2_ok hown (hts (.classLink RX1 25 RX2) (by decide +kernel)) (hts (.instantiable RX2 4) (by decide +kernel)) (hts (.initialized RX2) (by decide +kernel)) hK hm hS hA rfl (fun j hj => by rcases (show j = 0 ∨ j = 1 ∨ j = 2 ∨ j = 3 by omega) with rfl | rfl | rfl | rfl <;> rfl) (Nat.le_of_ble_eq_true rfl) (Nat.le_of_ble_eq_true rfl) dX1_mergedNode_104 (fun q H hq hm hS => ?_)
      refine W.widen (k := 2) (n := 68) (Nat.le_of_ble_eq_true rfl) (Nat.le_of_ble_eq_true rfl) ?_
      have ne_fa_q : fa ≠ q := m_fr hq ((mu_ne ne_fa_qa).trans hnfa)
      have ne_q_fa : q ≠ fa := Ne.symm ne_fa_q
      have ne_ta_q : ta ≠ q := m_fr hq ((mu_ne ne_ta_qa).trans hnta)
      have ne_q_ta : q ≠ ta := Ne.symm ne_ta_q
      have ne_cfa_q : cfa ≠ q := m_fr hq ((mu_ne ne_cfa_qa).trans hcfa)
      have ne_q_cfa : q ≠ cfa := Ne.symm ne_cfa_q
      have ne_cta_q : cta ≠ q := m_fr hq ((mu_ne ne_cta_qa).trans hcta)
      have ne_q_cta : q ≠ cta := Ne.symm ne_cta_q
      have ne_na_q : na ≠ q := m_fr hq ((mu_ne ne_na_qa).trans hnna)
      have ne_q_na : q ≠ na := Ne.symm ne_na_q
      have ne_cna_q : cna ≠ q := m_fr hq ((mu_ne ne_cna_qa).trans hcna)
      have ne_q_cna : q ≠ cna := Ne.symm ne_cna_q
      have ne_qa_q : qa ≠ q := m_fr hq (mu_self _ _ _)
      have ne_q_qa : q ≠ qa := Ne.symm ne_qa_q
      have hm : mm D (AZ z) (mu (mu M qa (.inl (k 0, 64, .inl (preF (mgC f tt 64 0 (mergedV f.2.2.1 tt.2.2.1 sz) g) i)))) q (.inr (2, [.int 0, .int 0, .int 0, .null]))) H := hm
      refine lv_dup hx hb dX1_mergedNode_107 rfl ?_
      refine lv_aload_n hx hb dX1_mergedNode_108 rfl (lv_at hl 3 rfl) ?_
      refine m_get (T := TX2) (N := 4) (ci := 2) (v := .int id) hx hb hts wX2 hown hK hm ((mu_ne ne_na_q).trans ((mu_ne ne_na_qa).trans hnna)) rfl 0 (by decide) f46 (fun _ h9 => h9) rfl dX1_mergedNode_109 ?_
      refine lv_aload_n hx hb dX1_mergedNode_112 rfl (lv_at hl 3 rfl) ?_
      refine m_get (T := TX2) (N := 4) (ci := 2) (v := .int 0) hx hb hts wX2 hown hK hm ((mu_ne ne_na_q).trans ((mu_ne ne_na_qa).trans hnna)) rfl 1 (by decide) f64 (fun _ h9 => h9) rfl dX1_mergedNode_113 ?_
      refine lv_iload_n hx hb dX1_mergedNode_116 rfl (lv_at hl 4 rfl) ?_
      refine lv_aload hx hb dX1_mergedNode_117 (lv_at hl 5 rfl) ?_
      refine m_kI (As := [.int id, .int 0, .int (mergedV f.2.2.1 tt.2.2.1 sz), .ref qa]) (rest := [.ref q]) (rm := { frames := 1, cells := 0, slots := 0, locals := 12 }) ⟨hx, hb, hml, hown, hts⟩ (c_X2_init l D k z _ q qa id 0 (mergedV f.2.2.1 tt.2.2.1 sz) (by decide) (mu_self _ _ _)) (cwI 4 hts gX1_mergedNode_X2_init rfl rfl rfl (hts (.initialized RX2) (by decide +kernel)) (hts (.methodLink RX1 103 yX2_init) (by decide +kernel)) (hts (.instanceMethod yX2_init) (by decide +kernel)) rfl (by decide +kernel) ⟨Nat.le_of_ble_eq_true rfl, Nat.le_of_ble_eq_true rfl⟩) hz hcx hm hS rfl hl.1 rfl (Nat.le_of_ble_eq_true rfl) dX1_mergedNode_119 ⟨Nat.le_of_ble_eq_true rfl, Nat.le_of_ble_eq_true rfl⟩ (fun v M1 H locs hv hm hS => ?_)
      obtain ⟨rfl, rfl⟩ := hv
      refine W.eq (g2 := F0 m 122 ls [.ref q]) rfl ?_
      refine W.widen (k := 2) (n := 68) (Nat.le_of_ble_eq_true rfl) (Nat.le_of_ble_eq_true rfl) ?_
      have hm : mm D (AZ z) (mu (mu (mu M qa (.inl (k 0, 64, .inl (preF (mgC f tt 64 0 (mergedV f.2.2.1 tt.2.2.1 sz) g) i)))) q (.inr (2, [.int 0, .int 0, .int 0, .null]))) q (.inr (2, [.int id, .int 0, .int (mergedV f.2.2.1 tt.2.2.1 sz), .ref qa]))) H := hm
      refine W.aret (v := .ref q) hx hb hr (Or.inl ⟨_, rfl⟩) (Or.inr ⟨_, rfl⟩) (fun t ht hW => ⟨⟨some (.ref q), _, rfl, ?_, by rw [ht]; exact hm⟩, hS.F ht⟩) hS.2.2 dX1_mergedNode_122
      have he : i = 64 := Nat.le_antisymm hi ((nI_leI (by decide) (by omega)).mp c3)
      subst he
      refine ⟨q, qa, (mu_ne ne_q_qa).symm.trans hq, hqa, ne_q_qa, rfl, ?_⟩
      rw [mu_mu]
    · have hlt9 : i < 64 := Nat.lt_of_not_le fun q => c3 (nI_le q (by omega))
      have hcl : (nI i).toNatClampNeg = i := nI_clamp (by omega)
      refine lv_aload_n hx hb dX1_mergedNode_43 rfl (lv_at hl 3 rfl) ?_
      refine m_get (T := TX2) (N := 4) (ci := 2) (v := .int 0) hx hb hts wX2 hown hK hm ((mu_ne ne_na_qa).trans hnna) rfl 1 (by decide) f64 (fun _ h9 => h9) rfl dX1_mergedNode_44 ?_
      refine lv_if_ne (tgt := 60) hx hb dX1_mergedNode_47 (by decide) (fun c5 => ?_) (fun c5 => ?_)
      · first | exact absurd c5 (by decide) | exact absurd (by decide) c5
      · refine lv_iload hx hb dX1_mergedNode_50 (lv_at hl 0 rfl) ?_
        refine lv_iload_n hx hb dX1_mergedNode_52 rfl (lv_at hl 4 rfl) ?_
        refine lv_icmp_lt (tgt := 60) hx hb dX1_mergedNode_53 (by decide) (fun c6 => ?_) (fun c6 => ?_)
        · refine lv_iconst (v := 0) hx hb dX1_mergedNode_60 (by decide) ?_
          refine lv_istore (lv' := [(6, .int 0), (5, .int (nI i)), (0, .ref fa), (1, .ref ta), (2, .ref na), (3, .int (mergedV f.2.2.1 tt.2.2.1 sz)), (4, .ref qa)]) hx hb dX1_mergedNode_61 hl (by decide) rfl (fun ls hl => ?_)
          refine lv_aload hx hb dX1_mergedNode_63 (lv_at hl 6 rfl) ?_
          refine lv_iload hx hb dX1_mergedNode_65 (lv_at hl 1 rfl) ?_
          refine lv_iload hx hb dX1_mergedNode_67 (lv_at hl 0 rfl) ?_
          refine lv_if_eq (tgt := 76) hx hb dX1_mergedNode_69 (by decide) (fun c7 => ?_) (fun c7 => ?_)
          · refine lv_aload_n hx hb dX1_mergedNode_76 rfl (lv_at hl 2 rfl) ?_
            refine lv_iload hx hb dX1_mergedNode_77 (lv_at hl 1 rfl) ?_
            refine m_kV (As := [.int (nI i)]) (rest := [.int (nI i), .ref qa]) (rm := { frames := 0, cells := 0, slots := 0, locals := 0 }) ⟨hx, hb, hml, hown, hts⟩ (c_X2_cell l D k z _ fa cfa (nlen f) f.1 f.2.1 f.2.2.1 (nI i) f.2.2.2 (nlen31 f) ((mu_ne ne_fa_qa).trans hnfa) ((mu_ne ne_cfa_qa).trans hcfa)) (cwV 1 hts gX1_mergedNode_X2_cell rfl rfl rfl (by decide +kernel) ⟨Nat.le_of_ble_eq_true rfl, Nat.le_of_ble_eq_true rfl⟩) (m_recv hK hm (q := (RX2, TX2, 4)) rfl ((mu_ne ne_fa_qa).trans hnfa)) hz hcx hm hS rfl hl.1 rfl (Nat.le_of_ble_eq_true rfl) dX1_mergedNode_79 ⟨Nat.le_of_ble_eq_true rfl, Nat.le_of_ble_eq_true rfl⟩ (fun v M1 H locs hv hm hS => ?_)
            obtain ⟨rfl, hM1⟩ := hv
            rw [hM1] at hm
            refine W.eq (g2 := F0 m 82 ls [.int (ndc f (nI i)), .int (nI i), .ref qa]) rfl ?_
            refine W.widen (k := 1) (n := 64) (Nat.le_of_ble_eq_true rfl) (Nat.le_of_ble_eq_true rfl) ?_
            have hm : mm D (AZ z) (mu M qa (.inl (k 0, 64, .inl (preF (mgC f tt 64 0 (mergedV f.2.2.1 tt.2.2.1 sz) g) i)))) H := hm
            refine lv_aload_n hx hb dX1_mergedNode_82 rfl (lv_at hl 3 rfl) ?_
            refine lv_iload hx hb dX1_mergedNode_83 (lv_at hl 1 rfl) ?_
            refine m_kV (As := [.int (nI i)]) (rest := [.int (ndc f (nI i)), .int (nI i), .ref qa]) (rm := { frames := 0, cells := 0, slots := 0, locals := 0 }) ⟨hx, hb, hml, hown, hts⟩ (c_X2_cell l D k z _ ta cta (nlen tt) tt.1 tt.2.1 tt.2.2.1 (nI i) tt.2.2.2 (nlen31 tt) ((mu_ne ne_ta_qa).trans hnta) ((mu_ne ne_cta_qa).trans hcta)) (cwV 1 hts gX1_mergedNode_X2_cell rfl rfl rfl (by decide +kernel) ⟨Nat.le_of_ble_eq_true rfl, Nat.le_of_ble_eq_true rfl⟩) (m_recv hK hm (q := (RX2, TX2, 4)) rfl ((mu_ne ne_ta_qa).trans hnta)) hz hcx hm hS rfl hl.1 rfl (Nat.le_of_ble_eq_true rfl) dX1_mergedNode_85 ⟨Nat.le_of_ble_eq_true rfl, Nat.le_of_ble_eq_true rfl⟩ (fun v M1 H locs hv hm hS => ?_)
            obtain ⟨rfl, hM1⟩ := hv
            rw [hM1] at hm
            refine W.eq (g2 := F0 m 88 ls [.int (ndc tt (nI i)), .int (ndc f (nI i)), .int (nI i), .ref qa]) rfl ?_
            refine W.widen (k := 1) (n := 64) (Nat.le_of_ble_eq_true rfl) (Nat.le_of_ble_eq_true rfl) ?_
            have hm : mm D (AZ z) (mu M qa (.inl (k 0, 64, .inl (preF (mgC f tt 64 0 (mergedV f.2.2.1 tt.2.2.1 sz) g) i)))) H := hm
            refine lv_aload_n hx hb dX1_mergedNode_88 rfl (lv_at hl 4 rfl) ?_
            refine lv_iload hx hb dX1_mergedNode_89 (lv_at hl 1 rfl) ?_
            refine m_kV (As := [.int (nI i)]) (rest := [.int (ndc tt (nI i)), .int (ndc f (nI i)), .int (nI i), .ref qa]) (rm := { frames := 0, cells := 0, slots := 0, locals := 0 }) ⟨hx, hb, hml, hown, hts⟩ (c_X2_cell l D k z _ na cna 64 id 0 sz (nI i) g (by decide) ((mu_ne ne_na_qa).trans hnna) ((mu_ne ne_cna_qa).trans hcna)) (cwV 1 hts gX1_mergedNode_X2_cell rfl rfl rfl (by decide +kernel) ⟨Nat.le_of_ble_eq_true rfl, Nat.le_of_ble_eq_true rfl⟩) (m_recv hK hm (q := (RX2, TX2, 4)) rfl ((mu_ne ne_na_qa).trans hnna)) hz hcx hm hS rfl hl.1 rfl (Nat.le_of_ble_eq_true rfl) dX1_mergedNode_91 ⟨Nat.le_of_ble_eq_true rfl, Nat.le_of_ble_eq_true rfl⟩ (fun v M1 H locs hv hm hS => ?_)
            obtain ⟨rfl, hM1⟩ := hv
            rw [hM1] at hm
            refine W.eq (g2 := F0 m 94 ls [.int (nd_cell 64 g (nI i)), .int (ndc tt (nI i)), .int (ndc f (nI i)), .int (nI i), .ref qa]) rfl ?_
            refine W.widen (k := 1) (n := 64) (Nat.le_of_ble_eq_true rfl) (Nat.le_of_ble_eq_true rfl) ?_
            have hm : mm D (AZ z) (mu M qa (.inl (k 0, 64, .inl (preF (mgC f tt 64 0 (mergedV f.2.2.1 tt.2.2.1 sz) g) i)))) H := hm
            refine m_kS (As := [.int (ndc f (nI i)), .int (ndc tt (nI i)), .int (nd_cell 64 g (nI i))]) (rest := [.int (nI i), .ref qa]) (rm := { frames := 0, cells := 0, slots := 0, locals := 0 }) ⟨hx, hb, hml, hown, hts⟩ (c_X1_merged l D k z _ (ndc f (nI i)) (ndc tt (nI i)) (nd_cell 64 g (nI i))) (cwS 3 hts gX1_mergedNode_X1_merged rfl rfl rfl (by decide +kernel) ⟨Nat.le_of_ble_eq_true rfl, Nat.le_of_ble_eq_true rfl⟩) hz hcx hm hS rfl hl.1 rfl (Nat.le_of_ble_eq_true rfl) dX1_mergedNode_94 ⟨Nat.le_of_ble_eq_true rfl, Nat.le_of_ble_eq_true rfl⟩ (fun v M1 H locs hv hm hS => ?_)
            obtain ⟨rfl, hM1⟩ := hv
            rw [hM1] at hm
            refine W.eq (g2 := F0 m 97 ls [.int (mergedV (ndc f (nI i)) (ndc tt (nI i)) (nd_cell 64 g (nI i))), .int (nI i), .ref qa]) rfl ?_
            refine W.widen (k := 1) (n := 64) (Nat.le_of_ble_eq_true rfl) (Nat.le_of_ble_eq_true rfl) ?_
            have hm : mm D (AZ z) (mu M qa (.inl (k 0, 64, .inl (preF (mgC f tt 64 0 (mergedV f.2.2.1 tt.2.2.1 sz) g) i)))) H := hm
            refine m_iast hx hb hK hm hS 0 (mu_self _ _ _) rfl (vp_in_nI hlt9 (by decide)) dX1_mergedNode_97 (fun H locs hm hS => ?_)
            have hm : mm D (AZ z) (mu (mu M qa (.inl (k 0, 64, .inl (preF (mgC f tt 64 0 (mergedV f.2.2.1 tt.2.2.1 sz) g) i)))) qa (.inl (k 0, 64, .inl (upd (preF (mgC f tt 64 0 (mergedV f.2.2.1 tt.2.2.1 sz) g) i) ((nI i)).toNatClampNeg (mergedV (ndc f (nI i)) (ndc tt (nI i)) (nd_cell 64 g (nI i))))))) H := hm
            refine lv_iinc (v := ((nI i) + 1)) (lv' := [(5, .int ((nI i) + 1)), (6, .int 0), (0, .ref fa), (1, .ref ta), (2, .ref na), (3, .int (mergedV f.2.2.1 tt.2.2.1 sz)), (4, .ref qa)]) hx hb dX1_mergedNode_98 hl (k := 1) rfl rfl (by decide) rfl (fun ls hl => ?_)
            refine lv_goto (tgt := 35) hx hb dX1_mergedNode_101 (by decide) ?_
            rw [nI_1] at hl
            rw [hcl, preF_v (c := (mgC f tt 64 0 (mergedV f.2.2.1 tt.2.2.1 sz) g)) (n := i) (v := (mergedV (ndc f (nI i)) (ndc tt (nI i)) (nd_cell 64 g (nI i)))) (by simp [mgC, c5, c6, c7]), mu_mu] at hm
            exact ih35 (i + 1) _ _ _ ⟨by omega, hm, hS, lv_sub hl [0, 2, 3, 4, 5, 6] rfl⟩ (by omega)
          · first | exact absurd c7 (by decide) | exact absurd (by decide) c7
        · refine lv_iconst (v := 1) hx hb dX1_mergedNode_56 (by decide) ?_
          refine lv_goto (tgt := 61) hx hb dX1_mergedNode_57 (by decide) ?_
          refine lv_istore (lv' := [(6, .int 1), (5, .int (nI i)), (0, .ref fa), (1, .ref ta), (2, .ref na), (3, .int (mergedV f.2.2.1 tt.2.2.1 sz)), (4, .ref qa)]) hx hb dX1_mergedNode_61 hl (by decide) rfl (fun ls hl => ?_)
          refine lv_aload hx hb dX1_mergedNode_63 (lv_at hl 6 rfl) ?_
          refine lv_iload hx hb dX1_mergedNode_65 (lv_at hl 1 rfl) ?_
          refine lv_iload hx hb dX1_mergedNode_67 (lv_at hl 0 rfl) ?_
          refine lv_if_eq (tgt := 76) hx hb dX1_mergedNode_69 (by decide) (fun c8 => ?_) (fun c8 => ?_)
          · first | exact absurd c8 (by decide) | exact absurd (by decide) c8
          · refine lv_iconst (v := 0) hx hb dX1_mergedNode_72 (by decide) ?_
            refine lv_goto (tgt := 97) hx hb dX1_mergedNode_73 (by decide) ?_
            refine m_iast hx hb hK hm hS 0 (mu_self _ _ _) rfl (vp_in_nI hlt9 (by decide)) dX1_mergedNode_97 (fun H locs hm hS => ?_)
            have hm : mm D (AZ z) (mu (mu M qa (.inl (k 0, 64, .inl (preF (mgC f tt 64 0 (mergedV f.2.2.1 tt.2.2.1 sz) g) i)))) qa (.inl (k 0, 64, .inl (upd (preF (mgC f tt 64 0 (mergedV f.2.2.1 tt.2.2.1 sz) g) i) ((nI i)).toNatClampNeg 0)))) H := hm
            refine lv_iinc (v := ((nI i) + 1)) (lv' := [(5, .int ((nI i) + 1)), (6, .int 1), (0, .ref fa), (1, .ref ta), (2, .ref na), (3, .int (mergedV f.2.2.1 tt.2.2.1 sz)), (4, .ref qa)]) hx hb dX1_mergedNode_98 hl (k := 1) rfl rfl (by decide) rfl (fun ls hl => ?_)
            refine lv_goto (tgt := 35) hx hb dX1_mergedNode_101 (by decide) ?_
            rw [nI_1] at hl
            rw [hcl, preF_v (c := (mgC f tt 64 0 (mergedV f.2.2.1 tt.2.2.1 sz) g)) (n := i) (v := 0) (by simp [mgC, c5, c6, c8]), mu_mu] at hm
            exact ih35 (i + 1) _ _ _ ⟨by omega, hm, hS, lv_sub hl [0, 2, 3, 4, 5, 6] rfl⟩ (by omega)
  · exact absurd (Option.some.inj c1) hne
