set_option maxHeartbeats 4000000 in
set_option maxRecDepth 100000 in
theorem i_X3_init (l : Launch) (D : va_G) (k : Nat → ClassId) (z : Nat) (M : mM) (κ : Nat → Option KD) (h0 : Nat) (r0 : Nat) (hk_r0 : κ r0 = some .tree) (ho : M h0 = some (.inr (3, [.null, .null, .null, .null, .null, .int 0, .int 0]))) (hko : κ h0 = none) (hT : TM k κ M) : mK l yX3_init wsX3_init ({ frames := 2, cells := 11, slots := 371, locals := 32 }) D k z [.ref h0, .ref r0] M (fun v M' => v = none ∧ ∃ κ', TM k κ' M' ∧ kx κ (mdel M h0) κ' M' ∧ κ' h0 = some .txn) := by
  refine Met.ofW (cc := cX3_init) (maxL := 3) (ret := none) (by decide) rfl ?_
  intro p e s m args below meth c s₁ B hml hv
  obtain ⟨rfl, hz, hcx, hm⟩ := hv
  have hx := B.exec
  have hb := B.bytes
  have hr := B.returns
  have hts := atoms_spec (ws := wsX3_init) B.pre
  have hown : s.vm.findClass RX3 = some m.cls := findClass_of_methodNamed B.named
  have hlocks := B.notSynchronized
  have hK := hcx.1
  have hS : va_S (AZ z) s.heap s.heap [] := va_S.rf
  have hA : ∀ q, s.heap.size ≤ q → AZ z q := fun q h => Nat.le_trans hz h
  have hin : meth.name = "<init>" := (name_of_methodNamed B.named B.method).1
  have hl := lv_entry ([.ref h0, .ref r0]) (n := 3) (Nat.le_of_ble_eq_true rfl)
  rw [lg_entry_eq]
  generalize (lg_sl ([.ref h0, .ref r0]) ++ List.replicate (3 - (lg_sl ([.ref h0, .ref r0])).length) Slot.unset).toArray = ls at hl ⊢
  have hl : lv_has ls 3 [(0, .ref h0), (1, .ref r0)] := hl
  have f12 := hts (.fieldLink RX3 12 "CommitTree$Transaction" "base" "LCommitTree$Tree;") (by decide +kernel)
  have f18 := hts (.fieldLink RX3 18 "CommitTree$Transaction" "marks" "[LCommitTree$Tree;") (by decide +kernel)
  have f22 := hts (.fieldLink RX3 22 "CommitTree$Transaction" "cellsRead" "[J") (by decide +kernel)
  have f26 := hts (.fieldLink RX3 26 "CommitTree$Transaction" "factsRead" "[J") (by decide +kernel)
  have f29 := hts (.fieldLink RX3 29 "CommitTree$Transaction" "open" "Z") (by decide +kernel)
  have f33 := hts (.fieldLink RX3 33 "CommitTree$Transaction" "marked" "I") (by decide +kernel)
  have f37 := hts (.fieldLink RX3 37 "CommitTree$Transaction" "view" "LCommitTree$Tree;") (by decide +kernel)
  have wX3 : ∀ w ∈ wsX30, w ∈ wsX3_init := by decide +kernel
  have wX4 : ∀ w ∈ wsX40, w ∈ wsX3_init := by decide +kernel
  have hT0 : TM k κ (mdel M h0) := hT.del hko
  have hE : kx κ (mdel M h0) κ M := kx.del0 _ _ _
  have hk0_h0 := hko
  have hz0_h0 : mdel M h0 h0 = none := if_pos rfl
  refine lv_aload_n hx hb dX3_init_0 rfl (lv_at hl 0 rfl) ?_
  refine W.objInit hx hb hown (hts (.methodLink RX3 3 objectInit) (by decide +kernel)) (hts (.instanceMethod objectInit) (by decide +kernel)) (hts (.code objectInit ⟨#[0xb1]⟩ 1 none) (by decide +kernel)) rfl (by rw [hml]; exact hl.1) rfl dX3_init_1 (Nat.le_of_ble_eq_true rfl) (Nat.le_of_ble_eq_true rfl) ?_
  refine W.eq (g2 := F0 m 4 ls []) rfl ?_
  refine lv_aload_n hx hb dX3_init_4 rfl (lv_at hl 0 rfl) ?_
  refine m_new (T := TX4) (N := 2) (ci := 4) (fs := [.null, .int 0]) hx hb hts wX4 tyX4 tyX4_ok hown (hts (.classLink RX3 9 RX4) (by decide +kernel)) (hts (.instantiable RX4 2) (by decide +kernel)) (hts (.initialized RX4) (by decide +kernel)) hK hm hS hA rfl (fun j hj => by rcases (show j = 0 ∨ j = 1 by omega) with rfl | rfl <;> rfl) (Nat.le_of_ble_eq_true rfl) (Nat.le_of_ble_eq_true rfl) dX3_init_5 (fun q1 H hq1 hm hS => ?_)
  refine W.widen (k := 1) (n := 2) (Nat.le_of_ble_eq_true rfl) (Nat.le_of_ble_eq_true rfl) ?_
  have ne_h0_q1 : h0 ≠ q1 := m_fr hq1 ho
  have ne_q1_h0 := Ne.symm ne_h0_q1
  have hm : mm D (AZ z) (mu M q1 (.inr (4, [.null, .int 0]))) H := hm
  have hz0_q1 := hE.no hT0 hT hq1
  have hk0_q1 := hT.no hq1
  have hR_2 : (mu M q1 (.inr (4, [.null, .int 0]))) h0 = _ := (mu_ne (m_fr hq1 ho)).trans ho
  have hM_q1 : (mu M q1 (.inr (4, [.null, .int 0]))) q1 = _ := mu_self _ _ _
  have hT : TM k κ (mu M q1 (.inr (4, [.null, .int 0]))) := hT.new0 hq1
  have hE : kx κ (mdel M h0) κ (mu M q1 (.inr (4, [.null, .int 0]))) := hE.new0 hq1
  generalize (mu M q1 (.inr (4, [.null, .int 0]))) = Mc1 at hm hT hE hR_2 hM_q1
  refine lv_dup hx hb dX3_init_8 rfl ?_
  refine m_kIN (As := []) (rest := [.ref q1, .ref h0]) (rm := { frames := 1, cells := 1, slots := 60, locals := 12 }) ⟨hx, hb, hml, hown, hts⟩ (i_X4_init l D k z _ _ q1  hM_q1 hk0_q1 hT) ⟨va_cnB 0 hts ggX3_init_X4_init rfl rfl rfl (hcx.2.2.2.2.1 (.methodLinkNest RX3 11 yX4_init "CommitTree") (by decide +kernel)) (hts (.initialized RX4) (by decide +kernel)) (by decide +kernel) ⟨Nat.le_of_ble_eq_true rfl, Nat.le_of_ble_eq_true rfl⟩, rfl, hts (.instanceMethod yX4_init) (by decide +kernel)⟩ hz hcx hm hS rfl hl.1 rfl (Nat.le_of_ble_eq_true rfl) dX3_init_9 ⟨Nat.le_of_ble_eq_true rfl, Nat.le_of_ble_eq_true rfl⟩ (fun v M1 H locs hv hm hS => ?_)
  obtain ⟨hv1, κ2, hT9, hE9, hkq9⟩ := hv
  subst hv1
  have hk_r0 := hE9.kD hT hk0_q1 hk_r0
  have hk1_h0_2 := hE9.2 h0 _ (del_of ne_h0_q1 hR_2) hk0_h0
  have hk0_h0 := (hE9.1 h0 _ (del_of ne_h0_q1 hR_2)).trans hk0_h0
  have hE := hE.transD hT0 hT hk0_q1 hz0_q1 hE9
  have hT := hT9
  have hk_q1 := hkq9
  obtain ⟨Mc2, hMx⟩ : ∃ x : mM, x = M1 := ⟨M1, rfl⟩
  subst hMx
  refine W.eq (g2 := F0 m 12 ls [.ref q1, .ref h0]) rfl ?_
  refine W.widen (k := 2) (n := 62) (Nat.le_of_ble_eq_true rfl) (Nat.le_of_ble_eq_true rfl) ?_
  have hm : mm D (AZ z) Mc2 H := hm
  refine m_putF (T := TX3) (N := 7) (ci := 3) (v := .ref q1) (ty := .object "CommitTree$Tree") hx hb hts wX3 tyX3 tyX3_ok nmX3 hown hK hm hS hk1_h0_2 rfl 0 (by decide) f12 (fun _ h9 => h9) rfl hin rfl (by decide +kernel) rfl rfl (Nat.le_of_ble_eq_true rfl) dX3_init_12 (fun H locs hm hS => ?_)
  have hm : mm D (AZ z) (mu Mc2 h0 (.inr (3, [.ref q1, .null, .null, .null, .null, .int 0, .int 0]))) H := hm
  have hT : TM k κ2 (mu Mc2 h0 (.inr (3, [.ref q1, .null, .null, .null, .null, .int 0, .int 0]))) := fun b9 d9 hb9 => by
    obtain ⟨e9, h9, h8⟩ := hT b9 d9 hb9
    exact ⟨e9, (mu_ne (fun q9 => by rw [q9, hk0_h0] at hb9; cases hb9)).trans h9, h8⟩
  have hE : kx κ (mdel M h0) κ2 (mu Mc2 h0 (.inr (3, [.ref q1, .null, .null, .null, .null, .int 0, .int 0]))) := ⟨hE.1, fun b9 e9 hb9 hn9 => (mu_ne (m_fr hz0_h0 hb9)).trans (hE.2 b9 e9 hb9 hn9)⟩
  have hM_h0 : (mu Mc2 h0 (.inr (3, [.ref q1, .null, .null, .null, .null, .int 0, .int 0]))) h0 = _ := mu_self _ _ _
  generalize (mu Mc2 h0 (.inr (3, [.ref q1, .null, .null, .null, .null, .int 0, .int 0]))) = Mc3 at hm hT hE hM_h0
  refine lv_aload_n hx hb dX3_init_15 rfl (lv_at hl 0 rfl) ?_
  refine lv_iconst (v := 3) hx hb dX3_init_16 (by decide) ?_
  refine m_newq hx hb hown (hts (.classLink RX3 9 RX4) (by decide +kernel)) hcx.2.2.2.1.1.2.2 hK 5 rfl hm hS hA (N' := 3) (by decide) rfl (by decide) (Nat.le_of_ble_eq_true rfl) (Nat.le_of_ble_eq_true rfl) dX3_init_17 (fun q3 H hq3 hm hS => ?_)
  refine W.widen (k := 3) (n := 65) (Nat.le_of_ble_eq_true rfl) (Nat.le_of_ble_eq_true rfl) ?_
  have ne_h0_q3 : h0 ≠ q3 := m_fr hq3 hM_h0
  have hm : mm D (AZ z) (mu Mc3 q3 (.inl (k 5, 3, .inr (.inr (.inr (.inr (fun _ => none))))))) H := hm
  have hz0_q3 := hE.no hT0 hT hq3
  have hk0_q3 := hT.no hq3
  have hR_4 : (mu Mc3 q3 (.inl (k 5, 3, .inr (.inr (.inr (.inr (fun _ => none))))))) h0 = _ := (mu_ne (m_fr hq3 hM_h0)).trans hM_h0
  have hM_q3 : (mu Mc3 q3 (.inl (k 5, 3, .inr (.inr (.inr (.inr (fun _ => none))))))) q3 = _ := mu_self _ _ _
  have hT : TM k κ2 (mu Mc3 q3 (.inl (k 5, 3, .inr (.inr (.inr (.inr (fun _ => none))))))) := hT.new0 hq3
  have hE : kx κ (mdel M h0) κ2 (mu Mc3 q3 (.inl (k 5, 3, .inr (.inr (.inr (.inr (fun _ => none))))))) := hE.new0 hq3
  generalize (mu Mc3 q3 (.inl (k 5, 3, .inr (.inr (.inr (.inr (fun _ => none))))))) = Mc4 at hm hT hE hR_4 hM_q3
  have hT9 : TM k (kup κ2 q3 .trees) Mc4 := hT.adopt hk0_q3 hM_q3 (show wf k (kup κ2 q3 .trees) .trees _ from ⟨(fun _ => none), rfl, fun _ _ h9 => by cases h9⟩)
  have hE : kx κ (mdel M h0) (kup κ2 q3 .trees) Mc4 := hE.adopt hz0_q3
  have hT := hT9
  have hk_r0 := kup_old (d := .trees) hk0_q3 hk_r0
  have hk_q1 := kup_old (d := .trees) hk0_q3 hk_q1
  have hk_q3 : kup κ2 q3 .trees q3 = some .trees := kup_self _ _ _
  have hk0_h0 : kup κ2 q3 .trees h0 = none := (if_neg ne_h0_q3).trans hk0_h0
  generalize kup κ2 q3 .trees = κ5 at hT hE hk_r0 hk_q1 hk_q3 hk0_h0
  refine m_putF (T := TX3) (N := 7) (ci := 3) (v := .ref q3) (ty := .array (.object "CommitTree$Tree")) hx hb hts wX3 tyX3 tyX3_ok nmX3 hown hK hm hS hR_4 rfl 2 (by decide) f18 (fun _ h9 => h9) rfl hin rfl (by decide +kernel) rfl rfl (Nat.le_of_ble_eq_true rfl) dX3_init_20 (fun H locs hm hS => ?_)
  have hm : mm D (AZ z) (mu Mc4 h0 (.inr (3, [.ref q1, .null, .ref q3, .null, .null, .int 0, .int 0]))) H := hm
  have hT : TM k κ5 (mu Mc4 h0 (.inr (3, [.ref q1, .null, .ref q3, .null, .null, .int 0, .int 0]))) := fun b9 d9 hb9 => by
    obtain ⟨e9, h9, h8⟩ := hT b9 d9 hb9
    exact ⟨e9, (mu_ne (fun q9 => by rw [q9, hk0_h0] at hb9; cases hb9)).trans h9, h8⟩
  have hE : kx κ (mdel M h0) κ5 (mu Mc4 h0 (.inr (3, [.ref q1, .null, .ref q3, .null, .null, .int 0, .int 0]))) := ⟨hE.1, fun b9 e9 hb9 hn9 => (mu_ne (m_fr hz0_h0 hb9)).trans (hE.2 b9 e9 hb9 hn9)⟩
  have hM_h0 : (mu Mc4 h0 (.inr (3, [.ref q1, .null, .ref q3, .null, .null, .int 0, .int 0]))) h0 = _ := mu_self _ _ _
  generalize (mu Mc4 h0 (.inr (3, [.ref q1, .null, .ref q3, .null, .null, .int 0, .int 0]))) = Mc6 at hm hT hE hM_h0
  refine lv_aload_n hx hb dX3_init_23 rfl (lv_at hl 0 rfl) ?_
  refine lv_bipush (v := 60) hx hb dX3_init_24 (by decide) ?_
  refine m_newa (atype := .long) hx hb (hts (.arrayClass .long) (by decide +kernel)) (ty := .long) rfl (fun C h => by cases h) hK 1 rfl hm hS hA (N' := 60) (a0 := (60, .inr (.inl (fun _ => 0)))) (fun cA => vp_cell_l cA _ _) (by decide) rfl (by decide) (Nat.le_of_ble_eq_true rfl) (Nat.le_of_ble_eq_true rfl) dX3_init_26 (fun q5 H hq5 hm hS => ?_)
  refine W.widen (k := 4) (n := 125) (Nat.le_of_ble_eq_true rfl) (Nat.le_of_ble_eq_true rfl) ?_
  have ne_h0_q5 : h0 ≠ q5 := m_fr hq5 hM_h0
  have hm : mm D (AZ z) (mu Mc6 q5 (.inl (k 1, 60, .inr (.inl (fun _ => 0))))) H := hm
  have hz0_q5 := hE.no hT0 hT hq5
  have hk0_q5 := hT.no hq5
  have hR_6 : (mu Mc6 q5 (.inl (k 1, 60, .inr (.inl (fun _ => 0))))) h0 = _ := (mu_ne (m_fr hq5 hM_h0)).trans hM_h0
  have hM_q5 : (mu Mc6 q5 (.inl (k 1, 60, .inr (.inl (fun _ => 0))))) q5 = _ := mu_self _ _ _
  have hT : TM k κ5 (mu Mc6 q5 (.inl (k 1, 60, .inr (.inl (fun _ => 0))))) := hT.new0 hq5
  have hE : kx κ (mdel M h0) κ5 (mu Mc6 q5 (.inl (k 1, 60, .inr (.inl (fun _ => 0))))) := hE.new0 hq5
  generalize (mu Mc6 q5 (.inl (k 1, 60, .inr (.inl (fun _ => 0))))) = Mc7 at hm hT hE hR_6 hM_q5
  have hT9 : TM k (kup κ5 q5 .longs) Mc7 := hT.adopt hk0_q5 hM_q5 (show wf k (kup κ5 q5 .longs) .longs _ from ⟨(fun _ => 0), rfl⟩)
  have hE : kx κ (mdel M h0) (kup κ5 q5 .longs) Mc7 := hE.adopt hz0_q5
  have hT := hT9
  have hk_r0 := kup_old (d := .longs) hk0_q5 hk_r0
  have hk_q1 := kup_old (d := .longs) hk0_q5 hk_q1
  have hk_q3 := kup_old (d := .longs) hk0_q5 hk_q3
  have hk_q5 : kup κ5 q5 .longs q5 = some .longs := kup_self _ _ _
  have hk0_h0 : kup κ5 q5 .longs h0 = none := (if_neg ne_h0_q5).trans hk0_h0
  generalize kup κ5 q5 .longs = κ8 at hT hE hk_r0 hk_q1 hk_q3 hk_q5 hk0_h0
  refine m_putF (T := TX3) (N := 7) (ci := 3) (v := .ref q5) (ty := .array .long) hx hb hts wX3 tyX3 tyX3_ok nmX3 hown hK hm hS hR_6 rfl 3 (by decide) f22 (fun _ h9 => h9) rfl hin rfl (by decide +kernel) rfl rfl (Nat.le_of_ble_eq_true rfl) dX3_init_28 (fun H locs hm hS => ?_)
  have hm : mm D (AZ z) (mu Mc7 h0 (.inr (3, [.ref q1, .null, .ref q3, .ref q5, .null, .int 0, .int 0]))) H := hm
  have hT : TM k κ8 (mu Mc7 h0 (.inr (3, [.ref q1, .null, .ref q3, .ref q5, .null, .int 0, .int 0]))) := fun b9 d9 hb9 => by
    obtain ⟨e9, h9, h8⟩ := hT b9 d9 hb9
    exact ⟨e9, (mu_ne (fun q9 => by rw [q9, hk0_h0] at hb9; cases hb9)).trans h9, h8⟩
  have hE : kx κ (mdel M h0) κ8 (mu Mc7 h0 (.inr (3, [.ref q1, .null, .ref q3, .ref q5, .null, .int 0, .int 0]))) := ⟨hE.1, fun b9 e9 hb9 hn9 => (mu_ne (m_fr hz0_h0 hb9)).trans (hE.2 b9 e9 hb9 hn9)⟩
  have hM_h0 : (mu Mc7 h0 (.inr (3, [.ref q1, .null, .ref q3, .ref q5, .null, .int 0, .int 0]))) h0 = _ := mu_self _ _ _
  generalize (mu Mc7 h0 (.inr (3, [.ref q1, .null, .ref q3, .ref q5, .null, .int 0, .int 0]))) = Mc9 at hm hT hE hM_h0
  refine lv_aload_n hx hb dX3_init_31 rfl (lv_at hl 0 rfl) ?_
  refine lv_bipush (v := 60) hx hb dX3_init_32 (by decide) ?_
  refine m_newa (atype := .long) hx hb (hts (.arrayClass .long) (by decide +kernel)) (ty := .long) rfl (fun C h => by cases h) hK 1 rfl hm hS hA (N' := 60) (a0 := (60, .inr (.inl (fun _ => 0)))) (fun cA => vp_cell_l cA _ _) (by decide) rfl (by decide) (Nat.le_of_ble_eq_true rfl) (Nat.le_of_ble_eq_true rfl) dX3_init_34 (fun q7 H hq7 hm hS => ?_)
  refine W.widen (k := 5) (n := 185) (Nat.le_of_ble_eq_true rfl) (Nat.le_of_ble_eq_true rfl) ?_
  have ne_h0_q7 : h0 ≠ q7 := m_fr hq7 hM_h0
  have hm : mm D (AZ z) (mu Mc9 q7 (.inl (k 1, 60, .inr (.inl (fun _ => 0))))) H := hm
  have hz0_q7 := hE.no hT0 hT hq7
  have hk0_q7 := hT.no hq7
  have hR_8 : (mu Mc9 q7 (.inl (k 1, 60, .inr (.inl (fun _ => 0))))) h0 = _ := (mu_ne (m_fr hq7 hM_h0)).trans hM_h0
  have hM_q7 : (mu Mc9 q7 (.inl (k 1, 60, .inr (.inl (fun _ => 0))))) q7 = _ := mu_self _ _ _
  have hT : TM k κ8 (mu Mc9 q7 (.inl (k 1, 60, .inr (.inl (fun _ => 0))))) := hT.new0 hq7
  have hE : kx κ (mdel M h0) κ8 (mu Mc9 q7 (.inl (k 1, 60, .inr (.inl (fun _ => 0))))) := hE.new0 hq7
  generalize (mu Mc9 q7 (.inl (k 1, 60, .inr (.inl (fun _ => 0))))) = Mc10 at hm hT hE hR_8 hM_q7
  have hT9 : TM k (kup κ8 q7 .longs) Mc10 := hT.adopt hk0_q7 hM_q7 (show wf k (kup κ8 q7 .longs) .longs _ from ⟨(fun _ => 0), rfl⟩)
  have hE : kx κ (mdel M h0) (kup κ8 q7 .longs) Mc10 := hE.adopt hz0_q7
  have hT := hT9
  have hk_r0 := kup_old (d := .longs) hk0_q7 hk_r0
  have hk_q1 := kup_old (d := .longs) hk0_q7 hk_q1
  have hk_q3 := kup_old (d := .longs) hk0_q7 hk_q3
  have hk_q5 := kup_old (d := .longs) hk0_q7 hk_q5
  have hk_q7 : kup κ8 q7 .longs q7 = some .longs := kup_self _ _ _
  have hk0_h0 : kup κ8 q7 .longs h0 = none := (if_neg ne_h0_q7).trans hk0_h0
  generalize kup κ8 q7 .longs = κ11 at hT hE hk_r0 hk_q1 hk_q3 hk_q5 hk_q7 hk0_h0
  refine m_putF (T := TX3) (N := 7) (ci := 3) (v := .ref q7) (ty := .array .long) hx hb hts wX3 tyX3 tyX3_ok nmX3 hown hK hm hS hR_8 rfl 4 (by decide) f26 (fun _ h9 => h9) rfl hin rfl (by decide +kernel) rfl rfl (Nat.le_of_ble_eq_true rfl) dX3_init_36 (fun H locs hm hS => ?_)
  have hm : mm D (AZ z) (mu Mc10 h0 (.inr (3, [.ref q1, .null, .ref q3, .ref q5, .ref q7, .int 0, .int 0]))) H := hm
  have hT : TM k κ11 (mu Mc10 h0 (.inr (3, [.ref q1, .null, .ref q3, .ref q5, .ref q7, .int 0, .int 0]))) := fun b9 d9 hb9 => by
    obtain ⟨e9, h9, h8⟩ := hT b9 d9 hb9
    exact ⟨e9, (mu_ne (fun q9 => by rw [q9, hk0_h0] at hb9; cases hb9)).trans h9, h8⟩
  have hE : kx κ (mdel M h0) κ11 (mu Mc10 h0 (.inr (3, [.ref q1, .null, .ref q3, .ref q5, .ref q7, .int 0, .int 0]))) := ⟨hE.1, fun b9 e9 hb9 hn9 => (mu_ne (m_fr hz0_h0 hb9)).trans (hE.2 b9 e9 hb9 hn9)⟩
  have hM_h0 : (mu Mc10 h0 (.inr (3, [.ref q1, .null, .ref q3, .ref q5, .ref q7, .int 0, .int 0]))) h0 = _ := mu_self _ _ _
  generalize (mu Mc10 h0 (.inr (3, [.ref q1, .null, .ref q3, .ref q5, .ref q7, .int 0, .int 0]))) = Mc12 at hm hT hE hM_h0
  refine lv_aload_n hx hb dX3_init_39 rfl (lv_at hl 0 rfl) ?_
  refine lv_iconst (v := 0) hx hb dX3_init_40 (by decide) ?_
  refine m_put (T := TX3) (N := 7) (ci := 3) (v := .int 0) (ty := .boolean) hx hb hts wX3 tyX3 tyX3_ok nmX3 hown hK hm hS hM_h0 rfl 5 (by decide) f29 (fun _ h9 => h9) rfl (by decide +kernel) rfl rfl (Nat.le_of_ble_eq_true rfl) dX3_init_41 (fun H locs hm hS => ?_)
  have hm : mm D (AZ z) (mu Mc12 h0 (.inr (3, [.ref q1, .null, .ref q3, .ref q5, .ref q7, .int 0, .int 0]))) H := hm
  have hT : TM k κ11 (mu Mc12 h0 (.inr (3, [.ref q1, .null, .ref q3, .ref q5, .ref q7, .int 0, .int 0]))) := fun b9 d9 hb9 => by
    obtain ⟨e9, h9, h8⟩ := hT b9 d9 hb9
    exact ⟨e9, (mu_ne (fun q9 => by rw [q9, hk0_h0] at hb9; cases hb9)).trans h9, h8⟩
  have hE : kx κ (mdel M h0) κ11 (mu Mc12 h0 (.inr (3, [.ref q1, .null, .ref q3, .ref q5, .ref q7, .int 0, .int 0]))) := ⟨hE.1, fun b9 e9 hb9 hn9 => (mu_ne (m_fr hz0_h0 hb9)).trans (hE.2 b9 e9 hb9 hn9)⟩
  have hM_h0 : (mu Mc12 h0 (.inr (3, [.ref q1, .null, .ref q3, .ref q5, .ref q7, .int 0, .int 0]))) h0 = _ := mu_self _ _ _
  generalize (mu Mc12 h0 (.inr (3, [.ref q1, .null, .ref q3, .ref q5, .ref q7, .int 0, .int 0]))) = Mc13 at hm hT hE hM_h0
  refine lv_aload_n hx hb dX3_init_44 rfl (lv_at hl 0 rfl) ?_
  refine lv_iconst (v := 0) hx hb dX3_init_45 (by decide) ?_
  refine m_put (T := TX3) (N := 7) (ci := 3) (v := .int 0) (ty := .int) hx hb hts wX3 tyX3 tyX3_ok nmX3 hown hK hm hS hM_h0 rfl 6 (by decide) f33 (fun _ h9 => h9) rfl (by decide +kernel) rfl rfl (Nat.le_of_ble_eq_true rfl) dX3_init_46 (fun H locs hm hS => ?_)
  have hm : mm D (AZ z) (mu Mc13 h0 (.inr (3, [.ref q1, .null, .ref q3, .ref q5, .ref q7, .int 0, .int 0]))) H := hm
  have hT : TM k κ11 (mu Mc13 h0 (.inr (3, [.ref q1, .null, .ref q3, .ref q5, .ref q7, .int 0, .int 0]))) := fun b9 d9 hb9 => by
    obtain ⟨e9, h9, h8⟩ := hT b9 d9 hb9
    exact ⟨e9, (mu_ne (fun q9 => by rw [q9, hk0_h0] at hb9; cases hb9)).trans h9, h8⟩
  have hE : kx κ (mdel M h0) κ11 (mu Mc13 h0 (.inr (3, [.ref q1, .null, .ref q3, .ref q5, .ref q7, .int 0, .int 0]))) := ⟨hE.1, fun b9 e9 hb9 hn9 => (mu_ne (m_fr hz0_h0 hb9)).trans (hE.2 b9 e9 hb9 hn9)⟩
  have hM_h0 : (mu Mc13 h0 (.inr (3, [.ref q1, .null, .ref q3, .ref q5, .ref q7, .int 0, .int 0]))) h0 = _ := mu_self _ _ _
  generalize (mu Mc13 h0 (.inr (3, [.ref q1, .null, .ref q3, .ref q5, .ref q7, .int 0, .int 0]))) = Mc14 at hm hT hE hM_h0
  refine lv_aload_n hx hb dX3_init_49 rfl (lv_at hl 0 rfl) ?_
  refine lv_aload_n hx hb dX3_init_50 rfl (lv_at hl 1 rfl) ?_
  refine m_putF (T := TX3) (N := 7) (ci := 3) (v := .ref r0) (ty := .object "CommitTree$Tree") hx hb hts wX3 tyX3 tyX3_ok nmX3 hown hK hm hS hM_h0 rfl 1 (by decide) f37 (fun _ h9 => h9) rfl hin rfl (by decide +kernel) rfl rfl (Nat.le_of_ble_eq_true rfl) dX3_init_51 (fun H locs hm hS => ?_)
  have hm : mm D (AZ z) (mu Mc14 h0 (.inr (3, [.ref q1, .ref r0, .ref q3, .ref q5, .ref q7, .int 0, .int 0]))) H := hm
  have hT : TM k κ11 (mu Mc14 h0 (.inr (3, [.ref q1, .ref r0, .ref q3, .ref q5, .ref q7, .int 0, .int 0]))) := fun b9 d9 hb9 => by
    obtain ⟨e9, h9, h8⟩ := hT b9 d9 hb9
    exact ⟨e9, (mu_ne (fun q9 => by rw [q9, hk0_h0] at hb9; cases hb9)).trans h9, h8⟩
  have hE : kx κ (mdel M h0) κ11 (mu Mc14 h0 (.inr (3, [.ref q1, .ref r0, .ref q3, .ref q5, .ref q7, .int 0, .int 0]))) := ⟨hE.1, fun b9 e9 hb9 hn9 => (mu_ne (m_fr hz0_h0 hb9)).trans (hE.2 b9 e9 hb9 hn9)⟩
  have hM_h0 : (mu Mc14 h0 (.inr (3, [.ref q1, .ref r0, .ref q3, .ref q5, .ref q7, .int 0, .int 0]))) h0 = _ := mu_self _ _ _
  generalize (mu Mc14 h0 (.inr (3, [.ref q1, .ref r0, .ref q3, .ref q5, .ref q7, .int 0, .int 0]))) = Mc15 at hm hT hE hM_h0
  refine lv_iconst (v := 0) hx hb dX3_init_54 (by decide) ?_
  refine lv_istore_n (lv' := [(2, .int 0), (0, .ref h0), (1, .ref r0)]) hx hb dX3_init_55 rfl hl (by decide) rfl (fun ls hl => ?_)
  refine lv_iload_n hx hb dX3_init_56 rfl (lv_at hl 0 rfl) ?_
  refine lv_aload_n hx hb dX3_init_57 rfl (lv_at hl 1 rfl) ?_
  refine m_get (T := TX3) (N := 7) (ci := 3) (v := .ref q3) hx hb hts wX3 hown hK hm hM_h0 rfl 2 (by decide) f18 (fun _ h9 => h9) rfl dX3_init_58 ?_
  obtain ⟨g_9, hM_q3_9, hg_9⟩ := hT.trees hk_q3
  refine m_alen hx hb hK hm 5 hM_q3_9 rfl (v := 3) rfl dX3_init_61 ?_
  refine lv_icmp_ge (tgt := 84) hx hb dX3_init_62 (by decide) (fun c10 => ?_) (fun c10 => ?_)
  · first | exact absurd c10 (by decide) | exact absurd (by decide) c10
  · refine lv_aload_n hx hb dX3_init_65 rfl (lv_at hl 1 rfl) ?_
    refine m_get (T := TX3) (N := 7) (ci := 3) (v := .ref q3) hx hb hts wX3 hown hK hm hM_h0 rfl 2 (by decide) f18 (fun _ h9 => h9) rfl dX3_init_66 ?_
    refine lv_iload_n hx hb dX3_init_69 rfl (lv_at hl 0 rfl) ?_
    refine m_new (T := TX4) (N := 2) (ci := 4) (fs := [.null, .int 0]) hx hb hts wX4 tyX4 tyX4_ok hown (hts (.classLink RX3 9 RX4) (by decide +kernel)) (hts (.instantiable RX4 2) (by decide +kernel)) (hts (.initialized RX4) (by decide +kernel)) hK hm hS hA rfl (fun j hj => by rcases (show j = 0 ∨ j = 1 by omega) with rfl | rfl <;> rfl) (Nat.le_of_ble_eq_true rfl) (Nat.le_of_ble_eq_true rfl) dX3_init_70 (fun q11 H hq11 hm hS => ?_)
    refine W.widen (k := 6) (n := 187) (Nat.le_of_ble_eq_true rfl) (Nat.le_of_ble_eq_true rfl) ?_
    have ne_h0_q11 : h0 ≠ q11 := m_fr hq11 hM_h0
    have ne_q11_h0 := Ne.symm ne_h0_q11
    have hm : mm D (AZ z) (mu Mc15 q11 (.inr (4, [.null, .int 0]))) H := hm
    have hz0_q11 := hE.no hT0 hT hq11
    have hk0_q11 := hT.no hq11
    have hR_12 : (mu Mc15 q11 (.inr (4, [.null, .int 0]))) h0 = _ := (mu_ne (m_fr hq11 hM_h0)).trans hM_h0
    have hR_13 : (mu Mc15 q11 (.inr (4, [.null, .int 0]))) q3 = _ := (mu_ne (m_fr hq11 hM_q3_9)).trans hM_q3_9
    have hM_q11 : (mu Mc15 q11 (.inr (4, [.null, .int 0]))) q11 = _ := mu_self _ _ _
    have hT : TM k κ11 (mu Mc15 q11 (.inr (4, [.null, .int 0]))) := hT.new0 hq11
    have hE : kx κ (mdel M h0) κ11 (mu Mc15 q11 (.inr (4, [.null, .int 0]))) := hE.new0 hq11
    generalize (mu Mc15 q11 (.inr (4, [.null, .int 0]))) = Mc16 at hm hT hE hR_12 hR_13 hM_q11
    refine lv_dup hx hb dX3_init_73 rfl ?_
    refine m_kIN (As := []) (rest := [.ref q11, .int 0, .ref q3]) (rm := { frames := 1, cells := 1, slots := 60, locals := 12 }) ⟨hx, hb, hml, hown, hts⟩ (i_X4_init l D k z _ _ q11  hM_q11 hk0_q11 hT) ⟨va_cnB 0 hts ggX3_init_X4_init rfl rfl rfl (hcx.2.2.2.2.1 (.methodLinkNest RX3 11 yX4_init "CommitTree") (by decide +kernel)) (hts (.initialized RX4) (by decide +kernel)) (by decide +kernel) ⟨Nat.le_of_ble_eq_true rfl, Nat.le_of_ble_eq_true rfl⟩, rfl, hts (.instanceMethod yX4_init) (by decide +kernel)⟩ hz hcx hm hS rfl hl.1 rfl (Nat.le_of_ble_eq_true rfl) dX3_init_74 ⟨Nat.le_of_ble_eq_true rfl, Nat.le_of_ble_eq_true rfl⟩ (fun v M1 H locs hv hm hS => ?_)
    obtain ⟨hv1, κ17, hT9, hE9, hkq9⟩ := hv
    subst hv1
    have hk_r0 := hE9.kD hT hk0_q11 hk_r0
    have hk_q1 := hE9.kD hT hk0_q11 hk_q1
    have hk_q3 := hE9.kD hT hk0_q11 hk_q3
    have hk_q5 := hE9.kD hT hk0_q11 hk_q5
    have hk_q7 := hE9.kD hT hk0_q11 hk_q7
    have hk1_h0_17 := hE9.2 h0 _ (del_of ne_h0_q11 hR_12) hk0_h0
    have hk0_h0 := (hE9.1 h0 _ (del_of ne_h0_q11 hR_12)).trans hk0_h0
    have hE := hE.transD hT0 hT hk0_q11 hz0_q11 hE9
    have hT := hT9
    have hk_q11 := hkq9
    obtain ⟨Mc17, hMx⟩ : ∃ x : mM, x = M1 := ⟨M1, rfl⟩
    subst hMx
    refine W.eq (g2 := F0 m 77 ls [.ref q11, .int 0, .ref q3]) rfl ?_
    refine W.widen (k := 7) (n := 247) (Nat.le_of_ble_eq_true rfl) (Nat.le_of_ble_eq_true rfl) ?_
    have hm : mm D (AZ z) Mc17 H := hm
    obtain ⟨g_14, hM_q3_14, hg_14⟩ := hT.trees hk_q3
    obtain ⟨v0_15, v1_15, hM_q11_15, hk_v0_15, hn_v1_15⟩ := hT.tree hk_q11
    refine m_aast (r := (RX4, TX4, 2)) hx hb hK hm hS 5 4 hM_q3_14 rfl hM_q11_15 rfl (by unfold vp_in; decide) dX3_init_77 (fun H locs hm hS => ?_)
    have hm : mm D (AZ z) (mu Mc17 q3 (.inl (k 5, 3, .inr (.inr (.inr (.inr (va_up g_14 (0 : Int32).toNatClampNeg (some q11)))))))) H := hm
    have hR_16 : (mu Mc17 q3 (.inl (k 5, 3, .inr (.inr (.inr (.inr (va_up g_14 (0 : Int32).toNatClampNeg (some q11)))))))) h0 = _ := (mu_ne (fun q9 => by rw [q9] at hk0_h0; rw [hk0_h0] at hk_q3; cases hk_q3)).trans hk1_h0_17
    have hR_17 : (mu Mc17 q3 (.inl (k 5, 3, .inr (.inr (.inr (.inr (va_up g_14 (0 : Int32).toNatClampNeg (some q11)))))))) q11 = _ := (mu_ne (kd_ne hk_q11 hk_q3 (by decide))).trans hM_q11_15
    have hT : TM k κ17 (mu Mc17 q3 (.inl (k 5, 3, .inr (.inr (.inr (.inr (va_up g_14 (0 : Int32).toNatClampNeg (some q11)))))))) := hT.put hk_q3 (show wf k κ17 .trees (.inl (k 5, 3, .inr (.inr (.inr (.inr (va_up g_14 (0 : Int32).toNatClampNeg (some q11))))))) from ⟨(va_up g_14 (0 : Int32).toNatClampNeg (some q11)), rfl, fun j9 a9 h9 => by
      by_cases hj9 : j9 = (0 : Int32).toNatClampNeg
      · rw [hj9, va_up_self] at h9; cases h9; exact hk_q11
      · rw [va_up_ne _ _ hj9] at h9; exact hg_14 _ _ h9⟩)
    have hE : kx κ (mdel M h0) κ17 (mu Mc17 q3 (.inl (k 5, 3, .inr (.inr (.inr (.inr (va_up g_14 (0 : Int32).toNatClampNeg (some q11)))))))) := hE.put hk_q3
    generalize (mu Mc17 q3 (.inl (k 5, 3, .inr (.inr (.inr (.inr (va_up g_14 (0 : Int32).toNatClampNeg (some q11)))))))) = Mc18 at hm hT hE hR_16 hR_17
    refine lv_iinc (v := 1) (lv' := [(2, .int 1), (0, .ref h0), (1, .ref r0)]) hx hb dX3_init_78 hl (k := 0) rfl rfl (by decide) rfl (fun ls hl => ?_)
    refine lv_goto (tgt := 56) hx hb dX3_init_81 (by decide) ?_
    refine lv_iload_n hx hb dX3_init_56 rfl (lv_at hl 0 rfl) ?_
    refine lv_aload_n hx hb dX3_init_57 rfl (lv_at hl 1 rfl) ?_
    refine m_get (T := TX3) (N := 7) (ci := 3) (v := .ref q3) hx hb hts wX3 hown hK hm hR_16 rfl 2 (by decide) f18 (fun _ h9 => h9) rfl dX3_init_58 ?_
    obtain ⟨g_18, hM_q3_18, hg_18⟩ := hT.trees hk_q3
    refine m_alen hx hb hK hm 5 hM_q3_18 rfl (v := 3) rfl dX3_init_61 ?_
    refine lv_icmp_ge (tgt := 84) hx hb dX3_init_62 (by decide) (fun c19 => ?_) (fun c19 => ?_)
    · first | exact absurd c19 (by decide) | exact absurd (by decide) c19
    · refine lv_aload_n hx hb dX3_init_65 rfl (lv_at hl 1 rfl) ?_
      refine m_get (T := TX3) (N := 7) (ci := 3) (v := .ref q3) hx hb hts wX3 hown hK hm hR_16 rfl 2 (by decide) f18 (fun _ h9 => h9) rfl dX3_init_66 ?_
      refine lv_iload_n hx hb dX3_init_69 rfl (lv_at hl 0 rfl) ?_
      refine m_new (T := TX4) (N := 2) (ci := 4) (fs := [.null, .int 0]) hx hb hts wX4 tyX4 tyX4_ok hown (hts (.classLink RX3 9 RX4) (by decide +kernel)) (hts (.instantiable RX4 2) (by decide +kernel)) (hts (.initialized RX4) (by decide +kernel)) hK hm hS hA rfl (fun j hj => by rcases (show j = 0 ∨ j = 1 by omega) with rfl | rfl <;> rfl) (Nat.le_of_ble_eq_true rfl) (Nat.le_of_ble_eq_true rfl) dX3_init_70 (fun q20 H hq20 hm hS => ?_)
      refine W.widen (k := 8) (n := 249) (Nat.le_of_ble_eq_true rfl) (Nat.le_of_ble_eq_true rfl) ?_
      have ne_h0_q20 : h0 ≠ q20 := m_fr hq20 hR_16
      have ne_q20_h0 := Ne.symm ne_h0_q20
      have hm : mm D (AZ z) (mu Mc18 q20 (.inr (4, [.null, .int 0]))) H := hm
      have hz0_q20 := hE.no hT0 hT hq20
      have hk0_q20 := hT.no hq20
      have hR_21 : (mu Mc18 q20 (.inr (4, [.null, .int 0]))) h0 = _ := (mu_ne (m_fr hq20 hR_16)).trans hR_16
      have hR_22 : (mu Mc18 q20 (.inr (4, [.null, .int 0]))) q11 = _ := (mu_ne (m_fr hq20 hR_17)).trans hR_17
      have hR_23 : (mu Mc18 q20 (.inr (4, [.null, .int 0]))) q3 = _ := (mu_ne (m_fr hq20 hM_q3_18)).trans hM_q3_18
      have hM_q20 : (mu Mc18 q20 (.inr (4, [.null, .int 0]))) q20 = _ := mu_self _ _ _
      have hT : TM k κ17 (mu Mc18 q20 (.inr (4, [.null, .int 0]))) := hT.new0 hq20
      have hE : kx κ (mdel M h0) κ17 (mu Mc18 q20 (.inr (4, [.null, .int 0]))) := hE.new0 hq20
      generalize (mu Mc18 q20 (.inr (4, [.null, .int 0]))) = Mc19 at hm hT hE hR_21 hR_22 hR_23 hM_q20
      refine lv_dup hx hb dX3_init_73 rfl ?_
      refine m_kIN (As := []) (rest := [.ref q20, .int 1, .ref q3]) (rm := { frames := 1, cells := 1, slots := 60, locals := 12 }) ⟨hx, hb, hml, hown, hts⟩ (i_X4_init l D k z _ _ q20  hM_q20 hk0_q20 hT) ⟨va_cnB 0 hts ggX3_init_X4_init rfl rfl rfl (hcx.2.2.2.2.1 (.methodLinkNest RX3 11 yX4_init "CommitTree") (by decide +kernel)) (hts (.initialized RX4) (by decide +kernel)) (by decide +kernel) ⟨Nat.le_of_ble_eq_true rfl, Nat.le_of_ble_eq_true rfl⟩, rfl, hts (.instanceMethod yX4_init) (by decide +kernel)⟩ hz hcx hm hS rfl hl.1 rfl (Nat.le_of_ble_eq_true rfl) dX3_init_74 ⟨Nat.le_of_ble_eq_true rfl, Nat.le_of_ble_eq_true rfl⟩ (fun v M1 H locs hv hm hS => ?_)
      obtain ⟨hv1, κ20, hT9, hE9, hkq9⟩ := hv
      subst hv1
      have hk_r0 := hE9.kD hT hk0_q20 hk_r0
      have hk_q1 := hE9.kD hT hk0_q20 hk_q1
      have hk_q3 := hE9.kD hT hk0_q20 hk_q3
      have hk_q5 := hE9.kD hT hk0_q20 hk_q5
      have hk_q7 := hE9.kD hT hk0_q20 hk_q7
      have hk_q11 := hE9.kD hT hk0_q20 hk_q11
      have hk_v0_15 := hE9.kD hT hk0_q20 hk_v0_15
      have hk1_h0_20 := hE9.2 h0 _ (del_of ne_h0_q20 hR_21) hk0_h0
      have hk0_h0 := (hE9.1 h0 _ (del_of ne_h0_q20 hR_21)).trans hk0_h0
      have hE := hE.transD hT0 hT hk0_q20 hz0_q20 hE9
      have hT := hT9
      have hk_q20 := hkq9
      obtain ⟨Mc20, hMx⟩ : ∃ x : mM, x = M1 := ⟨M1, rfl⟩
      subst hMx
      refine W.eq (g2 := F0 m 77 ls [.ref q20, .int 1, .ref q3]) rfl ?_
      refine W.widen (k := 9) (n := 309) (Nat.le_of_ble_eq_true rfl) (Nat.le_of_ble_eq_true rfl) ?_
      have hm : mm D (AZ z) Mc20 H := hm
      obtain ⟨g_24, hM_q3_24, hg_24⟩ := hT.trees hk_q3
      obtain ⟨v0_25, v1_25, hM_q20_25, hk_v0_25, hn_v1_25⟩ := hT.tree hk_q20
      refine m_aast (r := (RX4, TX4, 2)) hx hb hK hm hS 5 4 hM_q3_24 rfl hM_q20_25 rfl (by unfold vp_in; decide) dX3_init_77 (fun H locs hm hS => ?_)
      have hm : mm D (AZ z) (mu Mc20 q3 (.inl (k 5, 3, .inr (.inr (.inr (.inr (va_up g_24 (1 : Int32).toNatClampNeg (some q20)))))))) H := hm
      have hR_26 : (mu Mc20 q3 (.inl (k 5, 3, .inr (.inr (.inr (.inr (va_up g_24 (1 : Int32).toNatClampNeg (some q20)))))))) h0 = _ := (mu_ne (fun q9 => by rw [q9] at hk0_h0; rw [hk0_h0] at hk_q3; cases hk_q3)).trans hk1_h0_20
      have hR_27 : (mu Mc20 q3 (.inl (k 5, 3, .inr (.inr (.inr (.inr (va_up g_24 (1 : Int32).toNatClampNeg (some q20)))))))) q20 = _ := (mu_ne (kd_ne hk_q20 hk_q3 (by decide))).trans hM_q20_25
      have hT : TM k κ20 (mu Mc20 q3 (.inl (k 5, 3, .inr (.inr (.inr (.inr (va_up g_24 (1 : Int32).toNatClampNeg (some q20)))))))) := hT.put hk_q3 (show wf k κ20 .trees (.inl (k 5, 3, .inr (.inr (.inr (.inr (va_up g_24 (1 : Int32).toNatClampNeg (some q20))))))) from ⟨(va_up g_24 (1 : Int32).toNatClampNeg (some q20)), rfl, fun j9 a9 h9 => by
        by_cases hj9 : j9 = (1 : Int32).toNatClampNeg
        · rw [hj9, va_up_self] at h9; cases h9; exact hk_q20
        · rw [va_up_ne _ _ hj9] at h9; exact hg_24 _ _ h9⟩)
      have hE : kx κ (mdel M h0) κ20 (mu Mc20 q3 (.inl (k 5, 3, .inr (.inr (.inr (.inr (va_up g_24 (1 : Int32).toNatClampNeg (some q20)))))))) := hE.put hk_q3
      generalize (mu Mc20 q3 (.inl (k 5, 3, .inr (.inr (.inr (.inr (va_up g_24 (1 : Int32).toNatClampNeg (some q20)))))))) = Mc21 at hm hT hE hR_26 hR_27
      refine lv_iinc (v := 2) (lv' := [(2, .int 2), (0, .ref h0), (1, .ref r0)]) hx hb dX3_init_78 hl (k := 0) rfl rfl (by decide) rfl (fun ls hl => ?_)
      refine lv_goto (tgt := 56) hx hb dX3_init_81 (by decide) ?_
      refine lv_iload_n hx hb dX3_init_56 rfl (lv_at hl 0 rfl) ?_
      refine lv_aload_n hx hb dX3_init_57 rfl (lv_at hl 1 rfl) ?_
      refine m_get (T := TX3) (N := 7) (ci := 3) (v := .ref q3) hx hb hts wX3 hown hK hm hR_26 rfl 2 (by decide) f18 (fun _ h9 => h9) rfl dX3_init_58 ?_
      obtain ⟨g_28, hM_q3_28, hg_28⟩ := hT.trees hk_q3
      refine m_alen hx hb hK hm 5 hM_q3_28 rfl (v := 3) rfl dX3_init_61 ?_
      refine lv_icmp_ge (tgt := 84) hx hb dX3_init_62 (by decide) (fun c29 => ?_) (fun c29 => ?_)
      · first | exact absurd c29 (by decide) | exact absurd (by decide) c29
      · refine lv_aload_n hx hb dX3_init_65 rfl (lv_at hl 1 rfl) ?_
        refine m_get (T := TX3) (N := 7) (ci := 3) (v := .ref q3) hx hb hts wX3 hown hK hm hR_26 rfl 2 (by decide) f18 (fun _ h9 => h9) rfl dX3_init_66 ?_
        refine lv_iload_n hx hb dX3_init_69 rfl (lv_at hl 0 rfl) ?_
        refine m_new (T := TX4) (N := 2) (ci := 4) (fs := [.null, .int 0]) hx hb hts wX4 tyX4 tyX4_ok hown (hts (.classLink RX3 9 RX4) (by decide +kernel)) (hts (.instantiable RX4 2) (by decide +kernel)) (hts (.initialized RX4) (by decide +kernel)) hK hm hS hA rfl (fun j hj => by rcases (show j = 0 ∨ j = 1 by omega) with rfl | rfl <;> rfl) (Nat.le_of_ble_eq_true rfl) (Nat.le_of_ble_eq_true rfl) dX3_init_70 (fun q30 H hq30 hm hS => ?_)
        refine W.widen (k := 10) (n := 311) (Nat.le_of_ble_eq_true rfl) (Nat.le_of_ble_eq_true rfl) ?_
        have ne_h0_q30 : h0 ≠ q30 := m_fr hq30 hR_26
        have ne_q30_h0 := Ne.symm ne_h0_q30
        have hm : mm D (AZ z) (mu Mc21 q30 (.inr (4, [.null, .int 0]))) H := hm
        have hz0_q30 := hE.no hT0 hT hq30
        have hk0_q30 := hT.no hq30
        have hR_31 : (mu Mc21 q30 (.inr (4, [.null, .int 0]))) h0 = _ := (mu_ne (m_fr hq30 hR_26)).trans hR_26
        have hR_32 : (mu Mc21 q30 (.inr (4, [.null, .int 0]))) q20 = _ := (mu_ne (m_fr hq30 hR_27)).trans hR_27
        have hR_33 : (mu Mc21 q30 (.inr (4, [.null, .int 0]))) q3 = _ := (mu_ne (m_fr hq30 hM_q3_28)).trans hM_q3_28
        have hM_q30 : (mu Mc21 q30 (.inr (4, [.null, .int 0]))) q30 = _ := mu_self _ _ _
        have hT : TM k κ20 (mu Mc21 q30 (.inr (4, [.null, .int 0]))) := hT.new0 hq30
        have hE : kx κ (mdel M h0) κ20 (mu Mc21 q30 (.inr (4, [.null, .int 0]))) := hE.new0 hq30
        generalize (mu Mc21 q30 (.inr (4, [.null, .int 0]))) = Mc22 at hm hT hE hR_31 hR_32 hR_33 hM_q30
        refine lv_dup hx hb dX3_init_73 rfl ?_
        refine m_kIN (As := []) (rest := [.ref q30, .int 2, .ref q3]) (rm := { frames := 1, cells := 1, slots := 60, locals := 12 }) ⟨hx, hb, hml, hown, hts⟩ (i_X4_init l D k z _ _ q30  hM_q30 hk0_q30 hT) ⟨va_cnB 0 hts ggX3_init_X4_init rfl rfl rfl (hcx.2.2.2.2.1 (.methodLinkNest RX3 11 yX4_init "CommitTree") (by decide +kernel)) (hts (.initialized RX4) (by decide +kernel)) (by decide +kernel) ⟨Nat.le_of_ble_eq_true rfl, Nat.le_of_ble_eq_true rfl⟩, rfl, hts (.instanceMethod yX4_init) (by decide +kernel)⟩ hz hcx hm hS rfl hl.1 rfl (Nat.le_of_ble_eq_true rfl) dX3_init_74 ⟨Nat.le_of_ble_eq_true rfl, Nat.le_of_ble_eq_true rfl⟩ (fun v M1 H locs hv hm hS => ?_)
        obtain ⟨hv1, κ23, hT9, hE9, hkq9⟩ := hv
        subst hv1
        have hk_r0 := hE9.kD hT hk0_q30 hk_r0
        have hk_q1 := hE9.kD hT hk0_q30 hk_q1
        have hk_q3 := hE9.kD hT hk0_q30 hk_q3
        have hk_q5 := hE9.kD hT hk0_q30 hk_q5
        have hk_q7 := hE9.kD hT hk0_q30 hk_q7
        have hk_q11 := hE9.kD hT hk0_q30 hk_q11
        have hk_v0_15 := hE9.kD hT hk0_q30 hk_v0_15
        have hk_q20 := hE9.kD hT hk0_q30 hk_q20
        have hk_v0_25 := hE9.kD hT hk0_q30 hk_v0_25
        have hk1_h0_23 := hE9.2 h0 _ (del_of ne_h0_q30 hR_31) hk0_h0
        have hk0_h0 := (hE9.1 h0 _ (del_of ne_h0_q30 hR_31)).trans hk0_h0
        have hE := hE.transD hT0 hT hk0_q30 hz0_q30 hE9
        have hT := hT9
        have hk_q30 := hkq9
        obtain ⟨Mc23, hMx⟩ : ∃ x : mM, x = M1 := ⟨M1, rfl⟩
        subst hMx
        refine W.eq (g2 := F0 m 77 ls [.ref q30, .int 2, .ref q3]) rfl ?_
        refine W.widen (k := 11) (n := 371) (Nat.le_of_ble_eq_true rfl) (Nat.le_of_ble_eq_true rfl) ?_
        have hm : mm D (AZ z) Mc23 H := hm
        obtain ⟨g_34, hM_q3_34, hg_34⟩ := hT.trees hk_q3
        obtain ⟨v0_35, v1_35, hM_q30_35, hk_v0_35, hn_v1_35⟩ := hT.tree hk_q30
        refine m_aast (r := (RX4, TX4, 2)) hx hb hK hm hS 5 4 hM_q3_34 rfl hM_q30_35 rfl (by unfold vp_in; decide) dX3_init_77 (fun H locs hm hS => ?_)
        have hm : mm D (AZ z) (mu Mc23 q3 (.inl (k 5, 3, .inr (.inr (.inr (.inr (va_up g_34 (2 : Int32).toNatClampNeg (some q30)))))))) H := hm
        have hR_36 : (mu Mc23 q3 (.inl (k 5, 3, .inr (.inr (.inr (.inr (va_up g_34 (2 : Int32).toNatClampNeg (some q30)))))))) h0 = _ := (mu_ne (fun q9 => by rw [q9] at hk0_h0; rw [hk0_h0] at hk_q3; cases hk_q3)).trans hk1_h0_23
        have hR_37 : (mu Mc23 q3 (.inl (k 5, 3, .inr (.inr (.inr (.inr (va_up g_34 (2 : Int32).toNatClampNeg (some q30)))))))) q30 = _ := (mu_ne (kd_ne hk_q30 hk_q3 (by decide))).trans hM_q30_35
        have hT : TM k κ23 (mu Mc23 q3 (.inl (k 5, 3, .inr (.inr (.inr (.inr (va_up g_34 (2 : Int32).toNatClampNeg (some q30)))))))) := hT.put hk_q3 (show wf k κ23 .trees (.inl (k 5, 3, .inr (.inr (.inr (.inr (va_up g_34 (2 : Int32).toNatClampNeg (some q30))))))) from ⟨(va_up g_34 (2 : Int32).toNatClampNeg (some q30)), rfl, fun j9 a9 h9 => by
          by_cases hj9 : j9 = (2 : Int32).toNatClampNeg
          · rw [hj9, va_up_self] at h9; cases h9; exact hk_q30
          · rw [va_up_ne _ _ hj9] at h9; exact hg_34 _ _ h9⟩)
        have hE : kx κ (mdel M h0) κ23 (mu Mc23 q3 (.inl (k 5, 3, .inr (.inr (.inr (.inr (va_up g_34 (2 : Int32).toNatClampNeg (some q30)))))))) := hE.put hk_q3
        generalize (mu Mc23 q3 (.inl (k 5, 3, .inr (.inr (.inr (.inr (va_up g_34 (2 : Int32).toNatClampNeg (some q30)))))))) = Mc24 at hm hT hE hR_36 hR_37
        refine lv_iinc (v := 3) (lv' := [(2, .int 3), (0, .ref h0), (1, .ref r0)]) hx hb dX3_init_78 hl (k := 0) rfl rfl (by decide) rfl (fun ls hl => ?_)
        refine lv_goto (tgt := 56) hx hb dX3_init_81 (by decide) ?_
        refine lv_iload_n hx hb dX3_init_56 rfl (lv_at hl 0 rfl) ?_
        refine lv_aload_n hx hb dX3_init_57 rfl (lv_at hl 1 rfl) ?_
        refine m_get (T := TX3) (N := 7) (ci := 3) (v := .ref q3) hx hb hts wX3 hown hK hm hR_36 rfl 2 (by decide) f18 (fun _ h9 => h9) rfl dX3_init_58 ?_
        obtain ⟨g_38, hM_q3_38, hg_38⟩ := hT.trees hk_q3
        refine m_alen hx hb hK hm 5 hM_q3_38 rfl (v := 3) rfl dX3_init_61 ?_
        refine lv_icmp_ge (tgt := 84) hx hb dX3_init_62 (by decide) (fun c39 => ?_) (fun c39 => ?_)
        · have hk_old := hk0_h0
          have hk_r0 := kup_old (d := .txn) hk0_h0 hk_r0
          have hk_q1 := kup_old (d := .txn) hk0_h0 hk_q1
          have hk_q3 := kup_old (d := .txn) hk0_h0 hk_q3
          have hk_q5 := kup_old (d := .txn) hk0_h0 hk_q5
          have hk_q7 := kup_old (d := .txn) hk0_h0 hk_q7
          have hk_q11 := kup_old (d := .txn) hk0_h0 hk_q11
          have hk_v0_15 := kup_old (d := .txn) hk0_h0 hk_v0_15
          have hk_q20 := kup_old (d := .txn) hk0_h0 hk_q20
          have hk_v0_25 := kup_old (d := .txn) hk0_h0 hk_v0_25
          have hk_q30 := kup_old (d := .txn) hk0_h0 hk_q30
          have hk_v0_35 := kup_old (d := .txn) hk0_h0 hk_v0_35
          have hT : TM k (kup κ23 h0 .txn) Mc24 := hT.adopt hk0_h0 hR_36 (show wf k (kup κ23 h0 .txn) .txn _ from ⟨q1, r0, q3, q5, q7, 0, 0, rfl, hk_q1, hk_r0, hk_q3, hk_q5, hk_q7, (Or.inl rfl)⟩)
          have hE : kx κ (mdel M h0) (kup κ23 h0 .txn) Mc24 := hE.adopt hz0_h0
          have hk_h0 : kup κ23 h0 .txn h0 = some .txn := kup_self _ _ _
          generalize kup κ23 h0 .txn = κ25 at hT hE hk_r0 hk_q1 hk_q3 hk_q5 hk_q7 hk_q11 hk_v0_15 hk_q20 hk_v0_25 hk_q30 hk_v0_35 hk_h0
          refine W.vret hx hb hr (fun t ht hW => ⟨⟨none, _, rfl, ?_, by rw [ht]; exact hm⟩, hS.F ht⟩) hS.2.2 dX3_init_84
          exact ⟨rfl, _, hT, hE, hk_h0⟩
        · first | exact absurd c39 (by decide) | exact absurd (by decide) c39

