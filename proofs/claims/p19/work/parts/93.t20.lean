set_option maxHeartbeats 4000000 in
set_option maxRecDepth 100000 in
theorem i_X5_init (l : Launch) (D : va_G) (k : Nat → ClassId) (z : Nat) (M : mM) (κ : Nat → Option KD) (h0 : Nat)  (ho : M h0 = some (.inr (5, [.null, .null, .null, .null, .null, .null, .int 0, .int 0, .int 0, .int 0, .int 0]))) (hko : κ h0 = none) (hT : TM k κ M) : mK l yX5_init wsX5_init ({ frames := 4, cells := 109, slots := 3264, locals := 81 }) D k z [.ref h0] M (fun v M' => v = none ∧ ∃ κ', TM k κ' M' ∧ kx κ (mdel M h0) κ' M' ∧ κ' h0 = some .top) := by
  refine Met.ofW (cc := cX5_init) (maxL := 2) (ret := none) (by decide) rfl ?_
  intro p e s m args below meth c s₁ B hml hv
  obtain ⟨rfl, hz, hcx, hm⟩ := hv
  have hx := B.exec
  have hb := B.bytes
  have hr := B.returns
  have hts := atoms_spec (ws := wsX5_init) B.pre
  have hown : s.vm.findClass RX5 = some m.cls := findClass_of_methodNamed B.named
  have hlocks := B.notSynchronized
  have hK := hcx.1
  have hS : va_S (AZ z) s.heap s.heap [] := va_S.rf
  have hA : ∀ q, s.heap.size ≤ q → AZ z q := fun q h => Nat.le_trans hz h
  have hin : meth.name = "<init>" := (name_of_methodNamed B.named B.method).1
  have hl := lv_entry ([.ref h0]) (n := 2) (Nat.le_of_ble_eq_true rfl)
  rw [lg_entry_eq]
  generalize (lg_sl ([.ref h0]) ++ List.replicate (2 - (lg_sl ([.ref h0])).length) Slot.unset).toArray = ls at hl ⊢
  have hl : lv_has ls 2 [(0, .ref h0)] := hl
  have f10 := hts (.fieldLink RX5 10 "CommitTree" "tree" "LCommitTree$Tree;") (by decide +kernel)
  have f26 := hts (.fieldLink RX5 26 "CommitTree" "next" "LCommitTree$Tree;") (by decide +kernel)
  have f32 := hts (.fieldLink RX5 32 "CommitTree" "merge" "LCommitTree$Merge;") (by decide +kernel)
  have f39 := hts (.fieldLink RX5 39 "CommitTree" "disk" "LCommitTree$Disk;") (by decide +kernel)
  have f45 := hts (.fieldLink RX5 45 "CommitTree" "transactions" "[LCommitTree$Transaction;") (by decide +kernel)
  have f52 := hts (.fieldLink RX5 52 "CommitTree" "outside" "LCommitTree$Transaction;") (by decide +kernel)
  have f56 := hts (.fieldLink RX5 56 "CommitTree" "newestNode" "I") (by decide +kernel)
  have f60 := hts (.fieldLink RX5 60 "CommitTree" "committed" "I") (by decide +kernel)
  have f63 := hts (.fieldLink RX5 63 "CommitTree" "homeBlocks" "I") (by decide +kernel)
  have f66 := hts (.fieldLink RX5 66 "CommitTree" "down" "Z") (by decide +kernel)
  have f70 := hts (.fieldLink RX5 70 "CommitTree" "recordCounts" "Z") (by decide +kernel)
  have wX0 : ∀ w ∈ wsX00, w ∈ wsX5_init := by decide +kernel
  have wX1 : ∀ w ∈ wsX10, w ∈ wsX5_init := by decide +kernel
  have wX3 : ∀ w ∈ wsX30, w ∈ wsX5_init := by decide +kernel
  have wX4 : ∀ w ∈ wsX40, w ∈ wsX5_init := by decide +kernel
  have wX5 : ∀ w ∈ wsX50, w ∈ wsX5_init := by decide +kernel
  have hT0 : TM k κ (mdel M h0) := hT.del hko
  have hE : kx κ (mdel M h0) κ M := kx.del0 _ _ _
  have hk0_h0 := hko
  have hz0_h0 : mdel M h0 h0 = none := if_pos rfl
  refine lv_aload_n hx hb dX5_init_0 rfl (lv_at hl 0 rfl) ?_
  refine W.objInit hx hb hown (hts (.methodLink RX5 1 objectInit) (by decide +kernel)) (hts (.instanceMethod objectInit) (by decide +kernel)) (hts (.code objectInit ⟨#[0xb1]⟩ 1 none) (by decide +kernel)) rfl (by rw [hml]; exact hl.1) rfl dX5_init_1 (Nat.le_of_ble_eq_true rfl) (Nat.le_of_ble_eq_true rfl) ?_
  refine W.eq (g2 := F0 m 4 ls []) rfl ?_
  refine lv_aload_n hx hb dX5_init_4 rfl (lv_at hl 0 rfl) ?_
  refine m_new (T := TX4) (N := 2) (ci := 4) (fs := [.null, .int 0]) hx hb hts wX4 tyX4 tyX4_ok hown (hts (.classLink RX5 7 RX4) (by decide +kernel)) (hts (.instantiable RX4 2) (by decide +kernel)) (hts (.initialized RX4) (by decide +kernel)) hK hm hS hA rfl (fun j hj => by rcases (show j = 0 ∨ j = 1 by omega) with rfl | rfl <;> rfl) (Nat.le_of_ble_eq_true rfl) (Nat.le_of_ble_eq_true rfl) dX5_init_5 (fun q1 H hq1 hm hS => ?_)
  refine W.widen (k := 1) (n := 2) (Nat.le_of_ble_eq_true rfl) (Nat.le_of_ble_eq_true rfl) ?_
  have ne_h0_q1 : h0 ≠ q1 := m_fr hq1 ho
  have ne_q1_h0 := Ne.symm ne_h0_q1
  have hm : mm D (AZ z) (mu M q1 (.inr (4, [.null, .int 0]))) H := hm
  have hz0_q1 := hE.no hT0 hT hq1
  have hk0_q1 := hT.no hq1
  have hR_2 : (mu M q1 (.inr (4, [.null, .int 0]))) h0 = _ := (mu_ne (m_fr hq1 ho)).trans ho
  have hM_q1 : (mu M q1 (.inr (4, [.null, .int 0]))) q1 = _ := mu_self _ _ _
  have hT : TM k κ (mu M q1 (.inr (4, [.null, .int 0]))) := hT.new0 hq1
  have hE : kx κ (mdel M h0) κ (mu M q1 (.inr (4, [.null, .int 0]))) := hE.new0 hq1
  generalize (mu M q1 (.inr (4, [.null, .int 0]))) = Mc1 at hm hT hE hR_2 hM_q1
  refine lv_dup hx hb dX5_init_8 rfl ?_
  refine m_kIN (As := []) (rest := [.ref q1, .ref h0]) (rm := { frames := 1, cells := 1, slots := 60, locals := 12 }) ⟨hx, hb, hml, hown, hts⟩ (i_X4_init l D k z _ _ q1  hM_q1 hk0_q1 hT) ⟨va_cnB 0 hts ggX5_init_X4_init rfl rfl rfl (hcx.2.2.2.2.1 (.methodLinkNest RX5 9 yX4_init "CommitTree") (by decide +kernel)) (hts (.initialized RX4) (by decide +kernel)) (by decide +kernel) ⟨Nat.le_of_ble_eq_true rfl, Nat.le_of_ble_eq_true rfl⟩, rfl, hts (.instanceMethod yX4_init) (by decide +kernel)⟩ hz hcx hm hS rfl hl.1 rfl (Nat.le_of_ble_eq_true rfl) dX5_init_9 ⟨Nat.le_of_ble_eq_true rfl, Nat.le_of_ble_eq_true rfl⟩ (fun v M1 H locs hv hm hS => ?_)
  obtain ⟨hv1, κ2, hT9, hE9, hkq9⟩ := hv
  subst hv1
  have hk1_h0_2 := hE9.2 h0 _ (del_of ne_h0_q1 hR_2) hk0_h0
  have hk0_h0 := (hE9.1 h0 _ (del_of ne_h0_q1 hR_2)).trans hk0_h0
  have hE := hE.transD hT0 hT hk0_q1 hz0_q1 hE9
  have hT := hT9
  have hk_q1 := hkq9
  obtain ⟨Mc2, hMx⟩ : ∃ x : mM, x = M1 := ⟨M1, rfl⟩
  subst hMx
  refine W.eq (g2 := F0 m 12 ls [.ref q1, .ref h0]) rfl ?_
  refine W.widen (k := 2) (n := 62) (Nat.le_of_ble_eq_true rfl) (Nat.le_of_ble_eq_true rfl) ?_
  have hm : mm D (AZ z) Mc2 H := hm
  refine m_putF (T := TX5) (N := 11) (ci := 5) (v := .ref q1) (ty := .object "CommitTree$Tree") hx hb hts wX5 tyX5 tyX5_ok nmX5 hown hK hm hS hk1_h0_2 rfl 0 (by decide) f10 (fun _ h9 => h9) rfl hin rfl (by decide +kernel) rfl rfl (Nat.le_of_ble_eq_true rfl) dX5_init_12 (fun H locs hm hS => ?_)
  have hm : mm D (AZ z) (mu Mc2 h0 (.inr (5, [.ref q1, .null, .null, .null, .null, .null, .int 0, .int 0, .int 0, .int 0, .int 0]))) H := hm
  have hT : TM k κ2 (mu Mc2 h0 (.inr (5, [.ref q1, .null, .null, .null, .null, .null, .int 0, .int 0, .int 0, .int 0, .int 0]))) := fun b9 d9 hb9 => by
    obtain ⟨e9, h9, h8⟩ := hT b9 d9 hb9
    exact ⟨e9, (mu_ne (fun q9 => by rw [q9, hk0_h0] at hb9; cases hb9)).trans h9, h8⟩
  have hE : kx κ (mdel M h0) κ2 (mu Mc2 h0 (.inr (5, [.ref q1, .null, .null, .null, .null, .null, .int 0, .int 0, .int 0, .int 0, .int 0]))) := ⟨hE.1, fun b9 e9 hb9 hn9 => (mu_ne (m_fr hz0_h0 hb9)).trans (hE.2 b9 e9 hb9 hn9)⟩
  have hM_h0 : (mu Mc2 h0 (.inr (5, [.ref q1, .null, .null, .null, .null, .null, .int 0, .int 0, .int 0, .int 0, .int 0]))) h0 = _ := mu_self _ _ _
  generalize (mu Mc2 h0 (.inr (5, [.ref q1, .null, .null, .null, .null, .null, .int 0, .int 0, .int 0, .int 0, .int 0]))) = Mc3 at hm hT hE hM_h0
  refine lv_aload_n hx hb dX5_init_15 rfl (lv_at hl 0 rfl) ?_
  refine m_get (T := TX5) (N := 11) (ci := 5) (v := .ref q1) hx hb hts wX5 hown hK hm hM_h0 rfl 0 (by decide) f10 (fun _ h9 => h9) rfl dX5_init_16 ?_
  refine lv_iconst (v := 1) hx hb dX5_init_19 (by decide) ?_
  refine lv_iconst (v := 1) hx hb dX5_init_20 (by decide) ?_
  refine m_kS (As := [.int 1, .int 1]) (rest := [.ref q1]) (rm := { frames := 2, cells := 2, slots := 20, locals := 40 }) ⟨hx, hb, hml, hown, hts⟩ (t_X2_blank_I1 l D k z _ _ 1  hT) (va_cwS 2 hts gX5_init_X2_blank rfl rfl rfl (by decide +kernel) ⟨Nat.le_of_ble_eq_true rfl, Nat.le_of_ble_eq_true rfl⟩) hz hcx hm hS rfl hl.1 rfl (Nat.le_of_ble_eq_true rfl) dX5_init_21 ⟨Nat.le_of_ble_eq_true rfl, Nat.le_of_ble_eq_true rfl⟩ (fun v M1 H locs hv hm hS => ?_)
  obtain ⟨κ4, hT9, hE9, hv1⟩ := hv
  have hk_q1 := hE9.k hT hk_q1
  have hE := hE.trans hT0 hT hE9
  have hT := hT9
  obtain ⟨Mc4, hMx⟩ : ∃ x : mM, x = M1 := ⟨M1, rfl⟩
  subst hMx
  have hk1_h0_4 := hE9.2 h0 _ hM_h0 hk0_h0
  have hk0_h0 := (hE9.1 h0 _ hM_h0).trans hk0_h0
  obtain ⟨x3, hv1, hk_x3⟩ := hv1
  subst hv1
  refine W.eq (g2 := F0 m 24 ls [.ref x3, .ref q1]) rfl ?_
  refine W.widen (k := 4) (n := 82) (Nat.le_of_ble_eq_true rfl) (Nat.le_of_ble_eq_true rfl) ?_
  have hm : mm D (AZ z) Mc4 H := hm
  obtain ⟨v0_4, v1_4, hM_q1_4, hk_v0_4, hn_v1_4⟩ := hT.tree hk_q1
  refine m_kV (As := [.ref x3]) (rest := []) (rm := { frames := 0, cells := 0, slots := 0, locals := 0 }) ⟨hx, hb, hml, hown, hts⟩ (t_X4_add_R l D k z _ _ q1 x3 hk_q1 hk_x3 hT) (cwV 1 hts gX5_init_X4_add rfl rfl rfl (by decide +kernel) ⟨Nat.le_of_ble_eq_true rfl, Nat.le_of_ble_eq_true rfl⟩) (m_recv hK hm (q := (RX4, TX4, 2)) rfl hM_q1_4) hz hcx hm hS rfl hl.1 rfl (Nat.le_of_ble_eq_true rfl) dX5_init_24 ⟨Nat.le_of_ble_eq_true rfl, Nat.le_of_ble_eq_true rfl⟩ (fun v M1 H locs hv hm hS => ?_)
  obtain ⟨κ5, hT9, hE9, hv1⟩ := hv
  have hk_q1 := hE9.k hT hk_q1
  have hE := hE.trans hT0 hT hE9
  have hT := hT9
  obtain ⟨Mc5, hMx⟩ : ∃ x : mM, x = M1 := ⟨M1, rfl⟩
  subst hMx
  have hk1_h0_5 := hE9.2 h0 _ hk1_h0_4 hk0_h0
  have hk0_h0 := (hE9.1 h0 _ hk1_h0_4).trans hk0_h0
  subst hv1
  refine W.eq (g2 := F0 m 27 ls []) rfl ?_
  refine W.widen (k := 4) (n := 82) (Nat.le_of_ble_eq_true rfl) (Nat.le_of_ble_eq_true rfl) ?_
  have hm : mm D (AZ z) Mc5 H := hm
  refine lv_aload_n hx hb dX5_init_27 rfl (lv_at hl 0 rfl) ?_
  refine m_new (T := TX4) (N := 2) (ci := 4) (fs := [.null, .int 0]) hx hb hts wX4 tyX4 tyX4_ok hown (hts (.classLink RX5 7 RX4) (by decide +kernel)) (hts (.instantiable RX4 2) (by decide +kernel)) (hts (.initialized RX4) (by decide +kernel)) hK hm hS hA rfl (fun j hj => by rcases (show j = 0 ∨ j = 1 by omega) with rfl | rfl <;> rfl) (Nat.le_of_ble_eq_true rfl) (Nat.le_of_ble_eq_true rfl) dX5_init_28 (fun q5 H hq5 hm hS => ?_)
  refine W.widen (k := 5) (n := 84) (Nat.le_of_ble_eq_true rfl) (Nat.le_of_ble_eq_true rfl) ?_
  have ne_h0_q5 : h0 ≠ q5 := m_fr hq5 hk1_h0_5
  have ne_q5_h0 := Ne.symm ne_h0_q5
  have hm : mm D (AZ z) (mu Mc5 q5 (.inr (4, [.null, .int 0]))) H := hm
  have hz0_q5 := hE.no hT0 hT hq5
  have hk0_q5 := hT.no hq5
  have hR_6 : (mu Mc5 q5 (.inr (4, [.null, .int 0]))) h0 = _ := (mu_ne (m_fr hq5 hk1_h0_5)).trans hk1_h0_5
  have hM_q5 : (mu Mc5 q5 (.inr (4, [.null, .int 0]))) q5 = _ := mu_self _ _ _
  have hT : TM k κ5 (mu Mc5 q5 (.inr (4, [.null, .int 0]))) := hT.new0 hq5
  have hE : kx κ (mdel M h0) κ5 (mu Mc5 q5 (.inr (4, [.null, .int 0]))) := hE.new0 hq5
  generalize (mu Mc5 q5 (.inr (4, [.null, .int 0]))) = Mc6 at hm hT hE hR_6 hM_q5
  refine lv_dup hx hb dX5_init_31 rfl ?_
  refine m_kIN (As := []) (rest := [.ref q5, .ref h0]) (rm := { frames := 1, cells := 1, slots := 60, locals := 12 }) ⟨hx, hb, hml, hown, hts⟩ (i_X4_init l D k z _ _ q5  hM_q5 hk0_q5 hT) ⟨va_cnB 0 hts ggX5_init_X4_init rfl rfl rfl (hcx.2.2.2.2.1 (.methodLinkNest RX5 9 yX4_init "CommitTree") (by decide +kernel)) (hts (.initialized RX4) (by decide +kernel)) (by decide +kernel) ⟨Nat.le_of_ble_eq_true rfl, Nat.le_of_ble_eq_true rfl⟩, rfl, hts (.instanceMethod yX4_init) (by decide +kernel)⟩ hz hcx hm hS rfl hl.1 rfl (Nat.le_of_ble_eq_true rfl) dX5_init_32 ⟨Nat.le_of_ble_eq_true rfl, Nat.le_of_ble_eq_true rfl⟩ (fun v M1 H locs hv hm hS => ?_)
  obtain ⟨hv1, κ7, hT9, hE9, hkq9⟩ := hv
  subst hv1
  have hk_q1 := hE9.kD hT hk0_q5 hk_q1
  have hk1_h0_7 := hE9.2 h0 _ (del_of ne_h0_q5 hR_6) hk0_h0
  have hk0_h0 := (hE9.1 h0 _ (del_of ne_h0_q5 hR_6)).trans hk0_h0
  have hE := hE.transD hT0 hT hk0_q5 hz0_q5 hE9
  have hT := hT9
  have hk_q5 := hkq9
  obtain ⟨Mc7, hMx⟩ : ∃ x : mM, x = M1 := ⟨M1, rfl⟩
  subst hMx
  refine W.eq (g2 := F0 m 35 ls [.ref q5, .ref h0]) rfl ?_
  refine W.widen (k := 6) (n := 144) (Nat.le_of_ble_eq_true rfl) (Nat.le_of_ble_eq_true rfl) ?_
  have hm : mm D (AZ z) Mc7 H := hm
  refine m_putF (T := TX5) (N := 11) (ci := 5) (v := .ref q5) (ty := .object "CommitTree$Tree") hx hb hts wX5 tyX5 tyX5_ok nmX5 hown hK hm hS hk1_h0_7 rfl 1 (by decide) f26 (fun _ h9 => h9) rfl hin rfl (by decide +kernel) rfl rfl (Nat.le_of_ble_eq_true rfl) dX5_init_35 (fun H locs hm hS => ?_)
  have hm : mm D (AZ z) (mu Mc7 h0 (.inr (5, [.ref q1, .ref q5, .null, .null, .null, .null, .int 0, .int 0, .int 0, .int 0, .int 0]))) H := hm
  have hT : TM k κ7 (mu Mc7 h0 (.inr (5, [.ref q1, .ref q5, .null, .null, .null, .null, .int 0, .int 0, .int 0, .int 0, .int 0]))) := fun b9 d9 hb9 => by
    obtain ⟨e9, h9, h8⟩ := hT b9 d9 hb9
    exact ⟨e9, (mu_ne (fun q9 => by rw [q9, hk0_h0] at hb9; cases hb9)).trans h9, h8⟩
  have hE : kx κ (mdel M h0) κ7 (mu Mc7 h0 (.inr (5, [.ref q1, .ref q5, .null, .null, .null, .null, .int 0, .int 0, .int 0, .int 0, .int 0]))) := ⟨hE.1, fun b9 e9 hb9 hn9 => (mu_ne (m_fr hz0_h0 hb9)).trans (hE.2 b9 e9 hb9 hn9)⟩
  have hM_h0 : (mu Mc7 h0 (.inr (5, [.ref q1, .ref q5, .null, .null, .null, .null, .int 0, .int 0, .int 0, .int 0, .int 0]))) h0 = _ := mu_self _ _ _
  generalize (mu Mc7 h0 (.inr (5, [.ref q1, .ref q5, .null, .null, .null, .null, .int 0, .int 0, .int 0, .int 0, .int 0]))) = Mc8 at hm hT hE hM_h0
  refine lv_aload_n hx hb dX5_init_38 rfl (lv_at hl 0 rfl) ?_
  refine m_new (T := TX1) (N := 6) (ci := 1) (fs := [.int 0, .int 0, .int 0, .int 0, .null, .null]) hx hb hts wX1 tyX1 tyX1_ok hown (hts (.classLink RX5 29 RX1) (by decide +kernel)) (hts (.instantiable RX1 6) (by decide +kernel)) (hts (.initialized RX1) (by decide +kernel)) hK hm hS hA rfl (fun j hj => by rcases (show j = 0 ∨ j = 1 ∨ j = 2 ∨ j = 3 ∨ j = 4 ∨ j = 5 by omega) with rfl | rfl | rfl | rfl | rfl | rfl <;> rfl) (Nat.le_of_ble_eq_true rfl) (Nat.le_of_ble_eq_true rfl) dX5_init_39 (fun q7 H hq7 hm hS => ?_)
  refine W.widen (k := 7) (n := 150) (Nat.le_of_ble_eq_true rfl) (Nat.le_of_ble_eq_true rfl) ?_
  have ne_h0_q7 : h0 ≠ q7 := m_fr hq7 hM_h0
  have ne_q7_h0 := Ne.symm ne_h0_q7
  have hm : mm D (AZ z) (mu Mc8 q7 (.inr (1, [.int 0, .int 0, .int 0, .int 0, .null, .null]))) H := hm
  have hz0_q7 := hE.no hT0 hT hq7
  have hk0_q7 := hT.no hq7
  have hR_8 : (mu Mc8 q7 (.inr (1, [.int 0, .int 0, .int 0, .int 0, .null, .null]))) h0 = _ := (mu_ne (m_fr hq7 hM_h0)).trans hM_h0
  have hM_q7 : (mu Mc8 q7 (.inr (1, [.int 0, .int 0, .int 0, .int 0, .null, .null]))) q7 = _ := mu_self _ _ _
  have hT : TM k κ7 (mu Mc8 q7 (.inr (1, [.int 0, .int 0, .int 0, .int 0, .null, .null]))) := hT.new0 hq7
  have hE : kx κ (mdel M h0) κ7 (mu Mc8 q7 (.inr (1, [.int 0, .int 0, .int 0, .int 0, .null, .null]))) := hE.new0 hq7
  generalize (mu Mc8 q7 (.inr (1, [.int 0, .int 0, .int 0, .int 0, .null, .null]))) = Mc9 at hm hT hE hR_8 hM_q7
  refine lv_dup hx hb dX5_init_42 rfl ?_
  refine m_kIN (As := []) (rest := [.ref q7, .ref h0]) (rm := { frames := 3, cells := 4, slots := 88, locals := 61 }) ⟨hx, hb, hml, hown, hts⟩ (i_X1_init l D k z _ _ q7  hM_q7 hk0_q7 hT) ⟨va_cnB 0 hts ggX5_init_X1_init rfl rfl rfl (hcx.2.2.2.2.1 (.methodLinkNest RX5 31 yX1_init "CommitTree") (by decide +kernel)) (hts (.initialized RX1) (by decide +kernel)) (by decide +kernel) ⟨Nat.le_of_ble_eq_true rfl, Nat.le_of_ble_eq_true rfl⟩, rfl, hts (.instanceMethod yX1_init) (by decide +kernel)⟩ hz hcx hm hS rfl hl.1 rfl (Nat.le_of_ble_eq_true rfl) dX5_init_43 ⟨Nat.le_of_ble_eq_true rfl, Nat.le_of_ble_eq_true rfl⟩ (fun v M1 H locs hv hm hS => ?_)
  obtain ⟨hv1, κ10, hT9, hE9, hkq9⟩ := hv
  subst hv1
  have hk_q1 := hE9.kD hT hk0_q7 hk_q1
  have hk_q5 := hE9.kD hT hk0_q7 hk_q5
  have hk1_h0_10 := hE9.2 h0 _ (del_of ne_h0_q7 hR_8) hk0_h0
  have hk0_h0 := (hE9.1 h0 _ (del_of ne_h0_q7 hR_8)).trans hk0_h0
  have hE := hE.transD hT0 hT hk0_q7 hz0_q7 hE9
  have hT := hT9
  have hk_q7 := hkq9
  obtain ⟨Mc10, hMx⟩ : ∃ x : mM, x = M1 := ⟨M1, rfl⟩
  subst hMx
  refine W.eq (g2 := F0 m 46 ls [.ref q7, .ref h0]) rfl ?_
  refine W.widen (k := 11) (n := 238) (Nat.le_of_ble_eq_true rfl) (Nat.le_of_ble_eq_true rfl) ?_
  have hm : mm D (AZ z) Mc10 H := hm
  refine m_putF (T := TX5) (N := 11) (ci := 5) (v := .ref q7) (ty := .object "CommitTree$Merge") hx hb hts wX5 tyX5 tyX5_ok nmX5 hown hK hm hS hk1_h0_10 rfl 2 (by decide) f32 (fun _ h9 => h9) rfl hin rfl (by decide +kernel) rfl rfl (Nat.le_of_ble_eq_true rfl) dX5_init_46 (fun H locs hm hS => ?_)
  have hm : mm D (AZ z) (mu Mc10 h0 (.inr (5, [.ref q1, .ref q5, .ref q7, .null, .null, .null, .int 0, .int 0, .int 0, .int 0, .int 0]))) H := hm
  have hT : TM k κ10 (mu Mc10 h0 (.inr (5, [.ref q1, .ref q5, .ref q7, .null, .null, .null, .int 0, .int 0, .int 0, .int 0, .int 0]))) := fun b9 d9 hb9 => by
    obtain ⟨e9, h9, h8⟩ := hT b9 d9 hb9
    exact ⟨e9, (mu_ne (fun q9 => by rw [q9, hk0_h0] at hb9; cases hb9)).trans h9, h8⟩
  have hE : kx κ (mdel M h0) κ10 (mu Mc10 h0 (.inr (5, [.ref q1, .ref q5, .ref q7, .null, .null, .null, .int 0, .int 0, .int 0, .int 0, .int 0]))) := ⟨hE.1, fun b9 e9 hb9 hn9 => (mu_ne (m_fr hz0_h0 hb9)).trans (hE.2 b9 e9 hb9 hn9)⟩
  have hM_h0 : (mu Mc10 h0 (.inr (5, [.ref q1, .ref q5, .ref q7, .null, .null, .null, .int 0, .int 0, .int 0, .int 0, .int 0]))) h0 = _ := mu_self _ _ _
  generalize (mu Mc10 h0 (.inr (5, [.ref q1, .ref q5, .ref q7, .null, .null, .null, .int 0, .int 0, .int 0, .int 0, .int 0]))) = Mc11 at hm hT hE hM_h0
  refine lv_aload_n hx hb dX5_init_49 rfl (lv_at hl 0 rfl) ?_
  refine m_new (T := TX0) (N := 2) (ci := 0) (fs := [.int 0, .int 0]) hx hb hts wX0 tyX0 tyX0_ok hown (hts (.classLink RX5 36 RX0) (by decide +kernel)) (hts (.instantiable RX0 2) (by decide +kernel)) (hts (.initialized RX0) (by decide +kernel)) hK hm hS hA rfl (fun j hj => by rcases (show j = 0 ∨ j = 1 by omega) with rfl | rfl <;> rfl) (Nat.le_of_ble_eq_true rfl) (Nat.le_of_ble_eq_true rfl) dX5_init_50 (fun q9 H hq9 hm hS => ?_)
  refine W.widen (k := 12) (n := 240) (Nat.le_of_ble_eq_true rfl) (Nat.le_of_ble_eq_true rfl) ?_
  have ne_h0_q9 : h0 ≠ q9 := m_fr hq9 hM_h0
  have ne_q9_h0 := Ne.symm ne_h0_q9
  have hm : mm D (AZ z) (mu Mc11 q9 (.inr (0, [.int 0, .int 0]))) H := hm
  have hz0_q9 := hE.no hT0 hT hq9
  have hk0_q9 := hT.no hq9
  have hR_10 : (mu Mc11 q9 (.inr (0, [.int 0, .int 0]))) h0 = _ := (mu_ne (m_fr hq9 hM_h0)).trans hM_h0
  have hM_q9 : (mu Mc11 q9 (.inr (0, [.int 0, .int 0]))) q9 = _ := mu_self _ _ _
  have hT : TM k κ10 (mu Mc11 q9 (.inr (0, [.int 0, .int 0]))) := hT.new0 hq9
  have hE : kx κ (mdel M h0) κ10 (mu Mc11 q9 (.inr (0, [.int 0, .int 0]))) := hE.new0 hq9
  generalize (mu Mc11 q9 (.inr (0, [.int 0, .int 0]))) = Mc12 at hm hT hE hR_10 hM_q9
  refine lv_dup hx hb dX5_init_53 rfl ?_
  refine m_kIN (As := []) (rest := [.ref q9, .ref h0]) (rm := { frames := 1, cells := 0, slots := 0, locals := 12 }) ⟨hx, hb, hml, hown, hts⟩ (i_X0_init l D k z _ _ q9  hM_q9 hk0_q9 hT) ⟨va_cnB 0 hts ggX5_init_X0_init rfl rfl rfl (hcx.2.2.2.2.1 (.methodLinkNest RX5 38 yX0_init "CommitTree") (by decide +kernel)) (hts (.initialized RX0) (by decide +kernel)) (by decide +kernel) ⟨Nat.le_of_ble_eq_true rfl, Nat.le_of_ble_eq_true rfl⟩, rfl, hts (.instanceMethod yX0_init) (by decide +kernel)⟩ hz hcx hm hS rfl hl.1 rfl (Nat.le_of_ble_eq_true rfl) dX5_init_54 ⟨Nat.le_of_ble_eq_true rfl, Nat.le_of_ble_eq_true rfl⟩ (fun v M1 H locs hv hm hS => ?_)
  obtain ⟨hv1, κ13, hT9, hE9, hkq9⟩ := hv
  subst hv1
  have hk_q1 := hE9.kD hT hk0_q9 hk_q1
  have hk_q5 := hE9.kD hT hk0_q9 hk_q5
  have hk_q7 := hE9.kD hT hk0_q9 hk_q7
  have hk1_h0_13 := hE9.2 h0 _ (del_of ne_h0_q9 hR_10) hk0_h0
  have hk0_h0 := (hE9.1 h0 _ (del_of ne_h0_q9 hR_10)).trans hk0_h0
  have hE := hE.transD hT0 hT hk0_q9 hz0_q9 hE9
  have hT := hT9
  have hk_q9 := hkq9
  obtain ⟨Mc13, hMx⟩ : ∃ x : mM, x = M1 := ⟨M1, rfl⟩
  subst hMx
  refine W.eq (g2 := F0 m 57 ls [.ref q9, .ref h0]) rfl ?_
  refine W.widen (k := 12) (n := 240) (Nat.le_of_ble_eq_true rfl) (Nat.le_of_ble_eq_true rfl) ?_
  have hm : mm D (AZ z) Mc13 H := hm
  refine m_putF (T := TX5) (N := 11) (ci := 5) (v := .ref q9) (ty := .object "CommitTree$Disk") hx hb hts wX5 tyX5 tyX5_ok nmX5 hown hK hm hS hk1_h0_13 rfl 3 (by decide) f39 (fun _ h9 => h9) rfl hin rfl (by decide +kernel) rfl rfl (Nat.le_of_ble_eq_true rfl) dX5_init_57 (fun H locs hm hS => ?_)
  have hm : mm D (AZ z) (mu Mc13 h0 (.inr (5, [.ref q1, .ref q5, .ref q7, .ref q9, .null, .null, .int 0, .int 0, .int 0, .int 0, .int 0]))) H := hm
  have hT : TM k κ13 (mu Mc13 h0 (.inr (5, [.ref q1, .ref q5, .ref q7, .ref q9, .null, .null, .int 0, .int 0, .int 0, .int 0, .int 0]))) := fun b9 d9 hb9 => by
    obtain ⟨e9, h9, h8⟩ := hT b9 d9 hb9
    exact ⟨e9, (mu_ne (fun q9 => by rw [q9, hk0_h0] at hb9; cases hb9)).trans h9, h8⟩
  have hE : kx κ (mdel M h0) κ13 (mu Mc13 h0 (.inr (5, [.ref q1, .ref q5, .ref q7, .ref q9, .null, .null, .int 0, .int 0, .int 0, .int 0, .int 0]))) := ⟨hE.1, fun b9 e9 hb9 hn9 => (mu_ne (m_fr hz0_h0 hb9)).trans (hE.2 b9 e9 hb9 hn9)⟩
  have hM_h0 : (mu Mc13 h0 (.inr (5, [.ref q1, .ref q5, .ref q7, .ref q9, .null, .null, .int 0, .int 0, .int 0, .int 0, .int 0]))) h0 = _ := mu_self _ _ _
  generalize (mu Mc13 h0 (.inr (5, [.ref q1, .ref q5, .ref q7, .ref q9, .null, .null, .int 0, .int 0, .int 0, .int 0, .int 0]))) = Mc14 at hm hT hE hM_h0
  refine lv_aload_n hx hb dX5_init_60 rfl (lv_at hl 0 rfl) ?_
  refine lv_bipush (v := 6) hx hb dX5_init_61 (by decide) ?_
  refine m_newq hx hb hown (hts (.classLink RX5 43 RX3) (by decide +kernel)) hcx.2.2.2.1.1.2.1 hK 4 rfl hm hS hA (N' := 6) (by decide) rfl (by decide) (Nat.le_of_ble_eq_true rfl) (Nat.le_of_ble_eq_true rfl) dX5_init_63 (fun q11 H hq11 hm hS => ?_)
  refine W.widen (k := 13) (n := 246) (Nat.le_of_ble_eq_true rfl) (Nat.le_of_ble_eq_true rfl) ?_
  have ne_h0_q11 : h0 ≠ q11 := m_fr hq11 hM_h0
  have hm : mm D (AZ z) (mu Mc14 q11 (.inl (k 4, 6, .inr (.inr (.inr (.inr (fun _ => none))))))) H := hm
  have hz0_q11 := hE.no hT0 hT hq11
  have hk0_q11 := hT.no hq11
  have hR_12 : (mu Mc14 q11 (.inl (k 4, 6, .inr (.inr (.inr (.inr (fun _ => none))))))) h0 = _ := (mu_ne (m_fr hq11 hM_h0)).trans hM_h0
  have hM_q11 : (mu Mc14 q11 (.inl (k 4, 6, .inr (.inr (.inr (.inr (fun _ => none))))))) q11 = _ := mu_self _ _ _
  have hT : TM k κ13 (mu Mc14 q11 (.inl (k 4, 6, .inr (.inr (.inr (.inr (fun _ => none))))))) := hT.new0 hq11
  have hE : kx κ (mdel M h0) κ13 (mu Mc14 q11 (.inl (k 4, 6, .inr (.inr (.inr (.inr (fun _ => none))))))) := hE.new0 hq11
  generalize (mu Mc14 q11 (.inl (k 4, 6, .inr (.inr (.inr (.inr (fun _ => none))))))) = Mc15 at hm hT hE hR_12 hM_q11
  have hT9 : TM k (kup κ13 q11 .txns) Mc15 := hT.adopt hk0_q11 hM_q11 (show wf k (kup κ13 q11 .txns) .txns _ from ⟨(fun _ => none), rfl, fun _ _ h9 => by cases h9⟩)
  have hE : kx κ (mdel M h0) (kup κ13 q11 .txns) Mc15 := hE.adopt hz0_q11
  have hT := hT9
  have hk_q1 := kup_old (d := .txns) hk0_q11 hk_q1
  have hk_q5 := kup_old (d := .txns) hk0_q11 hk_q5
  have hk_q7 := kup_old (d := .txns) hk0_q11 hk_q7
  have hk_q9 := kup_old (d := .txns) hk0_q11 hk_q9
  have hk_q11 : kup κ13 q11 .txns q11 = some .txns := kup_self _ _ _
  have hk0_h0 : kup κ13 q11 .txns h0 = none := (if_neg ne_h0_q11).trans hk0_h0
  generalize kup κ13 q11 .txns = κ16 at hT hE hk_q1 hk_q5 hk_q7 hk_q9 hk_q11 hk0_h0
  refine m_putF (T := TX5) (N := 11) (ci := 5) (v := .ref q11) (ty := .array (.object "CommitTree$Transaction")) hx hb hts wX5 tyX5 tyX5_ok nmX5 hown hK hm hS hR_12 rfl 4 (by decide) f45 (fun _ h9 => h9) rfl hin rfl (by decide +kernel) rfl rfl (Nat.le_of_ble_eq_true rfl) dX5_init_66 (fun H locs hm hS => ?_)
  have hm : mm D (AZ z) (mu Mc15 h0 (.inr (5, [.ref q1, .ref q5, .ref q7, .ref q9, .ref q11, .null, .int 0, .int 0, .int 0, .int 0, .int 0]))) H := hm
  have hT : TM k κ16 (mu Mc15 h0 (.inr (5, [.ref q1, .ref q5, .ref q7, .ref q9, .ref q11, .null, .int 0, .int 0, .int 0, .int 0, .int 0]))) := fun b9 d9 hb9 => by
    obtain ⟨e9, h9, h8⟩ := hT b9 d9 hb9
    exact ⟨e9, (mu_ne (fun q9 => by rw [q9, hk0_h0] at hb9; cases hb9)).trans h9, h8⟩
  have hE : kx κ (mdel M h0) κ16 (mu Mc15 h0 (.inr (5, [.ref q1, .ref q5, .ref q7, .ref q9, .ref q11, .null, .int 0, .int 0, .int 0, .int 0, .int 0]))) := ⟨hE.1, fun b9 e9 hb9 hn9 => (mu_ne (m_fr hz0_h0 hb9)).trans (hE.2 b9 e9 hb9 hn9)⟩
  have hM_h0 : (mu Mc15 h0 (.inr (5, [.ref q1, .ref q5, .ref q7, .ref q9, .ref q11, .null, .int 0, .int 0, .int 0, .int 0, .int 0]))) h0 = _ := mu_self _ _ _
  generalize (mu Mc15 h0 (.inr (5, [.ref q1, .ref q5, .ref q7, .ref q9, .ref q11, .null, .int 0, .int 0, .int 0, .int 0, .int 0]))) = Mc17 at hm hT hE hM_h0
  refine lv_iconst (v := 0) hx hb dX5_init_69 (by decide) ?_
  refine lv_istore_n (lv' := [(1, .int 0), (0, .ref h0)]) hx hb dX5_init_70 rfl hl (by decide) rfl (fun ls hl => ?_)
  refine lv_iload_n hx hb dX5_init_71 rfl (lv_at hl 0 rfl) ?_
  refine lv_aload_n hx hb dX5_init_72 rfl (lv_at hl 1 rfl) ?_
  refine m_get (T := TX5) (N := 11) (ci := 5) (v := .ref q11) hx hb hts wX5 hown hK hm hM_h0 rfl 4 (by decide) f45 (fun _ h9 => h9) rfl dX5_init_73 ?_
  obtain ⟨g_13, hM_q11_13, hg_13⟩ := hT.txns hk_q11
  refine m_alen hx hb hK hm 4 hM_q11_13 rfl (v := 6) rfl dX5_init_76 ?_
  refine lv_icmp_ge (tgt := 106) hx hb dX5_init_77 (by decide) (fun c14 => ?_) (fun c14 => ?_)
  · first | exact absurd c14 (by decide) | exact absurd (by decide) c14
  · refine lv_aload_n hx hb dX5_init_80 rfl (lv_at hl 1 rfl) ?_
    refine m_get (T := TX5) (N := 11) (ci := 5) (v := .ref q11) hx hb hts wX5 hown hK hm hM_h0 rfl 4 (by decide) f45 (fun _ h9 => h9) rfl dX5_init_81 ?_
    refine lv_iload_n hx hb dX5_init_84 rfl (lv_at hl 0 rfl) ?_
    refine m_new (T := TX3) (N := 7) (ci := 3) (fs := [.null, .null, .null, .null, .null, .int 0, .int 0]) hx hb hts wX3 tyX3 tyX3_ok hown (hts (.classLink RX5 43 RX3) (by decide +kernel)) (hts (.instantiable RX3 7) (by decide +kernel)) (hts (.initialized RX3) (by decide +kernel)) hK hm hS hA rfl (fun j hj => by rcases (show j = 0 ∨ j = 1 ∨ j = 2 ∨ j = 3 ∨ j = 4 ∨ j = 5 ∨ j = 6 by omega) with rfl | rfl | rfl | rfl | rfl | rfl | rfl <;> rfl) (Nat.le_of_ble_eq_true rfl) (Nat.le_of_ble_eq_true rfl) dX5_init_85 (fun q15 H hq15 hm hS => ?_)
    refine W.widen (k := 14) (n := 253) (Nat.le_of_ble_eq_true rfl) (Nat.le_of_ble_eq_true rfl) ?_
    have ne_h0_q15 : h0 ≠ q15 := m_fr hq15 hM_h0
    have ne_q15_h0 := Ne.symm ne_h0_q15
    have hm : mm D (AZ z) (mu Mc17 q15 (.inr (3, [.null, .null, .null, .null, .null, .int 0, .int 0]))) H := hm
    have hz0_q15 := hE.no hT0 hT hq15
    have hk0_q15 := hT.no hq15
    have hR_16 : (mu Mc17 q15 (.inr (3, [.null, .null, .null, .null, .null, .int 0, .int 0]))) h0 = _ := (mu_ne (m_fr hq15 hM_h0)).trans hM_h0
    have hR_17 : (mu Mc17 q15 (.inr (3, [.null, .null, .null, .null, .null, .int 0, .int 0]))) q11 = _ := (mu_ne (m_fr hq15 hM_q11_13)).trans hM_q11_13
    have hM_q15 : (mu Mc17 q15 (.inr (3, [.null, .null, .null, .null, .null, .int 0, .int 0]))) q15 = _ := mu_self _ _ _
    have hT : TM k κ16 (mu Mc17 q15 (.inr (3, [.null, .null, .null, .null, .null, .int 0, .int 0]))) := hT.new0 hq15
    have hE : kx κ (mdel M h0) κ16 (mu Mc17 q15 (.inr (3, [.null, .null, .null, .null, .null, .int 0, .int 0]))) := hE.new0 hq15
    generalize (mu Mc17 q15 (.inr (3, [.null, .null, .null, .null, .null, .int 0, .int 0]))) = Mc18 at hm hT hE hR_16 hR_17 hM_q15
    refine lv_dup hx hb dX5_init_88 rfl ?_
    refine m_new (T := TX4) (N := 2) (ci := 4) (fs := [.null, .int 0]) hx hb hts wX4 tyX4 tyX4_ok hown (hts (.classLink RX5 7 RX4) (by decide +kernel)) (hts (.instantiable RX4 2) (by decide +kernel)) (hts (.initialized RX4) (by decide +kernel)) hK hm hS hA rfl (fun j hj => by rcases (show j = 0 ∨ j = 1 by omega) with rfl | rfl <;> rfl) (Nat.le_of_ble_eq_true rfl) (Nat.le_of_ble_eq_true rfl) dX5_init_89 (fun q18 H hq18 hm hS => ?_)
    refine W.widen (k := 15) (n := 255) (Nat.le_of_ble_eq_true rfl) (Nat.le_of_ble_eq_true rfl) ?_
    have ne_h0_q18 : h0 ≠ q18 := m_fr hq18 hR_16
    have ne_q18_h0 := Ne.symm ne_h0_q18
    have ne_q15_q18 : q15 ≠ q18 := m_fr hq18 hM_q15
    have ne_q18_q15 := Ne.symm ne_q15_q18
    have hm : mm D (AZ z) (mu Mc18 q18 (.inr (4, [.null, .int 0]))) H := hm
    have hz0_q18 := hE.no hT0 hT hq18
    have hk0_q18 := hT.no hq18
    have hR_19 : (mu Mc18 q18 (.inr (4, [.null, .int 0]))) h0 = _ := (mu_ne (m_fr hq18 hR_16)).trans hR_16
    have hR_20 : (mu Mc18 q18 (.inr (4, [.null, .int 0]))) q11 = _ := (mu_ne (m_fr hq18 hR_17)).trans hR_17
    have hR_21 : (mu Mc18 q18 (.inr (4, [.null, .int 0]))) q15 = _ := (mu_ne (m_fr hq18 hM_q15)).trans hM_q15
    have hM_q18 : (mu Mc18 q18 (.inr (4, [.null, .int 0]))) q18 = _ := mu_self _ _ _
    have hT : TM k κ16 (mu Mc18 q18 (.inr (4, [.null, .int 0]))) := hT.new0 hq18
    have hE : kx κ (mdel M h0) κ16 (mu Mc18 q18 (.inr (4, [.null, .int 0]))) := hE.new0 hq18
    generalize (mu Mc18 q18 (.inr (4, [.null, .int 0]))) = Mc19 at hm hT hE hR_19 hR_20 hR_21 hM_q18
    refine lv_dup hx hb dX5_init_92 rfl ?_
    refine m_kIN (As := []) (rest := [.ref q18, .ref q15, .ref q15, .int 0, .ref q11]) (rm := { frames := 1, cells := 1, slots := 60, locals := 12 }) ⟨hx, hb, hml, hown, hts⟩ (i_X4_init l D k z _ _ q18  hM_q18 hk0_q18 hT) ⟨va_cnB 0 hts ggX5_init_X4_init rfl rfl rfl (hcx.2.2.2.2.1 (.methodLinkNest RX5 9 yX4_init "CommitTree") (by decide +kernel)) (hts (.initialized RX4) (by decide +kernel)) (by decide +kernel) ⟨Nat.le_of_ble_eq_true rfl, Nat.le_of_ble_eq_true rfl⟩, rfl, hts (.instanceMethod yX4_init) (by decide +kernel)⟩ hz hcx hm hS rfl hl.1 rfl (Nat.le_of_ble_eq_true rfl) dX5_init_93 ⟨Nat.le_of_ble_eq_true rfl, Nat.le_of_ble_eq_true rfl⟩ (fun v M1 H locs hv hm hS => ?_)
    obtain ⟨hv1, κ20, hT9, hE9, hkq9⟩ := hv
    subst hv1
    have hk_q1 := hE9.kD hT hk0_q18 hk_q1
    have hk_q5 := hE9.kD hT hk0_q18 hk_q5
    have hk_q7 := hE9.kD hT hk0_q18 hk_q7
    have hk_q9 := hE9.kD hT hk0_q18 hk_q9
    have hk_q11 := hE9.kD hT hk0_q18 hk_q11
    have hk1_h0_20 := hE9.2 h0 _ (del_of ne_h0_q18 hR_19) hk0_h0
    have hk0_h0 := (hE9.1 h0 _ (del_of ne_h0_q18 hR_19)).trans hk0_h0
    have hk1_q15_20 := hE9.2 q15 _ (del_of ne_q15_q18 hR_21) hk0_q15
    have hk0_q15 := (hE9.1 q15 _ (del_of ne_q15_q18 hR_21)).trans hk0_q15
    have hE := hE.transD hT0 hT hk0_q18 hz0_q18 hE9
    have hT := hT9
    have hk_q18 := hkq9
    obtain ⟨Mc20, hMx⟩ : ∃ x : mM, x = M1 := ⟨M1, rfl⟩
    subst hMx
    refine W.eq (g2 := F0 m 96 ls [.ref q18, .ref q15, .ref q15, .int 0, .ref q11]) rfl ?_
    refine W.widen (k := 16) (n := 315) (Nat.le_of_ble_eq_true rfl) (Nat.le_of_ble_eq_true rfl) ?_
    have hm : mm D (AZ z) Mc20 H := hm
    refine m_kI (As := [.ref q18]) (rest := [.ref q15, .int 0, .ref q11]) (rm := { frames := 2, cells := 11, slots := 371, locals := 32 }) ⟨hx, hb, hml, hown, hts⟩ (i_X3_init l D k z _ _ q15 q18 hk_q18 hk1_q15_20 hk0_q15 hT) (cwI 1 hts gX5_init_X3_init rfl rfl rfl (hts (.initialized RX3) (by decide +kernel)) (hts (.methodLink RX5 49 yX3_init) (by decide +kernel)) (hts (.instanceMethod yX3_init) (by decide +kernel)) rfl (by decide +kernel) ⟨Nat.le_of_ble_eq_true rfl, Nat.le_of_ble_eq_true rfl⟩) hz hcx hm hS rfl hl.1 rfl (Nat.le_of_ble_eq_true rfl) dX5_init_96 ⟨Nat.le_of_ble_eq_true rfl, Nat.le_of_ble_eq_true rfl⟩ (fun v M1 H locs hv hm hS => ?_)
    obtain ⟨hv1, κ21, hT9, hE9, hkq9⟩ := hv
    subst hv1
    have hk_q1 := hE9.kD hT hk0_q15 hk_q1
    have hk_q5 := hE9.kD hT hk0_q15 hk_q5
    have hk_q7 := hE9.kD hT hk0_q15 hk_q7
    have hk_q9 := hE9.kD hT hk0_q15 hk_q9
    have hk_q11 := hE9.kD hT hk0_q15 hk_q11
    have hk_q18 := hE9.kD hT hk0_q15 hk_q18
    have hk1_h0_21 := hE9.2 h0 _ (del_of ne_h0_q15 hk1_h0_20) hk0_h0
    have hk0_h0 := (hE9.1 h0 _ (del_of ne_h0_q15 hk1_h0_20)).trans hk0_h0
    have hE := hE.transD hT0 hT hk0_q15 hz0_q15 hE9
    have hT := hT9
    have hk_q15 := hkq9
    obtain ⟨Mc21, hMx⟩ : ∃ x : mM, x = M1 := ⟨M1, rfl⟩
    subst hMx
    refine W.eq (g2 := F0 m 99 ls [.ref q15, .int 0, .ref q11]) rfl ?_
    refine W.widen (k := 27) (n := 686) (Nat.le_of_ble_eq_true rfl) (Nat.le_of_ble_eq_true rfl) ?_
    have hm : mm D (AZ z) Mc21 H := hm
    obtain ⟨g_22, hM_q11_22, hg_22⟩ := hT.txns hk_q11
    obtain ⟨v0_23, v1_23, v2_23, v3_23, v4_23, v5_23, v6_23, hM_q15_23, hk_v0_23, hk_v1_23, hk_v2_23, hk_v3_23, hk_v4_23, hz_v5_23⟩ := hT.txn hk_q15
    refine m_aast (r := (RX3, TX3, 7)) hx hb hK hm hS 4 3 hM_q11_22 rfl hM_q15_23 rfl (by unfold vp_in; decide) dX5_init_99 (fun H locs hm hS => ?_)
    have hm : mm D (AZ z) (mu Mc21 q11 (.inl (k 4, 6, .inr (.inr (.inr (.inr (va_up g_22 (0 : Int32).toNatClampNeg (some q15)))))))) H := hm
    have hR_24 : (mu Mc21 q11 (.inl (k 4, 6, .inr (.inr (.inr (.inr (va_up g_22 (0 : Int32).toNatClampNeg (some q15)))))))) h0 = _ := (mu_ne (fun q9 => by rw [q9] at hk0_h0; rw [hk0_h0] at hk_q11; cases hk_q11)).trans hk1_h0_21
    have hR_25 : (mu Mc21 q11 (.inl (k 4, 6, .inr (.inr (.inr (.inr (va_up g_22 (0 : Int32).toNatClampNeg (some q15)))))))) q15 = _ := (mu_ne (kd_ne hk_q15 hk_q11 (by decide))).trans hM_q15_23
    have hT : TM k κ21 (mu Mc21 q11 (.inl (k 4, 6, .inr (.inr (.inr (.inr (va_up g_22 (0 : Int32).toNatClampNeg (some q15)))))))) := hT.put hk_q11 (show wf k κ21 .txns (.inl (k 4, 6, .inr (.inr (.inr (.inr (va_up g_22 (0 : Int32).toNatClampNeg (some q15))))))) from ⟨(va_up g_22 (0 : Int32).toNatClampNeg (some q15)), rfl, fun j9 a9 h9 => by
      by_cases hj9 : j9 = (0 : Int32).toNatClampNeg
      · rw [hj9, va_up_self] at h9; cases h9; exact hk_q15
      · rw [va_up_ne _ _ hj9] at h9; exact hg_22 _ _ h9⟩)
    have hE : kx κ (mdel M h0) κ21 (mu Mc21 q11 (.inl (k 4, 6, .inr (.inr (.inr (.inr (va_up g_22 (0 : Int32).toNatClampNeg (some q15)))))))) := hE.put hk_q11
    generalize (mu Mc21 q11 (.inl (k 4, 6, .inr (.inr (.inr (.inr (va_up g_22 (0 : Int32).toNatClampNeg (some q15)))))))) = Mc22 at hm hT hE hR_24 hR_25
    refine lv_iinc (v := 1) (lv' := [(1, .int 1), (0, .ref h0)]) hx hb dX5_init_100 hl (k := 0) rfl rfl (by decide) rfl (fun ls hl => ?_)
    refine lv_goto (tgt := 71) hx hb dX5_init_103 (by decide) ?_
    refine lv_iload_n hx hb dX5_init_71 rfl (lv_at hl 0 rfl) ?_
    refine lv_aload_n hx hb dX5_init_72 rfl (lv_at hl 1 rfl) ?_
    refine m_get (T := TX5) (N := 11) (ci := 5) (v := .ref q11) hx hb hts wX5 hown hK hm hR_24 rfl 4 (by decide) f45 (fun _ h9 => h9) rfl dX5_init_73 ?_
    obtain ⟨g_26, hM_q11_26, hg_26⟩ := hT.txns hk_q11
    refine m_alen hx hb hK hm 4 hM_q11_26 rfl (v := 6) rfl dX5_init_76 ?_
    refine lv_icmp_ge (tgt := 106) hx hb dX5_init_77 (by decide) (fun c27 => ?_) (fun c27 => ?_)
    · first | exact absurd c27 (by decide) | exact absurd (by decide) c27
    · refine lv_aload_n hx hb dX5_init_80 rfl (lv_at hl 1 rfl) ?_
      refine m_get (T := TX5) (N := 11) (ci := 5) (v := .ref q11) hx hb hts wX5 hown hK hm hR_24 rfl 4 (by decide) f45 (fun _ h9 => h9) rfl dX5_init_81 ?_
      refine lv_iload_n hx hb dX5_init_84 rfl (lv_at hl 0 rfl) ?_
      refine m_new (T := TX3) (N := 7) (ci := 3) (fs := [.null, .null, .null, .null, .null, .int 0, .int 0]) hx hb hts wX3 tyX3 tyX3_ok hown (hts (.classLink RX5 43 RX3) (by decide +kernel)) (hts (.instantiable RX3 7) (by decide +kernel)) (hts (.initialized RX3) (by decide +kernel)) hK hm hS hA rfl (fun j hj => by rcases (show j = 0 ∨ j = 1 ∨ j = 2 ∨ j = 3 ∨ j = 4 ∨ j = 5 ∨ j = 6 by omega) with rfl | rfl | rfl | rfl | rfl | rfl | rfl <;> rfl) (Nat.le_of_ble_eq_true rfl) (Nat.le_of_ble_eq_true rfl) dX5_init_85 (fun q28 H hq28 hm hS => ?_)
      refine W.widen (k := 28) (n := 693) (Nat.le_of_ble_eq_true rfl) (Nat.le_of_ble_eq_true rfl) ?_
      have ne_h0_q28 : h0 ≠ q28 := m_fr hq28 hR_24
      have ne_q28_h0 := Ne.symm ne_h0_q28
      have hm : mm D (AZ z) (mu Mc22 q28 (.inr (3, [.null, .null, .null, .null, .null, .int 0, .int 0]))) H := hm
      have hz0_q28 := hE.no hT0 hT hq28
      have hk0_q28 := hT.no hq28
      have hR_29 : (mu Mc22 q28 (.inr (3, [.null, .null, .null, .null, .null, .int 0, .int 0]))) h0 = _ := (mu_ne (m_fr hq28 hR_24)).trans hR_24
      have hR_30 : (mu Mc22 q28 (.inr (3, [.null, .null, .null, .null, .null, .int 0, .int 0]))) q15 = _ := (mu_ne (m_fr hq28 hR_25)).trans hR_25
      have hR_31 : (mu Mc22 q28 (.inr (3, [.null, .null, .null, .null, .null, .int 0, .int 0]))) q11 = _ := (mu_ne (m_fr hq28 hM_q11_26)).trans hM_q11_26
      have hM_q28 : (mu Mc22 q28 (.inr (3, [.null, .null, .null, .null, .null, .int 0, .int 0]))) q28 = _ := mu_self _ _ _
      have hT : TM k κ21 (mu Mc22 q28 (.inr (3, [.null, .null, .null, .null, .null, .int 0, .int 0]))) := hT.new0 hq28
      have hE : kx κ (mdel M h0) κ21 (mu Mc22 q28 (.inr (3, [.null, .null, .null, .null, .null, .int 0, .int 0]))) := hE.new0 hq28
      generalize (mu Mc22 q28 (.inr (3, [.null, .null, .null, .null, .null, .int 0, .int 0]))) = Mc23 at hm hT hE hR_29 hR_30 hR_31 hM_q28
      refine lv_dup hx hb dX5_init_88 rfl ?_
      refine m_new (T := TX4) (N := 2) (ci := 4) (fs := [.null, .int 0]) hx hb hts wX4 tyX4 tyX4_ok hown (hts (.classLink RX5 7 RX4) (by decide +kernel)) (hts (.instantiable RX4 2) (by decide +kernel)) (hts (.initialized RX4) (by decide +kernel)) hK hm hS hA rfl (fun j hj => by rcases (show j = 0 ∨ j = 1 by omega) with rfl | rfl <;> rfl) (Nat.le_of_ble_eq_true rfl) (Nat.le_of_ble_eq_true rfl) dX5_init_89 (fun q32 H hq32 hm hS => ?_)
      refine W.widen (k := 29) (n := 695) (Nat.le_of_ble_eq_true rfl) (Nat.le_of_ble_eq_true rfl) ?_
      have ne_h0_q32 : h0 ≠ q32 := m_fr hq32 hR_29
      have ne_q32_h0 := Ne.symm ne_h0_q32
      have ne_q28_q32 : q28 ≠ q32 := m_fr hq32 hM_q28
      have ne_q32_q28 := Ne.symm ne_q28_q32
      have hm : mm D (AZ z) (mu Mc23 q32 (.inr (4, [.null, .int 0]))) H := hm
      have hz0_q32 := hE.no hT0 hT hq32
      have hk0_q32 := hT.no hq32
      have hR_33 : (mu Mc23 q32 (.inr (4, [.null, .int 0]))) h0 = _ := (mu_ne (m_fr hq32 hR_29)).trans hR_29
      have hR_34 : (mu Mc23 q32 (.inr (4, [.null, .int 0]))) q15 = _ := (mu_ne (m_fr hq32 hR_30)).trans hR_30
      have hR_35 : (mu Mc23 q32 (.inr (4, [.null, .int 0]))) q11 = _ := (mu_ne (m_fr hq32 hR_31)).trans hR_31
      have hR_36 : (mu Mc23 q32 (.inr (4, [.null, .int 0]))) q28 = _ := (mu_ne (m_fr hq32 hM_q28)).trans hM_q28
      have hM_q32 : (mu Mc23 q32 (.inr (4, [.null, .int 0]))) q32 = _ := mu_self _ _ _
      have hT : TM k κ21 (mu Mc23 q32 (.inr (4, [.null, .int 0]))) := hT.new0 hq32
      have hE : kx κ (mdel M h0) κ21 (mu Mc23 q32 (.inr (4, [.null, .int 0]))) := hE.new0 hq32
      generalize (mu Mc23 q32 (.inr (4, [.null, .int 0]))) = Mc24 at hm hT hE hR_33 hR_34 hR_35 hR_36 hM_q32
      refine lv_dup hx hb dX5_init_92 rfl ?_
      refine m_kIN (As := []) (rest := [.ref q32, .ref q28, .ref q28, .int 1, .ref q11]) (rm := { frames := 1, cells := 1, slots := 60, locals := 12 }) ⟨hx, hb, hml, hown, hts⟩ (i_X4_init l D k z _ _ q32  hM_q32 hk0_q32 hT) ⟨va_cnB 0 hts ggX5_init_X4_init rfl rfl rfl (hcx.2.2.2.2.1 (.methodLinkNest RX5 9 yX4_init "CommitTree") (by decide +kernel)) (hts (.initialized RX4) (by decide +kernel)) (by decide +kernel) ⟨Nat.le_of_ble_eq_true rfl, Nat.le_of_ble_eq_true rfl⟩, rfl, hts (.instanceMethod yX4_init) (by decide +kernel)⟩ hz hcx hm hS rfl hl.1 rfl (Nat.le_of_ble_eq_true rfl) dX5_init_93 ⟨Nat.le_of_ble_eq_true rfl, Nat.le_of_ble_eq_true rfl⟩ (fun v M1 H locs hv hm hS => ?_)
      obtain ⟨hv1, κ25, hT9, hE9, hkq9⟩ := hv
      subst hv1
      have hk_q1 := hE9.kD hT hk0_q32 hk_q1
      have hk_q5 := hE9.kD hT hk0_q32 hk_q5
      have hk_q7 := hE9.kD hT hk0_q32 hk_q7
      have hk_q9 := hE9.kD hT hk0_q32 hk_q9
      have hk_q11 := hE9.kD hT hk0_q32 hk_q11
      have hk_q18 := hE9.kD hT hk0_q32 hk_q18
      have hk_q15 := hE9.kD hT hk0_q32 hk_q15
      have hk_v0_23 := hE9.kD hT hk0_q32 hk_v0_23
      have hk_v1_23 := hE9.kD hT hk0_q32 hk_v1_23
      have hk_v2_23 := hE9.kD hT hk0_q32 hk_v2_23
      have hk_v3_23 := hE9.kD hT hk0_q32 hk_v3_23
      have hk_v4_23 := hE9.kD hT hk0_q32 hk_v4_23
      have hk1_h0_25 := hE9.2 h0 _ (del_of ne_h0_q32 hR_33) hk0_h0
      have hk0_h0 := (hE9.1 h0 _ (del_of ne_h0_q32 hR_33)).trans hk0_h0
      have hk1_q28_25 := hE9.2 q28 _ (del_of ne_q28_q32 hR_36) hk0_q28
      have hk0_q28 := (hE9.1 q28 _ (del_of ne_q28_q32 hR_36)).trans hk0_q28
      have hE := hE.transD hT0 hT hk0_q32 hz0_q32 hE9
      have hT := hT9
      have hk_q32 := hkq9
      obtain ⟨Mc25, hMx⟩ : ∃ x : mM, x = M1 := ⟨M1, rfl⟩
      subst hMx
      refine W.eq (g2 := F0 m 96 ls [.ref q32, .ref q28, .ref q28, .int 1, .ref q11]) rfl ?_
      refine W.widen (k := 30) (n := 755) (Nat.le_of_ble_eq_true rfl) (Nat.le_of_ble_eq_true rfl) ?_
      have hm : mm D (AZ z) Mc25 H := hm
      refine m_kI (As := [.ref q32]) (rest := [.ref q28, .int 1, .ref q11]) (rm := { frames := 2, cells := 11, slots := 371, locals := 32 }) ⟨hx, hb, hml, hown, hts⟩ (i_X3_init l D k z _ _ q28 q32 hk_q32 hk1_q28_25 hk0_q28 hT) (cwI 1 hts gX5_init_X3_init rfl rfl rfl (hts (.initialized RX3) (by decide +kernel)) (hts (.methodLink RX5 49 yX3_init) (by decide +kernel)) (hts (.instanceMethod yX3_init) (by decide +kernel)) rfl (by decide +kernel) ⟨Nat.le_of_ble_eq_true rfl, Nat.le_of_ble_eq_true rfl⟩) hz hcx hm hS rfl hl.1 rfl (Nat.le_of_ble_eq_true rfl) dX5_init_96 ⟨Nat.le_of_ble_eq_true rfl, Nat.le_of_ble_eq_true rfl⟩ (fun v M1 H locs hv hm hS => ?_)
      obtain ⟨hv1, κ26, hT9, hE9, hkq9⟩ := hv
      subst hv1
      have hk_q1 := hE9.kD hT hk0_q28 hk_q1
      have hk_q5 := hE9.kD hT hk0_q28 hk_q5
      have hk_q7 := hE9.kD hT hk0_q28 hk_q7
      have hk_q9 := hE9.kD hT hk0_q28 hk_q9
      have hk_q11 := hE9.kD hT hk0_q28 hk_q11
      have hk_q18 := hE9.kD hT hk0_q28 hk_q18
      have hk_q15 := hE9.kD hT hk0_q28 hk_q15
      have hk_v0_23 := hE9.kD hT hk0_q28 hk_v0_23
      have hk_v1_23 := hE9.kD hT hk0_q28 hk_v1_23
      have hk_v2_23 := hE9.kD hT hk0_q28 hk_v2_23
      have hk_v3_23 := hE9.kD hT hk0_q28 hk_v3_23
      have hk_v4_23 := hE9.kD hT hk0_q28 hk_v4_23
      have hk_q32 := hE9.kD hT hk0_q28 hk_q32
      have hk1_h0_26 := hE9.2 h0 _ (del_of ne_h0_q28 hk1_h0_25) hk0_h0
      have hk0_h0 := (hE9.1 h0 _ (del_of ne_h0_q28 hk1_h0_25)).trans hk0_h0
      have hE := hE.transD hT0 hT hk0_q28 hz0_q28 hE9
      have hT := hT9
      have hk_q28 := hkq9
      obtain ⟨Mc26, hMx⟩ : ∃ x : mM, x = M1 := ⟨M1, rfl⟩
      subst hMx
      refine W.eq (g2 := F0 m 99 ls [.ref q28, .int 1, .ref q11]) rfl ?_
      refine W.widen (k := 41) (n := 1126) (Nat.le_of_ble_eq_true rfl) (Nat.le_of_ble_eq_true rfl) ?_
      have hm : mm D (AZ z) Mc26 H := hm
      obtain ⟨g_37, hM_q11_37, hg_37⟩ := hT.txns hk_q11
      obtain ⟨v0_38, v1_38, v2_38, v3_38, v4_38, v5_38, v6_38, hM_q28_38, hk_v0_38, hk_v1_38, hk_v2_38, hk_v3_38, hk_v4_38, hz_v5_38⟩ := hT.txn hk_q28
      refine m_aast (r := (RX3, TX3, 7)) hx hb hK hm hS 4 3 hM_q11_37 rfl hM_q28_38 rfl (by unfold vp_in; decide) dX5_init_99 (fun H locs hm hS => ?_)
      have hm : mm D (AZ z) (mu Mc26 q11 (.inl (k 4, 6, .inr (.inr (.inr (.inr (va_up g_37 (1 : Int32).toNatClampNeg (some q28)))))))) H := hm
      have hR_39 : (mu Mc26 q11 (.inl (k 4, 6, .inr (.inr (.inr (.inr (va_up g_37 (1 : Int32).toNatClampNeg (some q28)))))))) h0 = _ := (mu_ne (fun q9 => by rw [q9] at hk0_h0; rw [hk0_h0] at hk_q11; cases hk_q11)).trans hk1_h0_26
      have hR_40 : (mu Mc26 q11 (.inl (k 4, 6, .inr (.inr (.inr (.inr (va_up g_37 (1 : Int32).toNatClampNeg (some q28)))))))) q28 = _ := (mu_ne (kd_ne hk_q28 hk_q11 (by decide))).trans hM_q28_38
      have hT : TM k κ26 (mu Mc26 q11 (.inl (k 4, 6, .inr (.inr (.inr (.inr (va_up g_37 (1 : Int32).toNatClampNeg (some q28)))))))) := hT.put hk_q11 (show wf k κ26 .txns (.inl (k 4, 6, .inr (.inr (.inr (.inr (va_up g_37 (1 : Int32).toNatClampNeg (some q28))))))) from ⟨(va_up g_37 (1 : Int32).toNatClampNeg (some q28)), rfl, fun j9 a9 h9 => by
        by_cases hj9 : j9 = (1 : Int32).toNatClampNeg
        · rw [hj9, va_up_self] at h9; cases h9; exact hk_q28
        · rw [va_up_ne _ _ hj9] at h9; exact hg_37 _ _ h9⟩)
      have hE : kx κ (mdel M h0) κ26 (mu Mc26 q11 (.inl (k 4, 6, .inr (.inr (.inr (.inr (va_up g_37 (1 : Int32).toNatClampNeg (some q28)))))))) := hE.put hk_q11
      generalize (mu Mc26 q11 (.inl (k 4, 6, .inr (.inr (.inr (.inr (va_up g_37 (1 : Int32).toNatClampNeg (some q28)))))))) = Mc27 at hm hT hE hR_39 hR_40
      refine lv_iinc (v := 2) (lv' := [(1, .int 2), (0, .ref h0)]) hx hb dX5_init_100 hl (k := 0) rfl rfl (by decide) rfl (fun ls hl => ?_)
      refine lv_goto (tgt := 71) hx hb dX5_init_103 (by decide) ?_
      refine lv_iload_n hx hb dX5_init_71 rfl (lv_at hl 0 rfl) ?_
      refine lv_aload_n hx hb dX5_init_72 rfl (lv_at hl 1 rfl) ?_
      refine m_get (T := TX5) (N := 11) (ci := 5) (v := .ref q11) hx hb hts wX5 hown hK hm hR_39 rfl 4 (by decide) f45 (fun _ h9 => h9) rfl dX5_init_73 ?_
      obtain ⟨g_41, hM_q11_41, hg_41⟩ := hT.txns hk_q11
      refine m_alen hx hb hK hm 4 hM_q11_41 rfl (v := 6) rfl dX5_init_76 ?_
      refine lv_icmp_ge (tgt := 106) hx hb dX5_init_77 (by decide) (fun c42 => ?_) (fun c42 => ?_)
      · first | exact absurd c42 (by decide) | exact absurd (by decide) c42
      · refine lv_aload_n hx hb dX5_init_80 rfl (lv_at hl 1 rfl) ?_
        refine m_get (T := TX5) (N := 11) (ci := 5) (v := .ref q11) hx hb hts wX5 hown hK hm hR_39 rfl 4 (by decide) f45 (fun _ h9 => h9) rfl dX5_init_81 ?_
        refine lv_iload_n hx hb dX5_init_84 rfl (lv_at hl 0 rfl) ?_
        refine m_new (T := TX3) (N := 7) (ci := 3) (fs := [.null, .null, .null, .null, .null, .int 0, .int 0]) hx hb hts wX3 tyX3 tyX3_ok hown (hts (.classLink RX5 43 RX3) (by decide +kernel)) (hts (.instantiable RX3 7) (by decide +kernel)) (hts (.initialized RX3) (by decide +kernel)) hK hm hS hA rfl (fun j hj => by rcases (show j = 0 ∨ j = 1 ∨ j = 2 ∨ j = 3 ∨ j = 4 ∨ j = 5 ∨ j = 6 by omega) with rfl | rfl | rfl | rfl | rfl | rfl | rfl <;> rfl) (Nat.le_of_ble_eq_true rfl) (Nat.le_of_ble_eq_true rfl) dX5_init_85 (fun q43 H hq43 hm hS => ?_)
        refine W.widen (k := 42) (n := 1133) (Nat.le_of_ble_eq_true rfl) (Nat.le_of_ble_eq_true rfl) ?_
        have ne_h0_q43 : h0 ≠ q43 := m_fr hq43 hR_39
        have ne_q43_h0 := Ne.symm ne_h0_q43
        have hm : mm D (AZ z) (mu Mc27 q43 (.inr (3, [.null, .null, .null, .null, .null, .int 0, .int 0]))) H := hm
        have hz0_q43 := hE.no hT0 hT hq43
        have hk0_q43 := hT.no hq43
        have hR_44 : (mu Mc27 q43 (.inr (3, [.null, .null, .null, .null, .null, .int 0, .int 0]))) h0 = _ := (mu_ne (m_fr hq43 hR_39)).trans hR_39
        have hR_45 : (mu Mc27 q43 (.inr (3, [.null, .null, .null, .null, .null, .int 0, .int 0]))) q28 = _ := (mu_ne (m_fr hq43 hR_40)).trans hR_40
        have hR_46 : (mu Mc27 q43 (.inr (3, [.null, .null, .null, .null, .null, .int 0, .int 0]))) q11 = _ := (mu_ne (m_fr hq43 hM_q11_41)).trans hM_q11_41
        have hM_q43 : (mu Mc27 q43 (.inr (3, [.null, .null, .null, .null, .null, .int 0, .int 0]))) q43 = _ := mu_self _ _ _
        have hT : TM k κ26 (mu Mc27 q43 (.inr (3, [.null, .null, .null, .null, .null, .int 0, .int 0]))) := hT.new0 hq43
        have hE : kx κ (mdel M h0) κ26 (mu Mc27 q43 (.inr (3, [.null, .null, .null, .null, .null, .int 0, .int 0]))) := hE.new0 hq43
        generalize (mu Mc27 q43 (.inr (3, [.null, .null, .null, .null, .null, .int 0, .int 0]))) = Mc28 at hm hT hE hR_44 hR_45 hR_46 hM_q43
        refine lv_dup hx hb dX5_init_88 rfl ?_
        refine m_new (T := TX4) (N := 2) (ci := 4) (fs := [.null, .int 0]) hx hb hts wX4 tyX4 tyX4_ok hown (hts (.classLink RX5 7 RX4) (by decide +kernel)) (hts (.instantiable RX4 2) (by decide +kernel)) (hts (.initialized RX4) (by decide +kernel)) hK hm hS hA rfl (fun j hj => by rcases (show j = 0 ∨ j = 1 by omega) with rfl | rfl <;> rfl) (Nat.le_of_ble_eq_true rfl) (Nat.le_of_ble_eq_true rfl) dX5_init_89 (fun q47 H hq47 hm hS => ?_)
        refine W.widen (k := 43) (n := 1135) (Nat.le_of_ble_eq_true rfl) (Nat.le_of_ble_eq_true rfl) ?_
        have ne_h0_q47 : h0 ≠ q47 := m_fr hq47 hR_44
        have ne_q47_h0 := Ne.symm ne_h0_q47
        have ne_q43_q47 : q43 ≠ q47 := m_fr hq47 hM_q43
        have ne_q47_q43 := Ne.symm ne_q43_q47
        have hm : mm D (AZ z) (mu Mc28 q47 (.inr (4, [.null, .int 0]))) H := hm
        have hz0_q47 := hE.no hT0 hT hq47
        have hk0_q47 := hT.no hq47
        have hR_48 : (mu Mc28 q47 (.inr (4, [.null, .int 0]))) h0 = _ := (mu_ne (m_fr hq47 hR_44)).trans hR_44
        have hR_49 : (mu Mc28 q47 (.inr (4, [.null, .int 0]))) q28 = _ := (mu_ne (m_fr hq47 hR_45)).trans hR_45
        have hR_50 : (mu Mc28 q47 (.inr (4, [.null, .int 0]))) q11 = _ := (mu_ne (m_fr hq47 hR_46)).trans hR_46
        have hR_51 : (mu Mc28 q47 (.inr (4, [.null, .int 0]))) q43 = _ := (mu_ne (m_fr hq47 hM_q43)).trans hM_q43
        have hM_q47 : (mu Mc28 q47 (.inr (4, [.null, .int 0]))) q47 = _ := mu_self _ _ _
        have hT : TM k κ26 (mu Mc28 q47 (.inr (4, [.null, .int 0]))) := hT.new0 hq47
        have hE : kx κ (mdel M h0) κ26 (mu Mc28 q47 (.inr (4, [.null, .int 0]))) := hE.new0 hq47
        generalize (mu Mc28 q47 (.inr (4, [.null, .int 0]))) = Mc29 at hm hT hE hR_48 hR_49 hR_50 hR_51 hM_q47
        refine lv_dup hx hb dX5_init_92 rfl ?_
        refine m_kIN (As := []) (rest := [.ref q47, .ref q43, .ref q43, .int 2, .ref q11]) (rm := { frames := 1, cells := 1, slots := 60, locals := 12 }) ⟨hx, hb, hml, hown, hts⟩ (i_X4_init l D k z _ _ q47  hM_q47 hk0_q47 hT) ⟨va_cnB 0 hts ggX5_init_X4_init rfl rfl rfl (hcx.2.2.2.2.1 (.methodLinkNest RX5 9 yX4_init "CommitTree") (by decide +kernel)) (hts (.initialized RX4) (by decide +kernel)) (by decide +kernel) ⟨Nat.le_of_ble_eq_true rfl, Nat.le_of_ble_eq_true rfl⟩, rfl, hts (.instanceMethod yX4_init) (by decide +kernel)⟩ hz hcx hm hS rfl hl.1 rfl (Nat.le_of_ble_eq_true rfl) dX5_init_93 ⟨Nat.le_of_ble_eq_true rfl, Nat.le_of_ble_eq_true rfl⟩ (fun v M1 H locs hv hm hS => ?_)
        obtain ⟨hv1, κ30, hT9, hE9, hkq9⟩ := hv
        subst hv1
        have hk_q1 := hE9.kD hT hk0_q47 hk_q1
        have hk_q5 := hE9.kD hT hk0_q47 hk_q5
        have hk_q7 := hE9.kD hT hk0_q47 hk_q7
        have hk_q9 := hE9.kD hT hk0_q47 hk_q9
        have hk_q11 := hE9.kD hT hk0_q47 hk_q11
        have hk_q18 := hE9.kD hT hk0_q47 hk_q18
        have hk_q15 := hE9.kD hT hk0_q47 hk_q15
        have hk_v0_23 := hE9.kD hT hk0_q47 hk_v0_23
        have hk_v1_23 := hE9.kD hT hk0_q47 hk_v1_23
        have hk_v2_23 := hE9.kD hT hk0_q47 hk_v2_23
        have hk_v3_23 := hE9.kD hT hk0_q47 hk_v3_23
        have hk_v4_23 := hE9.kD hT hk0_q47 hk_v4_23
        have hk_q32 := hE9.kD hT hk0_q47 hk_q32
        have hk_q28 := hE9.kD hT hk0_q47 hk_q28
        have hk_v0_38 := hE9.kD hT hk0_q47 hk_v0_38
        have hk_v1_38 := hE9.kD hT hk0_q47 hk_v1_38
        have hk_v2_38 := hE9.kD hT hk0_q47 hk_v2_38
        have hk_v3_38 := hE9.kD hT hk0_q47 hk_v3_38
        have hk_v4_38 := hE9.kD hT hk0_q47 hk_v4_38
        have hk1_h0_30 := hE9.2 h0 _ (del_of ne_h0_q47 hR_48) hk0_h0
        have hk0_h0 := (hE9.1 h0 _ (del_of ne_h0_q47 hR_48)).trans hk0_h0
        have hk1_q43_30 := hE9.2 q43 _ (del_of ne_q43_q47 hR_51) hk0_q43
        have hk0_q43 := (hE9.1 q43 _ (del_of ne_q43_q47 hR_51)).trans hk0_q43
        have hE := hE.transD hT0 hT hk0_q47 hz0_q47 hE9
        have hT := hT9
        have hk_q47 := hkq9
        obtain ⟨Mc30, hMx⟩ : ∃ x : mM, x = M1 := ⟨M1, rfl⟩
        subst hMx
        refine W.eq (g2 := F0 m 96 ls [.ref q47, .ref q43, .ref q43, .int 2, .ref q11]) rfl ?_
        refine W.widen (k := 44) (n := 1195) (Nat.le_of_ble_eq_true rfl) (Nat.le_of_ble_eq_true rfl) ?_
        have hm : mm D (AZ z) Mc30 H := hm
        refine m_kI (As := [.ref q47]) (rest := [.ref q43, .int 2, .ref q11]) (rm := { frames := 2, cells := 11, slots := 371, locals := 32 }) ⟨hx, hb, hml, hown, hts⟩ (i_X3_init l D k z _ _ q43 q47 hk_q47 hk1_q43_30 hk0_q43 hT) (cwI 1 hts gX5_init_X3_init rfl rfl rfl (hts (.initialized RX3) (by decide +kernel)) (hts (.methodLink RX5 49 yX3_init) (by decide +kernel)) (hts (.instanceMethod yX3_init) (by decide +kernel)) rfl (by decide +kernel) ⟨Nat.le_of_ble_eq_true rfl, Nat.le_of_ble_eq_true rfl⟩) hz hcx hm hS rfl hl.1 rfl (Nat.le_of_ble_eq_true rfl) dX5_init_96 ⟨Nat.le_of_ble_eq_true rfl, Nat.le_of_ble_eq_true rfl⟩ (fun v M1 H locs hv hm hS => ?_)
        obtain ⟨hv1, κ31, hT9, hE9, hkq9⟩ := hv
        subst hv1
        have hk_q1 := hE9.kD hT hk0_q43 hk_q1
        have hk_q5 := hE9.kD hT hk0_q43 hk_q5
        have hk_q7 := hE9.kD hT hk0_q43 hk_q7
        have hk_q9 := hE9.kD hT hk0_q43 hk_q9
        have hk_q11 := hE9.kD hT hk0_q43 hk_q11
        have hk_q18 := hE9.kD hT hk0_q43 hk_q18
        have hk_q15 := hE9.kD hT hk0_q43 hk_q15
        have hk_v0_23 := hE9.kD hT hk0_q43 hk_v0_23
        have hk_v1_23 := hE9.kD hT hk0_q43 hk_v1_23
        have hk_v2_23 := hE9.kD hT hk0_q43 hk_v2_23
        have hk_v3_23 := hE9.kD hT hk0_q43 hk_v3_23
        have hk_v4_23 := hE9.kD hT hk0_q43 hk_v4_23
        have hk_q32 := hE9.kD hT hk0_q43 hk_q32
        have hk_q28 := hE9.kD hT hk0_q43 hk_q28
        have hk_v0_38 := hE9.kD hT hk0_q43 hk_v0_38
        have hk_v1_38 := hE9.kD hT hk0_q43 hk_v1_38
        have hk_v2_38 := hE9.kD hT hk0_q43 hk_v2_38
        have hk_v3_38 := hE9.kD hT hk0_q43 hk_v3_38
        have hk_v4_38 := hE9.kD hT hk0_q43 hk_v4_38
        have hk_q47 := hE9.kD hT hk0_q43 hk_q47
        have hk1_h0_31 := hE9.2 h0 _ (del_of ne_h0_q43 hk1_h0_30) hk0_h0
        have hk0_h0 := (hE9.1 h0 _ (del_of ne_h0_q43 hk1_h0_30)).trans hk0_h0
        have hE := hE.transD hT0 hT hk0_q43 hz0_q43 hE9
        have hT := hT9
        have hk_q43 := hkq9
        obtain ⟨Mc31, hMx⟩ : ∃ x : mM, x = M1 := ⟨M1, rfl⟩
        subst hMx
        refine W.eq (g2 := F0 m 99 ls [.ref q43, .int 2, .ref q11]) rfl ?_
        refine W.widen (k := 55) (n := 1566) (Nat.le_of_ble_eq_true rfl) (Nat.le_of_ble_eq_true rfl) ?_
        have hm : mm D (AZ z) Mc31 H := hm
        obtain ⟨g_52, hM_q11_52, hg_52⟩ := hT.txns hk_q11
        obtain ⟨v0_53, v1_53, v2_53, v3_53, v4_53, v5_53, v6_53, hM_q43_53, hk_v0_53, hk_v1_53, hk_v2_53, hk_v3_53, hk_v4_53, hz_v5_53⟩ := hT.txn hk_q43
        refine m_aast (r := (RX3, TX3, 7)) hx hb hK hm hS 4 3 hM_q11_52 rfl hM_q43_53 rfl (by unfold vp_in; decide) dX5_init_99 (fun H locs hm hS => ?_)
        have hm : mm D (AZ z) (mu Mc31 q11 (.inl (k 4, 6, .inr (.inr (.inr (.inr (va_up g_52 (2 : Int32).toNatClampNeg (some q43)))))))) H := hm
        have hR_54 : (mu Mc31 q11 (.inl (k 4, 6, .inr (.inr (.inr (.inr (va_up g_52 (2 : Int32).toNatClampNeg (some q43)))))))) h0 = _ := (mu_ne (fun q9 => by rw [q9] at hk0_h0; rw [hk0_h0] at hk_q11; cases hk_q11)).trans hk1_h0_31
        have hR_55 : (mu Mc31 q11 (.inl (k 4, 6, .inr (.inr (.inr (.inr (va_up g_52 (2 : Int32).toNatClampNeg (some q43)))))))) q43 = _ := (mu_ne (kd_ne hk_q43 hk_q11 (by decide))).trans hM_q43_53
        have hT : TM k κ31 (mu Mc31 q11 (.inl (k 4, 6, .inr (.inr (.inr (.inr (va_up g_52 (2 : Int32).toNatClampNeg (some q43)))))))) := hT.put hk_q11 (show wf k κ31 .txns (.inl (k 4, 6, .inr (.inr (.inr (.inr (va_up g_52 (2 : Int32).toNatClampNeg (some q43))))))) from ⟨(va_up g_52 (2 : Int32).toNatClampNeg (some q43)), rfl, fun j9 a9 h9 => by
          by_cases hj9 : j9 = (2 : Int32).toNatClampNeg
          · rw [hj9, va_up_self] at h9; cases h9; exact hk_q43
          · rw [va_up_ne _ _ hj9] at h9; exact hg_52 _ _ h9⟩)
        have hE : kx κ (mdel M h0) κ31 (mu Mc31 q11 (.inl (k 4, 6, .inr (.inr (.inr (.inr (va_up g_52 (2 : Int32).toNatClampNeg (some q43)))))))) := hE.put hk_q11
        generalize (mu Mc31 q11 (.inl (k 4, 6, .inr (.inr (.inr (.inr (va_up g_52 (2 : Int32).toNatClampNeg (some q43)))))))) = Mc32 at hm hT hE hR_54 hR_55
        refine lv_iinc (v := 3) (lv' := [(1, .int 3), (0, .ref h0)]) hx hb dX5_init_100 hl (k := 0) rfl rfl (by decide) rfl (fun ls hl => ?_)
        refine lv_goto (tgt := 71) hx hb dX5_init_103 (by decide) ?_
        refine lv_iload_n hx hb dX5_init_71 rfl (lv_at hl 0 rfl) ?_
        refine lv_aload_n hx hb dX5_init_72 rfl (lv_at hl 1 rfl) ?_
        refine m_get (T := TX5) (N := 11) (ci := 5) (v := .ref q11) hx hb hts wX5 hown hK hm hR_54 rfl 4 (by decide) f45 (fun _ h9 => h9) rfl dX5_init_73 ?_
        obtain ⟨g_56, hM_q11_56, hg_56⟩ := hT.txns hk_q11
        refine m_alen hx hb hK hm 4 hM_q11_56 rfl (v := 6) rfl dX5_init_76 ?_
        refine lv_icmp_ge (tgt := 106) hx hb dX5_init_77 (by decide) (fun c57 => ?_) (fun c57 => ?_)
        · first | exact absurd c57 (by decide) | exact absurd (by decide) c57
        · refine lv_aload_n hx hb dX5_init_80 rfl (lv_at hl 1 rfl) ?_
          refine m_get (T := TX5) (N := 11) (ci := 5) (v := .ref q11) hx hb hts wX5 hown hK hm hR_54 rfl 4 (by decide) f45 (fun _ h9 => h9) rfl dX5_init_81 ?_
          refine lv_iload_n hx hb dX5_init_84 rfl (lv_at hl 0 rfl) ?_
          refine m_new (T := TX3) (N := 7) (ci := 3) (fs := [.null, .null, .null, .null, .null, .int 0, .int 0]) hx hb hts wX3 tyX3 tyX3_ok hown (hts (.classLink RX5 43 RX3) (by decide +kernel)) (hts (.instantiable RX3 7) (by decide +kernel)) (hts (.initialized RX3) (by decide +kernel)) hK hm hS hA rfl (fun j hj => by rcases (show j = 0 ∨ j = 1 ∨ j = 2 ∨ j = 3 ∨ j = 4 ∨ j = 5 ∨ j = 6 by omega) with rfl | rfl | rfl | rfl | rfl | rfl | rfl <;> rfl) (Nat.le_of_ble_eq_true rfl) (Nat.le_of_ble_eq_true rfl) dX5_init_85 (fun q58 H hq58 hm hS => ?_)
          refine W.widen (k := 56) (n := 1573) (Nat.le_of_ble_eq_true rfl) (Nat.le_of_ble_eq_true rfl) ?_
          have ne_h0_q58 : h0 ≠ q58 := m_fr hq58 hR_54
          have ne_q58_h0 := Ne.symm ne_h0_q58
          have hm : mm D (AZ z) (mu Mc32 q58 (.inr (3, [.null, .null, .null, .null, .null, .int 0, .int 0]))) H := hm
          have hz0_q58 := hE.no hT0 hT hq58
          have hk0_q58 := hT.no hq58
          have hR_59 : (mu Mc32 q58 (.inr (3, [.null, .null, .null, .null, .null, .int 0, .int 0]))) h0 = _ := (mu_ne (m_fr hq58 hR_54)).trans hR_54
          have hR_60 : (mu Mc32 q58 (.inr (3, [.null, .null, .null, .null, .null, .int 0, .int 0]))) q43 = _ := (mu_ne (m_fr hq58 hR_55)).trans hR_55
          have hR_61 : (mu Mc32 q58 (.inr (3, [.null, .null, .null, .null, .null, .int 0, .int 0]))) q11 = _ := (mu_ne (m_fr hq58 hM_q11_56)).trans hM_q11_56
          have hM_q58 : (mu Mc32 q58 (.inr (3, [.null, .null, .null, .null, .null, .int 0, .int 0]))) q58 = _ := mu_self _ _ _
          have hT : TM k κ31 (mu Mc32 q58 (.inr (3, [.null, .null, .null, .null, .null, .int 0, .int 0]))) := hT.new0 hq58
          have hE : kx κ (mdel M h0) κ31 (mu Mc32 q58 (.inr (3, [.null, .null, .null, .null, .null, .int 0, .int 0]))) := hE.new0 hq58
          generalize (mu Mc32 q58 (.inr (3, [.null, .null, .null, .null, .null, .int 0, .int 0]))) = Mc33 at hm hT hE hR_59 hR_60 hR_61 hM_q58
          refine lv_dup hx hb dX5_init_88 rfl ?_
          refine m_new (T := TX4) (N := 2) (ci := 4) (fs := [.null, .int 0]) hx hb hts wX4 tyX4 tyX4_ok hown (hts (.classLink RX5 7 RX4) (by decide +kernel)) (hts (.instantiable RX4 2) (by decide +kernel)) (hts (.initialized RX4) (by decide +kernel)) hK hm hS hA rfl (fun j hj => by rcases (show j = 0 ∨ j = 1 by omega) with rfl | rfl <;> rfl) (Nat.le_of_ble_eq_true rfl) (Nat.le_of_ble_eq_true rfl) dX5_init_89 (fun q62 H hq62 hm hS => ?_)
          refine W.widen (k := 57) (n := 1575) (Nat.le_of_ble_eq_true rfl) (Nat.le_of_ble_eq_true rfl) ?_
          have ne_h0_q62 : h0 ≠ q62 := m_fr hq62 hR_59
          have ne_q62_h0 := Ne.symm ne_h0_q62
          have ne_q58_q62 : q58 ≠ q62 := m_fr hq62 hM_q58
          have ne_q62_q58 := Ne.symm ne_q58_q62
          have hm : mm D (AZ z) (mu Mc33 q62 (.inr (4, [.null, .int 0]))) H := hm
          have hz0_q62 := hE.no hT0 hT hq62
          have hk0_q62 := hT.no hq62
          have hR_63 : (mu Mc33 q62 (.inr (4, [.null, .int 0]))) h0 = _ := (mu_ne (m_fr hq62 hR_59)).trans hR_59
          have hR_64 : (mu Mc33 q62 (.inr (4, [.null, .int 0]))) q43 = _ := (mu_ne (m_fr hq62 hR_60)).trans hR_60
          have hR_65 : (mu Mc33 q62 (.inr (4, [.null, .int 0]))) q11 = _ := (mu_ne (m_fr hq62 hR_61)).trans hR_61
          have hR_66 : (mu Mc33 q62 (.inr (4, [.null, .int 0]))) q58 = _ := (mu_ne (m_fr hq62 hM_q58)).trans hM_q58
          have hM_q62 : (mu Mc33 q62 (.inr (4, [.null, .int 0]))) q62 = _ := mu_self _ _ _
          have hT : TM k κ31 (mu Mc33 q62 (.inr (4, [.null, .int 0]))) := hT.new0 hq62
          have hE : kx κ (mdel M h0) κ31 (mu Mc33 q62 (.inr (4, [.null, .int 0]))) := hE.new0 hq62
          generalize (mu Mc33 q62 (.inr (4, [.null, .int 0]))) = Mc34 at hm hT hE hR_63 hR_64 hR_65 hR_66 hM_q62
          refine lv_dup hx hb dX5_init_92 rfl ?_
          refine m_kIN (As := []) (rest := [.ref q62, .ref q58, .ref q58, .int 3, .ref q11]) (rm := { frames := 1, cells := 1, slots := 60, locals := 12 }) ⟨hx, hb, hml, hown, hts⟩ (i_X4_init l D k z _ _ q62  hM_q62 hk0_q62 hT) ⟨va_cnB 0 hts ggX5_init_X4_init rfl rfl rfl (hcx.2.2.2.2.1 (.methodLinkNest RX5 9 yX4_init "CommitTree") (by decide +kernel)) (hts (.initialized RX4) (by decide +kernel)) (by decide +kernel) ⟨Nat.le_of_ble_eq_true rfl, Nat.le_of_ble_eq_true rfl⟩, rfl, hts (.instanceMethod yX4_init) (by decide +kernel)⟩ hz hcx hm hS rfl hl.1 rfl (Nat.le_of_ble_eq_true rfl) dX5_init_93 ⟨Nat.le_of_ble_eq_true rfl, Nat.le_of_ble_eq_true rfl⟩ (fun v M1 H locs hv hm hS => ?_)
          obtain ⟨hv1, κ35, hT9, hE9, hkq9⟩ := hv
          subst hv1
          have hk_q1 := hE9.kD hT hk0_q62 hk_q1
          have hk_q5 := hE9.kD hT hk0_q62 hk_q5
          have hk_q7 := hE9.kD hT hk0_q62 hk_q7
          have hk_q9 := hE9.kD hT hk0_q62 hk_q9
          have hk_q11 := hE9.kD hT hk0_q62 hk_q11
          have hk_q18 := hE9.kD hT hk0_q62 hk_q18
          have hk_q15 := hE9.kD hT hk0_q62 hk_q15
          have hk_v0_23 := hE9.kD hT hk0_q62 hk_v0_23
          have hk_v1_23 := hE9.kD hT hk0_q62 hk_v1_23
          have hk_v2_23 := hE9.kD hT hk0_q62 hk_v2_23
          have hk_v3_23 := hE9.kD hT hk0_q62 hk_v3_23
          have hk_v4_23 := hE9.kD hT hk0_q62 hk_v4_23
          have hk_q32 := hE9.kD hT hk0_q62 hk_q32
          have hk_q28 := hE9.kD hT hk0_q62 hk_q28
          have hk_v0_38 := hE9.kD hT hk0_q62 hk_v0_38
          have hk_v1_38 := hE9.kD hT hk0_q62 hk_v1_38
          have hk_v2_38 := hE9.kD hT hk0_q62 hk_v2_38
          have hk_v3_38 := hE9.kD hT hk0_q62 hk_v3_38
          have hk_v4_38 := hE9.kD hT hk0_q62 hk_v4_38
          have hk_q47 := hE9.kD hT hk0_q62 hk_q47
          have hk_q43 := hE9.kD hT hk0_q62 hk_q43
          have hk_v0_53 := hE9.kD hT hk0_q62 hk_v0_53
          have hk_v1_53 := hE9.kD hT hk0_q62 hk_v1_53
          have hk_v2_53 := hE9.kD hT hk0_q62 hk_v2_53
          have hk_v3_53 := hE9.kD hT hk0_q62 hk_v3_53
          have hk_v4_53 := hE9.kD hT hk0_q62 hk_v4_53
          have hk1_h0_35 := hE9.2 h0 _ (del_of ne_h0_q62 hR_63) hk0_h0
          have hk0_h0 := (hE9.1 h0 _ (del_of ne_h0_q62 hR_63)).trans hk0_h0
          have hk1_q58_35 := hE9.2 q58 _ (del_of ne_q58_q62 hR_66) hk0_q58
          have hk0_q58 := (hE9.1 q58 _ (del_of ne_q58_q62 hR_66)).trans hk0_q58
          have hE := hE.transD hT0 hT hk0_q62 hz0_q62 hE9
          have hT := hT9
          have hk_q62 := hkq9
          obtain ⟨Mc35, hMx⟩ : ∃ x : mM, x = M1 := ⟨M1, rfl⟩
          subst hMx
          refine W.eq (g2 := F0 m 96 ls [.ref q62, .ref q58, .ref q58, .int 3, .ref q11]) rfl ?_
          refine W.widen (k := 58) (n := 1635) (Nat.le_of_ble_eq_true rfl) (Nat.le_of_ble_eq_true rfl) ?_
          have hm : mm D (AZ z) Mc35 H := hm
          refine m_kI (As := [.ref q62]) (rest := [.ref q58, .int 3, .ref q11]) (rm := { frames := 2, cells := 11, slots := 371, locals := 32 }) ⟨hx, hb, hml, hown, hts⟩ (i_X3_init l D k z _ _ q58 q62 hk_q62 hk1_q58_35 hk0_q58 hT) (cwI 1 hts gX5_init_X3_init rfl rfl rfl (hts (.initialized RX3) (by decide +kernel)) (hts (.methodLink RX5 49 yX3_init) (by decide +kernel)) (hts (.instanceMethod yX3_init) (by decide +kernel)) rfl (by decide +kernel) ⟨Nat.le_of_ble_eq_true rfl, Nat.le_of_ble_eq_true rfl⟩) hz hcx hm hS rfl hl.1 rfl (Nat.le_of_ble_eq_true rfl) dX5_init_96 ⟨Nat.le_of_ble_eq_true rfl, Nat.le_of_ble_eq_true rfl⟩ (fun v M1 H locs hv hm hS => ?_)
          obtain ⟨hv1, κ36, hT9, hE9, hkq9⟩ := hv
          subst hv1
          have hk_q1 := hE9.kD hT hk0_q58 hk_q1
          have hk_q5 := hE9.kD hT hk0_q58 hk_q5
          have hk_q7 := hE9.kD hT hk0_q58 hk_q7
          have hk_q9 := hE9.kD hT hk0_q58 hk_q9
          have hk_q11 := hE9.kD hT hk0_q58 hk_q11
          have hk_q18 := hE9.kD hT hk0_q58 hk_q18
          have hk_q15 := hE9.kD hT hk0_q58 hk_q15
          have hk_v0_23 := hE9.kD hT hk0_q58 hk_v0_23
          have hk_v1_23 := hE9.kD hT hk0_q58 hk_v1_23
          have hk_v2_23 := hE9.kD hT hk0_q58 hk_v2_23
          have hk_v3_23 := hE9.kD hT hk0_q58 hk_v3_23
          have hk_v4_23 := hE9.kD hT hk0_q58 hk_v4_23
          have hk_q32 := hE9.kD hT hk0_q58 hk_q32
          have hk_q28 := hE9.kD hT hk0_q58 hk_q28
          have hk_v0_38 := hE9.kD hT hk0_q58 hk_v0_38
          have hk_v1_38 := hE9.kD hT hk0_q58 hk_v1_38
          have hk_v2_38 := hE9.kD hT hk0_q58 hk_v2_38
          have hk_v3_38 := hE9.kD hT hk0_q58 hk_v3_38
          have hk_v4_38 := hE9.kD hT hk0_q58 hk_v4_38
          have hk_q47 := hE9.kD hT hk0_q58 hk_q47
          have hk_q43 := hE9.kD hT hk0_q58 hk_q43
          have hk_v0_53 := hE9.kD hT hk0_q58 hk_v0_53
          have hk_v1_53 := hE9.kD hT hk0_q58 hk_v1_53
          have hk_v2_53 := hE9.kD hT hk0_q58 hk_v2_53
          have hk_v3_53 := hE9.kD hT hk0_q58 hk_v3_53
          have hk_v4_53 := hE9.kD hT hk0_q58 hk_v4_53
          have hk_q62 := hE9.kD hT hk0_q58 hk_q62
          have hk1_h0_36 := hE9.2 h0 _ (del_of ne_h0_q58 hk1_h0_35) hk0_h0
          have hk0_h0 := (hE9.1 h0 _ (del_of ne_h0_q58 hk1_h0_35)).trans hk0_h0
          have hE := hE.transD hT0 hT hk0_q58 hz0_q58 hE9
          have hT := hT9
          have hk_q58 := hkq9
          obtain ⟨Mc36, hMx⟩ : ∃ x : mM, x = M1 := ⟨M1, rfl⟩
          subst hMx
          refine W.eq (g2 := F0 m 99 ls [.ref q58, .int 3, .ref q11]) rfl ?_
          refine W.widen (k := 69) (n := 2006) (Nat.le_of_ble_eq_true rfl) (Nat.le_of_ble_eq_true rfl) ?_
          have hm : mm D (AZ z) Mc36 H := hm
          obtain ⟨g_67, hM_q11_67, hg_67⟩ := hT.txns hk_q11
          obtain ⟨v0_68, v1_68, v2_68, v3_68, v4_68, v5_68, v6_68, hM_q58_68, hk_v0_68, hk_v1_68, hk_v2_68, hk_v3_68, hk_v4_68, hz_v5_68⟩ := hT.txn hk_q58
          refine m_aast (r := (RX3, TX3, 7)) hx hb hK hm hS 4 3 hM_q11_67 rfl hM_q58_68 rfl (by unfold vp_in; decide) dX5_init_99 (fun H locs hm hS => ?_)
          have hm : mm D (AZ z) (mu Mc36 q11 (.inl (k 4, 6, .inr (.inr (.inr (.inr (va_up g_67 (3 : Int32).toNatClampNeg (some q58)))))))) H := hm
          have hR_69 : (mu Mc36 q11 (.inl (k 4, 6, .inr (.inr (.inr (.inr (va_up g_67 (3 : Int32).toNatClampNeg (some q58)))))))) h0 = _ := (mu_ne (fun q9 => by rw [q9] at hk0_h0; rw [hk0_h0] at hk_q11; cases hk_q11)).trans hk1_h0_36
          have hR_70 : (mu Mc36 q11 (.inl (k 4, 6, .inr (.inr (.inr (.inr (va_up g_67 (3 : Int32).toNatClampNeg (some q58)))))))) q58 = _ := (mu_ne (kd_ne hk_q58 hk_q11 (by decide))).trans hM_q58_68
          have hT : TM k κ36 (mu Mc36 q11 (.inl (k 4, 6, .inr (.inr (.inr (.inr (va_up g_67 (3 : Int32).toNatClampNeg (some q58)))))))) := hT.put hk_q11 (show wf k κ36 .txns (.inl (k 4, 6, .inr (.inr (.inr (.inr (va_up g_67 (3 : Int32).toNatClampNeg (some q58))))))) from ⟨(va_up g_67 (3 : Int32).toNatClampNeg (some q58)), rfl, fun j9 a9 h9 => by
            by_cases hj9 : j9 = (3 : Int32).toNatClampNeg
            · rw [hj9, va_up_self] at h9; cases h9; exact hk_q58
            · rw [va_up_ne _ _ hj9] at h9; exact hg_67 _ _ h9⟩)
          have hE : kx κ (mdel M h0) κ36 (mu Mc36 q11 (.inl (k 4, 6, .inr (.inr (.inr (.inr (va_up g_67 (3 : Int32).toNatClampNeg (some q58)))))))) := hE.put hk_q11
          generalize (mu Mc36 q11 (.inl (k 4, 6, .inr (.inr (.inr (.inr (va_up g_67 (3 : Int32).toNatClampNeg (some q58)))))))) = Mc37 at hm hT hE hR_69 hR_70
          refine lv_iinc (v := 4) (lv' := [(1, .int 4), (0, .ref h0)]) hx hb dX5_init_100 hl (k := 0) rfl rfl (by decide) rfl (fun ls hl => ?_)
          refine lv_goto (tgt := 71) hx hb dX5_init_103 (by decide) ?_
          refine lv_iload_n hx hb dX5_init_71 rfl (lv_at hl 0 rfl) ?_
          refine lv_aload_n hx hb dX5_init_72 rfl (lv_at hl 1 rfl) ?_
          refine m_get (T := TX5) (N := 11) (ci := 5) (v := .ref q11) hx hb hts wX5 hown hK hm hR_69 rfl 4 (by decide) f45 (fun _ h9 => h9) rfl dX5_init_73 ?_
          obtain ⟨g_71, hM_q11_71, hg_71⟩ := hT.txns hk_q11
          refine m_alen hx hb hK hm 4 hM_q11_71 rfl (v := 6) rfl dX5_init_76 ?_
          refine lv_icmp_ge (tgt := 106) hx hb dX5_init_77 (by decide) (fun c72 => ?_) (fun c72 => ?_)
          · first | exact absurd c72 (by decide) | exact absurd (by decide) c72
          · refine lv_aload_n hx hb dX5_init_80 rfl (lv_at hl 1 rfl) ?_
            refine m_get (T := TX5) (N := 11) (ci := 5) (v := .ref q11) hx hb hts wX5 hown hK hm hR_69 rfl 4 (by decide) f45 (fun _ h9 => h9) rfl dX5_init_81 ?_
            refine lv_iload_n hx hb dX5_init_84 rfl (lv_at hl 0 rfl) ?_
            refine m_new (T := TX3) (N := 7) (ci := 3) (fs := [.null, .null, .null, .null, .null, .int 0, .int 0]) hx hb hts wX3 tyX3 tyX3_ok hown (hts (.classLink RX5 43 RX3) (by decide +kernel)) (hts (.instantiable RX3 7) (by decide +kernel)) (hts (.initialized RX3) (by decide +kernel)) hK hm hS hA rfl (fun j hj => by rcases (show j = 0 ∨ j = 1 ∨ j = 2 ∨ j = 3 ∨ j = 4 ∨ j = 5 ∨ j = 6 by omega) with rfl | rfl | rfl | rfl | rfl | rfl | rfl <;> rfl) (Nat.le_of_ble_eq_true rfl) (Nat.le_of_ble_eq_true rfl) dX5_init_85 (fun q73 H hq73 hm hS => ?_)
            refine W.widen (k := 70) (n := 2013) (Nat.le_of_ble_eq_true rfl) (Nat.le_of_ble_eq_true rfl) ?_
            have ne_h0_q73 : h0 ≠ q73 := m_fr hq73 hR_69
            have ne_q73_h0 := Ne.symm ne_h0_q73
            have hm : mm D (AZ z) (mu Mc37 q73 (.inr (3, [.null, .null, .null, .null, .null, .int 0, .int 0]))) H := hm
            have hz0_q73 := hE.no hT0 hT hq73
            have hk0_q73 := hT.no hq73
            have hR_74 : (mu Mc37 q73 (.inr (3, [.null, .null, .null, .null, .null, .int 0, .int 0]))) h0 = _ := (mu_ne (m_fr hq73 hR_69)).trans hR_69
            have hR_75 : (mu Mc37 q73 (.inr (3, [.null, .null, .null, .null, .null, .int 0, .int 0]))) q58 = _ := (mu_ne (m_fr hq73 hR_70)).trans hR_70
            have hR_76 : (mu Mc37 q73 (.inr (3, [.null, .null, .null, .null, .null, .int 0, .int 0]))) q11 = _ := (mu_ne (m_fr hq73 hM_q11_71)).trans hM_q11_71
            have hM_q73 : (mu Mc37 q73 (.inr (3, [.null, .null, .null, .null, .null, .int 0, .int 0]))) q73 = _ := mu_self _ _ _
            have hT : TM k κ36 (mu Mc37 q73 (.inr (3, [.null, .null, .null, .null, .null, .int 0, .int 0]))) := hT.new0 hq73
            have hE : kx κ (mdel M h0) κ36 (mu Mc37 q73 (.inr (3, [.null, .null, .null, .null, .null, .int 0, .int 0]))) := hE.new0 hq73
            generalize (mu Mc37 q73 (.inr (3, [.null, .null, .null, .null, .null, .int 0, .int 0]))) = Mc38 at hm hT hE hR_74 hR_75 hR_76 hM_q73
            refine lv_dup hx hb dX5_init_88 rfl ?_
            refine m_new (T := TX4) (N := 2) (ci := 4) (fs := [.null, .int 0]) hx hb hts wX4 tyX4 tyX4_ok hown (hts (.classLink RX5 7 RX4) (by decide +kernel)) (hts (.instantiable RX4 2) (by decide +kernel)) (hts (.initialized RX4) (by decide +kernel)) hK hm hS hA rfl (fun j hj => by rcases (show j = 0 ∨ j = 1 by omega) with rfl | rfl <;> rfl) (Nat.le_of_ble_eq_true rfl) (Nat.le_of_ble_eq_true rfl) dX5_init_89 (fun q77 H hq77 hm hS => ?_)
            refine W.widen (k := 71) (n := 2015) (Nat.le_of_ble_eq_true rfl) (Nat.le_of_ble_eq_true rfl) ?_
            have ne_h0_q77 : h0 ≠ q77 := m_fr hq77 hR_74
            have ne_q77_h0 := Ne.symm ne_h0_q77
            have ne_q73_q77 : q73 ≠ q77 := m_fr hq77 hM_q73
            have ne_q77_q73 := Ne.symm ne_q73_q77
            have hm : mm D (AZ z) (mu Mc38 q77 (.inr (4, [.null, .int 0]))) H := hm
            have hz0_q77 := hE.no hT0 hT hq77
            have hk0_q77 := hT.no hq77
            have hR_78 : (mu Mc38 q77 (.inr (4, [.null, .int 0]))) h0 = _ := (mu_ne (m_fr hq77 hR_74)).trans hR_74
            have hR_79 : (mu Mc38 q77 (.inr (4, [.null, .int 0]))) q58 = _ := (mu_ne (m_fr hq77 hR_75)).trans hR_75
            have hR_80 : (mu Mc38 q77 (.inr (4, [.null, .int 0]))) q11 = _ := (mu_ne (m_fr hq77 hR_76)).trans hR_76
            have hR_81 : (mu Mc38 q77 (.inr (4, [.null, .int 0]))) q73 = _ := (mu_ne (m_fr hq77 hM_q73)).trans hM_q73
            have hM_q77 : (mu Mc38 q77 (.inr (4, [.null, .int 0]))) q77 = _ := mu_self _ _ _
            have hT : TM k κ36 (mu Mc38 q77 (.inr (4, [.null, .int 0]))) := hT.new0 hq77
            have hE : kx κ (mdel M h0) κ36 (mu Mc38 q77 (.inr (4, [.null, .int 0]))) := hE.new0 hq77
            generalize (mu Mc38 q77 (.inr (4, [.null, .int 0]))) = Mc39 at hm hT hE hR_78 hR_79 hR_80 hR_81 hM_q77
            refine lv_dup hx hb dX5_init_92 rfl ?_
            refine m_kIN (As := []) (rest := [.ref q77, .ref q73, .ref q73, .int 4, .ref q11]) (rm := { frames := 1, cells := 1, slots := 60, locals := 12 }) ⟨hx, hb, hml, hown, hts⟩ (i_X4_init l D k z _ _ q77  hM_q77 hk0_q77 hT) ⟨va_cnB 0 hts ggX5_init_X4_init rfl rfl rfl (hcx.2.2.2.2.1 (.methodLinkNest RX5 9 yX4_init "CommitTree") (by decide +kernel)) (hts (.initialized RX4) (by decide +kernel)) (by decide +kernel) ⟨Nat.le_of_ble_eq_true rfl, Nat.le_of_ble_eq_true rfl⟩, rfl, hts (.instanceMethod yX4_init) (by decide +kernel)⟩ hz hcx hm hS rfl hl.1 rfl (Nat.le_of_ble_eq_true rfl) dX5_init_93 ⟨Nat.le_of_ble_eq_true rfl, Nat.le_of_ble_eq_true rfl⟩ (fun v M1 H locs hv hm hS => ?_)
            obtain ⟨hv1, κ40, hT9, hE9, hkq9⟩ := hv
            subst hv1
            have hk_q1 := hE9.kD hT hk0_q77 hk_q1
            have hk_q5 := hE9.kD hT hk0_q77 hk_q5
            have hk_q7 := hE9.kD hT hk0_q77 hk_q7
            have hk_q9 := hE9.kD hT hk0_q77 hk_q9
            have hk_q11 := hE9.kD hT hk0_q77 hk_q11
            have hk_q18 := hE9.kD hT hk0_q77 hk_q18
            have hk_q15 := hE9.kD hT hk0_q77 hk_q15
            have hk_v0_23 := hE9.kD hT hk0_q77 hk_v0_23
            have hk_v1_23 := hE9.kD hT hk0_q77 hk_v1_23
            have hk_v2_23 := hE9.kD hT hk0_q77 hk_v2_23
            have hk_v3_23 := hE9.kD hT hk0_q77 hk_v3_23
            have hk_v4_23 := hE9.kD hT hk0_q77 hk_v4_23
            have hk_q32 := hE9.kD hT hk0_q77 hk_q32
            have hk_q28 := hE9.kD hT hk0_q77 hk_q28
            have hk_v0_38 := hE9.kD hT hk0_q77 hk_v0_38
            have hk_v1_38 := hE9.kD hT hk0_q77 hk_v1_38
            have hk_v2_38 := hE9.kD hT hk0_q77 hk_v2_38
            have hk_v3_38 := hE9.kD hT hk0_q77 hk_v3_38
            have hk_v4_38 := hE9.kD hT hk0_q77 hk_v4_38
            have hk_q47 := hE9.kD hT hk0_q77 hk_q47
            have hk_q43 := hE9.kD hT hk0_q77 hk_q43
            have hk_v0_53 := hE9.kD hT hk0_q77 hk_v0_53
            have hk_v1_53 := hE9.kD hT hk0_q77 hk_v1_53
            have hk_v2_53 := hE9.kD hT hk0_q77 hk_v2_53
            have hk_v3_53 := hE9.kD hT hk0_q77 hk_v3_53
            have hk_v4_53 := hE9.kD hT hk0_q77 hk_v4_53
            have hk_q62 := hE9.kD hT hk0_q77 hk_q62
            have hk_q58 := hE9.kD hT hk0_q77 hk_q58
            have hk_v0_68 := hE9.kD hT hk0_q77 hk_v0_68
            have hk_v1_68 := hE9.kD hT hk0_q77 hk_v1_68
            have hk_v2_68 := hE9.kD hT hk0_q77 hk_v2_68
            have hk_v3_68 := hE9.kD hT hk0_q77 hk_v3_68
            have hk_v4_68 := hE9.kD hT hk0_q77 hk_v4_68
            have hk1_h0_40 := hE9.2 h0 _ (del_of ne_h0_q77 hR_78) hk0_h0
            have hk0_h0 := (hE9.1 h0 _ (del_of ne_h0_q77 hR_78)).trans hk0_h0
            have hk1_q73_40 := hE9.2 q73 _ (del_of ne_q73_q77 hR_81) hk0_q73
            have hk0_q73 := (hE9.1 q73 _ (del_of ne_q73_q77 hR_81)).trans hk0_q73
            have hE := hE.transD hT0 hT hk0_q77 hz0_q77 hE9
            have hT := hT9
            have hk_q77 := hkq9
            obtain ⟨Mc40, hMx⟩ : ∃ x : mM, x = M1 := ⟨M1, rfl⟩
            subst hMx
            refine W.eq (g2 := F0 m 96 ls [.ref q77, .ref q73, .ref q73, .int 4, .ref q11]) rfl ?_
            refine W.widen (k := 72) (n := 2075) (Nat.le_of_ble_eq_true rfl) (Nat.le_of_ble_eq_true rfl) ?_
            have hm : mm D (AZ z) Mc40 H := hm
            refine m_kI (As := [.ref q77]) (rest := [.ref q73, .int 4, .ref q11]) (rm := { frames := 2, cells := 11, slots := 371, locals := 32 }) ⟨hx, hb, hml, hown, hts⟩ (i_X3_init l D k z _ _ q73 q77 hk_q77 hk1_q73_40 hk0_q73 hT) (cwI 1 hts gX5_init_X3_init rfl rfl rfl (hts (.initialized RX3) (by decide +kernel)) (hts (.methodLink RX5 49 yX3_init) (by decide +kernel)) (hts (.instanceMethod yX3_init) (by decide +kernel)) rfl (by decide +kernel) ⟨Nat.le_of_ble_eq_true rfl, Nat.le_of_ble_eq_true rfl⟩) hz hcx hm hS rfl hl.1 rfl (Nat.le_of_ble_eq_true rfl) dX5_init_96 ⟨Nat.le_of_ble_eq_true rfl, Nat.le_of_ble_eq_true rfl⟩ (fun v M1 H locs hv hm hS => ?_)
            obtain ⟨hv1, κ41, hT9, hE9, hkq9⟩ := hv
            subst hv1
            have hk_q1 := hE9.kD hT hk0_q73 hk_q1
            have hk_q5 := hE9.kD hT hk0_q73 hk_q5
            have hk_q7 := hE9.kD hT hk0_q73 hk_q7
            have hk_q9 := hE9.kD hT hk0_q73 hk_q9
            have hk_q11 := hE9.kD hT hk0_q73 hk_q11
            have hk_q18 := hE9.kD hT hk0_q73 hk_q18
            have hk_q15 := hE9.kD hT hk0_q73 hk_q15
            have hk_v0_23 := hE9.kD hT hk0_q73 hk_v0_23
            have hk_v1_23 := hE9.kD hT hk0_q73 hk_v1_23
            have hk_v2_23 := hE9.kD hT hk0_q73 hk_v2_23
            have hk_v3_23 := hE9.kD hT hk0_q73 hk_v3_23
            have hk_v4_23 := hE9.kD hT hk0_q73 hk_v4_23
            have hk_q32 := hE9.kD hT hk0_q73 hk_q32
            have hk_q28 := hE9.kD hT hk0_q73 hk_q28
            have hk_v0_38 := hE9.kD hT hk0_q73 hk_v0_38
            have hk_v1_38 := hE9.kD hT hk0_q73 hk_v1_38
            have hk_v2_38 := hE9.kD hT hk0_q73 hk_v2_38
            have hk_v3_38 := hE9.kD hT hk0_q73 hk_v3_38
            have hk_v4_38 := hE9.kD hT hk0_q73 hk_v4_38
            have hk_q47 := hE9.kD hT hk0_q73 hk_q47
            have hk_q43 := hE9.kD hT hk0_q73 hk_q43
            have hk_v0_53 := hE9.kD hT hk0_q73 hk_v0_53
            have hk_v1_53 := hE9.kD hT hk0_q73 hk_v1_53
            have hk_v2_53 := hE9.kD hT hk0_q73 hk_v2_53
            have hk_v3_53 := hE9.kD hT hk0_q73 hk_v3_53
            have hk_v4_53 := hE9.kD hT hk0_q73 hk_v4_53
            have hk_q62 := hE9.kD hT hk0_q73 hk_q62
            have hk_q58 := hE9.kD hT hk0_q73 hk_q58
            have hk_v0_68 := hE9.kD hT hk0_q73 hk_v0_68
            have hk_v1_68 := hE9.kD hT hk0_q73 hk_v1_68
            have hk_v2_68 := hE9.kD hT hk0_q73 hk_v2_68
            have hk_v3_68 := hE9.kD hT hk0_q73 hk_v3_68
            have hk_v4_68 := hE9.kD hT hk0_q73 hk_v4_68
            have hk_q77 := hE9.kD hT hk0_q73 hk_q77
            have hk1_h0_41 := hE9.2 h0 _ (del_of ne_h0_q73 hk1_h0_40) hk0_h0
            have hk0_h0 := (hE9.1 h0 _ (del_of ne_h0_q73 hk1_h0_40)).trans hk0_h0
            have hE := hE.transD hT0 hT hk0_q73 hz0_q73 hE9
            have hT := hT9
            have hk_q73 := hkq9
            obtain ⟨Mc41, hMx⟩ : ∃ x : mM, x = M1 := ⟨M1, rfl⟩
            subst hMx
            refine W.eq (g2 := F0 m 99 ls [.ref q73, .int 4, .ref q11]) rfl ?_
            refine W.widen (k := 83) (n := 2446) (Nat.le_of_ble_eq_true rfl) (Nat.le_of_ble_eq_true rfl) ?_
            have hm : mm D (AZ z) Mc41 H := hm
            obtain ⟨g_82, hM_q11_82, hg_82⟩ := hT.txns hk_q11
            obtain ⟨v0_83, v1_83, v2_83, v3_83, v4_83, v5_83, v6_83, hM_q73_83, hk_v0_83, hk_v1_83, hk_v2_83, hk_v3_83, hk_v4_83, hz_v5_83⟩ := hT.txn hk_q73
            refine m_aast (r := (RX3, TX3, 7)) hx hb hK hm hS 4 3 hM_q11_82 rfl hM_q73_83 rfl (by unfold vp_in; decide) dX5_init_99 (fun H locs hm hS => ?_)
            have hm : mm D (AZ z) (mu Mc41 q11 (.inl (k 4, 6, .inr (.inr (.inr (.inr (va_up g_82 (4 : Int32).toNatClampNeg (some q73)))))))) H := hm
            have hR_84 : (mu Mc41 q11 (.inl (k 4, 6, .inr (.inr (.inr (.inr (va_up g_82 (4 : Int32).toNatClampNeg (some q73)))))))) h0 = _ := (mu_ne (fun q9 => by rw [q9] at hk0_h0; rw [hk0_h0] at hk_q11; cases hk_q11)).trans hk1_h0_41
            have hR_85 : (mu Mc41 q11 (.inl (k 4, 6, .inr (.inr (.inr (.inr (va_up g_82 (4 : Int32).toNatClampNeg (some q73)))))))) q73 = _ := (mu_ne (kd_ne hk_q73 hk_q11 (by decide))).trans hM_q73_83
            have hT : TM k κ41 (mu Mc41 q11 (.inl (k 4, 6, .inr (.inr (.inr (.inr (va_up g_82 (4 : Int32).toNatClampNeg (some q73)))))))) := hT.put hk_q11 (show wf k κ41 .txns (.inl (k 4, 6, .inr (.inr (.inr (.inr (va_up g_82 (4 : Int32).toNatClampNeg (some q73))))))) from ⟨(va_up g_82 (4 : Int32).toNatClampNeg (some q73)), rfl, fun j9 a9 h9 => by
              by_cases hj9 : j9 = (4 : Int32).toNatClampNeg
              · rw [hj9, va_up_self] at h9; cases h9; exact hk_q73
              · rw [va_up_ne _ _ hj9] at h9; exact hg_82 _ _ h9⟩)
            have hE : kx κ (mdel M h0) κ41 (mu Mc41 q11 (.inl (k 4, 6, .inr (.inr (.inr (.inr (va_up g_82 (4 : Int32).toNatClampNeg (some q73)))))))) := hE.put hk_q11
            generalize (mu Mc41 q11 (.inl (k 4, 6, .inr (.inr (.inr (.inr (va_up g_82 (4 : Int32).toNatClampNeg (some q73)))))))) = Mc42 at hm hT hE hR_84 hR_85
            refine lv_iinc (v := 5) (lv' := [(1, .int 5), (0, .ref h0)]) hx hb dX5_init_100 hl (k := 0) rfl rfl (by decide) rfl (fun ls hl => ?_)
            refine lv_goto (tgt := 71) hx hb dX5_init_103 (by decide) ?_
            refine lv_iload_n hx hb dX5_init_71 rfl (lv_at hl 0 rfl) ?_
            refine lv_aload_n hx hb dX5_init_72 rfl (lv_at hl 1 rfl) ?_
            refine m_get (T := TX5) (N := 11) (ci := 5) (v := .ref q11) hx hb hts wX5 hown hK hm hR_84 rfl 4 (by decide) f45 (fun _ h9 => h9) rfl dX5_init_73 ?_
            obtain ⟨g_86, hM_q11_86, hg_86⟩ := hT.txns hk_q11
            refine m_alen hx hb hK hm 4 hM_q11_86 rfl (v := 6) rfl dX5_init_76 ?_
            refine lv_icmp_ge (tgt := 106) hx hb dX5_init_77 (by decide) (fun c87 => ?_) (fun c87 => ?_)
            · first | exact absurd c87 (by decide) | exact absurd (by decide) c87
            · refine lv_aload_n hx hb dX5_init_80 rfl (lv_at hl 1 rfl) ?_
              refine m_get (T := TX5) (N := 11) (ci := 5) (v := .ref q11) hx hb hts wX5 hown hK hm hR_84 rfl 4 (by decide) f45 (fun _ h9 => h9) rfl dX5_init_81 ?_
              refine lv_iload_n hx hb dX5_init_84 rfl (lv_at hl 0 rfl) ?_
              refine m_new (T := TX3) (N := 7) (ci := 3) (fs := [.null, .null, .null, .null, .null, .int 0, .int 0]) hx hb hts wX3 tyX3 tyX3_ok hown (hts (.classLink RX5 43 RX3) (by decide +kernel)) (hts (.instantiable RX3 7) (by decide +kernel)) (hts (.initialized RX3) (by decide +kernel)) hK hm hS hA rfl (fun j hj => by rcases (show j = 0 ∨ j = 1 ∨ j = 2 ∨ j = 3 ∨ j = 4 ∨ j = 5 ∨ j = 6 by omega) with rfl | rfl | rfl | rfl | rfl | rfl | rfl <;> rfl) (Nat.le_of_ble_eq_true rfl) (Nat.le_of_ble_eq_true rfl) dX5_init_85 (fun q88 H hq88 hm hS => ?_)
              refine W.widen (k := 84) (n := 2453) (Nat.le_of_ble_eq_true rfl) (Nat.le_of_ble_eq_true rfl) ?_
              have ne_h0_q88 : h0 ≠ q88 := m_fr hq88 hR_84
              have ne_q88_h0 := Ne.symm ne_h0_q88
              have hm : mm D (AZ z) (mu Mc42 q88 (.inr (3, [.null, .null, .null, .null, .null, .int 0, .int 0]))) H := hm
              have hz0_q88 := hE.no hT0 hT hq88
              have hk0_q88 := hT.no hq88
              have hR_89 : (mu Mc42 q88 (.inr (3, [.null, .null, .null, .null, .null, .int 0, .int 0]))) h0 = _ := (mu_ne (m_fr hq88 hR_84)).trans hR_84
              have hR_90 : (mu Mc42 q88 (.inr (3, [.null, .null, .null, .null, .null, .int 0, .int 0]))) q73 = _ := (mu_ne (m_fr hq88 hR_85)).trans hR_85
              have hR_91 : (mu Mc42 q88 (.inr (3, [.null, .null, .null, .null, .null, .int 0, .int 0]))) q11 = _ := (mu_ne (m_fr hq88 hM_q11_86)).trans hM_q11_86
              have hM_q88 : (mu Mc42 q88 (.inr (3, [.null, .null, .null, .null, .null, .int 0, .int 0]))) q88 = _ := mu_self _ _ _
              have hT : TM k κ41 (mu Mc42 q88 (.inr (3, [.null, .null, .null, .null, .null, .int 0, .int 0]))) := hT.new0 hq88
              have hE : kx κ (mdel M h0) κ41 (mu Mc42 q88 (.inr (3, [.null, .null, .null, .null, .null, .int 0, .int 0]))) := hE.new0 hq88
              generalize (mu Mc42 q88 (.inr (3, [.null, .null, .null, .null, .null, .int 0, .int 0]))) = Mc43 at hm hT hE hR_89 hR_90 hR_91 hM_q88
              refine lv_dup hx hb dX5_init_88 rfl ?_
              refine m_new (T := TX4) (N := 2) (ci := 4) (fs := [.null, .int 0]) hx hb hts wX4 tyX4 tyX4_ok hown (hts (.classLink RX5 7 RX4) (by decide +kernel)) (hts (.instantiable RX4 2) (by decide +kernel)) (hts (.initialized RX4) (by decide +kernel)) hK hm hS hA rfl (fun j hj => by rcases (show j = 0 ∨ j = 1 by omega) with rfl | rfl <;> rfl) (Nat.le_of_ble_eq_true rfl) (Nat.le_of_ble_eq_true rfl) dX5_init_89 (fun q92 H hq92 hm hS => ?_)
              refine W.widen (k := 85) (n := 2455) (Nat.le_of_ble_eq_true rfl) (Nat.le_of_ble_eq_true rfl) ?_
              have ne_h0_q92 : h0 ≠ q92 := m_fr hq92 hR_89
              have ne_q92_h0 := Ne.symm ne_h0_q92
              have ne_q88_q92 : q88 ≠ q92 := m_fr hq92 hM_q88
              have ne_q92_q88 := Ne.symm ne_q88_q92
              have hm : mm D (AZ z) (mu Mc43 q92 (.inr (4, [.null, .int 0]))) H := hm
              have hz0_q92 := hE.no hT0 hT hq92
              have hk0_q92 := hT.no hq92
              have hR_93 : (mu Mc43 q92 (.inr (4, [.null, .int 0]))) h0 = _ := (mu_ne (m_fr hq92 hR_89)).trans hR_89
              have hR_94 : (mu Mc43 q92 (.inr (4, [.null, .int 0]))) q73 = _ := (mu_ne (m_fr hq92 hR_90)).trans hR_90
              have hR_95 : (mu Mc43 q92 (.inr (4, [.null, .int 0]))) q11 = _ := (mu_ne (m_fr hq92 hR_91)).trans hR_91
              have hR_96 : (mu Mc43 q92 (.inr (4, [.null, .int 0]))) q88 = _ := (mu_ne (m_fr hq92 hM_q88)).trans hM_q88
              have hM_q92 : (mu Mc43 q92 (.inr (4, [.null, .int 0]))) q92 = _ := mu_self _ _ _
              have hT : TM k κ41 (mu Mc43 q92 (.inr (4, [.null, .int 0]))) := hT.new0 hq92
              have hE : kx κ (mdel M h0) κ41 (mu Mc43 q92 (.inr (4, [.null, .int 0]))) := hE.new0 hq92
              generalize (mu Mc43 q92 (.inr (4, [.null, .int 0]))) = Mc44 at hm hT hE hR_93 hR_94 hR_95 hR_96 hM_q92
              refine lv_dup hx hb dX5_init_92 rfl ?_
              refine m_kIN (As := []) (rest := [.ref q92, .ref q88, .ref q88, .int 5, .ref q11]) (rm := { frames := 1, cells := 1, slots := 60, locals := 12 }) ⟨hx, hb, hml, hown, hts⟩ (i_X4_init l D k z _ _ q92  hM_q92 hk0_q92 hT) ⟨va_cnB 0 hts ggX5_init_X4_init rfl rfl rfl (hcx.2.2.2.2.1 (.methodLinkNest RX5 9 yX4_init "CommitTree") (by decide +kernel)) (hts (.initialized RX4) (by decide +kernel)) (by decide +kernel) ⟨Nat.le_of_ble_eq_true rfl, Nat.le_of_ble_eq_true rfl⟩, rfl, hts (.instanceMethod yX4_init) (by decide +kernel)⟩ hz hcx hm hS rfl hl.1 rfl (Nat.le_of_ble_eq_true rfl) dX5_init_93 ⟨Nat.le_of_ble_eq_true rfl, Nat.le_of_ble_eq_true rfl⟩ (fun v M1 H locs hv hm hS => ?_)
              obtain ⟨hv1, κ45, hT9, hE9, hkq9⟩ := hv
              subst hv1
              have hk_q1 := hE9.kD hT hk0_q92 hk_q1
              have hk_q5 := hE9.kD hT hk0_q92 hk_q5
              have hk_q7 := hE9.kD hT hk0_q92 hk_q7
              have hk_q9 := hE9.kD hT hk0_q92 hk_q9
              have hk_q11 := hE9.kD hT hk0_q92 hk_q11
              have hk_q18 := hE9.kD hT hk0_q92 hk_q18
              have hk_q15 := hE9.kD hT hk0_q92 hk_q15
              have hk_v0_23 := hE9.kD hT hk0_q92 hk_v0_23
              have hk_v1_23 := hE9.kD hT hk0_q92 hk_v1_23
              have hk_v2_23 := hE9.kD hT hk0_q92 hk_v2_23
              have hk_v3_23 := hE9.kD hT hk0_q92 hk_v3_23
              have hk_v4_23 := hE9.kD hT hk0_q92 hk_v4_23
              have hk_q32 := hE9.kD hT hk0_q92 hk_q32
              have hk_q28 := hE9.kD hT hk0_q92 hk_q28
              have hk_v0_38 := hE9.kD hT hk0_q92 hk_v0_38
              have hk_v1_38 := hE9.kD hT hk0_q92 hk_v1_38
              have hk_v2_38 := hE9.kD hT hk0_q92 hk_v2_38
              have hk_v3_38 := hE9.kD hT hk0_q92 hk_v3_38
              have hk_v4_38 := hE9.kD hT hk0_q92 hk_v4_38
              have hk_q47 := hE9.kD hT hk0_q92 hk_q47
              have hk_q43 := hE9.kD hT hk0_q92 hk_q43
              have hk_v0_53 := hE9.kD hT hk0_q92 hk_v0_53
              have hk_v1_53 := hE9.kD hT hk0_q92 hk_v1_53
              have hk_v2_53 := hE9.kD hT hk0_q92 hk_v2_53
              have hk_v3_53 := hE9.kD hT hk0_q92 hk_v3_53
              have hk_v4_53 := hE9.kD hT hk0_q92 hk_v4_53
              have hk_q62 := hE9.kD hT hk0_q92 hk_q62
              have hk_q58 := hE9.kD hT hk0_q92 hk_q58
              have hk_v0_68 := hE9.kD hT hk0_q92 hk_v0_68
              have hk_v1_68 := hE9.kD hT hk0_q92 hk_v1_68
              have hk_v2_68 := hE9.kD hT hk0_q92 hk_v2_68
              have hk_v3_68 := hE9.kD hT hk0_q92 hk_v3_68
              have hk_v4_68 := hE9.kD hT hk0_q92 hk_v4_68
              have hk_q77 := hE9.kD hT hk0_q92 hk_q77
              have hk_q73 := hE9.kD hT hk0_q92 hk_q73
              have hk_v0_83 := hE9.kD hT hk0_q92 hk_v0_83
              have hk_v1_83 := hE9.kD hT hk0_q92 hk_v1_83
              have hk_v2_83 := hE9.kD hT hk0_q92 hk_v2_83
              have hk_v3_83 := hE9.kD hT hk0_q92 hk_v3_83
              have hk_v4_83 := hE9.kD hT hk0_q92 hk_v4_83
              have hk1_h0_45 := hE9.2 h0 _ (del_of ne_h0_q92 hR_93) hk0_h0
              have hk0_h0 := (hE9.1 h0 _ (del_of ne_h0_q92 hR_93)).trans hk0_h0
              have hk1_q88_45 := hE9.2 q88 _ (del_of ne_q88_q92 hR_96) hk0_q88
              have hk0_q88 := (hE9.1 q88 _ (del_of ne_q88_q92 hR_96)).trans hk0_q88
              have hE := hE.transD hT0 hT hk0_q92 hz0_q92 hE9
              have hT := hT9
              have hk_q92 := hkq9
              obtain ⟨Mc45, hMx⟩ : ∃ x : mM, x = M1 := ⟨M1, rfl⟩
              subst hMx
              refine W.eq (g2 := F0 m 96 ls [.ref q92, .ref q88, .ref q88, .int 5, .ref q11]) rfl ?_
              refine W.widen (k := 86) (n := 2515) (Nat.le_of_ble_eq_true rfl) (Nat.le_of_ble_eq_true rfl) ?_
              have hm : mm D (AZ z) Mc45 H := hm
              refine m_kI (As := [.ref q92]) (rest := [.ref q88, .int 5, .ref q11]) (rm := { frames := 2, cells := 11, slots := 371, locals := 32 }) ⟨hx, hb, hml, hown, hts⟩ (i_X3_init l D k z _ _ q88 q92 hk_q92 hk1_q88_45 hk0_q88 hT) (cwI 1 hts gX5_init_X3_init rfl rfl rfl (hts (.initialized RX3) (by decide +kernel)) (hts (.methodLink RX5 49 yX3_init) (by decide +kernel)) (hts (.instanceMethod yX3_init) (by decide +kernel)) rfl (by decide +kernel) ⟨Nat.le_of_ble_eq_true rfl, Nat.le_of_ble_eq_true rfl⟩) hz hcx hm hS rfl hl.1 rfl (Nat.le_of_ble_eq_true rfl) dX5_init_96 ⟨Nat.le_of_ble_eq_true rfl, Nat.le_of_ble_eq_true rfl⟩ (fun v M1 H locs hv hm hS => ?_)
              obtain ⟨hv1, κ46, hT9, hE9, hkq9⟩ := hv
              subst hv1
              have hk_q1 := hE9.kD hT hk0_q88 hk_q1
              have hk_q5 := hE9.kD hT hk0_q88 hk_q5
              have hk_q7 := hE9.kD hT hk0_q88 hk_q7
              have hk_q9 := hE9.kD hT hk0_q88 hk_q9
              have hk_q11 := hE9.kD hT hk0_q88 hk_q11
              have hk_q18 := hE9.kD hT hk0_q88 hk_q18
              have hk_q15 := hE9.kD hT hk0_q88 hk_q15
              have hk_v0_23 := hE9.kD hT hk0_q88 hk_v0_23
              have hk_v1_23 := hE9.kD hT hk0_q88 hk_v1_23
              have hk_v2_23 := hE9.kD hT hk0_q88 hk_v2_23
              have hk_v3_23 := hE9.kD hT hk0_q88 hk_v3_23
              have hk_v4_23 := hE9.kD hT hk0_q88 hk_v4_23
              have hk_q32 := hE9.kD hT hk0_q88 hk_q32
              have hk_q28 := hE9.kD hT hk0_q88 hk_q28
              have hk_v0_38 := hE9.kD hT hk0_q88 hk_v0_38
              have hk_v1_38 := hE9.kD hT hk0_q88 hk_v1_38
              have hk_v2_38 := hE9.kD hT hk0_q88 hk_v2_38
              have hk_v3_38 := hE9.kD hT hk0_q88 hk_v3_38
              have hk_v4_38 := hE9.kD hT hk0_q88 hk_v4_38
              have hk_q47 := hE9.kD hT hk0_q88 hk_q47
              have hk_q43 := hE9.kD hT hk0_q88 hk_q43
              have hk_v0_53 := hE9.kD hT hk0_q88 hk_v0_53
              have hk_v1_53 := hE9.kD hT hk0_q88 hk_v1_53
              have hk_v2_53 := hE9.kD hT hk0_q88 hk_v2_53
              have hk_v3_53 := hE9.kD hT hk0_q88 hk_v3_53
              have hk_v4_53 := hE9.kD hT hk0_q88 hk_v4_53
              have hk_q62 := hE9.kD hT hk0_q88 hk_q62
              have hk_q58 := hE9.kD hT hk0_q88 hk_q58
              have hk_v0_68 := hE9.kD hT hk0_q88 hk_v0_68
              have hk_v1_68 := hE9.kD hT hk0_q88 hk_v1_68
              have hk_v2_68 := hE9.kD hT hk0_q88 hk_v2_68
              have hk_v3_68 := hE9.kD hT hk0_q88 hk_v3_68
              have hk_v4_68 := hE9.kD hT hk0_q88 hk_v4_68
              have hk_q77 := hE9.kD hT hk0_q88 hk_q77
              have hk_q73 := hE9.kD hT hk0_q88 hk_q73
              have hk_v0_83 := hE9.kD hT hk0_q88 hk_v0_83
              have hk_v1_83 := hE9.kD hT hk0_q88 hk_v1_83
              have hk_v2_83 := hE9.kD hT hk0_q88 hk_v2_83
              have hk_v3_83 := hE9.kD hT hk0_q88 hk_v3_83
              have hk_v4_83 := hE9.kD hT hk0_q88 hk_v4_83
              have hk_q92 := hE9.kD hT hk0_q88 hk_q92
              have hk1_h0_46 := hE9.2 h0 _ (del_of ne_h0_q88 hk1_h0_45) hk0_h0
              have hk0_h0 := (hE9.1 h0 _ (del_of ne_h0_q88 hk1_h0_45)).trans hk0_h0
              have hE := hE.transD hT0 hT hk0_q88 hz0_q88 hE9
              have hT := hT9
              have hk_q88 := hkq9
              obtain ⟨Mc46, hMx⟩ : ∃ x : mM, x = M1 := ⟨M1, rfl⟩
              subst hMx
              refine W.eq (g2 := F0 m 99 ls [.ref q88, .int 5, .ref q11]) rfl ?_
              refine W.widen (k := 97) (n := 2886) (Nat.le_of_ble_eq_true rfl) (Nat.le_of_ble_eq_true rfl) ?_
              have hm : mm D (AZ z) Mc46 H := hm
              obtain ⟨g_97, hM_q11_97, hg_97⟩ := hT.txns hk_q11
              obtain ⟨v0_98, v1_98, v2_98, v3_98, v4_98, v5_98, v6_98, hM_q88_98, hk_v0_98, hk_v1_98, hk_v2_98, hk_v3_98, hk_v4_98, hz_v5_98⟩ := hT.txn hk_q88
              refine m_aast (r := (RX3, TX3, 7)) hx hb hK hm hS 4 3 hM_q11_97 rfl hM_q88_98 rfl (by unfold vp_in; decide) dX5_init_99 (fun H locs hm hS => ?_)
              have hm : mm D (AZ z) (mu Mc46 q11 (.inl (k 4, 6, .inr (.inr (.inr (.inr (va_up g_97 (5 : Int32).toNatClampNeg (some q88)))))))) H := hm
              have hR_99 : (mu Mc46 q11 (.inl (k 4, 6, .inr (.inr (.inr (.inr (va_up g_97 (5 : Int32).toNatClampNeg (some q88)))))))) h0 = _ := (mu_ne (fun q9 => by rw [q9] at hk0_h0; rw [hk0_h0] at hk_q11; cases hk_q11)).trans hk1_h0_46
              have hR_100 : (mu Mc46 q11 (.inl (k 4, 6, .inr (.inr (.inr (.inr (va_up g_97 (5 : Int32).toNatClampNeg (some q88)))))))) q88 = _ := (mu_ne (kd_ne hk_q88 hk_q11 (by decide))).trans hM_q88_98
              have hT : TM k κ46 (mu Mc46 q11 (.inl (k 4, 6, .inr (.inr (.inr (.inr (va_up g_97 (5 : Int32).toNatClampNeg (some q88)))))))) := hT.put hk_q11 (show wf k κ46 .txns (.inl (k 4, 6, .inr (.inr (.inr (.inr (va_up g_97 (5 : Int32).toNatClampNeg (some q88))))))) from ⟨(va_up g_97 (5 : Int32).toNatClampNeg (some q88)), rfl, fun j9 a9 h9 => by
                by_cases hj9 : j9 = (5 : Int32).toNatClampNeg
                · rw [hj9, va_up_self] at h9; cases h9; exact hk_q88
                · rw [va_up_ne _ _ hj9] at h9; exact hg_97 _ _ h9⟩)
              have hE : kx κ (mdel M h0) κ46 (mu Mc46 q11 (.inl (k 4, 6, .inr (.inr (.inr (.inr (va_up g_97 (5 : Int32).toNatClampNeg (some q88)))))))) := hE.put hk_q11
              generalize (mu Mc46 q11 (.inl (k 4, 6, .inr (.inr (.inr (.inr (va_up g_97 (5 : Int32).toNatClampNeg (some q88)))))))) = Mc47 at hm hT hE hR_99 hR_100
              refine lv_iinc (v := 6) (lv' := [(1, .int 6), (0, .ref h0)]) hx hb dX5_init_100 hl (k := 0) rfl rfl (by decide) rfl (fun ls hl => ?_)
              refine lv_goto (tgt := 71) hx hb dX5_init_103 (by decide) ?_
              refine lv_iload_n hx hb dX5_init_71 rfl (lv_at hl 0 rfl) ?_
              refine lv_aload_n hx hb dX5_init_72 rfl (lv_at hl 1 rfl) ?_
              refine m_get (T := TX5) (N := 11) (ci := 5) (v := .ref q11) hx hb hts wX5 hown hK hm hR_99 rfl 4 (by decide) f45 (fun _ h9 => h9) rfl dX5_init_73 ?_
              obtain ⟨g_101, hM_q11_101, hg_101⟩ := hT.txns hk_q11
              refine m_alen hx hb hK hm 4 hM_q11_101 rfl (v := 6) rfl dX5_init_76 ?_
              refine lv_icmp_ge (tgt := 106) hx hb dX5_init_77 (by decide) (fun c102 => ?_) (fun c102 => ?_)
              · refine lv_aload_n hx hb dX5_init_106 rfl (lv_at hl 1 rfl) ?_
                refine m_new (T := TX3) (N := 7) (ci := 3) (fs := [.null, .null, .null, .null, .null, .int 0, .int 0]) hx hb hts wX3 tyX3 tyX3_ok hown (hts (.classLink RX5 43 RX3) (by decide +kernel)) (hts (.instantiable RX3 7) (by decide +kernel)) (hts (.initialized RX3) (by decide +kernel)) hK hm hS hA rfl (fun j hj => by rcases (show j = 0 ∨ j = 1 ∨ j = 2 ∨ j = 3 ∨ j = 4 ∨ j = 5 ∨ j = 6 by omega) with rfl | rfl | rfl | rfl | rfl | rfl | rfl <;> rfl) (Nat.le_of_ble_eq_true rfl) (Nat.le_of_ble_eq_true rfl) dX5_init_107 (fun q103 H hq103 hm hS => ?_)
                refine W.widen (k := 98) (n := 2893) (Nat.le_of_ble_eq_true rfl) (Nat.le_of_ble_eq_true rfl) ?_
                have ne_h0_q103 : h0 ≠ q103 := m_fr hq103 hR_99
                have ne_q103_h0 := Ne.symm ne_h0_q103
                have hm : mm D (AZ z) (mu Mc47 q103 (.inr (3, [.null, .null, .null, .null, .null, .int 0, .int 0]))) H := hm
                have hz0_q103 := hE.no hT0 hT hq103
                have hk0_q103 := hT.no hq103
                have hR_104 : (mu Mc47 q103 (.inr (3, [.null, .null, .null, .null, .null, .int 0, .int 0]))) h0 = _ := (mu_ne (m_fr hq103 hR_99)).trans hR_99
                have hR_105 : (mu Mc47 q103 (.inr (3, [.null, .null, .null, .null, .null, .int 0, .int 0]))) q88 = _ := (mu_ne (m_fr hq103 hR_100)).trans hR_100
                have hR_106 : (mu Mc47 q103 (.inr (3, [.null, .null, .null, .null, .null, .int 0, .int 0]))) q11 = _ := (mu_ne (m_fr hq103 hM_q11_101)).trans hM_q11_101
                have hM_q103 : (mu Mc47 q103 (.inr (3, [.null, .null, .null, .null, .null, .int 0, .int 0]))) q103 = _ := mu_self _ _ _
                have hT : TM k κ46 (mu Mc47 q103 (.inr (3, [.null, .null, .null, .null, .null, .int 0, .int 0]))) := hT.new0 hq103
                have hE : kx κ (mdel M h0) κ46 (mu Mc47 q103 (.inr (3, [.null, .null, .null, .null, .null, .int 0, .int 0]))) := hE.new0 hq103
                generalize (mu Mc47 q103 (.inr (3, [.null, .null, .null, .null, .null, .int 0, .int 0]))) = Mc48 at hm hT hE hR_104 hR_105 hR_106 hM_q103
                refine lv_dup hx hb dX5_init_110 rfl ?_
                refine lv_aload_n hx hb dX5_init_111 rfl (lv_at hl 1 rfl) ?_
                refine m_get (T := TX5) (N := 11) (ci := 5) (v := .ref q1) hx hb hts wX5 hown hK hm hR_104 rfl 0 (by decide) f10 (fun _ h9 => h9) rfl dX5_init_112 ?_
                refine m_kI (As := [.ref q1]) (rest := [.ref q103, .ref h0]) (rm := { frames := 2, cells := 11, slots := 371, locals := 32 }) ⟨hx, hb, hml, hown, hts⟩ (i_X3_init l D k z _ _ q103 q1 hk_q1 hM_q103 hk0_q103 hT) (cwI 1 hts gX5_init_X3_init rfl rfl rfl (hts (.initialized RX3) (by decide +kernel)) (hts (.methodLink RX5 49 yX3_init) (by decide +kernel)) (hts (.instanceMethod yX3_init) (by decide +kernel)) rfl (by decide +kernel) ⟨Nat.le_of_ble_eq_true rfl, Nat.le_of_ble_eq_true rfl⟩) hz hcx hm hS rfl hl.1 rfl (Nat.le_of_ble_eq_true rfl) dX5_init_115 ⟨Nat.le_of_ble_eq_true rfl, Nat.le_of_ble_eq_true rfl⟩ (fun v M1 H locs hv hm hS => ?_)
                obtain ⟨hv1, κ49, hT9, hE9, hkq9⟩ := hv
                subst hv1
                have hk_q1 := hE9.kD hT hk0_q103 hk_q1
                have hk_q5 := hE9.kD hT hk0_q103 hk_q5
                have hk_q7 := hE9.kD hT hk0_q103 hk_q7
                have hk_q9 := hE9.kD hT hk0_q103 hk_q9
                have hk_q11 := hE9.kD hT hk0_q103 hk_q11
                have hk_q18 := hE9.kD hT hk0_q103 hk_q18
                have hk_q15 := hE9.kD hT hk0_q103 hk_q15
                have hk_v0_23 := hE9.kD hT hk0_q103 hk_v0_23
                have hk_v1_23 := hE9.kD hT hk0_q103 hk_v1_23
                have hk_v2_23 := hE9.kD hT hk0_q103 hk_v2_23
                have hk_v3_23 := hE9.kD hT hk0_q103 hk_v3_23
                have hk_v4_23 := hE9.kD hT hk0_q103 hk_v4_23
                have hk_q32 := hE9.kD hT hk0_q103 hk_q32
                have hk_q28 := hE9.kD hT hk0_q103 hk_q28
                have hk_v0_38 := hE9.kD hT hk0_q103 hk_v0_38
                have hk_v1_38 := hE9.kD hT hk0_q103 hk_v1_38
                have hk_v2_38 := hE9.kD hT hk0_q103 hk_v2_38
                have hk_v3_38 := hE9.kD hT hk0_q103 hk_v3_38
                have hk_v4_38 := hE9.kD hT hk0_q103 hk_v4_38
                have hk_q47 := hE9.kD hT hk0_q103 hk_q47
                have hk_q43 := hE9.kD hT hk0_q103 hk_q43
                have hk_v0_53 := hE9.kD hT hk0_q103 hk_v0_53
                have hk_v1_53 := hE9.kD hT hk0_q103 hk_v1_53
                have hk_v2_53 := hE9.kD hT hk0_q103 hk_v2_53
                have hk_v3_53 := hE9.kD hT hk0_q103 hk_v3_53
                have hk_v4_53 := hE9.kD hT hk0_q103 hk_v4_53
                have hk_q62 := hE9.kD hT hk0_q103 hk_q62
                have hk_q58 := hE9.kD hT hk0_q103 hk_q58
                have hk_v0_68 := hE9.kD hT hk0_q103 hk_v0_68
                have hk_v1_68 := hE9.kD hT hk0_q103 hk_v1_68
                have hk_v2_68 := hE9.kD hT hk0_q103 hk_v2_68
                have hk_v3_68 := hE9.kD hT hk0_q103 hk_v3_68
                have hk_v4_68 := hE9.kD hT hk0_q103 hk_v4_68
                have hk_q77 := hE9.kD hT hk0_q103 hk_q77
                have hk_q73 := hE9.kD hT hk0_q103 hk_q73
                have hk_v0_83 := hE9.kD hT hk0_q103 hk_v0_83
                have hk_v1_83 := hE9.kD hT hk0_q103 hk_v1_83
                have hk_v2_83 := hE9.kD hT hk0_q103 hk_v2_83
                have hk_v3_83 := hE9.kD hT hk0_q103 hk_v3_83
                have hk_v4_83 := hE9.kD hT hk0_q103 hk_v4_83
                have hk_q92 := hE9.kD hT hk0_q103 hk_q92
                have hk_q88 := hE9.kD hT hk0_q103 hk_q88
                have hk_v0_98 := hE9.kD hT hk0_q103 hk_v0_98
                have hk_v1_98 := hE9.kD hT hk0_q103 hk_v1_98
                have hk_v2_98 := hE9.kD hT hk0_q103 hk_v2_98
                have hk_v3_98 := hE9.kD hT hk0_q103 hk_v3_98
                have hk_v4_98 := hE9.kD hT hk0_q103 hk_v4_98
                have hk1_h0_49 := hE9.2 h0 _ (del_of ne_h0_q103 hR_104) hk0_h0
                have hk0_h0 := (hE9.1 h0 _ (del_of ne_h0_q103 hR_104)).trans hk0_h0
                have hE := hE.transD hT0 hT hk0_q103 hz0_q103 hE9
                have hT := hT9
                have hk_q103 := hkq9
                obtain ⟨Mc49, hMx⟩ : ∃ x : mM, x = M1 := ⟨M1, rfl⟩
                subst hMx
                refine W.eq (g2 := F0 m 118 ls [.ref q103, .ref h0]) rfl ?_
                refine W.widen (k := 109) (n := 3264) (Nat.le_of_ble_eq_true rfl) (Nat.le_of_ble_eq_true rfl) ?_
                have hm : mm D (AZ z) Mc49 H := hm
                refine m_putF (T := TX5) (N := 11) (ci := 5) (v := .ref q103) (ty := .object "CommitTree$Transaction") hx hb hts wX5 tyX5 tyX5_ok nmX5 hown hK hm hS hk1_h0_49 rfl 5 (by decide) f52 (fun _ h9 => h9) rfl hin rfl (by decide +kernel) rfl rfl (Nat.le_of_ble_eq_true rfl) dX5_init_118 (fun H locs hm hS => ?_)
                have hm : mm D (AZ z) (mu Mc49 h0 (.inr (5, [.ref q1, .ref q5, .ref q7, .ref q9, .ref q11, .ref q103, .int 0, .int 0, .int 0, .int 0, .int 0]))) H := hm
                have hT : TM k κ49 (mu Mc49 h0 (.inr (5, [.ref q1, .ref q5, .ref q7, .ref q9, .ref q11, .ref q103, .int 0, .int 0, .int 0, .int 0, .int 0]))) := fun b9 d9 hb9 => by
                  obtain ⟨e9, h9, h8⟩ := hT b9 d9 hb9
                  exact ⟨e9, (mu_ne (fun q9 => by rw [q9, hk0_h0] at hb9; cases hb9)).trans h9, h8⟩
                have hE : kx κ (mdel M h0) κ49 (mu Mc49 h0 (.inr (5, [.ref q1, .ref q5, .ref q7, .ref q9, .ref q11, .ref q103, .int 0, .int 0, .int 0, .int 0, .int 0]))) := ⟨hE.1, fun b9 e9 hb9 hn9 => (mu_ne (m_fr hz0_h0 hb9)).trans (hE.2 b9 e9 hb9 hn9)⟩
                have hM_h0 : (mu Mc49 h0 (.inr (5, [.ref q1, .ref q5, .ref q7, .ref q9, .ref q11, .ref q103, .int 0, .int 0, .int 0, .int 0, .int 0]))) h0 = _ := mu_self _ _ _
                generalize (mu Mc49 h0 (.inr (5, [.ref q1, .ref q5, .ref q7, .ref q9, .ref q11, .ref q103, .int 0, .int 0, .int 0, .int 0, .int 0]))) = Mc50 at hm hT hE hM_h0
                refine lv_aload_n hx hb dX5_init_121 rfl (lv_at hl 1 rfl) ?_
                refine lv_iconst (v := 1) hx hb dX5_init_122 (by decide) ?_
                refine m_put (T := TX5) (N := 11) (ci := 5) (v := .int 1) (ty := .int) hx hb hts wX5 tyX5 tyX5_ok nmX5 hown hK hm hS hM_h0 rfl 6 (by decide) f56 (fun _ h9 => h9) rfl (by decide +kernel) rfl rfl (Nat.le_of_ble_eq_true rfl) dX5_init_123 (fun H locs hm hS => ?_)
                have hm : mm D (AZ z) (mu Mc50 h0 (.inr (5, [.ref q1, .ref q5, .ref q7, .ref q9, .ref q11, .ref q103, .int 1, .int 0, .int 0, .int 0, .int 0]))) H := hm
                have hT : TM k κ49 (mu Mc50 h0 (.inr (5, [.ref q1, .ref q5, .ref q7, .ref q9, .ref q11, .ref q103, .int 1, .int 0, .int 0, .int 0, .int 0]))) := fun b9 d9 hb9 => by
                  obtain ⟨e9, h9, h8⟩ := hT b9 d9 hb9
                  exact ⟨e9, (mu_ne (fun q9 => by rw [q9, hk0_h0] at hb9; cases hb9)).trans h9, h8⟩
                have hE : kx κ (mdel M h0) κ49 (mu Mc50 h0 (.inr (5, [.ref q1, .ref q5, .ref q7, .ref q9, .ref q11, .ref q103, .int 1, .int 0, .int 0, .int 0, .int 0]))) := ⟨hE.1, fun b9 e9 hb9 hn9 => (mu_ne (m_fr hz0_h0 hb9)).trans (hE.2 b9 e9 hb9 hn9)⟩
                have hM_h0 : (mu Mc50 h0 (.inr (5, [.ref q1, .ref q5, .ref q7, .ref q9, .ref q11, .ref q103, .int 1, .int 0, .int 0, .int 0, .int 0]))) h0 = _ := mu_self _ _ _
                generalize (mu Mc50 h0 (.inr (5, [.ref q1, .ref q5, .ref q7, .ref q9, .ref q11, .ref q103, .int 1, .int 0, .int 0, .int 0, .int 0]))) = Mc51 at hm hT hE hM_h0
                refine lv_aload_n hx hb dX5_init_126 rfl (lv_at hl 1 rfl) ?_
                refine lv_iconst (v := 0) hx hb dX5_init_127 (by decide) ?_
                refine m_put (T := TX5) (N := 11) (ci := 5) (v := .int 0) (ty := .int) hx hb hts wX5 tyX5 tyX5_ok nmX5 hown hK hm hS hM_h0 rfl 7 (by decide) f60 (fun _ h9 => h9) rfl (by decide +kernel) rfl rfl (Nat.le_of_ble_eq_true rfl) dX5_init_128 (fun H locs hm hS => ?_)
                have hm : mm D (AZ z) (mu Mc51 h0 (.inr (5, [.ref q1, .ref q5, .ref q7, .ref q9, .ref q11, .ref q103, .int 1, .int 0, .int 0, .int 0, .int 0]))) H := hm
                have hT : TM k κ49 (mu Mc51 h0 (.inr (5, [.ref q1, .ref q5, .ref q7, .ref q9, .ref q11, .ref q103, .int 1, .int 0, .int 0, .int 0, .int 0]))) := fun b9 d9 hb9 => by
                  obtain ⟨e9, h9, h8⟩ := hT b9 d9 hb9
                  exact ⟨e9, (mu_ne (fun q9 => by rw [q9, hk0_h0] at hb9; cases hb9)).trans h9, h8⟩
                have hE : kx κ (mdel M h0) κ49 (mu Mc51 h0 (.inr (5, [.ref q1, .ref q5, .ref q7, .ref q9, .ref q11, .ref q103, .int 1, .int 0, .int 0, .int 0, .int 0]))) := ⟨hE.1, fun b9 e9 hb9 hn9 => (mu_ne (m_fr hz0_h0 hb9)).trans (hE.2 b9 e9 hb9 hn9)⟩
                have hM_h0 : (mu Mc51 h0 (.inr (5, [.ref q1, .ref q5, .ref q7, .ref q9, .ref q11, .ref q103, .int 1, .int 0, .int 0, .int 0, .int 0]))) h0 = _ := mu_self _ _ _
                generalize (mu Mc51 h0 (.inr (5, [.ref q1, .ref q5, .ref q7, .ref q9, .ref q11, .ref q103, .int 1, .int 0, .int 0, .int 0, .int 0]))) = Mc52 at hm hT hE hM_h0
                refine lv_aload_n hx hb dX5_init_131 rfl (lv_at hl 1 rfl) ?_
                refine lv_iconst (v := 0) hx hb dX5_init_132 (by decide) ?_
                refine m_put (T := TX5) (N := 11) (ci := 5) (v := .int 0) (ty := .int) hx hb hts wX5 tyX5 tyX5_ok nmX5 hown hK hm hS hM_h0 rfl 8 (by decide) f63 (fun _ h9 => h9) rfl (by decide +kernel) rfl rfl (Nat.le_of_ble_eq_true rfl) dX5_init_133 (fun H locs hm hS => ?_)
                have hm : mm D (AZ z) (mu Mc52 h0 (.inr (5, [.ref q1, .ref q5, .ref q7, .ref q9, .ref q11, .ref q103, .int 1, .int 0, .int 0, .int 0, .int 0]))) H := hm
                have hT : TM k κ49 (mu Mc52 h0 (.inr (5, [.ref q1, .ref q5, .ref q7, .ref q9, .ref q11, .ref q103, .int 1, .int 0, .int 0, .int 0, .int 0]))) := fun b9 d9 hb9 => by
                  obtain ⟨e9, h9, h8⟩ := hT b9 d9 hb9
                  exact ⟨e9, (mu_ne (fun q9 => by rw [q9, hk0_h0] at hb9; cases hb9)).trans h9, h8⟩
                have hE : kx κ (mdel M h0) κ49 (mu Mc52 h0 (.inr (5, [.ref q1, .ref q5, .ref q7, .ref q9, .ref q11, .ref q103, .int 1, .int 0, .int 0, .int 0, .int 0]))) := ⟨hE.1, fun b9 e9 hb9 hn9 => (mu_ne (m_fr hz0_h0 hb9)).trans (hE.2 b9 e9 hb9 hn9)⟩
                have hM_h0 : (mu Mc52 h0 (.inr (5, [.ref q1, .ref q5, .ref q7, .ref q9, .ref q11, .ref q103, .int 1, .int 0, .int 0, .int 0, .int 0]))) h0 = _ := mu_self _ _ _
                generalize (mu Mc52 h0 (.inr (5, [.ref q1, .ref q5, .ref q7, .ref q9, .ref q11, .ref q103, .int 1, .int 0, .int 0, .int 0, .int 0]))) = Mc53 at hm hT hE hM_h0
                refine lv_aload_n hx hb dX5_init_136 rfl (lv_at hl 1 rfl) ?_
                refine lv_iconst (v := 0) hx hb dX5_init_137 (by decide) ?_
                refine m_put (T := TX5) (N := 11) (ci := 5) (v := .int 0) (ty := .boolean) hx hb hts wX5 tyX5 tyX5_ok nmX5 hown hK hm hS hM_h0 rfl 9 (by decide) f66 (fun _ h9 => h9) rfl (by decide +kernel) rfl rfl (Nat.le_of_ble_eq_true rfl) dX5_init_138 (fun H locs hm hS => ?_)
                have hm : mm D (AZ z) (mu Mc53 h0 (.inr (5, [.ref q1, .ref q5, .ref q7, .ref q9, .ref q11, .ref q103, .int 1, .int 0, .int 0, .int 0, .int 0]))) H := hm
                have hT : TM k κ49 (mu Mc53 h0 (.inr (5, [.ref q1, .ref q5, .ref q7, .ref q9, .ref q11, .ref q103, .int 1, .int 0, .int 0, .int 0, .int 0]))) := fun b9 d9 hb9 => by
                  obtain ⟨e9, h9, h8⟩ := hT b9 d9 hb9
                  exact ⟨e9, (mu_ne (fun q9 => by rw [q9, hk0_h0] at hb9; cases hb9)).trans h9, h8⟩
                have hE : kx κ (mdel M h0) κ49 (mu Mc53 h0 (.inr (5, [.ref q1, .ref q5, .ref q7, .ref q9, .ref q11, .ref q103, .int 1, .int 0, .int 0, .int 0, .int 0]))) := ⟨hE.1, fun b9 e9 hb9 hn9 => (mu_ne (m_fr hz0_h0 hb9)).trans (hE.2 b9 e9 hb9 hn9)⟩
                have hM_h0 : (mu Mc53 h0 (.inr (5, [.ref q1, .ref q5, .ref q7, .ref q9, .ref q11, .ref q103, .int 1, .int 0, .int 0, .int 0, .int 0]))) h0 = _ := mu_self _ _ _
                generalize (mu Mc53 h0 (.inr (5, [.ref q1, .ref q5, .ref q7, .ref q9, .ref q11, .ref q103, .int 1, .int 0, .int 0, .int 0, .int 0]))) = Mc54 at hm hT hE hM_h0
                refine lv_aload_n hx hb dX5_init_141 rfl (lv_at hl 1 rfl) ?_
                refine lv_iconst (v := 0) hx hb dX5_init_142 (by decide) ?_
                refine m_put (T := TX5) (N := 11) (ci := 5) (v := .int 0) (ty := .boolean) hx hb hts wX5 tyX5 tyX5_ok nmX5 hown hK hm hS hM_h0 rfl 10 (by decide) f70 (fun _ h9 => h9) rfl (by decide +kernel) rfl rfl (Nat.le_of_ble_eq_true rfl) dX5_init_143 (fun H locs hm hS => ?_)
                have hm : mm D (AZ z) (mu Mc54 h0 (.inr (5, [.ref q1, .ref q5, .ref q7, .ref q9, .ref q11, .ref q103, .int 1, .int 0, .int 0, .int 0, .int 0]))) H := hm
                have hT : TM k κ49 (mu Mc54 h0 (.inr (5, [.ref q1, .ref q5, .ref q7, .ref q9, .ref q11, .ref q103, .int 1, .int 0, .int 0, .int 0, .int 0]))) := fun b9 d9 hb9 => by
                  obtain ⟨e9, h9, h8⟩ := hT b9 d9 hb9
                  exact ⟨e9, (mu_ne (fun q9 => by rw [q9, hk0_h0] at hb9; cases hb9)).trans h9, h8⟩
                have hE : kx κ (mdel M h0) κ49 (mu Mc54 h0 (.inr (5, [.ref q1, .ref q5, .ref q7, .ref q9, .ref q11, .ref q103, .int 1, .int 0, .int 0, .int 0, .int 0]))) := ⟨hE.1, fun b9 e9 hb9 hn9 => (mu_ne (m_fr hz0_h0 hb9)).trans (hE.2 b9 e9 hb9 hn9)⟩
                have hM_h0 : (mu Mc54 h0 (.inr (5, [.ref q1, .ref q5, .ref q7, .ref q9, .ref q11, .ref q103, .int 1, .int 0, .int 0, .int 0, .int 0]))) h0 = _ := mu_self _ _ _
                generalize (mu Mc54 h0 (.inr (5, [.ref q1, .ref q5, .ref q7, .ref q9, .ref q11, .ref q103, .int 1, .int 0, .int 0, .int 0, .int 0]))) = Mc55 at hm hT hE hM_h0
                have hk_old := hk0_h0
                have hk_q1 := kup_old (d := .top) hk0_h0 hk_q1
                have hk_q5 := kup_old (d := .top) hk0_h0 hk_q5
                have hk_q7 := kup_old (d := .top) hk0_h0 hk_q7
                have hk_q9 := kup_old (d := .top) hk0_h0 hk_q9
                have hk_q11 := kup_old (d := .top) hk0_h0 hk_q11
                have hk_q18 := kup_old (d := .top) hk0_h0 hk_q18
                have hk_q15 := kup_old (d := .top) hk0_h0 hk_q15
                have hk_v0_23 := kup_old (d := .top) hk0_h0 hk_v0_23
                have hk_v1_23 := kup_old (d := .top) hk0_h0 hk_v1_23
                have hk_v2_23 := kup_old (d := .top) hk0_h0 hk_v2_23
                have hk_v3_23 := kup_old (d := .top) hk0_h0 hk_v3_23
                have hk_v4_23 := kup_old (d := .top) hk0_h0 hk_v4_23
                have hk_q32 := kup_old (d := .top) hk0_h0 hk_q32
                have hk_q28 := kup_old (d := .top) hk0_h0 hk_q28
                have hk_v0_38 := kup_old (d := .top) hk0_h0 hk_v0_38
                have hk_v1_38 := kup_old (d := .top) hk0_h0 hk_v1_38
                have hk_v2_38 := kup_old (d := .top) hk0_h0 hk_v2_38
                have hk_v3_38 := kup_old (d := .top) hk0_h0 hk_v3_38
                have hk_v4_38 := kup_old (d := .top) hk0_h0 hk_v4_38
                have hk_q47 := kup_old (d := .top) hk0_h0 hk_q47
                have hk_q43 := kup_old (d := .top) hk0_h0 hk_q43
                have hk_v0_53 := kup_old (d := .top) hk0_h0 hk_v0_53
                have hk_v1_53 := kup_old (d := .top) hk0_h0 hk_v1_53
                have hk_v2_53 := kup_old (d := .top) hk0_h0 hk_v2_53
                have hk_v3_53 := kup_old (d := .top) hk0_h0 hk_v3_53
                have hk_v4_53 := kup_old (d := .top) hk0_h0 hk_v4_53
                have hk_q62 := kup_old (d := .top) hk0_h0 hk_q62
                have hk_q58 := kup_old (d := .top) hk0_h0 hk_q58
                have hk_v0_68 := kup_old (d := .top) hk0_h0 hk_v0_68
                have hk_v1_68 := kup_old (d := .top) hk0_h0 hk_v1_68
                have hk_v2_68 := kup_old (d := .top) hk0_h0 hk_v2_68
                have hk_v3_68 := kup_old (d := .top) hk0_h0 hk_v3_68
                have hk_v4_68 := kup_old (d := .top) hk0_h0 hk_v4_68
                have hk_q77 := kup_old (d := .top) hk0_h0 hk_q77
                have hk_q73 := kup_old (d := .top) hk0_h0 hk_q73
                have hk_v0_83 := kup_old (d := .top) hk0_h0 hk_v0_83
                have hk_v1_83 := kup_old (d := .top) hk0_h0 hk_v1_83
                have hk_v2_83 := kup_old (d := .top) hk0_h0 hk_v2_83
                have hk_v3_83 := kup_old (d := .top) hk0_h0 hk_v3_83
                have hk_v4_83 := kup_old (d := .top) hk0_h0 hk_v4_83
                have hk_q92 := kup_old (d := .top) hk0_h0 hk_q92
                have hk_q88 := kup_old (d := .top) hk0_h0 hk_q88
                have hk_v0_98 := kup_old (d := .top) hk0_h0 hk_v0_98
                have hk_v1_98 := kup_old (d := .top) hk0_h0 hk_v1_98
                have hk_v2_98 := kup_old (d := .top) hk0_h0 hk_v2_98
                have hk_v3_98 := kup_old (d := .top) hk0_h0 hk_v3_98
                have hk_v4_98 := kup_old (d := .top) hk0_h0 hk_v4_98
                have hk_q103 := kup_old (d := .top) hk0_h0 hk_q103
                have hT : TM k (kup κ49 h0 .top) Mc55 := hT.adopt hk0_h0 hM_h0 (show wf k (kup κ49 h0 .top) .top _ from ⟨q1, q5, q7, q9, q11, q103, 1, 0, 0, 0, 0, rfl, hk_q1, hk_q5, hk_q7, hk_q9, hk_q11, hk_q103, (Or.inl rfl), (Or.inl rfl)⟩)
                have hE : kx κ (mdel M h0) (kup κ49 h0 .top) Mc55 := hE.adopt hz0_h0
                have hk_h0 : kup κ49 h0 .top h0 = some .top := kup_self _ _ _
                generalize kup κ49 h0 .top = κ56 at hT hE hk_q1 hk_q5 hk_q7 hk_q9 hk_q11 hk_q18 hk_q15 hk_v0_23 hk_v1_23 hk_v2_23 hk_v3_23 hk_v4_23 hk_q32 hk_q28 hk_v0_38 hk_v1_38 hk_v2_38 hk_v3_38 hk_v4_38 hk_q47 hk_q43 hk_v0_53 hk_v1_53 hk_v2_53 hk_v3_53 hk_v4_53 hk_q62 hk_q58 hk_v0_68 hk_v1_68 hk_v2_68 hk_v3_68 hk_v4_68 hk_q77 hk_q73 hk_v0_83 hk_v1_83 hk_v2_83 hk_v3_83 hk_v4_83 hk_q92 hk_q88 hk_v0_98 hk_v1_98 hk_v2_98 hk_v3_98 hk_v4_98 hk_q103 hk_h0
                refine W.vret hx hb hr (fun t ht hW => ⟨⟨none, _, rfl, ?_, by rw [ht]; exact hm⟩, hS.F ht⟩) hS.2.2 dX5_init_146
                exact ⟨rfl, _, hT, hE, hk_h0⟩
              · first | exact absurd c102 (by decide) | exact absurd (by decide) c102

