set_option maxHeartbeats 4000000 in
set_option maxRecDepth 100000 in
theorem t_X1_weighKept_NNR (l : Launch) (D : va_G) (k : Nat → ClassId) (z : Nat) (M : mM) (κ : Nat → Option KD) (h0 : Nat) (r2 : Nat) (hk_h0 : κ h0 = some .merge) (hk_r2 : κ r2 = some .node) (hT : TM k κ M) : mK l yX1_weighKept wsX1_weighKept ({ frames := 3, cells := 0, slots := 0, locals := 75 }) D k z [.ref h0, .null, .null, .ref r2] M (fun v M' => ∃ κ', TM k κ' M' ∧ kx κ M κ' M' ∧ v = none) := by
  refine Met.ofW (cc := cX1_weighKept) (maxL := 4) (ret := none) (by decide) rfl ?_
  intro p e s m args below meth c s₁ B hml hv
  obtain ⟨rfl, hz, hcx, hm⟩ := hv
  have hx := B.exec
  have hb := B.bytes
  have hr := B.returns
  have hts := atoms_spec (ws := wsX1_weighKept) B.pre
  have hown : s.vm.findClass RX1 = some m.cls := findClass_of_methodNamed B.named
  have hlocks := B.notSynchronized
  have hK := hcx.1
  have hS : va_S (AZ z) s.heap s.heap [] := va_S.rf
  have hA : ∀ q, s.heap.size ≤ q → AZ z q := fun q h => Nat.le_trans hz h
  have hl := lv_entry ([.ref h0, .null, .null, .ref r2]) (n := 4) (Nat.le_of_ble_eq_true rfl)
  rw [lg_entry_eq]
  generalize (lg_sl ([.ref h0, .null, .null, .ref r2]) ++ List.replicate (4 - (lg_sl ([.ref h0, .null, .null, .ref r2])).length) Slot.unset).toArray = ls at hl ⊢
  have hl : lv_has ls 4 [(0, .ref h0), (1, .null), (2, .null), (3, .ref r2)] := hl
  have hT0 := hT
  have hE : kx κ M κ M := kx.refl _ _
  refine lv_aload_nN hx hb dX1_weighKept_0 rfl (lv_at hl 1 rfl) ?_
  refine lv_ifnonnullN hx hb dX1_weighKept_1 ?_
  refine lv_aload_n hx hb dX1_weighKept_4 rfl (lv_at hl 0 rfl) ?_
  refine lv_aload_n hx hb dX1_weighKept_5 rfl (lv_at hl 3 rfl) ?_
  refine lv_aload_n hx hb dX1_weighKept_6 rfl (lv_at hl 3 rfl) ?_
  refine lv_aload_n hx hb dX1_weighKept_7 rfl (lv_at hl 3 rfl) ?_
  refine lv_iconst (v := 0) hx hb dX1_weighKept_8 (by decide) ?_
  obtain ⟨v0_1, v1_1, v2_1, v3_1, v4_1, v5_1, hM_h0_1, hk_v4_1, hk_v5_1⟩ := hT.merge hk_h0
  refine m_kV (As := [.ref r2, .ref r2, .ref r2, .int 0]) (rest := []) (rm := { frames := 2, cells := 0, slots := 0, locals := 49 }) ⟨hx, hb, hml, hown, hts⟩ (t_X1_weighNode_RRR0 l D k z _ _ h0 r2 r2 r2 hk_h0 hk_r2 hk_r2 hk_r2 hT) (cwV 4 hts gX1_weighKept_X1_weighNode rfl rfl rfl (by decide +kernel) ⟨Nat.le_of_ble_eq_true rfl, Nat.le_of_ble_eq_true rfl⟩) (m_recv hK hm (q := (RX1, TX1, 6)) rfl hM_h0_1) hz hcx hm hS rfl hl.1 rfl (Nat.le_of_ble_eq_true rfl) dX1_weighKept_9 ⟨Nat.le_of_ble_eq_true rfl, Nat.le_of_ble_eq_true rfl⟩ (fun v M1 H locs hv hm hS => ?_)
  obtain ⟨κ1, hT9, hE9, hv1⟩ := hv
  have hk_h0 := hE9.k hT hk_h0
  have hk_r2 := hE9.k hT hk_r2
  have hE := hE.trans hT0 hT hE9
  have hT := hT9
  obtain ⟨Mc1, hMx⟩ : ∃ x : mM, x = M1 := ⟨M1, rfl⟩
  subst hMx
  subst hv1
  refine W.eq (g2 := F0 m 12 ls []) rfl ?_
  refine W.widen (k := 0) (n := 0) (Nat.le_of_ble_eq_true rfl) (Nat.le_of_ble_eq_true rfl) ?_
  have hm : mm D (AZ z) Mc1 H := hm
  refine lv_goto (tgt := 27) hx hb dX1_weighKept_12 (by decide) ?_
  refine W.vret hx hb hr (fun t ht hW => ⟨⟨none, _, rfl, ?_, by rw [ht]; exact hm⟩, hS.F ht⟩) hS.2.2 dX1_weighKept_27
  exact ⟨_, hT, hE, rfl⟩

set_option maxHeartbeats 4000000 in
set_option maxRecDepth 100000 in
theorem t_X1_weighKept_NRR (l : Launch) (D : va_G) (k : Nat → ClassId) (z : Nat) (M : mM) (κ : Nat → Option KD) (h0 : Nat) (r1 : Nat) (r2 : Nat) (hk_h0 : κ h0 = some .merge) (hk_r1 : κ r1 = some .node) (hk_r2 : κ r2 = some .node) (hT : TM k κ M) : mK l yX1_weighKept wsX1_weighKept ({ frames := 3, cells := 0, slots := 0, locals := 75 }) D k z [.ref h0, .null, .ref r1, .ref r2] M (fun v M' => ∃ κ', TM k κ' M' ∧ kx κ M κ' M' ∧ v = none) := by
  refine Met.ofW (cc := cX1_weighKept) (maxL := 4) (ret := none) (by decide) rfl ?_
  intro p e s m args below meth c s₁ B hml hv
  obtain ⟨rfl, hz, hcx, hm⟩ := hv
  have hx := B.exec
  have hb := B.bytes
  have hr := B.returns
  have hts := atoms_spec (ws := wsX1_weighKept) B.pre
  have hown : s.vm.findClass RX1 = some m.cls := findClass_of_methodNamed B.named
  have hlocks := B.notSynchronized
  have hK := hcx.1
  have hS : va_S (AZ z) s.heap s.heap [] := va_S.rf
  have hA : ∀ q, s.heap.size ≤ q → AZ z q := fun q h => Nat.le_trans hz h
  have hl := lv_entry ([.ref h0, .null, .ref r1, .ref r2]) (n := 4) (Nat.le_of_ble_eq_true rfl)
  rw [lg_entry_eq]
  generalize (lg_sl ([.ref h0, .null, .ref r1, .ref r2]) ++ List.replicate (4 - (lg_sl ([.ref h0, .null, .ref r1, .ref r2])).length) Slot.unset).toArray = ls at hl ⊢
  have hl : lv_has ls 4 [(0, .ref h0), (1, .null), (2, .ref r1), (3, .ref r2)] := hl
  have hT0 := hT
  have hE : kx κ M κ M := kx.refl _ _
  refine lv_aload_nN hx hb dX1_weighKept_0 rfl (lv_at hl 1 rfl) ?_
  refine lv_ifnonnullN hx hb dX1_weighKept_1 ?_
  refine lv_aload_n hx hb dX1_weighKept_4 rfl (lv_at hl 0 rfl) ?_
  refine lv_aload_n hx hb dX1_weighKept_5 rfl (lv_at hl 3 rfl) ?_
  refine lv_aload_n hx hb dX1_weighKept_6 rfl (lv_at hl 3 rfl) ?_
  refine lv_aload_n hx hb dX1_weighKept_7 rfl (lv_at hl 3 rfl) ?_
  refine lv_iconst (v := 0) hx hb dX1_weighKept_8 (by decide) ?_
  obtain ⟨v0_1, v1_1, v2_1, v3_1, v4_1, v5_1, hM_h0_1, hk_v4_1, hk_v5_1⟩ := hT.merge hk_h0
  refine m_kV (As := [.ref r2, .ref r2, .ref r2, .int 0]) (rest := []) (rm := { frames := 2, cells := 0, slots := 0, locals := 49 }) ⟨hx, hb, hml, hown, hts⟩ (t_X1_weighNode_RRR0 l D k z _ _ h0 r2 r2 r2 hk_h0 hk_r2 hk_r2 hk_r2 hT) (cwV 4 hts gX1_weighKept_X1_weighNode rfl rfl rfl (by decide +kernel) ⟨Nat.le_of_ble_eq_true rfl, Nat.le_of_ble_eq_true rfl⟩) (m_recv hK hm (q := (RX1, TX1, 6)) rfl hM_h0_1) hz hcx hm hS rfl hl.1 rfl (Nat.le_of_ble_eq_true rfl) dX1_weighKept_9 ⟨Nat.le_of_ble_eq_true rfl, Nat.le_of_ble_eq_true rfl⟩ (fun v M1 H locs hv hm hS => ?_)
  obtain ⟨κ1, hT9, hE9, hv1⟩ := hv
  have hk_h0 := hE9.k hT hk_h0
  have hk_r1 := hE9.k hT hk_r1
  have hk_r2 := hE9.k hT hk_r2
  have hE := hE.trans hT0 hT hE9
  have hT := hT9
  obtain ⟨Mc1, hMx⟩ : ∃ x : mM, x = M1 := ⟨M1, rfl⟩
  subst hMx
  subst hv1
  refine W.eq (g2 := F0 m 12 ls []) rfl ?_
  refine W.widen (k := 0) (n := 0) (Nat.le_of_ble_eq_true rfl) (Nat.le_of_ble_eq_true rfl) ?_
  have hm : mm D (AZ z) Mc1 H := hm
  refine lv_goto (tgt := 27) hx hb dX1_weighKept_12 (by decide) ?_
  refine W.vret hx hb hr (fun t ht hW => ⟨⟨none, _, rfl, ?_, by rw [ht]; exact hm⟩, hS.F ht⟩) hS.2.2 dX1_weighKept_27
  exact ⟨_, hT, hE, rfl⟩

set_option maxHeartbeats 4000000 in
set_option maxRecDepth 100000 in
theorem t_X1_weighKept_RNR (l : Launch) (D : va_G) (k : Nat → ClassId) (z : Nat) (M : mM) (κ : Nat → Option KD) (h0 : Nat) (r0 : Nat) (r2 : Nat) (hk_h0 : κ h0 = some .merge) (hk_r0 : κ r0 = some .node) (hk_r2 : κ r2 = some .node) (hT : TM k κ M) : mK l yX1_weighKept wsX1_weighKept ({ frames := 0, cells := 0, slots := 0, locals := 0 }) D k z [.ref h0, .ref r0, .null, .ref r2] M (fun v M' => ∃ κ', TM k κ' M' ∧ kx κ M κ' M' ∧ v = none) := by
  refine Met.ofW (cc := cX1_weighKept) (maxL := 4) (ret := none) (by decide) rfl ?_
  intro p e s m args below meth c s₁ B hml hv
  obtain ⟨rfl, hz, hcx, hm⟩ := hv
  have hx := B.exec
  have hb := B.bytes
  have hr := B.returns
  have hts := atoms_spec (ws := wsX1_weighKept) B.pre
  have hown : s.vm.findClass RX1 = some m.cls := findClass_of_methodNamed B.named
  have hlocks := B.notSynchronized
  have hK := hcx.1
  have hS : va_S (AZ z) s.heap s.heap [] := va_S.rf
  have hA : ∀ q, s.heap.size ≤ q → AZ z q := fun q h => Nat.le_trans hz h
  have hl := lv_entry ([.ref h0, .ref r0, .null, .ref r2]) (n := 4) (Nat.le_of_ble_eq_true rfl)
  rw [lg_entry_eq]
  generalize (lg_sl ([.ref h0, .ref r0, .null, .ref r2]) ++ List.replicate (4 - (lg_sl ([.ref h0, .ref r0, .null, .ref r2])).length) Slot.unset).toArray = ls at hl ⊢
  have hl : lv_has ls 4 [(0, .ref h0), (1, .ref r0), (2, .null), (3, .ref r2)] := hl
  have hT0 := hT
  have hE : kx κ M κ M := kx.refl _ _
  refine lv_aload_n hx hb dX1_weighKept_0 rfl (lv_at hl 1 rfl) ?_
  refine lv_ifnonnull (tgt := 15) hx hb dX1_weighKept_1 (by decide) ?_
  refine lv_aload_nN hx hb dX1_weighKept_15 rfl (lv_at hl 2 rfl) ?_
  refine lv_ifnullN (tgt := 27) hx hb dX1_weighKept_16 (by decide) ?_
  refine W.vret hx hb hr (fun t ht hW => ⟨⟨none, _, rfl, ?_, by rw [ht]; exact hm⟩, hS.F ht⟩) hS.2.2 dX1_weighKept_27
  exact ⟨_, hT, hE, rfl⟩

set_option maxHeartbeats 4000000 in
set_option maxRecDepth 100000 in
theorem t_X1_weighKept_RRR (l : Launch) (D : va_G) (k : Nat → ClassId) (z : Nat) (M : mM) (κ : Nat → Option KD) (h0 : Nat) (r0 : Nat) (r1 : Nat) (r2 : Nat) (hk_h0 : κ h0 = some .merge) (hk_r0 : κ r0 = some .node) (hk_r1 : κ r1 = some .node) (hk_r2 : κ r2 = some .node) (hT : TM k κ M) : mK l yX1_weighKept wsX1_weighKept ({ frames := 3, cells := 0, slots := 0, locals := 75 }) D k z [.ref h0, .ref r0, .ref r1, .ref r2] M (fun v M' => ∃ κ', TM k κ' M' ∧ kx κ M κ' M' ∧ v = none) := by
  refine Met.ofW (cc := cX1_weighKept) (maxL := 4) (ret := none) (by decide) rfl ?_
  intro p e s m args below meth c s₁ B hml hv
  obtain ⟨rfl, hz, hcx, hm⟩ := hv
  have hx := B.exec
  have hb := B.bytes
  have hr := B.returns
  have hts := atoms_spec (ws := wsX1_weighKept) B.pre
  have hown : s.vm.findClass RX1 = some m.cls := findClass_of_methodNamed B.named
  have hlocks := B.notSynchronized
  have hK := hcx.1
  have hS : va_S (AZ z) s.heap s.heap [] := va_S.rf
  have hA : ∀ q, s.heap.size ≤ q → AZ z q := fun q h => Nat.le_trans hz h
  have hl := lv_entry ([.ref h0, .ref r0, .ref r1, .ref r2]) (n := 4) (Nat.le_of_ble_eq_true rfl)
  rw [lg_entry_eq]
  generalize (lg_sl ([.ref h0, .ref r0, .ref r1, .ref r2]) ++ List.replicate (4 - (lg_sl ([.ref h0, .ref r0, .ref r1, .ref r2])).length) Slot.unset).toArray = ls at hl ⊢
  have hl : lv_has ls 4 [(0, .ref h0), (1, .ref r0), (2, .ref r1), (3, .ref r2)] := hl
  have hT0 := hT
  have hE : kx κ M κ M := kx.refl _ _
  refine lv_aload_n hx hb dX1_weighKept_0 rfl (lv_at hl 1 rfl) ?_
  refine lv_ifnonnull (tgt := 15) hx hb dX1_weighKept_1 (by decide) ?_
  refine lv_aload_n hx hb dX1_weighKept_15 rfl (lv_at hl 2 rfl) ?_
  refine lv_ifnull hx hb dX1_weighKept_16 ?_
  refine lv_aload_n hx hb dX1_weighKept_19 rfl (lv_at hl 0 rfl) ?_
  refine lv_aload_n hx hb dX1_weighKept_20 rfl (lv_at hl 1 rfl) ?_
  refine lv_aload_n hx hb dX1_weighKept_21 rfl (lv_at hl 2 rfl) ?_
  refine lv_aload_n hx hb dX1_weighKept_22 rfl (lv_at hl 3 rfl) ?_
  refine lv_iconst (v := 0) hx hb dX1_weighKept_23 (by decide) ?_
  obtain ⟨v0_1, v1_1, v2_1, v3_1, v4_1, v5_1, hM_h0_1, hk_v4_1, hk_v5_1⟩ := hT.merge hk_h0
  refine m_kV (As := [.ref r0, .ref r1, .ref r2, .int 0]) (rest := []) (rm := { frames := 2, cells := 0, slots := 0, locals := 49 }) ⟨hx, hb, hml, hown, hts⟩ (t_X1_weighNode_RRR0 l D k z _ _ h0 r0 r1 r2 hk_h0 hk_r0 hk_r1 hk_r2 hT) (cwV 4 hts gX1_weighKept_X1_weighNode rfl rfl rfl (by decide +kernel) ⟨Nat.le_of_ble_eq_true rfl, Nat.le_of_ble_eq_true rfl⟩) (m_recv hK hm (q := (RX1, TX1, 6)) rfl hM_h0_1) hz hcx hm hS rfl hl.1 rfl (Nat.le_of_ble_eq_true rfl) dX1_weighKept_24 ⟨Nat.le_of_ble_eq_true rfl, Nat.le_of_ble_eq_true rfl⟩ (fun v M1 H locs hv hm hS => ?_)
  obtain ⟨κ1, hT9, hE9, hv1⟩ := hv
  have hk_h0 := hE9.k hT hk_h0
  have hk_r0 := hE9.k hT hk_r0
  have hk_r1 := hE9.k hT hk_r1
  have hk_r2 := hE9.k hT hk_r2
  have hE := hE.trans hT0 hT hE9
  have hT := hT9
  obtain ⟨Mc1, hMx⟩ : ∃ x : mM, x = M1 := ⟨M1, rfl⟩
  subst hMx
  subst hv1
  refine W.eq (g2 := F0 m 27 ls []) rfl ?_
  refine W.widen (k := 0) (n := 0) (Nat.le_of_ble_eq_true rfl) (Nat.le_of_ble_eq_true rfl) ?_
  have hm : mm D (AZ z) Mc1 H := hm
  refine W.vret hx hb hr (fun t ht hW => ⟨⟨none, _, rfl, ?_, by rw [ht]; exact hm⟩, hS.F ht⟩) hS.2.2 dX1_weighKept_27
  exact ⟨_, hT, hE, rfl⟩

set_option maxHeartbeats 4000000 in
set_option maxRecDepth 100000 in
theorem t_X1_weigh_RRR (l : Launch) (D : va_G) (k : Nat → ClassId) (z : Nat) (M : mM) (κ : Nat → Option KD) (h0 : Nat) (r0 : Nat) (r1 : Nat) (r2 : Nat) (hk_h0 : κ h0 = some .merge) (hk_r0 : κ r0 = some .tree) (hk_r1 : κ r1 = some .tree) (hk_r2 : κ r2 = some .tree) (hT : TM k κ M) : mK l yX1_weigh wsX1_weigh ({ frames := 4, cells := 0, slots := 0, locals := 98 }) D k z [.ref h0, .ref r0, .ref r1, .ref r2] M (fun v M' => ∃ κ', TM k κ' M' ∧ kx κ M κ' M' ∧ v = none) := by
  refine Met.ofW (cc := cX1_weigh) (maxL := 6) (ret := none) (by decide) rfl ?_
  intro p e s m args below meth c s₁ B hml hv
  obtain ⟨rfl, hz, hcx, hm⟩ := hv
  have hx := B.exec
  have hb := B.bytes
  have hr := B.returns
  have hts := atoms_spec (ws := wsX1_weigh) B.pre
  have hown : s.vm.findClass RX1 = some m.cls := findClass_of_methodNamed B.named
  have hlocks := B.notSynchronized
  have hK := hcx.1
  have hS : va_S (AZ z) s.heap s.heap [] := va_S.rf
  have hA : ∀ q, s.heap.size ≤ q → AZ z q := fun q h => Nat.le_trans hz h
  have hl := lv_entry ([.ref h0, .ref r0, .ref r1, .ref r2]) (n := 6) (Nat.le_of_ble_eq_true rfl)
  rw [lg_entry_eq]
  generalize (lg_sl ([.ref h0, .ref r0, .ref r1, .ref r2]) ++ List.replicate (6 - (lg_sl ([.ref h0, .ref r0, .ref r1, .ref r2])).length) Slot.unset).toArray = ls at hl ⊢
  have hl : lv_has ls 6 [(0, .ref h0), (1, .ref r0), (2, .ref r1), (3, .ref r2)] := hl
  have f9 := hts (.fieldLink RX1 9 "CommitTree$Merge" "items" "I") (by decide +kernel)
  have f15 := hts (.fieldLink RX1 15 "CommitTree$Merge" "nodes" "I") (by decide +kernel)
  have f18 := hts (.fieldLink RX1 18 "CommitTree$Merge" "blocks" "I") (by decide +kernel)
  have f21 := hts (.fieldLink RX1 21 "CommitTree$Merge" "home" "I") (by decide +kernel)
  have f37 := hts (.fieldLink RX1 37 "CommitTree$Tree" "size" "I") (by decide +kernel)
  have f46 := hts (.fieldLink RX1 46 "CommitTree$Node" "id" "I") (by decide +kernel)
  have wX1 : ∀ w ∈ wsX10, w ∈ wsX1_weigh := by decide +kernel
  have wX2 : ∀ w ∈ wsX20, w ∈ wsX1_weigh := by decide +kernel
  have wX4 : ∀ w ∈ wsX40, w ∈ wsX1_weigh := by decide +kernel
  have hT0 := hT
  have hE : kx κ M κ M := kx.refl _ _
  refine lv_aload_n hx hb dX1_weigh_0 rfl (lv_at hl 0 rfl) ?_
  refine lv_iconst (v := 0) hx hb dX1_weigh_1 (by decide) ?_
  obtain ⟨v0_1, v1_1, v2_1, v3_1, v4_1, v5_1, hM_h0_1, hk_v4_1, hk_v5_1⟩ := hT.merge hk_h0
  refine m_put (T := TX1) (N := 6) (ci := 1) (v := .int 0) (ty := .int) hx hb hts wX1 tyX1 tyX1_ok nmX1 hown hK hm hS hM_h0_1 rfl 0 (by decide) f9 (fun _ h9 => h9) rfl (by decide +kernel) rfl rfl (Nat.le_of_ble_eq_true rfl) dX1_weigh_2 (fun H locs hm hS => ?_)
  have hm : mm D (AZ z) (mu M h0 (.inr (1, [.int 0, .int v1_1, .int v2_1, .int v3_1, .ref v4_1, .ref v5_1]))) H := hm
  have hT : TM k κ (mu M h0 (.inr (1, [.int 0, .int v1_1, .int v2_1, .int v3_1, .ref v4_1, .ref v5_1]))) := hT.put hk_h0 (show wf k κ .merge (.inr (1, [.int 0, .int v1_1, .int v2_1, .int v3_1, .ref v4_1, .ref v5_1])) from ⟨0, v1_1, v2_1, v3_1, v4_1, v5_1, rfl, hk_v4_1, hk_v5_1⟩)
  have hE : kx κ M κ (mu M h0 (.inr (1, [.int 0, .int v1_1, .int v2_1, .int v3_1, .ref v4_1, .ref v5_1]))) := hE.put hk_h0
  generalize (mu M h0 (.inr (1, [.int 0, .int v1_1, .int v2_1, .int v3_1, .ref v4_1, .ref v5_1]))) = Mc1 at hm hT hE
  refine lv_aload_n hx hb dX1_weigh_5 rfl (lv_at hl 0 rfl) ?_
  refine lv_iconst (v := 0) hx hb dX1_weigh_6 (by decide) ?_
  obtain ⟨v0_2, v1_2, v2_2, v3_2, v4_2, v5_2, hM_h0_2, hk_v4_2, hk_v5_2⟩ := hT.merge hk_h0
  refine m_put (T := TX1) (N := 6) (ci := 1) (v := .int 0) (ty := .int) hx hb hts wX1 tyX1 tyX1_ok nmX1 hown hK hm hS hM_h0_2 rfl 1 (by decide) f15 (fun _ h9 => h9) rfl (by decide +kernel) rfl rfl (Nat.le_of_ble_eq_true rfl) dX1_weigh_7 (fun H locs hm hS => ?_)
  have hm : mm D (AZ z) (mu Mc1 h0 (.inr (1, [.int v0_2, .int 0, .int v2_2, .int v3_2, .ref v4_2, .ref v5_2]))) H := hm
  have hT : TM k κ (mu Mc1 h0 (.inr (1, [.int v0_2, .int 0, .int v2_2, .int v3_2, .ref v4_2, .ref v5_2]))) := hT.put hk_h0 (show wf k κ .merge (.inr (1, [.int v0_2, .int 0, .int v2_2, .int v3_2, .ref v4_2, .ref v5_2])) from ⟨v0_2, 0, v2_2, v3_2, v4_2, v5_2, rfl, hk_v4_2, hk_v5_2⟩)
  have hE : kx κ M κ (mu Mc1 h0 (.inr (1, [.int v0_2, .int 0, .int v2_2, .int v3_2, .ref v4_2, .ref v5_2]))) := hE.put hk_h0
  generalize (mu Mc1 h0 (.inr (1, [.int v0_2, .int 0, .int v2_2, .int v3_2, .ref v4_2, .ref v5_2]))) = Mc2 at hm hT hE
  refine lv_aload_n hx hb dX1_weigh_10 rfl (lv_at hl 0 rfl) ?_
  refine lv_iconst (v := 0) hx hb dX1_weigh_11 (by decide) ?_
  obtain ⟨v0_3, v1_3, v2_3, v3_3, v4_3, v5_3, hM_h0_3, hk_v4_3, hk_v5_3⟩ := hT.merge hk_h0
  refine m_put (T := TX1) (N := 6) (ci := 1) (v := .int 0) (ty := .int) hx hb hts wX1 tyX1 tyX1_ok nmX1 hown hK hm hS hM_h0_3 rfl 2 (by decide) f18 (fun _ h9 => h9) rfl (by decide +kernel) rfl rfl (Nat.le_of_ble_eq_true rfl) dX1_weigh_12 (fun H locs hm hS => ?_)
  have hm : mm D (AZ z) (mu Mc2 h0 (.inr (1, [.int v0_3, .int v1_3, .int 0, .int v3_3, .ref v4_3, .ref v5_3]))) H := hm
  have hT : TM k κ (mu Mc2 h0 (.inr (1, [.int v0_3, .int v1_3, .int 0, .int v3_3, .ref v4_3, .ref v5_3]))) := hT.put hk_h0 (show wf k κ .merge (.inr (1, [.int v0_3, .int v1_3, .int 0, .int v3_3, .ref v4_3, .ref v5_3])) from ⟨v0_3, v1_3, 0, v3_3, v4_3, v5_3, rfl, hk_v4_3, hk_v5_3⟩)
  have hE : kx κ M κ (mu Mc2 h0 (.inr (1, [.int v0_3, .int v1_3, .int 0, .int v3_3, .ref v4_3, .ref v5_3]))) := hE.put hk_h0
  generalize (mu Mc2 h0 (.inr (1, [.int v0_3, .int v1_3, .int 0, .int v3_3, .ref v4_3, .ref v5_3]))) = Mc3 at hm hT hE
  refine lv_aload_n hx hb dX1_weigh_15 rfl (lv_at hl 0 rfl) ?_
  refine lv_iconst (v := 0) hx hb dX1_weigh_16 (by decide) ?_
  obtain ⟨v0_4, v1_4, v2_4, v3_4, v4_4, v5_4, hM_h0_4, hk_v4_4, hk_v5_4⟩ := hT.merge hk_h0
  refine m_put (T := TX1) (N := 6) (ci := 1) (v := .int 0) (ty := .int) hx hb hts wX1 tyX1 tyX1_ok nmX1 hown hK hm hS hM_h0_4 rfl 3 (by decide) f21 (fun _ h9 => h9) rfl (by decide +kernel) rfl rfl (Nat.le_of_ble_eq_true rfl) dX1_weigh_17 (fun H locs hm hS => ?_)
  have hm : mm D (AZ z) (mu Mc3 h0 (.inr (1, [.int v0_4, .int v1_4, .int v2_4, .int 0, .ref v4_4, .ref v5_4]))) H := hm
  have hT : TM k κ (mu Mc3 h0 (.inr (1, [.int v0_4, .int v1_4, .int v2_4, .int 0, .ref v4_4, .ref v5_4]))) := hT.put hk_h0 (show wf k κ .merge (.inr (1, [.int v0_4, .int v1_4, .int v2_4, .int 0, .ref v4_4, .ref v5_4])) from ⟨v0_4, v1_4, v2_4, 0, v4_4, v5_4, rfl, hk_v4_4, hk_v5_4⟩)
  have hE : kx κ M κ (mu Mc3 h0 (.inr (1, [.int v0_4, .int v1_4, .int v2_4, .int 0, .ref v4_4, .ref v5_4]))) := hE.put hk_h0
  generalize (mu Mc3 h0 (.inr (1, [.int v0_4, .int v1_4, .int v2_4, .int 0, .ref v4_4, .ref v5_4]))) = Mc4 at hm hT hE
  refine lv_iconst (v := 0) hx hb dX1_weigh_20 (by decide) ?_
  refine lv_istore (lv' := [(4, .int 0), (0, .ref h0), (1, .ref r0), (2, .ref r1), (3, .ref r2)]) hx hb dX1_weigh_21 hl (by decide) rfl (fun ls hl => ?_)
  refine W_loop (σ := Nat × (Nat → Option KD) × mM) (fun ⟨j5, K23, M23⟩ H locs ls => (j5 < 2147483648) ∧ (TM k K23 M23) ∧ (kx κ M K23 M23) ∧ (K23 h0 = some .merge) ∧ (K23 r0 = some .tree) ∧ (K23 r1 = some .tree) ∧ (K23 r2 = some .tree) ∧ mm D (AZ z) M23 H ∧ va_S (AZ z) s.heap H locs ∧ lv_has ls 6 [(4, .int (nI j5)), (0, .ref h0), (1, .ref r0), (2, .ref r1), (3, .ref r2)]) (fun ⟨j5, K23, M23⟩ => 2147483648 - j5) (fun ⟨j5, K23, M23⟩ => 0) (fun ⟨j5, K23, M23⟩ => 0) ?_ (0, κ, Mc4) _ _ _ ⟨(by decide), hT, hE, hk_h0, hk_r0, hk_r1, hk_r2, hm, hS, lv_sub hl [0, 1, 2, 3, 4] rfl⟩
  intro ⟨j5, K23, M23⟩ H locs ls hQ ih23
  obtain ⟨hbj5, hT, hE, hk_h0, hk_r0, hk_r1, hk_r2, hm, hS, hl⟩ := hQ
  try dsimp only at hm hl ih23 hbj5 hT hE hk_h0 hk_r0 hk_r1 hk_r2 ⊢
  refine lv_iload hx hb dX1_weigh_23 (lv_at hl 0 rfl) ?_
  refine lv_aload_n hx hb dX1_weigh_25 rfl (lv_at hl 4 rfl) ?_
  obtain ⟨v0_6, v1_6, hM_r2_6, hk_v0_6, hn_v1_6⟩ := hT.tree hk_r2
  refine m_get (T := TX4) (N := 2) (ci := 4) (v := .int (nI v1_6)) hx hb hts wX4 hown hK hm hM_r2_6 rfl 1 (by decide) f37 (fun _ h9 => h9) rfl dX1_weigh_26 ?_
  refine lv_icmp_ge (tgt := 75) hx hb dX1_weigh_29 (by decide) (fun c7 => ?_) (fun c7 => ?_)
  · refine lv_iconst (v := 0) hx hb dX1_weigh_75 (by decide) ?_
    refine lv_istore (lv' := [(4, .int 0), (0, .ref h0), (1, .ref r0), (2, .ref r1), (3, .ref r2)]) hx hb dX1_weigh_76 hl (by decide) rfl (fun ls hl => ?_)
    refine W_loop (σ := Nat × (Nat → Option KD) × mM) (fun ⟨j8, K78, M78⟩ H locs ls => (j8 < 2147483648) ∧ (TM k K78 M78) ∧ (kx κ M K78 M78) ∧ (K78 h0 = some .merge) ∧ (K78 r0 = some .tree) ∧ (K78 r1 = some .tree) ∧ (K78 r2 = some .tree) ∧ mm D (AZ z) M78 H ∧ va_S (AZ z) s.heap H locs ∧ lv_has ls 6 [(4, .int (nI j8)), (0, .ref h0), (1, .ref r0), (2, .ref r1), (3, .ref r2)]) (fun ⟨j8, K78, M78⟩ => 2147483648 - j8) (fun ⟨j8, K78, M78⟩ => 0) (fun ⟨j8, K78, M78⟩ => 0) ?_ (0, K23, M23) _ _ _ ⟨(by decide), hT, hE, hk_h0, hk_r0, hk_r1, hk_r2, hm, hS, lv_sub hl [0, 1, 2, 3, 4] rfl⟩
    intro ⟨j8, K78, M78⟩ H locs ls hQ ih78
    obtain ⟨hbj8, hT, hE, hk_h0, hk_r0, hk_r1, hk_r2, hm, hS, hl⟩ := hQ
    try dsimp only at hm hl ih78 hbj8 hT hE hk_h0 hk_r0 hk_r1 hk_r2 ⊢
    refine lv_iload hx hb dX1_weigh_78 (lv_at hl 0 rfl) ?_
    refine lv_aload_n hx hb dX1_weigh_80 rfl (lv_at hl 3 rfl) ?_
    obtain ⟨v0_9, v1_9, hM_r1_9, hk_v0_9, hn_v1_9⟩ := hT.tree hk_r1
    refine m_get (T := TX4) (N := 2) (ci := 4) (v := .int (nI v1_9)) hx hb hts wX4 hown hK hm hM_r1_9 rfl 1 (by decide) f37 (fun _ h9 => h9) rfl dX1_weigh_81 ?_
    refine lv_icmp_ge (tgt := 124) hx hb dX1_weigh_84 (by decide) (fun c10 => ?_) (fun c10 => ?_)
    · refine W.vret hx hb hr (fun t ht hW => ⟨⟨none, _, rfl, ?_, by rw [ht]; exact hm⟩, hS.F ht⟩) hS.2.2 dX1_weigh_124
      exact ⟨_, hT, hE, rfl⟩
    · refine lv_aload_n hx hb dX1_weigh_87 rfl (lv_at hl 3 rfl) ?_
      refine lv_iload hx hb dX1_weigh_88 (lv_at hl 0 rfl) ?_
      refine m_kV (As := [.int (nI j8)]) (rest := []) (rm := { frames := 0, cells := 0, slots := 0, locals := 0 }) ⟨hx, hb, hml, hown, hts⟩ (t_X4_at_I l D k z _ _ r1 (nI j8) hk_r1 hT) (cwV 1 hts gX1_weigh_X4_at rfl rfl rfl (by decide +kernel) ⟨Nat.le_of_ble_eq_true rfl, Nat.le_of_ble_eq_true rfl⟩) (m_recv hK hm (q := (RX4, TX4, 2)) rfl hM_r1_9) hz hcx hm hS rfl hl.1 rfl (Nat.le_of_ble_eq_true rfl) dX1_weigh_90 ⟨Nat.le_of_ble_eq_true rfl, Nat.le_of_ble_eq_true rfl⟩ (fun v M1 H locs hv hm hS => ?_)
      obtain ⟨hv1, hM1⟩ := hv
      rw [hM1] at hm
      rcases hv1 with hv1 | ⟨x11, hv1, hk_x11, hx9⟩
      · subst hv1
        refine W.eq (g2 := F0 m 93 ls [.null]) rfl ?_
        refine W.widen (k := 0) (n := 0) (Nat.le_of_ble_eq_true rfl) (Nat.le_of_ble_eq_true rfl) ?_
        have hm : mm D (AZ z) M78 H := hm
        refine lv_astoreN (lv' := [(5, .null), (4, .int (nI j8)), (0, .ref h0), (1, .ref r0), (2, .ref r1), (3, .ref r2)]) hx hb dX1_weigh_93 hl (by decide) rfl (fun ls hl => ?_)
        refine lv_aloadN hx hb dX1_weigh_95 (lv_at hl 0 rfl) ?_
        refine lv_ifnullN (tgt := 118) hx hb dX1_weigh_97 (by decide) ?_
        refine lv_iinc (v := ((nI j8) + 1)) (lv' := [(4, .int ((nI j8) + 1)), (5, .null), (0, .ref h0), (1, .ref r0), (2, .ref r1), (3, .ref r2)]) hx hb dX1_weigh_118 hl (k := 1) rfl rfl (by decide) rfl (fun ls hl => ?_)
        refine lv_goto (tgt := 78) hx hb dX1_weigh_121 (by decide) ?_
        rw [nI_1] at hl
        exact ih78 (j8 + 1, K78, M78) _ _ _ ⟨(by first | exact nI_up hbj8 c10 | exact nI_up2 (by decide) hbj8 c10), hT, hE, hk_h0, hk_r0, hk_r1, hk_r2, hm, hS, lv_sub hl [0, 2, 3, 4, 5] rfl⟩ (by show 2147483648 - (j8 + 1) < 2147483648 - j8; omega)
      · subst hv1
        refine W.eq (g2 := F0 m 93 ls [.ref x11]) rfl ?_
        refine W.widen (k := 0) (n := 0) (Nat.le_of_ble_eq_true rfl) (Nat.le_of_ble_eq_true rfl) ?_
        have hm : mm D (AZ z) M78 H := hm
        refine lv_astore (lv' := [(5, .ref x11), (4, .int (nI j8)), (0, .ref h0), (1, .ref r0), (2, .ref r1), (3, .ref r2)]) hx hb dX1_weigh_93 hl (by decide) rfl (fun ls hl => ?_)
        refine lv_aload hx hb dX1_weigh_95 (lv_at hl 0 rfl) ?_
        refine lv_ifnull hx hb dX1_weigh_97 ?_
        refine lv_aload_n hx hb dX1_weigh_100 rfl (lv_at hl 3 rfl) ?_
        refine lv_aload hx hb dX1_weigh_101 (lv_at hl 0 rfl) ?_
        obtain ⟨v0_12, v1_12, v2_12, v3_12, hM_x11_12, hz_v1_12, hk_v3_12⟩ := hT.node hk_x11
        refine m_get (T := TX2) (N := 4) (ci := 2) (v := .int v0_12) hx hb hts wX2 hown hK hm hM_x11_12 rfl 0 (by decide) f46 (fun _ h9 => h9) rfl dX1_weigh_103 ?_
        obtain ⟨v0_13, v1_13, hM_r0_13, hk_v0_13, hn_v1_13⟩ := hT.tree hk_r0
        refine m_kV (As := [.int v0_12]) (rest := []) (rm := { frames := 1, cells := 0, slots := 0, locals := 23 }) ⟨hx, hb, hml, hown, hts⟩ (t_X4_find_I l D k z _ _ r0 v0_12 hk_r0 hT) (cwV 1 hts gX1_weigh_X4_find rfl rfl rfl (by decide +kernel) ⟨Nat.le_of_ble_eq_true rfl, Nat.le_of_ble_eq_true rfl⟩) (m_recv hK hm (q := (RX4, TX4, 2)) rfl hM_r0_13) hz hcx hm hS rfl hl.1 rfl (Nat.le_of_ble_eq_true rfl) dX1_weigh_106 ⟨Nat.le_of_ble_eq_true rfl, Nat.le_of_ble_eq_true rfl⟩ (fun v M1 H locs hv hm hS => ?_)
        obtain ⟨hv1, hM1⟩ := hv
        rw [hM1] at hm
        rcases hv1 with hv1 | ⟨x14, hv1, hk_x14⟩
        · subst hv1
          refine W.eq (g2 := F0 m 109 ls [.null]) rfl ?_
          refine W.widen (k := 0) (n := 0) (Nat.le_of_ble_eq_true rfl) (Nat.le_of_ble_eq_true rfl) ?_
          have hm : mm D (AZ z) M78 H := hm
          refine lv_ifnonnullN hx hb dX1_weigh_109 ?_
          refine lv_aload_n hx hb dX1_weigh_112 rfl (lv_at hl 2 rfl) ?_
          refine lv_aload hx hb dX1_weigh_113 (lv_at hl 0 rfl) ?_
          obtain ⟨v0_15, v1_15, v2_15, v3_15, v4_15, v5_15, hM_h0_15, hk_v4_15, hk_v5_15⟩ := hT.merge hk_h0
          refine m_kV (As := [.ref x11]) (rest := []) (rm := { frames := 3, cells := 0, slots := 0, locals := 75 }) ⟨hx, hb, hml, hown, hts⟩ (t_X1_weighMade_R l D k z _ _ h0 x11 hk_h0 hk_x11 hT) (cwV 1 hts gX1_weigh_X1_weighMade rfl rfl rfl (by decide +kernel) ⟨Nat.le_of_ble_eq_true rfl, Nat.le_of_ble_eq_true rfl⟩) (m_recv hK hm (q := (RX1, TX1, 6)) rfl hM_h0_15) hz hcx hm hS rfl hl.1 rfl (Nat.le_of_ble_eq_true rfl) dX1_weigh_115 ⟨Nat.le_of_ble_eq_true rfl, Nat.le_of_ble_eq_true rfl⟩ (fun v M1 H locs hv hm hS => ?_)
          obtain ⟨κ5, hT9, hE9, hv1⟩ := hv
          have hk_h0 := hE9.k hT hk_h0
          have hk_r0 := hE9.k hT hk_r0
          have hk_r1 := hE9.k hT hk_r1
          have hk_r2 := hE9.k hT hk_r2
          have hk_x11 := hE9.k hT hk_x11
          have hE := hE.trans hT0 hT hE9
          have hT := hT9
          obtain ⟨Mc5, hMx⟩ : ∃ x : mM, x = M1 := ⟨M1, rfl⟩
          subst hMx
          subst hv1
          refine W.eq (g2 := F0 m 118 ls []) rfl ?_
          refine W.widen (k := 0) (n := 0) (Nat.le_of_ble_eq_true rfl) (Nat.le_of_ble_eq_true rfl) ?_
          have hm : mm D (AZ z) Mc5 H := hm
          refine lv_iinc (v := ((nI j8) + 1)) (lv' := [(4, .int ((nI j8) + 1)), (5, .ref x11), (0, .ref h0), (1, .ref r0), (2, .ref r1), (3, .ref r2)]) hx hb dX1_weigh_118 hl (k := 1) rfl rfl (by decide) rfl (fun ls hl => ?_)
          refine lv_goto (tgt := 78) hx hb dX1_weigh_121 (by decide) ?_
          rw [nI_1] at hl
          exact ih78 (j8 + 1, κ5, Mc5) _ _ _ ⟨(by first | exact nI_up hbj8 c10 | exact nI_up2 (by decide) hbj8 c10), hT, hE, hk_h0, hk_r0, hk_r1, hk_r2, hm, hS, lv_sub hl [0, 2, 3, 4, 5] rfl⟩ (by show 2147483648 - (j8 + 1) < 2147483648 - j8; omega)
        · subst hv1
          refine W.eq (g2 := F0 m 109 ls [.ref x14]) rfl ?_
          refine W.widen (k := 0) (n := 0) (Nat.le_of_ble_eq_true rfl) (Nat.le_of_ble_eq_true rfl) ?_
          have hm : mm D (AZ z) M78 H := hm
          refine lv_ifnonnull (tgt := 118) hx hb dX1_weigh_109 (by decide) ?_
          refine lv_iinc (v := ((nI j8) + 1)) (lv' := [(4, .int ((nI j8) + 1)), (5, .ref x11), (0, .ref h0), (1, .ref r0), (2, .ref r1), (3, .ref r2)]) hx hb dX1_weigh_118 hl (k := 1) rfl rfl (by decide) rfl (fun ls hl => ?_)
          refine lv_goto (tgt := 78) hx hb dX1_weigh_121 (by decide) ?_
          rw [nI_1] at hl
          exact ih78 (j8 + 1, K78, M78) _ _ _ ⟨(by first | exact nI_up hbj8 c10 | exact nI_up2 (by decide) hbj8 c10), hT, hE, hk_h0, hk_r0, hk_r1, hk_r2, hm, hS, lv_sub hl [0, 2, 3, 4, 5] rfl⟩ (by show 2147483648 - (j8 + 1) < 2147483648 - j8; omega)
  · refine lv_aload_n hx hb dX1_weigh_32 rfl (lv_at hl 4 rfl) ?_
    refine lv_iload hx hb dX1_weigh_33 (lv_at hl 0 rfl) ?_
    refine m_kV (As := [.int (nI j5)]) (rest := []) (rm := { frames := 0, cells := 0, slots := 0, locals := 0 }) ⟨hx, hb, hml, hown, hts⟩ (t_X4_at_I l D k z _ _ r2 (nI j5) hk_r2 hT) (cwV 1 hts gX1_weigh_X4_at rfl rfl rfl (by decide +kernel) ⟨Nat.le_of_ble_eq_true rfl, Nat.le_of_ble_eq_true rfl⟩) (m_recv hK hm (q := (RX4, TX4, 2)) rfl hM_r2_6) hz hcx hm hS rfl hl.1 rfl (Nat.le_of_ble_eq_true rfl) dX1_weigh_35 ⟨Nat.le_of_ble_eq_true rfl, Nat.le_of_ble_eq_true rfl⟩ (fun v M1 H locs hv hm hS => ?_)
    obtain ⟨hv1, hM1⟩ := hv
    rw [hM1] at hm
    rcases hv1 with hv1 | ⟨x16, hv1, hk_x16, hx9⟩
    · subst hv1
      refine W.eq (g2 := F0 m 38 ls [.null]) rfl ?_
      refine W.widen (k := 0) (n := 0) (Nat.le_of_ble_eq_true rfl) (Nat.le_of_ble_eq_true rfl) ?_
      have hm : mm D (AZ z) M23 H := hm
      refine lv_astoreN (lv' := [(5, .null), (4, .int (nI j5)), (0, .ref h0), (1, .ref r0), (2, .ref r1), (3, .ref r2)]) hx hb dX1_weigh_38 hl (by decide) rfl (fun ls hl => ?_)
      refine lv_aloadN hx hb dX1_weigh_40 (lv_at hl 0 rfl) ?_
      refine lv_ifnullN (tgt := 69) hx hb dX1_weigh_42 (by decide) ?_
      refine lv_iinc (v := ((nI j5) + 1)) (lv' := [(4, .int ((nI j5) + 1)), (5, .null), (0, .ref h0), (1, .ref r0), (2, .ref r1), (3, .ref r2)]) hx hb dX1_weigh_69 hl (k := 1) rfl rfl (by decide) rfl (fun ls hl => ?_)
      refine lv_goto (tgt := 23) hx hb dX1_weigh_72 (by decide) ?_
      rw [nI_1] at hl
      exact ih23 (j5 + 1, K23, M23) _ _ _ ⟨(by first | exact nI_up hbj5 c7 | exact nI_up2 (by decide) hbj5 c7), hT, hE, hk_h0, hk_r0, hk_r1, hk_r2, hm, hS, lv_sub hl [0, 2, 3, 4, 5] rfl⟩ (by show 2147483648 - (j5 + 1) < 2147483648 - j5; omega)
    · subst hv1
      refine W.eq (g2 := F0 m 38 ls [.ref x16]) rfl ?_
      refine W.widen (k := 0) (n := 0) (Nat.le_of_ble_eq_true rfl) (Nat.le_of_ble_eq_true rfl) ?_
      have hm : mm D (AZ z) M23 H := hm
      refine lv_astore (lv' := [(5, .ref x16), (4, .int (nI j5)), (0, .ref h0), (1, .ref r0), (2, .ref r1), (3, .ref r2)]) hx hb dX1_weigh_38 hl (by decide) rfl (fun ls hl => ?_)
      refine lv_aload hx hb dX1_weigh_40 (lv_at hl 0 rfl) ?_
      refine lv_ifnull hx hb dX1_weigh_42 ?_
      refine lv_aload_n hx hb dX1_weigh_45 rfl (lv_at hl 2 rfl) ?_
      refine lv_aload_n hx hb dX1_weigh_46 rfl (lv_at hl 3 rfl) ?_
      refine lv_aload hx hb dX1_weigh_47 (lv_at hl 0 rfl) ?_
      obtain ⟨v0_17, v1_17, v2_17, v3_17, hM_x16_17, hz_v1_17, hk_v3_17⟩ := hT.node hk_x16
      refine m_get (T := TX2) (N := 4) (ci := 2) (v := .int v0_17) hx hb hts wX2 hown hK hm hM_x16_17 rfl 0 (by decide) f46 (fun _ h9 => h9) rfl dX1_weigh_49 ?_
      obtain ⟨v0_18, v1_18, hM_r0_18, hk_v0_18, hn_v1_18⟩ := hT.tree hk_r0
      refine m_kV (As := [.int v0_17]) (rest := [.ref h0]) (rm := { frames := 1, cells := 0, slots := 0, locals := 23 }) ⟨hx, hb, hml, hown, hts⟩ (t_X4_find_I l D k z _ _ r0 v0_17 hk_r0 hT) (cwV 1 hts gX1_weigh_X4_find rfl rfl rfl (by decide +kernel) ⟨Nat.le_of_ble_eq_true rfl, Nat.le_of_ble_eq_true rfl⟩) (m_recv hK hm (q := (RX4, TX4, 2)) rfl hM_r0_18) hz hcx hm hS rfl hl.1 rfl (Nat.le_of_ble_eq_true rfl) dX1_weigh_52 ⟨Nat.le_of_ble_eq_true rfl, Nat.le_of_ble_eq_true rfl⟩ (fun v M1 H locs hv hm hS => ?_)
      obtain ⟨hv1, hM1⟩ := hv
      rw [hM1] at hm
      rcases hv1 with hv1 | ⟨x19, hv1, hk_x19⟩
      · subst hv1
        refine W.eq (g2 := F0 m 55 ls [.null, .ref h0]) rfl ?_
        refine W.widen (k := 0) (n := 0) (Nat.le_of_ble_eq_true rfl) (Nat.le_of_ble_eq_true rfl) ?_
        have hm : mm D (AZ z) M23 H := hm
        refine lv_aload_n hx hb dX1_weigh_55 rfl (lv_at hl 4 rfl) ?_
        refine lv_aload hx hb dX1_weigh_56 (lv_at hl 0 rfl) ?_
        refine m_get (T := TX2) (N := 4) (ci := 2) (v := .int v0_17) hx hb hts wX2 hown hK hm hM_x16_17 rfl 0 (by decide) f46 (fun _ h9 => h9) rfl dX1_weigh_58 ?_
        obtain ⟨v0_20, v1_20, hM_r1_20, hk_v0_20, hn_v1_20⟩ := hT.tree hk_r1
        refine m_kV (As := [.int v0_17]) (rest := [.null, .ref h0]) (rm := { frames := 1, cells := 0, slots := 0, locals := 23 }) ⟨hx, hb, hml, hown, hts⟩ (t_X4_find_I l D k z _ _ r1 v0_17 hk_r1 hT) (cwV 1 hts gX1_weigh_X4_find rfl rfl rfl (by decide +kernel) ⟨Nat.le_of_ble_eq_true rfl, Nat.le_of_ble_eq_true rfl⟩) (m_recv hK hm (q := (RX4, TX4, 2)) rfl hM_r1_20) hz hcx hm hS rfl hl.1 rfl (Nat.le_of_ble_eq_true rfl) dX1_weigh_61 ⟨Nat.le_of_ble_eq_true rfl, Nat.le_of_ble_eq_true rfl⟩ (fun v M1 H locs hv hm hS => ?_)
        obtain ⟨hv1, hM1⟩ := hv
        rw [hM1] at hm
        rcases hv1 with hv1 | ⟨x21, hv1, hk_x21⟩
        · subst hv1
          refine W.eq (g2 := F0 m 64 ls [.null, .null, .ref h0]) rfl ?_
          refine W.widen (k := 0) (n := 0) (Nat.le_of_ble_eq_true rfl) (Nat.le_of_ble_eq_true rfl) ?_
          have hm : mm D (AZ z) M23 H := hm
          refine lv_aload hx hb dX1_weigh_64 (lv_at hl 0 rfl) ?_
          obtain ⟨v0_22, v1_22, v2_22, v3_22, v4_22, v5_22, hM_h0_22, hk_v4_22, hk_v5_22⟩ := hT.merge hk_h0
          refine m_kV (As := [.null, .null, .ref x16]) (rest := []) (rm := { frames := 3, cells := 0, slots := 0, locals := 75 }) ⟨hx, hb, hml, hown, hts⟩ (t_X1_weighKept_NNR l D k z _ _ h0 x16 hk_h0 hk_x16 hT) (cwV 3 hts gX1_weigh_X1_weighKept rfl rfl rfl (by decide +kernel) ⟨Nat.le_of_ble_eq_true rfl, Nat.le_of_ble_eq_true rfl⟩) (m_recv hK hm (q := (RX1, TX1, 6)) rfl hM_h0_22) hz hcx hm hS rfl hl.1 rfl (Nat.le_of_ble_eq_true rfl) dX1_weigh_66 ⟨Nat.le_of_ble_eq_true rfl, Nat.le_of_ble_eq_true rfl⟩ (fun v M1 H locs hv hm hS => ?_)
          obtain ⟨κ6, hT9, hE9, hv1⟩ := hv
          have hk_h0 := hE9.k hT hk_h0
          have hk_r0 := hE9.k hT hk_r0
          have hk_r1 := hE9.k hT hk_r1
          have hk_r2 := hE9.k hT hk_r2
          have hk_x16 := hE9.k hT hk_x16
          have hE := hE.trans hT0 hT hE9
          have hT := hT9
          obtain ⟨Mc6, hMx⟩ : ∃ x : mM, x = M1 := ⟨M1, rfl⟩
          subst hMx
          subst hv1
          refine W.eq (g2 := F0 m 69 ls []) rfl ?_
          refine W.widen (k := 0) (n := 0) (Nat.le_of_ble_eq_true rfl) (Nat.le_of_ble_eq_true rfl) ?_
          have hm : mm D (AZ z) Mc6 H := hm
          refine lv_iinc (v := ((nI j5) + 1)) (lv' := [(4, .int ((nI j5) + 1)), (5, .ref x16), (0, .ref h0), (1, .ref r0), (2, .ref r1), (3, .ref r2)]) hx hb dX1_weigh_69 hl (k := 1) rfl rfl (by decide) rfl (fun ls hl => ?_)
          refine lv_goto (tgt := 23) hx hb dX1_weigh_72 (by decide) ?_
          rw [nI_1] at hl
          exact ih23 (j5 + 1, κ6, Mc6) _ _ _ ⟨(by first | exact nI_up hbj5 c7 | exact nI_up2 (by decide) hbj5 c7), hT, hE, hk_h0, hk_r0, hk_r1, hk_r2, hm, hS, lv_sub hl [0, 2, 3, 4, 5] rfl⟩ (by show 2147483648 - (j5 + 1) < 2147483648 - j5; omega)
        · subst hv1
          refine W.eq (g2 := F0 m 64 ls [.ref x21, .null, .ref h0]) rfl ?_
          refine W.widen (k := 0) (n := 0) (Nat.le_of_ble_eq_true rfl) (Nat.le_of_ble_eq_true rfl) ?_
          have hm : mm D (AZ z) M23 H := hm
          refine lv_aload hx hb dX1_weigh_64 (lv_at hl 0 rfl) ?_
          obtain ⟨v0_23, v1_23, v2_23, v3_23, v4_23, v5_23, hM_h0_23, hk_v4_23, hk_v5_23⟩ := hT.merge hk_h0
          refine m_kV (As := [.null, .ref x21, .ref x16]) (rest := []) (rm := { frames := 3, cells := 0, slots := 0, locals := 75 }) ⟨hx, hb, hml, hown, hts⟩ (t_X1_weighKept_NRR l D k z _ _ h0 x21 x16 hk_h0 hk_x21 hk_x16 hT) (cwV 3 hts gX1_weigh_X1_weighKept rfl rfl rfl (by decide +kernel) ⟨Nat.le_of_ble_eq_true rfl, Nat.le_of_ble_eq_true rfl⟩) (m_recv hK hm (q := (RX1, TX1, 6)) rfl hM_h0_23) hz hcx hm hS rfl hl.1 rfl (Nat.le_of_ble_eq_true rfl) dX1_weigh_66 ⟨Nat.le_of_ble_eq_true rfl, Nat.le_of_ble_eq_true rfl⟩ (fun v M1 H locs hv hm hS => ?_)
          obtain ⟨κ7, hT9, hE9, hv1⟩ := hv
          have hk_h0 := hE9.k hT hk_h0
          have hk_r0 := hE9.k hT hk_r0
          have hk_r1 := hE9.k hT hk_r1
          have hk_r2 := hE9.k hT hk_r2
          have hk_x16 := hE9.k hT hk_x16
          have hE := hE.trans hT0 hT hE9
          have hT := hT9
          obtain ⟨Mc7, hMx⟩ : ∃ x : mM, x = M1 := ⟨M1, rfl⟩
          subst hMx
          subst hv1
          refine W.eq (g2 := F0 m 69 ls []) rfl ?_
          refine W.widen (k := 0) (n := 0) (Nat.le_of_ble_eq_true rfl) (Nat.le_of_ble_eq_true rfl) ?_
          have hm : mm D (AZ z) Mc7 H := hm
          refine lv_iinc (v := ((nI j5) + 1)) (lv' := [(4, .int ((nI j5) + 1)), (5, .ref x16), (0, .ref h0), (1, .ref r0), (2, .ref r1), (3, .ref r2)]) hx hb dX1_weigh_69 hl (k := 1) rfl rfl (by decide) rfl (fun ls hl => ?_)
          refine lv_goto (tgt := 23) hx hb dX1_weigh_72 (by decide) ?_
          rw [nI_1] at hl
          exact ih23 (j5 + 1, κ7, Mc7) _ _ _ ⟨(by first | exact nI_up hbj5 c7 | exact nI_up2 (by decide) hbj5 c7), hT, hE, hk_h0, hk_r0, hk_r1, hk_r2, hm, hS, lv_sub hl [0, 2, 3, 4, 5] rfl⟩ (by show 2147483648 - (j5 + 1) < 2147483648 - j5; omega)
      · subst hv1
        refine W.eq (g2 := F0 m 55 ls [.ref x19, .ref h0]) rfl ?_
        refine W.widen (k := 0) (n := 0) (Nat.le_of_ble_eq_true rfl) (Nat.le_of_ble_eq_true rfl) ?_
        have hm : mm D (AZ z) M23 H := hm
        refine lv_aload_n hx hb dX1_weigh_55 rfl (lv_at hl 4 rfl) ?_
        refine lv_aload hx hb dX1_weigh_56 (lv_at hl 0 rfl) ?_
        refine m_get (T := TX2) (N := 4) (ci := 2) (v := .int v0_17) hx hb hts wX2 hown hK hm hM_x16_17 rfl 0 (by decide) f46 (fun _ h9 => h9) rfl dX1_weigh_58 ?_
        obtain ⟨v0_24, v1_24, hM_r1_24, hk_v0_24, hn_v1_24⟩ := hT.tree hk_r1
        refine m_kV (As := [.int v0_17]) (rest := [.ref x19, .ref h0]) (rm := { frames := 1, cells := 0, slots := 0, locals := 23 }) ⟨hx, hb, hml, hown, hts⟩ (t_X4_find_I l D k z _ _ r1 v0_17 hk_r1 hT) (cwV 1 hts gX1_weigh_X4_find rfl rfl rfl (by decide +kernel) ⟨Nat.le_of_ble_eq_true rfl, Nat.le_of_ble_eq_true rfl⟩) (m_recv hK hm (q := (RX4, TX4, 2)) rfl hM_r1_24) hz hcx hm hS rfl hl.1 rfl (Nat.le_of_ble_eq_true rfl) dX1_weigh_61 ⟨Nat.le_of_ble_eq_true rfl, Nat.le_of_ble_eq_true rfl⟩ (fun v M1 H locs hv hm hS => ?_)
        obtain ⟨hv1, hM1⟩ := hv
        rw [hM1] at hm
        rcases hv1 with hv1 | ⟨x25, hv1, hk_x25⟩
        · subst hv1
          refine W.eq (g2 := F0 m 64 ls [.null, .ref x19, .ref h0]) rfl ?_
          refine W.widen (k := 0) (n := 0) (Nat.le_of_ble_eq_true rfl) (Nat.le_of_ble_eq_true rfl) ?_
          have hm : mm D (AZ z) M23 H := hm
          refine lv_aload hx hb dX1_weigh_64 (lv_at hl 0 rfl) ?_
          obtain ⟨v0_26, v1_26, v2_26, v3_26, v4_26, v5_26, hM_h0_26, hk_v4_26, hk_v5_26⟩ := hT.merge hk_h0
          refine m_kV (As := [.ref x19, .null, .ref x16]) (rest := []) (rm := { frames := 0, cells := 0, slots := 0, locals := 0 }) ⟨hx, hb, hml, hown, hts⟩ (t_X1_weighKept_RNR l D k z _ _ h0 x19 x16 hk_h0 hk_x19 hk_x16 hT) (cwV 3 hts gX1_weigh_X1_weighKept rfl rfl rfl (by decide +kernel) ⟨Nat.le_of_ble_eq_true rfl, Nat.le_of_ble_eq_true rfl⟩) (m_recv hK hm (q := (RX1, TX1, 6)) rfl hM_h0_26) hz hcx hm hS rfl hl.1 rfl (Nat.le_of_ble_eq_true rfl) dX1_weigh_66 ⟨Nat.le_of_ble_eq_true rfl, Nat.le_of_ble_eq_true rfl⟩ (fun v M1 H locs hv hm hS => ?_)
          obtain ⟨κ8, hT9, hE9, hv1⟩ := hv
          have hk_h0 := hE9.k hT hk_h0
          have hk_r0 := hE9.k hT hk_r0
          have hk_r1 := hE9.k hT hk_r1
          have hk_r2 := hE9.k hT hk_r2
          have hk_x16 := hE9.k hT hk_x16
          have hE := hE.trans hT0 hT hE9
          have hT := hT9
          obtain ⟨Mc8, hMx⟩ : ∃ x : mM, x = M1 := ⟨M1, rfl⟩
          subst hMx
          subst hv1
          refine W.eq (g2 := F0 m 69 ls []) rfl ?_
          refine W.widen (k := 0) (n := 0) (Nat.le_of_ble_eq_true rfl) (Nat.le_of_ble_eq_true rfl) ?_
          have hm : mm D (AZ z) Mc8 H := hm
          refine lv_iinc (v := ((nI j5) + 1)) (lv' := [(4, .int ((nI j5) + 1)), (5, .ref x16), (0, .ref h0), (1, .ref r0), (2, .ref r1), (3, .ref r2)]) hx hb dX1_weigh_69 hl (k := 1) rfl rfl (by decide) rfl (fun ls hl => ?_)
          refine lv_goto (tgt := 23) hx hb dX1_weigh_72 (by decide) ?_
          rw [nI_1] at hl
          exact ih23 (j5 + 1, κ8, Mc8) _ _ _ ⟨(by first | exact nI_up hbj5 c7 | exact nI_up2 (by decide) hbj5 c7), hT, hE, hk_h0, hk_r0, hk_r1, hk_r2, hm, hS, lv_sub hl [0, 2, 3, 4, 5] rfl⟩ (by show 2147483648 - (j5 + 1) < 2147483648 - j5; omega)
        · subst hv1
          refine W.eq (g2 := F0 m 64 ls [.ref x25, .ref x19, .ref h0]) rfl ?_
          refine W.widen (k := 0) (n := 0) (Nat.le_of_ble_eq_true rfl) (Nat.le_of_ble_eq_true rfl) ?_
          have hm : mm D (AZ z) M23 H := hm
          refine lv_aload hx hb dX1_weigh_64 (lv_at hl 0 rfl) ?_
          obtain ⟨v0_27, v1_27, v2_27, v3_27, v4_27, v5_27, hM_h0_27, hk_v4_27, hk_v5_27⟩ := hT.merge hk_h0
          refine m_kV (As := [.ref x19, .ref x25, .ref x16]) (rest := []) (rm := { frames := 3, cells := 0, slots := 0, locals := 75 }) ⟨hx, hb, hml, hown, hts⟩ (t_X1_weighKept_RRR l D k z _ _ h0 x19 x25 x16 hk_h0 hk_x19 hk_x25 hk_x16 hT) (cwV 3 hts gX1_weigh_X1_weighKept rfl rfl rfl (by decide +kernel) ⟨Nat.le_of_ble_eq_true rfl, Nat.le_of_ble_eq_true rfl⟩) (m_recv hK hm (q := (RX1, TX1, 6)) rfl hM_h0_27) hz hcx hm hS rfl hl.1 rfl (Nat.le_of_ble_eq_true rfl) dX1_weigh_66 ⟨Nat.le_of_ble_eq_true rfl, Nat.le_of_ble_eq_true rfl⟩ (fun v M1 H locs hv hm hS => ?_)
          obtain ⟨κ9, hT9, hE9, hv1⟩ := hv
          have hk_h0 := hE9.k hT hk_h0
          have hk_r0 := hE9.k hT hk_r0
          have hk_r1 := hE9.k hT hk_r1
          have hk_r2 := hE9.k hT hk_r2
          have hk_x16 := hE9.k hT hk_x16
          have hE := hE.trans hT0 hT hE9
          have hT := hT9
          obtain ⟨Mc9, hMx⟩ : ∃ x : mM, x = M1 := ⟨M1, rfl⟩
          subst hMx
          subst hv1
          refine W.eq (g2 := F0 m 69 ls []) rfl ?_
          refine W.widen (k := 0) (n := 0) (Nat.le_of_ble_eq_true rfl) (Nat.le_of_ble_eq_true rfl) ?_
          have hm : mm D (AZ z) Mc9 H := hm
          refine lv_iinc (v := ((nI j5) + 1)) (lv' := [(4, .int ((nI j5) + 1)), (5, .ref x16), (0, .ref h0), (1, .ref r0), (2, .ref r1), (3, .ref r2)]) hx hb dX1_weigh_69 hl (k := 1) rfl rfl (by decide) rfl (fun ls hl => ?_)
          refine lv_goto (tgt := 23) hx hb dX1_weigh_72 (by decide) ?_
          rw [nI_1] at hl
          exact ih23 (j5 + 1, κ9, Mc9) _ _ _ ⟨(by first | exact nI_up hbj5 c7 | exact nI_up2 (by decide) hbj5 c7), hT, hE, hk_h0, hk_r0, hk_r1, hk_r2, hm, hS, lv_sub hl [0, 2, 3, 4, 5] rfl⟩ (by show 2147483648 - (j5 + 1) < 2147483648 - j5; omega)

set_option maxHeartbeats 4000000 in
set_option maxRecDepth 100000 in
theorem t_X1_isTooMuch (l : Launch) (D : va_G) (k : Nat → ClassId) (z : Nat) (M : mM) (κ : Nat → Option KD) (h0 : Nat) (hk_h0 : κ h0 = some .merge) (hT : TM k κ M) : mK l yX1_isTooMuch wsX1_isTooMuch ({ frames := 0, cells := 0, slots := 0, locals := 0 }) D k z [.ref h0] M (fun v M' => ((v = some (.int 0) ∨ v = some (.int 1))) ∧ M' = M) := by
  refine Met.ofW (cc := cX1_isTooMuch) (maxL := 1) (ret := (some .boolean)) (by decide) rfl ?_
  intro p e s m args below meth c s₁ B hml hv
  obtain ⟨rfl, hz, hcx, hm⟩ := hv
  have hx := B.exec
  have hb := B.bytes
  have hr := B.returns
  have hts := atoms_spec (ws := wsX1_isTooMuch) B.pre
  have hown : s.vm.findClass RX1 = some m.cls := findClass_of_methodNamed B.named
  have hlocks := B.notSynchronized
  have hK := hcx.1
  have hS : va_S (AZ z) s.heap s.heap [] := va_S.rf
  have hA : ∀ q, s.heap.size ≤ q → AZ z q := fun q h => Nat.le_trans hz h
  have hl := lv_entry ([.ref h0]) (n := 1) (Nat.le_of_ble_eq_true rfl)
  rw [lg_entry_eq]
  generalize (lg_sl ([.ref h0]) ++ List.replicate (1 - (lg_sl ([.ref h0])).length) Slot.unset).toArray = ls at hl ⊢
  have hl : lv_has ls 1 [(0, .ref h0)] := hl
  have f9 := hts (.fieldLink RX1 9 "CommitTree$Merge" "items" "I") (by decide +kernel)
  have f15 := hts (.fieldLink RX1 15 "CommitTree$Merge" "nodes" "I") (by decide +kernel)
  have f18 := hts (.fieldLink RX1 18 "CommitTree$Merge" "blocks" "I") (by decide +kernel)
  have wX1 : ∀ w ∈ wsX10, w ∈ wsX1_isTooMuch := by decide +kernel
  have hT0 := hT
  have hE : kx κ M κ M := kx.refl _ _
  refine lv_aload_n hx hb dX1_isTooMuch_0 rfl (lv_at hl 0 rfl) ?_
  obtain ⟨v0_1, v1_1, v2_1, v3_1, v4_1, v5_1, hM_h0_1, hk_v4_1, hk_v5_1⟩ := hT.merge hk_h0
  refine m_get (T := TX1) (N := 6) (ci := 1) (v := .int v1_1) hx hb hts wX1 hown hK hm hM_h0_1 rfl 1 (by decide) f15 (fun _ h9 => h9) rfl dX1_isTooMuch_1 ?_
  refine lv_bipush (v := 40) hx hb dX1_isTooMuch_4 (by decide) ?_
  refine lv_icmp_gt (tgt := 27) hx hb dX1_isTooMuch_6 (by decide) (fun c2 => ?_) (fun c2 => ?_)
  · refine lv_iconst (v := 1) hx hb dX1_isTooMuch_27 (by decide) ?_
    refine lv_goto (tgt := 32) hx hb dX1_isTooMuch_28 (by decide) ?_
    refine W.zret hx hb hr rfl (fun t ht hW => ⟨⟨some (.int 1), _, rfl, ?_, by rw [ht]; exact hm⟩, hS.F ht⟩) hS.2.2 dX1_isTooMuch_32
    exact ⟨Or.inr rfl, rfl⟩
  · refine lv_aload_n hx hb dX1_isTooMuch_9 rfl (lv_at hl 0 rfl) ?_
    refine m_get (T := TX1) (N := 6) (ci := 1) (v := .int v2_1) hx hb hts wX1 hown hK hm hM_h0_1 rfl 2 (by decide) f18 (fun _ h9 => h9) rfl dX1_isTooMuch_10 ?_
    refine lv_bipush (v := 90) hx hb dX1_isTooMuch_13 (by decide) ?_
    refine lv_icmp_gt (tgt := 27) hx hb dX1_isTooMuch_15 (by decide) (fun c3 => ?_) (fun c3 => ?_)
    · refine lv_iconst (v := 1) hx hb dX1_isTooMuch_27 (by decide) ?_
      refine lv_goto (tgt := 32) hx hb dX1_isTooMuch_28 (by decide) ?_
      refine W.zret hx hb hr rfl (fun t ht hW => ⟨⟨some (.int 1), _, rfl, ?_, by rw [ht]; exact hm⟩, hS.F ht⟩) hS.2.2 dX1_isTooMuch_32
      exact ⟨Or.inr rfl, rfl⟩
    · refine lv_aload_n hx hb dX1_isTooMuch_18 rfl (lv_at hl 0 rfl) ?_
      refine m_get (T := TX1) (N := 6) (ci := 1) (v := .int v0_1) hx hb hts wX1 hown hK hm hM_h0_1 rfl 0 (by decide) f9 (fun _ h9 => h9) rfl dX1_isTooMuch_19 ?_
      refine lv_bipush (v := 124) hx hb dX1_isTooMuch_22 (by decide) ?_
      refine lv_icmp_le (tgt := 31) hx hb dX1_isTooMuch_24 (by decide) (fun c4 => ?_) (fun c4 => ?_)
      · refine lv_iconst (v := 0) hx hb dX1_isTooMuch_31 (by decide) ?_
        refine W.zret hx hb hr rfl (fun t ht hW => ⟨⟨some (.int 0), _, rfl, ?_, by rw [ht]; exact hm⟩, hS.F ht⟩) hS.2.2 dX1_isTooMuch_32
        exact ⟨Or.inl rfl, rfl⟩
      · refine lv_iconst (v := 1) hx hb dX1_isTooMuch_27 (by decide) ?_
        refine lv_goto (tgt := 32) hx hb dX1_isTooMuch_28 (by decide) ?_
        refine W.zret hx hb hr rfl (fun t ht hW => ⟨⟨some (.int 1), _, rfl, ?_, by rw [ht]; exact hm⟩, hS.F ht⟩) hS.2.2 dX1_isTooMuch_32
        exact ⟨Or.inr rfl, rfl⟩

set_option maxHeartbeats 4000000 in
set_option maxRecDepth 100000 in
theorem t_X5_judged_R (l : Launch) (D : va_G) (k : Nat → ClassId) (z : Nat) (M : mM) (κ : Nat → Option KD) (h0 : Nat) (r0 : Nat) (hk_h0 : κ h0 = some .top) (hk_r0 : κ r0 = some .txn) (hT : TM k κ M) : mK l yX5_judged wsX5_judged ({ frames := 5, cells := 0, slots := 0, locals := 123 }) D k z [.ref h0, .ref r0] M (fun v M' => ∃ κ', TM k κ' M' ∧ kx κ M κ' M' ∧ ∃ x, v = some (.int x)) := by
  refine Met.ofW (cc := cX5_judged) (maxL := 2) (ret := (some .int)) (by decide) rfl ?_
  intro p e s m args below meth c s₁ B hml hv
  obtain ⟨rfl, hz, hcx, hm⟩ := hv
  have hx := B.exec
  have hb := B.bytes
  have hr := B.returns
  have hts := atoms_spec (ws := wsX5_judged) B.pre
  have hown : s.vm.findClass RX5 = some m.cls := findClass_of_methodNamed B.named
  have hlocks := B.notSynchronized
  have hK := hcx.1
  have hS : va_S (AZ z) s.heap s.heap [] := va_S.rf
  have hA : ∀ q, s.heap.size ≤ q → AZ z q := fun q h => Nat.le_trans hz h
  have hl := lv_entry ([.ref h0, .ref r0]) (n := 2) (Nat.le_of_ble_eq_true rfl)
  rw [lg_entry_eq]
  generalize (lg_sl ([.ref h0, .ref r0]) ++ List.replicate (2 - (lg_sl ([.ref h0, .ref r0])).length) Slot.unset).toArray = ls at hl ⊢
  have hl : lv_has ls 2 [(0, .ref h0), (1, .ref r0)] := hl
  have f10 := hts (.fieldLink RX5 10 "CommitTree" "tree" "LCommitTree$Tree;") (by decide +kernel)
  have f32 := hts (.fieldLink RX5 32 "CommitTree" "merge" "LCommitTree$Merge;") (by decide +kernel)
  have f106 := hts (.fieldLink RX5 106 "CommitTree$Transaction" "base" "LCommitTree$Tree;") (by decide +kernel)
  have f109 := hts (.fieldLink RX5 109 "CommitTree$Transaction" "view" "LCommitTree$Tree;") (by decide +kernel)
  have wX3 : ∀ w ∈ wsX30, w ∈ wsX5_judged := by decide +kernel
  have wX5 : ∀ w ∈ wsX50, w ∈ wsX5_judged := by decide +kernel
  have hT0 := hT
  have hE : kx κ M κ M := kx.refl _ _
  refine lv_aload_n hx hb dX5_judged_0 rfl (lv_at hl 1 rfl) ?_
  refine lv_aload_n hx hb dX5_judged_1 rfl (lv_at hl 0 rfl) ?_
  obtain ⟨v0_1, v1_1, v2_1, v3_1, v4_1, v5_1, v6_1, v7_1, v8_1, v9_1, v10_1, hM_h0_1, hk_v0_1, hk_v1_1, hk_v2_1, hk_v3_1, hk_v4_1, hk_v5_1, hz_v9_1, hz_v10_1⟩ := hT.top hk_h0
  refine m_get (T := TX5) (N := 11) (ci := 5) (v := .ref v0_1) hx hb hts wX5 hown hK hm hM_h0_1 rfl 0 (by decide) f10 (fun _ h9 => h9) rfl dX5_judged_2 ?_
  obtain ⟨v0_2, v1_2, v2_2, v3_2, v4_2, v5_2, v6_2, hM_r0_2, hk_v0_2, hk_v1_2, hk_v2_2, hk_v3_2, hk_v4_2, hz_v5_2⟩ := hT.txn hk_r0
  refine m_kV (As := [.ref v0_1]) (rest := []) (rm := { frames := 2, cells := 0, slots := 0, locals := 49 }) ⟨hx, hb, hml, hown, hts⟩ (t_X3_isStale_R l D k z _ _ r0 v0_1 hk_r0 hk_v0_1 hT) (cwV 1 hts gX5_judged_X3_isStale rfl rfl rfl (by decide +kernel) ⟨Nat.le_of_ble_eq_true rfl, Nat.le_of_ble_eq_true rfl⟩) (m_recv hK hm (q := (RX3, TX3, 7)) rfl hM_r0_2) hz hcx hm hS rfl hl.1 rfl (Nat.le_of_ble_eq_true rfl) dX5_judged_5 ⟨Nat.le_of_ble_eq_true rfl, Nat.le_of_ble_eq_true rfl⟩ (fun v M1 H locs hv hm hS => ?_)
  obtain ⟨hv1, hM1⟩ := hv
  rw [hM1] at hm
  rcases hv1 with hv1 | hv1
  · subst hv1
    refine W.eq (g2 := F0 m 8 ls [.int 0]) rfl ?_
    refine W.widen (k := 0) (n := 0) (Nat.le_of_ble_eq_true rfl) (Nat.le_of_ble_eq_true rfl) ?_
    have hm : mm D (AZ z) M H := hm
    refine lv_if_eq (tgt := 14) hx hb dX5_judged_8 (by decide) (fun c3 => ?_) (fun c3 => ?_)
    · refine lv_aload_n hx hb dX5_judged_14 rfl (lv_at hl 0 rfl) ?_
      refine m_get (T := TX5) (N := 11) (ci := 5) (v := .ref v2_1) hx hb hts wX5 hown hK hm hM_h0_1 rfl 2 (by decide) f32 (fun _ h9 => h9) rfl dX5_judged_15 ?_
      refine lv_aload_n hx hb dX5_judged_18 rfl (lv_at hl 1 rfl) ?_
      refine m_get (T := TX3) (N := 7) (ci := 3) (v := .ref v0_2) hx hb hts wX3 hown hK hm hM_r0_2 rfl 0 (by decide) f106 (fun _ h9 => h9) rfl dX5_judged_19 ?_
      refine lv_aload_n hx hb dX5_judged_22 rfl (lv_at hl 1 rfl) ?_
      refine m_get (T := TX3) (N := 7) (ci := 3) (v := .ref v1_2) hx hb hts wX3 hown hK hm hM_r0_2 rfl 1 (by decide) f109 (fun _ h9 => h9) rfl dX5_judged_23 ?_
      refine lv_aload_n hx hb dX5_judged_26 rfl (lv_at hl 0 rfl) ?_
      refine m_get (T := TX5) (N := 11) (ci := 5) (v := .ref v0_1) hx hb hts wX5 hown hK hm hM_h0_1 rfl 0 (by decide) f10 (fun _ h9 => h9) rfl dX5_judged_27 ?_
      obtain ⟨v0_4, v1_4, v2_4, v3_4, v4_4, v5_4, hM_v2_1_4, hk_v4_4, hk_v5_4⟩ := hT.merge hk_v2_1
      refine m_kV (As := [.ref v0_2, .ref v1_2, .ref v0_1]) (rest := []) (rm := { frames := 4, cells := 0, slots := 0, locals := 98 }) ⟨hx, hb, hml, hown, hts⟩ (t_X1_weigh_RRR l D k z _ _ v2_1 v0_2 v1_2 v0_1 hk_v2_1 hk_v0_2 hk_v1_2 hk_v0_1 hT) (cwV 3 hts gX5_judged_X1_weigh rfl rfl rfl (by decide +kernel) ⟨Nat.le_of_ble_eq_true rfl, Nat.le_of_ble_eq_true rfl⟩) (m_recv hK hm (q := (RX1, TX1, 6)) rfl hM_v2_1_4) hz hcx hm hS rfl hl.1 rfl (Nat.le_of_ble_eq_true rfl) dX5_judged_30 ⟨Nat.le_of_ble_eq_true rfl, Nat.le_of_ble_eq_true rfl⟩ (fun v M1 H locs hv hm hS => ?_)
      obtain ⟨κ1, hT9, hE9, hv1⟩ := hv
      have hk_h0 := hE9.k hT hk_h0
      have hk_r0 := hE9.k hT hk_r0
      have hk_v2_1 := hE9.k hT hk_v2_1
      have hE := hE.trans hT0 hT hE9
      have hT := hT9
      obtain ⟨Mc1, hMx⟩ : ∃ x : mM, x = M1 := ⟨M1, rfl⟩
      subst hMx
      subst hv1
      refine W.eq (g2 := F0 m 33 ls []) rfl ?_
      refine W.widen (k := 0) (n := 0) (Nat.le_of_ble_eq_true rfl) (Nat.le_of_ble_eq_true rfl) ?_
      have hm : mm D (AZ z) Mc1 H := hm
      refine lv_aload_n hx hb dX5_judged_33 rfl (lv_at hl 0 rfl) ?_
      obtain ⟨v0_5, v1_5, v2_5, v3_5, v4_5, v5_5, v6_5, v7_5, v8_5, v9_5, v10_5, hM_h0_5, hk_v0_5, hk_v1_5, hk_v2_5, hk_v3_5, hk_v4_5, hk_v5_5, hz_v9_5, hz_v10_5⟩ := hT.top hk_h0
      refine m_get (T := TX5) (N := 11) (ci := 5) (v := .ref v2_5) hx hb hts wX5 hown hK hm hM_h0_5 rfl 2 (by decide) f32 (fun _ h9 => h9) rfl dX5_judged_34 ?_
      obtain ⟨v0_6, v1_6, v2_6, v3_6, v4_6, v5_6, hM_v2_5_6, hk_v4_6, hk_v5_6⟩ := hT.merge hk_v2_5
      refine m_kV (As := []) (rest := []) (rm := { frames := 0, cells := 0, slots := 0, locals := 0 }) ⟨hx, hb, hml, hown, hts⟩ (t_X1_isTooMuch l D k z _ _ v2_5 hk_v2_5 hT) (cwV 0 hts gX5_judged_X1_isTooMuch rfl rfl rfl (by decide +kernel) ⟨Nat.le_of_ble_eq_true rfl, Nat.le_of_ble_eq_true rfl⟩) (m_recv hK hm (q := (RX1, TX1, 6)) rfl hM_v2_5_6) hz hcx hm hS rfl hl.1 rfl (Nat.le_of_ble_eq_true rfl) dX5_judged_37 ⟨Nat.le_of_ble_eq_true rfl, Nat.le_of_ble_eq_true rfl⟩ (fun v M1 H locs hv hm hS => ?_)
      obtain ⟨hv1, hM1⟩ := hv
      rw [hM1] at hm
      rcases hv1 with hv1 | hv1
      · subst hv1
        refine W.eq (g2 := F0 m 40 ls [.int 0]) rfl ?_
        refine W.widen (k := 0) (n := 0) (Nat.le_of_ble_eq_true rfl) (Nat.le_of_ble_eq_true rfl) ?_
        have hm : mm D (AZ z) Mc1 H := hm
        refine lv_if_eq (tgt := 48) hx hb dX5_judged_40 (by decide) (fun c7 => ?_) (fun c7 => ?_)
        · refine lv_iconst (v := 0) hx hb dX5_judged_48 (by decide) ?_
          refine W.iret (v := 0) hx hb hr (fun t ht hW => ⟨⟨some (.int 0), _, rfl, ?_, by rw [ht]; exact hm⟩, hS.F ht⟩) hS.2.2 dX5_judged_49
          exact ⟨_, hT, hE, ⟨_, rfl⟩⟩
        · first | exact absurd c7 (by decide) | exact absurd (by decide) c7
      · subst hv1
        refine W.eq (g2 := F0 m 40 ls [.int 1]) rfl ?_
        refine W.widen (k := 0) (n := 0) (Nat.le_of_ble_eq_true rfl) (Nat.le_of_ble_eq_true rfl) ?_
        have hm : mm D (AZ z) Mc1 H := hm
        refine lv_if_eq (tgt := 48) hx hb dX5_judged_40 (by decide) (fun c8 => ?_) (fun c8 => ?_)
        · first | exact absurd c8 (by decide) | exact absurd (by decide) c8
        · refine lv_bipush (v := (-3)) hx hb dX5_judged_43 (by decide) ?_
          refine lv_goto (tgt := 49) hx hb dX5_judged_45 (by decide) ?_
          refine W.iret (v := (-3)) hx hb hr (fun t ht hW => ⟨⟨some (.int (-3)), _, rfl, ?_, by rw [ht]; exact hm⟩, hS.F ht⟩) hS.2.2 dX5_judged_49
          exact ⟨_, hT, hE, ⟨_, rfl⟩⟩
    · first | exact absurd c3 (by decide) | exact absurd (by decide) c3
  · subst hv1
    refine W.eq (g2 := F0 m 8 ls [.int 1]) rfl ?_
    refine W.widen (k := 0) (n := 0) (Nat.le_of_ble_eq_true rfl) (Nat.le_of_ble_eq_true rfl) ?_
    have hm : mm D (AZ z) M H := hm
    refine lv_if_eq (tgt := 14) hx hb dX5_judged_8 (by decide) (fun c9 => ?_) (fun c9 => ?_)
    · first | exact absurd c9 (by decide) | exact absurd (by decide) c9
    · refine lv_bipush (v := (-2)) hx hb dX5_judged_11 (by decide) ?_
      refine W.iret (v := (-2)) hx hb hr (fun t ht hW => ⟨⟨some (.int (-2)), _, rfl, ?_, by rw [ht]; exact hm⟩, hS.F ht⟩) hS.2.2 dX5_judged_13
      exact ⟨_, hT, hE, ⟨_, rfl⟩⟩

set_option maxHeartbeats 4000000 in
set_option maxRecDepth 100000 in
theorem t_X1_addKept_NNRR (l : Launch) (D : va_G) (k : Nat → ClassId) (z : Nat) (M : mM) (κ : Nat → Option KD) (r2 : Nat) (r3 : Nat) (hk_r2 : κ r2 = some .node) (hk_r3 : κ r3 = some .tree) (hT : TM k κ M) : mK l yX1_addKept wsX1_addKept ({ frames := 1, cells := 0, slots := 0, locals := 21 }) D k z [.null, .null, .ref r2, .ref r3] M (fun v M' => ∃ κ', TM k κ' M' ∧ kx κ M κ' M' ∧ v = none) := by
  refine Met.ofW (cc := cX1_addKept) (maxL := 4) (ret := none) (by decide) rfl ?_
  intro p e s m args below meth c s₁ B hml hv
  obtain ⟨rfl, hz, hcx, hm⟩ := hv
  have hx := B.exec
  have hb := B.bytes
  have hr := B.returns
  have hts := atoms_spec (ws := wsX1_addKept) B.pre
  have hown : s.vm.findClass RX1 = some m.cls := findClass_of_methodNamed B.named
  have hlocks := B.notSynchronized
  have hK := hcx.1
  have hS : va_S (AZ z) s.heap s.heap [] := va_S.rf
  have hA : ∀ q, s.heap.size ≤ q → AZ z q := fun q h => Nat.le_trans hz h
  have hl := lv_entry ([.null, .null, .ref r2, .ref r3]) (n := 4) (Nat.le_of_ble_eq_true rfl)
  rw [lg_entry_eq]
  generalize (lg_sl ([.null, .null, .ref r2, .ref r3]) ++ List.replicate (4 - (lg_sl ([.null, .null, .ref r2, .ref r3])).length) Slot.unset).toArray = ls at hl ⊢
  have hl : lv_has ls 4 [(0, .null), (1, .null), (2, .ref r2), (3, .ref r3)] := hl
  have hT0 := hT
  have hE : kx κ M κ M := kx.refl _ _
  refine lv_aload_nN hx hb dX1_addKept_0 rfl (lv_at hl 0 rfl) ?_
  refine lv_ifnonnullN hx hb dX1_addKept_1 ?_
  refine lv_aload_n hx hb dX1_addKept_4 rfl (lv_at hl 3 rfl) ?_
  refine lv_aload_n hx hb dX1_addKept_5 rfl (lv_at hl 2 rfl) ?_
  obtain ⟨v0_1, v1_1, hM_r3_1, hk_v0_1, hn_v1_1⟩ := hT.tree hk_r3
  refine m_kV (As := [.ref r2]) (rest := []) (rm := { frames := 0, cells := 0, slots := 0, locals := 0 }) ⟨hx, hb, hml, hown, hts⟩ (t_X4_add_R l D k z _ _ r3 r2 hk_r3 hk_r2 hT) (cwV 1 hts gX1_addKept_X4_add rfl rfl rfl (by decide +kernel) ⟨Nat.le_of_ble_eq_true rfl, Nat.le_of_ble_eq_true rfl⟩) (m_recv hK hm (q := (RX4, TX4, 2)) rfl hM_r3_1) hz hcx hm hS rfl hl.1 rfl (Nat.le_of_ble_eq_true rfl) dX1_addKept_6 ⟨Nat.le_of_ble_eq_true rfl, Nat.le_of_ble_eq_true rfl⟩ (fun v M1 H locs hv hm hS => ?_)
  obtain ⟨κ1, hT9, hE9, hv1⟩ := hv
  have hk_r2 := hE9.k hT hk_r2
  have hk_r3 := hE9.k hT hk_r3
  have hE := hE.trans hT0 hT hE9
  have hT := hT9
  obtain ⟨Mc1, hMx⟩ : ∃ x : mM, x = M1 := ⟨M1, rfl⟩
  subst hMx
  subst hv1
  refine W.eq (g2 := F0 m 9 ls []) rfl ?_
  refine W.widen (k := 0) (n := 0) (Nat.le_of_ble_eq_true rfl) (Nat.le_of_ble_eq_true rfl) ?_
  have hm : mm D (AZ z) Mc1 H := hm
  refine lv_goto (tgt := 26) hx hb dX1_addKept_9 (by decide) ?_
  refine W.vret hx hb hr (fun t ht hW => ⟨⟨none, _, rfl, ?_, by rw [ht]; exact hm⟩, hS.F ht⟩) hS.2.2 dX1_addKept_26
  exact ⟨_, hT, hE, rfl⟩

