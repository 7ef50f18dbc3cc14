set_option maxHeartbeats 4000000 in
set_option maxRecDepth 100000 in
theorem c_X1_addKeptNN (l : Launch) (D : va_G) (k : Nat → ClassId) (z : Nat) (M : mM) (t9 tn : Nat) (gt : Nat → Option Nat) (L : List NV) (hT : treeAt k M t9 tn gt L) (na : Nat) (n : NV) (hN : nodeAt k M na n) : mK l yX1_addKept wsX1_addKept ({ frames := 3, cells := 2, slots := 68, locals := 70 }) D k z [.null, .null, .ref na, .ref t9] M (fun v M' => v = none ∧ M' = (addM k M t9 tn L.length gt na)) := by
  refine Met.ofW (cc := cX1_addKept) (maxL := 4) (ret := none) (by decide) rfl ?_
  intro p e s m args below meth c s₁ B hml hv
  obtain ⟨rfl, hz, hcx, hm⟩ := hv
  have hx := B.exec
  have hb := B.bytes
  have hr := B.returns
  have hts := atoms_spec (ws := wsX1_addKept) B.pre
  have hown : s.vm.findClass RX1 = some m.cls := findClass_of_methodNamed B.named
  have hlocks := B.notSynchronized
  have hK := hcx.1
  have hS : va_S (AZ z) s.heap s.heap [] := va_S.rf
  have hA : ∀ q, s.heap.size ≤ q → AZ z q := fun q h => Nat.le_trans hz h
  have hl := lv_entry ([.null, .null, .ref na, .ref t9]) (n := 4) (Nat.le_of_ble_eq_true rfl)
  rw [lg_entry_eq]
  generalize (lg_sl ([.null, .null, .ref na, .ref t9]) ++ List.replicate (4 - (lg_sl ([.null, .null, .ref na, .ref t9])).length) Slot.unset).toArray = ls at hl ⊢
  have hl : lv_has ls 4 [(0, .null), (1, .null), (2, .ref na), (3, .ref t9)] := hl
  refine lv_aload_nN hx hb dX1_addKept_0 rfl (lv_at hl 0 rfl) ?_
  refine lv_ifnonnullN hx hb dX1_addKept_1 ?_
  refine lv_aload_n hx hb dX1_addKept_4 rfl (lv_at hl 3 rfl) ?_
  refine lv_aload_n hx hb dX1_addKept_5 rfl (lv_at hl 2 rfl) ?_
  refine m_kV (As := [.ref na]) (rest := []) (rm := { frames := 0, cells := 0, slots := 0, locals := 0 }) ⟨hx, hb, hml, hown, hts⟩ (c_X4_add l D k z _ t9 tn na gt L n hT hN) (cwV 1 hts gX1_addKept_X4_add rfl rfl rfl (by decide +kernel) ⟨Nat.le_of_ble_eq_true rfl, Nat.le_of_ble_eq_true rfl⟩) (m_recv hK hm (q := (RX4, TX4, 2)) rfl hT.1) hz hcx hm hS rfl hl.1 rfl (Nat.le_of_ble_eq_true rfl) dX1_addKept_6 ⟨Nat.le_of_ble_eq_true rfl, Nat.le_of_ble_eq_true rfl⟩ (fun v M1 H locs hv hm hS => ?_)
  obtain ⟨rfl, hM1⟩ := hv
  rw [hM1] at hm
  refine W.eq (g2 := F0 m 9 ls []) rfl ?_
  refine W.widen (k := 0) (n := 0) (Nat.le_of_ble_eq_true rfl) (Nat.le_of_ble_eq_true rfl) ?_
  have hm : mm D (AZ z) (addM k M t9 tn L.length gt na) H := hm
  refine lv_goto (tgt := 26) hx hb dX1_addKept_9 (by decide) ?_
  refine W.widen (k := 2) (n := 68) (by omega) (by omega) ?_
  refine W.vret hx hb hr (fun t ht hW => ⟨⟨none, _, rfl, ?_, by rw [ht]; exact hm⟩, hS.F ht⟩) hS.2.2 dX1_addKept_26
  exact ⟨rfl, rfl⟩

set_option maxHeartbeats 4000000 in
set_option maxRecDepth 100000 in
theorem c_X1_addKeptNR (l : Launch) (D : va_G) (k : Nat → ClassId) (z : Nat) (M : mM) (t9 tn : Nat) (gt : Nat → Option Nat) (L : List NV) (hT : treeAt k M t9 tn gt L) (ta na : Nat) (n : NV) (hN : nodeAt k M na n) : mK l yX1_addKept wsX1_addKept ({ frames := 3, cells := 2, slots := 68, locals := 70 }) D k z [.null, .ref ta, .ref na, .ref t9] M (fun v M' => v = none ∧ M' = (addM k M t9 tn L.length gt na)) := by
  refine Met.ofW (cc := cX1_addKept) (maxL := 4) (ret := none) (by decide) rfl ?_
  intro p e s m args below meth c s₁ B hml hv
  obtain ⟨rfl, hz, hcx, hm⟩ := hv
  have hx := B.exec
  have hb := B.bytes
  have hr := B.returns
  have hts := atoms_spec (ws := wsX1_addKept) B.pre
  have hown : s.vm.findClass RX1 = some m.cls := findClass_of_methodNamed B.named
  have hlocks := B.notSynchronized
  have hK := hcx.1
  have hS : va_S (AZ z) s.heap s.heap [] := va_S.rf
  have hA : ∀ q, s.heap.size ≤ q → AZ z q := fun q h => Nat.le_trans hz h
  have hl := lv_entry ([.null, .ref ta, .ref na, .ref t9]) (n := 4) (Nat.le_of_ble_eq_true rfl)
  rw [lg_entry_eq]
  generalize (lg_sl ([.null, .ref ta, .ref na, .ref t9]) ++ List.replicate (4 - (lg_sl ([.null, .ref ta, .ref na, .ref t9])).length) Slot.unset).toArray = ls at hl ⊢
  have hl : lv_has ls 4 [(0, .null), (1, .ref ta), (2, .ref na), (3, .ref t9)] := hl
  refine lv_aload_nN hx hb dX1_addKept_0 rfl (lv_at hl 0 rfl) ?_
  refine lv_ifnonnullN hx hb dX1_addKept_1 ?_
  refine lv_aload_n hx hb dX1_addKept_4 rfl (lv_at hl 3 rfl) ?_
  refine lv_aload_n hx hb dX1_addKept_5 rfl (lv_at hl 2 rfl) ?_
  refine m_kV (As := [.ref na]) (rest := []) (rm := { frames := 0, cells := 0, slots := 0, locals := 0 }) ⟨hx, hb, hml, hown, hts⟩ (c_X4_add l D k z _ t9 tn na gt L n hT hN) (cwV 1 hts gX1_addKept_X4_add rfl rfl rfl (by decide +kernel) ⟨Nat.le_of_ble_eq_true rfl, Nat.le_of_ble_eq_true rfl⟩) (m_recv hK hm (q := (RX4, TX4, 2)) rfl hT.1) hz hcx hm hS rfl hl.1 rfl (Nat.le_of_ble_eq_true rfl) dX1_addKept_6 ⟨Nat.le_of_ble_eq_true rfl, Nat.le_of_ble_eq_true rfl⟩ (fun v M1 H locs hv hm hS => ?_)
  obtain ⟨rfl, hM1⟩ := hv
  rw [hM1] at hm
  refine W.eq (g2 := F0 m 9 ls []) rfl ?_
  refine W.widen (k := 0) (n := 0) (Nat.le_of_ble_eq_true rfl) (Nat.le_of_ble_eq_true rfl) ?_
  have hm : mm D (AZ z) (addM k M t9 tn L.length gt na) H := hm
  refine lv_goto (tgt := 26) hx hb dX1_addKept_9 (by decide) ?_
  refine W.widen (k := 2) (n := 68) (by omega) (by omega) ?_
  refine W.vret hx hb hr (fun t ht hW => ⟨⟨none, _, rfl, ?_, by rw [ht]; exact hm⟩, hS.F ht⟩) hS.2.2 dX1_addKept_26
  exact ⟨rfl, rfl⟩

set_option maxHeartbeats 4000000 in
set_option maxRecDepth 100000 in
theorem c_X1_addKeptRN (l : Launch) (D : va_G) (k : Nat → ClassId) (z : Nat) (M : mM) (t9 tn : Nat) (gt : Nat → Option Nat) (L : List NV) (hT : treeAt k M t9 tn gt L) (fa na : Nat) : mK l yX1_addKept wsX1_addKept ({ frames := 3, cells := 2, slots := 68, locals := 70 }) D k z [.ref fa, .null, .ref na, .ref t9] M (fun v M' => v = none ∧ M' = M) := by
  refine Met.ofW (cc := cX1_addKept) (maxL := 4) (ret := none) (by decide) rfl ?_
  intro p e s m args below meth c s₁ B hml hv
  obtain ⟨rfl, hz, hcx, hm⟩ := hv
  have hx := B.exec
  have hb := B.bytes
  have hr := B.returns
  have hts := atoms_spec (ws := wsX1_addKept) B.pre
  have hown : s.vm.findClass RX1 = some m.cls := findClass_of_methodNamed B.named
  have hlocks := B.notSynchronized
  have hK := hcx.1
  have hS : va_S (AZ z) s.heap s.heap [] := va_S.rf
  have hA : ∀ q, s.heap.size ≤ q → AZ z q := fun q h => Nat.le_trans hz h
  have hl := lv_entry ([.ref fa, .null, .ref na, .ref t9]) (n := 4) (Nat.le_of_ble_eq_true rfl)
  rw [lg_entry_eq]
  generalize (lg_sl ([.ref fa, .null, .ref na, .ref t9]) ++ List.replicate (4 - (lg_sl ([.ref fa, .null, .ref na, .ref t9])).length) Slot.unset).toArray = ls at hl ⊢
  have hl : lv_has ls 4 [(0, .ref fa), (1, .null), (2, .ref na), (3, .ref t9)] := hl
  refine lv_aload_n hx hb dX1_addKept_0 rfl (lv_at hl 0 rfl) ?_
  refine lv_ifnonnull (tgt := 12) hx hb dX1_addKept_1 (by decide) ?_
  refine lv_aload_nN hx hb dX1_addKept_12 rfl (lv_at hl 1 rfl) ?_
  refine lv_ifnullN (tgt := 26) hx hb dX1_addKept_13 (by decide) ?_
  refine W.widen (k := 2) (n := 68) (by omega) (by omega) ?_
  refine W.vret hx hb hr (fun t ht hW => ⟨⟨none, _, rfl, ?_, by rw [ht]; exact hm⟩, hS.F ht⟩) hS.2.2 dX1_addKept_26
  exact ⟨rfl, rfl⟩

set_option maxHeartbeats 4000000 in
set_option maxRecDepth 100000 in
theorem c_X1_addKeptS (l : Launch) (D : va_G) (k : Nat → ClassId) (z : Nat) (M : mM) (t9 tn : Nat) (gt : Nat → Option Nat) (L : List NV) (hT : treeAt k M t9 tn gt L) (fa na : Nat) (n : NV) (hN : nodeAt k M na n) : mK l yX1_addKept wsX1_addKept ({ frames := 3, cells := 2, slots := 68, locals := 70 }) D k z [.ref fa, .ref fa, .ref na, .ref t9] M (fun v M' => v = none ∧ M' = (addM k M t9 tn L.length gt na)) := by
  refine Met.ofW (cc := cX1_addKept) (maxL := 4) (ret := none) (by decide) rfl ?_
  intro p e s m args below meth c s₁ B hml hv
  obtain ⟨rfl, hz, hcx, hm⟩ := hv
  have hx := B.exec
  have hb := B.bytes
  have hr := B.returns
  have hts := atoms_spec (ws := wsX1_addKept) B.pre
  have hown : s.vm.findClass RX1 = some m.cls := findClass_of_methodNamed B.named
  have hlocks := B.notSynchronized
  have hK := hcx.1
  have hS : va_S (AZ z) s.heap s.heap [] := va_S.rf
  have hA : ∀ q, s.heap.size ≤ q → AZ z q := fun q h => Nat.le_trans hz h
  have hl := lv_entry ([.ref fa, .ref fa, .ref na, .ref t9]) (n := 4) (Nat.le_of_ble_eq_true rfl)
  rw [lg_entry_eq]
  generalize (lg_sl ([.ref fa, .ref fa, .ref na, .ref t9]) ++ List.replicate (4 - (lg_sl ([.ref fa, .ref fa, .ref na, .ref t9])).length) Slot.unset).toArray = ls at hl ⊢
  have hl : lv_has ls 4 [(0, .ref fa), (1, .ref fa), (2, .ref na), (3, .ref t9)] := hl
  refine lv_aload_n hx hb dX1_addKept_0 rfl (lv_at hl 0 rfl) ?_
  refine lv_ifnonnull (tgt := 12) hx hb dX1_addKept_1 (by decide) ?_
  refine lv_aload_n hx hb dX1_addKept_12 rfl (lv_at hl 1 rfl) ?_
  refine lv_ifnull hx hb dX1_addKept_13 ?_
  refine lv_aload_n hx hb dX1_addKept_16 rfl (lv_at hl 3 rfl) ?_
  refine lv_aload_n hx hb dX1_addKept_17 rfl (lv_at hl 0 rfl) ?_
  refine lv_aload_n hx hb dX1_addKept_18 rfl (lv_at hl 1 rfl) ?_
  refine lv_aload_n hx hb dX1_addKept_19 rfl (lv_at hl 2 rfl) ?_
  refine m_kS (As := [.ref fa, .ref fa, .ref na]) (rest := [.ref t9]) (rm := { frames := 2, cells := 2, slots := 68, locals := 40 }) ⟨hx, hb, hml, hown, hts⟩ (c_X1_mergedNodeS l D k z _ fa na) (cwS 3 hts gX1_addKept_X1_mergedNode rfl rfl rfl (by decide +kernel) ⟨Nat.le_of_ble_eq_true rfl, Nat.le_of_ble_eq_true rfl⟩) hz hcx hm hS rfl hl.1 rfl (Nat.le_of_ble_eq_true rfl) dX1_addKept_20 ⟨Nat.le_of_ble_eq_true rfl, Nat.le_of_ble_eq_true rfl⟩ (fun v M1 H locs hv hm hS => ?_)
  obtain ⟨rfl, hM1⟩ := hv
  rw [hM1] at hm
  refine W.eq (g2 := F0 m 23 ls [.ref na, .ref t9]) rfl ?_
  refine W.widen (k := 2) (n := 68) (Nat.le_of_ble_eq_true rfl) (Nat.le_of_ble_eq_true rfl) ?_
  have hm : mm D (AZ z) M H := hm
  refine m_kV (As := [.ref na]) (rest := []) (rm := { frames := 0, cells := 0, slots := 0, locals := 0 }) ⟨hx, hb, hml, hown, hts⟩ (c_X4_add l D k z _ t9 tn na gt L n hT hN) (cwV 1 hts gX1_addKept_X4_add rfl rfl rfl (by decide +kernel) ⟨Nat.le_of_ble_eq_true rfl, Nat.le_of_ble_eq_true rfl⟩) (m_recv hK hm (q := (RX4, TX4, 2)) rfl hT.1) hz hcx hm hS rfl hl.1 rfl (Nat.le_of_ble_eq_true rfl) dX1_addKept_23 ⟨Nat.le_of_ble_eq_true rfl, Nat.le_of_ble_eq_true rfl⟩ (fun v M1 H locs hv hm hS => ?_)
  obtain ⟨rfl, hM1⟩ := hv
  rw [hM1] at hm
  refine W.eq (g2 := F0 m 26 ls []) rfl ?_
  refine W.widen (k := 2) (n := 68) (Nat.le_of_ble_eq_true rfl) (Nat.le_of_ble_eq_true rfl) ?_
  have hm : mm D (AZ z) (addM k M t9 tn L.length gt na) H := hm
  refine W.vret hx hb hr (fun t ht hW => ⟨⟨none, _, rfl, ?_, by rw [ht]; exact hm⟩, hS.F ht⟩) hS.2.2 dX1_addKept_26
  exact ⟨rfl, rfl⟩

set_option maxHeartbeats 4000000 in
set_option maxRecDepth 100000 in
theorem c_X1_addKeptRR1 (l : Launch) (D : va_G) (k : Nat → ClassId) (z : Nat) (M : mM) (t9 tn : Nat) (gt : Nat → Option Nat) (L : List NV) (hT : treeAt k M t9 tn gt L) (fa ta na cna : Nat) (f tt : NV) (id sz : Int32) (g : Nat → Int32) (hne : ta ≠ fa) (hF : nodeAt k M fa f) (hTt : nodeAt k M ta tt) (hnna : M na = some (.inr (2, [.int id, .int 1, .int sz, .ref cna]))) (hcna : M cna = some (.inl (k 0, 16, .inl g))) : mK l yX1_addKept wsX1_addKept ({ frames := 3, cells := 2, slots := 68, locals := 70 }) D k z [.ref fa, .ref ta, .ref na, .ref t9] M (fun v M' => ∃ q qa, M q = none ∧ M qa = none ∧ q ≠ qa ∧ v = none ∧ M' = (addM k (mu (mu M qa (.inl (k 0, 16, .inl (preF (mgC f tt 16 1 (mergedV f.2.2.1 tt.2.2.1 sz) g) 16)))) q (.inr (2, [.int id, .int 1, .int (mergedV f.2.2.1 tt.2.2.1 sz), .ref qa]))) t9 tn L.length gt q)) := by
  refine Met.ofW (cc := cX1_addKept) (maxL := 4) (ret := none) (by decide) rfl ?_
  intro p e s m args below meth c s₁ B hml hv
  obtain ⟨rfl, hz, hcx, hm⟩ := hv
  have hx := B.exec
  have hb := B.bytes
  have hr := B.returns
  have hts := atoms_spec (ws := wsX1_addKept) B.pre
  have hown : s.vm.findClass RX1 = some m.cls := findClass_of_methodNamed B.named
  have hlocks := B.notSynchronized
  have hK := hcx.1
  have hS : va_S (AZ z) s.heap s.heap [] := va_S.rf
  have hA : ∀ q, s.heap.size ≤ q → AZ z q := fun q h => Nat.le_trans hz h
  have hl := lv_entry ([.ref fa, .ref ta, .ref na, .ref t9]) (n := 4) (Nat.le_of_ble_eq_true rfl)
  rw [lg_entry_eq]
  generalize (lg_sl ([.ref fa, .ref ta, .ref na, .ref t9]) ++ List.replicate (4 - (lg_sl ([.ref fa, .ref ta, .ref na, .ref t9])).length) Slot.unset).toArray = ls at hl ⊢
  have hl : lv_has ls 4 [(0, .ref fa), (1, .ref ta), (2, .ref na), (3, .ref t9)] := hl
  refine lv_aload_n hx hb dX1_addKept_0 rfl (lv_at hl 0 rfl) ?_
  refine lv_ifnonnull (tgt := 12) hx hb dX1_addKept_1 (by decide) ?_
  refine lv_aload_n hx hb dX1_addKept_12 rfl (lv_at hl 1 rfl) ?_
  refine lv_ifnull hx hb dX1_addKept_13 ?_
  refine lv_aload_n hx hb dX1_addKept_16 rfl (lv_at hl 3 rfl) ?_
  refine lv_aload_n hx hb dX1_addKept_17 rfl (lv_at hl 0 rfl) ?_
  refine lv_aload_n hx hb dX1_addKept_18 rfl (lv_at hl 1 rfl) ?_
  refine lv_aload_n hx hb dX1_addKept_19 rfl (lv_at hl 2 rfl) ?_
  refine m_kS (As := [.ref fa, .ref ta, .ref na]) (rest := [.ref t9]) (rm := { frames := 2, cells := 2, slots := 68, locals := 40 }) ⟨hx, hb, hml, hown, hts⟩ (c_X1_mergedNode1 l D k z _ fa ta na cna f tt id sz g hne hF hTt hnna hcna) (cwS 3 hts gX1_addKept_X1_mergedNode rfl rfl rfl (by decide +kernel) ⟨Nat.le_of_ble_eq_true rfl, Nat.le_of_ble_eq_true rfl⟩) hz hcx hm hS rfl hl.1 rfl (Nat.le_of_ble_eq_true rfl) dX1_addKept_20 ⟨Nat.le_of_ble_eq_true rfl, Nat.le_of_ble_eq_true rfl⟩ (fun v M1 H locs hv hm hS => ?_)
  obtain ⟨q, qa, hq, hqa, hne9, rfl, hM1⟩ := hv
  rw [hM1] at hm
  have hT1 : treeAt k (mu (mu M qa (.inl (k 0, 16, .inl (preF (mgC f tt 16 1 (mergedV f.2.2.1 tt.2.2.1 sz) g) 16)))) q (.inr (2, [.int id, .int 1, .int (mergedV f.2.2.1 tt.2.2.1 sz), .ref qa]))) t9 tn gt L := treeAt_new (treeAt_new hT hqa) ((mu_ne hne9).trans hq)
  have hV1 : nodeAt k (mu (mu M qa (.inl (k 0, 16, .inl (preF (mgC f tt 16 1 (mergedV f.2.2.1 tt.2.2.1 sz) g) 16)))) q (.inr (2, [.int id, .int 1, .int (mergedV f.2.2.1 tt.2.2.1 sz), .ref qa]))) q (id, 1, (mergedV f.2.2.1 tt.2.2.1 sz), preF (mgC f tt 16 1 (mergedV f.2.2.1 tt.2.2.1 sz) g) 16) := nodeAt_made hne9 (id, 1, (mergedV f.2.2.1 tt.2.2.1 sz), preF (mgC f tt 16 1 (mergedV f.2.2.1 tt.2.2.1 sz) g) 16) (by first | exact Or.inl rfl | exact Or.inr rfl)
  refine W.eq (g2 := F0 m 23 ls [.ref q, .ref t9]) rfl ?_
  refine W.widen (k := 2) (n := 68) (Nat.le_of_ble_eq_true rfl) (Nat.le_of_ble_eq_true rfl) ?_
  have hm : mm D (AZ z) (mu (mu M qa (.inl (k 0, 16, .inl (preF (mgC f tt 16 1 (mergedV f.2.2.1 tt.2.2.1 sz) g) 16)))) q (.inr (2, [.int id, .int 1, .int (mergedV f.2.2.1 tt.2.2.1 sz), .ref qa]))) H := hm
  refine m_kV (As := [.ref q]) (rest := []) (rm := { frames := 0, cells := 0, slots := 0, locals := 0 }) ⟨hx, hb, hml, hown, hts⟩ (c_X4_add l D k z _ t9 tn q gt L (id, 1, (mergedV f.2.2.1 tt.2.2.1 sz), preF (mgC f tt 16 1 (mergedV f.2.2.1 tt.2.2.1 sz) g) 16) hT1 hV1) (cwV 1 hts gX1_addKept_X4_add rfl rfl rfl (by decide +kernel) ⟨Nat.le_of_ble_eq_true rfl, Nat.le_of_ble_eq_true rfl⟩) (m_recv hK hm (q := (RX4, TX4, 2)) rfl hT1.1) hz hcx hm hS rfl hl.1 rfl (Nat.le_of_ble_eq_true rfl) dX1_addKept_23 ⟨Nat.le_of_ble_eq_true rfl, Nat.le_of_ble_eq_true rfl⟩ (fun v M1 H locs hv hm hS => ?_)
  obtain ⟨rfl, hM1⟩ := hv
  rw [hM1] at hm
  refine W.eq (g2 := F0 m 26 ls []) rfl ?_
  refine W.widen (k := 2) (n := 68) (Nat.le_of_ble_eq_true rfl) (Nat.le_of_ble_eq_true rfl) ?_
  have hm : mm D (AZ z) (addM k (mu (mu M qa (.inl (k 0, 16, .inl (preF (mgC f tt 16 1 (mergedV f.2.2.1 tt.2.2.1 sz) g) 16)))) q (.inr (2, [.int id, .int 1, .int (mergedV f.2.2.1 tt.2.2.1 sz), .ref qa]))) t9 tn L.length gt q) H := hm
  refine W.vret hx hb hr (fun t ht hW => ⟨⟨none, _, rfl, ?_, by rw [ht]; exact hm⟩, hS.F ht⟩) hS.2.2 dX1_addKept_26
  exact ⟨q, qa, hq, hqa, hne9, rfl, rfl⟩

set_option maxHeartbeats 4000000 in
set_option maxRecDepth 100000 in
theorem c_X1_addKeptRR0 (l : Launch) (D : va_G) (k : Nat → ClassId) (z : Nat) (M : mM) (t9 tn : Nat) (gt : Nat → Option Nat) (L : List NV) (hT : treeAt k M t9 tn gt L) (fa ta na cna : Nat) (f tt : NV) (id sz : Int32) (g : Nat → Int32) (hne : ta ≠ fa) (hF : nodeAt k M fa f) (hTt : nodeAt k M ta tt) (hnna : M na = some (.inr (2, [.int id, .int 0, .int sz, .ref cna]))) (hcna : M cna = some (.inl (k 0, 64, .inl g))) : mK l yX1_addKept wsX1_addKept ({ frames := 3, cells := 2, slots := 68, locals := 70 }) D k z [.ref fa, .ref ta, .ref na, .ref t9] M (fun v M' => ∃ q qa, M q = none ∧ M qa = none ∧ q ≠ qa ∧ v = none ∧ M' = (addM k (mu (mu M qa (.inl (k 0, 64, .inl (preF (mgC f tt 64 0 (mergedV f.2.2.1 tt.2.2.1 sz) g) 64)))) q (.inr (2, [.int id, .int 0, .int (mergedV f.2.2.1 tt.2.2.1 sz), .ref qa]))) t9 tn L.length gt q)) := by
  refine Met.ofW (cc := cX1_addKept) (maxL := 4) (ret := none) (by decide) rfl ?_
  intro p e s m args below meth c s₁ B hml hv
  obtain ⟨rfl, hz, hcx, hm⟩ := hv
  have hx := B.exec
  have hb := B.bytes
  have hr := B.returns
  have hts := atoms_spec (ws := wsX1_addKept) B.pre
  have hown : s.vm.findClass RX1 = some m.cls := findClass_of_methodNamed B.named
  have hlocks := B.notSynchronized
  have hK := hcx.1
  have hS : va_S (AZ z) s.heap s.heap [] := va_S.rf
  have hA : ∀ q, s.heap.size ≤ q → AZ z q := fun q h => Nat.le_trans hz h
  have hl := lv_entry ([.ref fa, .ref ta, .ref na, .ref t9]) (n := 4) (Nat.le_of_ble_eq_true rfl)
  rw [lg_entry_eq]
  generalize (lg_sl ([.ref fa, .ref ta, .ref na, .ref t9]) ++ List.replicate (4 - (lg_sl ([.ref fa, .ref ta, .ref na, .ref t9])).length) Slot.unset).toArray = ls at hl ⊢
  have hl : lv_has ls 4 [(0, .ref fa), (1, .ref ta), (2, .ref na), (3, .ref t9)] := hl
  refine lv_aload_n hx hb dX1_addKept_0 rfl (lv_at hl 0 rfl) ?_
  refine lv_ifnonnull (tgt := 12) hx hb dX1_addKept_1 (by decide) ?_
  refine lv_aload_n hx hb dX1_addKept_12 rfl (lv_at hl 1 rfl) ?_
  refine lv_ifnull hx hb dX1_addKept_13 ?_
  refine lv_aload_n hx hb dX1_addKept_16 rfl (lv_at hl 3 rfl) ?_
  refine lv_aload_n hx hb dX1_addKept_17 rfl (lv_at hl 0 rfl) ?_
  refine lv_aload_n hx hb dX1_addKept_18 rfl (lv_at hl 1 rfl) ?_
  refine lv_aload_n hx hb dX1_addKept_19 rfl (lv_at hl 2 rfl) ?_
  refine m_kS (As := [.ref fa, .ref ta, .ref na]) (rest := [.ref t9]) (rm := { frames := 2, cells := 2, slots := 68, locals := 40 }) ⟨hx, hb, hml, hown, hts⟩ (c_X1_mergedNode0 l D k z _ fa ta na cna f tt id sz g hne hF hTt hnna hcna) (cwS 3 hts gX1_addKept_X1_mergedNode rfl rfl rfl (by decide +kernel) ⟨Nat.le_of_ble_eq_true rfl, Nat.le_of_ble_eq_true rfl⟩) hz hcx hm hS rfl hl.1 rfl (Nat.le_of_ble_eq_true rfl) dX1_addKept_20 ⟨Nat.le_of_ble_eq_true rfl, Nat.le_of_ble_eq_true rfl⟩ (fun v M1 H locs hv hm hS => ?_)
  obtain ⟨q, qa, hq, hqa, hne9, rfl, hM1⟩ := hv
  rw [hM1] at hm
  have hT1 : treeAt k (mu (mu M qa (.inl (k 0, 64, .inl (preF (mgC f tt 64 0 (mergedV f.2.2.1 tt.2.2.1 sz) g) 64)))) q (.inr (2, [.int id, .int 0, .int (mergedV f.2.2.1 tt.2.2.1 sz), .ref qa]))) t9 tn gt L := treeAt_new (treeAt_new hT hqa) ((mu_ne hne9).trans hq)
  have hV1 : nodeAt k (mu (mu M qa (.inl (k 0, 64, .inl (preF (mgC f tt 64 0 (mergedV f.2.2.1 tt.2.2.1 sz) g) 64)))) q (.inr (2, [.int id, .int 0, .int (mergedV f.2.2.1 tt.2.2.1 sz), .ref qa]))) q (id, 0, (mergedV f.2.2.1 tt.2.2.1 sz), preF (mgC f tt 64 0 (mergedV f.2.2.1 tt.2.2.1 sz) g) 64) := nodeAt_made hne9 (id, 0, (mergedV f.2.2.1 tt.2.2.1 sz), preF (mgC f tt 64 0 (mergedV f.2.2.1 tt.2.2.1 sz) g) 64) (by first | exact Or.inl rfl | exact Or.inr rfl)
  refine W.eq (g2 := F0 m 23 ls [.ref q, .ref t9]) rfl ?_
  refine W.widen (k := 2) (n := 68) (Nat.le_of_ble_eq_true rfl) (Nat.le_of_ble_eq_true rfl) ?_
  have hm : mm D (AZ z) (mu (mu M qa (.inl (k 0, 64, .inl (preF (mgC f tt 64 0 (mergedV f.2.2.1 tt.2.2.1 sz) g) 64)))) q (.inr (2, [.int id, .int 0, .int (mergedV f.2.2.1 tt.2.2.1 sz), .ref qa]))) H := hm
  refine m_kV (As := [.ref q]) (rest := []) (rm := { frames := 0, cells := 0, slots := 0, locals := 0 }) ⟨hx, hb, hml, hown, hts⟩ (c_X4_add l D k z _ t9 tn q gt L (id, 0, (mergedV f.2.2.1 tt.2.2.1 sz), preF (mgC f tt 64 0 (mergedV f.2.2.1 tt.2.2.1 sz) g) 64) hT1 hV1) (cwV 1 hts gX1_addKept_X4_add rfl rfl rfl (by decide +kernel) ⟨Nat.le_of_ble_eq_true rfl, Nat.le_of_ble_eq_true rfl⟩) (m_recv hK hm (q := (RX4, TX4, 2)) rfl hT1.1) hz hcx hm hS rfl hl.1 rfl (Nat.le_of_ble_eq_true rfl) dX1_addKept_23 ⟨Nat.le_of_ble_eq_true rfl, Nat.le_of_ble_eq_true rfl⟩ (fun v M1 H locs hv hm hS => ?_)
  obtain ⟨rfl, hM1⟩ := hv
  rw [hM1] at hm
  refine W.eq (g2 := F0 m 26 ls []) rfl ?_
  refine W.widen (k := 2) (n := 68) (Nat.le_of_ble_eq_true rfl) (Nat.le_of_ble_eq_true rfl) ?_
  have hm : mm D (AZ z) (addM k (mu (mu M qa (.inl (k 0, 64, .inl (preF (mgC f tt 64 0 (mergedV f.2.2.1 tt.2.2.1 sz) g) 64)))) q (.inr (2, [.int id, .int 0, .int (mergedV f.2.2.1 tt.2.2.1 sz), .ref qa]))) t9 tn L.length gt q) H := hm
  refine W.vret hx hb hr (fun t ht hW => ⟨⟨none, _, rfl, ?_, by rw [ht]; exact hm⟩, hS.F ht⟩) hS.2.2 dX1_addKept_26
  exact ⟨q, qa, hq, hqa, hne9, rfl, rfl⟩
