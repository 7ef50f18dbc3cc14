set_option maxHeartbeats 4000000 in
set_option maxRecDepth 100000 in
theorem F_drop (l : Launch) (hlt : l.stackTraces = false) (D : va_G) (k : Nat → ClassId) (z : Nat) (M : mM) (o : Nat) (hF : cFr k M o) (t : Int32) : mC l yX5_drop wsX5_drop ({ frames := 7, cells := 1, slots := 6, locals := 104 }) D k z [.ref o, .int t] M (fun _ _ => False) (fun E M' => E = eIS ∧ M' = M) := by
  refine vx_ofW (cc := cX5_drop) (maxL := 3) (ret := (some .int)) (by decide) rfl ?_
  intro p e s m args below meth c s₁ B hml hnt hv
  obtain ⟨rfl, hz, hcx, hm⟩ := hv
  have hx := B.exec
  have hb := B.bytes
  have hr := B.returns
  have hts := atoms_spec (ws := wsX5_drop) B.pre
  have hown : s.vm.findClass RX5 = some m.cls := findClass_of_methodNamed B.named
  have hlocks := B.notSynchronized
  have hK := hcx.1
  have hS : va_S (AZ z) s.heap s.heap [] := va_S.rf
  have hA : ∀ q, s.heap.size ≤ q → AZ z q := fun q h => Nat.le_trans hz h
  have hl := lv_entry ([.ref o, .int t]) (n := 3) (Nat.le_of_ble_eq_true rfl)
  rw [lg_entry_eq]
  generalize (lg_sl ([.ref o, .int t]) ++ List.replicate (3 - (lg_sl ([.ref o, .int t])).length) Slot.unset).toArray = ls at hl ⊢
  have hl : lv_has ls 3 [(0, .ref o), (1, .int t)] := hl
  have f80 := hts (.fieldLink RX5 80 "CommitTree$Transaction" "open" "Z") (by decide +kernel)
  have wX3 : ∀ w ∈ wsX30, w ∈ wsX5_drop := by decide +kernel
  have hF0 := hF
  obtain ⟨tr, nx, mg, dk, ts, ou, tn, g0, gt, hO, hT, hD9, hTs, hXt, hOu⟩ := hF
  refine lv_aload_n hx hb dX5_drop_0 rfl (lv_at hl 0 rfl) ?_
  refine lv_iload_n hx hb dX5_drop_1 rfl (lv_at hl 1 rfl) ?_
  refine m_cV (As := [.int t]) (rest := []) (rm := { frames := 6, cells := 1, slots := 6, locals := 82 }) ⟨hx, hb, hml, hown, hts⟩ (F_opened l hlt D k z _ o hF0 t) (cwV 1 hts gX5_drop_X5_opened rfl rfl rfl (by decide +kernel) ⟨Nat.le_of_ble_eq_true rfl, Nat.le_of_ble_eq_true rfl⟩) (m_recv hK hm (q := (RX5, TX5, 11)) rfl hO) hz hcx hm hS rfl hl.1 rfl (Nat.le_of_ble_eq_true rfl) dX5_drop_2 ⟨Nat.le_of_ble_eq_true rfl, Nat.le_of_ble_eq_true rfl⟩ (fun E ce q9 M1 H locs hv hm hS hce hcv hcl => ?_) (fun v M1 H locs hv hm hS => ?_)
  · refine vx_out (fun x hx => (hnt x hx).elim) hlocks hce hcv hcl (fun t ht hvm => ⟨⟨_, ?_, by rw [ht]; exact hm⟩, hS.F ht⟩) hS.2.2 (Nat.le_of_ble_eq_true rfl) (Nat.le_of_ble_eq_true rfl)
    exact hv
  exact hv.elim

set_option maxHeartbeats 4000000 in
set_option maxRecDepth 100000 in
theorem F_commit (l : Launch) (hlt : l.stackTraces = false) (D : va_G) (k : Nat → ClassId) (z : Nat) (M : mM) (o : Nat) (hF : cFr k M o) (t : Int32) : mC l yX5_commit wsX5_commit ({ frames := 7, cells := 1, slots := 6, locals := 104 }) D k z [.ref o, .int t] M (fun _ _ => False) (fun E M' => E = eIS ∧ M' = M) := by
  refine vx_ofW (cc := cX5_commit) (maxL := 4) (ret := (some .int)) (by decide) rfl ?_
  intro p e s m args below meth c s₁ B hml hnt hv
  obtain ⟨rfl, hz, hcx, hm⟩ := hv
  have hx := B.exec
  have hb := B.bytes
  have hr := B.returns
  have hts := atoms_spec (ws := wsX5_commit) B.pre
  have hown : s.vm.findClass RX5 = some m.cls := findClass_of_methodNamed B.named
  have hlocks := B.notSynchronized
  have hK := hcx.1
  have hS : va_S (AZ z) s.heap s.heap [] := va_S.rf
  have hA : ∀ q, s.heap.size ≤ q → AZ z q := fun q h => Nat.le_trans hz h
  have hl := lv_entry ([.ref o, .int t]) (n := 4) (Nat.le_of_ble_eq_true rfl)
  rw [lg_entry_eq]
  generalize (lg_sl ([.ref o, .int t]) ++ List.replicate (4 - (lg_sl ([.ref o, .int t])).length) Slot.unset).toArray = ls at hl ⊢
  have hl : lv_has ls 4 [(0, .ref o), (1, .int t)] := hl
  have f10 := hts (.fieldLink RX5 10 "CommitTree" "tree" "LCommitTree$Tree;") (by decide +kernel)
  have f26 := hts (.fieldLink RX5 26 "CommitTree" "next" "LCommitTree$Tree;") (by decide +kernel)
  have f32 := hts (.fieldLink RX5 32 "CommitTree" "merge" "LCommitTree$Merge;") (by decide +kernel)
  have f60 := hts (.fieldLink RX5 60 "CommitTree" "committed" "I") (by decide +kernel)
  have f63 := hts (.fieldLink RX5 63 "CommitTree" "homeBlocks" "I") (by decide +kernel)
  have f80 := hts (.fieldLink RX5 80 "CommitTree$Transaction" "open" "Z") (by decide +kernel)
  have f103 := hts (.fieldLink RX5 103 "CommitTree$Merge" "items" "I") (by decide +kernel)
  have f106 := hts (.fieldLink RX5 106 "CommitTree$Transaction" "base" "LCommitTree$Tree;") (by decide +kernel)
  have f109 := hts (.fieldLink RX5 109 "CommitTree$Transaction" "view" "LCommitTree$Tree;") (by decide +kernel)
  have f116 := hts (.fieldLink RX5 116 "CommitTree$Merge" "home" "I") (by decide +kernel)
  have wX1 : ∀ w ∈ wsX10, w ∈ wsX5_commit := by decide +kernel
  have wX3 : ∀ w ∈ wsX30, w ∈ wsX5_commit := by decide +kernel
  have wX5 : ∀ w ∈ wsX50, w ∈ wsX5_commit := by decide +kernel
  have hF0 := hF
  obtain ⟨tr, nx, mg, dk, ts, ou, tn, g0, gt, hO, hT, hD9, hTs, hXt, hOu⟩ := hF
  refine lv_aload_n hx hb dX5_commit_0 rfl (lv_at hl 0 rfl) ?_
  refine lv_iload_n hx hb dX5_commit_1 rfl (lv_at hl 1 rfl) ?_
  refine m_cV (As := [.int t]) (rest := []) (rm := { frames := 6, cells := 1, slots := 6, locals := 82 }) ⟨hx, hb, hml, hown, hts⟩ (F_opened l hlt D k z _ o hF0 t) (cwV 1 hts gX5_commit_X5_opened rfl rfl rfl (by decide +kernel) ⟨Nat.le_of_ble_eq_true rfl, Nat.le_of_ble_eq_true rfl⟩) (m_recv hK hm (q := (RX5, TX5, 11)) rfl hO) hz hcx hm hS rfl hl.1 rfl (Nat.le_of_ble_eq_true rfl) dX5_commit_2 ⟨Nat.le_of_ble_eq_true rfl, Nat.le_of_ble_eq_true rfl⟩ (fun E ce q9 M1 H locs hv hm hS hce hcv hcl => ?_) (fun v M1 H locs hv hm hS => ?_)
  · refine vx_out (fun x hx => (hnt x hx).elim) hlocks hce hcv hcl (fun t ht hvm => ⟨⟨_, ?_, by rw [ht]; exact hm⟩, hS.F ht⟩) hS.2.2 (Nat.le_of_ble_eq_true rfl) (Nat.le_of_ble_eq_true rfl)
    exact hv
  exact hv.elim

set_option maxHeartbeats 4000000 in
set_option maxRecDepth 100000 in
theorem F_check (l : Launch) (hlt : l.stackTraces = false) (D : va_G) (k : Nat → ClassId) (z : Nat) (M : mM) (o : Nat) (hF : cFr k M o) (t : Int32) : mC l yX5_check wsX5_check ({ frames := 7, cells := 1, slots := 6, locals := 104 }) D k z [.ref o, .int t] M (fun _ _ => False) (fun E M' => E = eIS ∧ M' = M) := by
  refine vx_ofW (cc := cX5_check) (maxL := 2) (ret := (some .int)) (by decide) rfl ?_
  intro p e s m args below meth c s₁ B hml hnt hv
  obtain ⟨rfl, hz, hcx, hm⟩ := hv
  have hx := B.exec
  have hb := B.bytes
  have hr := B.returns
  have hts := atoms_spec (ws := wsX5_check) B.pre
  have hown : s.vm.findClass RX5 = some m.cls := findClass_of_methodNamed B.named
  have hlocks := B.notSynchronized
  have hK := hcx.1
  have hS : va_S (AZ z) s.heap s.heap [] := va_S.rf
  have hA : ∀ q, s.heap.size ≤ q → AZ z q := fun q h => Nat.le_trans hz h
  have hl := lv_entry ([.ref o, .int t]) (n := 2) (Nat.le_of_ble_eq_true rfl)
  rw [lg_entry_eq]
  generalize (lg_sl ([.ref o, .int t]) ++ List.replicate (2 - (lg_sl ([.ref o, .int t])).length) Slot.unset).toArray = ls at hl ⊢
  have hl : lv_has ls 2 [(0, .ref o), (1, .int t)] := hl
  have hF0 := hF
  obtain ⟨tr, nx, mg, dk, ts, ou, tn, g0, gt, hO, hT, hD9, hTs, hXt, hOu⟩ := hF
  refine lv_aload_n hx hb dX5_check_0 rfl (lv_at hl 0 rfl) ?_
  refine lv_aload_n hx hb dX5_check_1 rfl (lv_at hl 0 rfl) ?_
  refine lv_iload_n hx hb dX5_check_2 rfl (lv_at hl 1 rfl) ?_
  refine m_cV (As := [.int t]) (rest := [.ref o]) (rm := { frames := 6, cells := 1, slots := 6, locals := 82 }) ⟨hx, hb, hml, hown, hts⟩ (F_opened l hlt D k z _ o hF0 t) (cwV 1 hts gX5_check_X5_opened rfl rfl rfl (by decide +kernel) ⟨Nat.le_of_ble_eq_true rfl, Nat.le_of_ble_eq_true rfl⟩) (m_recv hK hm (q := (RX5, TX5, 11)) rfl hO) hz hcx hm hS rfl hl.1 rfl (Nat.le_of_ble_eq_true rfl) dX5_check_3 ⟨Nat.le_of_ble_eq_true rfl, Nat.le_of_ble_eq_true rfl⟩ (fun E ce q9 M1 H locs hv hm hS hce hcv hcl => ?_) (fun v M1 H locs hv hm hS => ?_)
  · refine vx_out (fun x hx => (hnt x hx).elim) hlocks hce hcv hcl (fun t ht hvm => ⟨⟨_, ?_, by rw [ht]; exact hm⟩, hS.F ht⟩) hS.2.2 (Nat.le_of_ble_eq_true rfl) (Nat.le_of_ble_eq_true rfl)
    exact hv
  exact hv.elim

set_option maxHeartbeats 4000000 in
set_option maxRecDepth 100000 in
theorem F_make (l : Launch) (hlt : l.stackTraces = false) (D : va_G) (k : Nat → ClassId) (z : Nat) (M : mM) (o : Nat) (hF : cFr k M o) (t path d9 : Int32) : mC l yX5_make wsX5_make ({ frames := 7, cells := 1, slots := 6, locals := 104 }) D k z [.ref o, .int t, .int path, .int d9] M (fun _ _ => False) (fun E M' => E = eIS ∧ M' = M) := by
  refine vx_ofW (cc := cX5_make) (maxL := 6) (ret := none) (by decide) rfl ?_
  intro p e s m args below meth c s₁ B hml hnt hv
  obtain ⟨rfl, hz, hcx, hm⟩ := hv
  have hx := B.exec
  have hb := B.bytes
  have hr := B.returns
  have hts := atoms_spec (ws := wsX5_make) B.pre
  have hown : s.vm.findClass RX5 = some m.cls := findClass_of_methodNamed B.named
  have hlocks := B.notSynchronized
  have hK := hcx.1
  have hS : va_S (AZ z) s.heap s.heap [] := va_S.rf
  have hA : ∀ q, s.heap.size ≤ q → AZ z q := fun q h => Nat.le_trans hz h
  have hl := lv_entry ([.ref o, .int t, .int path, .int d9]) (n := 6) (Nat.le_of_ble_eq_true rfl)
  rw [lg_entry_eq]
  generalize (lg_sl ([.ref o, .int t, .int path, .int d9]) ++ List.replicate (6 - (lg_sl ([.ref o, .int t, .int path, .int d9])).length) Slot.unset).toArray = ls at hl ⊢
  have hl : lv_has ls 6 [(0, .ref o), (1, .int t), (2, .int path), (3, .int d9)] := hl
  have f56 := hts (.fieldLink RX5 56 "CommitTree" "newestNode" "I") (by decide +kernel)
  have f109 := hts (.fieldLink RX5 109 "CommitTree$Transaction" "view" "LCommitTree$Tree;") (by decide +kernel)
  have f131 := hts (.fieldLink RX5 131 "CommitTree$Tree" "size" "I") (by decide +kernel)
  have f139 := hts (.fieldLink RX5 139 "CommitTree$Node" "id" "I") (by decide +kernel)
  have wX2 : ∀ w ∈ wsX20, w ∈ wsX5_make := by decide +kernel
  have wX3 : ∀ w ∈ wsX30, w ∈ wsX5_make := by decide +kernel
  have wX4 : ∀ w ∈ wsX40, w ∈ wsX5_make := by decide +kernel
  have wX5 : ∀ w ∈ wsX50, w ∈ wsX5_make := by decide +kernel
  have hF0 := hF
  obtain ⟨tr, nx, mg, dk, ts, ou, tn, g0, gt, hO, hT, hD9, hTs, hXt, hOu⟩ := hF
  refine lv_aload_n hx hb dX5_make_0 rfl (lv_at hl 0 rfl) ?_
  refine lv_iload_n hx hb dX5_make_1 rfl (lv_at hl 1 rfl) ?_
  refine m_cV (As := [.int t]) (rest := []) (rm := { frames := 6, cells := 1, slots := 6, locals := 82 }) ⟨hx, hb, hml, hown, hts⟩ (F_opened l hlt D k z _ o hF0 t) (cwV 1 hts gX5_make_X5_opened rfl rfl rfl (by decide +kernel) ⟨Nat.le_of_ble_eq_true rfl, Nat.le_of_ble_eq_true rfl⟩) (m_recv hK hm (q := (RX5, TX5, 11)) rfl hO) hz hcx hm hS rfl hl.1 rfl (Nat.le_of_ble_eq_true rfl) dX5_make_2 ⟨Nat.le_of_ble_eq_true rfl, Nat.le_of_ble_eq_true rfl⟩ (fun E ce q9 M1 H locs hv hm hS hce hcv hcl => ?_) (fun v M1 H locs hv hm hS => ?_)
  · refine vx_out (fun x hx => (hnt x hx).elim) hlocks hce hcv hcl (fun t ht hvm => ⟨⟨_, ?_, by rw [ht]; exact hm⟩, hS.F ht⟩) hS.2.2 (Nat.le_of_ble_eq_true rfl) (Nat.le_of_ble_eq_true rfl)
    exact hv
  exact hv.elim

set_option maxHeartbeats 4000000 in
set_option maxRecDepth 100000 in
theorem F_remove (l : Launch) (hlt : l.stackTraces = false) (D : va_G) (k : Nat → ClassId) (z : Nat) (M : mM) (o : Nat) (hF : cFr k M o) (t path : Int32) : mC l yX5_remove wsX5_remove ({ frames := 7, cells := 1, slots := 6, locals := 104 }) D k z [.ref o, .int t, .int path] M (fun _ _ => False) (fun E M' => E = eIS ∧ M' = M) := by
  refine vx_ofW (cc := cX5_remove) (maxL := 6) (ret := (some .boolean)) (by decide) rfl ?_
  intro p e s m args below meth c s₁ B hml hnt hv
  obtain ⟨rfl, hz, hcx, hm⟩ := hv
  have hx := B.exec
  have hb := B.bytes
  have hr := B.returns
  have hts := atoms_spec (ws := wsX5_remove) B.pre
  have hown : s.vm.findClass RX5 = some m.cls := findClass_of_methodNamed B.named
  have hlocks := B.notSynchronized
  have hK := hcx.1
  have hS : va_S (AZ z) s.heap s.heap [] := va_S.rf
  have hA : ∀ q, s.heap.size ≤ q → AZ z q := fun q h => Nat.le_trans hz h
  have hl := lv_entry ([.ref o, .int t, .int path]) (n := 6) (Nat.le_of_ble_eq_true rfl)
  rw [lg_entry_eq]
  generalize (lg_sl ([.ref o, .int t, .int path]) ++ List.replicate (6 - (lg_sl ([.ref o, .int t, .int path])).length) Slot.unset).toArray = ls at hl ⊢
  have hl : lv_has ls 6 [(0, .ref o), (1, .int t), (2, .int path)] := hl
  have f109 := hts (.fieldLink RX5 109 "CommitTree$Transaction" "view" "LCommitTree$Tree;") (by decide +kernel)
  have f139 := hts (.fieldLink RX5 139 "CommitTree$Node" "id" "I") (by decide +kernel)
  have f159 := hts (.fieldLink RX5 159 "CommitTree$Node" "directory" "Z") (by decide +kernel)
  have wX2 : ∀ w ∈ wsX20, w ∈ wsX5_remove := by decide +kernel
  have wX3 : ∀ w ∈ wsX30, w ∈ wsX5_remove := by decide +kernel
  have hF0 := hF
  obtain ⟨tr, nx, mg, dk, ts, ou, tn, g0, gt, hO, hT, hD9, hTs, hXt, hOu⟩ := hF
  refine lv_aload_n hx hb dX5_remove_0 rfl (lv_at hl 0 rfl) ?_
  refine lv_iload_n hx hb dX5_remove_1 rfl (lv_at hl 1 rfl) ?_
  refine m_cV (As := [.int t]) (rest := []) (rm := { frames := 6, cells := 1, slots := 6, locals := 82 }) ⟨hx, hb, hml, hown, hts⟩ (F_opened l hlt D k z _ o hF0 t) (cwV 1 hts gX5_remove_X5_opened rfl rfl rfl (by decide +kernel) ⟨Nat.le_of_ble_eq_true rfl, Nat.le_of_ble_eq_true rfl⟩) (m_recv hK hm (q := (RX5, TX5, 11)) rfl hO) hz hcx hm hS rfl hl.1 rfl (Nat.le_of_ble_eq_true rfl) dX5_remove_2 ⟨Nat.le_of_ble_eq_true rfl, Nat.le_of_ble_eq_true rfl⟩ (fun E ce q9 M1 H locs hv hm hS hce hcv hcl => ?_) (fun v M1 H locs hv hm hS => ?_)
  · refine vx_out (fun x hx => (hnt x hx).elim) hlocks hce hcv hcl (fun t ht hvm => ⟨⟨_, ?_, by rw [ht]; exact hm⟩, hS.F ht⟩) hS.2.2 (Nat.le_of_ble_eq_true rfl) (Nat.le_of_ble_eq_true rfl)
    exact hv
  exact hv.elim

set_option maxHeartbeats 4000000 in
set_option maxRecDepth 100000 in
theorem F_move (l : Launch) (hlt : l.stackTraces = false) (D : va_G) (k : Nat → ClassId) (z : Nat) (M : mM) (o : Nat) (hF : cFr k M o) (t pa pb : Int32) : mC l yX5_move wsX5_move ({ frames := 7, cells := 1, slots := 6, locals := 104 }) D k z [.ref o, .int t, .int pa, .int pb] M (fun _ _ => False) (fun E M' => E = eIS ∧ M' = M) := by
  refine vx_ofW (cc := cX5_move) (maxL := 8) (ret := (some .boolean)) (by decide) rfl ?_
  intro p e s m args below meth c s₁ B hml hnt hv
  obtain ⟨rfl, hz, hcx, hm⟩ := hv
  have hx := B.exec
  have hb := B.bytes
  have hr := B.returns
  have hts := atoms_spec (ws := wsX5_move) B.pre
  have hown : s.vm.findClass RX5 = some m.cls := findClass_of_methodNamed B.named
  have hlocks := B.notSynchronized
  have hK := hcx.1
  have hS : va_S (AZ z) s.heap s.heap [] := va_S.rf
  have hA : ∀ q, s.heap.size ≤ q → AZ z q := fun q h => Nat.le_trans hz h
  have hl := lv_entry ([.ref o, .int t, .int pa, .int pb]) (n := 8) (Nat.le_of_ble_eq_true rfl)
  rw [lg_entry_eq]
  generalize (lg_sl ([.ref o, .int t, .int pa, .int pb]) ++ List.replicate (8 - (lg_sl ([.ref o, .int t, .int pa, .int pb])).length) Slot.unset).toArray = ls at hl ⊢
  have hl : lv_has ls 8 [(0, .ref o), (1, .int t), (2, .int pa), (3, .int pb)] := hl
  have f109 := hts (.fieldLink RX5 109 "CommitTree$Transaction" "view" "LCommitTree$Tree;") (by decide +kernel)
  have f139 := hts (.fieldLink RX5 139 "CommitTree$Node" "id" "I") (by decide +kernel)
  have f159 := hts (.fieldLink RX5 159 "CommitTree$Node" "directory" "Z") (by decide +kernel)
  have wX2 : ∀ w ∈ wsX20, w ∈ wsX5_move := by decide +kernel
  have wX3 : ∀ w ∈ wsX30, w ∈ wsX5_move := by decide +kernel
  have hF0 := hF
  obtain ⟨tr, nx, mg, dk, ts, ou, tn, g0, gt, hO, hT, hD9, hTs, hXt, hOu⟩ := hF
  refine lv_aload_n hx hb dX5_move_0 rfl (lv_at hl 0 rfl) ?_
  refine lv_iload_n hx hb dX5_move_1 rfl (lv_at hl 1 rfl) ?_
  refine m_cV (As := [.int t]) (rest := []) (rm := { frames := 6, cells := 1, slots := 6, locals := 82 }) ⟨hx, hb, hml, hown, hts⟩ (F_opened l hlt D k z _ o hF0 t) (cwV 1 hts gX5_move_X5_opened rfl rfl rfl (by decide +kernel) ⟨Nat.le_of_ble_eq_true rfl, Nat.le_of_ble_eq_true rfl⟩) (m_recv hK hm (q := (RX5, TX5, 11)) rfl hO) hz hcx hm hS rfl hl.1 rfl (Nat.le_of_ble_eq_true rfl) dX5_move_2 ⟨Nat.le_of_ble_eq_true rfl, Nat.le_of_ble_eq_true rfl⟩ (fun E ce q9 M1 H locs hv hm hS hce hcv hcl => ?_) (fun v M1 H locs hv hm hS => ?_)
  · refine vx_out (fun x hx => (hnt x hx).elim) hlocks hce hcv hcl (fun t ht hvm => ⟨⟨_, ?_, by rw [ht]; exact hm⟩, hS.F ht⟩) hS.2.2 (Nat.le_of_ble_eq_true rfl) (Nat.le_of_ble_eq_true rfl)
    exact hv
  exact hv.elim

set_option maxHeartbeats 4000000 in
set_option maxRecDepth 100000 in
theorem F_write (l : Launch) (hlt : l.stackTraces = false) (D : va_G) (k : Nat → ClassId) (z : Nat) (M : mM) (o : Nat) (hF : cFr k M o) (t path i w : Int32) : mC l yX5_write wsX5_write ({ frames := 7, cells := 1, slots := 6, locals := 104 }) D k z [.ref o, .int t, .int path, .int i, .int w] M (fun _ _ => False) (fun E M' => E = eIS ∧ M' = M) := by
  refine vx_ofW (cc := cX5_write) (maxL := 7) (ret := (some .int)) (by decide) rfl ?_
  intro p e s m args below meth c s₁ B hml hnt hv
  obtain ⟨rfl, hz, hcx, hm⟩ := hv
  have hx := B.exec
  have hb := B.bytes
  have hr := B.returns
  have hts := atoms_spec (ws := wsX5_write) B.pre
  have hown : s.vm.findClass RX5 = some m.cls := findClass_of_methodNamed B.named
  have hlocks := B.notSynchronized
  have hK := hcx.1
  have hS : va_S (AZ z) s.heap s.heap [] := va_S.rf
  have hA : ∀ q, s.heap.size ≤ q → AZ z q := fun q h => Nat.le_trans hz h
  have hl := lv_entry ([.ref o, .int t, .int path, .int i, .int w]) (n := 7) (Nat.le_of_ble_eq_true rfl)
  rw [lg_entry_eq]
  generalize (lg_sl ([.ref o, .int t, .int path, .int i, .int w]) ++ List.replicate (7 - (lg_sl ([.ref o, .int t, .int path, .int i, .int w])).length) Slot.unset).toArray = ls at hl ⊢
  have hl : lv_has ls 7 [(0, .ref o), (1, .int t), (2, .int path), (3, .int i), (4, .int w)] := hl
  have f109 := hts (.fieldLink RX5 109 "CommitTree$Transaction" "view" "LCommitTree$Tree;") (by decide +kernel)
  have f189 := hts (.fieldLink RX5 189 "CommitTree$Node" "size" "I") (by decide +kernel)
  have wX2 : ∀ w ∈ wsX20, w ∈ wsX5_write := by decide +kernel
  have wX3 : ∀ w ∈ wsX30, w ∈ wsX5_write := by decide +kernel
  have hF0 := hF
  obtain ⟨tr, nx, mg, dk, ts, ou, tn, g0, gt, hO, hT, hD9, hTs, hXt, hOu⟩ := hF
  refine lv_aload_n hx hb dX5_write_0 rfl (lv_at hl 0 rfl) ?_
  refine lv_iload_n hx hb dX5_write_1 rfl (lv_at hl 1 rfl) ?_
  refine m_cV (As := [.int t]) (rest := []) (rm := { frames := 6, cells := 1, slots := 6, locals := 82 }) ⟨hx, hb, hml, hown, hts⟩ (F_opened l hlt D k z _ o hF0 t) (cwV 1 hts gX5_write_X5_opened rfl rfl rfl (by decide +kernel) ⟨Nat.le_of_ble_eq_true rfl, Nat.le_of_ble_eq_true rfl⟩) (m_recv hK hm (q := (RX5, TX5, 11)) rfl hO) hz hcx hm hS rfl hl.1 rfl (Nat.le_of_ble_eq_true rfl) dX5_write_2 ⟨Nat.le_of_ble_eq_true rfl, Nat.le_of_ble_eq_true rfl⟩ (fun E ce q9 M1 H locs hv hm hS hce hcv hcl => ?_) (fun v M1 H locs hv hm hS => ?_)
  · refine vx_out (fun x hx => (hnt x hx).elim) hlocks hce hcv hcl (fun t ht hvm => ⟨⟨_, ?_, by rw [ht]; exact hm⟩, hS.F ht⟩) hS.2.2 (Nat.le_of_ble_eq_true rfl) (Nat.le_of_ble_eq_true rfl)
    exact hv
  exact hv.elim

set_option maxHeartbeats 4000000 in
set_option maxRecDepth 100000 in
theorem F_append (l : Launch) (hlt : l.stackTraces = false) (D : va_G) (k : Nat → ClassId) (z : Nat) (M : mM) (o : Nat) (hF : cFr k M o) (t path w : Int32) : mC l yX5_append wsX5_append ({ frames := 7, cells := 1, slots := 6, locals := 104 }) D k z [.ref o, .int t, .int path, .int w] M (fun _ _ => False) (fun E M' => E = eIS ∧ M' = M) := by
  refine vx_ofW (cc := cX5_append) (maxL := 6) (ret := (some .int)) (by decide) rfl ?_
  intro p e s m args below meth c s₁ B hml hnt hv
  obtain ⟨rfl, hz, hcx, hm⟩ := hv
  have hx := B.exec
  have hb := B.bytes
  have hr := B.returns
  have hts := atoms_spec (ws := wsX5_append) B.pre
  have hown : s.vm.findClass RX5 = some m.cls := findClass_of_methodNamed B.named
  have hlocks := B.notSynchronized
  have hK := hcx.1
  have hS : va_S (AZ z) s.heap s.heap [] := va_S.rf
  have hA : ∀ q, s.heap.size ≤ q → AZ z q := fun q h => Nat.le_trans hz h
  have hl := lv_entry ([.ref o, .int t, .int path, .int w]) (n := 6) (Nat.le_of_ble_eq_true rfl)
  rw [lg_entry_eq]
  generalize (lg_sl ([.ref o, .int t, .int path, .int w]) ++ List.replicate (6 - (lg_sl ([.ref o, .int t, .int path, .int w])).length) Slot.unset).toArray = ls at hl ⊢
  have hl : lv_has ls 6 [(0, .ref o), (1, .int t), (2, .int path), (3, .int w)] := hl
  have f109 := hts (.fieldLink RX5 109 "CommitTree$Transaction" "view" "LCommitTree$Tree;") (by decide +kernel)
  have f189 := hts (.fieldLink RX5 189 "CommitTree$Node" "size" "I") (by decide +kernel)
  have wX2 : ∀ w ∈ wsX20, w ∈ wsX5_append := by decide +kernel
  have wX3 : ∀ w ∈ wsX30, w ∈ wsX5_append := by decide +kernel
  have hF0 := hF
  obtain ⟨tr, nx, mg, dk, ts, ou, tn, g0, gt, hO, hT, hD9, hTs, hXt, hOu⟩ := hF
  refine lv_aload_n hx hb dX5_append_0 rfl (lv_at hl 0 rfl) ?_
  refine lv_iload_n hx hb dX5_append_1 rfl (lv_at hl 1 rfl) ?_
  refine m_cV (As := [.int t]) (rest := []) (rm := { frames := 6, cells := 1, slots := 6, locals := 82 }) ⟨hx, hb, hml, hown, hts⟩ (F_opened l hlt D k z _ o hF0 t) (cwV 1 hts gX5_append_X5_opened rfl rfl rfl (by decide +kernel) ⟨Nat.le_of_ble_eq_true rfl, Nat.le_of_ble_eq_true rfl⟩) (m_recv hK hm (q := (RX5, TX5, 11)) rfl hO) hz hcx hm hS rfl hl.1 rfl (Nat.le_of_ble_eq_true rfl) dX5_append_2 ⟨Nat.le_of_ble_eq_true rfl, Nat.le_of_ble_eq_true rfl⟩ (fun E ce q9 M1 H locs hv hm hS hce hcv hcl => ?_) (fun v M1 H locs hv hm hS => ?_)
  · refine vx_out (fun x hx => (hnt x hx).elim) hlocks hce hcv hcl (fun t ht hvm => ⟨⟨_, ?_, by rw [ht]; exact hm⟩, hS.F ht⟩) hS.2.2 (Nat.le_of_ble_eq_true rfl) (Nat.le_of_ble_eq_true rfl)
    exact hv
  exact hv.elim

set_option maxHeartbeats 4000000 in
set_option maxRecDepth 100000 in
theorem F_cut (l : Launch) (hlt : l.stackTraces = false) (D : va_G) (k : Nat → ClassId) (z : Nat) (M : mM) (o : Nat) (hF : cFr k M o) (t path n : Int32) : mC l yX5_cut wsX5_cut ({ frames := 7, cells := 1, slots := 6, locals := 104 }) D k z [.ref o, .int t, .int path, .int n] M (fun _ _ => False) (fun E M' => E = eIS ∧ M' = M) := by
  refine vx_ofW (cc := cX5_cut) (maxL := 6) (ret := (some .int)) (by decide) rfl ?_
  intro p e s m args below meth c s₁ B hml hnt hv
  obtain ⟨rfl, hz, hcx, hm⟩ := hv
  have hx := B.exec
  have hb := B.bytes
  have hr := B.returns
  have hts := atoms_spec (ws := wsX5_cut) B.pre
  have hown : s.vm.findClass RX5 = some m.cls := findClass_of_methodNamed B.named
  have hlocks := B.notSynchronized
  have hK := hcx.1
  have hS : va_S (AZ z) s.heap s.heap [] := va_S.rf
  have hA : ∀ q, s.heap.size ≤ q → AZ z q := fun q h => Nat.le_trans hz h
  have hl := lv_entry ([.ref o, .int t, .int path, .int n]) (n := 6) (Nat.le_of_ble_eq_true rfl)
  rw [lg_entry_eq]
  generalize (lg_sl ([.ref o, .int t, .int path, .int n]) ++ List.replicate (6 - (lg_sl ([.ref o, .int t, .int path, .int n])).length) Slot.unset).toArray = ls at hl ⊢
  have hl : lv_has ls 6 [(0, .ref o), (1, .int t), (2, .int path), (3, .int n)] := hl
  have f109 := hts (.fieldLink RX5 109 "CommitTree$Transaction" "view" "LCommitTree$Tree;") (by decide +kernel)
  have f189 := hts (.fieldLink RX5 189 "CommitTree$Node" "size" "I") (by decide +kernel)
  have wX2 : ∀ w ∈ wsX20, w ∈ wsX5_cut := by decide +kernel
  have wX3 : ∀ w ∈ wsX30, w ∈ wsX5_cut := by decide +kernel
  have hF0 := hF
  obtain ⟨tr, nx, mg, dk, ts, ou, tn, g0, gt, hO, hT, hD9, hTs, hXt, hOu⟩ := hF
  refine lv_aload_n hx hb dX5_cut_0 rfl (lv_at hl 0 rfl) ?_
  refine lv_iload_n hx hb dX5_cut_1 rfl (lv_at hl 1 rfl) ?_
  refine m_cV (As := [.int t]) (rest := []) (rm := { frames := 6, cells := 1, slots := 6, locals := 82 }) ⟨hx, hb, hml, hown, hts⟩ (F_opened l hlt D k z _ o hF0 t) (cwV 1 hts gX5_cut_X5_opened rfl rfl rfl (by decide +kernel) ⟨Nat.le_of_ble_eq_true rfl, Nat.le_of_ble_eq_true rfl⟩) (m_recv hK hm (q := (RX5, TX5, 11)) rfl hO) hz hcx hm hS rfl hl.1 rfl (Nat.le_of_ble_eq_true rfl) dX5_cut_2 ⟨Nat.le_of_ble_eq_true rfl, Nat.le_of_ble_eq_true rfl⟩ (fun E ce q9 M1 H locs hv hm hS hce hcv hcl => ?_) (fun v M1 H locs hv hm hS => ?_)
  · refine vx_out (fun x hx => (hnt x hx).elim) hlocks hce hcv hcl (fun t ht hvm => ⟨⟨_, ?_, by rw [ht]; exact hm⟩, hS.F ht⟩) hS.2.2 (Nat.le_of_ble_eq_true rfl) (Nat.le_of_ble_eq_true rfl)
    exact hv
  exact hv.elim

set_option maxHeartbeats 4000000 in
set_option maxRecDepth 100000 in
theorem F_mark (l : Launch) (hlt : l.stackTraces = false) (D : va_G) (k : Nat → ClassId) (z : Nat) (M : mM) (o : Nat) (hF : cFr k M o) (t : Int32) : mC l yX5_mark wsX5_mark ({ frames := 7, cells := 1, slots := 6, locals := 104 }) D k z [.ref o, .int t] M (fun _ _ => False) (fun E M' => E = eIS ∧ M' = M) := by
  refine vx_ofW (cc := cX5_mark) (maxL := 3) (ret := (some .int)) (by decide) rfl ?_
  intro p e s m args below meth c s₁ B hml hnt hv
  obtain ⟨rfl, hz, hcx, hm⟩ := hv
  have hx := B.exec
  have hb := B.bytes
  have hr := B.returns
  have hts := atoms_spec (ws := wsX5_mark) B.pre
  have hown : s.vm.findClass RX5 = some m.cls := findClass_of_methodNamed B.named
  have hlocks := B.notSynchronized
  have hK := hcx.1
  have hS : va_S (AZ z) s.heap s.heap [] := va_S.rf
  have hA : ∀ q, s.heap.size ≤ q → AZ z q := fun q h => Nat.le_trans hz h
  have hl := lv_entry ([.ref o, .int t]) (n := 3) (Nat.le_of_ble_eq_true rfl)
  rw [lg_entry_eq]
  generalize (lg_sl ([.ref o, .int t]) ++ List.replicate (3 - (lg_sl ([.ref o, .int t])).length) Slot.unset).toArray = ls at hl ⊢
  have hl : lv_has ls 3 [(0, .ref o), (1, .int t)] := hl
  have f227 := hts (.fieldLink RX5 227 "CommitTree$Transaction" "marked" "I") (by decide +kernel)
  have wX3 : ∀ w ∈ wsX30, w ∈ wsX5_mark := by decide +kernel
  have hF0 := hF
  obtain ⟨tr, nx, mg, dk, ts, ou, tn, g0, gt, hO, hT, hD9, hTs, hXt, hOu⟩ := hF
  refine lv_aload_n hx hb dX5_mark_0 rfl (lv_at hl 0 rfl) ?_
  refine lv_iload_n hx hb dX5_mark_1 rfl (lv_at hl 1 rfl) ?_
  refine m_cV (As := [.int t]) (rest := []) (rm := { frames := 6, cells := 1, slots := 6, locals := 82 }) ⟨hx, hb, hml, hown, hts⟩ (F_opened l hlt D k z _ o hF0 t) (cwV 1 hts gX5_mark_X5_opened rfl rfl rfl (by decide +kernel) ⟨Nat.le_of_ble_eq_true rfl, Nat.le_of_ble_eq_true rfl⟩) (m_recv hK hm (q := (RX5, TX5, 11)) rfl hO) hz hcx hm hS rfl hl.1 rfl (Nat.le_of_ble_eq_true rfl) dX5_mark_2 ⟨Nat.le_of_ble_eq_true rfl, Nat.le_of_ble_eq_true rfl⟩ (fun E ce q9 M1 H locs hv hm hS hce hcv hcl => ?_) (fun v M1 H locs hv hm hS => ?_)
  · refine vx_out (fun x hx => (hnt x hx).elim) hlocks hce hcv hcl (fun t ht hvm => ⟨⟨_, ?_, by rw [ht]; exact hm⟩, hS.F ht⟩) hS.2.2 (Nat.le_of_ble_eq_true rfl) (Nat.le_of_ble_eq_true rfl)
    exact hv
  exact hv.elim

set_option maxHeartbeats 4000000 in
set_option maxRecDepth 100000 in
theorem F_back (l : Launch) (hlt : l.stackTraces = false) (D : va_G) (k : Nat → ClassId) (z : Nat) (M : mM) (o : Nat) (hF : cFr k M o) (t : Int32) : mC l yX5_back wsX5_back ({ frames := 7, cells := 1, slots := 6, locals := 104 }) D k z [.ref o, .int t] M (fun _ _ => False) (fun E M' => E = eIS ∧ M' = M) := by
  refine vx_ofW (cc := cX5_back) (maxL := 3) (ret := (some .int)) (by decide) rfl ?_
  intro p e s m args below meth c s₁ B hml hnt hv
  obtain ⟨rfl, hz, hcx, hm⟩ := hv
  have hx := B.exec
  have hb := B.bytes
  have hr := B.returns
  have hts := atoms_spec (ws := wsX5_back) B.pre
  have hown : s.vm.findClass RX5 = some m.cls := findClass_of_methodNamed B.named
  have hlocks := B.notSynchronized
  have hK := hcx.1
  have hS : va_S (AZ z) s.heap s.heap [] := va_S.rf
  have hA : ∀ q, s.heap.size ≤ q → AZ z q := fun q h => Nat.le_trans hz h
  have hl := lv_entry ([.ref o, .int t]) (n := 3) (Nat.le_of_ble_eq_true rfl)
  rw [lg_entry_eq]
  generalize (lg_sl ([.ref o, .int t]) ++ List.replicate (3 - (lg_sl ([.ref o, .int t])).length) Slot.unset).toArray = ls at hl ⊢
  have hl : lv_has ls 3 [(0, .ref o), (1, .int t)] := hl
  have f227 := hts (.fieldLink RX5 227 "CommitTree$Transaction" "marked" "I") (by decide +kernel)
  have wX3 : ∀ w ∈ wsX30, w ∈ wsX5_back := by decide +kernel
  have hF0 := hF
  obtain ⟨tr, nx, mg, dk, ts, ou, tn, g0, gt, hO, hT, hD9, hTs, hXt, hOu⟩ := hF
  refine lv_aload_n hx hb dX5_back_0 rfl (lv_at hl 0 rfl) ?_
  refine lv_iload_n hx hb dX5_back_1 rfl (lv_at hl 1 rfl) ?_
  refine m_cV (As := [.int t]) (rest := []) (rm := { frames := 6, cells := 1, slots := 6, locals := 82 }) ⟨hx, hb, hml, hown, hts⟩ (F_opened l hlt D k z _ o hF0 t) (cwV 1 hts gX5_back_X5_opened rfl rfl rfl (by decide +kernel) ⟨Nat.le_of_ble_eq_true rfl, Nat.le_of_ble_eq_true rfl⟩) (m_recv hK hm (q := (RX5, TX5, 11)) rfl hO) hz hcx hm hS rfl hl.1 rfl (Nat.le_of_ble_eq_true rfl) dX5_back_2 ⟨Nat.le_of_ble_eq_true rfl, Nat.le_of_ble_eq_true rfl⟩ (fun E ce q9 M1 H locs hv hm hS hce hcv hcl => ?_) (fun v M1 H locs hv hm hS => ?_)
  · refine vx_out (fun x hx => (hnt x hx).elim) hlocks hce hcv hcl (fun t ht hvm => ⟨⟨_, ?_, by rw [ht]; exact hm⟩, hS.F ht⟩) hS.2.2 (Nat.le_of_ble_eq_true rfl) (Nat.le_of_ble_eq_true rfl)
    exact hv
  exact hv.elim

set_option maxHeartbeats 4000000 in
set_option maxRecDepth 100000 in
theorem F_about (l : Launch) (hlt : l.stackTraces = false) (D : va_G) (k : Nat → ClassId) (z : Nat) (M : mM) (o : Nat) (hF : cFr k M o) (t w : Int32) : mC l yX5_about wsX5_about ({ frames := 7, cells := 1, slots := 6, locals := 104 }) D k z [.ref o, .int t, .int w] M (fun _ _ => False) (fun E M' => E = eIS ∧ M' = M) := by
  refine vx_ofW (cc := cX5_about) (maxL := 4) (ret := (some .int)) (by decide) rfl ?_
  intro p e s m args below meth c s₁ B hml hnt hv
  obtain ⟨rfl, hz, hcx, hm⟩ := hv
  have hx := B.exec
  have hb := B.bytes
  have hr := B.returns
  have hts := atoms_spec (ws := wsX5_about) B.pre
  have hown : s.vm.findClass RX5 = some m.cls := findClass_of_methodNamed B.named
  have hlocks := B.notSynchronized
  have hK := hcx.1
  have hS : va_S (AZ z) s.heap s.heap [] := va_S.rf
  have hA : ∀ q, s.heap.size ≤ q → AZ z q := fun q h => Nat.le_trans hz h
  have hl := lv_entry ([.ref o, .int t, .int w]) (n := 4) (Nat.le_of_ble_eq_true rfl)
  rw [lg_entry_eq]
  generalize (lg_sl ([.ref o, .int t, .int w]) ++ List.replicate (4 - (lg_sl ([.ref o, .int t, .int w])).length) Slot.unset).toArray = ls at hl ⊢
  have hl : lv_has ls 4 [(0, .ref o), (1, .int t), (2, .int w)] := hl
  have f32 := hts (.fieldLink RX5 32 "CommitTree" "merge" "LCommitTree$Merge;") (by decide +kernel)
  have f103 := hts (.fieldLink RX5 103 "CommitTree$Merge" "items" "I") (by decide +kernel)
  have f106 := hts (.fieldLink RX5 106 "CommitTree$Transaction" "base" "LCommitTree$Tree;") (by decide +kernel)
  have f109 := hts (.fieldLink RX5 109 "CommitTree$Transaction" "view" "LCommitTree$Tree;") (by decide +kernel)
  have f131 := hts (.fieldLink RX5 131 "CommitTree$Tree" "size" "I") (by decide +kernel)
  have f227 := hts (.fieldLink RX5 227 "CommitTree$Transaction" "marked" "I") (by decide +kernel)
  have wX1 : ∀ w ∈ wsX10, w ∈ wsX5_about := by decide +kernel
  have wX3 : ∀ w ∈ wsX30, w ∈ wsX5_about := by decide +kernel
  have wX4 : ∀ w ∈ wsX40, w ∈ wsX5_about := by decide +kernel
  have wX5 : ∀ w ∈ wsX50, w ∈ wsX5_about := by decide +kernel
  have hF0 := hF
  obtain ⟨tr, nx, mg, dk, ts, ou, tn, g0, gt, hO, hT, hD9, hTs, hXt, hOu⟩ := hF
  refine lv_aload_n hx hb dX5_about_0 rfl (lv_at hl 0 rfl) ?_
  refine lv_iload_n hx hb dX5_about_1 rfl (lv_at hl 1 rfl) ?_
  refine m_cV (As := [.int t]) (rest := []) (rm := { frames := 6, cells := 1, slots := 6, locals := 82 }) ⟨hx, hb, hml, hown, hts⟩ (F_opened l hlt D k z _ o hF0 t) (cwV 1 hts gX5_about_X5_opened rfl rfl rfl (by decide +kernel) ⟨Nat.le_of_ble_eq_true rfl, Nat.le_of_ble_eq_true rfl⟩) (m_recv hK hm (q := (RX5, TX5, 11)) rfl hO) hz hcx hm hS rfl hl.1 rfl (Nat.le_of_ble_eq_true rfl) dX5_about_2 ⟨Nat.le_of_ble_eq_true rfl, Nat.le_of_ble_eq_true rfl⟩ (fun E ce q9 M1 H locs hv hm hS hce hcv hcl => ?_) (fun v M1 H locs hv hm hS => ?_)
  · refine vx_out (fun x hx => (hnt x hx).elim) hlocks hce hcv hcl (fun t ht hvm => ⟨⟨_, ?_, by rw [ht]; exact hm⟩, hS.F ht⟩) hS.2.2 (Nat.le_of_ble_eq_true rfl) (Nat.le_of_ble_eq_true rfl)
    exact hv
  exact hv.elim

set_option maxHeartbeats 4000000 in
set_option maxRecDepth 100000 in
theorem F_recover (l : Launch) (hlt : l.stackTraces = false) (D : va_G) (k : Nat → ClassId) (z : Nat) (M : mM) (o : Nat) (hF : cFr k M o) : mC l yX5_recover wsX5_recover ({ frames := 6, cells := 1, slots := 6, locals := 82 }) D k z [.ref o] M (fun _ _ => False) (fun E M' => E = eIS ∧ M' = M) := by
  refine vx_ofW (cc := cX5_recover) (maxL := 1) (ret := (some .int)) (by decide) rfl ?_
  intro p e s m args below meth c s₁ B hml hnt hv
  obtain ⟨rfl, hz, hcx, hm⟩ := hv
  have hx := B.exec
  have hb := B.bytes
  have hr := B.returns
  have hts := atoms_spec (ws := wsX5_recover) B.pre
  have hown : s.vm.findClass RX5 = some m.cls := findClass_of_methodNamed B.named
  have hlocks := B.notSynchronized
  have hK := hcx.1
  have hS : va_S (AZ z) s.heap s.heap [] := va_S.rf
  have hA : ∀ q, s.heap.size ≤ q → AZ z q := fun q h => Nat.le_trans hz h
  have hl := lv_entry ([.ref o]) (n := 1) (Nat.le_of_ble_eq_true rfl)
  rw [lg_entry_eq]
  generalize (lg_sl ([.ref o]) ++ List.replicate (1 - (lg_sl ([.ref o])).length) Slot.unset).toArray = ls at hl ⊢
  have hl : lv_has ls 1 [(0, .ref o)] := hl
  have f63 := hts (.fieldLink RX5 63 "CommitTree" "homeBlocks" "I") (by decide +kernel)
  have f66 := hts (.fieldLink RX5 66 "CommitTree" "down" "Z") (by decide +kernel)
  have f70 := hts (.fieldLink RX5 70 "CommitTree" "recordCounts" "Z") (by decide +kernel)
  have wX5 : ∀ w ∈ wsX50, w ∈ wsX5_recover := by decide +kernel
  obtain ⟨tr, nx, mg, dk, ts, ou, tn, g0, gt, hO, hT, hD9, hTs, hXt, hOu⟩ := hF
  refine lv_aload_n hx hb dX5_recover_0 rfl (lv_at hl 0 rfl) ?_
  refine m_get (T := TX5) (N := 11) (ci := 5) (v := .int 0) hx hb hts wX5 hown hK hm hO rfl 9 (by decide) f66 (fun _ h9 => h9) rfl dX5_recover_1 ?_
  refine lv_if_ne (tgt := 17) hx hb dX5_recover_4 (by decide) (fun c1 => ?_) (fun c1 => ?_)
  · first | exact absurd c1 (by decide) | exact absurd (by decide) c1
  · obtain ⟨sa, hsa⟩ := hcx.2.2.1 (246, "all is not down") (by decide)
    refine vx_throwS (own := RX5) (cls := "java/lang/IllegalStateException") (text := "all is not down") (names := ["java/lang/RuntimeException", "java/lang/Exception"]) (ik := 73) (is := 246) (ic := 77) (A := AZ z) hx hb hlt hown (by decide) (by decide) (hts (.classLink RX5 73 "java/lang/IllegalStateException") (by decide +kernel)) (hts (.initialized "java/lang/IllegalStateException") (by decide +kernel)) hsa (vx_hat (B := DW) (fun w h => hts w (List.mem_cons_of_mem _ (List.mem_append_right _ h))) (by decide +kernel) (hcx.dw _)) (by decide +kernel) hcx.2.1.1 hcx.2.1.2 hS (hl.1.trans hml.symm) dX5_recover_7 dX5_recover_10 dX5_recover_11 dX5_recover_13 dX5_recover_16 (fun x hx => (hnt x hx).elim) (Nat.le_of_ble_eq_true rfl) (Nat.le_of_ble_eq_true rfl) (Nat.le_of_ble_eq_true rfl) (Nat.le_of_ble_eq_true rfl) hlocks (fun t hvm hz1 hq => ⟨⟨_, ?_, hm.kept hq⟩, ⟨Nat.le_trans hS.1 hz1, fun q h1 h2 => (hq q (Nat.lt_of_lt_of_le h1 hS.1)).trans (hS.2.1 q h1 h2)⟩⟩) hS.2.2 (Nat.le_of_ble_eq_true rfl) (Nat.le_of_ble_eq_true rfl)
    exact ⟨rfl, rfl⟩

set_option maxHeartbeats 4000000 in
set_option maxRecDepth 100000 in
theorem F_count (l : Launch) (hlt : l.stackTraces = false) (D : va_G) (k : Nat → ClassId) (z : Nat) (M : mM) (o : Nat) (hF : cFr k M o) (w : Int32) : mC l yX5_count wsX5_count ({ frames := 6, cells := 1, slots := 6, locals := 82 }) D k z [.ref o, .int w] M (fun v M' => ((w.toInt = 0 ∧ v = some (.int 0)) ∨ (w.toInt = 1 ∧ v = some (.int 1)) ∨ (w.toInt = 2 ∧ v = some (.int 1)) ∨ (w.toInt = 3 ∧ v = some (.int 0)) ∨ (w.toInt = 4 ∧ v = some (.int 0)) ∨ (w.toInt = 5 ∧ v = some (.int 0))) ∧ M' = M) (fun E M' => (w.toInt < 0 ∨ 5 < w.toInt) ∧ E = eIA ∧ M' = M) := by
  refine vx_ofW (cc := cX5_count) (maxL := 2) (ret := (some .int)) (by decide) rfl ?_
  intro p e s m args below meth c s₁ B hml hnt hv
  obtain ⟨rfl, hz, hcx, hm⟩ := hv
  have hx := B.exec
  have hb := B.bytes
  have hr := B.returns
  have hts := atoms_spec (ws := wsX5_count) B.pre
  have hown : s.vm.findClass RX5 = some m.cls := findClass_of_methodNamed B.named
  have hlocks := B.notSynchronized
  have hK := hcx.1
  have hS : va_S (AZ z) s.heap s.heap [] := va_S.rf
  have hA : ∀ q, s.heap.size ≤ q → AZ z q := fun q h => Nat.le_trans hz h
  have hl := lv_entry ([.ref o, .int w]) (n := 2) (Nat.le_of_ble_eq_true rfl)
  rw [lg_entry_eq]
  generalize (lg_sl ([.ref o, .int w]) ++ List.replicate (2 - (lg_sl ([.ref o, .int w])).length) Slot.unset).toArray = ls at hl ⊢
  have hl : lv_has ls 2 [(0, .ref o), (1, .int w)] := hl
  have f10 := hts (.fieldLink RX5 10 "CommitTree" "tree" "LCommitTree$Tree;") (by decide +kernel)
  have f39 := hts (.fieldLink RX5 39 "CommitTree" "disk" "LCommitTree$Disk;") (by decide +kernel)
  have f60 := hts (.fieldLink RX5 60 "CommitTree" "committed" "I") (by decide +kernel)
  have f66 := hts (.fieldLink RX5 66 "CommitTree" "down" "Z") (by decide +kernel)
  have f131 := hts (.fieldLink RX5 131 "CommitTree$Tree" "size" "I") (by decide +kernel)
  have f257 := hts (.fieldLink RX5 257 "CommitTree$Disk" "written" "I") (by decide +kernel)
  have wX0 : ∀ w ∈ wsX00, w ∈ wsX5_count := by decide +kernel
  have wX4 : ∀ w ∈ wsX40, w ∈ wsX5_count := by decide +kernel
  have wX5 : ∀ w ∈ wsX50, w ∈ wsX5_count := by decide +kernel
  obtain ⟨tr, nx, mg, dk, ts, ou, tn, g0, gt, hO, hT, hD9, hTs, hXt, hOu⟩ := hF
  obtain ⟨xa, xb, xv, xm, xc, xr, hG, hXs⟩ := cFr_xs hXt
  refine lv_iload_n hx hb dX5_count_0 rfl (lv_at hl 1 rfl) ?_
  rcases (show ((w).toInt < 0 ∨ 5 < (w).toInt) ∨ (w).toInt = 0 ∨ (w).toInt = 1 ∨ (w).toInt = 2 ∨ (w).toInt = 3 ∨ (w).toInt = 4 ∨ (w).toInt = 5 by omega) with c1 | c1 | c1 | c1 | c1 | c1 | c1
  · refine lv_tableOut (tgt := 87) hx hb dX5_count_1 c1 (by decide) ?_
    obtain ⟨sa, hsa⟩ := hcx.2.2.1 (239, "no such what") (by decide)
    refine vx_throwS (own := RX5) (cls := "java/lang/IllegalArgumentException") (text := "no such what") (names := ["java/lang/RuntimeException", "java/lang/Exception"]) (ik := 175) (is := 239) (ic := 179) (A := AZ z) hx hb hlt hown (by decide) (by decide) (hts (.classLink RX5 175 "java/lang/IllegalArgumentException") (by decide +kernel)) (hts (.initialized "java/lang/IllegalArgumentException") (by decide +kernel)) hsa (vx_hat (B := DW) (fun w h => hts w (List.mem_cons_of_mem _ (List.mem_append_right _ h))) (by decide +kernel) (hcx.dw _)) (by decide +kernel) hcx.2.1.1 hcx.2.1.2 hS (hl.1.trans hml.symm) dX5_count_87 dX5_count_90 dX5_count_91 dX5_count_93 dX5_count_96 (fun x hx => (hnt x hx).elim) (Nat.le_of_ble_eq_true rfl) (Nat.le_of_ble_eq_true rfl) (Nat.le_of_ble_eq_true rfl) (Nat.le_of_ble_eq_true rfl) hlocks (fun t hvm hz1 hq => ⟨⟨_, ?_, hm.kept hq⟩, ⟨Nat.le_trans hS.1 hz1, fun q h1 h2 => (hq q (Nat.lt_of_lt_of_le h1 hS.1)).trans (hS.2.1 q h1 h2)⟩⟩) hS.2.2 (Nat.le_of_ble_eq_true rfl) (Nat.le_of_ble_eq_true rfl)
    exact ⟨c1, rfl, rfl⟩
  · refine lv_tableIn (off := 39) (tgt := 40) hx hb dX5_count_1 (by omega) (by omega) (by rw [c1]; rfl) (by decide) ?_
    refine lv_aload_n hx hb dX5_count_40 rfl (lv_at hl 0 rfl) ?_
    refine m_get (T := TX5) (N := 11) (ci := 5) (v := .int 0) hx hb hts wX5 hown hK hm hO rfl 7 (by decide) f60 (fun _ h9 => h9) rfl dX5_count_41 ?_
    refine W.widen (k := 1) (n := 6) (by omega) (by omega) ?_
    refine vx_ret ?_
    refine W.iret (v := 0) hx hb hr (fun t ht hW => ⟨⟨some (.int 0), _, rfl, ?_, by rw [ht]; exact hm⟩, hS.F ht⟩) hS.2.2 dX5_count_44
    exact ⟨Or.inl ⟨c1, rfl⟩, rfl⟩
  · refine lv_tableIn (off := 44) (tgt := 45) hx hb dX5_count_1 (by omega) (by omega) (by rw [c1]; rfl) (by decide) ?_
    refine lv_aload_n hx hb dX5_count_45 rfl (lv_at hl 0 rfl) ?_
    refine m_get (T := TX5) (N := 11) (ci := 5) (v := .ref tr) hx hb hts wX5 hown hK hm hO rfl 0 (by decide) f10 (fun _ h9 => h9) rfl dX5_count_46 ?_
    refine m_get (T := TX4) (N := 2) (ci := 4) (v := .int (nI [rootV].length)) hx hb hts wX4 hown hK hm hT.1 rfl 1 (by decide) f131 (fun _ h9 => h9) rfl dX5_count_49 ?_
    refine W.widen (k := 1) (n := 6) (by omega) (by omega) ?_
    refine vx_ret ?_
    refine W.iret (v := (nI [rootV].length)) hx hb hr (fun t ht hW => ⟨⟨some (.int (nI [rootV].length)), _, rfl, ?_, by rw [ht]; exact hm⟩, hS.F ht⟩) hS.2.2 dX5_count_52
    exact ⟨Or.inr (Or.inl ⟨c1, rfl⟩), rfl⟩
  · refine lv_tableIn (off := 52) (tgt := 53) hx hb dX5_count_1 (by omega) (by omega) (by rw [c1]; rfl) (by decide) ?_
    refine lv_aload_n hx hb dX5_count_53 rfl (lv_at hl 0 rfl) ?_
    refine m_get (T := TX5) (N := 11) (ci := 5) (v := .ref tr) hx hb hts wX5 hown hK hm hO rfl 0 (by decide) f10 (fun _ h9 => h9) rfl dX5_count_54 ?_
    refine m_kV (As := []) (rest := []) (rm := { frames := 2, cells := 0, slots := 0, locals := 44 }) ⟨hx, hb, hml, hown, hts⟩ (c_X4_blocks l D k z _ tr tn g0 [rootV] hT) (cwV 0 hts gX5_count_X4_blocks rfl rfl rfl (by decide +kernel) ⟨Nat.le_of_ble_eq_true rfl, Nat.le_of_ble_eq_true rfl⟩) (m_recv hK hm (q := (RX4, TX4, 2)) rfl hT.1) hz hcx hm hS rfl hl.1 rfl (Nat.le_of_ble_eq_true rfl) dX5_count_57 ⟨Nat.le_of_ble_eq_true rfl, Nat.le_of_ble_eq_true rfl⟩ (fun v M1 H locs hv hm hS => ?_)
    obtain ⟨hv1, hM1⟩ := hv
    have hv1 : v = some (.int 1) := hv1.trans (by decide)
    subst hv1
    rw [hM1] at hm
    refine W.eq (g2 := F0 m 60 ls [.int 1]) rfl ?_
    refine W.widen (k := 0) (n := 0) (Nat.le_of_ble_eq_true rfl) (Nat.le_of_ble_eq_true rfl) ?_
    have hm : mm D (AZ z) M H := hm
    refine W.widen (k := 1) (n := 6) (by omega) (by omega) ?_
    refine vx_ret ?_
    refine W.iret (v := 1) hx hb hr (fun t ht hW => ⟨⟨some (.int 1), _, rfl, ?_, by rw [ht]; exact hm⟩, hS.F ht⟩) hS.2.2 dX5_count_60
    exact ⟨Or.inr (Or.inr (Or.inl ⟨c1, rfl⟩)), rfl⟩
  · refine lv_tableIn (off := 60) (tgt := 61) hx hb dX5_count_1 (by omega) (by omega) (by rw [c1]; rfl) (by decide) ?_
    refine lv_aload_n hx hb dX5_count_61 rfl (lv_at hl 0 rfl) ?_
    refine m_kV (As := []) (rest := []) (rm := { frames := 0, cells := 0, slots := 0, locals := 0 }) ⟨hx, hb, hml, hown, hts⟩ (c_X5_openTransactions l D k z _ o tr nx mg dk ts ou 1 0 0 0 0 hO xa xb xv xm xc xr (fun _ => 0) (fun _ => 0) gt hTs hG hXs) (cwV 0 hts gX5_count_X5_openTransactions rfl rfl rfl (by decide +kernel) ⟨Nat.le_of_ble_eq_true rfl, Nat.le_of_ble_eq_true rfl⟩) (m_recv hK hm (q := (RX5, TX5, 11)) rfl hO) hz hcx hm hS rfl hl.1 rfl (Nat.le_of_ble_eq_true rfl) dX5_count_62 ⟨Nat.le_of_ble_eq_true rfl, Nat.le_of_ble_eq_true rfl⟩ (fun v M1 H locs hv hm hS => ?_)
    obtain ⟨hv1, hM1⟩ := hv
    have hv1 : v = some (.int 0) := hv1.trans (by decide)
    subst hv1
    rw [hM1] at hm
    refine W.eq (g2 := F0 m 65 ls [.int 0]) rfl ?_
    refine W.widen (k := 0) (n := 0) (Nat.le_of_ble_eq_true rfl) (Nat.le_of_ble_eq_true rfl) ?_
    have hm : mm D (AZ z) M H := hm
    refine W.widen (k := 1) (n := 6) (by omega) (by omega) ?_
    refine vx_ret ?_
    refine W.iret (v := 0) hx hb hr (fun t ht hW => ⟨⟨some (.int 0), _, rfl, ?_, by rw [ht]; exact hm⟩, hS.F ht⟩) hS.2.2 dX5_count_65
    exact ⟨Or.inr (Or.inr (Or.inr (Or.inl ⟨c1, rfl⟩))), rfl⟩
  · refine lv_tableIn (off := 65) (tgt := 66) hx hb dX5_count_1 (by omega) (by omega) (by rw [c1]; rfl) (by decide) ?_
    refine lv_aload_n hx hb dX5_count_66 rfl (lv_at hl 0 rfl) ?_
    refine m_get (T := TX5) (N := 11) (ci := 5) (v := .int 0) hx hb hts wX5 hown hK hm hO rfl 9 (by decide) f66 (fun _ h9 => h9) rfl dX5_count_67 ?_
    refine lv_if_eq (tgt := 77) hx hb dX5_count_70 (by decide) (fun c2 => ?_) (fun c2 => ?_)
    · refine lv_iconst (v := 0) hx hb dX5_count_77 (by decide) ?_
      refine W.widen (k := 1) (n := 6) (by omega) (by omega) ?_
      refine vx_ret ?_
      refine W.iret (v := 0) hx hb hr (fun t ht hW => ⟨⟨some (.int 0), _, rfl, ?_, by rw [ht]; exact hm⟩, hS.F ht⟩) hS.2.2 dX5_count_78
      exact ⟨Or.inr (Or.inr (Or.inr (Or.inr (Or.inl ⟨c1, rfl⟩)))), rfl⟩
    · first | exact absurd c2 (by decide) | exact absurd (by decide) c2
  · refine lv_tableIn (off := 78) (tgt := 79) hx hb dX5_count_1 (by omega) (by omega) (by rw [c1]; rfl) (by decide) ?_
    refine lv_aload_n hx hb dX5_count_79 rfl (lv_at hl 0 rfl) ?_
    refine m_get (T := TX5) (N := 11) (ci := 5) (v := .ref dk) hx hb hts wX5 hown hK hm hO rfl 3 (by decide) f39 (fun _ h9 => h9) rfl dX5_count_80 ?_
    refine m_get (T := TX0) (N := 2) (ci := 0) (v := .int 0) hx hb hts wX0 hown hK hm hD9 rfl 0 (by decide) f257 (fun _ h9 => h9) rfl dX5_count_83 ?_
    refine W.widen (k := 1) (n := 6) (by omega) (by omega) ?_
    refine vx_ret ?_
    refine W.iret (v := 0) hx hb hr (fun t ht hW => ⟨⟨some (.int 0), _, rfl, ?_, by rw [ht]; exact hm⟩, hS.F ht⟩) hS.2.2 dX5_count_86
    exact ⟨Or.inr (Or.inr (Or.inr (Or.inr (Or.inr ⟨c1, rfl⟩)))), rfl⟩

/-- Transaction.start leaves the reference's cells -/
theorem F_started {k : Nat → ClassId} {M : mM} {tr tn xa xb xv xm xc xr xbn xvn : Nat} {g0 : Nat → Option Nat} (hxa : M xa = some (.inr (3, [.ref xb, .ref xv, .ref xm, .ref xc, .ref xr, .int 0, .int 0]))) (hxb : treeAt k M xb xbn (fun _ => none) []) (hxv : treeAt k M xv xvn (fun _ => none) []) (hxc : M xc = some (L0 k)) (hxr : M xr = some (L0 k)) (hn : xr ≠ xc ∧ tr ≠ xb ∧ tn ≠ xbn ∧ tr ≠ xv ∧ tn ≠ xvn ∧ xv ≠ xb ∧ xvn ≠ xbn) : kM M (mu (crM k (crM k (copyM k (copyM k M xb xbn (fun _ => none) g0 1) xv xvn (fun _ => none) g0 1) xc (fillF (fun _ => 0) 0 60)) xr (fillF (fun _ => 0) 0 60)) xa (.inr (3, [.ref xb, .ref xv, .ref xm, .ref xc, .ref xr, .int 1, .int 0]))) := by
  have ok3 : ¬ mcell (.inr (3, [.ref xb, .ref xv, .ref xm, .ref xc, .ref xr, .int 0, .int 0])) := fun h => absurd (show (3 : Nat) = 6 from h) (by decide)
  have ok4 : ∀ fs, ¬ mcell (.inr (4, fs)) := fun fs h => absurd (show (4 : Nat) = 6 from h) (by decide)
  have okn : ∀ (c : ClassId) x, ¬ mcell (.inl (c, 60, x)) := fun c x h => h rfl
  have f1 := (hxv.2.1)
  have v1 : copyM k M xb xbn (fun _ => none) g0 1 xvn = _ := (treeAt_by hxb hxv hn.2.2.2.2.2.1 hn.2.2.2.2.2.2 (go := g0) 1).2.1
  have v2 : copyM k M xb xbn (fun _ => none) g0 1 xv = _ := (treeAt_by hxb hxv hn.2.2.2.2.2.1 hn.2.2.2.2.2.2 (go := g0) 1).1
  have hv' := treeAt_by hxb hxv hn.2.2.2.2.2.1 hn.2.2.2.2.2.2 (go := g0) 1
  have c1 := long_copy (n := 1) (go := g0) hxb hxc
  have c2 := long_copy (n := 1) (go := g0) hv' c1
  have r1 := long_copy (n := 1) (go := g0) hxb hxr
  have r2 := long_copy (n := 1) (go := g0) hv' r1
  have a1 := obj_copy (n := 1) (go := g0) (by decide) hxb hxa
  have a2 := obj_copy (n := 1) (go := g0) (by decide) hv' a1
  have r3 : crM k (copyM k (copyM k M xb xbn (fun _ => none) g0 1) xv xvn (fun _ => none) g0 1) xc (fillF (fun _ => 0) 0 60) xr = _ := (mu_ne hn.1).trans r2
  have a3 := obj_cr (f' := fillF (fun _ => 0) 0 60) a2 c2
  have a4 := obj_cr (f' := fillF (fun _ => 0) 0 60) a3 r3
  have k1 : kM M (copyM k M xb xbn (fun _ => none) g0 1) := ((kM.refl M).upd hxb.2.1 (okn _ _)).upd ((mu_ne (treeAt_ne hxb)).trans hxb.1) (ok4 _)
  have k2 : kM M (copyM k (copyM k M xb xbn (fun _ => none) g0 1) xv xvn (fun _ => none) g0 1) := (k1.upd hv'.2.1 (okn _ _)).upd ((mu_ne (treeAt_ne hv')).trans hv'.1) (ok4 _)
  exact ((k2.upd c2 (okn _ _)).upd r3 (okn _ _)).upd a4 ok3

set_option maxHeartbeats 4000000 in
set_option maxRecDepth 100000 in
theorem F_begin (l : Launch) (hlt : l.stackTraces = false) (D : va_G) (k : Nat → ClassId) (z : Nat) (M : mM) (o : Nat) (hF : cFr k M o) : mC l yX5_begin wsX5_begin ({ frames := 6, cells := 1, slots := 6, locals := 82 }) D k z [.ref o] M (fun v M' => v = some (.int 0) ∧ kM M M') (fun _ _ => False) := by
  refine vx_ofW (cc := cX5_begin) (maxL := 3) (ret := (some .int)) (by decide) rfl ?_
  intro p e s m args below meth c s₁ B hml hnt hv
  obtain ⟨rfl, hz, hcx, hm⟩ := hv
  have hx := B.exec
  have hb := B.bytes
  have hr := B.returns
  have hts := atoms_spec (ws := wsX5_begin) B.pre
  have hown : s.vm.findClass RX5 = some m.cls := findClass_of_methodNamed B.named
  have hlocks := B.notSynchronized
  have hK := hcx.1
  have hS : va_S (AZ z) s.heap s.heap [] := va_S.rf
  have hA : ∀ q, s.heap.size ≤ q → AZ z q := fun q h => Nat.le_trans hz h
  have hl := lv_entry ([.ref o]) (n := 3) (Nat.le_of_ble_eq_true rfl)
  rw [lg_entry_eq]
  generalize (lg_sl ([.ref o]) ++ List.replicate (3 - (lg_sl ([.ref o])).length) Slot.unset).toArray = ls at hl ⊢
  have hl : lv_has ls 3 [(0, .ref o)] := hl
  have f10 := hts (.fieldLink RX5 10 "CommitTree" "tree" "LCommitTree$Tree;") (by decide +kernel)
  have f45 := hts (.fieldLink RX5 45 "CommitTree" "transactions" "[LCommitTree$Transaction;") (by decide +kernel)
  have f66 := hts (.fieldLink RX5 66 "CommitTree" "down" "Z") (by decide +kernel)
  have f80 := hts (.fieldLink RX5 80 "CommitTree$Transaction" "open" "Z") (by decide +kernel)
  have wX3 : ∀ w ∈ wsX30, w ∈ wsX5_begin := by decide +kernel
  have wX5 : ∀ w ∈ wsX50, w ∈ wsX5_begin := by decide +kernel
  obtain ⟨tr, nx, mg, dk, ts, ou, tn, g0, gt, hO, hT, hD9, hTs, hXt, hOu⟩ := hF
  obtain ⟨xa, hg9, xb, xv, xm, xc, xr, xbn, xvn, hxa, hxb, hxv, hxc, hxr, hn1, hn2, hn3, hn4, hn5, hn6, hn7⟩ := hXt 0 (by decide)
  have hg2 : gt (0 : Int32).toNatClampNeg = some xa := hg9
  refine lv_aload_n hx hb dX5_begin_0 rfl (lv_at hl 0 rfl) ?_
  refine m_get (T := TX5) (N := 11) (ci := 5) (v := .int 0) hx hb hts wX5 hown hK hm hO rfl 9 (by decide) f66 (fun _ h9 => h9) rfl dX5_begin_1 ?_
  refine lv_if_eq (tgt := 17) hx hb dX5_begin_4 (by decide) (fun c1 => ?_) (fun c1 => ?_)
  · refine lv_iconst (v := 0) hx hb dX5_begin_17 (by decide) ?_
    refine lv_istore_n (lv' := [(1, .int 0), (0, .ref o)]) hx hb dX5_begin_18 rfl hl (by decide) rfl (fun ls hl => ?_)
    refine lv_iload_n hx hb dX5_begin_19 rfl (lv_at hl 0 rfl) ?_
    refine lv_aload_n hx hb dX5_begin_20 rfl (lv_at hl 1 rfl) ?_
    refine m_get (T := TX5) (N := 11) (ci := 5) (v := .ref ts) hx hb hts wX5 hown hK hm hO rfl 4 (by decide) f45 (fun _ h9 => h9) rfl dX5_begin_21 ?_
    refine m_alen hx hb hK hm 4 hTs rfl (v := 6) rfl dX5_begin_24 ?_
    refine lv_icmp_ge (tgt := 62) hx hb dX5_begin_25 (by decide) (fun c2 => ?_) (fun c2 => ?_)
    · first | exact absurd c2 (by decide) | exact absurd (by decide) c2
    · refine lv_aload_n hx hb dX5_begin_28 rfl (lv_at hl 1 rfl) ?_
      refine m_get (T := TX5) (N := 11) (ci := 5) (v := .ref ts) hx hb hts wX5 hown hK hm hO rfl 4 (by decide) f45 (fun _ h9 => h9) rfl dX5_begin_29 ?_
      refine lv_iload_n hx hb dX5_begin_32 rfl (lv_at hl 0 rfl) ?_
      refine m_aald hx hb hK hm 4 hTs rfl (by unfold vp_in; decide) dX5_begin_33 ?_
      refine W.eq (g2 := F0 m 34 ls [.ref xa]) (by rw [hg2]; rfl) ?_
      refine lv_astore_n (lv' := [(2, .ref xa), (1, .int 0), (0, .ref o)]) hx hb dX5_begin_34 rfl hl (by decide) rfl (fun ls hl => ?_)
      refine lv_aload_n hx hb dX5_begin_35 rfl (lv_at hl 0 rfl) ?_
      refine lv_ifnull hx hb dX5_begin_36 ?_
      refine lv_aload_n hx hb dX5_begin_39 rfl (lv_at hl 0 rfl) ?_
      refine m_get (T := TX3) (N := 7) (ci := 3) (v := .int 0) hx hb hts wX3 hown hK hm hxa rfl 5 (by decide) f80 (fun _ h9 => h9) rfl dX5_begin_40 ?_
      refine lv_if_ne (tgt := 56) hx hb dX5_begin_43 (by decide) (fun c3 => ?_) (fun c3 => ?_)
      · exact absurd rfl c3
      · refine lv_aload_n hx hb dX5_begin_46 rfl (lv_at hl 0 rfl) ?_
        refine lv_aload_n hx hb dX5_begin_47 rfl (lv_at hl 2 rfl) ?_
        refine m_get (T := TX5) (N := 11) (ci := 5) (v := .ref tr) hx hb hts wX5 hown hK hm hO rfl 0 (by decide) f10 (fun _ h9 => h9) rfl dX5_begin_48 ?_
        refine m_kV (As := [.ref tr]) (rest := []) (rm := { frames := 2, cells := 0, slots := 0, locals := 50 }) ⟨hx, hb, hml, hown, hts⟩ (c_X3_start l D k z _ xa xb xv xm xc xr xbn xvn tr tn (fun _ => none) (fun _ => none) g0 [] [] [rootV] (fun _ => 0) (fun _ => 0) 0 0 hn1 hn2 hn3 hn4 hn5 hn6 hn7 hxa hxb hxv hT hxc hxr) (cwV 1 hts gX5_begin_X3_start rfl rfl rfl (by decide +kernel) ⟨Nat.le_of_ble_eq_true rfl, Nat.le_of_ble_eq_true rfl⟩) (m_recv hK hm (q := (RX3, TX3, 7)) rfl hxa) hz hcx hm hS rfl hl.1 rfl (Nat.le_of_ble_eq_true rfl) dX5_begin_51 ⟨Nat.le_of_ble_eq_true rfl, Nat.le_of_ble_eq_true rfl⟩ (fun v M1 H locs hv hm hS => ?_)
        obtain ⟨hv1, hM1⟩ := hv
        subst hv1
        have hk9 : kM M M1 := by
          rw [hM1]
          exact F_started hxa hxb hxv hxc hxr ⟨hn1, hn2, hn3, hn4, hn5, hn6, hn7⟩
        refine W.eq (g2 := F0 m 54 ls []) rfl ?_
        refine W.widen (k := 0) (n := 0) (Nat.le_of_ble_eq_true rfl) (Nat.le_of_ble_eq_true rfl) ?_
        have hm : mm D (AZ z) M1 H := hm
        refine lv_iload_n hx hb dX5_begin_54 rfl (lv_at hl 1 rfl) ?_
        refine W.widen (k := 1) (n := 6) (by omega) (by omega) ?_
        refine vx_ret ?_
        refine W.iret (v := 0) hx hb hr (fun t ht hW => ⟨⟨some (.int 0), _, rfl, ?_, by rw [ht]; exact hm⟩, hS.F ht⟩) hS.2.2 dX5_begin_55
        exact ⟨rfl, hk9⟩
  · exact absurd rfl c1

set_option maxHeartbeats 4000000 in
set_option maxRecDepth 100000 in
theorem F_read (l : Launch) (hlt : l.stackTraces = false) (D : va_G) (k : Nat → ClassId) (z : Nat) (M : mM) (o : Nat) (hF : cFr k M o) (t path i : Int32) : mC l yX5_read wsX5_read ({ frames := 8, cells := 3, slots := 18, locals := 125 }) D k z [.ref o, .int t, .int path, .int i] M (fun _ _ => False) (fun E M' => ((t ≠ -1 ∧ E = eIS) ∨ (t = -1 ∧ mfX path E)) ∧ M' = M) := by
  refine vx_ofW (cc := cX5_read) (maxL := 6) (ret := (some .int)) (by decide) rfl ?_
  intro p e s m args below meth c s₁ B hml hnt hv
  obtain ⟨rfl, hz, hcx, hm⟩ := hv
  have hx := B.exec
  have hb := B.bytes
  have hr := B.returns
  have hts := atoms_spec (ws := wsX5_read) B.pre
  have hown : s.vm.findClass RX5 = some m.cls := findClass_of_methodNamed B.named
  have hlocks := B.notSynchronized
  have hK := hcx.1
  have hS : va_S (AZ z) s.heap s.heap [] := va_S.rf
  have hA : ∀ q, s.heap.size ≤ q → AZ z q := fun q h => Nat.le_trans hz h
  have hl := lv_entry ([.ref o, .int t, .int path, .int i]) (n := 6) (Nat.le_of_ble_eq_true rfl)
  rw [lg_entry_eq]
  generalize (lg_sl ([.ref o, .int t, .int path, .int i]) ++ List.replicate (6 - (lg_sl ([.ref o, .int t, .int path, .int i])).length) Slot.unset).toArray = ls at hl ⊢
  have hl : lv_has ls 6 [(0, .ref o), (1, .int t), (2, .int path), (3, .int i)] := hl
  obtain ⟨tr, nx, mg, dk, ts, ou, tn, g0, gt, hO, hT, hD9, hTs, hXt, hOu⟩ := hF
  refine lv_aload_n hx hb dX5_read_0 rfl (lv_at hl 0 rfl) ?_
  refine lv_iload_n hx hb dX5_read_1 rfl (lv_at hl 1 rfl) ?_
  refine m_cV (As := [.int t]) (rest := []) (rm := { frames := 7, cells := 1, slots := 6, locals := 104 }) ⟨hx, hb, hml, hown, hts⟩ (F_openedOrNone l hlt D k z _ o tr nx mg dk ts ou tn gt hO hTs hXt t) (cwV 1 hts gX5_read_X5_openedOrNone rfl rfl rfl (by decide +kernel) ⟨Nat.le_of_ble_eq_true rfl, Nat.le_of_ble_eq_true rfl⟩) (m_recv hK hm (q := (RX5, TX5, 11)) rfl hO) hz hcx hm hS rfl hl.1 rfl (Nat.le_of_ble_eq_true rfl) dX5_read_2 ⟨Nat.le_of_ble_eq_true rfl, Nat.le_of_ble_eq_true rfl⟩ (fun E ce q9 M1 H locs hv hm hS hce hcv hcl => ?_) (fun v M1 H locs hv hm hS => ?_)
  · refine vx_out (fun x hx => (hnt x hx).elim) hlocks hce hcv hcl (fun t ht hvm => ⟨⟨_, ?_, by rw [ht]; exact hm⟩, hS.F ht⟩) hS.2.2 (Nat.le_of_ble_eq_true rfl) (Nat.le_of_ble_eq_true rfl)
    exact ⟨Or.inl ⟨hv.1, hv.2.1⟩, hv.2.2⟩
  obtain ⟨ht9, hv1, hM1⟩ := hv
  subst hv1
  rw [hM1] at hm
  refine W.eq (g2 := F0 m 5 ls [.ref ou]) rfl ?_
  refine W.widen (k := 1) (n := 6) (Nat.le_of_ble_eq_true rfl) (Nat.le_of_ble_eq_true rfl) ?_
  have hm : mm D (AZ z) M H := hm
  refine lv_astore (lv' := [(4, .ref ou), (0, .ref o), (1, .int t), (2, .int path), (3, .int i)]) hx hb dX5_read_5 hl (by decide) rfl (fun ls hl => ?_)
  refine lv_aload hx hb dX5_read_7 (lv_at hl 0 rfl) ?_
  refine lv_iload_n hx hb dX5_read_9 rfl (lv_at hl 3 rfl) ?_
  refine m_cS (As := [.ref ou, .int path]) (rest := []) (rm := { frames := 7, cells := 2, slots := 12, locals := 102 }) ⟨hx, hb, hml, hown, hts⟩ (F_measured l hlt D k z _ tr tn ou g0 hT hOu path) (cwS 2 hts gX5_read_X5_measuredFile rfl rfl rfl (by decide +kernel) ⟨Nat.le_of_ble_eq_true rfl, Nat.le_of_ble_eq_true rfl⟩) hz hcx hm hS rfl hl.1 rfl (Nat.le_of_ble_eq_true rfl) dX5_read_10 ⟨Nat.le_of_ble_eq_true rfl, Nat.le_of_ble_eq_true rfl⟩ (fun E ce q9 M1 H locs hv hm hS hce hcv hcl => ?_) (fun v M1 H locs hv hm hS => ?_)
  · refine vx_out (fun x hx => (hnt x hx).elim) hlocks hce hcv hcl (fun t ht hvm => ⟨⟨_, ?_, by rw [ht]; exact hm⟩, hS.F ht⟩) hS.2.2 (Nat.le_of_ble_eq_true rfl) (Nat.le_of_ble_eq_true rfl)
    exact ⟨Or.inr ⟨ht9, hv.1⟩, hv.2⟩
  exact hv.elim

set_option maxHeartbeats 4000000 in
set_option maxRecDepth 100000 in
theorem F_length (l : Launch) (hlt : l.stackTraces = false) (D : va_G) (k : Nat → ClassId) (z : Nat) (M : mM) (o : Nat) (hF : cFr k M o) (t path : Int32) : mC l yX5_length wsX5_length ({ frames := 8, cells := 3, slots := 18, locals := 125 }) D k z [.ref o, .int t, .int path] M (fun _ _ => False) (fun E M' => ((t ≠ -1 ∧ E = eIS) ∨ (t = -1 ∧ mfX path E)) ∧ M' = M) := by
  refine vx_ofW (cc := cX5_length) (maxL := 3) (ret := (some .int)) (by decide) rfl ?_
  intro p e s m args below meth c s₁ B hml hnt hv
  obtain ⟨rfl, hz, hcx, hm⟩ := hv
  have hx := B.exec
  have hb := B.bytes
  have hr := B.returns
  have hts := atoms_spec (ws := wsX5_length) B.pre
  have hown : s.vm.findClass RX5 = some m.cls := findClass_of_methodNamed B.named
  have hlocks := B.notSynchronized
  have hK := hcx.1
  have hS : va_S (AZ z) s.heap s.heap [] := va_S.rf
  have hA : ∀ q, s.heap.size ≤ q → AZ z q := fun q h => Nat.le_trans hz h
  have hl := lv_entry ([.ref o, .int t, .int path]) (n := 3) (Nat.le_of_ble_eq_true rfl)
  rw [lg_entry_eq]
  generalize (lg_sl ([.ref o, .int t, .int path]) ++ List.replicate (3 - (lg_sl ([.ref o, .int t, .int path])).length) Slot.unset).toArray = ls at hl ⊢
  have hl : lv_has ls 3 [(0, .ref o), (1, .int t), (2, .int path)] := hl
  have f189 := hts (.fieldLink RX5 189 "CommitTree$Node" "size" "I") (by decide +kernel)
  have wX2 : ∀ w ∈ wsX20, w ∈ wsX5_length := by decide +kernel
  obtain ⟨tr, nx, mg, dk, ts, ou, tn, g0, gt, hO, hT, hD9, hTs, hXt, hOu⟩ := hF
  refine lv_aload_n hx hb dX5_length_0 rfl (lv_at hl 0 rfl) ?_
  refine lv_iload_n hx hb dX5_length_1 rfl (lv_at hl 1 rfl) ?_
  refine m_cV (As := [.int t]) (rest := []) (rm := { frames := 7, cells := 1, slots := 6, locals := 104 }) ⟨hx, hb, hml, hown, hts⟩ (F_openedOrNone l hlt D k z _ o tr nx mg dk ts ou tn gt hO hTs hXt t) (cwV 1 hts gX5_length_X5_openedOrNone rfl rfl rfl (by decide +kernel) ⟨Nat.le_of_ble_eq_true rfl, Nat.le_of_ble_eq_true rfl⟩) (m_recv hK hm (q := (RX5, TX5, 11)) rfl hO) hz hcx hm hS rfl hl.1 rfl (Nat.le_of_ble_eq_true rfl) dX5_length_2 ⟨Nat.le_of_ble_eq_true rfl, Nat.le_of_ble_eq_true rfl⟩ (fun E ce q9 M1 H locs hv hm hS hce hcv hcl => ?_) (fun v M1 H locs hv hm hS => ?_)
  · refine vx_out (fun x hx => (hnt x hx).elim) hlocks hce hcv hcl (fun t ht hvm => ⟨⟨_, ?_, by rw [ht]; exact hm⟩, hS.F ht⟩) hS.2.2 (Nat.le_of_ble_eq_true rfl) (Nat.le_of_ble_eq_true rfl)
    exact ⟨Or.inl ⟨hv.1, hv.2.1⟩, hv.2.2⟩
  obtain ⟨ht9, hv1, hM1⟩ := hv
  subst hv1
  rw [hM1] at hm
  refine W.eq (g2 := F0 m 5 ls [.ref ou]) rfl ?_
  refine W.widen (k := 1) (n := 6) (Nat.le_of_ble_eq_true rfl) (Nat.le_of_ble_eq_true rfl) ?_
  have hm : mm D (AZ z) M H := hm
  refine lv_iload_n hx hb dX5_length_5 rfl (lv_at hl 2 rfl) ?_
  refine m_cS (As := [.ref ou, .int path]) (rest := []) (rm := { frames := 7, cells := 2, slots := 12, locals := 102 }) ⟨hx, hb, hml, hown, hts⟩ (F_measured l hlt D k z _ tr tn ou g0 hT hOu path) (cwS 2 hts gX5_length_X5_measuredFile rfl rfl rfl (by decide +kernel) ⟨Nat.le_of_ble_eq_true rfl, Nat.le_of_ble_eq_true rfl⟩) hz hcx hm hS rfl hl.1 rfl (Nat.le_of_ble_eq_true rfl) dX5_length_6 ⟨Nat.le_of_ble_eq_true rfl, Nat.le_of_ble_eq_true rfl⟩ (fun E ce q9 M1 H locs hv hm hS hce hcv hcl => ?_) (fun v M1 H locs hv hm hS => ?_)
  · refine vx_out (fun x hx => (hnt x hx).elim) hlocks hce hcv hcl (fun t ht hvm => ⟨⟨_, ?_, by rw [ht]; exact hm⟩, hS.F ht⟩) hS.2.2 (Nat.le_of_ble_eq_true rfl) (Nat.le_of_ble_eq_true rfl)
    exact ⟨Or.inr ⟨ht9, hv.1⟩, hv.2⟩
  exact hv.elim

set_option maxHeartbeats 4000000 in
set_option maxRecDepth 100000 in
theorem F_kind (l : Launch) (hlt : l.stackTraces = false) (D : va_G) (k : Nat → ClassId) (z : Nat) (M : mM) (o : Nat) (hF : cFr k M o) (t path : Int32) : mC l yX5_kind wsX5_kind ({ frames := 8, cells := 2, slots := 12, locals := 125 }) D k z [.ref o, .int t, .int path] M (fun v M' => (t = -1 ∧ isP path ∧ ((path = 0 ∧ v = some (.int 1)) ∨ (path ≠ 0 ∧ v = some (.int 0)))) ∧ M' = M) (fun E M' => ((t ≠ -1 ∧ E = eIS) ∨ (t = -1 ∧ ¬ isP path ∧ E = eIA)) ∧ M' = M) := by
  refine vx_ofW (cc := cX5_kind) (maxL := 5) (ret := (some .int)) (by decide) rfl ?_
  intro p e s m args below meth c s₁ B hml hnt hv
  obtain ⟨rfl, hz, hcx, hm⟩ := hv
  have hx := B.exec
  have hb := B.bytes
  have hr := B.returns
  have hts := atoms_spec (ws := wsX5_kind) B.pre
  have hown : s.vm.findClass RX5 = some m.cls := findClass_of_methodNamed B.named
  have hlocks := B.notSynchronized
  have hK := hcx.1
  have hS : va_S (AZ z) s.heap s.heap [] := va_S.rf
  have hA : ∀ q, s.heap.size ≤ q → AZ z q := fun q h => Nat.le_trans hz h
  have hl := lv_entry ([.ref o, .int t, .int path]) (n := 5) (Nat.le_of_ble_eq_true rfl)
  rw [lg_entry_eq]
  generalize (lg_sl ([.ref o, .int t, .int path]) ++ List.replicate (5 - (lg_sl ([.ref o, .int t, .int path])).length) Slot.unset).toArray = ls at hl ⊢
  have hl : lv_has ls 5 [(0, .ref o), (1, .int t), (2, .int path)] := hl
  have f159 := hts (.fieldLink RX5 159 "CommitTree$Node" "directory" "Z") (by decide +kernel)
  have wX2 : ∀ w ∈ wsX20, w ∈ wsX5_kind := by decide +kernel
  obtain ⟨tr, nx, mg, dk, ts, ou, tn, g0, gt, hO, hT, hD9, hTs, hXt, hOu⟩ := hF
  obtain ⟨ob, om, oc, or9, obn, hU, -⟩ := id hOu
  refine lv_aload_n hx hb dX5_kind_0 rfl (lv_at hl 0 rfl) ?_
  refine lv_iload_n hx hb dX5_kind_1 rfl (lv_at hl 1 rfl) ?_
  refine m_cV (As := [.int t]) (rest := []) (rm := { frames := 7, cells := 1, slots := 6, locals := 104 }) ⟨hx, hb, hml, hown, hts⟩ (F_openedOrNone l hlt D k z _ o tr nx mg dk ts ou tn gt hO hTs hXt t) (cwV 1 hts gX5_kind_X5_openedOrNone rfl rfl rfl (by decide +kernel) ⟨Nat.le_of_ble_eq_true rfl, Nat.le_of_ble_eq_true rfl⟩) (m_recv hK hm (q := (RX5, TX5, 11)) rfl hO) hz hcx hm hS rfl hl.1 rfl (Nat.le_of_ble_eq_true rfl) dX5_kind_2 ⟨Nat.le_of_ble_eq_true rfl, Nat.le_of_ble_eq_true rfl⟩ (fun E ce q9 M1 H locs hv hm hS hce hcv hcl => ?_) (fun v M1 H locs hv hm hS => ?_)
  · refine vx_out (fun x hx => (hnt x hx).elim) hlocks hce hcv hcl (fun t ht hvm => ⟨⟨_, ?_, by rw [ht]; exact hm⟩, hS.F ht⟩) hS.2.2 (Nat.le_of_ble_eq_true rfl) (Nat.le_of_ble_eq_true rfl)
    exact ⟨Or.inl ⟨hv.1, hv.2.1⟩, hv.2.2⟩
  obtain ⟨ht9, hv1, hM1⟩ := hv
  subst hv1
  rw [hM1] at hm
  refine W.eq (g2 := F0 m 5 ls [.ref ou]) rfl ?_
  refine W.widen (k := 1) (n := 6) (Nat.le_of_ble_eq_true rfl) (Nat.le_of_ble_eq_true rfl) ?_
  have hm : mm D (AZ z) M H := hm
  refine lv_astore_n (lv' := [(3, .ref ou), (0, .ref o), (1, .int t), (2, .int path)]) hx hb dX5_kind_5 rfl hl (by decide) rfl (fun ls hl => ?_)
  refine lv_iload_n hx hb dX5_kind_6 rfl (lv_at hl 3 rfl) ?_
  refine m_cS (As := [.int path]) (rest := []) (rm := { frames := 6, cells := 1, slots := 6, locals := 82 }) ⟨hx, hb, hml, hown, hts⟩ (c_X5_needPath l hlt D k z _ path) (cwS 1 hts gX5_kind_X5_needPath rfl rfl rfl (by decide +kernel) ⟨Nat.le_of_ble_eq_true rfl, Nat.le_of_ble_eq_true rfl⟩) hz hcx hm hS rfl hl.1 rfl (Nat.le_of_ble_eq_true rfl) dX5_kind_7 ⟨Nat.le_of_ble_eq_true rfl, Nat.le_of_ble_eq_true rfl⟩ (fun E ce q9 M1 H locs hv hm hS hce hcv hcl => ?_) (fun v M1 H locs hv hm hS => ?_)
  · refine vx_out (fun x hx => (hnt x hx).elim) hlocks hce hcv hcl (fun t ht hvm => ⟨⟨_, ?_, by rw [ht]; exact hm⟩, hS.F ht⟩) hS.2.2 (Nat.le_of_ble_eq_true rfl) (Nat.le_of_ble_eq_true rfl)
    exact ⟨Or.inr ⟨ht9, hv.1, hv.2.1⟩, hv.2.2⟩
  obtain ⟨hp9, hv1, hM1⟩ := hv
  subst hv1
  rw [hM1] at hm
  refine W.eq (g2 := F0 m 10 ls []) rfl ?_
  refine W.widen (k := 2) (n := 12) (Nat.le_of_ble_eq_true rfl) (Nat.le_of_ble_eq_true rfl) ?_
  have hm : mm D (AZ z) M H := hm
  refine lv_aload_n hx hb dX5_kind_10 rfl (lv_at hl 0 rfl) ?_
  refine lv_iload_n hx hb dX5_kind_11 rfl (lv_at hl 3 rfl) ?_
  refine m_kV (As := [.int path]) (rest := []) (rm := { frames := 3, cells := 0, slots := 0, locals := 75 }) ⟨hx, hb, hml, hown, hts⟩ (F_lookUp l D k z _ tr tn ou g0 hT hOu path hp9) (cwV 1 hts gX5_kind_X3_lookUp rfl rfl rfl (by decide +kernel) ⟨Nat.le_of_ble_eq_true rfl, Nat.le_of_ble_eq_true rfl⟩) (m_recv hK hm (q := (RX3, TX3, 7)) rfl hU) hz hcx hm hS rfl hl.1 rfl (Nat.le_of_ble_eq_true rfl) dX5_kind_12 ⟨Nat.le_of_ble_eq_true rfl, Nat.le_of_ble_eq_true rfl⟩ (fun v M1 H locs hv hm hS => ?_)
  obtain ⟨hM1, hv2⟩ := hv
  rw [hM1] at hm
  rcases hv2 with ⟨h09, a9, hv1, hN9⟩ | ⟨h09, hv1⟩
  · subst hv1
    obtain ⟨-, ca9, hn9, -⟩ := id hN9
    refine W.eq (g2 := F0 m 15 ls [.ref a9]) rfl ?_
    refine W.widen (k := 2) (n := 12) (Nat.le_of_ble_eq_true rfl) (Nat.le_of_ble_eq_true rfl) ?_
    have hm : mm D (AZ z) M H := hm
    refine lv_astore (lv' := [(4, .ref a9), (3, .ref ou), (0, .ref o), (1, .int t), (2, .int path)]) hx hb dX5_kind_15 hl (by decide) rfl (fun ls hl => ?_)
    refine lv_aload hx hb dX5_kind_17 (lv_at hl 0 rfl) ?_
    refine lv_ifnonnull (tgt := 24) hx hb dX5_kind_19 (by decide) ?_
    refine lv_aload hx hb dX5_kind_24 (lv_at hl 0 rfl) ?_
    refine m_get (T := TX2) (N := 4) (ci := 2) (v := .int 1) hx hb hts wX2 hown hK hm hn9 rfl 1 (by decide) f159 (fun _ h9 => h9) rfl dX5_kind_26 ?_
    refine lv_if_eq (tgt := 36) hx hb dX5_kind_29 (by decide) (fun c1 => ?_) (fun c1 => ?_)
    · exact absurd c1 (by decide)
    · refine lv_iconst (v := 1) hx hb dX5_kind_32 (by decide) ?_
      refine lv_goto (tgt := 37) hx hb dX5_kind_33 (by decide) ?_
      refine vx_ret ?_
      refine W.iret (v := 1) hx hb hr (fun t ht hW => ⟨⟨some (.int 1), _, rfl, ?_, by rw [ht]; exact hm⟩, hS.F ht⟩) hS.2.2 dX5_kind_37
      exact ⟨⟨ht9, hp9, Or.inl ⟨h09, rfl⟩⟩, rfl⟩
  · subst hv1
    refine W.eq (g2 := F0 m 15 ls [.null]) rfl ?_
    refine W.widen (k := 2) (n := 12) (Nat.le_of_ble_eq_true rfl) (Nat.le_of_ble_eq_true rfl) ?_
    have hm : mm D (AZ z) M H := hm
    refine lv_astoreN (lv' := [(4, .null), (3, .ref ou), (0, .ref o), (1, .int t), (2, .int path)]) hx hb dX5_kind_15 hl (by decide) rfl (fun ls hl => ?_)
    refine lv_aloadN hx hb dX5_kind_17 (lv_at hl 0 rfl) ?_
    refine lv_ifnonnullN hx hb dX5_kind_19 ?_
    refine lv_iconst (v := 0) hx hb dX5_kind_22 (by decide) ?_
    refine vx_ret ?_
    refine W.iret (v := 0) hx hb hr (fun t ht hW => ⟨⟨some (.int 0), _, rfl, ?_, by rw [ht]; exact hm⟩, hS.F ht⟩) hS.2.2 dX5_kind_23
    exact ⟨⟨ht9, hp9, Or.inr ⟨h09, rfl⟩⟩, rfl⟩

set_option maxHeartbeats 4000000 in
set_option maxRecDepth 100000 in
theorem F_list (l : Launch) (hlt : l.stackTraces = false) (D : va_G) (k : Nat → ClassId) (z : Nat) (M : mM) (o : Nat) (hF : cFr k M o) (t path : Int32) : mC l yX5_list wsX5_list ({ frames := 8, cells := 3, slots := 18, locals := 125 }) D k z [.ref o, .int t, .int path] M (fun v M' => (t = -1 ∧ isP path ∧ path = 0 ∧ v = some (.int 0)) ∧ M' = M) (fun E M' => ((t ≠ -1 ∧ E = eIS) ∨ (t = -1 ∧ ((¬ isP path ∧ E = eIA) ∨ (isP path ∧ path ≠ 0 ∧ E = eNS)))) ∧ M' = M) := by
  refine vx_ofW (cc := cX5_list) (maxL := 5) (ret := (some .int)) (by decide) rfl ?_
  intro p e s m args below meth c s₁ B hml hnt hv
  obtain ⟨rfl, hz, hcx, hm⟩ := hv
  have hx := B.exec
  have hb := B.bytes
  have hr := B.returns
  have hts := atoms_spec (ws := wsX5_list) B.pre
  have hown : s.vm.findClass RX5 = some m.cls := findClass_of_methodNamed B.named
  have hlocks := B.notSynchronized
  have hK := hcx.1
  have hS : va_S (AZ z) s.heap s.heap [] := va_S.rf
  have hA : ∀ q, s.heap.size ≤ q → AZ z q := fun q h => Nat.le_trans hz h
  have hl := lv_entry ([.ref o, .int t, .int path]) (n := 5) (Nat.le_of_ble_eq_true rfl)
  rw [lg_entry_eq]
  generalize (lg_sl ([.ref o, .int t, .int path]) ++ List.replicate (5 - (lg_sl ([.ref o, .int t, .int path])).length) Slot.unset).toArray = ls at hl ⊢
  have hl : lv_has ls 5 [(0, .ref o), (1, .int t), (2, .int path)] := hl
  have f159 := hts (.fieldLink RX5 159 "CommitTree$Node" "directory" "Z") (by decide +kernel)
  have wX2 : ∀ w ∈ wsX20, w ∈ wsX5_list := by decide +kernel
  obtain ⟨tr, nx, mg, dk, ts, ou, tn, g0, gt, hO, hT, hD9, hTs, hXt, hOu⟩ := hF
  obtain ⟨ob, om, oc, or9, obn, hU, -⟩ := id hOu
  refine lv_aload_n hx hb dX5_list_0 rfl (lv_at hl 0 rfl) ?_
  refine lv_iload_n hx hb dX5_list_1 rfl (lv_at hl 1 rfl) ?_
  refine m_cV (As := [.int t]) (rest := []) (rm := { frames := 7, cells := 1, slots := 6, locals := 104 }) ⟨hx, hb, hml, hown, hts⟩ (F_openedOrNone l hlt D k z _ o tr nx mg dk ts ou tn gt hO hTs hXt t) (cwV 1 hts gX5_list_X5_openedOrNone rfl rfl rfl (by decide +kernel) ⟨Nat.le_of_ble_eq_true rfl, Nat.le_of_ble_eq_true rfl⟩) (m_recv hK hm (q := (RX5, TX5, 11)) rfl hO) hz hcx hm hS rfl hl.1 rfl (Nat.le_of_ble_eq_true rfl) dX5_list_2 ⟨Nat.le_of_ble_eq_true rfl, Nat.le_of_ble_eq_true rfl⟩ (fun E ce q9 M1 H locs hv hm hS hce hcv hcl => ?_) (fun v M1 H locs hv hm hS => ?_)
  · refine vx_out (fun x hx => (hnt x hx).elim) hlocks hce hcv hcl (fun t ht hvm => ⟨⟨_, ?_, by rw [ht]; exact hm⟩, hS.F ht⟩) hS.2.2 (Nat.le_of_ble_eq_true rfl) (Nat.le_of_ble_eq_true rfl)
    exact ⟨Or.inl ⟨hv.1, hv.2.1⟩, hv.2.2⟩
  obtain ⟨ht9, hv1, hM1⟩ := hv
  subst hv1
  rw [hM1] at hm
  refine W.eq (g2 := F0 m 5 ls [.ref ou]) rfl ?_
  refine W.widen (k := 1) (n := 6) (Nat.le_of_ble_eq_true rfl) (Nat.le_of_ble_eq_true rfl) ?_
  have hm : mm D (AZ z) M H := hm
  refine lv_astore_n (lv' := [(3, .ref ou), (0, .ref o), (1, .int t), (2, .int path)]) hx hb dX5_list_5 rfl hl (by decide) rfl (fun ls hl => ?_)
  refine lv_iload_n hx hb dX5_list_6 rfl (lv_at hl 3 rfl) ?_
  refine m_cS (As := [.int path]) (rest := []) (rm := { frames := 6, cells := 1, slots := 6, locals := 82 }) ⟨hx, hb, hml, hown, hts⟩ (c_X5_needPath l hlt D k z _ path) (cwS 1 hts gX5_list_X5_needPath rfl rfl rfl (by decide +kernel) ⟨Nat.le_of_ble_eq_true rfl, Nat.le_of_ble_eq_true rfl⟩) hz hcx hm hS rfl hl.1 rfl (Nat.le_of_ble_eq_true rfl) dX5_list_7 ⟨Nat.le_of_ble_eq_true rfl, Nat.le_of_ble_eq_true rfl⟩ (fun E ce q9 M1 H locs hv hm hS hce hcv hcl => ?_) (fun v M1 H locs hv hm hS => ?_)
  · refine vx_out (fun x hx => (hnt x hx).elim) hlocks hce hcv hcl (fun t ht hvm => ⟨⟨_, ?_, by rw [ht]; exact hm⟩, hS.F ht⟩) hS.2.2 (Nat.le_of_ble_eq_true rfl) (Nat.le_of_ble_eq_true rfl)
    exact ⟨Or.inr ⟨ht9, Or.inl ⟨hv.1, hv.2.1⟩⟩, hv.2.2⟩
  obtain ⟨hp9, hv1, hM1⟩ := hv
  subst hv1
  rw [hM1] at hm
  refine W.eq (g2 := F0 m 10 ls []) rfl ?_
  refine W.widen (k := 2) (n := 12) (Nat.le_of_ble_eq_true rfl) (Nat.le_of_ble_eq_true rfl) ?_
  have hm : mm D (AZ z) M H := hm
  refine lv_aload_n hx hb dX5_list_10 rfl (lv_at hl 0 rfl) ?_
  refine lv_iload_n hx hb dX5_list_11 rfl (lv_at hl 3 rfl) ?_
  refine m_kV (As := [.int path]) (rest := []) (rm := { frames := 3, cells := 0, slots := 0, locals := 75 }) ⟨hx, hb, hml, hown, hts⟩ (F_lookUp l D k z _ tr tn ou g0 hT hOu path hp9) (cwV 1 hts gX5_list_X3_lookUp rfl rfl rfl (by decide +kernel) ⟨Nat.le_of_ble_eq_true rfl, Nat.le_of_ble_eq_true rfl⟩) (m_recv hK hm (q := (RX3, TX3, 7)) rfl hU) hz hcx hm hS rfl hl.1 rfl (Nat.le_of_ble_eq_true rfl) dX5_list_12 ⟨Nat.le_of_ble_eq_true rfl, Nat.le_of_ble_eq_true rfl⟩ (fun v M1 H locs hv hm hS => ?_)
  obtain ⟨hM1, hv2⟩ := hv
  rw [hM1] at hm
  rcases hv2 with ⟨h09, a9, hv1, hN9⟩ | ⟨h09, hv1⟩
  · subst hv1
    obtain ⟨-, ca9, hn9, -⟩ := id hN9
    refine W.eq (g2 := F0 m 15 ls [.ref a9]) rfl ?_
    refine W.widen (k := 2) (n := 12) (Nat.le_of_ble_eq_true rfl) (Nat.le_of_ble_eq_true rfl) ?_
    have hm : mm D (AZ z) M H := hm
    refine lv_astore (lv' := [(4, .ref a9), (3, .ref ou), (0, .ref o), (1, .int t), (2, .int path)]) hx hb dX5_list_15 hl (by decide) rfl (fun ls hl => ?_)
    refine lv_aload hx hb dX5_list_17 (lv_at hl 0 rfl) ?_
    refine lv_ifnonnull (tgt := 32) hx hb dX5_list_19 (by decide) ?_
    refine lv_aload hx hb dX5_list_32 (lv_at hl 0 rfl) ?_
    refine m_get (T := TX2) (N := 4) (ci := 2) (v := .int 1) hx hb hts wX2 hown hK hm hn9 rfl 1 (by decide) f159 (fun _ h9 => h9) rfl dX5_list_34 ?_
    refine lv_if_ne (tgt := 50) hx hb dX5_list_37 (by decide) (fun c1 => ?_) (fun c1 => ?_)
    · refine lv_aload_n hx hb dX5_list_50 rfl (lv_at hl 1 rfl) ?_
      refine lv_aload hx hb dX5_list_51 (lv_at hl 0 rfl) ?_
      refine m_kV (As := [.ref a9]) (rest := []) (rm := { frames := 1, cells := 0, slots := 0, locals := 24 }) ⟨hx, hb, hml, hown, hts⟩ (F_namesOf l D k z _ tr ou a9 hOu hN9) (cwV 1 hts gX5_list_X3_namesOf rfl rfl rfl (by decide +kernel) ⟨Nat.le_of_ble_eq_true rfl, Nat.le_of_ble_eq_true rfl⟩) (m_recv hK hm (q := (RX3, TX3, 7)) rfl hU) hz hcx hm hS rfl hl.1 rfl (Nat.le_of_ble_eq_true rfl) dX5_list_53 ⟨Nat.le_of_ble_eq_true rfl, Nat.le_of_ble_eq_true rfl⟩ (fun v M1 H locs hv hm hS => ?_)
      obtain ⟨hv1, hM1⟩ := hv
      subst hv1
      rw [hM1] at hm
      refine W.eq (g2 := F0 m 56 ls [.int 0]) rfl ?_
      refine W.widen (k := 2) (n := 12) (Nat.le_of_ble_eq_true rfl) (Nat.le_of_ble_eq_true rfl) ?_
      have hm : mm D (AZ z) M H := hm
      refine W.widen (k := 3) (n := 18) (by omega) (by omega) ?_
      refine vx_ret ?_
      refine W.iret (v := 0) hx hb hr (fun t ht hW => ⟨⟨some (.int 0), _, rfl, ?_, by rw [ht]; exact hm⟩, hS.F ht⟩) hS.2.2 dX5_list_56
      exact ⟨⟨ht9, hp9, h09, rfl⟩, rfl⟩
    · exact absurd c1 (by decide)
  · subst hv1
    refine W.eq (g2 := F0 m 15 ls [.null]) rfl ?_
    refine W.widen (k := 2) (n := 12) (Nat.le_of_ble_eq_true rfl) (Nat.le_of_ble_eq_true rfl) ?_
    have hm : mm D (AZ z) M H := hm
    refine lv_astoreN (lv' := [(4, .null), (3, .ref ou), (0, .ref o), (1, .int t), (2, .int path)]) hx hb dX5_list_15 hl (by decide) rfl (fun ls hl => ?_)
    refine lv_aloadN hx hb dX5_list_17 (lv_at hl 0 rfl) ?_
    refine lv_ifnonnullN hx hb dX5_list_19 ?_
    obtain ⟨sa, hsa⟩ := hcx.2.2.1 (156, "there is nothing at the path") (by decide)
    refine nx_throwS (own := RX5) (cls := "java/util/NoSuchElementException") (Y := "java/lang/RuntimeException") (text := "there is nothing at the path") (names := ["java/lang/Exception"]) (ik := 154) (is := 156) (ic := 158) (i1 := 13) (b1 := prog_21_method_4_code) (A := AZ z) hx hb hlt hown (by decide) (by decide) (by decide) (by decide +kernel) (by decide +kernel) (by decide +kernel) (by decide +kernel) (hts (.classLink RX5 154 "java/util/NoSuchElementException") (by decide +kernel)) (hts (.initialized "java/util/NoSuchElementException") (by decide +kernel)) hsa (vx_hat (B := DW) (fun w h => hts w (List.mem_cons_of_mem _ (List.mem_append_left _ (List.mem_append_left _ (List.mem_append_left _ (List.mem_append_right _ h)))))) (by decide +kernel) (hcx.dw _)) (by decide +kernel) hcx.2.1.1 hcx.2.1.2 hS (hl.1.trans hml.symm) dX5_list_22 dX5_list_25 dX5_list_26 dX5_list_28 dX5_list_31 (fun x hx => (hnt x hx).elim) (Nat.le_of_ble_eq_true rfl) (Nat.le_of_ble_eq_true rfl) (Nat.le_of_ble_eq_true rfl) (Nat.le_of_ble_eq_true rfl) hlocks (fun t hvm hz1 hq => ⟨⟨_, ?_, hm.kept hq⟩, ⟨Nat.le_trans hS.1 hz1, fun q h1 h2 => (hq q (Nat.lt_of_lt_of_le h1 hS.1)).trans (hS.2.1 q h1 h2)⟩⟩) hS.2.2 (Nat.le_of_ble_eq_true rfl) (Nat.le_of_ble_eq_true rfl)
    exact ⟨Or.inr ⟨ht9, Or.inr ⟨hp9, h09, rfl⟩⟩, rfl⟩

theorem F_power (l : Launch) (hlt : l.stackTraces = false) (D : va_G) (k : Nat → ClassId) (z : Nat) (M : mM) (o : Nat) (hF : cFr k M o) (n : Int32) : mC l yX5_power wsX5_power ({ frames := 6, cells := 1, slots := 6, locals := 82 }) D k z [.ref o, .int n] M (fun v M' => (¬ n < -1 ∧ n ≤ 1000) ∧ v = none ∧ kM M M') (fun E M' => (n < -1 ∨ ¬ n ≤ 1000) ∧ E = eIA ∧ M' = M) := by
  obtain ⟨tr, nx, mg, dk, ts, ou, tn, g0, gt, hO, hT, hD9, hTs, hXt, hOu⟩ := hF
  refine (c_X5_power l hlt D k z M o tr nx mg dk ts ou 1 0 0 0 0 hO 0 (-1) n hD9).imp ?_ ?_
  · rintro v M' ⟨h1, h2, h3, h4⟩
    exact ⟨⟨h1, h2⟩, h3, by rw [h4]; exact (kM.refl M).upd hD9 (fun h => absurd (show (0 : Nat) = 6 from h) (by decide))⟩
  · rintro E M' ⟨h1, h2, h3⟩
    exact ⟨h1, h2, h3⟩
