/-- the memory behind Merge.weighNode -/
def wnM (M : mM) (g9 nD nF m9 : Nat) (it nd bl ho nw : Int32) (f tt n : NV) : mM := mu M g9 (.inr (1, [.int (wnIt f tt n it), .int (nd + 1), .int (wnBl tt bl m9), .int (wnHo f tt n ho nw m9), .ref nD, .ref nF]))

set_option maxHeartbeats 4000000 in
set_option maxRecDepth 100000 in
theorem c_X1_weighKeptNN (l : Launch) (D : va_G) (k : Nat → ClassId) (z : Nat) (M : mM) (g9 nD nF m9 : Nat) (it nd bl ho : Int32) (hm9 : m9 ≤ 64) (hG : M g9 = some (.inr (1, [.int it, .int nd, .int bl, .int ho, .ref nD, .ref nF]))) (na : Nat) (n : NV) (hmg : mergedV n.2.2.1 n.2.2.1 n.2.2.1 = nI m9) (hN : nodeAt k M na n) : mK l yX1_weighKept wsX1_weighKept ({ frames := 3, cells := 0, slots := 0, locals := 84 }) D k z [.ref g9, .null, .null, .ref na] M (fun v M' => v = none ∧ M' = (wnM M g9 nD nF m9 it nd bl ho 0 n n n)) := by
  refine Met.ofW (cc := cX1_weighKept) (maxL := 4) (ret := none) (by decide) rfl ?_
  intro p e s m args below meth c s₁ B hml hv
  obtain ⟨rfl, hz, hcx, hm⟩ := hv
  have hx := B.exec
  have hb := B.bytes
  have hr := B.returns
  have hts := atoms_spec (ws := wsX1_weighKept) B.pre
  have hown : s.vm.findClass RX1 = some m.cls := findClass_of_methodNamed B.named
  have hlocks := B.notSynchronized
  have hK := hcx.1
  have hS : va_S (AZ z) s.heap s.heap [] := va_S.rf
  have hA : ∀ q, s.heap.size ≤ q → AZ z q := fun q h => Nat.le_trans hz h
  have hl := lv_entry ([.ref g9, .null, .null, .ref na]) (n := 4) (Nat.le_of_ble_eq_true rfl)
  rw [lg_entry_eq]
  generalize (lg_sl ([.ref g9, .null, .null, .ref na]) ++ List.replicate (4 - (lg_sl ([.ref g9, .null, .null, .ref na])).length) Slot.unset).toArray = ls at hl ⊢
  have hl : lv_has ls 4 [(0, .ref g9), (1, .null), (2, .null), (3, .ref na)] := hl
  refine lv_aload_nN hx hb dX1_weighKept_0 rfl (lv_at hl 1 rfl) ?_
  refine lv_ifnonnullN hx hb dX1_weighKept_1 ?_
  refine lv_aload_n hx hb dX1_weighKept_4 rfl (lv_at hl 0 rfl) ?_
  refine lv_aload_n hx hb dX1_weighKept_5 rfl (lv_at hl 3 rfl) ?_
  refine lv_aload_n hx hb dX1_weighKept_6 rfl (lv_at hl 3 rfl) ?_
  refine lv_aload_n hx hb dX1_weighKept_7 rfl (lv_at hl 3 rfl) ?_
  refine lv_iconst (v := 0) hx hb dX1_weighKept_8 (by decide) ?_
  refine m_kV (As := [.ref na, .ref na, .ref na, .int 0]) (rest := []) (rm := { frames := 2, cells := 0, slots := 0, locals := 54 }) ⟨hx, hb, hml, hown, hts⟩ (c_X1_weighNode l D k z _ g9 nD nF na na na m9 it nd bl ho 0 n n n hm9 hmg hG hN hN hN) (cwV 4 hts gX1_weighKept_X1_weighNode rfl rfl rfl (by decide +kernel) ⟨Nat.le_of_ble_eq_true rfl, Nat.le_of_ble_eq_true rfl⟩) (m_recv hK hm (q := (RX1, TX1, 6)) rfl hG) hz hcx hm hS rfl hl.1 rfl (Nat.le_of_ble_eq_true rfl) dX1_weighKept_9 ⟨Nat.le_of_ble_eq_true rfl, Nat.le_of_ble_eq_true rfl⟩ (fun v M1 H locs hv hm hS => ?_)
  obtain ⟨rfl, hM1⟩ := hv
  rw [hM1] at hm
  refine W.eq (g2 := F0 m 12 ls []) rfl ?_
  refine W.widen (k := 0) (n := 0) (Nat.le_of_ble_eq_true rfl) (Nat.le_of_ble_eq_true rfl) ?_
  have hm : mm D (AZ z) (wnM M g9 nD nF m9 it nd bl ho 0 n n n) H := hm
  refine lv_goto (tgt := 27) hx hb dX1_weighKept_12 (by decide) ?_
  refine W.vret hx hb hr (fun t ht hW => ⟨⟨none, _, rfl, ?_, by rw [ht]; exact hm⟩, hS.F ht⟩) hS.2.2 dX1_weighKept_27
  exact ⟨rfl, rfl⟩

set_option maxHeartbeats 4000000 in
set_option maxRecDepth 100000 in
theorem c_X1_weighKeptNR (l : Launch) (D : va_G) (k : Nat → ClassId) (z : Nat) (M : mM) (g9 nD nF m9 : Nat) (it nd bl ho : Int32) (hm9 : m9 ≤ 64) (hG : M g9 = some (.inr (1, [.int it, .int nd, .int bl, .int ho, .ref nD, .ref nF]))) (ta : Nat) (na : Nat) (n : NV) (hmg : mergedV n.2.2.1 n.2.2.1 n.2.2.1 = nI m9) (hN : nodeAt k M na n) : mK l yX1_weighKept wsX1_weighKept ({ frames := 3, cells := 0, slots := 0, locals := 84 }) D k z [.ref g9, .null, .ref ta, .ref na] M (fun v M' => v = none ∧ M' = (wnM M g9 nD nF m9 it nd bl ho 0 n n n)) := by
  refine Met.ofW (cc := cX1_weighKept) (maxL := 4) (ret := none) (by decide) rfl ?_
  intro p e s m args below meth c s₁ B hml hv
  obtain ⟨rfl, hz, hcx, hm⟩ := hv
  have hx := B.exec
  have hb := B.bytes
  have hr := B.returns
  have hts := atoms_spec (ws := wsX1_weighKept) B.pre
  have hown : s.vm.findClass RX1 = some m.cls := findClass_of_methodNamed B.named
  have hlocks := B.notSynchronized
  have hK := hcx.1
  have hS : va_S (AZ z) s.heap s.heap [] := va_S.rf
  have hA : ∀ q, s.heap.size ≤ q → AZ z q := fun q h => Nat.le_trans hz h
  have hl := lv_entry ([.ref g9, .null, .ref ta, .ref na]) (n := 4) (Nat.le_of_ble_eq_true rfl)
  rw [lg_entry_eq]
  generalize (lg_sl ([.ref g9, .null, .ref ta, .ref na]) ++ List.replicate (4 - (lg_sl ([.ref g9, .null, .ref ta, .ref na])).length) Slot.unset).toArray = ls at hl ⊢
  have hl : lv_has ls 4 [(0, .ref g9), (1, .null), (2, .ref ta), (3, .ref na)] := hl
  refine lv_aload_nN hx hb dX1_weighKept_0 rfl (lv_at hl 1 rfl) ?_
  refine lv_ifnonnullN hx hb dX1_weighKept_1 ?_
  refine lv_aload_n hx hb dX1_weighKept_4 rfl (lv_at hl 0 rfl) ?_
  refine lv_aload_n hx hb dX1_weighKept_5 rfl (lv_at hl 3 rfl) ?_
  refine lv_aload_n hx hb dX1_weighKept_6 rfl (lv_at hl 3 rfl) ?_
  refine lv_aload_n hx hb dX1_weighKept_7 rfl (lv_at hl 3 rfl) ?_
  refine lv_iconst (v := 0) hx hb dX1_weighKept_8 (by decide) ?_
  refine m_kV (As := [.ref na, .ref na, .ref na, .int 0]) (rest := []) (rm := { frames := 2, cells := 0, slots := 0, locals := 54 }) ⟨hx, hb, hml, hown, hts⟩ (c_X1_weighNode l D k z _ g9 nD nF na na na m9 it nd bl ho 0 n n n hm9 hmg hG hN hN hN) (cwV 4 hts gX1_weighKept_X1_weighNode rfl rfl rfl (by decide +kernel) ⟨Nat.le_of_ble_eq_true rfl, Nat.le_of_ble_eq_true rfl⟩) (m_recv hK hm (q := (RX1, TX1, 6)) rfl hG) hz hcx hm hS rfl hl.1 rfl (Nat.le_of_ble_eq_true rfl) dX1_weighKept_9 ⟨Nat.le_of_ble_eq_true rfl, Nat.le_of_ble_eq_true rfl⟩ (fun v M1 H locs hv hm hS => ?_)
  obtain ⟨rfl, hM1⟩ := hv
  rw [hM1] at hm
  refine W.eq (g2 := F0 m 12 ls []) rfl ?_
  refine W.widen (k := 0) (n := 0) (Nat.le_of_ble_eq_true rfl) (Nat.le_of_ble_eq_true rfl) ?_
  have hm : mm D (AZ z) (wnM M g9 nD nF m9 it nd bl ho 0 n n n) H := hm
  refine lv_goto (tgt := 27) hx hb dX1_weighKept_12 (by decide) ?_
  refine W.vret hx hb hr (fun t ht hW => ⟨⟨none, _, rfl, ?_, by rw [ht]; exact hm⟩, hS.F ht⟩) hS.2.2 dX1_weighKept_27
  exact ⟨rfl, rfl⟩

set_option maxHeartbeats 4000000 in
set_option maxRecDepth 100000 in
theorem c_X1_weighKeptRN (l : Launch) (D : va_G) (k : Nat → ClassId) (z : Nat) (M : mM) (g9 nD nF m9 : Nat) (it nd bl ho : Int32) (hm9 : m9 ≤ 64) (hG : M g9 = some (.inr (1, [.int it, .int nd, .int bl, .int ho, .ref nD, .ref nF]))) (fa na : Nat) : mK l yX1_weighKept wsX1_weighKept ({ frames := 3, cells := 0, slots := 0, locals := 84 }) D k z [.ref g9, .ref fa, .null, .ref na] M (fun v M' => v = none ∧ M' = M) := by
  refine Met.ofW (cc := cX1_weighKept) (maxL := 4) (ret := none) (by decide) rfl ?_
  intro p e s m args below meth c s₁ B hml hv
  obtain ⟨rfl, hz, hcx, hm⟩ := hv
  have hx := B.exec
  have hb := B.bytes
  have hr := B.returns
  have hts := atoms_spec (ws := wsX1_weighKept) B.pre
  have hown : s.vm.findClass RX1 = some m.cls := findClass_of_methodNamed B.named
  have hlocks := B.notSynchronized
  have hK := hcx.1
  have hS : va_S (AZ z) s.heap s.heap [] := va_S.rf
  have hA : ∀ q, s.heap.size ≤ q → AZ z q := fun q h => Nat.le_trans hz h
  have hl := lv_entry ([.ref g9, .ref fa, .null, .ref na]) (n := 4) (Nat.le_of_ble_eq_true rfl)
  rw [lg_entry_eq]
  generalize (lg_sl ([.ref g9, .ref fa, .null, .ref na]) ++ List.replicate (4 - (lg_sl ([.ref g9, .ref fa, .null, .ref na])).length) Slot.unset).toArray = ls at hl ⊢
  have hl : lv_has ls 4 [(0, .ref g9), (1, .ref fa), (2, .null), (3, .ref na)] := hl
  refine lv_aload_n hx hb dX1_weighKept_0 rfl (lv_at hl 1 rfl) ?_
  refine lv_ifnonnull (tgt := 15) hx hb dX1_weighKept_1 (by decide) ?_
  refine lv_aload_nN hx hb dX1_weighKept_15 rfl (lv_at hl 2 rfl) ?_
  refine lv_ifnullN (tgt := 27) hx hb dX1_weighKept_16 (by decide) ?_
  refine W.vret hx hb hr (fun t ht hW => ⟨⟨none, _, rfl, ?_, by rw [ht]; exact hm⟩, hS.F ht⟩) hS.2.2 dX1_weighKept_27
  exact ⟨rfl, rfl⟩

set_option maxHeartbeats 4000000 in
set_option maxRecDepth 100000 in
theorem c_X1_weighKeptRR (l : Launch) (D : va_G) (k : Nat → ClassId) (z : Nat) (M : mM) (g9 nD nF m9 : Nat) (it nd bl ho : Int32) (hm9 : m9 ≤ 64) (hG : M g9 = some (.inr (1, [.int it, .int nd, .int bl, .int ho, .ref nD, .ref nF]))) (fa ta na : Nat) (f tt n : NV) (hmg : mergedV f.2.2.1 tt.2.2.1 n.2.2.1 = nI m9) (hF : nodeAt k M fa f) (hT : nodeAt k M ta tt) (hN : nodeAt k M na n) : mK l yX1_weighKept wsX1_weighKept ({ frames := 3, cells := 0, slots := 0, locals := 84 }) D k z [.ref g9, .ref fa, .ref ta, .ref na] M (fun v M' => v = none ∧ M' = (wnM M g9 nD nF m9 it nd bl ho 0 f tt n)) := by
  refine Met.ofW (cc := cX1_weighKept) (maxL := 4) (ret := none) (by decide) rfl ?_
  intro p e s m args below meth c s₁ B hml hv
  obtain ⟨rfl, hz, hcx, hm⟩ := hv
  have hx := B.exec
  have hb := B.bytes
  have hr := B.returns
  have hts := atoms_spec (ws := wsX1_weighKept) B.pre
  have hown : s.vm.findClass RX1 = some m.cls := findClass_of_methodNamed B.named
  have hlocks := B.notSynchronized
  have hK := hcx.1
  have hS : va_S (AZ z) s.heap s.heap [] := va_S.rf
  have hA : ∀ q, s.heap.size ≤ q → AZ z q := fun q h => Nat.le_trans hz h
  have hl := lv_entry ([.ref g9, .ref fa, .ref ta, .ref na]) (n := 4) (Nat.le_of_ble_eq_true rfl)
  rw [lg_entry_eq]
  generalize (lg_sl ([.ref g9, .ref fa, .ref ta, .ref na]) ++ List.replicate (4 - (lg_sl ([.ref g9, .ref fa, .ref ta, .ref na])).length) Slot.unset).toArray = ls at hl ⊢
  have hl : lv_has ls 4 [(0, .ref g9), (1, .ref fa), (2, .ref ta), (3, .ref na)] := hl
  refine lv_aload_n hx hb dX1_weighKept_0 rfl (lv_at hl 1 rfl) ?_
  refine lv_ifnonnull (tgt := 15) hx hb dX1_weighKept_1 (by decide) ?_
  refine lv_aload_n hx hb dX1_weighKept_15 rfl (lv_at hl 2 rfl) ?_
  refine lv_ifnull hx hb dX1_weighKept_16 ?_
  refine lv_aload_n hx hb dX1_weighKept_19 rfl (lv_at hl 0 rfl) ?_
  refine lv_aload_n hx hb dX1_weighKept_20 rfl (lv_at hl 1 rfl) ?_
  refine lv_aload_n hx hb dX1_weighKept_21 rfl (lv_at hl 2 rfl) ?_
  refine lv_aload_n hx hb dX1_weighKept_22 rfl (lv_at hl 3 rfl) ?_
  refine lv_iconst (v := 0) hx hb dX1_weighKept_23 (by decide) ?_
  refine m_kV (As := [.ref fa, .ref ta, .ref na, .int 0]) (rest := []) (rm := { frames := 2, cells := 0, slots := 0, locals := 54 }) ⟨hx, hb, hml, hown, hts⟩ (c_X1_weighNode l D k z _ g9 nD nF fa ta na m9 it nd bl ho 0 f tt n hm9 hmg hG hF hT hN) (cwV 4 hts gX1_weighKept_X1_weighNode rfl rfl rfl (by decide +kernel) ⟨Nat.le_of_ble_eq_true rfl, Nat.le_of_ble_eq_true rfl⟩) (m_recv hK hm (q := (RX1, TX1, 6)) rfl hG) hz hcx hm hS rfl hl.1 rfl (Nat.le_of_ble_eq_true rfl) dX1_weighKept_24 ⟨Nat.le_of_ble_eq_true rfl, Nat.le_of_ble_eq_true rfl⟩ (fun v M1 H locs hv hm hS => ?_)
  obtain ⟨rfl, hM1⟩ := hv
  rw [hM1] at hm
  refine W.eq (g2 := F0 m 27 ls []) rfl ?_
  refine W.widen (k := 0) (n := 0) (Nat.le_of_ble_eq_true rfl) (Nat.le_of_ble_eq_true rfl) ?_
  have hm : mm D (AZ z) (wnM M g9 nD nF m9 it nd bl ho 0 f tt n) H := hm
  refine W.vret hx hb hr (fun t ht hW => ⟨⟨none, _, rfl, ?_, by rw [ht]; exact hm⟩, hS.F ht⟩) hS.2.2 dX1_weighKept_27
  exact ⟨rfl, rfl⟩

set_option maxHeartbeats 4000000 in
set_option maxRecDepth 100000 in
theorem c_X1_weighMade (l : Launch) (D : va_G) (k : Nat → ClassId) (z : Nat) (M : mM) (g9 nD nF m9 : Nat) (it nd bl ho : Int32) (hm9 : m9 ≤ 64) (hG : M g9 = some (.inr (1, [.int it, .int nd, .int bl, .int ho, .ref nD, .ref nF]))) (ta : Nat) (tt v0 v1 : NV) (hq0 : mergedV v0.2.2.1 tt.2.2.1 v0.2.2.1 = nI m9) (hq1 : mergedV v1.2.2.1 tt.2.2.1 v1.2.2.1 = nI m9) (hT : nodeAt k M ta tt) (hD : nodeAt k M nD v1) (hE : nodeAt k M nF v0) : mK l yX1_weighMade wsX1_weighMade ({ frames := 3, cells := 0, slots := 0, locals := 84 }) D k z [.ref g9, .ref ta] M (fun v M' => v = none ∧ M' = if tt.2.1 = 0 then wnM M g9 nD nF m9 (it + 1) nd bl ho 1 v0 tt v0 else wnM M g9 nD nF m9 (it + 1) nd bl ho 1 v1 tt v1) := by
  refine Met.ofW (cc := cX1_weighMade) (maxL := 3) (ret := none) (by decide) rfl ?_
  intro p e s m args below meth c s₁ B hml hv
  obtain ⟨rfl, hz, hcx, hm⟩ := hv
  have hx := B.exec
  have hb := B.bytes
  have hr := B.returns
  have hts := atoms_spec (ws := wsX1_weighMade) B.pre
  have hown : s.vm.findClass RX1 = some m.cls := findClass_of_methodNamed B.named
  have hlocks := B.notSynchronized
  have hK := hcx.1
  have hS : va_S (AZ z) s.heap s.heap [] := va_S.rf
  have hA : ∀ q, s.heap.size ≤ q → AZ z q := fun q h => Nat.le_trans hz h
  have hl := lv_entry ([.ref g9, .ref ta]) (n := 3) (Nat.le_of_ble_eq_true rfl)
  rw [lg_entry_eq]
  generalize (lg_sl ([.ref g9, .ref ta]) ++ List.replicate (3 - (lg_sl ([.ref g9, .ref ta])).length) Slot.unset).toArray = ls at hl ⊢
  have hl : lv_has ls 3 [(0, .ref g9), (1, .ref ta)] := hl
  have f9 := hts (.fieldLink RX1 9 "CommitTree$Merge" "items" "I") (by decide +kernel)
  have f30 := hts (.fieldLink RX1 30 "CommitTree$Merge" "noDirectory" "LCommitTree$Node;") (by decide +kernel)
  have f34 := hts (.fieldLink RX1 34 "CommitTree$Merge" "noFile" "LCommitTree$Node;") (by decide +kernel)
  have f64 := hts (.fieldLink RX1 64 "CommitTree$Node" "directory" "Z") (by decide +kernel)
  have wX1 : ∀ w ∈ wsX10, w ∈ wsX1_weighMade := by decide +kernel
  have wX2 : ∀ w ∈ wsX20, w ∈ wsX1_weighMade := by decide +kernel
  obtain ⟨hdt, cta, hnta, hcta⟩ := And.intro hT.1 hT.2
  have ne_ta_g9 : ta ≠ g9 := m_df hG hnta (by intro h; cases h)
  refine lv_aload_n hx hb dX1_weighMade_0 rfl (lv_at hl 1 rfl) ?_
  refine m_get (T := TX2) (N := 4) (ci := 2) (v := .int tt.2.1) hx hb hts wX2 hown hK hm hnta rfl 1 (by decide) f64 (fun _ h9 => h9) rfl dX1_weighMade_1 ?_
  refine lv_if_eq (tgt := 14) hx hb dX1_weighMade_4 (by decide) (fun c1 => ?_) (fun c1 => ?_)
  · refine lv_aload_n hx hb dX1_weighMade_14 rfl (lv_at hl 0 rfl) ?_
    refine m_get (T := TX1) (N := 6) (ci := 1) (v := .ref nF) hx hb hts wX1 hown hK hm hG rfl 5 (by decide) f34 (fun _ h9 => h9) rfl dX1_weighMade_15 ?_
    refine lv_astore_n (lv' := [(2, .ref nF), (0, .ref g9), (1, .ref ta)]) hx hb dX1_weighMade_18 rfl hl (by decide) rfl (fun ls hl => ?_)
    refine lv_aload_n hx hb dX1_weighMade_19 rfl (lv_at hl 1 rfl) ?_
    refine lv_dup hx hb dX1_weighMade_20 rfl ?_
    refine m_get (T := TX1) (N := 6) (ci := 1) (v := .int it) hx hb hts wX1 hown hK hm hG rfl 0 (by decide) f9 (fun _ h9 => h9) rfl dX1_weighMade_21 ?_
    refine lv_iconst (v := 1) hx hb dX1_weighMade_24 (by decide) ?_
    refine lv_iadd hx hb dX1_weighMade_25 ?_
    refine m_put (T := TX1) (N := 6) (ci := 1) (v := .int (it + 1)) (ty := .int) hx hb hts wX1 tyX1 tyX1_ok nmX1 hown hK hm hS hG rfl 0 (by decide) f9 (fun _ h9 => h9) rfl (by decide +kernel) rfl rfl (Nat.le_of_ble_eq_true rfl) dX1_weighMade_26 (fun H locs hm hS => ?_)
    have hm : mm D (AZ z) (mu M g9 (.inr (1, [.int (it + 1), .int nd, .int bl, .int ho, .ref nD, .ref nF]))) H := hm
    refine lv_aload_n hx hb dX1_weighMade_29 rfl (lv_at hl 1 rfl) ?_
    refine lv_aload_n hx hb dX1_weighMade_30 rfl (lv_at hl 0 rfl) ?_
    refine lv_aload_n hx hb dX1_weighMade_31 rfl (lv_at hl 2 rfl) ?_
    refine lv_aload_n hx hb dX1_weighMade_32 rfl (lv_at hl 0 rfl) ?_
    refine lv_iconst (v := 1) hx hb dX1_weighMade_33 (by decide) ?_
    refine m_kV (As := [.ref nF, .ref ta, .ref nF, .int 1]) (rest := []) (rm := { frames := 2, cells := 0, slots := 0, locals := 54 }) ⟨hx, hb, hml, hown, hts⟩ (c_X1_weighNode l D k z _ g9 nD nF nF ta nF m9 (it + 1) nd bl ho 1 v0 tt v0 hm9 hq0 (mu_self _ _ _) (nodeAt_mu hE hG (other_merge _ _)) (nodeAt_mu hT hG (other_merge _ _)) (nodeAt_mu hE hG (other_merge _ _))) (cwV 4 hts gX1_weighMade_X1_weighNode rfl rfl rfl (by decide +kernel) ⟨Nat.le_of_ble_eq_true rfl, Nat.le_of_ble_eq_true rfl⟩) (m_recv hK hm (q := (RX1, TX1, 6)) rfl (mu_self _ _ _)) hz hcx hm hS rfl hl.1 rfl (Nat.le_of_ble_eq_true rfl) dX1_weighMade_34 ⟨Nat.le_of_ble_eq_true rfl, Nat.le_of_ble_eq_true rfl⟩ (fun v M1 H locs hv hm hS => ?_)
    obtain ⟨rfl, hM1⟩ := hv
    rw [mu_mu] at hM1
    rw [hM1] at hm
    refine W.eq (g2 := F0 m 37 ls []) rfl ?_
    refine W.widen (k := 0) (n := 0) (Nat.le_of_ble_eq_true rfl) (Nat.le_of_ble_eq_true rfl) ?_
    have hm : mm D (AZ z) (wnM M g9 nD nF m9 (it + 1) nd bl ho 1 v0 tt v0) H := hm
    refine W.vret hx hb hr (fun t ht hW => ⟨⟨none, _, rfl, ?_, by rw [ht]; exact hm⟩, hS.F ht⟩) hS.2.2 dX1_weighMade_37
    first
      | exact ⟨rfl, (if_pos c1).symm⟩
      | exact ⟨rfl, (if_neg c1).symm⟩
  · refine lv_aload_n hx hb dX1_weighMade_7 rfl (lv_at hl 0 rfl) ?_
    refine m_get (T := TX1) (N := 6) (ci := 1) (v := .ref nD) hx hb hts wX1 hown hK hm hG rfl 4 (by decide) f30 (fun _ h9 => h9) rfl dX1_weighMade_8 ?_
    refine lv_goto (tgt := 18) hx hb dX1_weighMade_11 (by decide) ?_
    refine lv_astore_n (lv' := [(2, .ref nD), (0, .ref g9), (1, .ref ta)]) hx hb dX1_weighMade_18 rfl hl (by decide) rfl (fun ls hl => ?_)
    refine lv_aload_n hx hb dX1_weighMade_19 rfl (lv_at hl 1 rfl) ?_
    refine lv_dup hx hb dX1_weighMade_20 rfl ?_
    refine m_get (T := TX1) (N := 6) (ci := 1) (v := .int it) hx hb hts wX1 hown hK hm hG rfl 0 (by decide) f9 (fun _ h9 => h9) rfl dX1_weighMade_21 ?_
    refine lv_iconst (v := 1) hx hb dX1_weighMade_24 (by decide) ?_
    refine lv_iadd hx hb dX1_weighMade_25 ?_
    refine m_put (T := TX1) (N := 6) (ci := 1) (v := .int (it + 1)) (ty := .int) hx hb hts wX1 tyX1 tyX1_ok nmX1 hown hK hm hS hG rfl 0 (by decide) f9 (fun _ h9 => h9) rfl (by decide +kernel) rfl rfl (Nat.le_of_ble_eq_true rfl) dX1_weighMade_26 (fun H locs hm hS => ?_)
    have hm : mm D (AZ z) (mu M g9 (.inr (1, [.int (it + 1), .int nd, .int bl, .int ho, .ref nD, .ref nF]))) H := hm
    refine lv_aload_n hx hb dX1_weighMade_29 rfl (lv_at hl 1 rfl) ?_
    refine lv_aload_n hx hb dX1_weighMade_30 rfl (lv_at hl 0 rfl) ?_
    refine lv_aload_n hx hb dX1_weighMade_31 rfl (lv_at hl 2 rfl) ?_
    refine lv_aload_n hx hb dX1_weighMade_32 rfl (lv_at hl 0 rfl) ?_
    refine lv_iconst (v := 1) hx hb dX1_weighMade_33 (by decide) ?_
    refine m_kV (As := [.ref nD, .ref ta, .ref nD, .int 1]) (rest := []) (rm := { frames := 2, cells := 0, slots := 0, locals := 54 }) ⟨hx, hb, hml, hown, hts⟩ (c_X1_weighNode l D k z _ g9 nD nF nD ta nD m9 (it + 1) nd bl ho 1 v1 tt v1 hm9 hq1 (mu_self _ _ _) (nodeAt_mu hD hG (other_merge _ _)) (nodeAt_mu hT hG (other_merge _ _)) (nodeAt_mu hD hG (other_merge _ _))) (cwV 4 hts gX1_weighMade_X1_weighNode rfl rfl rfl (by decide +kernel) ⟨Nat.le_of_ble_eq_true rfl, Nat.le_of_ble_eq_true rfl⟩) (m_recv hK hm (q := (RX1, TX1, 6)) rfl (mu_self _ _ _)) hz hcx hm hS rfl hl.1 rfl (Nat.le_of_ble_eq_true rfl) dX1_weighMade_34 ⟨Nat.le_of_ble_eq_true rfl, Nat.le_of_ble_eq_true rfl⟩ (fun v M1 H locs hv hm hS => ?_)
    obtain ⟨rfl, hM1⟩ := hv
    rw [mu_mu] at hM1
    rw [hM1] at hm
    refine W.eq (g2 := F0 m 37 ls []) rfl ?_
    refine W.widen (k := 0) (n := 0) (Nat.le_of_ble_eq_true rfl) (Nat.le_of_ble_eq_true rfl) ?_
    have hm : mm D (AZ z) (wnM M g9 nD nF m9 (it + 1) nd bl ho 1 v1 tt v1) H := hm
    refine W.vret hx hb hr (fun t ht hW => ⟨⟨none, _, rfl, ?_, by rw [ht]; exact hm⟩, hS.F ht⟩) hS.2.2 dX1_weighMade_37
    first
      | exact ⟨rfl, (if_pos c1).symm⟩
      | exact ⟨rfl, (if_neg c1).symm⟩
