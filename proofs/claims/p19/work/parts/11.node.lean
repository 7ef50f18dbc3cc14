theorem bo_n {d : Int32} (h : d = 0 ∨ d = 1) : narrow .boolean (.int d) = .int d := by rcases h with rfl | rfl <;> rfl
theorem bo_f {d : Int32} (h : d = 0 ∨ d = 1) : fits .boolean (.int d) = true := by rcases h with rfl | rfl <;> rfl
theorem in_of {i : Int32} {n : Nat} (h1 : ¬ i < 0) (h2 : ¬ nI n ≤ i) (hn : n < 2 ^ 31) : vp_in i n := by
  obtain ⟨j, hj, rfl, -⟩ := pk_mu h1 h2 hn
  exact vp_in_nI hj hn
set_option maxHeartbeats 4000000 in
set_option maxRecDepth 100000 in
theorem c_X2_init (l : Launch) (D : va_G) (k : Nat → ClassId) (z : Nat) (M : mM) (h0 ca : Nat) (id dr sz : Int32) (hdr : dr = 0 ∨ dr = 1) (ho : M h0 = some (.inr (2, [.int 0, .int 0, .int 0, .null]))) : mK l yX2_init wsX2_init ({ frames := 1, cells := 0, slots := 0, locals := 12 }) D k z [.ref h0, .int id, .int dr, .int sz, .ref ca] M (fun v M' => v = none ∧ M' = mu M h0 (.inr (2, [.int id, .int dr, .int sz, .ref ca]))) := by
  refine Met.ofW (cc := cX2_init) (maxL := 5) (ret := none) (by decide) rfl ?_
  intro p e s m args below meth c s₁ B hml hv
  obtain ⟨rfl, hz, hcx, hm⟩ := hv
  have hx := B.exec
  have hb := B.bytes
  have hr := B.returns
  have hts := atoms_spec (ws := wsX2_init) B.pre
  have hown : s.vm.findClass RX2 = some m.cls := findClass_of_methodNamed B.named
  have hlocks := B.notSynchronized
  have hK := hcx.1
  have hS : va_S (AZ z) s.heap s.heap [] := va_S.rf
  have hA : ∀ q, s.heap.size ≤ q → AZ z q := fun q h => Nat.le_trans hz h
  have hin : meth.name = "<init>" := (name_of_methodNamed B.named B.method).1
  have hl := lv_entry ([.ref h0, .int id, .int dr, .int sz, .ref ca]) (n := 5) (Nat.le_of_ble_eq_true rfl)
  rw [lg_entry_eq]
  generalize (lg_sl ([.ref h0, .int id, .int dr, .int sz, .ref ca]) ++ List.replicate (5 - (lg_sl ([.ref h0, .int id, .int dr, .int sz, .ref ca])).length) Slot.unset).toArray = ls at hl ⊢
  have hl : lv_has ls 5 [(0, .ref h0), (1, .int id), (2, .int dr), (3, .int sz), (4, .ref ca)] := hl
  have f9 := hts (.fieldLink RX2 9 "CommitTree$Node" "id" "I") (by decide +kernel)
  have f15 := hts (.fieldLink RX2 15 "CommitTree$Node" "directory" "Z") (by decide +kernel)
  have f19 := hts (.fieldLink RX2 19 "CommitTree$Node" "size" "I") (by decide +kernel)
  have f22 := hts (.fieldLink RX2 22 "CommitTree$Node" "cells" "[I") (by decide +kernel)
  have wX2 : ∀ w ∈ wsX20, w ∈ wsX2_init := by decide +kernel
  refine lv_aload_n hx hb dX2_init_0 rfl (lv_at hl 0 rfl) ?_
  refine W.objInit hx hb hown (hts (.methodLink RX2 3 objectInit) (by decide +kernel)) (hts (.instanceMethod objectInit) (by decide +kernel)) (hts (.code objectInit ⟨#[0xb1]⟩ 1 none) (by decide +kernel)) rfl (by rw [hml]; exact hl.1) rfl dX2_init_1 (Nat.le_of_ble_eq_true rfl) (Nat.le_of_ble_eq_true rfl) ?_
  refine W.eq (g2 := F0 m 4 ls []) rfl ?_
  refine lv_aload_n hx hb dX2_init_4 rfl (lv_at hl 0 rfl) ?_
  refine lv_iload_n hx hb dX2_init_5 rfl (lv_at hl 1 rfl) ?_
  refine m_putF (T := TX2) (N := 4) (ci := 2) (v := .int id) (ty := .int) hx hb hts wX2 tyX2 tyX2_ok nmX2 hown hK hm hS ho rfl 0 (by decide) f9 (fun _ h9 => h9) rfl hin rfl (by decide +kernel) rfl rfl (Nat.le_of_ble_eq_true rfl) dX2_init_6 (fun H locs hm hS => ?_)
  have hm : mm D (AZ z) (mu M h0 (.inr (2, [.int id, .int 0, .int 0, .null]))) H := hm
  refine lv_aload_n hx hb dX2_init_9 rfl (lv_at hl 0 rfl) ?_
  refine lv_iload_n hx hb dX2_init_10 rfl (lv_at hl 2 rfl) ?_
  refine m_putF (T := TX2) (N := 4) (ci := 2) (v := .int dr) (ty := .boolean) hx hb hts wX2 tyX2 tyX2_ok nmX2 hown hK hm hS (mu_self _ _ _) rfl 1 (by decide) f15 (fun _ h9 => h9) rfl hin rfl (by decide +kernel) (bo_n hdr) (bo_f hdr) (Nat.le_of_ble_eq_true rfl) dX2_init_11 (fun H locs hm hS => ?_)
  have hm : mm D (AZ z) (mu (mu M h0 (.inr (2, [.int id, .int 0, .int 0, .null]))) h0 (.inr (2, [.int id, .int dr, .int 0, .null]))) H := hm
  refine lv_aload_n hx hb dX2_init_14 rfl (lv_at hl 0 rfl) ?_
  refine lv_iload_n hx hb dX2_init_15 rfl (lv_at hl 3 rfl) ?_
  refine m_putF (T := TX2) (N := 4) (ci := 2) (v := .int sz) (ty := .int) hx hb hts wX2 tyX2 tyX2_ok nmX2 hown hK hm hS (mu_self _ _ _) rfl 2 (by decide) f19 (fun _ h9 => h9) rfl hin rfl (by decide +kernel) rfl rfl (Nat.le_of_ble_eq_true rfl) dX2_init_16 (fun H locs hm hS => ?_)
  have hm : mm D (AZ z) (mu (mu (mu M h0 (.inr (2, [.int id, .int 0, .int 0, .null]))) h0 (.inr (2, [.int id, .int dr, .int 0, .null]))) h0 (.inr (2, [.int id, .int dr, .int sz, .null]))) H := hm
  refine lv_aload_n hx hb dX2_init_19 rfl (lv_at hl 0 rfl) ?_
  refine lv_aload hx hb dX2_init_20 (lv_at hl 4 rfl) ?_
  refine m_putF (T := TX2) (N := 4) (ci := 2) (v := .ref ca) (ty := .array .int) hx hb hts wX2 tyX2 tyX2_ok nmX2 hown hK hm hS (mu_self _ _ _) rfl 3 (by decide) f22 (fun _ h9 => h9) rfl hin rfl (by decide +kernel) rfl rfl (Nat.le_of_ble_eq_true rfl) dX2_init_22 (fun H locs hm hS => ?_)
  have hm : mm D (AZ z) (mu (mu (mu (mu M h0 (.inr (2, [.int id, .int 0, .int 0, .null]))) h0 (.inr (2, [.int id, .int dr, .int 0, .null]))) h0 (.inr (2, [.int id, .int dr, .int sz, .null]))) h0 (.inr (2, [.int id, .int dr, .int sz, .ref ca]))) H := hm
  refine W.vret hx hb hr (fun t ht hW => ⟨⟨none, _, rfl, ?_, by rw [ht]; exact hm⟩, hS.F ht⟩) hS.2.2 dX2_init_25
  exact ⟨rfl, by simp only [mu_mu]⟩

/-- what Node.cell answers -/
def nd_cell (n : Nat) (f : Nat → Int32) (i : Int32) : Int32 := if i < 0 then 0 else if nI n ≤ i then 0 else f i.toNatClampNeg

set_option maxHeartbeats 4000000 in
set_option maxRecDepth 100000 in
theorem c_X2_cell (l : Launch) (D : va_G) (k : Nat → ClassId) (z : Nat) (M : mM) (h0 ca n : Nat) (id dr sz i : Int32) (f : Nat → Int32) (hn : n < 2 ^ 31) (ho : M h0 = some (.inr (2, [.int id, .int dr, .int sz, .ref ca]))) (ha : M ca = some (.inl (k 0, n, .inl f))) : mK l yX2_cell wsX2_cell ({ frames := 0, cells := 0, slots := 0, locals := 0 }) D k z [.ref h0, .int i] M (fun v M' => v = some (.int (nd_cell n f i)) ∧ M' = M) := by
  refine Met.ofW (cc := cX2_cell) (maxL := 2) (ret := (some .int)) (by decide) rfl ?_
  intro p e s m args below meth c s₁ B hml hv
  obtain ⟨rfl, hz, hcx, hm⟩ := hv
  have hx := B.exec
  have hb := B.bytes
  have hr := B.returns
  have hts := atoms_spec (ws := wsX2_cell) B.pre
  have hown : s.vm.findClass RX2 = some m.cls := findClass_of_methodNamed B.named
  have hlocks := B.notSynchronized
  have hK := hcx.1
  have hS : va_S (AZ z) s.heap s.heap [] := va_S.rf
  have hA : ∀ q, s.heap.size ≤ q → AZ z q := fun q h => Nat.le_trans hz h
  have hl := lv_entry ([.ref h0, .int i]) (n := 2) (Nat.le_of_ble_eq_true rfl)
  rw [lg_entry_eq]
  generalize (lg_sl ([.ref h0, .int i]) ++ List.replicate (2 - (lg_sl ([.ref h0, .int i])).length) Slot.unset).toArray = ls at hl ⊢
  have hl : lv_has ls 2 [(0, .ref h0), (1, .int i)] := hl
  have f22 := hts (.fieldLink RX2 22 "CommitTree$Node" "cells" "[I") (by decide +kernel)
  have wX2 : ∀ w ∈ wsX20, w ∈ wsX2_cell := by decide +kernel
  refine lv_iload_n hx hb dX2_cell_0 rfl (lv_at hl 1 rfl) ?_
  refine lv_if_lt (tgt := 22) hx hb dX2_cell_1 (by decide) (fun c1 => ?_) (fun c1 => ?_)
  · refine lv_iconst (v := 0) hx hb dX2_cell_22 (by decide) ?_
    refine W.iret (v := 0) hx hb hr (fun t ht hW => ⟨⟨some (.int 0), _, rfl, ?_, by rw [ht]; exact hm⟩, hS.F ht⟩) hS.2.2 dX2_cell_23
    exact ⟨by simp [nd_cell, c1], rfl⟩
  · refine lv_iload_n hx hb dX2_cell_4 rfl (lv_at hl 1 rfl) ?_
    refine lv_aload_n hx hb dX2_cell_5 rfl (lv_at hl 0 rfl) ?_
    refine m_get (T := TX2) (N := 4) (ci := 2) (v := .ref ca) hx hb hts wX2 hown hK hm ho rfl 3 (by decide) f22 (fun _ h9 => h9) rfl dX2_cell_6 ?_
    refine m_alen hx hb hK hm 0 ha rfl (v := nI n) rfl dX2_cell_9 ?_
    refine lv_icmp_ge (tgt := 22) hx hb dX2_cell_10 (by decide) (fun c2 => ?_) (fun c2 => ?_)
    · refine lv_iconst (v := 0) hx hb dX2_cell_22 (by decide) ?_
      refine W.iret (v := 0) hx hb hr (fun t ht hW => ⟨⟨some (.int 0), _, rfl, ?_, by rw [ht]; exact hm⟩, hS.F ht⟩) hS.2.2 dX2_cell_23
      exact ⟨by simp [nd_cell, c1, c2], rfl⟩
    · refine lv_aload_n hx hb dX2_cell_13 rfl (lv_at hl 0 rfl) ?_
      refine m_get (T := TX2) (N := 4) (ci := 2) (v := .ref ca) hx hb hts wX2 hown hK hm ho rfl 3 (by decide) f22 (fun _ h9 => h9) rfl dX2_cell_14 ?_
      refine lv_iload_n hx hb dX2_cell_17 rfl (lv_at hl 1 rfl) ?_
      refine m_iald hx hb hK hm 0 ha rfl (in_of c1 c2 hn) dX2_cell_18 ?_
      refine lv_goto (tgt := 23) hx hb dX2_cell_19 (by decide) ?_
      refine W.iret (v := (f i.toNatClampNeg)) hx hb hr (fun t ht hW => ⟨⟨some (.int (f i.toNatClampNeg)), _, rfl, ?_, by rw [ht]; exact hm⟩, hS.F ht⟩) hS.2.2 dX2_cell_23
      exact ⟨by simp [nd_cell, c1, c2], rfl⟩

set_option maxHeartbeats 4000000 in
set_option maxRecDepth 100000 in
theorem c_X2_blank1 (l : Launch) (D : va_G) (k : Nat → ClassId) (z : Nat) (M : mM) (id : Int32) : mK l yX2_blank wsX2_blank ({ frames := 2, cells := 2, slots := 68, locals := 40 }) D k z [.int id, .int 1] M (fun v M' => ∃ q qa, M q = none ∧ M qa = none ∧ q ≠ qa ∧ v = some (.ref q) ∧ M' = mu (mu M qa (.inl (k 0, 16, .inl (fun _ => 0)))) q (.inr (2, [.int id, .int 1, .int 0, .ref qa]))) := by
  refine Met.ofW (cc := cX2_blank) (maxL := 2) (ret := (some (.object "CommitTree$Node"))) (by decide) rfl ?_
  intro p e s m args below meth c s₁ B hml hv
  obtain ⟨rfl, hz, hcx, hm⟩ := hv
  have hx := B.exec
  have hb := B.bytes
  have hr := B.returns
  have hts := atoms_spec (ws := wsX2_blank) B.pre
  have hown : s.vm.findClass RX2 = some m.cls := findClass_of_methodNamed B.named
  have hlocks := B.notSynchronized
  have hK := hcx.1
  have hS : va_S (AZ z) s.heap s.heap [] := va_S.rf
  have hA : ∀ q, s.heap.size ≤ q → AZ z q := fun q h => Nat.le_trans hz h
  have hl := lv_entry ([.int id, .int 1]) (n := 2) (Nat.le_of_ble_eq_true rfl)
  rw [lg_entry_eq]
  generalize (lg_sl ([.int id, .int 1]) ++ List.replicate (2 - (lg_sl ([.int id, .int 1])).length) Slot.unset).toArray = ls at hl ⊢
  have hl : lv_has ls 2 [(0, .int id), (1, .int 1)] := hl
  have wX2 : ∀ w ∈ wsX20, w ∈ wsX2_blank := by decide +kernel
  refine m_new (T := TX2) (N := 4) (ci := 2) (fs := [.int 0, .int 0, .int 0, .null]) hx hb hts wX2 tyX2 tyX2_ok hown (hts (.classLink RX2 10 RX2) (by decide +kernel)) (hts (.instantiable RX2 4) (by decide +kernel)) (hts (.initialized RX2) (by decide +kernel)) hK hm hS hA rfl (fun j hj => by rcases (show j = 0 ∨ j = 1 ∨ j = 2 ∨ j = 3 by omega) with rfl | rfl | rfl | rfl <;> rfl) (Nat.le_of_ble_eq_true rfl) (Nat.le_of_ble_eq_true rfl) dX2_blank_0 (fun q H hq hm hS => ?_)
  refine W.widen (k := 1) (n := 4) (Nat.le_of_ble_eq_true rfl) (Nat.le_of_ble_eq_true rfl) ?_
  have hm : mm D (AZ z) (mu M q (.inr (2, [.int 0, .int 0, .int 0, .null]))) H := hm
  refine lv_dup hx hb dX2_blank_3 rfl ?_
  refine lv_iload_n hx hb dX2_blank_4 rfl (lv_at hl 0 rfl) ?_
  refine lv_iload_n hx hb dX2_blank_5 rfl (lv_at hl 1 rfl) ?_
  refine lv_iconst (v := 0) hx hb dX2_blank_6 (by decide) ?_
  refine lv_iload_n hx hb dX2_blank_7 rfl (lv_at hl 1 rfl) ?_
  refine lv_if_eq (tgt := 16) hx hb dX2_blank_8 (by decide) (fun c2 => ?_) (fun c2 => ?_)
  · exact absurd c2 (by decide)
  · refine lv_bipush (v := 16) hx hb dX2_blank_11 (by decide) ?_
    refine lv_goto (tgt := 18) hx hb dX2_blank_13 (by decide) ?_
    refine m_newa (atype := .int) hx hb (hts (.arrayClass .int) (by decide +kernel)) (ty := .int) rfl (fun C h => by cases h) hK 0 rfl hm hS hA (N' := 16) (a0 := (16, .inl (fun _ => 0))) (fun cA => vp_cell_i cA _ _) (by decide) rfl (by decide) (Nat.le_of_ble_eq_true rfl) (Nat.le_of_ble_eq_true rfl) dX2_blank_18 (fun qa H hqa hm hS => ?_)
    refine W.widen (k := 2) (n := 20) (Nat.le_of_ble_eq_true rfl) (Nat.le_of_ble_eq_true rfl) ?_
    have ne_q_qa : q ≠ qa := m_fr hqa (mu_self _ _ _)
    have ne_qa_q : qa ≠ q := Ne.symm ne_q_qa
    have hm : mm D (AZ z) (mu (mu M q (.inr (2, [.int 0, .int 0, .int 0, .null]))) qa (.inl (k 0, 16, .inl (fun _ => 0)))) H := hm
    refine m_kI (As := [.int id, .int 1, .int 0, .ref qa]) (rest := [.ref q]) (rm := { frames := 1, cells := 0, slots := 0, locals := 12 }) ⟨hx, hb, hml, hown, hts⟩ (c_X2_init l D k z _ q qa id 1 0 (by decide) ((mu_ne ne_q_qa).trans (mu_self _ _ _))) (cwI 4 hts gX2_blank_X2_init rfl rfl rfl (hts (.initialized RX2) (by decide +kernel)) (hts (.methodLink RX2 26 yX2_init) (by decide +kernel)) (hts (.instanceMethod yX2_init) (by decide +kernel)) rfl (by decide +kernel) ⟨Nat.le_of_ble_eq_true rfl, Nat.le_of_ble_eq_true rfl⟩) hz hcx hm hS rfl hl.1 rfl (Nat.le_of_ble_eq_true rfl) dX2_blank_20 ⟨Nat.le_of_ble_eq_true rfl, Nat.le_of_ble_eq_true rfl⟩ (fun v M1 H locs hv hm hS => ?_)
    obtain ⟨rfl, rfl⟩ := hv
    refine W.eq (g2 := F0 m 23 ls [.ref q]) rfl ?_
    refine W.widen (k := 2) (n := 20) (Nat.le_of_ble_eq_true rfl) (Nat.le_of_ble_eq_true rfl) ?_
    have hm : mm D (AZ z) (mu (mu (mu M q (.inr (2, [.int 0, .int 0, .int 0, .null]))) qa (.inl (k 0, 16, .inl (fun _ => 0)))) q (.inr (2, [.int id, .int 1, .int 0, .ref qa]))) H := hm
    refine W.widen (k := 2) (n := 68) (by omega) (by omega) ?_
    refine W.aret (v := .ref q) hx hb hr (Or.inl ⟨_, rfl⟩) (Or.inr ⟨_, rfl⟩) (fun t ht hW => ⟨⟨some (.ref q), _, rfl, ?_, by rw [ht]; exact hm⟩, hS.F ht⟩) hS.2.2 dX2_blank_23
    refine ⟨q, qa, hq, (mu_ne ne_qa_q).symm.trans hqa, ne_q_qa, rfl, ?_⟩
    rw [mu_comm (M := M) ne_q_qa, mu_mu]

set_option maxHeartbeats 4000000 in
set_option maxRecDepth 100000 in
theorem c_X2_blank0 (l : Launch) (D : va_G) (k : Nat → ClassId) (z : Nat) (M : mM) (id : Int32) : mK l yX2_blank wsX2_blank ({ frames := 2, cells := 2, slots := 68, locals := 40 }) D k z [.int id, .int 0] M (fun v M' => ∃ q qa, M q = none ∧ M qa = none ∧ q ≠ qa ∧ v = some (.ref q) ∧ M' = mu (mu M qa (.inl (k 0, 64, .inl (fun _ => 0)))) q (.inr (2, [.int id, .int 0, .int 0, .ref qa]))) := by
  refine Met.ofW (cc := cX2_blank) (maxL := 2) (ret := (some (.object "CommitTree$Node"))) (by decide) rfl ?_
  intro p e s m args below meth c s₁ B hml hv
  obtain ⟨rfl, hz, hcx, hm⟩ := hv
  have hx := B.exec
  have hb := B.bytes
  have hr := B.returns
  have hts := atoms_spec (ws := wsX2_blank) B.pre
  have hown : s.vm.findClass RX2 = some m.cls := findClass_of_methodNamed B.named
  have hlocks := B.notSynchronized
  have hK := hcx.1
  have hS : va_S (AZ z) s.heap s.heap [] := va_S.rf
  have hA : ∀ q, s.heap.size ≤ q → AZ z q := fun q h => Nat.le_trans hz h
  have hl := lv_entry ([.int id, .int 0]) (n := 2) (Nat.le_of_ble_eq_true rfl)
  rw [lg_entry_eq]
  generalize (lg_sl ([.int id, .int 0]) ++ List.replicate (2 - (lg_sl ([.int id, .int 0])).length) Slot.unset).toArray = ls at hl ⊢
  have hl : lv_has ls 2 [(0, .int id), (1, .int 0)] := hl
  have wX2 : ∀ w ∈ wsX20, w ∈ wsX2_blank := by decide +kernel
  refine m_new (T := TX2) (N := 4) (ci := 2) (fs := [.int 0, .int 0, .int 0, .null]) hx hb hts wX2 tyX2 tyX2_ok hown (hts (.classLink RX2 10 RX2) (by decide +kernel)) (hts (.instantiable RX2 4) (by decide +kernel)) (hts (.initialized RX2) (by decide +kernel)) hK hm hS hA rfl (fun j hj => by rcases (show j = 0 ∨ j = 1 ∨ j = 2 ∨ j = 3 by omega) with rfl | rfl | rfl | rfl <;> rfl) (Nat.le_of_ble_eq_true rfl) (Nat.le_of_ble_eq_true rfl) dX2_blank_0 (fun q H hq hm hS => ?_)
  refine W.widen (k := 1) (n := 4) (Nat.le_of_ble_eq_true rfl) (Nat.le_of_ble_eq_true rfl) ?_
  have hm : mm D (AZ z) (mu M q (.inr (2, [.int 0, .int 0, .int 0, .null]))) H := hm
  refine lv_dup hx hb dX2_blank_3 rfl ?_
  refine lv_iload_n hx hb dX2_blank_4 rfl (lv_at hl 0 rfl) ?_
  refine lv_iload_n hx hb dX2_blank_5 rfl (lv_at hl 1 rfl) ?_
  refine lv_iconst (v := 0) hx hb dX2_blank_6 (by decide) ?_
  refine lv_iload_n hx hb dX2_blank_7 rfl (lv_at hl 1 rfl) ?_
  refine lv_if_eq (tgt := 16) hx hb dX2_blank_8 (by decide) (fun c2 => ?_) (fun c2 => ?_)
  · refine lv_bipush (v := 64) hx hb dX2_blank_16 (by decide) ?_
    refine m_newa (atype := .int) hx hb (hts (.arrayClass .int) (by decide +kernel)) (ty := .int) rfl (fun C h => by cases h) hK 0 rfl hm hS hA (N' := 64) (a0 := (64, .inl (fun _ => 0))) (fun cA => vp_cell_i cA _ _) (by decide) rfl (by decide) (Nat.le_of_ble_eq_true rfl) (Nat.le_of_ble_eq_true rfl) dX2_blank_18 (fun qa H hqa hm hS => ?_)
    refine W.widen (k := 2) (n := 68) (Nat.le_of_ble_eq_true rfl) (Nat.le_of_ble_eq_true rfl) ?_
    have ne_q_qa : q ≠ qa := m_fr hqa (mu_self _ _ _)
    have ne_qa_q : qa ≠ q := Ne.symm ne_q_qa
    have hm : mm D (AZ z) (mu (mu M q (.inr (2, [.int 0, .int 0, .int 0, .null]))) qa (.inl (k 0, 64, .inl (fun _ => 0)))) H := hm
    refine m_kI (As := [.int id, .int 0, .int 0, .ref qa]) (rest := [.ref q]) (rm := { frames := 1, cells := 0, slots := 0, locals := 12 }) ⟨hx, hb, hml, hown, hts⟩ (c_X2_init l D k z _ q qa id 0 0 (by decide) ((mu_ne ne_q_qa).trans (mu_self _ _ _))) (cwI 4 hts gX2_blank_X2_init rfl rfl rfl (hts (.initialized RX2) (by decide +kernel)) (hts (.methodLink RX2 26 yX2_init) (by decide +kernel)) (hts (.instanceMethod yX2_init) (by decide +kernel)) rfl (by decide +kernel) ⟨Nat.le_of_ble_eq_true rfl, Nat.le_of_ble_eq_true rfl⟩) hz hcx hm hS rfl hl.1 rfl (Nat.le_of_ble_eq_true rfl) dX2_blank_20 ⟨Nat.le_of_ble_eq_true rfl, Nat.le_of_ble_eq_true rfl⟩ (fun v M1 H locs hv hm hS => ?_)
    obtain ⟨rfl, rfl⟩ := hv
    refine W.eq (g2 := F0 m 23 ls [.ref q]) rfl ?_
    refine W.widen (k := 2) (n := 68) (Nat.le_of_ble_eq_true rfl) (Nat.le_of_ble_eq_true rfl) ?_
    have hm : mm D (AZ z) (mu (mu (mu M q (.inr (2, [.int 0, .int 0, .int 0, .null]))) qa (.inl (k 0, 64, .inl (fun _ => 0)))) q (.inr (2, [.int id, .int 0, .int 0, .ref qa]))) H := hm
    refine W.aret (v := .ref q) hx hb hr (Or.inl ⟨_, rfl⟩) (Or.inr ⟨_, rfl⟩) (fun t ht hW => ⟨⟨some (.ref q), _, rfl, ?_, by rw [ht]; exact hm⟩, hS.F ht⟩) hS.2.2 dX2_blank_23
    refine ⟨q, qa, hq, (mu_ne ne_qa_q).symm.trans hqa, ne_q_qa, rfl, ?_⟩
    rw [mu_comm (M := M) ne_q_qa, mu_mu]
  · exact absurd rfl c2
