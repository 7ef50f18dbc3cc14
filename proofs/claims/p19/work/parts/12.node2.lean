/-- what Node.withCell holds -/
def nd_set (n : Nat) (f : Nat → Int32) (i x : Int32) : Nat → Int32 := if i < 0 then f else if nI n ≤ i then f else upd f i.toNatClampNeg x

set_option maxHeartbeats 4000000 in
set_option maxRecDepth 100000 in
theorem c_X2_withCell (l : Launch) (D : va_G) (k : Nat → ClassId) (z : Nat) (M : mM) (h0 ca n : Nat) (id dr sz : Int32) (f : Nat → Int32) (hn : n ≤ 64) (hdr : dr = 0 ∨ dr = 1) (hne : ca ≠ h0) (ho : M h0 = some (.inr (2, [.int id, .int dr, .int sz, .ref ca]))) (ha : M ca = some (.inl (k 0, n, .inl f))) (i x ns : Int32) : mK l yX2_withCell wsX2_withCell ({ frames := 2, cells := 2, slots := 68, locals := 40 }) D k z [.ref h0, .int i, .int x, .int ns] M (fun v M' => ∃ q qa, M q = none ∧ M qa = none ∧ q ≠ qa ∧ v = some (.ref q) ∧ M' = mu (mu M qa (.inl (k 0, n, .inl (nd_set n f i x)))) q (.inr (2, [.int id, .int dr, .int ns, .ref qa]))) := by
  refine Met.ofW (cc := cX2_withCell) (maxL := 5) (ret := (some (.object "CommitTree$Node"))) (by decide) rfl ?_
  intro p e s m args below meth c s₁ B hml hv
  obtain ⟨rfl, hz, hcx, hm⟩ := hv
  have hx := B.exec
  have hb := B.bytes
  have hr := B.returns
  have hts := atoms_spec (ws := wsX2_withCell) B.pre
  have hown : s.vm.findClass RX2 = some m.cls := findClass_of_methodNamed B.named
  have hlocks := B.notSynchronized
  have hK := hcx.1
  have hS : va_S (AZ z) s.heap s.heap [] := va_S.rf
  have hA : ∀ q, s.heap.size ≤ q → AZ z q := fun q h => Nat.le_trans hz h
  have hl := lv_entry ([.ref h0, .int i, .int x, .int ns]) (n := 5) (Nat.le_of_ble_eq_true rfl)
  rw [lg_entry_eq]
  generalize (lg_sl ([.ref h0, .int i, .int x, .int ns]) ++ List.replicate (5 - (lg_sl ([.ref h0, .int i, .int x, .int ns])).length) Slot.unset).toArray = ls at hl ⊢
  have hl : lv_has ls 5 [(0, .ref h0), (1, .int i), (2, .int x), (3, .int ns)] := hl
  have f9 := hts (.fieldLink RX2 9 "CommitTree$Node" "id" "I") (by decide +kernel)
  have f15 := hts (.fieldLink RX2 15 "CommitTree$Node" "directory" "Z") (by decide +kernel)
  have f22 := hts (.fieldLink RX2 22 "CommitTree$Node" "cells" "[I") (by decide +kernel)
  have wX2 : ∀ w ∈ wsX20, w ∈ wsX2_withCell := by decide +kernel
  refine lv_aload_n hx hb dX2_withCell_0 rfl (lv_at hl 0 rfl) ?_
  refine m_get (T := TX2) (N := 4) (ci := 2) (v := .ref ca) hx hb hts wX2 hown hK hm ho rfl 3 (by decide) f22 (fun _ h9 => h9) rfl dX2_withCell_1 ?_
  refine m_clone hx hb (hml.trans hl.1.symm) (ad := "[I") hown (hts (.methodLink RX2 29 ⟨"[I", "clone", "()Ljava/lang/Object;"⟩) (by decide +kernel)) (hts (.sameMethod "[I" "java/lang/Object" "clone" "()Ljava/lang/Object;") (by decide +kernel)) (hts (.native ⟨"java/lang/Object", "clone", "()Ljava/lang/Object;"⟩) (by decide +kernel)) (hts (.instanceMethod ⟨"java/lang/Object", "clone", "()Ljava/lang/Object;"⟩) (by decide +kernel)) (hts (.selects "[I" ⟨"[I", "clone", "()Ljava/lang/Object;"⟩ ⟨"java/lang/Object", "clone", "()Ljava/lang/Object;"⟩) (by decide +kernel)) hcx.2.2.2.1.2 hK hm hS hA 0 (x := (n, .inl f)) (ty := .int) ha rfl (va_nm_int (hK.2 0 _ rfl).2) (fun i v hv => va_fit (ty := .int) (F := fun j => .int (f j)) (fun i _ => rfl) i v hv) (Nat.le_of_ble_eq_true rfl) (Nat.le_of_ble_eq_true rfl) (Nat.le_of_ble_eq_true rfl) (show 0 + n ≤ 68 by omega) dX2_withCell_4 (fun qa H hqa hm hS => ?_)
  refine W.widen (k := 1) (n := 64) (Nat.le_of_ble_eq_true rfl) (show 0 + n ≤ 64 by omega) ?_
  have ne_h0_qa : h0 ≠ qa := m_fr hqa ho
  have ne_qa_h0 : qa ≠ h0 := Ne.symm ne_h0_qa
  have ne_ca_qa : ca ≠ qa := m_fr hqa ha
  have ne_qa_ca : qa ≠ ca := Ne.symm ne_ca_qa
  have hm : mm D (AZ z) (mu M qa (.inl (k 0, n, .inl f))) H := hm
  refine m_castA hx hb hown (hts (.classLink RX2 30 "[I") (by decide +kernel)) hm (mu_self _ _ _) (va_nm_int (hK.2 0 _ rfl).2) dX2_withCell_7 ?_
  refine lv_astore (lv' := [(4, .ref qa), (0, .ref h0), (1, .int i), (2, .int x), (3, .int ns)]) hx hb dX2_withCell_10 hl (by decide) rfl (fun ls hl => ?_)
  refine lv_iload_n hx hb dX2_withCell_12 rfl (lv_at hl 2 rfl) ?_
  refine lv_if_lt (tgt := 28) hx hb dX2_withCell_13 (by decide) (fun c2 => ?_) (fun c2 => ?_)
  · refine m_new (T := TX2) (N := 4) (ci := 2) (fs := [.int 0, .int 0, .int 0, .null]) hx hb hts wX2 tyX2 tyX2_ok hown (hts (.classLink RX2 10 RX2) (by decide +kernel)) (hts (.instantiable RX2 4) (by decide +kernel)) (hts (.initialized RX2) (by decide +kernel)) hK hm hS hA rfl (fun j hj => by rcases (show j = 0 ∨ j = 1 ∨ j = 2 ∨ j = 3 by omega) with rfl | rfl | rfl | rfl <;> rfl) (Nat.le_of_ble_eq_true rfl) (Nat.le_of_ble_eq_true rfl) dX2_withCell_28 (fun q H hq hm hS => ?_)
    refine W.widen (k := 2) (n := 68) (Nat.le_of_ble_eq_true rfl) (Nat.le_of_ble_eq_true rfl) ?_
    have ne_h0_q : h0 ≠ q := m_fr hq ((mu_ne ne_h0_qa).trans ho)
    have ne_q_h0 : q ≠ h0 := Ne.symm ne_h0_q
    have ne_ca_q : ca ≠ q := m_fr hq ((mu_ne ne_ca_qa).trans ha)
    have ne_q_ca : q ≠ ca := Ne.symm ne_ca_q
    have ne_qa_q : qa ≠ q := m_fr hq (mu_self _ _ _)
    have ne_q_qa : q ≠ qa := Ne.symm ne_qa_q
    have hm : mm D (AZ z) (mu (mu M qa (.inl (k 0, n, .inl f))) q (.inr (2, [.int 0, .int 0, .int 0, .null]))) H := hm
    refine lv_dup hx hb dX2_withCell_31 rfl ?_
    refine lv_aload_n hx hb dX2_withCell_32 rfl (lv_at hl 1 rfl) ?_
    refine m_get (T := TX2) (N := 4) (ci := 2) (v := .int id) hx hb hts wX2 hown hK hm ((mu_ne ne_h0_q).trans ((mu_ne ne_h0_qa).trans ho)) rfl 0 (by decide) f9 (fun _ h9 => h9) rfl dX2_withCell_33 ?_
    refine lv_aload_n hx hb dX2_withCell_36 rfl (lv_at hl 1 rfl) ?_
    refine m_get (T := TX2) (N := 4) (ci := 2) (v := .int dr) hx hb hts wX2 hown hK hm ((mu_ne ne_h0_q).trans ((mu_ne ne_h0_qa).trans ho)) rfl 1 (by decide) f15 (fun _ h9 => h9) rfl dX2_withCell_37 ?_
    refine lv_iload_n hx hb dX2_withCell_40 rfl (lv_at hl 4 rfl) ?_
    refine lv_aload hx hb dX2_withCell_41 (lv_at hl 0 rfl) ?_
    refine m_kI (As := [.int id, .int dr, .int ns, .ref qa]) (rest := [.ref q]) (rm := { frames := 1, cells := 0, slots := 0, locals := 12 }) ⟨hx, hb, hml, hown, hts⟩ (c_X2_init l D k z _ q qa id dr ns hdr (mu_self _ _ _)) (cwI 4 hts gX2_withCell_X2_init rfl rfl rfl (hts (.initialized RX2) (by decide +kernel)) (hts (.methodLink RX2 26 yX2_init) (by decide +kernel)) (hts (.instanceMethod yX2_init) (by decide +kernel)) rfl (by decide +kernel) ⟨Nat.le_of_ble_eq_true rfl, Nat.le_of_ble_eq_true rfl⟩) hz hcx hm hS rfl hl.1 rfl (Nat.le_of_ble_eq_true rfl) dX2_withCell_43 ⟨Nat.le_of_ble_eq_true rfl, Nat.le_of_ble_eq_true rfl⟩ (fun v M1 H locs hv hm hS => ?_)
    obtain ⟨rfl, rfl⟩ := hv
    refine W.eq (g2 := F0 m 46 ls [.ref q]) rfl ?_
    refine W.widen (k := 2) (n := 68) (Nat.le_of_ble_eq_true rfl) (Nat.le_of_ble_eq_true rfl) ?_
    have hm : mm D (AZ z) (mu (mu (mu M qa (.inl (k 0, n, .inl f))) q (.inr (2, [.int 0, .int 0, .int 0, .null]))) q (.inr (2, [.int id, .int dr, .int ns, .ref qa]))) H := hm
    refine W.aret (v := .ref q) hx hb hr (Or.inl ⟨_, rfl⟩) (Or.inr ⟨_, rfl⟩) (fun t ht hW => ⟨⟨some (.ref q), _, rfl, ?_, by rw [ht]; exact hm⟩, hS.F ht⟩) hS.2.2 dX2_withCell_46
    refine ⟨q, qa, by simpa [mu_ne ne_q_qa] using hq, hqa, ne_q_qa, rfl, ?_⟩
    simp [mu_mu, nd_set, c2]
  · refine lv_iload_n hx hb dX2_withCell_16 rfl (lv_at hl 2 rfl) ?_
    refine lv_aload hx hb dX2_withCell_17 (lv_at hl 0 rfl) ?_
    refine m_alen hx hb hK hm 0 (mu_self _ _ _) rfl (v := nI n) rfl dX2_withCell_19 ?_
    refine lv_icmp_ge (tgt := 28) hx hb dX2_withCell_20 (by decide) (fun c4 => ?_) (fun c4 => ?_)
    · refine m_new (T := TX2) (N := 4) (ci := 2) (fs := [.int 0, .int 0, .int 0, .null]) hx hb hts wX2 tyX2 tyX2_ok hown (hts (.classLink RX2 10 RX2) (by decide +kernel)) (hts (.instantiable RX2 4) (by decide +kernel)) (hts (.initialized RX2) (by decide +kernel)) hK hm hS hA rfl (fun j hj => by rcases (show j = 0 ∨ j = 1 ∨ j = 2 ∨ j = 3 by omega) with rfl | rfl | rfl | rfl <;> rfl) (Nat.le_of_ble_eq_true rfl) (Nat.le_of_ble_eq_true rfl) dX2_withCell_28 (fun q H hq hm hS => ?_)
      refine W.widen (k := 2) (n := 68) (Nat.le_of_ble_eq_true rfl) (Nat.le_of_ble_eq_true rfl) ?_
      have ne_h0_q : h0 ≠ q := m_fr hq ((mu_ne ne_h0_qa).trans ho)
      have ne_q_h0 : q ≠ h0 := Ne.symm ne_h0_q
      have ne_ca_q : ca ≠ q := m_fr hq ((mu_ne ne_ca_qa).trans ha)
      have ne_q_ca : q ≠ ca := Ne.symm ne_ca_q
      have ne_qa_q : qa ≠ q := m_fr hq (mu_self _ _ _)
      have ne_q_qa : q ≠ qa := Ne.symm ne_qa_q
      have hm : mm D (AZ z) (mu (mu M qa (.inl (k 0, n, .inl f))) q (.inr (2, [.int 0, .int 0, .int 0, .null]))) H := hm
      refine lv_dup hx hb dX2_withCell_31 rfl ?_
      refine lv_aload_n hx hb dX2_withCell_32 rfl (lv_at hl 1 rfl) ?_
      refine m_get (T := TX2) (N := 4) (ci := 2) (v := .int id) hx hb hts wX2 hown hK hm ((mu_ne ne_h0_q).trans ((mu_ne ne_h0_qa).trans ho)) rfl 0 (by decide) f9 (fun _ h9 => h9) rfl dX2_withCell_33 ?_
      refine lv_aload_n hx hb dX2_withCell_36 rfl (lv_at hl 1 rfl) ?_
      refine m_get (T := TX2) (N := 4) (ci := 2) (v := .int dr) hx hb hts wX2 hown hK hm ((mu_ne ne_h0_q).trans ((mu_ne ne_h0_qa).trans ho)) rfl 1 (by decide) f15 (fun _ h9 => h9) rfl dX2_withCell_37 ?_
      refine lv_iload_n hx hb dX2_withCell_40 rfl (lv_at hl 4 rfl) ?_
      refine lv_aload hx hb dX2_withCell_41 (lv_at hl 0 rfl) ?_
      refine m_kI (As := [.int id, .int dr, .int ns, .ref qa]) (rest := [.ref q]) (rm := { frames := 1, cells := 0, slots := 0, locals := 12 }) ⟨hx, hb, hml, hown, hts⟩ (c_X2_init l D k z _ q qa id dr ns hdr (mu_self _ _ _)) (cwI 4 hts gX2_withCell_X2_init rfl rfl rfl (hts (.initialized RX2) (by decide +kernel)) (hts (.methodLink RX2 26 yX2_init) (by decide +kernel)) (hts (.instanceMethod yX2_init) (by decide +kernel)) rfl (by decide +kernel) ⟨Nat.le_of_ble_eq_true rfl, Nat.le_of_ble_eq_true rfl⟩) hz hcx hm hS rfl hl.1 rfl (Nat.le_of_ble_eq_true rfl) dX2_withCell_43 ⟨Nat.le_of_ble_eq_true rfl, Nat.le_of_ble_eq_true rfl⟩ (fun v M1 H locs hv hm hS => ?_)
      obtain ⟨rfl, rfl⟩ := hv
      refine W.eq (g2 := F0 m 46 ls [.ref q]) rfl ?_
      refine W.widen (k := 2) (n := 68) (Nat.le_of_ble_eq_true rfl) (Nat.le_of_ble_eq_true rfl) ?_
      have hm : mm D (AZ z) (mu (mu (mu M qa (.inl (k 0, n, .inl f))) q (.inr (2, [.int 0, .int 0, .int 0, .null]))) q (.inr (2, [.int id, .int dr, .int ns, .ref qa]))) H := hm
      refine W.aret (v := .ref q) hx hb hr (Or.inl ⟨_, rfl⟩) (Or.inr ⟨_, rfl⟩) (fun t ht hW => ⟨⟨some (.ref q), _, rfl, ?_, by rw [ht]; exact hm⟩, hS.F ht⟩) hS.2.2 dX2_withCell_46
      refine ⟨q, qa, by simpa [mu_ne ne_q_qa] using hq, hqa, ne_q_qa, rfl, ?_⟩
      simp [mu_mu, nd_set, c2, c4]
    · refine lv_aload hx hb dX2_withCell_23 (lv_at hl 0 rfl) ?_
      refine lv_iload_n hx hb dX2_withCell_25 rfl (lv_at hl 2 rfl) ?_
      refine lv_iload_n hx hb dX2_withCell_26 rfl (lv_at hl 3 rfl) ?_
      refine m_iast hx hb hK hm hS 0 (mu_self _ _ _) rfl (in_of c2 c4 (by omega)) dX2_withCell_27 (fun H locs hm hS => ?_)
      have hm : mm D (AZ z) (mu (mu M qa (.inl (k 0, n, .inl f))) qa (.inl (k 0, n, .inl (upd f i.toNatClampNeg x)))) H := hm
      refine m_new (T := TX2) (N := 4) (ci := 2) (fs := [.int 0, .int 0, .int 0, .null]) hx hb hts wX2 tyX2 tyX2_ok hown (hts (.classLink RX2 10 RX2) (by decide +kernel)) (hts (.instantiable RX2 4) (by decide +kernel)) (hts (.initialized RX2) (by decide +kernel)) hK hm hS hA rfl (fun j hj => by rcases (show j = 0 ∨ j = 1 ∨ j = 2 ∨ j = 3 by omega) with rfl | rfl | rfl | rfl <;> rfl) (Nat.le_of_ble_eq_true rfl) (Nat.le_of_ble_eq_true rfl) dX2_withCell_28 (fun q H hq hm hS => ?_)
      refine W.widen (k := 2) (n := 68) (Nat.le_of_ble_eq_true rfl) (Nat.le_of_ble_eq_true rfl) ?_
      have ne_h0_q : h0 ≠ q := m_fr hq ((mu_ne ne_h0_qa).trans ((mu_ne ne_h0_qa).trans ho))
      have ne_q_h0 : q ≠ h0 := Ne.symm ne_h0_q
      have ne_ca_q : ca ≠ q := m_fr hq ((mu_ne ne_ca_qa).trans ((mu_ne ne_ca_qa).trans ha))
      have ne_q_ca : q ≠ ca := Ne.symm ne_ca_q
      have ne_qa_q : qa ≠ q := m_fr hq (mu_self _ _ _)
      have ne_q_qa : q ≠ qa := Ne.symm ne_qa_q
      have hm : mm D (AZ z) (mu (mu (mu M qa (.inl (k 0, n, .inl f))) qa (.inl (k 0, n, .inl (upd f i.toNatClampNeg x)))) q (.inr (2, [.int 0, .int 0, .int 0, .null]))) H := hm
      refine lv_dup hx hb dX2_withCell_31 rfl ?_
      refine lv_aload_n hx hb dX2_withCell_32 rfl (lv_at hl 1 rfl) ?_
      refine m_get (T := TX2) (N := 4) (ci := 2) (v := .int id) hx hb hts wX2 hown hK hm ((mu_ne ne_h0_q).trans ((mu_ne ne_h0_qa).trans ((mu_ne ne_h0_qa).trans ho))) rfl 0 (by decide) f9 (fun _ h9 => h9) rfl dX2_withCell_33 ?_
      refine lv_aload_n hx hb dX2_withCell_36 rfl (lv_at hl 1 rfl) ?_
      refine m_get (T := TX2) (N := 4) (ci := 2) (v := .int dr) hx hb hts wX2 hown hK hm ((mu_ne ne_h0_q).trans ((mu_ne ne_h0_qa).trans ((mu_ne ne_h0_qa).trans ho))) rfl 1 (by decide) f15 (fun _ h9 => h9) rfl dX2_withCell_37 ?_
      refine lv_iload_n hx hb dX2_withCell_40 rfl (lv_at hl 4 rfl) ?_
      refine lv_aload hx hb dX2_withCell_41 (lv_at hl 0 rfl) ?_
      refine m_kI (As := [.int id, .int dr, .int ns, .ref qa]) (rest := [.ref q]) (rm := { frames := 1, cells := 0, slots := 0, locals := 12 }) ⟨hx, hb, hml, hown, hts⟩ (c_X2_init l D k z _ q qa id dr ns hdr (mu_self _ _ _)) (cwI 4 hts gX2_withCell_X2_init rfl rfl rfl (hts (.initialized RX2) (by decide +kernel)) (hts (.methodLink RX2 26 yX2_init) (by decide +kernel)) (hts (.instanceMethod yX2_init) (by decide +kernel)) rfl (by decide +kernel) ⟨Nat.le_of_ble_eq_true rfl, Nat.le_of_ble_eq_true rfl⟩) hz hcx hm hS rfl hl.1 rfl (Nat.le_of_ble_eq_true rfl) dX2_withCell_43 ⟨Nat.le_of_ble_eq_true rfl, Nat.le_of_ble_eq_true rfl⟩ (fun v M1 H locs hv hm hS => ?_)
      obtain ⟨rfl, rfl⟩ := hv
      refine W.eq (g2 := F0 m 46 ls [.ref q]) rfl ?_
      refine W.widen (k := 2) (n := 68) (Nat.le_of_ble_eq_true rfl) (Nat.le_of_ble_eq_true rfl) ?_
      have hm : mm D (AZ z) (mu (mu (mu (mu M qa (.inl (k 0, n, .inl f))) qa (.inl (k 0, n, .inl (upd f i.toNatClampNeg x)))) q (.inr (2, [.int 0, .int 0, .int 0, .null]))) q (.inr (2, [.int id, .int dr, .int ns, .ref qa]))) H := hm
      refine W.aret (v := .ref q) hx hb hr (Or.inl ⟨_, rfl⟩) (Or.inr ⟨_, rfl⟩) (fun t ht hW => ⟨⟨some (.ref q), _, rfl, ?_, by rw [ht]; exact hm⟩, hS.F ht⟩) hS.2.2 dX2_withCell_46
      refine ⟨q, qa, by simpa [mu_ne ne_q_qa] using hq, hqa, ne_q_qa, rfl, ?_⟩
      simp [mu_mu, nd_set, c2, c4]

set_option maxHeartbeats 4000000 in
set_option maxRecDepth 100000 in
theorem c_X2_blocks (l : Launch) (D : va_G) (k : Nat → ClassId) (z : Nat) (M : mM) (h0 ca : Nat) (id dr sz : Int32) (ho : M h0 = some (.inr (2, [.int id, .int dr, .int sz, .ref ca]))) : mK l yX2_blocks wsX2_blocks ({ frames := 1, cells := 0, slots := 0, locals := 20 }) D k z [.ref h0] M (fun v M' => v = some (.int (if dr = 0 then 1 + (sz + 8 - 1) / 8 else 1)) ∧ M' = M) := by
  refine Met.ofW (cc := cX2_blocks) (maxL := 1) (ret := (some .int)) (by decide) rfl ?_
  intro p e s m args below meth c s₁ B hml hv
  obtain ⟨rfl, hz, hcx, hm⟩ := hv
  have hx := B.exec
  have hb := B.bytes
  have hr := B.returns
  have hts := atoms_spec (ws := wsX2_blocks) B.pre
  have hown : s.vm.findClass RX2 = some m.cls := findClass_of_methodNamed B.named
  have hlocks := B.notSynchronized
  have hK := hcx.1
  have hS : va_S (AZ z) s.heap s.heap [] := va_S.rf
  have hA : ∀ q, s.heap.size ≤ q → AZ z q := fun q h => Nat.le_trans hz h
  have hl := lv_entry ([.ref h0]) (n := 1) (Nat.le_of_ble_eq_true rfl)
  rw [lg_entry_eq]
  generalize (lg_sl ([.ref h0]) ++ List.replicate (1 - (lg_sl ([.ref h0])).length) Slot.unset).toArray = ls at hl ⊢
  have hl : lv_has ls 1 [(0, .ref h0)] := hl
  have f15 := hts (.fieldLink RX2 15 "CommitTree$Node" "directory" "Z") (by decide +kernel)
  have f19 := hts (.fieldLink RX2 19 "CommitTree$Node" "size" "I") (by decide +kernel)
  have wX2 : ∀ w ∈ wsX20, w ∈ wsX2_blocks := by decide +kernel
  refine lv_aload_n hx hb dX2_blocks_0 rfl (lv_at hl 0 rfl) ?_
  refine m_get (T := TX2) (N := 4) (ci := 2) (v := .int dr) hx hb hts wX2 hown hK hm ho rfl 1 (by decide) f15 (fun _ h9 => h9) rfl dX2_blocks_1 ?_
  refine lv_if_eq (tgt := 11) hx hb dX2_blocks_4 (by decide) (fun c1 => ?_) (fun c1 => ?_)
  · refine lv_iconst (v := 1) hx hb dX2_blocks_11 (by decide) ?_
    refine lv_aload_n hx hb dX2_blocks_12 rfl (lv_at hl 0 rfl) ?_
    refine m_get (T := TX2) (N := 4) (ci := 2) (v := .int sz) hx hb hts wX2 hown hK hm ho rfl 2 (by decide) f19 (fun _ h9 => h9) rfl dX2_blocks_13 ?_
    refine m_kS (As := [.int sz]) (rest := [.int 1]) (rm := { frames := 0, cells := 0, slots := 0, locals := 0 }) ⟨hx, hb, hml, hown, hts⟩ (c_X2_wordBlocks l D k z _ sz) (cwS 1 hts gX2_blocks_X2_wordBlocks rfl rfl rfl (by decide +kernel) ⟨Nat.le_of_ble_eq_true rfl, Nat.le_of_ble_eq_true rfl⟩) hz hcx hm hS rfl hl.1 rfl (Nat.le_of_ble_eq_true rfl) dX2_blocks_16 ⟨Nat.le_of_ble_eq_true rfl, Nat.le_of_ble_eq_true rfl⟩ (fun v M1 H locs hv hm hS => ?_)
    obtain ⟨rfl, hM1⟩ := hv
    rw [hM1] at hm
    refine W.eq (g2 := F0 m 19 ls [.int ((sz + 8 - 1) / 8), .int 1]) rfl ?_
    refine W.widen (k := 0) (n := 0) (Nat.le_of_ble_eq_true rfl) (Nat.le_of_ble_eq_true rfl) ?_
    have hm : mm D (AZ z) M H := hm
    refine lv_iadd hx hb dX2_blocks_19 ?_
    refine W.iret (v := (1 + ((sz + 8 - 1) / 8))) hx hb hr (fun t ht hW => ⟨⟨some (.int (1 + ((sz + 8 - 1) / 8))), _, rfl, ?_, by rw [ht]; exact hm⟩, hS.F ht⟩) hS.2.2 dX2_blocks_20
    exact ⟨by simp [c1], rfl⟩
  · refine lv_iconst (v := 1) hx hb dX2_blocks_7 (by decide) ?_
    refine lv_goto (tgt := 20) hx hb dX2_blocks_8 (by decide) ?_
    refine W.iret (v := 1) hx hb hr (fun t ht hW => ⟨⟨some (.int 1), _, rfl, ?_, by rw [ht]; exact hm⟩, hS.F ht⟩) hS.2.2 dX2_blocks_20
    exact ⟨by simp [c1], rfl⟩

set_option maxHeartbeats 4000000 in
set_option maxRecDepth 100000 in
theorem c_X4_init (l : Launch) (D : va_G) (k : Nat → ClassId) (z : Nat) (M : mM) (h0 : Nat) (ho : M h0 = some (.inr (4, [.null, .int 0]))) : mK l yX4_init wsX4_init ({ frames := 1, cells := 1, slots := 60, locals := 12 }) D k z [.ref h0] M (fun v M' => ∃ q, M q = none ∧ v = none ∧ M' = mu (mu M q (.inl (k 3, 60, .inr (.inr (.inr (.inr (fun _ => none))))))) h0 (.inr (4, [.ref q, .int 0]))) := by
  refine Met.ofW (cc := cX4_init) (maxL := 1) (ret := none) (by decide) rfl ?_
  intro p e s m args below meth c s₁ B hml hv
  obtain ⟨rfl, hz, hcx, hm⟩ := hv
  have hx := B.exec
  have hb := B.bytes
  have hr := B.returns
  have hts := atoms_spec (ws := wsX4_init) B.pre
  have hown : s.vm.findClass RX4 = some m.cls := findClass_of_methodNamed B.named
  have hlocks := B.notSynchronized
  have hK := hcx.1
  have hS : va_S (AZ z) s.heap s.heap [] := va_S.rf
  have hA : ∀ q, s.heap.size ≤ q → AZ z q := fun q h => Nat.le_trans hz h
  have hin : meth.name = "<init>" := (name_of_methodNamed B.named B.method).1
  have hl := lv_entry ([.ref h0]) (n := 1) (Nat.le_of_ble_eq_true rfl)
  rw [lg_entry_eq]
  generalize (lg_sl ([.ref h0]) ++ List.replicate (1 - (lg_sl ([.ref h0])).length) Slot.unset).toArray = ls at hl ⊢
  have hl : lv_has ls 1 [(0, .ref h0)] := hl
  have f11 := hts (.fieldLink RX4 11 "CommitTree$Tree" "nodes" "[LCommitTree$Node;") (by decide +kernel)
  have f17 := hts (.fieldLink RX4 17 "CommitTree$Tree" "size" "I") (by decide +kernel)
  have wX4 : ∀ w ∈ wsX40, w ∈ wsX4_init := by decide +kernel
  refine lv_aload_n hx hb dX4_init_0 rfl (lv_at hl 0 rfl) ?_
  refine W.objInit hx hb hown (hts (.methodLink RX4 3 objectInit) (by decide +kernel)) (hts (.instanceMethod objectInit) (by decide +kernel)) (hts (.code objectInit ⟨#[0xb1]⟩ 1 none) (by decide +kernel)) rfl (by rw [hml]; exact hl.1) rfl dX4_init_1 (Nat.le_of_ble_eq_true rfl) (Nat.le_of_ble_eq_true rfl) ?_
  refine W.eq (g2 := F0 m 4 ls []) rfl ?_
  refine lv_aload_n hx hb dX4_init_4 rfl (lv_at hl 0 rfl) ?_
  refine lv_bipush (v := 60) hx hb dX4_init_5 (by decide) ?_
  refine m_newq hx hb hown (hts (.classLink RX4 9 RX2) (by decide +kernel)) hcx.2.2.2.1.1.1 hK 3 rfl hm hS hA (N' := 60) (by decide) rfl (by decide) (Nat.le_of_ble_eq_true rfl) (Nat.le_of_ble_eq_true rfl) dX4_init_7 (fun q H hq hm hS => ?_)
  refine W.widen (k := 1) (n := 60) (Nat.le_of_ble_eq_true rfl) (Nat.le_of_ble_eq_true rfl) ?_
  have ne_h0_q : h0 ≠ q := m_fr hq ho
  have ne_q_h0 : q ≠ h0 := Ne.symm ne_h0_q
  have hm : mm D (AZ z) (mu M q (.inl (k 3, 60, .inr (.inr (.inr (.inr (fun _ => none))))))) H := hm
  refine m_putF (T := TX4) (N := 2) (ci := 4) (v := .ref q) (ty := .array (.object "CommitTree$Node")) hx hb hts wX4 tyX4 tyX4_ok nmX4 hown hK hm hS ((mu_ne ne_h0_q).trans ho) rfl 0 (by decide) f11 (fun _ h9 => h9) rfl hin rfl (by decide +kernel) rfl rfl (Nat.le_of_ble_eq_true rfl) dX4_init_10 (fun H locs hm hS => ?_)
  have hm : mm D (AZ z) (mu (mu M q (.inl (k 3, 60, .inr (.inr (.inr (.inr (fun _ => none))))))) h0 (.inr (4, [.ref q, .int 0]))) H := hm
  refine lv_aload_n hx hb dX4_init_13 rfl (lv_at hl 0 rfl) ?_
  refine lv_iconst (v := 0) hx hb dX4_init_14 (by decide) ?_
  refine m_put (T := TX4) (N := 2) (ci := 4) (v := .int 0) (ty := .int) hx hb hts wX4 tyX4 tyX4_ok nmX4 hown hK hm hS (mu_self _ _ _) rfl 1 (by decide) f17 (fun _ h9 => h9) rfl (by decide +kernel) rfl rfl (Nat.le_of_ble_eq_true rfl) dX4_init_15 (fun H locs hm hS => ?_)
  have hm : mm D (AZ z) (mu (mu (mu M q (.inl (k 3, 60, .inr (.inr (.inr (.inr (fun _ => none))))))) h0 (.inr (4, [.ref q, .int 0]))) h0 (.inr (4, [.ref q, .int 0]))) H := hm
  refine W.vret hx hb hr (fun t ht hW => ⟨⟨none, _, rfl, ?_, by rw [ht]; exact hm⟩, hS.F ht⟩) hS.2.2 dX4_init_18
  exact ⟨q, hq, rfl, by simp only [mu_mu]⟩
