set_option maxHeartbeats 4000000 in
set_option maxRecDepth 100000 in
theorem c_X4_placeOf (l : Launch) (D : va_G) (k : Nat → ClassId) (z : Nat) (M : mM) (h0 na : Nat) (g : Nat → Option Nat) (L : List NV) (id : Int32) (hT : treeAt k M h0 na g L) : mK l yX4_placeOf wsX4_placeOf ({ frames := 0, cells := 0, slots := 0, locals := 0 }) D k z [.ref h0, .int id] M (fun v M' => v = some (.int (placeFrom id L 0)) ∧ M' = M) := by
  refine Met.ofW (cc := cX4_placeOf) (maxL := 4) (ret := (some .int)) (by decide) rfl ?_
  intro p e s m args below meth c s₁ B hml hv
  obtain ⟨rfl, hz, hcx, hm⟩ := hv
  have hx := B.exec
  have hb := B.bytes
  have hr := B.returns
  have hts := atoms_spec (ws := wsX4_placeOf) B.pre
  have hown : s.vm.findClass RX4 = some m.cls := findClass_of_methodNamed B.named
  have hlocks := B.notSynchronized
  have hK := hcx.1
  have hS : va_S (AZ z) s.heap s.heap [] := va_S.rf
  have hA : ∀ q, s.heap.size ≤ q → AZ z q := fun q h => Nat.le_trans hz h
  have hl := lv_entry ([.ref h0, .int id]) (n := 4) (Nat.le_of_ble_eq_true rfl)
  rw [lg_entry_eq]
  generalize (lg_sl ([.ref h0, .int id]) ++ List.replicate (4 - (lg_sl ([.ref h0, .int id])).length) Slot.unset).toArray = ls at hl ⊢
  have hl : lv_has ls 4 [(0, .ref h0), (1, .int id)] := hl
  have f11 := hts (.fieldLink RX4 11 "CommitTree$Tree" "nodes" "[LCommitTree$Node;") (by decide +kernel)
  have f17 := hts (.fieldLink RX4 17 "CommitTree$Tree" "size" "I") (by decide +kernel)
  have f21 := hts (.fieldLink RX4 21 "CommitTree$Node" "id" "I") (by decide +kernel)
  have wX2 : ∀ w ∈ wsX20, w ∈ wsX4_placeOf := by decide +kernel
  have wX4 : ∀ w ∈ wsX40, w ∈ wsX4_placeOf := by decide +kernel
  have hL6 := hT.2.2.1
  refine lv_iconst (v := 0) hx hb dX4_placeOf_0 (by decide) ?_
  refine lv_istore_n (lv' := [(2, .int 0), (0, .ref h0), (1, .int id)]) hx hb dX4_placeOf_1 rfl hl (by decide) rfl (fun ls hl => ?_)
  refine W_loop (σ := Nat) (fun i H locs ls => i ≤ L.length ∧ placeFrom id L 0 = placeFrom id (L.drop i) i ∧ mm D (AZ z) M H ∧ va_S (AZ z) s.heap H locs ∧ lv_has ls 4 [(2, .int (nI i)), (0, .ref h0), (1, .int id)]) (fun i => L.length - i) (fun i => 0) (fun i => 0) ?_ 0 _ _ _ ⟨Nat.zero_le _, rfl, hm, hS, lv_sub hl [0, 1, 2] rfl⟩
  intro i H locs ls hI ih2
  obtain ⟨hi, hp, hm, hS, hl⟩ := hI
  try dsimp only at hm hl ih2 ⊢
  refine lv_iload_n hx hb dX4_placeOf_2 rfl (lv_at hl 0 rfl) ?_
  refine lv_aload_n hx hb dX4_placeOf_3 rfl (lv_at hl 1 rfl) ?_
  refine m_get (T := TX4) (N := 2) (ci := 4) (v := .int (nI L.length)) hx hb hts wX4 hown hK hm hT.1 rfl 1 (by decide) f17 (fun _ h9 => h9) rfl dX4_placeOf_4 ?_
  refine lv_icmp_ge (tgt := 46) hx hb dX4_placeOf_7 (by decide) (fun c1 => ?_) (fun c1 => ?_)
  · refine lv_iconst (v := (-1)) hx hb dX4_placeOf_46 (by decide) ?_
    refine W.iret (v := (-1)) hx hb hr (fun t ht hW => ⟨⟨some (.int (-1)), _, rfl, ?_, by rw [ht]; exact hm⟩, hS.F ht⟩) hS.2.2 dX4_placeOf_47
    exact ⟨by rw [hp, placeFrom_end id L i ((nI_leI (by omega) (by omega)).mp c1)], rfl⟩
  · have hlt : i < L.length := by
      rcases Nat.lt_or_ge i L.length with q | q
      · exact q
      · exact absurd (nI_le q (by omega)) c1
    obtain ⟨v, hv⟩ : ∃ v, L[i]? = some v := ⟨L[i], List.getElem?_eq_getElem hlt⟩
    obtain ⟨a, hga, hdr, ca, hna, hca⟩ := hT.2.2.2 i v hv
    have hg2 : g (nI i).toNatClampNeg = some a := by rw [nI_clamp (by omega)]; exact hga
    refine lv_iload_n hx hb dX4_placeOf_10 rfl (lv_at hl 0 rfl) ?_
    refine lv_aload_n hx hb dX4_placeOf_11 rfl (lv_at hl 1 rfl) ?_
    refine m_get (T := TX4) (N := 2) (ci := 4) (v := .ref na) hx hb hts wX4 hown hK hm hT.1 rfl 0 (by decide) f11 (fun _ h9 => h9) rfl dX4_placeOf_12 ?_
    refine m_alen hx hb hK hm 3 hT.2.1 rfl (v := nI 60) rfl dX4_placeOf_15 ?_
    refine lv_icmp_ge (tgt := 46) hx hb dX4_placeOf_16 (by decide) (fun c2 => ?_) (fun c2 => ?_)
    · exact absurd c2 (fun h => absurd ((nI_leI (by decide) (by omega)).mp h) (by omega))
    · refine lv_aload_n hx hb dX4_placeOf_19 rfl (lv_at hl 1 rfl) ?_
      refine m_get (T := TX4) (N := 2) (ci := 4) (v := .ref na) hx hb hts wX4 hown hK hm hT.1 rfl 0 (by decide) f11 (fun _ h9 => h9) rfl dX4_placeOf_20 ?_
      refine lv_iload_n hx hb dX4_placeOf_23 rfl (lv_at hl 0 rfl) ?_
      refine m_aald hx hb hK hm 3 hT.2.1 rfl (vp_in_nI (show i < 60 by omega) (by decide)) dX4_placeOf_24 ?_
      refine W.eq (g2 := F0 m 25 ls [.ref a]) (by rw [hg2]; rfl) ?_
      refine lv_astore_n (lv' := [(3, .ref a), (2, .int (nI i)), (0, .ref h0), (1, .int id)]) hx hb dX4_placeOf_25 rfl hl (by decide) rfl (fun ls hl => ?_)
      refine lv_aload_n hx hb dX4_placeOf_26 rfl (lv_at hl 0 rfl) ?_
      refine lv_ifnull hx hb dX4_placeOf_27 ?_
      refine lv_aload_n hx hb dX4_placeOf_30 rfl (lv_at hl 0 rfl) ?_
      refine m_get (T := TX2) (N := 4) (ci := 2) (v := .int v.1) hx hb hts wX2 hown hK hm hna rfl 0 (by decide) f21 (fun _ h9 => h9) rfl dX4_placeOf_31 ?_
      refine lv_iload_n hx hb dX4_placeOf_34 rfl (lv_at hl 3 rfl) ?_
      refine lv_icmp_ne (tgt := 40) hx hb dX4_placeOf_35 (by decide) (fun c3 => ?_) (fun c3 => ?_)
      · have hne := c3
        refine lv_iinc (v := ((nI i) + 1)) (lv' := [(2, .int ((nI i) + 1)), (3, .ref a), (0, .ref h0), (1, .int id)]) hx hb dX4_placeOf_40 hl (k := 1) rfl rfl (by decide) rfl (fun ls hl => ?_)
        refine lv_goto (tgt := 2) hx hb dX4_placeOf_43 (by decide) ?_
        rw [nI_1] at hl
        exact ih2 (i + 1) _ _ _ ⟨by omega, by rw [hp, placeFrom_drop id L i _ hv, if_neg hne], hm, hS, lv_sub hl [0, 2, 3] rfl⟩ (by omega)
      · refine lv_iload_n hx hb dX4_placeOf_38 rfl (lv_at hl 1 rfl) ?_
        refine W.iret (v := (nI i)) hx hb hr (fun t ht hW => ⟨⟨some (.int (nI i)), _, rfl, ?_, by rw [ht]; exact hm⟩, hS.F ht⟩) hS.2.2 dX4_placeOf_39
        exact ⟨by rw [hp, placeFrom_drop id L i v hv, if_pos c3], rfl⟩

/-- what Tree.at answers -/
def atA (g : Nat → Option Nat) (n : Nat) (i : Int32) : Option Nat := if i < 0 then none else if nI n ≤ i then none else g i.toNatClampNeg

set_option maxHeartbeats 4000000 in
set_option maxRecDepth 100000 in
theorem c_X4_at (l : Launch) (D : va_G) (k : Nat → ClassId) (z : Nat) (M : mM) (h0 na : Nat) (g : Nat → Option Nat) (L : List NV) (i : Int32) (hT : treeAt k M h0 na g L) : mK l yX4_at wsX4_at ({ frames := 0, cells := 0, slots := 0, locals := 0 }) D k z [.ref h0, .int i] M (fun v M' => v = some (va_rf (atA g L.length i)) ∧ M' = M) := by
  refine Met.ofW (cc := cX4_at) (maxL := 2) (ret := (some (.object "CommitTree$Node"))) (by decide) rfl ?_
  intro p e s m args below meth c s₁ B hml hv
  obtain ⟨rfl, hz, hcx, hm⟩ := hv
  have hx := B.exec
  have hb := B.bytes
  have hr := B.returns
  have hts := atoms_spec (ws := wsX4_at) B.pre
  have hown : s.vm.findClass RX4 = some m.cls := findClass_of_methodNamed B.named
  have hlocks := B.notSynchronized
  have hK := hcx.1
  have hS : va_S (AZ z) s.heap s.heap [] := va_S.rf
  have hA : ∀ q, s.heap.size ≤ q → AZ z q := fun q h => Nat.le_trans hz h
  have hl := lv_entry ([.ref h0, .int i]) (n := 2) (Nat.le_of_ble_eq_true rfl)
  rw [lg_entry_eq]
  generalize (lg_sl ([.ref h0, .int i]) ++ List.replicate (2 - (lg_sl ([.ref h0, .int i])).length) Slot.unset).toArray = ls at hl ⊢
  have hl : lv_has ls 2 [(0, .ref h0), (1, .int i)] := hl
  have f11 := hts (.fieldLink RX4 11 "CommitTree$Tree" "nodes" "[LCommitTree$Node;") (by decide +kernel)
  have f17 := hts (.fieldLink RX4 17 "CommitTree$Tree" "size" "I") (by decide +kernel)
  have wX4 : ∀ w ∈ wsX40, w ∈ wsX4_at := by decide +kernel
  have hL6 := hT.2.2.1
  refine lv_iload_n hx hb dX4_at_0 rfl (lv_at hl 1 rfl) ?_
  refine lv_if_lt (tgt := 30) hx hb dX4_at_1 (by decide) (fun c1 => ?_) (fun c1 => ?_)
  · refine lv_null hx hb dX4_at_30 ?_
    refine W.aret (v := .null) hx hb hr (Or.inl ⟨_, rfl⟩) (Or.inl rfl) (fun t ht hW => ⟨⟨some (.null), _, rfl, ?_, by rw [ht]; exact hm⟩, hS.F ht⟩) hS.2.2 dX4_at_31
    exact ⟨by simp [atA, va_rf, c1], rfl⟩
  · refine lv_iload_n hx hb dX4_at_4 rfl (lv_at hl 1 rfl) ?_
    refine lv_aload_n hx hb dX4_at_5 rfl (lv_at hl 0 rfl) ?_
    refine m_get (T := TX4) (N := 2) (ci := 4) (v := .int (nI L.length)) hx hb hts wX4 hown hK hm hT.1 rfl 1 (by decide) f17 (fun _ h9 => h9) rfl dX4_at_6 ?_
    refine lv_icmp_ge (tgt := 30) hx hb dX4_at_9 (by decide) (fun c2 => ?_) (fun c2 => ?_)
    · refine lv_null hx hb dX4_at_30 ?_
      refine W.aret (v := .null) hx hb hr (Or.inl ⟨_, rfl⟩) (Or.inl rfl) (fun t ht hW => ⟨⟨some (.null), _, rfl, ?_, by rw [ht]; exact hm⟩, hS.F ht⟩) hS.2.2 dX4_at_31
      exact ⟨by simp [atA, va_rf, c1, c2], rfl⟩
    · refine lv_iload_n hx hb dX4_at_12 rfl (lv_at hl 1 rfl) ?_
      refine lv_aload_n hx hb dX4_at_13 rfl (lv_at hl 0 rfl) ?_
      refine m_get (T := TX4) (N := 2) (ci := 4) (v := .ref na) hx hb hts wX4 hown hK hm hT.1 rfl 0 (by decide) f11 (fun _ h9 => h9) rfl dX4_at_14 ?_
      refine m_alen hx hb hK hm 3 hT.2.1 rfl (v := nI 60) rfl dX4_at_17 ?_
      refine lv_icmp_ge (tgt := 30) hx hb dX4_at_18 (by decide) (fun c3 => ?_) (fun c3 => ?_)
      · exact absurd (Int32.le_trans (nI_le hL6 (by decide)) c3) c2
      · refine lv_aload_n hx hb dX4_at_21 rfl (lv_at hl 0 rfl) ?_
        refine m_get (T := TX4) (N := 2) (ci := 4) (v := .ref na) hx hb hts wX4 hown hK hm hT.1 rfl 0 (by decide) f11 (fun _ h9 => h9) rfl dX4_at_22 ?_
        refine lv_iload_n hx hb dX4_at_25 rfl (lv_at hl 1 rfl) ?_
        refine m_aald hx hb hK hm 3 hT.2.1 rfl (in_of c1 c3 (by decide)) dX4_at_26 ?_
        refine lv_goto (tgt := 31) hx hb dX4_at_27 (by decide) ?_
        refine W.aret (v := va_rf (g i.toNatClampNeg)) hx hb hr (Or.inl ⟨_, rfl⟩) (va_rf_or _) (fun t ht hW => ⟨⟨some (va_rf (g i.toNatClampNeg)), _, rfl, ?_, by rw [ht]; exact hm⟩, hS.F ht⟩) hS.2.2 dX4_at_31
        exact ⟨by simp [atA, va_rf, c1, c2, c3], rfl⟩

def findA (id : Int32) (g : Nat → Option Nat) (L : List NV) : Option Nat := atA g L.length (placeFrom id L 0)

set_option maxHeartbeats 4000000 in
set_option maxRecDepth 100000 in
theorem c_X4_find (l : Launch) (D : va_G) (k : Nat → ClassId) (z : Nat) (M : mM) (h0 na : Nat) (g : Nat → Option Nat) (L : List NV) (id : Int32) (hT : treeAt k M h0 na g L) : mK l yX4_find wsX4_find ({ frames := 1, cells := 0, slots := 0, locals := 24 }) D k z [.ref h0, .int id] M (fun v M' => v = some (va_rf (findA id g L)) ∧ M' = M) := by
  refine Met.ofW (cc := cX4_find) (maxL := 2) (ret := (some (.object "CommitTree$Node"))) (by decide) rfl ?_
  intro p e s m args below meth c s₁ B hml hv
  obtain ⟨rfl, hz, hcx, hm⟩ := hv
  have hx := B.exec
  have hb := B.bytes
  have hr := B.returns
  have hts := atoms_spec (ws := wsX4_find) B.pre
  have hown : s.vm.findClass RX4 = some m.cls := findClass_of_methodNamed B.named
  have hlocks := B.notSynchronized
  have hK := hcx.1
  have hS : va_S (AZ z) s.heap s.heap [] := va_S.rf
  have hA : ∀ q, s.heap.size ≤ q → AZ z q := fun q h => Nat.le_trans hz h
  have hl := lv_entry ([.ref h0, .int id]) (n := 2) (Nat.le_of_ble_eq_true rfl)
  rw [lg_entry_eq]
  generalize (lg_sl ([.ref h0, .int id]) ++ List.replicate (2 - (lg_sl ([.ref h0, .int id])).length) Slot.unset).toArray = ls at hl ⊢
  have hl : lv_has ls 2 [(0, .ref h0), (1, .int id)] := hl
  refine lv_aload_n hx hb dX4_find_0 rfl (lv_at hl 0 rfl) ?_
  refine lv_aload_n hx hb dX4_find_1 rfl (lv_at hl 0 rfl) ?_
  refine lv_iload_n hx hb dX4_find_2 rfl (lv_at hl 1 rfl) ?_
  refine m_kV (As := [.int id]) (rest := [.ref h0]) (rm := { frames := 0, cells := 0, slots := 0, locals := 0 }) ⟨hx, hb, hml, hown, hts⟩ (c_X4_placeOf l D k z _ h0 na g L id hT) (cwV 1 hts gX4_find_X4_placeOf rfl rfl rfl (by decide +kernel) ⟨Nat.le_of_ble_eq_true rfl, Nat.le_of_ble_eq_true rfl⟩) (m_recv hK hm (q := (RX4, TX4, 2)) rfl hT.1) hz hcx hm hS rfl hl.1 rfl (Nat.le_of_ble_eq_true rfl) dX4_find_3 ⟨Nat.le_of_ble_eq_true rfl, Nat.le_of_ble_eq_true rfl⟩ (fun v M1 H locs hv hm hS => ?_)
  obtain ⟨rfl, hM1⟩ := hv
  rw [hM1] at hm
  refine W.eq (g2 := F0 m 6 ls [.int (placeFrom id L 0), .ref h0]) rfl ?_
  refine W.widen (k := 0) (n := 0) (Nat.le_of_ble_eq_true rfl) (Nat.le_of_ble_eq_true rfl) ?_
  have hm : mm D (AZ z) M H := hm
  refine m_kV (As := [.int (placeFrom id L 0)]) (rest := []) (rm := { frames := 0, cells := 0, slots := 0, locals := 0 }) ⟨hx, hb, hml, hown, hts⟩ (c_X4_at l D k z _ h0 na g L (placeFrom id L 0) hT) (cwV 1 hts gX4_find_X4_at rfl rfl rfl (by decide +kernel) ⟨Nat.le_of_ble_eq_true rfl, Nat.le_of_ble_eq_true rfl⟩) (m_recv hK hm (q := (RX4, TX4, 2)) rfl hT.1) hz hcx hm hS rfl hl.1 rfl (Nat.le_of_ble_eq_true rfl) dX4_find_6 ⟨Nat.le_of_ble_eq_true rfl, Nat.le_of_ble_eq_true rfl⟩ (fun v M1 H locs hv hm hS => ?_)
  obtain ⟨rfl, hM1⟩ := hv
  rw [hM1] at hm
  refine W.eq (g2 := F0 m 9 ls [va_rf (atA g L.length (placeFrom id L 0))]) rfl ?_
  refine W.widen (k := 0) (n := 0) (Nat.le_of_ble_eq_true rfl) (Nat.le_of_ble_eq_true rfl) ?_
  have hm : mm D (AZ z) M H := hm
  refine W.aret (v := va_rf (atA g L.length (placeFrom id L 0))) hx hb hr (Or.inl ⟨_, rfl⟩) (va_rf_or _) (fun t ht hW => ⟨⟨some (va_rf (atA g L.length (placeFrom id L 0))), _, rfl, ?_, by rw [ht]; exact hm⟩, hS.F ht⟩) hS.2.2 dX4_find_9
  exact ⟨rfl, rfl⟩

/-- the memory behind Tree.add -/
def addM (k : Nat → ClassId) (M : mM) (t na n : Nat) (g : Nat → Option Nat) (a : Nat) : mM := if n < 60 then mu (mu M na (.inl (k 3, 60, .inr (.inr (.inr (.inr (va_up g n (some a)))))))) t (.inr (4, [.ref na, .int (nI (n + 1))])) else M

set_option maxHeartbeats 4000000 in
set_option maxRecDepth 100000 in
theorem c_X4_add (l : Launch) (D : va_G) (k : Nat → ClassId) (z : Nat) (M : mM) (h0 na a : Nat) (g : Nat → Option Nat) (L : List NV) (w : NV) (hT : treeAt k M h0 na g L) (hV : nodeAt k M a w) : mK l yX4_add wsX4_add ({ frames := 0, cells := 0, slots := 0, locals := 0 }) D k z [.ref h0, .ref a] M (fun v M' => v = none ∧ M' = addM k M h0 na L.length g a) := by
  refine Met.ofW (cc := cX4_add) (maxL := 2) (ret := none) (by decide) rfl ?_
  intro p e s m args below meth c s₁ B hml hv
  obtain ⟨rfl, hz, hcx, hm⟩ := hv
  have hx := B.exec
  have hb := B.bytes
  have hr := B.returns
  have hts := atoms_spec (ws := wsX4_add) B.pre
  have hown : s.vm.findClass RX4 = some m.cls := findClass_of_methodNamed B.named
  have hlocks := B.notSynchronized
  have hK := hcx.1
  have hS : va_S (AZ z) s.heap s.heap [] := va_S.rf
  have hA : ∀ q, s.heap.size ≤ q → AZ z q := fun q h => Nat.le_trans hz h
  have hl := lv_entry ([.ref h0, .ref a]) (n := 2) (Nat.le_of_ble_eq_true rfl)
  rw [lg_entry_eq]
  generalize (lg_sl ([.ref h0, .ref a]) ++ List.replicate (2 - (lg_sl ([.ref h0, .ref a])).length) Slot.unset).toArray = ls at hl ⊢
  have hl : lv_has ls 2 [(0, .ref h0), (1, .ref a)] := hl
  have f11 := hts (.fieldLink RX4 11 "CommitTree$Tree" "nodes" "[LCommitTree$Node;") (by decide +kernel)
  have f17 := hts (.fieldLink RX4 17 "CommitTree$Tree" "size" "I") (by decide +kernel)
  have wX4 : ∀ w ∈ wsX40, w ∈ wsX4_add := by decide +kernel
  have ne_na_h0 : na ≠ h0 := m_df hT.1 hT.2.1 (by intro h; cases h)
  have ne_h0_na : h0 ≠ na := Ne.symm ne_na_h0
  have hL6 := hT.2.2.1
  obtain ⟨hdr, ca, hna, hca⟩ := hV
  have ne_a_h0 : a ≠ h0 := m_df hT.1 hna (by intro h; cases h)
  have ne_a_na : a ≠ na := m_df hT.2.1 hna (by intro h; cases h)
  refine lv_aload_n hx hb dX4_add_0 rfl (lv_at hl 0 rfl) ?_
  refine m_get (T := TX4) (N := 2) (ci := 4) (v := .int (nI L.length)) hx hb hts wX4 hown hK hm hT.1 rfl 1 (by decide) f17 (fun _ h9 => h9) rfl dX4_add_1 ?_
  refine lv_if_lt (tgt := 39) hx hb dX4_add_4 (by decide) (fun c1 => ?_) (fun c1 => ?_)
  · exact absurd c1 (nI_pos (by omega))
  · refine lv_aload_n hx hb dX4_add_7 rfl (lv_at hl 0 rfl) ?_
    refine m_get (T := TX4) (N := 2) (ci := 4) (v := .int (nI L.length)) hx hb hts wX4 hown hK hm hT.1 rfl 1 (by decide) f17 (fun _ h9 => h9) rfl dX4_add_8 ?_
    refine lv_aload_n hx hb dX4_add_11 rfl (lv_at hl 0 rfl) ?_
    refine m_get (T := TX4) (N := 2) (ci := 4) (v := .ref na) hx hb hts wX4 hown hK hm hT.1 rfl 0 (by decide) f11 (fun _ h9 => h9) rfl dX4_add_12 ?_
    refine m_alen hx hb hK hm 3 hT.2.1 rfl (v := nI 60) rfl dX4_add_15 ?_
    refine lv_icmp_ge (tgt := 39) hx hb dX4_add_16 (by decide) (fun c2 => ?_) (fun c2 => ?_)
    · refine W.vret hx hb hr (fun t ht hW => ⟨⟨none, _, rfl, ?_, by rw [ht]; exact hm⟩, hS.F ht⟩) hS.2.2 dX4_add_39
      have hcl : (nI L.length).toNatClampNeg = L.length := nI_clamp (by omega)
      refine ⟨rfl, ?_⟩
      first
        | exact (if_neg (fun q => absurd ((nI_leI (by decide) (by omega)).mp c2) (by omega))).symm
        | (have h9 : L.length < 60 := Nat.lt_of_not_le fun q => c2 (nI_le q (by omega))
           simp [addM, h9, hcl, nI_1])
    · refine lv_aload_n hx hb dX4_add_19 rfl (lv_at hl 0 rfl) ?_
      refine m_get (T := TX4) (N := 2) (ci := 4) (v := .ref na) hx hb hts wX4 hown hK hm hT.1 rfl 0 (by decide) f11 (fun _ h9 => h9) rfl dX4_add_20 ?_
      refine lv_aload_n hx hb dX4_add_23 rfl (lv_at hl 0 rfl) ?_
      refine m_get (T := TX4) (N := 2) (ci := 4) (v := .int (nI L.length)) hx hb hts wX4 hown hK hm hT.1 rfl 1 (by decide) f17 (fun _ h9 => h9) rfl dX4_add_24 ?_
      refine lv_aload_n hx hb dX4_add_27 rfl (lv_at hl 1 rfl) ?_
      refine m_aast (r := (RX2, TX2, 4)) hx hb hK hm hS 3 2 hT.2.1 rfl hna rfl (in_of c1 c2 (by decide)) dX4_add_28 (fun H locs hm hS => ?_)
      have hm : mm D (AZ z) (mu M na (.inl (k 3, 60, .inr (.inr (.inr (.inr (va_up g ((nI L.length)).toNatClampNeg (some a)))))))) H := hm
      refine lv_aload_n hx hb dX4_add_29 rfl (lv_at hl 0 rfl) ?_
      refine lv_dup hx hb dX4_add_30 rfl ?_
      refine m_get (T := TX4) (N := 2) (ci := 4) (v := .int (nI L.length)) hx hb hts wX4 hown hK hm ((mu_ne ne_h0_na).trans hT.1) rfl 1 (by decide) f17 (fun _ h9 => h9) rfl dX4_add_31 ?_
      refine lv_iconst (v := 1) hx hb dX4_add_34 (by decide) ?_
      refine lv_iadd hx hb dX4_add_35 ?_
      refine m_put (T := TX4) (N := 2) (ci := 4) (v := .int ((nI L.length) + 1)) (ty := .int) hx hb hts wX4 tyX4 tyX4_ok nmX4 hown hK hm hS ((mu_ne ne_h0_na).trans hT.1) rfl 1 (by decide) f17 (fun _ h9 => h9) rfl (by decide +kernel) rfl rfl (Nat.le_of_ble_eq_true rfl) dX4_add_36 (fun H locs hm hS => ?_)
      have hm : mm D (AZ z) (mu (mu M na (.inl (k 3, 60, .inr (.inr (.inr (.inr (va_up g ((nI L.length)).toNatClampNeg (some a)))))))) h0 (.inr (4, [.ref na, .int ((nI L.length) + 1)]))) H := hm
      refine W.vret hx hb hr (fun t ht hW => ⟨⟨none, _, rfl, ?_, by rw [ht]; exact hm⟩, hS.F ht⟩) hS.2.2 dX4_add_39
      have hcl : (nI L.length).toNatClampNeg = L.length := nI_clamp (by omega)
      refine ⟨rfl, ?_⟩
      first
        | exact (if_neg (fun q => absurd ((nI_leI (by decide) (by omega)).mp c2) (by omega))).symm
        | (have h9 : L.length < 60 := Nat.lt_of_not_le fun q => c2 (nI_le q (by omega))
           simp [addM, h9, hcl, nI_1])
