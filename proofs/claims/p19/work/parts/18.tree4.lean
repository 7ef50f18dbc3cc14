/-- the memory behind Tree.takeOut: the last node at place j, one node less -/
def takeM (k : Nat → ClassId) (M : mM) (t na n j b : Nat) (g : Nat → Option Nat) : mM := mu (mu M na (.inl (k 3, 60, .inr (.inr (.inr (.inr (va_up g j (some b)))))))) t (.inr (4, [.ref na, .int (nI (n - 1))]))
theorem treeAt_take {k : Nat → ClassId} {M : mM} {t na j b : Nat} {g : Nat → Option Nat} {L : List NV} {w : NV} (h : treeAt k M t na g L) (hj : j < L.length) (hw : L[L.length - 1]? = some w) (hb : nodeAt k M b w) : treeAt k (takeM k M t na L.length j b g) t na (va_up g j (some b)) ((L.set j w).take (L.length - 1)) := by
  have hne := treeAt_ne h
  have h6 := h.2.2.1
  have hS := treeAt_set h hb hj
  have hlen : ((L.set j w).take (L.length - 1)).length = L.length - 1 := by rw [List.length_take, List.length_set]; omega
  refine ⟨by rw [hlen]; exact mu_self _ _ _, (mu_ne hne.symm).trans (mu_self _ _ _), by rw [hlen]; omega, fun i v hv => ?_⟩
  have hi : i < L.length - 1 := by
    have := (List.getElem?_eq_some_iff.mp hv).1
    omega
  rw [List.getElem?_take_of_lt hi] at hv
  obtain ⟨a, h1, h2⟩ := hS.2.2.2 i v hv
  exact ⟨a, h1, nodeAt_mu h2 hS.1 (other_tree _ _)⟩

set_option maxHeartbeats 4000000 in
set_option maxRecDepth 100000 in
theorem c_X4_takeOut (l : Launch) (D : va_G) (k : Nat → ClassId) (z : Nat) (M : mM) (h0 na : Nat) (g : Nat → Option Nat) (L : List NV) (id : Int32) (hpos : 1 ≤ L.length) (hT : treeAt k M h0 na g L) : mK l yX4_takeOut wsX4_takeOut ({ frames := 1, cells := 0, slots := 0, locals := 24 }) D k z [.ref h0, .int id] M (fun w M' => w = none ∧ ((lookL id L = none ∧ M' = M) ∨ ∃ j v vl b, j < L.length ∧ L[j]? = some v ∧ v.1 = id ∧ placeFrom id L 0 = nI j ∧ lookL id L = some v ∧ L[L.length - 1]? = some vl ∧ nodeAt k M b vl ∧ M' = takeM k M h0 na L.length j b g)) := by
  refine Met.ofW (cc := cX4_takeOut) (maxL := 4) (ret := none) (by decide) rfl ?_
  intro p e s m args below meth c s₁ B hml hv
  obtain ⟨rfl, hz, hcx, hm⟩ := hv
  have hx := B.exec
  have hb := B.bytes
  have hr := B.returns
  have hts := atoms_spec (ws := wsX4_takeOut) B.pre
  have hown : s.vm.findClass RX4 = some m.cls := findClass_of_methodNamed B.named
  have hlocks := B.notSynchronized
  have hK := hcx.1
  have hS : va_S (AZ z) s.heap s.heap [] := va_S.rf
  have hA : ∀ q, s.heap.size ≤ q → AZ z q := fun q h => Nat.le_trans hz h
  have hl := lv_entry ([.ref h0, .int id]) (n := 4) (Nat.le_of_ble_eq_true rfl)
  rw [lg_entry_eq]
  generalize (lg_sl ([.ref h0, .int id]) ++ List.replicate (4 - (lg_sl ([.ref h0, .int id])).length) Slot.unset).toArray = ls at hl ⊢
  have hl : lv_has ls 4 [(0, .ref h0), (1, .int id)] := hl
  have f11 := hts (.fieldLink RX4 11 "CommitTree$Tree" "nodes" "[LCommitTree$Node;") (by decide +kernel)
  have f17 := hts (.fieldLink RX4 17 "CommitTree$Tree" "size" "I") (by decide +kernel)
  have wX4 : ∀ w ∈ wsX40, w ∈ wsX4_takeOut := by decide +kernel
  have ne_na_h0 : na ≠ h0 := (treeAt_ne hT).symm
  have ne_h0_na : h0 ≠ na := treeAt_ne hT
  have hL6 := hT.2.2.1
  obtain ⟨vl, hvl⟩ : ∃ v, L[L.length - 1]? = some v := ⟨L[L.length - 1], List.getElem?_eq_getElem (by omega)⟩
  obtain ⟨b, hgb, hbn⟩ := hT.2.2.2 _ vl hvl
  obtain ⟨hdb, cb, hnb, hcb⟩ := And.intro hbn.1 hbn.2
  have ne_b_h0 : b ≠ h0 := m_df hT.1 hnb (by intro h; cases h)
  have ne_b_na : b ≠ na := m_df hT.2.1 hnb (by intro h; cases h)
  have hs1 : nI L.length - 1 = nI (L.length - 1) := pk_sub (b := 1) hpos
  have hat : atA g L.length (nI L.length - 1) = some b := by rw [hs1]; exact atA_in hT (by omega) hgb
  rcases findA_cases id hT with ⟨hf, hlk, hpl⟩ | ⟨j, v, a, hj, hLj, hid, hlk, hpl, hf, hgj, hnd⟩
  · refine lv_aload_n hx hb dX4_takeOut_0 rfl (lv_at hl 0 rfl) ?_
    refine lv_iload_n hx hb dX4_takeOut_1 rfl (lv_at hl 1 rfl) ?_
    refine m_kV (As := [.int id]) (rest := []) (rm := { frames := 0, cells := 0, slots := 0, locals := 0 }) ⟨hx, hb, hml, hown, hts⟩ (c_X4_placeOf l D k z _ h0 na g L id hT) (cwV 1 hts gX4_takeOut_X4_placeOf rfl rfl rfl (by decide +kernel) ⟨Nat.le_of_ble_eq_true rfl, Nat.le_of_ble_eq_true rfl⟩) (m_recv hK hm (q := (RX4, TX4, 2)) rfl hT.1) hz hcx hm hS rfl hl.1 rfl (Nat.le_of_ble_eq_true rfl) dX4_takeOut_2 ⟨Nat.le_of_ble_eq_true rfl, Nat.le_of_ble_eq_true rfl⟩ (fun v M1 H locs hv hm hS => ?_)
    obtain ⟨rfl, hM1⟩ := hv
    rw [hM1] at hm
    refine W.eq (g2 := F0 m 5 ls [.int (placeFrom id L 0)]) rfl ?_
    refine W.widen (k := 0) (n := 0) (Nat.le_of_ble_eq_true rfl) (Nat.le_of_ble_eq_true rfl) ?_
    have hm : mm D (AZ z) M H := hm
    refine lv_istore_n (lv' := [(2, .int (placeFrom id L 0)), (0, .ref h0), (1, .int id)]) hx hb dX4_takeOut_5 rfl hl (by decide) rfl (fun ls hl => ?_)
    refine lv_aload_n hx hb dX4_takeOut_6 rfl (lv_at hl 1 rfl) ?_
    refine lv_aload_n hx hb dX4_takeOut_7 rfl (lv_at hl 1 rfl) ?_
    refine m_get (T := TX4) (N := 2) (ci := 4) (v := .int (nI L.length)) hx hb hts wX4 hown hK hm hT.1 rfl 1 (by decide) f17 (fun _ h9 => h9) rfl dX4_takeOut_8 ?_
    refine lv_iconst (v := 1) hx hb dX4_takeOut_11 (by decide) ?_
    refine lv_isub hx hb dX4_takeOut_12 ?_
    refine m_kV (As := [.int ((nI L.length) - 1)]) (rest := []) (rm := { frames := 0, cells := 0, slots := 0, locals := 0 }) ⟨hx, hb, hml, hown, hts⟩ (c_X4_at l D k z _ h0 na g L (nI L.length - 1) hT) (cwV 1 hts gX4_takeOut_X4_at rfl rfl rfl (by decide +kernel) ⟨Nat.le_of_ble_eq_true rfl, Nat.le_of_ble_eq_true rfl⟩) (m_recv hK hm (q := (RX4, TX4, 2)) rfl hT.1) hz hcx hm hS rfl hl.1 rfl (Nat.le_of_ble_eq_true rfl) dX4_takeOut_13 ⟨Nat.le_of_ble_eq_true rfl, Nat.le_of_ble_eq_true rfl⟩ (fun v M1 H locs hv hm hS => ?_)
    obtain ⟨hv1, hM1⟩ := hv
    rw [hat] at hv1
    subst hv1
    rw [hM1] at hm
    refine W.eq (g2 := F0 m 16 ls [.ref b]) rfl ?_
    refine W.widen (k := 0) (n := 0) (Nat.le_of_ble_eq_true rfl) (Nat.le_of_ble_eq_true rfl) ?_
    have hm : mm D (AZ z) M H := hm
    refine lv_astore_n (lv' := [(3, .ref b), (2, .int (placeFrom id L 0)), (0, .ref h0), (1, .int id)]) hx hb dX4_takeOut_16 rfl hl (by decide) rfl (fun ls hl => ?_)
    refine lv_iload_n hx hb dX4_takeOut_17 rfl (lv_at hl 1 rfl) ?_
    refine lv_if_lt (tgt := 51) hx hb dX4_takeOut_18 (by decide) (fun c1 => ?_) (fun c1 => ?_)
    · refine W.vret hx hb hr (fun t ht hW => ⟨⟨none, _, rfl, ?_, by rw [ht]; exact hm⟩, hS.F ht⟩) hS.2.2 dX4_takeOut_51
      first
        | exact ⟨rfl, Or.inl ⟨hlk, rfl⟩⟩
        | exact ⟨rfl, Or.inr ⟨j, v, vl, b, hj, hLj, hid, hpl, hlk, hvl, hbn, by rw [hs1, hpl, nI_clamp (by omega)]; rfl⟩⟩
    · exact absurd (by rw [hpl]; decide) c1
  · refine lv_aload_n hx hb dX4_takeOut_0 rfl (lv_at hl 0 rfl) ?_
    refine lv_iload_n hx hb dX4_takeOut_1 rfl (lv_at hl 1 rfl) ?_
    refine m_kV (As := [.int id]) (rest := []) (rm := { frames := 0, cells := 0, slots := 0, locals := 0 }) ⟨hx, hb, hml, hown, hts⟩ (c_X4_placeOf l D k z _ h0 na g L id hT) (cwV 1 hts gX4_takeOut_X4_placeOf rfl rfl rfl (by decide +kernel) ⟨Nat.le_of_ble_eq_true rfl, Nat.le_of_ble_eq_true rfl⟩) (m_recv hK hm (q := (RX4, TX4, 2)) rfl hT.1) hz hcx hm hS rfl hl.1 rfl (Nat.le_of_ble_eq_true rfl) dX4_takeOut_2 ⟨Nat.le_of_ble_eq_true rfl, Nat.le_of_ble_eq_true rfl⟩ (fun v M1 H locs hv hm hS => ?_)
    obtain ⟨rfl, hM1⟩ := hv
    rw [hM1] at hm
    refine W.eq (g2 := F0 m 5 ls [.int (placeFrom id L 0)]) rfl ?_
    refine W.widen (k := 0) (n := 0) (Nat.le_of_ble_eq_true rfl) (Nat.le_of_ble_eq_true rfl) ?_
    have hm : mm D (AZ z) M H := hm
    refine lv_istore_n (lv' := [(2, .int (placeFrom id L 0)), (0, .ref h0), (1, .int id)]) hx hb dX4_takeOut_5 rfl hl (by decide) rfl (fun ls hl => ?_)
    refine lv_aload_n hx hb dX4_takeOut_6 rfl (lv_at hl 1 rfl) ?_
    refine lv_aload_n hx hb dX4_takeOut_7 rfl (lv_at hl 1 rfl) ?_
    refine m_get (T := TX4) (N := 2) (ci := 4) (v := .int (nI L.length)) hx hb hts wX4 hown hK hm hT.1 rfl 1 (by decide) f17 (fun _ h9 => h9) rfl dX4_takeOut_8 ?_
    refine lv_iconst (v := 1) hx hb dX4_takeOut_11 (by decide) ?_
    refine lv_isub hx hb dX4_takeOut_12 ?_
    refine m_kV (As := [.int ((nI L.length) - 1)]) (rest := []) (rm := { frames := 0, cells := 0, slots := 0, locals := 0 }) ⟨hx, hb, hml, hown, hts⟩ (c_X4_at l D k z _ h0 na g L (nI L.length - 1) hT) (cwV 1 hts gX4_takeOut_X4_at rfl rfl rfl (by decide +kernel) ⟨Nat.le_of_ble_eq_true rfl, Nat.le_of_ble_eq_true rfl⟩) (m_recv hK hm (q := (RX4, TX4, 2)) rfl hT.1) hz hcx hm hS rfl hl.1 rfl (Nat.le_of_ble_eq_true rfl) dX4_takeOut_13 ⟨Nat.le_of_ble_eq_true rfl, Nat.le_of_ble_eq_true rfl⟩ (fun v M1 H locs hv hm hS => ?_)
    obtain ⟨hv1, hM1⟩ := hv
    rw [hat] at hv1
    subst hv1
    rw [hM1] at hm
    refine W.eq (g2 := F0 m 16 ls [.ref b]) rfl ?_
    refine W.widen (k := 0) (n := 0) (Nat.le_of_ble_eq_true rfl) (Nat.le_of_ble_eq_true rfl) ?_
    have hm : mm D (AZ z) M H := hm
    refine lv_astore_n (lv' := [(3, .ref b), (2, .int (placeFrom id L 0)), (0, .ref h0), (1, .int id)]) hx hb dX4_takeOut_16 rfl hl (by decide) rfl (fun ls hl => ?_)
    refine lv_iload_n hx hb dX4_takeOut_17 rfl (lv_at hl 1 rfl) ?_
    refine lv_if_lt (tgt := 51) hx hb dX4_takeOut_18 (by decide) (fun c2 => ?_) (fun c2 => ?_)
    · exact absurd c2 (by rw [hpl]; exact nI_pos (by omega))
    · refine lv_iload_n hx hb dX4_takeOut_21 rfl (lv_at hl 1 rfl) ?_
      refine lv_aload_n hx hb dX4_takeOut_22 rfl (lv_at hl 2 rfl) ?_
      refine m_get (T := TX4) (N := 2) (ci := 4) (v := .ref na) hx hb hts wX4 hown hK hm hT.1 rfl 0 (by decide) f11 (fun _ h9 => h9) rfl dX4_takeOut_23 ?_
      refine m_alen hx hb hK hm 3 hT.2.1 rfl (v := nI 60) rfl dX4_takeOut_26 ?_
      refine lv_icmp_ge (tgt := 51) hx hb dX4_takeOut_27 (by decide) (fun c3 => ?_) (fun c3 => ?_)
      · exact absurd c3 (by rw [hpl]; exact fun h => absurd ((nI_leI (by decide) (by omega)).mp h) (by omega))
      · refine lv_aload_n hx hb dX4_takeOut_30 rfl (lv_at hl 0 rfl) ?_
        refine lv_ifnull hx hb dX4_takeOut_31 ?_
        refine lv_aload_n hx hb dX4_takeOut_34 rfl (lv_at hl 2 rfl) ?_
        refine m_get (T := TX4) (N := 2) (ci := 4) (v := .ref na) hx hb hts wX4 hown hK hm hT.1 rfl 0 (by decide) f11 (fun _ h9 => h9) rfl dX4_takeOut_35 ?_
        refine lv_iload_n hx hb dX4_takeOut_38 rfl (lv_at hl 1 rfl) ?_
        refine lv_aload_n hx hb dX4_takeOut_39 rfl (lv_at hl 0 rfl) ?_
        refine m_aast (r := (RX2, TX2, 4)) hx hb hK hm hS 3 2 hT.2.1 rfl hnb rfl (by rw [hpl]; exact vp_in_nI (by omega) (by decide)) dX4_takeOut_40 (fun H locs hm hS => ?_)
        have hm : mm D (AZ z) (mu M na (.inl (k 3, 60, .inr (.inr (.inr (.inr (va_up g ((placeFrom id L 0)).toNatClampNeg (some b)))))))) H := hm
        refine lv_aload_n hx hb dX4_takeOut_41 rfl (lv_at hl 2 rfl) ?_
        refine lv_dup hx hb dX4_takeOut_42 rfl ?_
        refine m_get (T := TX4) (N := 2) (ci := 4) (v := .int (nI L.length)) hx hb hts wX4 hown hK hm ((mu_ne ne_h0_na).trans hT.1) rfl 1 (by decide) f17 (fun _ h9 => h9) rfl dX4_takeOut_43 ?_
        refine lv_iconst (v := 1) hx hb dX4_takeOut_46 (by decide) ?_
        refine lv_isub hx hb dX4_takeOut_47 ?_
        refine m_put (T := TX4) (N := 2) (ci := 4) (v := .int ((nI L.length) - 1)) (ty := .int) hx hb hts wX4 tyX4 tyX4_ok nmX4 hown hK hm hS ((mu_ne ne_h0_na).trans hT.1) rfl 1 (by decide) f17 (fun _ h9 => h9) rfl (by decide +kernel) rfl rfl (Nat.le_of_ble_eq_true rfl) dX4_takeOut_48 (fun H locs hm hS => ?_)
        have hm : mm D (AZ z) (mu (mu M na (.inl (k 3, 60, .inr (.inr (.inr (.inr (va_up g ((placeFrom id L 0)).toNatClampNeg (some b)))))))) h0 (.inr (4, [.ref na, .int ((nI L.length) - 1)]))) H := hm
        refine W.vret hx hb hr (fun t ht hW => ⟨⟨none, _, rfl, ?_, by rw [ht]; exact hm⟩, hS.F ht⟩) hS.2.2 dX4_takeOut_51
        first
          | exact ⟨rfl, Or.inl ⟨hlk, rfl⟩⟩
          | exact ⟨rfl, Or.inr ⟨j, v, vl, b, hj, hLj, hid, hpl, hlk, hvl, hbn, by rw [hs1, hpl, nI_clamp (by omega)]; rfl⟩⟩
