set_option maxHeartbeats 4000000 in
set_option maxRecDepth 100000 in
theorem t_X4_at_I (l : Launch) (D : va_G) (k : Nat → ClassId) (z : Nat) (M : mM) (κ : Nat → Option KD) (h0 : Nat) (a0 : Int32) (hk_h0 : κ h0 = some .tree) (hT : TM k κ M) : mK l yX4_at wsX4_at ({ frames := 0, cells := 0, slots := 0, locals := 0 }) D k z [.ref h0, .int a0] M (fun v M' => ((v = some .null ∨ ∃ a, v = some (.ref a) ∧ κ a = some .node ∧ ¬ a0 < 0)) ∧ M' = M) := by
  refine Met.ofW (cc := cX4_at) (maxL := 2) (ret := (some (.object "CommitTree$Node"))) (by decide) rfl ?_
  intro p e s m args below meth c s₁ B hml hv
  obtain ⟨rfl, hz, hcx, hm⟩ := hv
  have hx := B.exec
  have hb := B.bytes
  have hr := B.returns
  have hts := atoms_spec (ws := wsX4_at) B.pre
  have hown : s.vm.findClass RX4 = some m.cls := findClass_of_methodNamed B.named
  have hlocks := B.notSynchronized
  have hK := hcx.1
  have hS : va_S (AZ z) s.heap s.heap [] := va_S.rf
  have hA : ∀ q, s.heap.size ≤ q → AZ z q := fun q h => Nat.le_trans hz h
  have hl := lv_entry ([.ref h0, .int a0]) (n := 2) (Nat.le_of_ble_eq_true rfl)
  rw [lg_entry_eq]
  generalize (lg_sl ([.ref h0, .int a0]) ++ List.replicate (2 - (lg_sl ([.ref h0, .int a0])).length) Slot.unset).toArray = ls at hl ⊢
  have hl : lv_has ls 2 [(0, .ref h0), (1, .int a0)] := hl
  have f11 := hts (.fieldLink RX4 11 "CommitTree$Tree" "nodes" "[LCommitTree$Node;") (by decide +kernel)
  have f17 := hts (.fieldLink RX4 17 "CommitTree$Tree" "size" "I") (by decide +kernel)
  have wX4 : ∀ w ∈ wsX40, w ∈ wsX4_at := by decide +kernel
  have hT0 := hT
  have hE : kx κ M κ M := kx.refl _ _
  refine lv_iload_n hx hb dX4_at_0 rfl (lv_at hl 1 rfl) ?_
  refine lv_if_lt (tgt := 30) hx hb dX4_at_1 (by decide) (fun c1 => ?_) (fun c1 => ?_)
  · refine lv_null hx hb dX4_at_30 ?_
    refine W.aret (v := .null) hx hb hr (Or.inl ⟨_, rfl⟩) (Or.inl rfl) (fun t ht hW => ⟨⟨some (.null), _, rfl, ?_, by rw [ht]; exact hm⟩, hS.F ht⟩) hS.2.2 dX4_at_31
    exact ⟨Or.inl rfl, rfl⟩
  · refine lv_iload_n hx hb dX4_at_4 rfl (lv_at hl 1 rfl) ?_
    refine lv_aload_n hx hb dX4_at_5 rfl (lv_at hl 0 rfl) ?_
    obtain ⟨v0_2, v1_2, hM_h0_2, hk_v0_2, hn_v1_2⟩ := hT.tree hk_h0
    refine m_get (T := TX4) (N := 2) (ci := 4) (v := .int (nI v1_2)) hx hb hts wX4 hown hK hm hM_h0_2 rfl 1 (by decide) f17 (fun _ h9 => h9) rfl dX4_at_6 ?_
    refine lv_icmp_ge (tgt := 30) hx hb dX4_at_9 (by decide) (fun c3 => ?_) (fun c3 => ?_)
    · refine lv_null hx hb dX4_at_30 ?_
      refine W.aret (v := .null) hx hb hr (Or.inl ⟨_, rfl⟩) (Or.inl rfl) (fun t ht hW => ⟨⟨some (.null), _, rfl, ?_, by rw [ht]; exact hm⟩, hS.F ht⟩) hS.2.2 dX4_at_31
      exact ⟨Or.inl rfl, rfl⟩
    · refine lv_iload_n hx hb dX4_at_12 rfl (lv_at hl 1 rfl) ?_
      refine lv_aload_n hx hb dX4_at_13 rfl (lv_at hl 0 rfl) ?_
      refine m_get (T := TX4) (N := 2) (ci := 4) (v := .ref v0_2) hx hb hts wX4 hown hK hm hM_h0_2 rfl 0 (by decide) f11 (fun _ h9 => h9) rfl dX4_at_14 ?_
      obtain ⟨g_4, hM_v0_2_4, hg_4⟩ := hT.rows hk_v0_2
      refine m_alen hx hb hK hm 3 hM_v0_2_4 rfl (v := nI 60) rfl dX4_at_17 ?_
      refine lv_icmp_ge (tgt := 30) hx hb dX4_at_18 (by decide) (fun c5 => ?_) (fun c5 => ?_)
      · refine lv_null hx hb dX4_at_30 ?_
        refine W.aret (v := .null) hx hb hr (Or.inl ⟨_, rfl⟩) (Or.inl rfl) (fun t ht hW => ⟨⟨some (.null), _, rfl, ?_, by rw [ht]; exact hm⟩, hS.F ht⟩) hS.2.2 dX4_at_31
        exact ⟨Or.inl rfl, rfl⟩
      · refine lv_aload_n hx hb dX4_at_21 rfl (lv_at hl 0 rfl) ?_
        refine m_get (T := TX4) (N := 2) (ci := 4) (v := .ref v0_2) hx hb hts wX4 hown hK hm hM_h0_2 rfl 0 (by decide) f11 (fun _ h9 => h9) rfl dX4_at_22 ?_
        refine lv_iload_n hx hb dX4_at_25 rfl (lv_at hl 1 rfl) ?_
        refine m_aald hx hb hK hm 3 hM_v0_2_4 rfl (in_of (i := a0) (n := 60) (by first | assumption | exact nI_pos (by omega)) (by assumption) (by first | decide | omega)) dX4_at_26 ?_
        obtain ⟨o6, ho6⟩ : ∃ o9, g_4 a0.toNatClampNeg = o9 := ⟨_, rfl⟩
        refine W.eq (g2 := F0 m 27 ls [va_rf o6]) (by rw [ho6]) ?_
        rcases o6 with _ | x7
        · refine W.eq (g2 := F0 m 27 ls [.null]) rfl ?_
          refine lv_goto (tgt := 31) hx hb dX4_at_27 (by decide) ?_
          refine W.aret (v := .null) hx hb hr (Or.inl ⟨_, rfl⟩) (Or.inl rfl) (fun t ht hW => ⟨⟨some (.null), _, rfl, ?_, by rw [ht]; exact hm⟩, hS.F ht⟩) hS.2.2 dX4_at_31
          exact ⟨Or.inl rfl, rfl⟩
        · have hk_x7 := hg_4 _ _ ho6
          refine W.eq (g2 := F0 m 27 ls [.ref x7]) rfl ?_
          refine lv_goto (tgt := 31) hx hb dX4_at_27 (by decide) ?_
          refine W.aret (v := .ref x7) hx hb hr (Or.inl ⟨_, rfl⟩) (Or.inr ⟨_, rfl⟩) (fun t ht hW => ⟨⟨some (.ref x7), _, rfl, ?_, by rw [ht]; exact hm⟩, hS.F ht⟩) hS.2.2 dX4_at_31
          exact ⟨Or.inr ⟨_, rfl, hk_x7, by assumption⟩, rfl⟩

set_option maxHeartbeats 4000000 in
set_option maxRecDepth 100000 in
theorem t_X4_add_R (l : Launch) (D : va_G) (k : Nat → ClassId) (z : Nat) (M : mM) (κ : Nat → Option KD) (h0 : Nat) (r0 : Nat) (hk_h0 : κ h0 = some .tree) (hk_r0 : κ r0 = some .node) (hT : TM k κ M) : mK l yX4_add wsX4_add ({ frames := 0, cells := 0, slots := 0, locals := 0 }) D k z [.ref h0, .ref r0] M (fun v M' => ∃ κ', TM k κ' M' ∧ kx κ M κ' M' ∧ v = none) := by
  refine Met.ofW (cc := cX4_add) (maxL := 2) (ret := none) (by decide) rfl ?_
  intro p e s m args below meth c s₁ B hml hv
  obtain ⟨rfl, hz, hcx, hm⟩ := hv
  have hx := B.exec
  have hb := B.bytes
  have hr := B.returns
  have hts := atoms_spec (ws := wsX4_add) B.pre
  have hown : s.vm.findClass RX4 = some m.cls := findClass_of_methodNamed B.named
  have hlocks := B.notSynchronized
  have hK := hcx.1
  have hS : va_S (AZ z) s.heap s.heap [] := va_S.rf
  have hA : ∀ q, s.heap.size ≤ q → AZ z q := fun q h => Nat.le_trans hz h
  have hl := lv_entry ([.ref h0, .ref r0]) (n := 2) (Nat.le_of_ble_eq_true rfl)
  rw [lg_entry_eq]
  generalize (lg_sl ([.ref h0, .ref r0]) ++ List.replicate (2 - (lg_sl ([.ref h0, .ref r0])).length) Slot.unset).toArray = ls at hl ⊢
  have hl : lv_has ls 2 [(0, .ref h0), (1, .ref r0)] := hl
  have f11 := hts (.fieldLink RX4 11 "CommitTree$Tree" "nodes" "[LCommitTree$Node;") (by decide +kernel)
  have f17 := hts (.fieldLink RX4 17 "CommitTree$Tree" "size" "I") (by decide +kernel)
  have wX4 : ∀ w ∈ wsX40, w ∈ wsX4_add := by decide +kernel
  have hT0 := hT
  have hE : kx κ M κ M := kx.refl _ _
  refine lv_aload_n hx hb dX4_add_0 rfl (lv_at hl 0 rfl) ?_
  obtain ⟨v0_1, v1_1, hM_h0_1, hk_v0_1, hn_v1_1⟩ := hT.tree hk_h0
  refine m_get (T := TX4) (N := 2) (ci := 4) (v := .int (nI v1_1)) hx hb hts wX4 hown hK hm hM_h0_1 rfl 1 (by decide) f17 (fun _ h9 => h9) rfl dX4_add_1 ?_
  refine lv_if_lt (tgt := 39) hx hb dX4_add_4 (by decide) (fun c2 => ?_) (fun c2 => ?_)
  · refine W.vret hx hb hr (fun t ht hW => ⟨⟨none, _, rfl, ?_, by rw [ht]; exact hm⟩, hS.F ht⟩) hS.2.2 dX4_add_39
    exact ⟨_, hT, hE, rfl⟩
  · refine lv_aload_n hx hb dX4_add_7 rfl (lv_at hl 0 rfl) ?_
    refine m_get (T := TX4) (N := 2) (ci := 4) (v := .int (nI v1_1)) hx hb hts wX4 hown hK hm hM_h0_1 rfl 1 (by decide) f17 (fun _ h9 => h9) rfl dX4_add_8 ?_
    refine lv_aload_n hx hb dX4_add_11 rfl (lv_at hl 0 rfl) ?_
    refine m_get (T := TX4) (N := 2) (ci := 4) (v := .ref v0_1) hx hb hts wX4 hown hK hm hM_h0_1 rfl 0 (by decide) f11 (fun _ h9 => h9) rfl dX4_add_12 ?_
    obtain ⟨g_3, hM_v0_1_3, hg_3⟩ := hT.rows hk_v0_1
    refine m_alen hx hb hK hm 3 hM_v0_1_3 rfl (v := nI 60) rfl dX4_add_15 ?_
    refine lv_icmp_ge (tgt := 39) hx hb dX4_add_16 (by decide) (fun c4 => ?_) (fun c4 => ?_)
    · refine W.vret hx hb hr (fun t ht hW => ⟨⟨none, _, rfl, ?_, by rw [ht]; exact hm⟩, hS.F ht⟩) hS.2.2 dX4_add_39
      exact ⟨_, hT, hE, rfl⟩
    · refine lv_aload_n hx hb dX4_add_19 rfl (lv_at hl 0 rfl) ?_
      refine m_get (T := TX4) (N := 2) (ci := 4) (v := .ref v0_1) hx hb hts wX4 hown hK hm hM_h0_1 rfl 0 (by decide) f11 (fun _ h9 => h9) rfl dX4_add_20 ?_
      refine lv_aload_n hx hb dX4_add_23 rfl (lv_at hl 0 rfl) ?_
      refine m_get (T := TX4) (N := 2) (ci := 4) (v := .int (nI v1_1)) hx hb hts wX4 hown hK hm hM_h0_1 rfl 1 (by decide) f17 (fun _ h9 => h9) rfl dX4_add_24 ?_
      refine lv_aload_n hx hb dX4_add_27 rfl (lv_at hl 1 rfl) ?_
      obtain ⟨v0_5, v1_5, v2_5, v3_5, hM_r0_5, hz_v1_5, hk_v3_5⟩ := hT.node hk_r0
      refine m_aast (r := (RX2, TX2, 4)) hx hb hK hm hS 3 2 hM_v0_1_3 rfl hM_r0_5 rfl (in_of (i := (nI v1_1)) (n := 60) (by first | assumption | exact nI_pos (by omega)) (by assumption) (by first | decide | omega)) dX4_add_28 (fun H locs hm hS => ?_)
      have hm : mm D (AZ z) (mu M v0_1 (.inl (k 3, 60, .inr (.inr (.inr (.inr (va_up g_3 ((nI v1_1)).toNatClampNeg (some r0)))))))) H := hm
      have hR_6 : (mu M v0_1 (.inl (k 3, 60, .inr (.inr (.inr (.inr (va_up g_3 ((nI v1_1)).toNatClampNeg (some r0)))))))) h0 = _ := (mu_ne (kd_ne hk_h0 hk_v0_1 (by decide))).trans hM_h0_1
      have hR_7 : (mu M v0_1 (.inl (k 3, 60, .inr (.inr (.inr (.inr (va_up g_3 ((nI v1_1)).toNatClampNeg (some r0)))))))) r0 = _ := (mu_ne (kd_ne hk_r0 hk_v0_1 (by decide))).trans hM_r0_5
      have hT : TM k κ (mu M v0_1 (.inl (k 3, 60, .inr (.inr (.inr (.inr (va_up g_3 ((nI v1_1)).toNatClampNeg (some r0)))))))) := hT.put hk_v0_1 (show wf k κ .rows (.inl (k 3, 60, .inr (.inr (.inr (.inr (va_up g_3 ((nI v1_1)).toNatClampNeg (some r0))))))) from ⟨(va_up g_3 ((nI v1_1)).toNatClampNeg (some r0)), rfl, fun j9 a9 h9 => by
        by_cases hj9 : j9 = ((nI v1_1)).toNatClampNeg
        · rw [hj9, va_up_self] at h9; cases h9; exact hk_r0
        · rw [va_up_ne _ _ hj9] at h9; exact hg_3 _ _ h9⟩)
      have hE : kx κ M κ (mu M v0_1 (.inl (k 3, 60, .inr (.inr (.inr (.inr (va_up g_3 ((nI v1_1)).toNatClampNeg (some r0)))))))) := hE.put hk_v0_1
      generalize (mu M v0_1 (.inl (k 3, 60, .inr (.inr (.inr (.inr (va_up g_3 ((nI v1_1)).toNatClampNeg (some r0)))))))) = Mc1 at hm hT hE hR_6 hR_7
      refine lv_aload_n hx hb dX4_add_29 rfl (lv_at hl 0 rfl) ?_
      refine lv_dup hx hb dX4_add_30 rfl ?_
      refine m_get (T := TX4) (N := 2) (ci := 4) (v := .int (nI v1_1)) hx hb hts wX4 hown hK hm hR_6 rfl 1 (by decide) f17 (fun _ h9 => h9) rfl dX4_add_31 ?_
      refine lv_iconst (v := 1) hx hb dX4_add_34 (by decide) ?_
      refine lv_iadd hx hb dX4_add_35 ?_
      refine m_put (T := TX4) (N := 2) (ci := 4) (v := .int ((nI v1_1) + 1)) (ty := .int) hx hb hts wX4 tyX4 tyX4_ok nmX4 hown hK hm hS hR_6 rfl 1 (by decide) f17 (fun _ h9 => h9) rfl (by decide +kernel) rfl rfl (Nat.le_of_ble_eq_true rfl) dX4_add_36 (fun H locs hm hS => ?_)
      have hm : mm D (AZ z) (mu Mc1 h0 (.inr (4, [.ref v0_1, .int ((nI v1_1) + 1)]))) H := hm
      have hR_8 : (mu Mc1 h0 (.inr (4, [.ref v0_1, .int ((nI v1_1) + 1)]))) r0 = _ := (mu_ne (kd_ne hk_r0 hk_h0 (by decide))).trans hR_7
      have hT : TM k κ (mu Mc1 h0 (.inr (4, [.ref v0_1, .int ((nI v1_1) + 1)]))) := hT.put hk_h0 (show wf k κ .tree (.inr (4, [.ref v0_1, .int ((nI v1_1) + 1)])) from ⟨v0_1, (v1_1 + 1), (by rw [nI_1]), hk_v0_1, (show v1_1 + 1 ≤ 60 from nI_ltn (by omega) (by omega) (by assumption))⟩)
      have hE : kx κ M κ (mu Mc1 h0 (.inr (4, [.ref v0_1, .int ((nI v1_1) + 1)]))) := hE.put hk_h0
      generalize (mu Mc1 h0 (.inr (4, [.ref v0_1, .int ((nI v1_1) + 1)]))) = Mc2 at hm hT hE hR_8
      refine W.vret hx hb hr (fun t ht hW => ⟨⟨none, _, rfl, ?_, by rw [ht]; exact hm⟩, hS.F ht⟩) hS.2.2 dX4_add_39
      exact ⟨_, hT, hE, rfl⟩

set_option maxHeartbeats 4000000 in
set_option maxRecDepth 100000 in
theorem t_X4_copyFrom_R (l : Launch) (D : va_G) (k : Nat → ClassId) (z : Nat) (M : mM) (κ : Nat → Option KD) (h0 : Nat) (r0 : Nat) (hk_h0 : κ h0 = some .tree) (hk_r0 : κ r0 = some .tree) (hT : TM k κ M) : mK l yX4_copyFrom wsX4_copyFrom ({ frames := 1, cells := 0, slots := 0, locals := 21 }) D k z [.ref h0, .ref r0] M (fun v M' => ∃ κ', TM k κ' M' ∧ kx κ M κ' M' ∧ v = none) := by
  refine Met.ofW (cc := cX4_copyFrom) (maxL := 4) (ret := none) (by decide) rfl ?_
  intro p e s m args below meth c s₁ B hml hv
  obtain ⟨rfl, hz, hcx, hm⟩ := hv
  have hx := B.exec
  have hb := B.bytes
  have hr := B.returns
  have hts := atoms_spec (ws := wsX4_copyFrom) B.pre
  have hown : s.vm.findClass RX4 = some m.cls := findClass_of_methodNamed B.named
  have hlocks := B.notSynchronized
  have hK := hcx.1
  have hS : va_S (AZ z) s.heap s.heap [] := va_S.rf
  have hA : ∀ q, s.heap.size ≤ q → AZ z q := fun q h => Nat.le_trans hz h
  have hl := lv_entry ([.ref h0, .ref r0]) (n := 4) (Nat.le_of_ble_eq_true rfl)
  rw [lg_entry_eq]
  generalize (lg_sl ([.ref h0, .ref r0]) ++ List.replicate (4 - (lg_sl ([.ref h0, .ref r0])).length) Slot.unset).toArray = ls at hl ⊢
  have hl : lv_has ls 4 [(0, .ref h0), (1, .ref r0)] := hl
  have f17 := hts (.fieldLink RX4 17 "CommitTree$Tree" "size" "I") (by decide +kernel)
  have wX4 : ∀ w ∈ wsX40, w ∈ wsX4_copyFrom := by decide +kernel
  have hT0 := hT
  have hE : kx κ M κ M := kx.refl _ _
  refine lv_aload_n hx hb dX4_copyFrom_0 rfl (lv_at hl 0 rfl) ?_
  refine lv_iconst (v := 0) hx hb dX4_copyFrom_1 (by decide) ?_
  obtain ⟨v0_1, v1_1, hM_h0_1, hk_v0_1, hn_v1_1⟩ := hT.tree hk_h0
  refine m_put (T := TX4) (N := 2) (ci := 4) (v := .int 0) (ty := .int) hx hb hts wX4 tyX4 tyX4_ok nmX4 hown hK hm hS hM_h0_1 rfl 1 (by decide) f17 (fun _ h9 => h9) rfl (by decide +kernel) rfl rfl (Nat.le_of_ble_eq_true rfl) dX4_copyFrom_2 (fun H locs hm hS => ?_)
  have hm : mm D (AZ z) (mu M h0 (.inr (4, [.ref v0_1, .int 0]))) H := hm
  have hT : TM k κ (mu M h0 (.inr (4, [.ref v0_1, .int 0]))) := hT.put hk_h0 (show wf k κ .tree (.inr (4, [.ref v0_1, .int 0])) from ⟨v0_1, 0, rfl, hk_v0_1, (by decide)⟩)
  have hE : kx κ M κ (mu M h0 (.inr (4, [.ref v0_1, .int 0]))) := hE.put hk_h0
  generalize (mu M h0 (.inr (4, [.ref v0_1, .int 0]))) = Mc1 at hm hT hE
  refine lv_iconst (v := 0) hx hb dX4_copyFrom_5 (by decide) ?_
  refine lv_istore_n (lv' := [(2, .int 0), (0, .ref h0), (1, .ref r0)]) hx hb dX4_copyFrom_6 rfl hl (by decide) rfl (fun ls hl => ?_)
  refine W_loop (σ := Nat × (Nat → Option KD) × mM) (fun ⟨j2, K7, M7⟩ H locs ls => (j2 < 2147483648) ∧ (TM k K7 M7) ∧ (kx κ M K7 M7) ∧ (K7 h0 = some .tree) ∧ (K7 r0 = some .tree) ∧ mm D (AZ z) M7 H ∧ va_S (AZ z) s.heap H locs ∧ lv_has ls 4 [(2, .int (nI j2)), (0, .ref h0), (1, .ref r0)]) (fun ⟨j2, K7, M7⟩ => 2147483648 - j2) (fun ⟨j2, K7, M7⟩ => 0) (fun ⟨j2, K7, M7⟩ => 0) ?_ (0, κ, Mc1) _ _ _ ⟨(by decide), hT, hE, hk_h0, hk_r0, hm, hS, lv_sub hl [0, 1, 2] rfl⟩
  intro ⟨j2, K7, M7⟩ H locs ls hQ ih7
  obtain ⟨hbj2, hT, hE, hk_h0, hk_r0, hm, hS, hl⟩ := hQ
  try dsimp only at hm hl ih7 hbj2 hT hE hk_h0 hk_r0 ⊢
  refine lv_iload_n hx hb dX4_copyFrom_7 rfl (lv_at hl 0 rfl) ?_
  refine lv_aload_n hx hb dX4_copyFrom_8 rfl (lv_at hl 2 rfl) ?_
  obtain ⟨v0_3, v1_3, hM_r0_3, hk_v0_3, hn_v1_3⟩ := hT.tree hk_r0
  refine m_get (T := TX4) (N := 2) (ci := 4) (v := .int (nI v1_3)) hx hb hts wX4 hown hK hm hM_r0_3 rfl 1 (by decide) f17 (fun _ h9 => h9) rfl dX4_copyFrom_9 ?_
  refine lv_icmp_ge (tgt := 36) hx hb dX4_copyFrom_12 (by decide) (fun c4 => ?_) (fun c4 => ?_)
  · refine W.vret hx hb hr (fun t ht hW => ⟨⟨none, _, rfl, ?_, by rw [ht]; exact hm⟩, hS.F ht⟩) hS.2.2 dX4_copyFrom_36
    exact ⟨_, hT, hE, rfl⟩
  · refine lv_aload_n hx hb dX4_copyFrom_15 rfl (lv_at hl 2 rfl) ?_
    refine lv_iload_n hx hb dX4_copyFrom_16 rfl (lv_at hl 0 rfl) ?_
    refine m_kV (As := [.int (nI j2)]) (rest := []) (rm := { frames := 0, cells := 0, slots := 0, locals := 0 }) ⟨hx, hb, hml, hown, hts⟩ (t_X4_at_I l D k z _ _ r0 (nI j2) hk_r0 hT) (cwV 1 hts gX4_copyFrom_X4_at rfl rfl rfl (by decide +kernel) ⟨Nat.le_of_ble_eq_true rfl, Nat.le_of_ble_eq_true rfl⟩) (m_recv hK hm (q := (RX4, TX4, 2)) rfl hM_r0_3) hz hcx hm hS rfl hl.1 rfl (Nat.le_of_ble_eq_true rfl) dX4_copyFrom_17 ⟨Nat.le_of_ble_eq_true rfl, Nat.le_of_ble_eq_true rfl⟩ (fun v M1 H locs hv hm hS => ?_)
    obtain ⟨hv1, hM1⟩ := hv
    rw [hM1] at hm
    rcases hv1 with hv1 | ⟨x5, hv1, hk_x5, hx9⟩
    · subst hv1
      refine W.eq (g2 := F0 m 20 ls [.null]) rfl ?_
      refine W.widen (k := 0) (n := 0) (Nat.le_of_ble_eq_true rfl) (Nat.le_of_ble_eq_true rfl) ?_
      have hm : mm D (AZ z) M7 H := hm
      refine lv_astore_nN (lv' := [(3, .null), (2, .int (nI j2)), (0, .ref h0), (1, .ref r0)]) hx hb dX4_copyFrom_20 rfl hl (by decide) rfl (fun ls hl => ?_)
      refine lv_aload_nN hx hb dX4_copyFrom_21 rfl (lv_at hl 0 rfl) ?_
      refine lv_ifnullN (tgt := 30) hx hb dX4_copyFrom_22 (by decide) ?_
      refine lv_iinc (v := ((nI j2) + 1)) (lv' := [(2, .int ((nI j2) + 1)), (3, .null), (0, .ref h0), (1, .ref r0)]) hx hb dX4_copyFrom_30 hl (k := 1) rfl rfl (by decide) rfl (fun ls hl => ?_)
      refine lv_goto (tgt := 7) hx hb dX4_copyFrom_33 (by decide) ?_
      rw [nI_1] at hl
      exact ih7 (j2 + 1, K7, M7) _ _ _ ⟨(by first | exact nI_up hbj2 c4 | exact nI_up2 (by decide) hbj2 c4), hT, hE, hk_h0, hk_r0, hm, hS, lv_sub hl [0, 2, 3] rfl⟩ (by show 2147483648 - (j2 + 1) < 2147483648 - j2; omega)
    · subst hv1
      refine W.eq (g2 := F0 m 20 ls [.ref x5]) rfl ?_
      refine W.widen (k := 0) (n := 0) (Nat.le_of_ble_eq_true rfl) (Nat.le_of_ble_eq_true rfl) ?_
      have hm : mm D (AZ z) M7 H := hm
      refine lv_astore_n (lv' := [(3, .ref x5), (2, .int (nI j2)), (0, .ref h0), (1, .ref r0)]) hx hb dX4_copyFrom_20 rfl hl (by decide) rfl (fun ls hl => ?_)
      refine lv_aload_n hx hb dX4_copyFrom_21 rfl (lv_at hl 0 rfl) ?_
      refine lv_ifnull hx hb dX4_copyFrom_22 ?_
      refine lv_aload_n hx hb dX4_copyFrom_25 rfl (lv_at hl 2 rfl) ?_
      refine lv_aload_n hx hb dX4_copyFrom_26 rfl (lv_at hl 0 rfl) ?_
      obtain ⟨v0_6, v1_6, hM_h0_6, hk_v0_6, hn_v1_6⟩ := hT.tree hk_h0
      refine m_kV (As := [.ref x5]) (rest := []) (rm := { frames := 0, cells := 0, slots := 0, locals := 0 }) ⟨hx, hb, hml, hown, hts⟩ (t_X4_add_R l D k z _ _ h0 x5 hk_h0 hk_x5 hT) (cwV 1 hts gX4_copyFrom_X4_add rfl rfl rfl (by decide +kernel) ⟨Nat.le_of_ble_eq_true rfl, Nat.le_of_ble_eq_true rfl⟩) (m_recv hK hm (q := (RX4, TX4, 2)) rfl hM_h0_6) hz hcx hm hS rfl hl.1 rfl (Nat.le_of_ble_eq_true rfl) dX4_copyFrom_27 ⟨Nat.le_of_ble_eq_true rfl, Nat.le_of_ble_eq_true rfl⟩ (fun v M1 H locs hv hm hS => ?_)
      obtain ⟨κ2, hT9, hE9, hv1⟩ := hv
      have hk_h0 := hE9.k hT hk_h0
      have hk_r0 := hE9.k hT hk_r0
      have hk_x5 := hE9.k hT hk_x5
      have hE := hE.trans hT0 hT hE9
      have hT := hT9
      obtain ⟨Mc2, hMx⟩ : ∃ x : mM, x = M1 := ⟨M1, rfl⟩
      subst hMx
      subst hv1
      refine W.eq (g2 := F0 m 30 ls []) rfl ?_
      refine W.widen (k := 0) (n := 0) (Nat.le_of_ble_eq_true rfl) (Nat.le_of_ble_eq_true rfl) ?_
      have hm : mm D (AZ z) Mc2 H := hm
      refine lv_iinc (v := ((nI j2) + 1)) (lv' := [(2, .int ((nI j2) + 1)), (3, .ref x5), (0, .ref h0), (1, .ref r0)]) hx hb dX4_copyFrom_30 hl (k := 1) rfl rfl (by decide) rfl (fun ls hl => ?_)
      refine lv_goto (tgt := 7) hx hb dX4_copyFrom_33 (by decide) ?_
      rw [nI_1] at hl
      exact ih7 (j2 + 1, κ2, Mc2) _ _ _ ⟨(by first | exact nI_up hbj2 c4 | exact nI_up2 (by decide) hbj2 c4), hT, hE, hk_h0, hk_r0, hm, hS, lv_sub hl [0, 2, 3] rfl⟩ (by show 2147483648 - (j2 + 1) < 2147483648 - j2; omega)

set_option maxHeartbeats 4000000 in
set_option maxRecDepth 100000 in
theorem t_X3_start_R (l : Launch) (D : va_G) (k : Nat → ClassId) (z : Nat) (M : mM) (κ : Nat → Option KD) (h0 : Nat) (r0 : Nat) (hk_h0 : κ h0 = some .txn) (hk_r0 : κ r0 = some .tree) (hT : TM k κ M) : mK l yX3_start wsX3_start ({ frames := 2, cells := 0, slots := 0, locals := 44 }) D k z [.ref h0, .ref r0] M (fun v M' => ∃ κ', TM k κ' M' ∧ kx κ M κ' M' ∧ v = none) := by
  refine Met.ofW (cc := cX3_start) (maxL := 2) (ret := none) (by decide) rfl ?_
  intro p e s m args below meth c s₁ B hml hv
  obtain ⟨rfl, hz, hcx, hm⟩ := hv
  have hx := B.exec
  have hb := B.bytes
  have hr := B.returns
  have hts := atoms_spec (ws := wsX3_start) B.pre
  have hown : s.vm.findClass RX3 = some m.cls := findClass_of_methodNamed B.named
  have hlocks := B.notSynchronized
  have hK := hcx.1
  have hS : va_S (AZ z) s.heap s.heap [] := va_S.rf
  have hA : ∀ q, s.heap.size ≤ q → AZ z q := fun q h => Nat.le_trans hz h
  have hl := lv_entry ([.ref h0, .ref r0]) (n := 2) (Nat.le_of_ble_eq_true rfl)
  rw [lg_entry_eq]
  generalize (lg_sl ([.ref h0, .ref r0]) ++ List.replicate (2 - (lg_sl ([.ref h0, .ref r0])).length) Slot.unset).toArray = ls at hl ⊢
  have hl : lv_has ls 2 [(0, .ref h0), (1, .ref r0)] := hl
  have f12 := hts (.fieldLink RX3 12 "CommitTree$Transaction" "base" "LCommitTree$Tree;") (by decide +kernel)
  have f22 := hts (.fieldLink RX3 22 "CommitTree$Transaction" "cellsRead" "[J") (by decide +kernel)
  have f26 := hts (.fieldLink RX3 26 "CommitTree$Transaction" "factsRead" "[J") (by decide +kernel)
  have f29 := hts (.fieldLink RX3 29 "CommitTree$Transaction" "open" "Z") (by decide +kernel)
  have f33 := hts (.fieldLink RX3 33 "CommitTree$Transaction" "marked" "I") (by decide +kernel)
  have f37 := hts (.fieldLink RX3 37 "CommitTree$Transaction" "view" "LCommitTree$Tree;") (by decide +kernel)
  have wX3 : ∀ w ∈ wsX30, w ∈ wsX3_start := by decide +kernel
  have hT0 := hT
  have hE : kx κ M κ M := kx.refl _ _
  refine lv_aload_n hx hb dX3_start_0 rfl (lv_at hl 0 rfl) ?_
  obtain ⟨v0_1, v1_1, v2_1, v3_1, v4_1, v5_1, v6_1, hM_h0_1, hk_v0_1, hk_v1_1, hk_v2_1, hk_v3_1, hk_v4_1, hz_v5_1⟩ := hT.txn hk_h0
  refine m_get (T := TX3) (N := 7) (ci := 3) (v := .ref v0_1) hx hb hts wX3 hown hK hm hM_h0_1 rfl 0 (by decide) f12 (fun _ h9 => h9) rfl dX3_start_1 ?_
  refine lv_aload_n hx hb dX3_start_4 rfl (lv_at hl 1 rfl) ?_
  obtain ⟨v0_2, v1_2, hM_v0_1_2, hk_v0_2, hn_v1_2⟩ := hT.tree hk_v0_1
  refine m_kV (As := [.ref r0]) (rest := []) (rm := { frames := 1, cells := 0, slots := 0, locals := 21 }) ⟨hx, hb, hml, hown, hts⟩ (t_X4_copyFrom_R l D k z _ _ v0_1 r0 hk_v0_1 hk_r0 hT) (cwV 1 hts gX3_start_X4_copyFrom rfl rfl rfl (by decide +kernel) ⟨Nat.le_of_ble_eq_true rfl, Nat.le_of_ble_eq_true rfl⟩) (m_recv hK hm (q := (RX4, TX4, 2)) rfl hM_v0_1_2) hz hcx hm hS rfl hl.1 rfl (Nat.le_of_ble_eq_true rfl) dX3_start_5 ⟨Nat.le_of_ble_eq_true rfl, Nat.le_of_ble_eq_true rfl⟩ (fun v M1 H locs hv hm hS => ?_)
  obtain ⟨κ1, hT9, hE9, hv1⟩ := hv
  have hk_h0 := hE9.k hT hk_h0
  have hk_r0 := hE9.k hT hk_r0
  have hk_v0_1 := hE9.k hT hk_v0_1
  have hE := hE.trans hT0 hT hE9
  have hT := hT9
  obtain ⟨Mc1, hMx⟩ : ∃ x : mM, x = M1 := ⟨M1, rfl⟩
  subst hMx
  subst hv1
  refine W.eq (g2 := F0 m 8 ls []) rfl ?_
  refine W.widen (k := 0) (n := 0) (Nat.le_of_ble_eq_true rfl) (Nat.le_of_ble_eq_true rfl) ?_
  have hm : mm D (AZ z) Mc1 H := hm
  refine lv_aload_n hx hb dX3_start_8 rfl (lv_at hl 0 rfl) ?_
  obtain ⟨v0_3, v1_3, v2_3, v3_3, v4_3, v5_3, v6_3, hM_h0_3, hk_v0_3, hk_v1_3, hk_v2_3, hk_v3_3, hk_v4_3, hz_v5_3⟩ := hT.txn hk_h0
  refine m_get (T := TX3) (N := 7) (ci := 3) (v := .ref v1_3) hx hb hts wX3 hown hK hm hM_h0_3 rfl 1 (by decide) f37 (fun _ h9 => h9) rfl dX3_start_9 ?_
  refine lv_aload_n hx hb dX3_start_12 rfl (lv_at hl 1 rfl) ?_
  obtain ⟨v0_4, v1_4, hM_v1_3_4, hk_v0_4, hn_v1_4⟩ := hT.tree hk_v1_3
  refine m_kV (As := [.ref r0]) (rest := []) (rm := { frames := 1, cells := 0, slots := 0, locals := 21 }) ⟨hx, hb, hml, hown, hts⟩ (t_X4_copyFrom_R l D k z _ _ v1_3 r0 hk_v1_3 hk_r0 hT) (cwV 1 hts gX3_start_X4_copyFrom rfl rfl rfl (by decide +kernel) ⟨Nat.le_of_ble_eq_true rfl, Nat.le_of_ble_eq_true rfl⟩) (m_recv hK hm (q := (RX4, TX4, 2)) rfl hM_v1_3_4) hz hcx hm hS rfl hl.1 rfl (Nat.le_of_ble_eq_true rfl) dX3_start_13 ⟨Nat.le_of_ble_eq_true rfl, Nat.le_of_ble_eq_true rfl⟩ (fun v M1 H locs hv hm hS => ?_)
  obtain ⟨κ2, hT9, hE9, hv1⟩ := hv
  have hk_h0 := hE9.k hT hk_h0
  have hk_r0 := hE9.k hT hk_r0
  have hk_v1_3 := hE9.k hT hk_v1_3
  have hE := hE.trans hT0 hT hE9
  have hT := hT9
  obtain ⟨Mc2, hMx⟩ : ∃ x : mM, x = M1 := ⟨M1, rfl⟩
  subst hMx
  subst hv1
  refine W.eq (g2 := F0 m 16 ls []) rfl ?_
  refine W.widen (k := 0) (n := 0) (Nat.le_of_ble_eq_true rfl) (Nat.le_of_ble_eq_true rfl) ?_
  have hm : mm D (AZ z) Mc2 H := hm
  refine lv_aload_n hx hb dX3_start_16 rfl (lv_at hl 0 rfl) ?_
  obtain ⟨v0_5, v1_5, v2_5, v3_5, v4_5, v5_5, v6_5, hM_h0_5, hk_v0_5, hk_v1_5, hk_v2_5, hk_v3_5, hk_v4_5, hz_v5_5⟩ := hT.txn hk_h0
  refine m_get (T := TX3) (N := 7) (ci := 3) (v := .ref v3_5) hx hb hts wX3 hown hK hm hM_h0_5 rfl 3 (by decide) f22 (fun _ h9 => h9) rfl dX3_start_17 ?_
  refine lv_lconst (v := 0) hx hb dX3_start_20 (by decide) ?_
  obtain ⟨f_6, hM_v3_5_6⟩ := hT.longs hk_v3_5
  refine m_kS (As := [.ref v3_5, .long 0]) (rest := []) (rm := { frames := 0, cells := 0, slots := 0, locals := 0 }) ⟨hx, hb, hml, hown, hts⟩ (c_J7_fill_d0a16 l D k z _ v3_5 f_6 (0) hM_v3_5_6) (va_cwS 2 hts gX3_start_J7_fill_d0a16 rfl rfl rfl (by decide +kernel) ⟨Nat.le_of_ble_eq_true rfl, Nat.le_of_ble_eq_true rfl⟩) hz hcx hm hS rfl hl.1 rfl (Nat.le_of_ble_eq_true rfl) dX3_start_21 ⟨Nat.le_of_ble_eq_true rfl, Nat.le_of_ble_eq_true rfl⟩ (fun v M1 H locs hv hm hS => ?_)
  obtain ⟨hv1, hM1⟩ := hv
  obtain ⟨κ3, hT9, hE9⟩ : ∃ κ9, TM k κ9 M1 ∧ kx κ2 _ κ9 M1 := ⟨κ2, by rw [hM1]; exact hT.put hk_v3_5 ⟨_, rfl⟩, by rw [hM1]; exact (kx.refl _ _).put hk_v3_5⟩
  have hk_h0 := hE9.k hT hk_h0
  have hk_r0 := hE9.k hT hk_r0
  have hE := hE.trans hT0 hT hE9
  have hT := hT9
  obtain ⟨Mc3, hMx⟩ : ∃ x : mM, x = M1 := ⟨M1, rfl⟩
  subst hMx
  subst hv1
  refine W.eq (g2 := F0 m 24 ls []) rfl ?_
  refine W.widen (k := 0) (n := 0) (Nat.le_of_ble_eq_true rfl) (Nat.le_of_ble_eq_true rfl) ?_
  have hm : mm D (AZ z) Mc3 H := hm
  refine lv_aload_n hx hb dX3_start_24 rfl (lv_at hl 0 rfl) ?_
  obtain ⟨v0_7, v1_7, v2_7, v3_7, v4_7, v5_7, v6_7, hM_h0_7, hk_v0_7, hk_v1_7, hk_v2_7, hk_v3_7, hk_v4_7, hz_v5_7⟩ := hT.txn hk_h0
  refine m_get (T := TX3) (N := 7) (ci := 3) (v := .ref v4_7) hx hb hts wX3 hown hK hm hM_h0_7 rfl 4 (by decide) f26 (fun _ h9 => h9) rfl dX3_start_25 ?_
  refine lv_lconst (v := 0) hx hb dX3_start_28 (by decide) ?_
  obtain ⟨f_8, hM_v4_7_8⟩ := hT.longs hk_v4_7
  refine m_kS (As := [.ref v4_7, .long 0]) (rest := []) (rm := { frames := 0, cells := 0, slots := 0, locals := 0 }) ⟨hx, hb, hml, hown, hts⟩ (c_J7_fill_d0a16 l D k z _ v4_7 f_8 (0) hM_v4_7_8) (va_cwS 2 hts gX3_start_J7_fill_d0a16 rfl rfl rfl (by decide +kernel) ⟨Nat.le_of_ble_eq_true rfl, Nat.le_of_ble_eq_true rfl⟩) hz hcx hm hS rfl hl.1 rfl (Nat.le_of_ble_eq_true rfl) dX3_start_29 ⟨Nat.le_of_ble_eq_true rfl, Nat.le_of_ble_eq_true rfl⟩ (fun v M1 H locs hv hm hS => ?_)
  obtain ⟨hv1, hM1⟩ := hv
  obtain ⟨κ4, hT9, hE9⟩ : ∃ κ9, TM k κ9 M1 ∧ kx κ3 _ κ9 M1 := ⟨κ3, by rw [hM1]; exact hT.put hk_v4_7 ⟨_, rfl⟩, by rw [hM1]; exact (kx.refl _ _).put hk_v4_7⟩
  have hk_h0 := hE9.k hT hk_h0
  have hk_r0 := hE9.k hT hk_r0
  have hE := hE.trans hT0 hT hE9
  have hT := hT9
  obtain ⟨Mc4, hMx⟩ : ∃ x : mM, x = M1 := ⟨M1, rfl⟩
  subst hMx
  subst hv1
  refine W.eq (g2 := F0 m 32 ls []) rfl ?_
  refine W.widen (k := 0) (n := 0) (Nat.le_of_ble_eq_true rfl) (Nat.le_of_ble_eq_true rfl) ?_
  have hm : mm D (AZ z) Mc4 H := hm
  refine lv_aload_n hx hb dX3_start_32 rfl (lv_at hl 0 rfl) ?_
  refine lv_iconst (v := 0) hx hb dX3_start_33 (by decide) ?_
  obtain ⟨v0_9, v1_9, v2_9, v3_9, v4_9, v5_9, v6_9, hM_h0_9, hk_v0_9, hk_v1_9, hk_v2_9, hk_v3_9, hk_v4_9, hz_v5_9⟩ := hT.txn hk_h0
  refine m_put (T := TX3) (N := 7) (ci := 3) (v := .int 0) (ty := .int) hx hb hts wX3 tyX3 tyX3_ok nmX3 hown hK hm hS hM_h0_9 rfl 6 (by decide) f33 (fun _ h9 => h9) rfl (by decide +kernel) rfl rfl (Nat.le_of_ble_eq_true rfl) dX3_start_34 (fun H locs hm hS => ?_)
  have hm : mm D (AZ z) (mu Mc4 h0 (.inr (3, [.ref v0_9, .ref v1_9, .ref v2_9, .ref v3_9, .ref v4_9, .int v5_9, .int 0]))) H := hm
  have hT : TM k κ4 (mu Mc4 h0 (.inr (3, [.ref v0_9, .ref v1_9, .ref v2_9, .ref v3_9, .ref v4_9, .int v5_9, .int 0]))) := hT.put hk_h0 (show wf k κ4 .txn (.inr (3, [.ref v0_9, .ref v1_9, .ref v2_9, .ref v3_9, .ref v4_9, .int v5_9, .int 0])) from ⟨v0_9, v1_9, v2_9, v3_9, v4_9, v5_9, 0, rfl, hk_v0_9, hk_v1_9, hk_v2_9, hk_v3_9, hk_v4_9, hz_v5_9⟩)
  have hE : kx κ M κ4 (mu Mc4 h0 (.inr (3, [.ref v0_9, .ref v1_9, .ref v2_9, .ref v3_9, .ref v4_9, .int v5_9, .int 0]))) := hE.put hk_h0
  generalize (mu Mc4 h0 (.inr (3, [.ref v0_9, .ref v1_9, .ref v2_9, .ref v3_9, .ref v4_9, .int v5_9, .int 0]))) = Mc5 at hm hT hE
  refine lv_aload_n hx hb dX3_start_37 rfl (lv_at hl 0 rfl) ?_
  refine lv_iconst (v := 1) hx hb dX3_start_38 (by decide) ?_
  obtain ⟨v0_10, v1_10, v2_10, v3_10, v4_10, v5_10, v6_10, hM_h0_10, hk_v0_10, hk_v1_10, hk_v2_10, hk_v3_10, hk_v4_10, hz_v5_10⟩ := hT.txn hk_h0
  refine m_put (T := TX3) (N := 7) (ci := 3) (v := .int 1) (ty := .boolean) hx hb hts wX3 tyX3 tyX3_ok nmX3 hown hK hm hS hM_h0_10 rfl 5 (by decide) f29 (fun _ h9 => h9) rfl (by decide +kernel) rfl rfl (Nat.le_of_ble_eq_true rfl) dX3_start_39 (fun H locs hm hS => ?_)
  have hm : mm D (AZ z) (mu Mc5 h0 (.inr (3, [.ref v0_10, .ref v1_10, .ref v2_10, .ref v3_10, .ref v4_10, .int 1, .int v6_10]))) H := hm
  have hT : TM k κ4 (mu Mc5 h0 (.inr (3, [.ref v0_10, .ref v1_10, .ref v2_10, .ref v3_10, .ref v4_10, .int 1, .int v6_10]))) := hT.put hk_h0 (show wf k κ4 .txn (.inr (3, [.ref v0_10, .ref v1_10, .ref v2_10, .ref v3_10, .ref v4_10, .int 1, .int v6_10])) from ⟨v0_10, v1_10, v2_10, v3_10, v4_10, 1, v6_10, rfl, hk_v0_10, hk_v1_10, hk_v2_10, hk_v3_10, hk_v4_10, (Or.inr rfl)⟩)
  have hE : kx κ M κ4 (mu Mc5 h0 (.inr (3, [.ref v0_10, .ref v1_10, .ref v2_10, .ref v3_10, .ref v4_10, .int 1, .int v6_10]))) := hE.put hk_h0
  generalize (mu Mc5 h0 (.inr (3, [.ref v0_10, .ref v1_10, .ref v2_10, .ref v3_10, .ref v4_10, .int 1, .int v6_10]))) = Mc6 at hm hT hE
  refine W.vret hx hb hr (fun t ht hW => ⟨⟨none, _, rfl, ?_, by rw [ht]; exact hm⟩, hS.F ht⟩) hS.2.2 dX3_start_42
  exact ⟨_, hT, hE, rfl⟩

set_option maxHeartbeats 4000000 in
set_option maxRecDepth 100000 in
theorem t_X5_begin (l : Launch) (hlt : l.stackTraces = false) (D : va_G) (k : Nat → ClassId) (z : Nat) (M : mM) (κ : Nat → Option KD) (h0 : Nat) (hk_h0 : κ h0 = some .top) (hT : TM k κ M) : mC l yX5_begin wsX5_begin ({ frames := 6, cells := 1, slots := 6, locals := 82 }) D k z [.ref h0] M (fun v M' => ∃ κ', TM k κ' M' ∧ kx κ M κ' M' ∧ ∃ x, v = some (.int x)) (fun E M' => E ∈ (["java/lang/IllegalStateException", "java/lang/UnsupportedOperationException"] : List String) ∧ ∃ κ', TM k κ' M' ∧ kx κ M κ' M') := by
  refine vx_ofW (cc := cX5_begin) (maxL := 3) (ret := (some .int)) (by decide) rfl ?_
  intro p e s m args below meth c s₁ B hml hnt hv
  obtain ⟨rfl, hz, hcx, hm⟩ := hv
  have hx := B.exec
  have hb := B.bytes
  have hr := B.returns
  have hts := atoms_spec (ws := wsX5_begin) B.pre
  have hown : s.vm.findClass RX5 = some m.cls := findClass_of_methodNamed B.named
  have hlocks := B.notSynchronized
  have hK := hcx.1
  have hS : va_S (AZ z) s.heap s.heap [] := va_S.rf
  have hA : ∀ q, s.heap.size ≤ q → AZ z q := fun q h => Nat.le_trans hz h
  have hl := lv_entry ([.ref h0]) (n := 3) (Nat.le_of_ble_eq_true rfl)
  rw [lg_entry_eq]
  generalize (lg_sl ([.ref h0]) ++ List.replicate (3 - (lg_sl ([.ref h0])).length) Slot.unset).toArray = ls at hl ⊢
  have hl : lv_has ls 3 [(0, .ref h0)] := hl
  have f10 := hts (.fieldLink RX5 10 "CommitTree" "tree" "LCommitTree$Tree;") (by decide +kernel)
  have f45 := hts (.fieldLink RX5 45 "CommitTree" "transactions" "[LCommitTree$Transaction;") (by decide +kernel)
  have f66 := hts (.fieldLink RX5 66 "CommitTree" "down" "Z") (by decide +kernel)
  have f80 := hts (.fieldLink RX5 80 "CommitTree$Transaction" "open" "Z") (by decide +kernel)
  have wX3 : ∀ w ∈ wsX30, w ∈ wsX5_begin := by decide +kernel
  have wX5 : ∀ w ∈ wsX50, w ∈ wsX5_begin := by decide +kernel
  have hT0 := hT
  have hE : kx κ M κ M := kx.refl _ _
  refine lv_aload_n hx hb dX5_begin_0 rfl (lv_at hl 0 rfl) ?_
  obtain ⟨v0_1, v1_1, v2_1, v3_1, v4_1, v5_1, v6_1, v7_1, v8_1, v9_1, v10_1, hM_h0_1, hk_v0_1, hk_v1_1, hk_v2_1, hk_v3_1, hk_v4_1, hk_v5_1, hz_v9_1, hz_v10_1⟩ := hT.top hk_h0
  rcases hz_v9_1 with h9 | h9
  · subst h9
    refine m_get (T := TX5) (N := 11) (ci := 5) (v := .int 0) hx hb hts wX5 hown hK hm hM_h0_1 rfl 9 (by decide) f66 (fun _ h9 => h9) rfl dX5_begin_1 ?_
    refine lv_if_eq (tgt := 17) hx hb dX5_begin_4 (by decide) (fun c2 => ?_) (fun c2 => ?_)
    · refine lv_iconst (v := 0) hx hb dX5_begin_17 (by decide) ?_
      refine lv_istore_n (lv' := [(1, .int 0), (0, .ref h0)]) hx hb dX5_begin_18 rfl hl (by decide) rfl (fun ls hl => ?_)
      refine W_loop (σ := Nat × (Nat → Option KD) × mM) (fun ⟨j3, K19, M19⟩ H locs ls => (j3 < 2147483648) ∧ (TM k K19 M19) ∧ (kx κ M K19 M19) ∧ (K19 h0 = some .top) ∧ mm D (AZ z) M19 H ∧ va_S (AZ z) s.heap H locs ∧ lv_has ls 3 [(1, .int (nI j3)), (0, .ref h0)]) (fun ⟨j3, K19, M19⟩ => 2147483648 - j3) (fun ⟨j3, K19, M19⟩ => 0) (fun ⟨j3, K19, M19⟩ => 0) ?_ (0, κ, M) _ _ _ ⟨(by decide), hT, hE, hk_h0, hm, hS, lv_sub hl [0, 1] rfl⟩
      intro ⟨j3, K19, M19⟩ H locs ls hQ ih19
      obtain ⟨hbj3, hT, hE, hk_h0, hm, hS, hl⟩ := hQ
      try dsimp only at hm hl ih19 hbj3 hT hE hk_h0 ⊢
      refine lv_iload_n hx hb dX5_begin_19 rfl (lv_at hl 0 rfl) ?_
      refine lv_aload_n hx hb dX5_begin_20 rfl (lv_at hl 1 rfl) ?_
      obtain ⟨v0_4, v1_4, v2_4, v3_4, v4_4, v5_4, v6_4, v7_4, v8_4, v9_4, v10_4, hM_h0_4, hk_v0_4, hk_v1_4, hk_v2_4, hk_v3_4, hk_v4_4, hk_v5_4, hz_v9_4, hz_v10_4⟩ := hT.top hk_h0
      refine m_get (T := TX5) (N := 11) (ci := 5) (v := .ref v4_4) hx hb hts wX5 hown hK hm hM_h0_4 rfl 4 (by decide) f45 (fun _ h9 => h9) rfl dX5_begin_21 ?_
      obtain ⟨g_5, hM_v4_4_5, hg_5⟩ := hT.txns hk_v4_4
      refine m_alen hx hb hK hm 4 hM_v4_4_5 rfl (v := nI 6) rfl dX5_begin_24 ?_
      refine lv_icmp_ge (tgt := 62) hx hb dX5_begin_25 (by decide) (fun c6 => ?_) (fun c6 => ?_)
      · obtain ⟨sa, hsa⟩ := hcx.2.2.1 (88, "there are six transactions") (by decide)
        refine vx_throwS (own := RX5) (cls := "java/lang/UnsupportedOperationException") (text := "there are six transactions") (names := ["java/lang/RuntimeException", "java/lang/Exception"]) (ik := 86) (is := 88) (ic := 90) (A := AZ z) hx hb hlt hown (by decide) (by decide) (hts (.classLink RX5 86 "java/lang/UnsupportedOperationException") (by decide +kernel)) (hts (.initialized "java/lang/UnsupportedOperationException") (by decide +kernel)) hsa (vx_hat (B := DW) (fun w h => hts w (List.mem_cons_of_mem _ (List.mem_append_right _ h))) (by decide +kernel) (hcx.dw _)) (by decide +kernel) hcx.2.1.1 hcx.2.1.2 hS (hl.1.trans hml.symm) dX5_begin_62 dX5_begin_65 dX5_begin_66 dX5_begin_68 dX5_begin_71 (fun x hx => (hnt x hx).elim) (Nat.le_of_ble_eq_true rfl) (Nat.le_of_ble_eq_true rfl) (Nat.le_of_ble_eq_true rfl) (Nat.le_of_ble_eq_true rfl) hlocks (fun t hvm hz1 hq => ⟨⟨_, ?_, hm.kept hq⟩, ⟨Nat.le_trans hS.1 hz1, fun q h1 h2 => (hq q (Nat.lt_of_lt_of_le h1 hS.1)).trans (hS.2.1 q h1 h2)⟩⟩) hS.2.2 (Nat.le_of_ble_eq_true rfl) (Nat.le_of_ble_eq_true rfl)
        exact ⟨by simp, _, hT, hE⟩
      · refine lv_aload_n hx hb dX5_begin_28 rfl (lv_at hl 1 rfl) ?_
        refine m_get (T := TX5) (N := 11) (ci := 5) (v := .ref v4_4) hx hb hts wX5 hown hK hm hM_h0_4 rfl 4 (by decide) f45 (fun _ h9 => h9) rfl dX5_begin_29 ?_
        refine lv_iload_n hx hb dX5_begin_32 rfl (lv_at hl 0 rfl) ?_
        refine m_aald hx hb hK hm 4 hM_v4_4_5 rfl (in_of (i := (nI j3)) (n := 6) (by first | assumption | exact nI_pos (by omega)) (by assumption) (by first | decide | omega)) dX5_begin_33 ?_
        obtain ⟨o7, ho7⟩ : ∃ o9, g_5 ((nI j3)).toNatClampNeg = o9 := ⟨_, rfl⟩
        refine W.eq (g2 := F0 m 34 ls [va_rf o7]) (by rw [ho7]) ?_
        rcases o7 with _ | x8
        · refine W.eq (g2 := F0 m 34 ls [.null]) rfl ?_
          refine lv_astore_nN (lv' := [(2, .null), (1, .int (nI j3)), (0, .ref h0)]) hx hb dX5_begin_34 rfl hl (by decide) rfl (fun ls hl => ?_)
          refine lv_aload_nN hx hb dX5_begin_35 rfl (lv_at hl 0 rfl) ?_
          refine lv_ifnullN (tgt := 56) hx hb dX5_begin_36 (by decide) ?_
          refine lv_iinc (v := ((nI j3) + 1)) (lv' := [(1, .int ((nI j3) + 1)), (2, .null), (0, .ref h0)]) hx hb dX5_begin_56 hl (k := 1) rfl rfl (by decide) rfl (fun ls hl => ?_)
          refine lv_goto (tgt := 19) hx hb dX5_begin_59 (by decide) ?_
          rw [nI_1] at hl
          exact ih19 (j3 + 1, K19, M19) _ _ _ ⟨(by first | exact nI_up hbj3 c6 | exact nI_up2 (by decide) hbj3 c6), hT, hE, hk_h0, hm, hS, lv_sub hl [0, 2] rfl⟩ (by show 2147483648 - (j3 + 1) < 2147483648 - j3; omega)
        · have hk_x8 := hg_5 _ _ ho7
          refine W.eq (g2 := F0 m 34 ls [.ref x8]) rfl ?_
          refine lv_astore_n (lv' := [(2, .ref x8), (1, .int (nI j3)), (0, .ref h0)]) hx hb dX5_begin_34 rfl hl (by decide) rfl (fun ls hl => ?_)
          refine lv_aload_n hx hb dX5_begin_35 rfl (lv_at hl 0 rfl) ?_
          refine lv_ifnull hx hb dX5_begin_36 ?_
          refine lv_aload_n hx hb dX5_begin_39 rfl (lv_at hl 0 rfl) ?_
          obtain ⟨v0_9, v1_9, v2_9, v3_9, v4_9, v5_9, v6_9, hM_x8_9, hk_v0_9, hk_v1_9, hk_v2_9, hk_v3_9, hk_v4_9, hz_v5_9⟩ := hT.txn hk_x8
          rcases hz_v5_9 with h9 | h9
          · subst h9
            refine m_get (T := TX3) (N := 7) (ci := 3) (v := .int 0) hx hb hts wX3 hown hK hm hM_x8_9 rfl 5 (by decide) f80 (fun _ h9 => h9) rfl dX5_begin_40 ?_
            refine lv_if_ne (tgt := 56) hx hb dX5_begin_43 (by decide) (fun c10 => ?_) (fun c10 => ?_)
            · first | exact absurd c10 (by decide) | exact absurd (by decide) c10
            · refine lv_aload_n hx hb dX5_begin_46 rfl (lv_at hl 0 rfl) ?_
              refine lv_aload_n hx hb dX5_begin_47 rfl (lv_at hl 2 rfl) ?_
              refine m_get (T := TX5) (N := 11) (ci := 5) (v := .ref v0_4) hx hb hts wX5 hown hK hm hM_h0_4 rfl 0 (by decide) f10 (fun _ h9 => h9) rfl dX5_begin_48 ?_
              refine m_kV (As := [.ref v0_4]) (rest := []) (rm := { frames := 2, cells := 0, slots := 0, locals := 44 }) ⟨hx, hb, hml, hown, hts⟩ (t_X3_start_R l D k z _ _ x8 v0_4 hk_x8 hk_v0_4 hT) (cwV 1 hts gX5_begin_X3_start rfl rfl rfl (by decide +kernel) ⟨Nat.le_of_ble_eq_true rfl, Nat.le_of_ble_eq_true rfl⟩) (m_recv hK hm (q := (RX3, TX3, 7)) rfl hM_x8_9) hz hcx hm hS rfl hl.1 rfl (Nat.le_of_ble_eq_true rfl) dX5_begin_51 ⟨Nat.le_of_ble_eq_true rfl, Nat.le_of_ble_eq_true rfl⟩ (fun v M1 H locs hv hm hS => ?_)
              obtain ⟨κ1, hT9, hE9, hv1⟩ := hv
              have hk_h0 := hE9.k hT hk_h0
              have hk_x8 := hE9.k hT hk_x8
              have hE := hE.trans hT0 hT hE9
              have hT := hT9
              obtain ⟨Mc1, hMx⟩ : ∃ x : mM, x = M1 := ⟨M1, rfl⟩
              subst hMx
              subst hv1
              refine W.eq (g2 := F0 m 54 ls []) rfl ?_
              refine W.widen (k := 0) (n := 0) (Nat.le_of_ble_eq_true rfl) (Nat.le_of_ble_eq_true rfl) ?_
              have hm : mm D (AZ z) Mc1 H := hm
              refine lv_iload_n hx hb dX5_begin_54 rfl (lv_at hl 1 rfl) ?_
              refine W.widen (k := 1) (n := 6) (by omega) (by omega) ?_
              refine vx_ret ?_
              refine W.iret (v := (nI j3)) hx hb hr (fun t ht hW => ⟨⟨some (.int (nI j3)), _, rfl, ?_, by rw [ht]; exact hm⟩, hS.F ht⟩) hS.2.2 dX5_begin_55
              exact ⟨_, hT, hE, ⟨_, rfl⟩⟩
          · subst h9
            refine m_get (T := TX3) (N := 7) (ci := 3) (v := .int 1) hx hb hts wX3 hown hK hm hM_x8_9 rfl 5 (by decide) f80 (fun _ h9 => h9) rfl dX5_begin_40 ?_
            refine lv_if_ne (tgt := 56) hx hb dX5_begin_43 (by decide) (fun c11 => ?_) (fun c11 => ?_)
            · refine lv_iinc (v := ((nI j3) + 1)) (lv' := [(1, .int ((nI j3) + 1)), (2, .ref x8), (0, .ref h0)]) hx hb dX5_begin_56 hl (k := 1) rfl rfl (by decide) rfl (fun ls hl => ?_)
              refine lv_goto (tgt := 19) hx hb dX5_begin_59 (by decide) ?_
              rw [nI_1] at hl
              exact ih19 (j3 + 1, K19, M19) _ _ _ ⟨(by first | exact nI_up hbj3 c6 | exact nI_up2 (by decide) hbj3 c6), hT, hE, hk_h0, hm, hS, lv_sub hl [0, 2] rfl⟩ (by show 2147483648 - (j3 + 1) < 2147483648 - j3; omega)
            · first | exact absurd c11 (by decide) | exact absurd (by decide) c11
    · first | exact absurd c2 (by decide) | exact absurd (by decide) c2
  · subst h9
    refine m_get (T := TX5) (N := 11) (ci := 5) (v := .int 1) hx hb hts wX5 hown hK hm hM_h0_1 rfl 9 (by decide) f66 (fun _ h9 => h9) rfl dX5_begin_1 ?_
    refine lv_if_eq (tgt := 17) hx hb dX5_begin_4 (by decide) (fun c12 => ?_) (fun c12 => ?_)
    · first | exact absurd c12 (by decide) | exact absurd (by decide) c12
    · obtain ⟨sa, hsa⟩ := hcx.2.2.1 (75, "all is down") (by decide)
      refine vx_throwS (own := RX5) (cls := "java/lang/IllegalStateException") (text := "all is down") (names := ["java/lang/RuntimeException", "java/lang/Exception"]) (ik := 73) (is := 75) (ic := 77) (A := AZ z) hx hb hlt hown (by decide) (by decide) (hts (.classLink RX5 73 "java/lang/IllegalStateException") (by decide +kernel)) (hts (.initialized "java/lang/IllegalStateException") (by decide +kernel)) hsa (vx_hat (B := DW) (fun w h => hts w (List.mem_cons_of_mem _ (List.mem_append_left _ (List.mem_append_right _ h)))) (by decide +kernel) (hcx.dw _)) (by decide +kernel) hcx.2.1.1 hcx.2.1.2 hS (hl.1.trans hml.symm) dX5_begin_7 dX5_begin_10 dX5_begin_11 dX5_begin_13 dX5_begin_16 (fun x hx => (hnt x hx).elim) (Nat.le_of_ble_eq_true rfl) (Nat.le_of_ble_eq_true rfl) (Nat.le_of_ble_eq_true rfl) (Nat.le_of_ble_eq_true rfl) hlocks (fun t hvm hz1 hq => ⟨⟨_, ?_, hm.kept hq⟩, ⟨Nat.le_trans hS.1 hz1, fun q h1 h2 => (hq q (Nat.lt_of_lt_of_le h1 hS.1)).trans (hS.2.1 q h1 h2)⟩⟩) hS.2.2 (Nat.le_of_ble_eq_true rfl) (Nat.le_of_ble_eq_true rfl)
      exact ⟨by simp, _, hT, hE⟩

