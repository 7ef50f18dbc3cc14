set_option maxHeartbeats 4000000 in
set_option maxRecDepth 100000 in
theorem t_X1_weighMade_R (l : Launch) (D : va_G) (k : Nat → ClassId) (z : Nat) (M : mM) (κ : Nat → Option KD) (h0 : Nat) (r0 : Nat) (hk_h0 : κ h0 = some .merge) (hk_r0 : κ r0 = some .node) (hT : TM k κ M) : mK l yX1_weighMade wsX1_weighMade ({ frames := 3, cells := 0, slots := 0, locals := 75 }) D k z [.ref h0, .ref r0] M (fun v M' => ∃ κ', TM k κ' M' ∧ kx κ M κ' M' ∧ v = none) := by
  refine Met.ofW (cc := cX1_weighMade) (maxL := 3) (ret := none) (by decide) rfl ?_
  intro p e s m args below meth c s₁ B hml hv
  obtain ⟨rfl, hz, hcx, hm⟩ := hv
  have hx := B.exec
  have hb := B.bytes
  have hr := B.returns
  have hts := atoms_spec (ws := wsX1_weighMade) B.pre
  have hown : s.vm.findClass RX1 = some m.cls := findClass_of_methodNamed B.named
  have hlocks := B.notSynchronized
  have hK := hcx.1
  have hS : va_S (AZ z) s.heap s.heap [] := va_S.rf
  have hA : ∀ q, s.heap.size ≤ q → AZ z q := fun q h => Nat.le_trans hz h
  have hl := lv_entry ([.ref h0, .ref r0]) (n := 3) (Nat.le_of_ble_eq_true rfl)
  rw [lg_entry_eq]
  generalize (lg_sl ([.ref h0, .ref r0]) ++ List.replicate (3 - (lg_sl ([.ref h0, .ref r0])).length) Slot.unset).toArray = ls at hl ⊢
  have hl : lv_has ls 3 [(0, .ref h0), (1, .ref r0)] := hl
  have f9 := hts (.fieldLink RX1 9 "CommitTree$Merge" "items" "I") (by decide +kernel)
  have f30 := hts (.fieldLink RX1 30 "CommitTree$Merge" "noDirectory" "LCommitTree$Node;") (by decide +kernel)
  have f34 := hts (.fieldLink RX1 34 "CommitTree$Merge" "noFile" "LCommitTree$Node;") (by decide +kernel)
  have f64 := hts (.fieldLink RX1 64 "CommitTree$Node" "directory" "Z") (by decide +kernel)
  have wX1 : ∀ w ∈ wsX10, w ∈ wsX1_weighMade := by decide +kernel
  have wX2 : ∀ w ∈ wsX20, w ∈ wsX1_weighMade := by decide +kernel
  have hT0 := hT
  have hE : kx κ M κ M := kx.refl _ _
  refine lv_aload_n hx hb dX1_weighMade_0 rfl (lv_at hl 1 rfl) ?_
  obtain ⟨v0_1, v1_1, v2_1, v3_1, hM_r0_1, hz_v1_1, hk_v3_1⟩ := hT.node hk_r0
  rcases hz_v1_1 with h9 | h9
  · subst h9
    refine m_get (T := TX2) (N := 4) (ci := 2) (v := .int 0) hx hb hts wX2 hown hK hm hM_r0_1 rfl 1 (by decide) f64 (fun _ h9 => h9) rfl dX1_weighMade_1 ?_
    refine lv_if_eq (tgt := 14) hx hb dX1_weighMade_4 (by decide) (fun c2 => ?_) (fun c2 => ?_)
    · refine lv_aload_n hx hb dX1_weighMade_14 rfl (lv_at hl 0 rfl) ?_
      obtain ⟨v0_3, v1_3, v2_3, v3_3, v4_3, v5_3, hM_h0_3, hk_v4_3, hk_v5_3⟩ := hT.merge hk_h0
      refine m_get (T := TX1) (N := 6) (ci := 1) (v := .ref v5_3) hx hb hts wX1 hown hK hm hM_h0_3 rfl 5 (by decide) f34 (fun _ h9 => h9) rfl dX1_weighMade_15 ?_
      refine lv_astore_n (lv' := [(2, .ref v5_3), (0, .ref h0), (1, .ref r0)]) hx hb dX1_weighMade_18 rfl hl (by decide) rfl (fun ls hl => ?_)
      refine lv_aload_n hx hb dX1_weighMade_19 rfl (lv_at hl 1 rfl) ?_
      refine lv_dup hx hb dX1_weighMade_20 rfl ?_
      refine m_get (T := TX1) (N := 6) (ci := 1) (v := .int v0_3) hx hb hts wX1 hown hK hm hM_h0_3 rfl 0 (by decide) f9 (fun _ h9 => h9) rfl dX1_weighMade_21 ?_
      refine lv_iconst (v := 1) hx hb dX1_weighMade_24 (by decide) ?_
      refine lv_iadd hx hb dX1_weighMade_25 ?_
      refine m_put (T := TX1) (N := 6) (ci := 1) (v := .int (v0_3 + 1)) (ty := .int) hx hb hts wX1 tyX1 tyX1_ok nmX1 hown hK hm hS hM_h0_3 rfl 0 (by decide) f9 (fun _ h9 => h9) rfl (by decide +kernel) rfl rfl (Nat.le_of_ble_eq_true rfl) dX1_weighMade_26 (fun H locs hm hS => ?_)
      have hm : mm D (AZ z) (mu M h0 (.inr (1, [.int (v0_3 + 1), .int v1_3, .int v2_3, .int v3_3, .ref v4_3, .ref v5_3]))) H := hm
      have hR_4 : (mu M h0 (.inr (1, [.int (v0_3 + 1), .int v1_3, .int v2_3, .int v3_3, .ref v4_3, .ref v5_3]))) r0 = _ := (mu_ne (kd_ne hk_r0 hk_h0 (by decide))).trans hM_r0_1
      have hT : TM k κ (mu M h0 (.inr (1, [.int (v0_3 + 1), .int v1_3, .int v2_3, .int v3_3, .ref v4_3, .ref v5_3]))) := hT.put hk_h0 (show wf k κ .merge (.inr (1, [.int (v0_3 + 1), .int v1_3, .int v2_3, .int v3_3, .ref v4_3, .ref v5_3])) from ⟨(v0_3 + 1), v1_3, v2_3, v3_3, v4_3, v5_3, rfl, hk_v4_3, hk_v5_3⟩)
      have hE : kx κ M κ (mu M h0 (.inr (1, [.int (v0_3 + 1), .int v1_3, .int v2_3, .int v3_3, .ref v4_3, .ref v5_3]))) := hE.put hk_h0
      generalize (mu M h0 (.inr (1, [.int (v0_3 + 1), .int v1_3, .int v2_3, .int v3_3, .ref v4_3, .ref v5_3]))) = Mc1 at hm hT hE hR_4
      refine lv_aload_n hx hb dX1_weighMade_29 rfl (lv_at hl 1 rfl) ?_
      refine lv_aload_n hx hb dX1_weighMade_30 rfl (lv_at hl 0 rfl) ?_
      refine lv_aload_n hx hb dX1_weighMade_31 rfl (lv_at hl 2 rfl) ?_
      refine lv_aload_n hx hb dX1_weighMade_32 rfl (lv_at hl 0 rfl) ?_
      refine lv_iconst (v := 1) hx hb dX1_weighMade_33 (by decide) ?_
      obtain ⟨v0_5, v1_5, v2_5, v3_5, v4_5, v5_5, hM_h0_5, hk_v4_5, hk_v5_5⟩ := hT.merge hk_h0
      refine m_kV (As := [.ref v5_3, .ref r0, .ref v5_3, .int 1]) (rest := []) (rm := { frames := 2, cells := 0, slots := 0, locals := 49 }) ⟨hx, hb, hml, hown, hts⟩ (t_X1_weighNode_RRR1 l D k z _ _ h0 v5_3 r0 v5_3 hk_h0 hk_v5_3 hk_r0 hk_v5_3 hT) (cwV 4 hts gX1_weighMade_X1_weighNode rfl rfl rfl (by decide +kernel) ⟨Nat.le_of_ble_eq_true rfl, Nat.le_of_ble_eq_true rfl⟩) (m_recv hK hm (q := (RX1, TX1, 6)) rfl hM_h0_5) hz hcx hm hS rfl hl.1 rfl (Nat.le_of_ble_eq_true rfl) dX1_weighMade_34 ⟨Nat.le_of_ble_eq_true rfl, Nat.le_of_ble_eq_true rfl⟩ (fun v M1 H locs hv hm hS => ?_)
      obtain ⟨κ2, hT9, hE9, hv1⟩ := hv
      have hk_h0 := hE9.k hT hk_h0
      have hk_r0 := hE9.k hT hk_r0
      have hk_v5_3 := hE9.k hT hk_v5_3
      have hE := hE.trans hT0 hT hE9
      have hT := hT9
      obtain ⟨Mc2, hMx⟩ : ∃ x : mM, x = M1 := ⟨M1, rfl⟩
      subst hMx
      subst hv1
      refine W.eq (g2 := F0 m 37 ls []) rfl ?_
      refine W.widen (k := 0) (n := 0) (Nat.le_of_ble_eq_true rfl) (Nat.le_of_ble_eq_true rfl) ?_
      have hm : mm D (AZ z) Mc2 H := hm
      refine W.vret hx hb hr (fun t ht hW => ⟨⟨none, _, rfl, ?_, by rw [ht]; exact hm⟩, hS.F ht⟩) hS.2.2 dX1_weighMade_37
      exact ⟨_, hT, hE, rfl⟩
    · first | exact absurd c2 (by decide) | exact absurd (by decide) c2
  · subst h9
    refine m_get (T := TX2) (N := 4) (ci := 2) (v := .int 1) hx hb hts wX2 hown hK hm hM_r0_1 rfl 1 (by decide) f64 (fun _ h9 => h9) rfl dX1_weighMade_1 ?_
    refine lv_if_eq (tgt := 14) hx hb dX1_weighMade_4 (by decide) (fun c6 => ?_) (fun c6 => ?_)
    · first | exact absurd c6 (by decide) | exact absurd (by decide) c6
    · refine lv_aload_n hx hb dX1_weighMade_7 rfl (lv_at hl 0 rfl) ?_
      obtain ⟨v0_7, v1_7, v2_7, v3_7, v4_7, v5_7, hM_h0_7, hk_v4_7, hk_v5_7⟩ := hT.merge hk_h0
      refine m_get (T := TX1) (N := 6) (ci := 1) (v := .ref v4_7) hx hb hts wX1 hown hK hm hM_h0_7 rfl 4 (by decide) f30 (fun _ h9 => h9) rfl dX1_weighMade_8 ?_
      refine lv_goto (tgt := 18) hx hb dX1_weighMade_11 (by decide) ?_
      refine lv_astore_n (lv' := [(2, .ref v4_7), (0, .ref h0), (1, .ref r0)]) hx hb dX1_weighMade_18 rfl hl (by decide) rfl (fun ls hl => ?_)
      refine lv_aload_n hx hb dX1_weighMade_19 rfl (lv_at hl 1 rfl) ?_
      refine lv_dup hx hb dX1_weighMade_20 rfl ?_
      refine m_get (T := TX1) (N := 6) (ci := 1) (v := .int v0_7) hx hb hts wX1 hown hK hm hM_h0_7 rfl 0 (by decide) f9 (fun _ h9 => h9) rfl dX1_weighMade_21 ?_
      refine lv_iconst (v := 1) hx hb dX1_weighMade_24 (by decide) ?_
      refine lv_iadd hx hb dX1_weighMade_25 ?_
      refine m_put (T := TX1) (N := 6) (ci := 1) (v := .int (v0_7 + 1)) (ty := .int) hx hb hts wX1 tyX1 tyX1_ok nmX1 hown hK hm hS hM_h0_7 rfl 0 (by decide) f9 (fun _ h9 => h9) rfl (by decide +kernel) rfl rfl (Nat.le_of_ble_eq_true rfl) dX1_weighMade_26 (fun H locs hm hS => ?_)
      have hm : mm D (AZ z) (mu M h0 (.inr (1, [.int (v0_7 + 1), .int v1_7, .int v2_7, .int v3_7, .ref v4_7, .ref v5_7]))) H := hm
      have hR_8 : (mu M h0 (.inr (1, [.int (v0_7 + 1), .int v1_7, .int v2_7, .int v3_7, .ref v4_7, .ref v5_7]))) r0 = _ := (mu_ne (kd_ne hk_r0 hk_h0 (by decide))).trans hM_r0_1
      have hT : TM k κ (mu M h0 (.inr (1, [.int (v0_7 + 1), .int v1_7, .int v2_7, .int v3_7, .ref v4_7, .ref v5_7]))) := hT.put hk_h0 (show wf k κ .merge (.inr (1, [.int (v0_7 + 1), .int v1_7, .int v2_7, .int v3_7, .ref v4_7, .ref v5_7])) from ⟨(v0_7 + 1), v1_7, v2_7, v3_7, v4_7, v5_7, rfl, hk_v4_7, hk_v5_7⟩)
      have hE : kx κ M κ (mu M h0 (.inr (1, [.int (v0_7 + 1), .int v1_7, .int v2_7, .int v3_7, .ref v4_7, .ref v5_7]))) := hE.put hk_h0
      generalize (mu M h0 (.inr (1, [.int (v0_7 + 1), .int v1_7, .int v2_7, .int v3_7, .ref v4_7, .ref v5_7]))) = Mc3 at hm hT hE hR_8
      refine lv_aload_n hx hb dX1_weighMade_29 rfl (lv_at hl 1 rfl) ?_
      refine lv_aload_n hx hb dX1_weighMade_30 rfl (lv_at hl 0 rfl) ?_
      refine lv_aload_n hx hb dX1_weighMade_31 rfl (lv_at hl 2 rfl) ?_
      refine lv_aload_n hx hb dX1_weighMade_32 rfl (lv_at hl 0 rfl) ?_
      refine lv_iconst (v := 1) hx hb dX1_weighMade_33 (by decide) ?_
      obtain ⟨v0_9, v1_9, v2_9, v3_9, v4_9, v5_9, hM_h0_9, hk_v4_9, hk_v5_9⟩ := hT.merge hk_h0
      refine m_kV (As := [.ref v4_7, .ref r0, .ref v4_7, .int 1]) (rest := []) (rm := { frames := 2, cells := 0, slots := 0, locals := 49 }) ⟨hx, hb, hml, hown, hts⟩ (t_X1_weighNode_RRR1 l D k z _ _ h0 v4_7 r0 v4_7 hk_h0 hk_v4_7 hk_r0 hk_v4_7 hT) (cwV 4 hts gX1_weighMade_X1_weighNode rfl rfl rfl (by decide +kernel) ⟨Nat.le_of_ble_eq_true rfl, Nat.le_of_ble_eq_true rfl⟩) (m_recv hK hm (q := (RX1, TX1, 6)) rfl hM_h0_9) hz hcx hm hS rfl hl.1 rfl (Nat.le_of_ble_eq_true rfl) dX1_weighMade_34 ⟨Nat.le_of_ble_eq_true rfl, Nat.le_of_ble_eq_true rfl⟩ (fun v M1 H locs hv hm hS => ?_)
      obtain ⟨κ4, hT9, hE9, hv1⟩ := hv
      have hk_h0 := hE9.k hT hk_h0
      have hk_r0 := hE9.k hT hk_r0
      have hk_v4_7 := hE9.k hT hk_v4_7
      have hE := hE.trans hT0 hT hE9
      have hT := hT9
      obtain ⟨Mc4, hMx⟩ : ∃ x : mM, x = M1 := ⟨M1, rfl⟩
      subst hMx
      subst hv1
      refine W.eq (g2 := F0 m 37 ls []) rfl ?_
      refine W.widen (k := 0) (n := 0) (Nat.le_of_ble_eq_true rfl) (Nat.le_of_ble_eq_true rfl) ?_
      have hm : mm D (AZ z) Mc4 H := hm
      refine W.vret hx hb hr (fun t ht hW => ⟨⟨none, _, rfl, ?_, by rw [ht]; exact hm⟩, hS.F ht⟩) hS.2.2 dX1_weighMade_37
      exact ⟨_, hT, hE, rfl⟩

