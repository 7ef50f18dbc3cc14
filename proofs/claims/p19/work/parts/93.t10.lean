set_option maxHeartbeats 4000000 in
set_option maxRecDepth 100000 in
theorem t_X5_written_I (l : Launch) (D : va_G) (k : Nat → ClassId) (z : Nat) (M : mM) (κ : Nat → Option KD) (h0 : Nat) (a0 : Int32) (hk_h0 : κ h0 = some .top) (hT : TM k κ M) : mK l yX5_written wsX5_written ({ frames := 3, cells := 0, slots := 0, locals := 64 }) D k z [.ref h0, .int a0] M (fun v M' => ∃ κ', TM k κ' M' ∧ kx κ M κ' M' ∧ (v = some (.int 0) ∨ v = some (.int 1))) := by
  refine Met.ofW (cc := cX5_written) (maxL := 3) (ret := (some .boolean)) (by decide) rfl ?_
  intro p e s m args below meth c s₁ B hml hv
  obtain ⟨rfl, hz, hcx, hm⟩ := hv
  have hx := B.exec
  have hb := B.bytes
  have hr := B.returns
  have hts := atoms_spec (ws := wsX5_written) B.pre
  have hown : s.vm.findClass RX5 = some m.cls := findClass_of_methodNamed B.named
  have hlocks := B.notSynchronized
  have hK := hcx.1
  have hS : va_S (AZ z) s.heap s.heap [] := va_S.rf
  have hA : ∀ q, s.heap.size ≤ q → AZ z q := fun q h => Nat.le_trans hz h
  have hl := lv_entry ([.ref h0, .int a0]) (n := 3) (Nat.le_of_ble_eq_true rfl)
  rw [lg_entry_eq]
  generalize (lg_sl ([.ref h0, .int a0]) ++ List.replicate (3 - (lg_sl ([.ref h0, .int a0])).length) Slot.unset).toArray = ls at hl ⊢
  have hl : lv_has ls 3 [(0, .ref h0), (1, .int a0)] := hl
  have f39 := hts (.fieldLink RX5 39 "CommitTree" "disk" "LCommitTree$Disk;") (by decide +kernel)
  have f60 := hts (.fieldLink RX5 60 "CommitTree" "committed" "I") (by decide +kernel)
  have f70 := hts (.fieldLink RX5 70 "CommitTree" "recordCounts" "Z") (by decide +kernel)
  have wX5 : ∀ w ∈ wsX50, w ∈ wsX5_written := by decide +kernel
  have hT0 := hT
  have hE : kx κ M κ M := kx.refl _ _
  refine lv_iload_n hx hb dX5_written_0 rfl (lv_at hl 1 rfl) ?_
  refine lv_iconst (v := 4) hx hb dX5_written_1 (by decide) ?_
  refine lv_iadd hx hb dX5_written_2 ?_
  refine lv_iconst (v := 1) hx hb dX5_written_3 (by decide) ?_
  refine lv_isub hx hb dX5_written_4 ?_
  refine lv_iconst (v := 4) hx hb dX5_written_5 (by decide) ?_
  refine lv_idiv hx hb dX5_written_6 (by decide) ?_
  refine lv_istore_n (lv' := [(2, .int (((a0 + 4) - 1) / 4)), (0, .ref h0), (1, .int a0)]) hx hb dX5_written_7 rfl hl (by decide) rfl (fun ls hl => ?_)
  refine lv_aload_n hx hb dX5_written_8 rfl (lv_at hl 1 rfl) ?_
  obtain ⟨v0_1, v1_1, v2_1, v3_1, v4_1, v5_1, v6_1, v7_1, v8_1, v9_1, v10_1, hM_h0_1, hk_v0_1, hk_v1_1, hk_v2_1, hk_v3_1, hk_v4_1, hk_v5_1, hz_v9_1, hz_v10_1⟩ := hT.top hk_h0
  refine m_get (T := TX5) (N := 11) (ci := 5) (v := .ref v3_1) hx hb hts wX5 hown hK hm hM_h0_1 rfl 3 (by decide) f39 (fun _ h9 => h9) rfl dX5_written_9 ?_
  refine lv_iload_n hx hb dX5_written_12 rfl (lv_at hl 0 rfl) ?_
  refine lv_iconst (v := 1) hx hb dX5_written_13 (by decide) ?_
  refine lv_iadd hx hb dX5_written_14 ?_
  obtain ⟨v0_2, v1_2, hM_v3_1_2⟩ := hT.disk hk_v3_1
  refine m_kV (As := [.int ((((a0 + 4) - 1) / 4) + 1)]) (rest := []) (rm := { frames := 0, cells := 0, slots := 0, locals := 0 }) ⟨hx, hb, hml, hown, hts⟩ (t_X0_put_I l D k z _ _ v3_1 ((((a0 + 4) - 1) / 4) + 1) hk_v3_1 hT) (cwV 1 hts gX5_written_X0_put rfl rfl rfl (by decide +kernel) ⟨Nat.le_of_ble_eq_true rfl, Nat.le_of_ble_eq_true rfl⟩) (m_recv hK hm (q := (RX0, TX0, 2)) rfl hM_v3_1_2) hz hcx hm hS rfl hl.1 rfl (Nat.le_of_ble_eq_true rfl) dX5_written_15 ⟨Nat.le_of_ble_eq_true rfl, Nat.le_of_ble_eq_true rfl⟩ (fun v M1 H locs hv hm hS => ?_)
  obtain ⟨κ1, hT9, hE9, hv1⟩ := hv
  have hk_h0 := hE9.k hT hk_h0
  have hk_v3_1 := hE9.k hT hk_v3_1
  have hE := hE.trans hT0 hT hE9
  have hT := hT9
  obtain ⟨Mc1, hMx⟩ : ∃ x : mM, x = M1 := ⟨M1, rfl⟩
  subst hMx
  rcases hv1 with hv1 | hv1
  · subst hv1
    refine W.eq (g2 := F0 m 18 ls [.int 0]) rfl ?_
    refine W.widen (k := 0) (n := 0) (Nat.le_of_ble_eq_true rfl) (Nat.le_of_ble_eq_true rfl) ?_
    have hm : mm D (AZ z) Mc1 H := hm
    refine lv_if_ne (tgt := 27) hx hb dX5_written_18 (by decide) (fun c3 => ?_) (fun c3 => ?_)
    · first | exact absurd c3 (by decide) | exact absurd (by decide) c3
    · refine lv_aload_n hx hb dX5_written_21 rfl (lv_at hl 1 rfl) ?_
      obtain ⟨v0_4, v1_4, v2_4, v3_4, v4_4, v5_4, v6_4, v7_4, v8_4, v9_4, v10_4, hM_h0_4, hk_v0_4, hk_v1_4, hk_v2_4, hk_v3_4, hk_v4_4, hk_v5_4, hz_v9_4, hz_v10_4⟩ := hT.top hk_h0
      refine m_kV (As := []) (rest := []) (rm := { frames := 0, cells := 0, slots := 0, locals := 0 }) ⟨hx, hb, hml, hown, hts⟩ (t_X5_goDown l D k z _ _ h0 hk_h0 hT) (cwV 0 hts gX5_written_X5_goDown rfl rfl rfl (by decide +kernel) ⟨Nat.le_of_ble_eq_true rfl, Nat.le_of_ble_eq_true rfl⟩) (m_recv hK hm (q := (RX5, TX5, 11)) rfl hM_h0_4) hz hcx hm hS rfl hl.1 rfl (Nat.le_of_ble_eq_true rfl) dX5_written_22 ⟨Nat.le_of_ble_eq_true rfl, Nat.le_of_ble_eq_true rfl⟩ (fun v M1 H locs hv hm hS => ?_)
      obtain ⟨κ2, hT9, hE9, hv1⟩ := hv
      have hk_h0 := hE9.k hT hk_h0
      have hE := hE.trans hT0 hT hE9
      have hT := hT9
      obtain ⟨Mc2, hMx⟩ : ∃ x : mM, x = M1 := ⟨M1, rfl⟩
      subst hMx
      subst hv1
      refine W.eq (g2 := F0 m 25 ls []) rfl ?_
      refine W.widen (k := 0) (n := 0) (Nat.le_of_ble_eq_true rfl) (Nat.le_of_ble_eq_true rfl) ?_
      have hm : mm D (AZ z) Mc2 H := hm
      refine lv_iconst (v := 0) hx hb dX5_written_25 (by decide) ?_
      refine W.zret hx hb hr rfl (fun t ht hW => ⟨⟨some (.int 0), _, rfl, ?_, by rw [ht]; exact hm⟩, hS.F ht⟩) hS.2.2 dX5_written_26
      exact ⟨_, hT, hE, Or.inl rfl⟩
  · subst hv1
    refine W.eq (g2 := F0 m 18 ls [.int 1]) rfl ?_
    refine W.widen (k := 0) (n := 0) (Nat.le_of_ble_eq_true rfl) (Nat.le_of_ble_eq_true rfl) ?_
    have hm : mm D (AZ z) Mc1 H := hm
    refine lv_if_ne (tgt := 27) hx hb dX5_written_18 (by decide) (fun c5 => ?_) (fun c5 => ?_)
    · refine lv_aload_n hx hb dX5_written_27 rfl (lv_at hl 1 rfl) ?_
      refine lv_dup hx hb dX5_written_28 rfl ?_
      obtain ⟨v0_6, v1_6, v2_6, v3_6, v4_6, v5_6, v6_6, v7_6, v8_6, v9_6, v10_6, hM_h0_6, hk_v0_6, hk_v1_6, hk_v2_6, hk_v3_6, hk_v4_6, hk_v5_6, hz_v9_6, hz_v10_6⟩ := hT.top hk_h0
      refine m_get (T := TX5) (N := 11) (ci := 5) (v := .int v7_6) hx hb hts wX5 hown hK hm hM_h0_6 rfl 7 (by decide) f60 (fun _ h9 => h9) rfl dX5_written_29 ?_
      refine lv_iconst (v := 1) hx hb dX5_written_32 (by decide) ?_
      refine lv_iadd hx hb dX5_written_33 ?_
      refine m_put (T := TX5) (N := 11) (ci := 5) (v := .int (v7_6 + 1)) (ty := .int) hx hb hts wX5 tyX5 tyX5_ok nmX5 hown hK hm hS hM_h0_6 rfl 7 (by decide) f60 (fun _ h9 => h9) rfl (by decide +kernel) rfl rfl (Nat.le_of_ble_eq_true rfl) dX5_written_34 (fun H locs hm hS => ?_)
      have hm : mm D (AZ z) (mu Mc1 h0 (.inr (5, [.ref v0_6, .ref v1_6, .ref v2_6, .ref v3_6, .ref v4_6, .ref v5_6, .int v6_6, .int (v7_6 + 1), .int v8_6, .int v9_6, .int v10_6]))) H := hm
      have hT : TM k κ1 (mu Mc1 h0 (.inr (5, [.ref v0_6, .ref v1_6, .ref v2_6, .ref v3_6, .ref v4_6, .ref v5_6, .int v6_6, .int (v7_6 + 1), .int v8_6, .int v9_6, .int v10_6]))) := hT.put hk_h0 (show wf k κ1 .top (.inr (5, [.ref v0_6, .ref v1_6, .ref v2_6, .ref v3_6, .ref v4_6, .ref v5_6, .int v6_6, .int (v7_6 + 1), .int v8_6, .int v9_6, .int v10_6])) from ⟨v0_6, v1_6, v2_6, v3_6, v4_6, v5_6, v6_6, (v7_6 + 1), v8_6, v9_6, v10_6, rfl, hk_v0_6, hk_v1_6, hk_v2_6, hk_v3_6, hk_v4_6, hk_v5_6, hz_v9_6, hz_v10_6⟩)
      have hE : kx κ M κ1 (mu Mc1 h0 (.inr (5, [.ref v0_6, .ref v1_6, .ref v2_6, .ref v3_6, .ref v4_6, .ref v5_6, .int v6_6, .int (v7_6 + 1), .int v8_6, .int v9_6, .int v10_6]))) := hE.put hk_h0
      generalize (mu Mc1 h0 (.inr (5, [.ref v0_6, .ref v1_6, .ref v2_6, .ref v3_6, .ref v4_6, .ref v5_6, .int v6_6, .int (v7_6 + 1), .int v8_6, .int v9_6, .int v10_6]))) = Mc3 at hm hT hE
      refine lv_aload_n hx hb dX5_written_37 rfl (lv_at hl 1 rfl) ?_
      refine lv_iconst (v := 1) hx hb dX5_written_38 (by decide) ?_
      obtain ⟨v0_7, v1_7, v2_7, v3_7, v4_7, v5_7, v6_7, v7_7, v8_7, v9_7, v10_7, hM_h0_7, hk_v0_7, hk_v1_7, hk_v2_7, hk_v3_7, hk_v4_7, hk_v5_7, hz_v9_7, hz_v10_7⟩ := hT.top hk_h0
      refine m_put (T := TX5) (N := 11) (ci := 5) (v := .int 1) (ty := .boolean) hx hb hts wX5 tyX5 tyX5_ok nmX5 hown hK hm hS hM_h0_7 rfl 10 (by decide) f70 (fun _ h9 => h9) rfl (by decide +kernel) rfl rfl (Nat.le_of_ble_eq_true rfl) dX5_written_39 (fun H locs hm hS => ?_)
      have hm : mm D (AZ z) (mu Mc3 h0 (.inr (5, [.ref v0_7, .ref v1_7, .ref v2_7, .ref v3_7, .ref v4_7, .ref v5_7, .int v6_7, .int v7_7, .int v8_7, .int v9_7, .int 1]))) H := hm
      have hT : TM k κ1 (mu Mc3 h0 (.inr (5, [.ref v0_7, .ref v1_7, .ref v2_7, .ref v3_7, .ref v4_7, .ref v5_7, .int v6_7, .int v7_7, .int v8_7, .int v9_7, .int 1]))) := hT.put hk_h0 (show wf k κ1 .top (.inr (5, [.ref v0_7, .ref v1_7, .ref v2_7, .ref v3_7, .ref v4_7, .ref v5_7, .int v6_7, .int v7_7, .int v8_7, .int v9_7, .int 1])) from ⟨v0_7, v1_7, v2_7, v3_7, v4_7, v5_7, v6_7, v7_7, v8_7, v9_7, 1, rfl, hk_v0_7, hk_v1_7, hk_v2_7, hk_v3_7, hk_v4_7, hk_v5_7, hz_v9_7, (Or.inr rfl)⟩)
      have hE : kx κ M κ1 (mu Mc3 h0 (.inr (5, [.ref v0_7, .ref v1_7, .ref v2_7, .ref v3_7, .ref v4_7, .ref v5_7, .int v6_7, .int v7_7, .int v8_7, .int v9_7, .int 1]))) := hE.put hk_h0
      generalize (mu Mc3 h0 (.inr (5, [.ref v0_7, .ref v1_7, .ref v2_7, .ref v3_7, .ref v4_7, .ref v5_7, .int v6_7, .int v7_7, .int v8_7, .int v9_7, .int 1]))) = Mc4 at hm hT hE
      refine lv_aload_n hx hb dX5_written_42 rfl (lv_at hl 1 rfl) ?_
      obtain ⟨v0_8, v1_8, v2_8, v3_8, v4_8, v5_8, v6_8, v7_8, v8_8, v9_8, v10_8, hM_h0_8, hk_v0_8, hk_v1_8, hk_v2_8, hk_v3_8, hk_v4_8, hk_v5_8, hz_v9_8, hz_v10_8⟩ := hT.top hk_h0
      refine m_kV (As := []) (rest := []) (rm := { frames := 2, cells := 0, slots := 0, locals := 44 }) ⟨hx, hb, hml, hown, hts⟩ (t_X5_broughtHome l D k z _ _ h0 hk_h0 hT) (cwV 0 hts gX5_written_X5_broughtHome rfl rfl rfl (by decide +kernel) ⟨Nat.le_of_ble_eq_true rfl, Nat.le_of_ble_eq_true rfl⟩) (m_recv hK hm (q := (RX5, TX5, 11)) rfl hM_h0_8) hz hcx hm hS rfl hl.1 rfl (Nat.le_of_ble_eq_true rfl) dX5_written_43 ⟨Nat.le_of_ble_eq_true rfl, Nat.le_of_ble_eq_true rfl⟩ (fun v M1 H locs hv hm hS => ?_)
      obtain ⟨κ5, hT9, hE9, hv1⟩ := hv
      have hk_h0 := hE9.k hT hk_h0
      have hE := hE.trans hT0 hT hE9
      have hT := hT9
      obtain ⟨Mc5, hMx⟩ : ∃ x : mM, x = M1 := ⟨M1, rfl⟩
      subst hMx
      rcases hv1 with hv1 | hv1
      · subst hv1
        refine W.eq (g2 := F0 m 46 ls [.int 0]) rfl ?_
        refine W.widen (k := 0) (n := 0) (Nat.le_of_ble_eq_true rfl) (Nat.le_of_ble_eq_true rfl) ?_
        have hm : mm D (AZ z) Mc5 H := hm
        refine lv_if_ne (tgt := 55) hx hb dX5_written_46 (by decide) (fun c9 => ?_) (fun c9 => ?_)
        · first | exact absurd c9 (by decide) | exact absurd (by decide) c9
        · refine lv_aload_n hx hb dX5_written_49 rfl (lv_at hl 1 rfl) ?_
          obtain ⟨v0_10, v1_10, v2_10, v3_10, v4_10, v5_10, v6_10, v7_10, v8_10, v9_10, v10_10, hM_h0_10, hk_v0_10, hk_v1_10, hk_v2_10, hk_v3_10, hk_v4_10, hk_v5_10, hz_v9_10, hz_v10_10⟩ := hT.top hk_h0
          refine m_kV (As := []) (rest := []) (rm := { frames := 0, cells := 0, slots := 0, locals := 0 }) ⟨hx, hb, hml, hown, hts⟩ (t_X5_goDown l D k z _ _ h0 hk_h0 hT) (cwV 0 hts gX5_written_X5_goDown rfl rfl rfl (by decide +kernel) ⟨Nat.le_of_ble_eq_true rfl, Nat.le_of_ble_eq_true rfl⟩) (m_recv hK hm (q := (RX5, TX5, 11)) rfl hM_h0_10) hz hcx hm hS rfl hl.1 rfl (Nat.le_of_ble_eq_true rfl) dX5_written_50 ⟨Nat.le_of_ble_eq_true rfl, Nat.le_of_ble_eq_true rfl⟩ (fun v M1 H locs hv hm hS => ?_)
          obtain ⟨κ6, hT9, hE9, hv1⟩ := hv
          have hk_h0 := hE9.k hT hk_h0
          have hE := hE.trans hT0 hT hE9
          have hT := hT9
          obtain ⟨Mc6, hMx⟩ : ∃ x : mM, x = M1 := ⟨M1, rfl⟩
          subst hMx
          subst hv1
          refine W.eq (g2 := F0 m 53 ls []) rfl ?_
          refine W.widen (k := 0) (n := 0) (Nat.le_of_ble_eq_true rfl) (Nat.le_of_ble_eq_true rfl) ?_
          have hm : mm D (AZ z) Mc6 H := hm
          refine lv_iconst (v := 0) hx hb dX5_written_53 (by decide) ?_
          refine W.zret hx hb hr rfl (fun t ht hW => ⟨⟨some (.int 0), _, rfl, ?_, by rw [ht]; exact hm⟩, hS.F ht⟩) hS.2.2 dX5_written_54
          exact ⟨_, hT, hE, Or.inl rfl⟩
      · subst hv1
        refine W.eq (g2 := F0 m 46 ls [.int 1]) rfl ?_
        refine W.widen (k := 0) (n := 0) (Nat.le_of_ble_eq_true rfl) (Nat.le_of_ble_eq_true rfl) ?_
        have hm : mm D (AZ z) Mc5 H := hm
        refine lv_if_ne (tgt := 55) hx hb dX5_written_46 (by decide) (fun c11 => ?_) (fun c11 => ?_)
        · refine lv_iconst (v := 1) hx hb dX5_written_55 (by decide) ?_
          refine W.zret hx hb hr rfl (fun t ht hW => ⟨⟨some (.int 1), _, rfl, ?_, by rw [ht]; exact hm⟩, hS.F ht⟩) hS.2.2 dX5_written_56
          exact ⟨_, hT, hE, Or.inr rfl⟩
        · first | exact absurd c11 (by decide) | exact absurd (by decide) c11
    · first | exact absurd c5 (by decide) | exact absurd (by decide) c5

set_option maxHeartbeats 4000000 in
set_option maxRecDepth 100000 in
theorem t_X5_commit_I (l : Launch) (hlt : l.stackTraces = false) (D : va_G) (k : Nat → ClassId) (z : Nat) (M : mM) (κ : Nat → Option KD) (h0 : Nat) (a0 : Int32) (hk_h0 : κ h0 = some .top) (hT : TM k κ M) : mC l yX5_commit wsX5_commit ({ frames := 7, cells := 121, slots := 4086, locals := 144 }) D k z [.ref h0, .int a0] M (fun v M' => ∃ κ', TM k κ' M' ∧ kx κ M κ' M' ∧ ∃ x, v = some (.int x)) (fun E M' => E ∈ (["java/lang/IllegalStateException"] : List String) ∧ ∃ κ', TM k κ' M' ∧ kx κ M κ' M') := by
  refine vx_ofW (cc := cX5_commit) (maxL := 4) (ret := (some .int)) (by decide) rfl ?_
  intro p e s m args below meth c s₁ B hml hnt hv
  obtain ⟨rfl, hz, hcx, hm⟩ := hv
  have hx := B.exec
  have hb := B.bytes
  have hr := B.returns
  have hts := atoms_spec (ws := wsX5_commit) B.pre
  have hown : s.vm.findClass RX5 = some m.cls := findClass_of_methodNamed B.named
  have hlocks := B.notSynchronized
  have hK := hcx.1
  have hS : va_S (AZ z) s.heap s.heap [] := va_S.rf
  have hA : ∀ q, s.heap.size ≤ q → AZ z q := fun q h => Nat.le_trans hz h
  have hl := lv_entry ([.ref h0, .int a0]) (n := 4) (Nat.le_of_ble_eq_true rfl)
  rw [lg_entry_eq]
  generalize (lg_sl ([.ref h0, .int a0]) ++ List.replicate (4 - (lg_sl ([.ref h0, .int a0])).length) Slot.unset).toArray = ls at hl ⊢
  have hl : lv_has ls 4 [(0, .ref h0), (1, .int a0)] := hl
  have f10 := hts (.fieldLink RX5 10 "CommitTree" "tree" "LCommitTree$Tree;") (by decide +kernel)
  have f26 := hts (.fieldLink RX5 26 "CommitTree" "next" "LCommitTree$Tree;") (by decide +kernel)
  have f32 := hts (.fieldLink RX5 32 "CommitTree" "merge" "LCommitTree$Merge;") (by decide +kernel)
  have f60 := hts (.fieldLink RX5 60 "CommitTree" "committed" "I") (by decide +kernel)
  have f63 := hts (.fieldLink RX5 63 "CommitTree" "homeBlocks" "I") (by decide +kernel)
  have f80 := hts (.fieldLink RX5 80 "CommitTree$Transaction" "open" "Z") (by decide +kernel)
  have f103 := hts (.fieldLink RX5 103 "CommitTree$Merge" "items" "I") (by decide +kernel)
  have f106 := hts (.fieldLink RX5 106 "CommitTree$Transaction" "base" "LCommitTree$Tree;") (by decide +kernel)
  have f109 := hts (.fieldLink RX5 109 "CommitTree$Transaction" "view" "LCommitTree$Tree;") (by decide +kernel)
  have f116 := hts (.fieldLink RX5 116 "CommitTree$Merge" "home" "I") (by decide +kernel)
  have wX1 : ∀ w ∈ wsX10, w ∈ wsX5_commit := by decide +kernel
  have wX3 : ∀ w ∈ wsX30, w ∈ wsX5_commit := by decide +kernel
  have wX5 : ∀ w ∈ wsX50, w ∈ wsX5_commit := by decide +kernel
  have hT0 := hT
  have hE : kx κ M κ M := kx.refl _ _
  refine lv_aload_n hx hb dX5_commit_0 rfl (lv_at hl 0 rfl) ?_
  refine lv_iload_n hx hb dX5_commit_1 rfl (lv_at hl 1 rfl) ?_
  obtain ⟨v0_1, v1_1, v2_1, v3_1, v4_1, v5_1, v6_1, v7_1, v8_1, v9_1, v10_1, hM_h0_1, hk_v0_1, hk_v1_1, hk_v2_1, hk_v3_1, hk_v4_1, hk_v5_1, hz_v9_1, hz_v10_1⟩ := hT.top hk_h0
  refine m_cV (As := [.int a0]) (rest := []) (rm := { frames := 6, cells := 1, slots := 6, locals := 82 }) ⟨hx, hb, hml, hown, hts⟩ (t_X5_opened_I l hlt D k z _ _ h0 a0 hk_h0 hT) (cwV 1 hts gX5_commit_X5_opened rfl rfl rfl (by decide +kernel) ⟨Nat.le_of_ble_eq_true rfl, Nat.le_of_ble_eq_true rfl⟩) (m_recv hK hm (q := (RX5, TX5, 11)) rfl hM_h0_1) hz hcx hm hS rfl hl.1 rfl (Nat.le_of_ble_eq_true rfl) dX5_commit_2 ⟨Nat.le_of_ble_eq_true rfl, Nat.le_of_ble_eq_true rfl⟩ (fun E ce q9 M1 H locs hv hm hS hce hcv hcl => ?_) (fun v M1 H locs hv hm hS => ?_)
  · refine vx_out (fun x hx => (hnt x hx).elim) hlocks hce hcv hcl (fun t ht hvm => ⟨⟨_, ?_, by rw [ht]; exact hm⟩, hS.F ht⟩) hS.2.2 (Nat.le_of_ble_eq_true rfl) (Nat.le_of_ble_eq_true rfl)
    obtain ⟨hE8, κ8, hT8, hx8⟩ := hv
    exact ⟨by simp only [List.mem_cons, List.not_mem_nil, or_false] at hE8 ⊢; first | exact hE8 | simp [hE8], κ8, hT8, hE.trans hT0 hT hx8⟩
  obtain ⟨hv1, hM1⟩ := hv
  rw [hM1] at hm
  obtain ⟨x2, hv1, hk_x2⟩ := hv1
  subst hv1
  refine W.eq (g2 := F0 m 5 ls [.ref x2]) rfl ?_
  refine W.widen (k := 1) (n := 6) (Nat.le_of_ble_eq_true rfl) (Nat.le_of_ble_eq_true rfl) ?_
  have hm : mm D (AZ z) M H := hm
  refine lv_astore_n (lv' := [(2, .ref x2), (0, .ref h0), (1, .int a0)]) hx hb dX5_commit_5 rfl hl (by decide) rfl (fun ls hl => ?_)
  refine lv_aload_n hx hb dX5_commit_6 rfl (lv_at hl 1 rfl) ?_
  refine lv_aload_n hx hb dX5_commit_7 rfl (lv_at hl 0 rfl) ?_
  refine m_kV (As := [.ref x2]) (rest := []) (rm := { frames := 5, cells := 0, slots := 0, locals := 123 }) ⟨hx, hb, hml, hown, hts⟩ (t_X5_judged_R l D k z _ _ h0 x2 hk_h0 hk_x2 hT) (cwV 1 hts gX5_commit_X5_judged rfl rfl rfl (by decide +kernel) ⟨Nat.le_of_ble_eq_true rfl, Nat.le_of_ble_eq_true rfl⟩) (m_recv hK hm (q := (RX5, TX5, 11)) rfl hM_h0_1) hz hcx hm hS rfl hl.1 rfl (Nat.le_of_ble_eq_true rfl) dX5_commit_8 ⟨Nat.le_of_ble_eq_true rfl, Nat.le_of_ble_eq_true rfl⟩ (fun v M1 H locs hv hm hS => ?_)
  obtain ⟨κ1, hT9, hE9, hv1⟩ := hv
  have hk_h0 := hE9.k hT hk_h0
  have hk_x2 := hE9.k hT hk_x2
  have hE := hE.trans hT0 hT hE9
  have hT := hT9
  obtain ⟨Mc1, hMx⟩ : ∃ x : mM, x = M1 := ⟨M1, rfl⟩
  subst hMx
  obtain ⟨w3, hv1⟩ := hv1
  subst hv1
  refine W.eq (g2 := F0 m 11 ls [.int w3]) rfl ?_
  refine W.widen (k := 1) (n := 6) (Nat.le_of_ble_eq_true rfl) (Nat.le_of_ble_eq_true rfl) ?_
  have hm : mm D (AZ z) Mc1 H := hm
  refine lv_istore_n (lv' := [(3, .int w3), (2, .ref x2), (0, .ref h0), (1, .int a0)]) hx hb dX5_commit_11 rfl hl (by decide) rfl (fun ls hl => ?_)
  refine lv_iload_n hx hb dX5_commit_12 rfl (lv_at hl 0 rfl) ?_
  refine lv_bipush (v := (-3)) hx hb dX5_commit_13 (by decide) ?_
  refine lv_icmp_ne (tgt := 21) hx hb dX5_commit_15 (by decide) (fun c4 => ?_) (fun c4 => ?_)
  · refine lv_aload_n hx hb dX5_commit_21 rfl (lv_at hl 1 rfl) ?_
    refine lv_iconst (v := 0) hx hb dX5_commit_22 (by decide) ?_
    obtain ⟨v0_5, v1_5, v2_5, v3_5, v4_5, v5_5, v6_5, hM_x2_5, hk_v0_5, hk_v1_5, hk_v2_5, hk_v3_5, hk_v4_5, hz_v5_5⟩ := hT.txn hk_x2
    refine m_put (T := TX3) (N := 7) (ci := 3) (v := .int 0) (ty := .boolean) hx hb hts wX3 tyX3 tyX3_ok nmX3 hown hK hm hS hM_x2_5 rfl 5 (by decide) f80 (fun _ h9 => h9) rfl (by decide +kernel) rfl rfl (Nat.le_of_ble_eq_true rfl) dX5_commit_23 (fun H locs hm hS => ?_)
    have hm : mm D (AZ z) (mu Mc1 x2 (.inr (3, [.ref v0_5, .ref v1_5, .ref v2_5, .ref v3_5, .ref v4_5, .int 0, .int v6_5]))) H := hm
    have hT : TM k κ1 (mu Mc1 x2 (.inr (3, [.ref v0_5, .ref v1_5, .ref v2_5, .ref v3_5, .ref v4_5, .int 0, .int v6_5]))) := hT.put hk_x2 (show wf k κ1 .txn (.inr (3, [.ref v0_5, .ref v1_5, .ref v2_5, .ref v3_5, .ref v4_5, .int 0, .int v6_5])) from ⟨v0_5, v1_5, v2_5, v3_5, v4_5, 0, v6_5, rfl, hk_v0_5, hk_v1_5, hk_v2_5, hk_v3_5, hk_v4_5, (Or.inl rfl)⟩)
    have hE : kx κ M κ1 (mu Mc1 x2 (.inr (3, [.ref v0_5, .ref v1_5, .ref v2_5, .ref v3_5, .ref v4_5, .int 0, .int v6_5]))) := hE.put hk_x2
    generalize (mu Mc1 x2 (.inr (3, [.ref v0_5, .ref v1_5, .ref v2_5, .ref v3_5, .ref v4_5, .int 0, .int v6_5]))) = Mc2 at hm hT hE
    refine lv_iload_n hx hb dX5_commit_26 rfl (lv_at hl 0 rfl) ?_
    refine lv_bipush (v := (-2)) hx hb dX5_commit_27 (by decide) ?_
    refine lv_icmp_ne (tgt := 35) hx hb dX5_commit_29 (by decide) (fun c6 => ?_) (fun c6 => ?_)
    · refine lv_aload_n hx hb dX5_commit_35 rfl (lv_at hl 2 rfl) ?_
      obtain ⟨v0_7, v1_7, v2_7, v3_7, v4_7, v5_7, v6_7, v7_7, v8_7, v9_7, v10_7, hM_h0_7, hk_v0_7, hk_v1_7, hk_v2_7, hk_v3_7, hk_v4_7, hk_v5_7, hz_v9_7, hz_v10_7⟩ := hT.top hk_h0
      refine m_get (T := TX5) (N := 11) (ci := 5) (v := .ref v2_7) hx hb hts wX5 hown hK hm hM_h0_7 rfl 2 (by decide) f32 (fun _ h9 => h9) rfl dX5_commit_36 ?_
      obtain ⟨v0_8, v1_8, v2_8, v3_8, v4_8, v5_8, hM_v2_7_8, hk_v4_8, hk_v5_8⟩ := hT.merge hk_v2_7
      refine m_get (T := TX1) (N := 6) (ci := 1) (v := .int v0_8) hx hb hts wX1 hown hK hm hM_v2_7_8 rfl 0 (by decide) f103 (fun _ h9 => h9) rfl dX5_commit_39 ?_
      refine lv_if_ne (tgt := 60) hx hb dX5_commit_42 (by decide) (fun c9 => ?_) (fun c9 => ?_)
      · refine lv_aload_n hx hb dX5_commit_60 rfl (lv_at hl 2 rfl) ?_
        refine m_get (T := TX5) (N := 11) (ci := 5) (v := .ref v2_7) hx hb hts wX5 hown hK hm hM_h0_7 rfl 2 (by decide) f32 (fun _ h9 => h9) rfl dX5_commit_61 ?_
        refine lv_aload_n hx hb dX5_commit_64 rfl (lv_at hl 1 rfl) ?_
        obtain ⟨v0_10, v1_10, v2_10, v3_10, v4_10, v5_10, v6_10, hM_x2_10, hk_v0_10, hk_v1_10, hk_v2_10, hk_v3_10, hk_v4_10, hz_v5_10⟩ := hT.txn hk_x2
        refine m_get (T := TX3) (N := 7) (ci := 3) (v := .ref v0_10) hx hb hts wX3 hown hK hm hM_x2_10 rfl 0 (by decide) f106 (fun _ h9 => h9) rfl dX5_commit_65 ?_
        refine lv_aload_n hx hb dX5_commit_68 rfl (lv_at hl 1 rfl) ?_
        refine m_get (T := TX3) (N := 7) (ci := 3) (v := .ref v1_10) hx hb hts wX3 hown hK hm hM_x2_10 rfl 1 (by decide) f109 (fun _ h9 => h9) rfl dX5_commit_69 ?_
        refine lv_aload_n hx hb dX5_commit_72 rfl (lv_at hl 2 rfl) ?_
        refine m_get (T := TX5) (N := 11) (ci := 5) (v := .ref v0_7) hx hb hts wX5 hown hK hm hM_h0_7 rfl 0 (by decide) f10 (fun _ h9 => h9) rfl dX5_commit_73 ?_
        refine lv_aload_n hx hb dX5_commit_76 rfl (lv_at hl 2 rfl) ?_
        refine m_get (T := TX5) (N := 11) (ci := 5) (v := .ref v1_7) hx hb hts wX5 hown hK hm hM_h0_7 rfl 1 (by decide) f26 (fun _ h9 => h9) rfl dX5_commit_77 ?_
        refine m_kV (As := [.ref v0_10, .ref v1_10, .ref v0_7, .ref v1_7]) (rest := []) (rm := { frames := 4, cells := 120, slots := 4080, locals := 89 }) ⟨hx, hb, hml, hown, hts⟩ (t_X1_build_RRRR l D k z _ _ v2_7 v0_10 v1_10 v0_7 v1_7 hk_v2_7 hk_v0_10 hk_v1_10 hk_v0_7 hk_v1_7 hT) (cwV 4 hts gX5_commit_X1_build rfl rfl rfl (by decide +kernel) ⟨Nat.le_of_ble_eq_true rfl, Nat.le_of_ble_eq_true rfl⟩) (m_recv hK hm (q := (RX1, TX1, 6)) rfl hM_v2_7_8) hz hcx hm hS rfl hl.1 rfl (Nat.le_of_ble_eq_true rfl) dX5_commit_80 ⟨Nat.le_of_ble_eq_true rfl, Nat.le_of_ble_eq_true rfl⟩ (fun v M1 H locs hv hm hS => ?_)
        obtain ⟨κ3, hT9, hE9, hv1⟩ := hv
        have hk_h0 := hE9.k hT hk_h0
        have hk_x2 := hE9.k hT hk_x2
        have hk_v2_7 := hE9.k hT hk_v2_7
        have hE := hE.trans hT0 hT hE9
        have hT := hT9
        obtain ⟨Mc3, hMx⟩ : ∃ x : mM, x = M1 := ⟨M1, rfl⟩
        subst hMx
        subst hv1
        refine W.eq (g2 := F0 m 83 ls []) rfl ?_
        refine W.widen (k := 121) (n := 4086) (Nat.le_of_ble_eq_true rfl) (Nat.le_of_ble_eq_true rfl) ?_
        have hm : mm D (AZ z) Mc3 H := hm
        refine lv_aload_n hx hb dX5_commit_83 rfl (lv_at hl 2 rfl) ?_
        refine lv_aload_n hx hb dX5_commit_84 rfl (lv_at hl 2 rfl) ?_
        obtain ⟨v0_11, v1_11, v2_11, v3_11, v4_11, v5_11, v6_11, v7_11, v8_11, v9_11, v10_11, hM_h0_11, hk_v0_11, hk_v1_11, hk_v2_11, hk_v3_11, hk_v4_11, hk_v5_11, hz_v9_11, hz_v10_11⟩ := hT.top hk_h0
        refine m_get (T := TX5) (N := 11) (ci := 5) (v := .ref v2_11) hx hb hts wX5 hown hK hm hM_h0_11 rfl 2 (by decide) f32 (fun _ h9 => h9) rfl dX5_commit_85 ?_
        obtain ⟨v0_12, v1_12, v2_12, v3_12, v4_12, v5_12, hM_v2_11_12, hk_v4_12, hk_v5_12⟩ := hT.merge hk_v2_11
        refine m_get (T := TX1) (N := 6) (ci := 1) (v := .int v3_12) hx hb hts wX1 hown hK hm hM_v2_11_12 rfl 3 (by decide) f116 (fun _ h9 => h9) rfl dX5_commit_88 ?_
        refine m_put (T := TX5) (N := 11) (ci := 5) (v := .int v3_12) (ty := .int) hx hb hts wX5 tyX5 tyX5_ok nmX5 hown hK hm hS hM_h0_11 rfl 8 (by decide) f63 (fun _ h9 => h9) rfl (by decide +kernel) rfl rfl (Nat.le_of_ble_eq_true rfl) dX5_commit_91 (fun H locs hm hS => ?_)
        have hm : mm D (AZ z) (mu Mc3 h0 (.inr (5, [.ref v0_11, .ref v1_11, .ref v2_11, .ref v3_11, .ref v4_11, .ref v5_11, .int v6_11, .int v7_11, .int v3_12, .int v9_11, .int v10_11]))) H := hm
        have hR_13 : (mu Mc3 h0 (.inr (5, [.ref v0_11, .ref v1_11, .ref v2_11, .ref v3_11, .ref v4_11, .ref v5_11, .int v6_11, .int v7_11, .int v3_12, .int v9_11, .int v10_11]))) v2_11 = _ := (mu_ne (kd_ne hk_v2_11 hk_h0 (by decide))).trans hM_v2_11_12
        have hT : TM k κ3 (mu Mc3 h0 (.inr (5, [.ref v0_11, .ref v1_11, .ref v2_11, .ref v3_11, .ref v4_11, .ref v5_11, .int v6_11, .int v7_11, .int v3_12, .int v9_11, .int v10_11]))) := hT.put hk_h0 (show wf k κ3 .top (.inr (5, [.ref v0_11, .ref v1_11, .ref v2_11, .ref v3_11, .ref v4_11, .ref v5_11, .int v6_11, .int v7_11, .int v3_12, .int v9_11, .int v10_11])) from ⟨v0_11, v1_11, v2_11, v3_11, v4_11, v5_11, v6_11, v7_11, v3_12, v9_11, v10_11, rfl, hk_v0_11, hk_v1_11, hk_v2_11, hk_v3_11, hk_v4_11, hk_v5_11, hz_v9_11, hz_v10_11⟩)
        have hE : kx κ M κ3 (mu Mc3 h0 (.inr (5, [.ref v0_11, .ref v1_11, .ref v2_11, .ref v3_11, .ref v4_11, .ref v5_11, .int v6_11, .int v7_11, .int v3_12, .int v9_11, .int v10_11]))) := hE.put hk_h0
        generalize (mu Mc3 h0 (.inr (5, [.ref v0_11, .ref v1_11, .ref v2_11, .ref v3_11, .ref v4_11, .ref v5_11, .int v6_11, .int v7_11, .int v3_12, .int v9_11, .int v10_11]))) = Mc4 at hm hT hE hR_13
        refine lv_aload_n hx hb dX5_commit_94 rfl (lv_at hl 2 rfl) ?_
        refine lv_aload_n hx hb dX5_commit_95 rfl (lv_at hl 2 rfl) ?_
        obtain ⟨v0_14, v1_14, v2_14, v3_14, v4_14, v5_14, v6_14, v7_14, v8_14, v9_14, v10_14, hM_h0_14, hk_v0_14, hk_v1_14, hk_v2_14, hk_v3_14, hk_v4_14, hk_v5_14, hz_v9_14, hz_v10_14⟩ := hT.top hk_h0
        refine m_get (T := TX5) (N := 11) (ci := 5) (v := .ref v2_14) hx hb hts wX5 hown hK hm hM_h0_14 rfl 2 (by decide) f32 (fun _ h9 => h9) rfl dX5_commit_96 ?_
        obtain ⟨v0_15, v1_15, v2_15, v3_15, v4_15, v5_15, hM_v2_14_15, hk_v4_15, hk_v5_15⟩ := hT.merge hk_v2_14
        refine m_get (T := TX1) (N := 6) (ci := 1) (v := .int v0_15) hx hb hts wX1 hown hK hm hM_v2_14_15 rfl 0 (by decide) f103 (fun _ h9 => h9) rfl dX5_commit_99 ?_
        refine m_kV (As := [.int v0_15]) (rest := []) (rm := { frames := 3, cells := 0, slots := 0, locals := 64 }) ⟨hx, hb, hml, hown, hts⟩ (t_X5_written_I l D k z _ _ h0 v0_15 hk_h0 hT) (cwV 1 hts gX5_commit_X5_written rfl rfl rfl (by decide +kernel) ⟨Nat.le_of_ble_eq_true rfl, Nat.le_of_ble_eq_true rfl⟩) (m_recv hK hm (q := (RX5, TX5, 11)) rfl hM_h0_14) hz hcx hm hS rfl hl.1 rfl (Nat.le_of_ble_eq_true rfl) dX5_commit_102 ⟨Nat.le_of_ble_eq_true rfl, Nat.le_of_ble_eq_true rfl⟩ (fun v M1 H locs hv hm hS => ?_)
        obtain ⟨κ5, hT9, hE9, hv1⟩ := hv
        have hk_h0 := hE9.k hT hk_h0
        have hk_x2 := hE9.k hT hk_x2
        have hE := hE.trans hT0 hT hE9
        have hT := hT9
        obtain ⟨Mc5, hMx⟩ : ∃ x : mM, x = M1 := ⟨M1, rfl⟩
        subst hMx
        rcases hv1 with hv1 | hv1
        · subst hv1
          refine W.eq (g2 := F0 m 105 ls [.int 0]) rfl ?_
          refine W.widen (k := 121) (n := 4086) (Nat.le_of_ble_eq_true rfl) (Nat.le_of_ble_eq_true rfl) ?_
          have hm : mm D (AZ z) Mc5 H := hm
          refine lv_if_eq (tgt := 115) hx hb dX5_commit_105 (by decide) (fun c16 => ?_) (fun c16 => ?_)
          · refine lv_bipush (v := (-4)) hx hb dX5_commit_115 (by decide) ?_
            refine vx_ret ?_
            refine W.iret (v := (-4)) hx hb hr (fun t ht hW => ⟨⟨some (.int (-4)), _, rfl, ?_, by rw [ht]; exact hm⟩, hS.F ht⟩) hS.2.2 dX5_commit_117
            exact ⟨_, hT, hE, ⟨_, rfl⟩⟩
          · first | exact absurd c16 (by decide) | exact absurd (by decide) c16
        · subst hv1
          refine W.eq (g2 := F0 m 105 ls [.int 1]) rfl ?_
          refine W.widen (k := 121) (n := 4086) (Nat.le_of_ble_eq_true rfl) (Nat.le_of_ble_eq_true rfl) ?_
          have hm : mm D (AZ z) Mc5 H := hm
          refine lv_if_eq (tgt := 115) hx hb dX5_commit_105 (by decide) (fun c17 => ?_) (fun c17 => ?_)
          · first | exact absurd c17 (by decide) | exact absurd (by decide) c17
          · refine lv_aload_n hx hb dX5_commit_108 rfl (lv_at hl 2 rfl) ?_
            obtain ⟨v0_18, v1_18, v2_18, v3_18, v4_18, v5_18, v6_18, v7_18, v8_18, v9_18, v10_18, hM_h0_18, hk_v0_18, hk_v1_18, hk_v2_18, hk_v3_18, hk_v4_18, hk_v5_18, hz_v9_18, hz_v10_18⟩ := hT.top hk_h0
            refine m_get (T := TX5) (N := 11) (ci := 5) (v := .int v7_18) hx hb hts wX5 hown hK hm hM_h0_18 rfl 7 (by decide) f60 (fun _ h9 => h9) rfl dX5_commit_109 ?_
            refine lv_goto (tgt := 117) hx hb dX5_commit_112 (by decide) ?_
            refine vx_ret ?_
            refine W.iret (v := v7_18) hx hb hr (fun t ht hW => ⟨⟨some (.int v7_18), _, rfl, ?_, by rw [ht]; exact hm⟩, hS.F ht⟩) hS.2.2 dX5_commit_117
            exact ⟨_, hT, hE, ⟨_, rfl⟩⟩
      · refine lv_aload_n hx hb dX5_commit_45 rfl (lv_at hl 2 rfl) ?_
        refine lv_dup hx hb dX5_commit_46 rfl ?_
        refine m_get (T := TX5) (N := 11) (ci := 5) (v := .int v7_7) hx hb hts wX5 hown hK hm hM_h0_7 rfl 7 (by decide) f60 (fun _ h9 => h9) rfl dX5_commit_47 ?_
        refine lv_iconst (v := 1) hx hb dX5_commit_50 (by decide) ?_
        refine lv_iadd hx hb dX5_commit_51 ?_
        refine m_put (T := TX5) (N := 11) (ci := 5) (v := .int (v7_7 + 1)) (ty := .int) hx hb hts wX5 tyX5 tyX5_ok nmX5 hown hK hm hS hM_h0_7 rfl 7 (by decide) f60 (fun _ h9 => h9) rfl (by decide +kernel) rfl rfl (Nat.le_of_ble_eq_true rfl) dX5_commit_52 (fun H locs hm hS => ?_)
        have hm : mm D (AZ z) (mu Mc2 h0 (.inr (5, [.ref v0_7, .ref v1_7, .ref v2_7, .ref v3_7, .ref v4_7, .ref v5_7, .int v6_7, .int (v7_7 + 1), .int v8_7, .int v9_7, .int v10_7]))) H := hm
        have hR_19 : (mu Mc2 h0 (.inr (5, [.ref v0_7, .ref v1_7, .ref v2_7, .ref v3_7, .ref v4_7, .ref v5_7, .int v6_7, .int (v7_7 + 1), .int v8_7, .int v9_7, .int v10_7]))) v2_7 = _ := (mu_ne (kd_ne hk_v2_7 hk_h0 (by decide))).trans hM_v2_7_8
        have hT : TM k κ1 (mu Mc2 h0 (.inr (5, [.ref v0_7, .ref v1_7, .ref v2_7, .ref v3_7, .ref v4_7, .ref v5_7, .int v6_7, .int (v7_7 + 1), .int v8_7, .int v9_7, .int v10_7]))) := hT.put hk_h0 (show wf k κ1 .top (.inr (5, [.ref v0_7, .ref v1_7, .ref v2_7, .ref v3_7, .ref v4_7, .ref v5_7, .int v6_7, .int (v7_7 + 1), .int v8_7, .int v9_7, .int v10_7])) from ⟨v0_7, v1_7, v2_7, v3_7, v4_7, v5_7, v6_7, (v7_7 + 1), v8_7, v9_7, v10_7, rfl, hk_v0_7, hk_v1_7, hk_v2_7, hk_v3_7, hk_v4_7, hk_v5_7, hz_v9_7, hz_v10_7⟩)
        have hE : kx κ M κ1 (mu Mc2 h0 (.inr (5, [.ref v0_7, .ref v1_7, .ref v2_7, .ref v3_7, .ref v4_7, .ref v5_7, .int v6_7, .int (v7_7 + 1), .int v8_7, .int v9_7, .int v10_7]))) := hE.put hk_h0
        generalize (mu Mc2 h0 (.inr (5, [.ref v0_7, .ref v1_7, .ref v2_7, .ref v3_7, .ref v4_7, .ref v5_7, .int v6_7, .int (v7_7 + 1), .int v8_7, .int v9_7, .int v10_7]))) = Mc6 at hm hT hE hR_19
        refine lv_aload_n hx hb dX5_commit_55 rfl (lv_at hl 2 rfl) ?_
        obtain ⟨v0_20, v1_20, v2_20, v3_20, v4_20, v5_20, v6_20, v7_20, v8_20, v9_20, v10_20, hM_h0_20, hk_v0_20, hk_v1_20, hk_v2_20, hk_v3_20, hk_v4_20, hk_v5_20, hz_v9_20, hz_v10_20⟩ := hT.top hk_h0
        refine m_get (T := TX5) (N := 11) (ci := 5) (v := .int v7_20) hx hb hts wX5 hown hK hm hM_h0_20 rfl 7 (by decide) f60 (fun _ h9 => h9) rfl dX5_commit_56 ?_
        refine W.widen (k := 121) (n := 4086) (by omega) (by omega) ?_
        refine vx_ret ?_
        refine W.iret (v := v7_20) hx hb hr (fun t ht hW => ⟨⟨some (.int v7_20), _, rfl, ?_, by rw [ht]; exact hm⟩, hS.F ht⟩) hS.2.2 dX5_commit_59
        exact ⟨_, hT, hE, ⟨_, rfl⟩⟩
    · refine lv_bipush (v := (-2)) hx hb dX5_commit_32 (by decide) ?_
      refine W.widen (k := 121) (n := 4086) (by omega) (by omega) ?_
      refine vx_ret ?_
      refine W.iret (v := (-2)) hx hb hr (fun t ht hW => ⟨⟨some (.int (-2)), _, rfl, ?_, by rw [ht]; exact hm⟩, hS.F ht⟩) hS.2.2 dX5_commit_34
      exact ⟨_, hT, hE, ⟨_, rfl⟩⟩
  · refine lv_bipush (v := (-3)) hx hb dX5_commit_18 (by decide) ?_
    refine W.widen (k := 121) (n := 4086) (by omega) (by omega) ?_
    refine vx_ret ?_
    refine W.iret (v := (-3)) hx hb hr (fun t ht hW => ⟨⟨some (.int (-3)), _, rfl, ?_, by rw [ht]; exact hm⟩, hS.F ht⟩) hS.2.2 dX5_commit_20
    exact ⟨_, hT, hE, ⟨_, rfl⟩⟩

set_option maxHeartbeats 4000000 in
set_option maxRecDepth 100000 in
theorem t_X5_check_I (l : Launch) (hlt : l.stackTraces = false) (D : va_G) (k : Nat → ClassId) (z : Nat) (M : mM) (κ : Nat → Option KD) (h0 : Nat) (a0 : Int32) (hk_h0 : κ h0 = some .top) (hT : TM k κ M) : mC l yX5_check wsX5_check ({ frames := 7, cells := 1, slots := 6, locals := 144 }) D k z [.ref h0, .int a0] M (fun v M' => ∃ κ', TM k κ' M' ∧ kx κ M κ' M' ∧ ∃ x, v = some (.int x)) (fun E M' => E ∈ (["java/lang/IllegalStateException"] : List String) ∧ ∃ κ', TM k κ' M' ∧ kx κ M κ' M') := by
  refine vx_ofW (cc := cX5_check) (maxL := 2) (ret := (some .int)) (by decide) rfl ?_
  intro p e s m args below meth c s₁ B hml hnt hv
  obtain ⟨rfl, hz, hcx, hm⟩ := hv
  have hx := B.exec
  have hb := B.bytes
  have hr := B.returns
  have hts := atoms_spec (ws := wsX5_check) B.pre
  have hown : s.vm.findClass RX5 = some m.cls := findClass_of_methodNamed B.named
  have hlocks := B.notSynchronized
  have hK := hcx.1
  have hS : va_S (AZ z) s.heap s.heap [] := va_S.rf
  have hA : ∀ q, s.heap.size ≤ q → AZ z q := fun q h => Nat.le_trans hz h
  have hl := lv_entry ([.ref h0, .int a0]) (n := 2) (Nat.le_of_ble_eq_true rfl)
  rw [lg_entry_eq]
  generalize (lg_sl ([.ref h0, .int a0]) ++ List.replicate (2 - (lg_sl ([.ref h0, .int a0])).length) Slot.unset).toArray = ls at hl ⊢
  have hl : lv_has ls 2 [(0, .ref h0), (1, .int a0)] := hl
  have hT0 := hT
  have hE : kx κ M κ M := kx.refl _ _
  refine lv_aload_n hx hb dX5_check_0 rfl (lv_at hl 0 rfl) ?_
  refine lv_aload_n hx hb dX5_check_1 rfl (lv_at hl 0 rfl) ?_
  refine lv_iload_n hx hb dX5_check_2 rfl (lv_at hl 1 rfl) ?_
  obtain ⟨v0_1, v1_1, v2_1, v3_1, v4_1, v5_1, v6_1, v7_1, v8_1, v9_1, v10_1, hM_h0_1, hk_v0_1, hk_v1_1, hk_v2_1, hk_v3_1, hk_v4_1, hk_v5_1, hz_v9_1, hz_v10_1⟩ := hT.top hk_h0
  refine m_cV (As := [.int a0]) (rest := [.ref h0]) (rm := { frames := 6, cells := 1, slots := 6, locals := 82 }) ⟨hx, hb, hml, hown, hts⟩ (t_X5_opened_I l hlt D k z _ _ h0 a0 hk_h0 hT) (cwV 1 hts gX5_check_X5_opened rfl rfl rfl (by decide +kernel) ⟨Nat.le_of_ble_eq_true rfl, Nat.le_of_ble_eq_true rfl⟩) (m_recv hK hm (q := (RX5, TX5, 11)) rfl hM_h0_1) hz hcx hm hS rfl hl.1 rfl (Nat.le_of_ble_eq_true rfl) dX5_check_3 ⟨Nat.le_of_ble_eq_true rfl, Nat.le_of_ble_eq_true rfl⟩ (fun E ce q9 M1 H locs hv hm hS hce hcv hcl => ?_) (fun v M1 H locs hv hm hS => ?_)
  · refine vx_out (fun x hx => (hnt x hx).elim) hlocks hce hcv hcl (fun t ht hvm => ⟨⟨_, ?_, by rw [ht]; exact hm⟩, hS.F ht⟩) hS.2.2 (Nat.le_of_ble_eq_true rfl) (Nat.le_of_ble_eq_true rfl)
    obtain ⟨hE8, κ8, hT8, hx8⟩ := hv
    exact ⟨by simp only [List.mem_cons, List.not_mem_nil, or_false] at hE8 ⊢; first | exact hE8 | simp [hE8], κ8, hT8, hE.trans hT0 hT hx8⟩
  obtain ⟨hv1, hM1⟩ := hv
  rw [hM1] at hm
  obtain ⟨x2, hv1, hk_x2⟩ := hv1
  subst hv1
  refine W.eq (g2 := F0 m 6 ls [.ref x2, .ref h0]) rfl ?_
  refine W.widen (k := 1) (n := 6) (Nat.le_of_ble_eq_true rfl) (Nat.le_of_ble_eq_true rfl) ?_
  have hm : mm D (AZ z) M H := hm
  refine m_kV (As := [.ref x2]) (rest := []) (rm := { frames := 5, cells := 0, slots := 0, locals := 123 }) ⟨hx, hb, hml, hown, hts⟩ (t_X5_judged_R l D k z _ _ h0 x2 hk_h0 hk_x2 hT) (cwV 1 hts gX5_check_X5_judged rfl rfl rfl (by decide +kernel) ⟨Nat.le_of_ble_eq_true rfl, Nat.le_of_ble_eq_true rfl⟩) (m_recv hK hm (q := (RX5, TX5, 11)) rfl hM_h0_1) hz hcx hm hS rfl hl.1 rfl (Nat.le_of_ble_eq_true rfl) dX5_check_6 ⟨Nat.le_of_ble_eq_true rfl, Nat.le_of_ble_eq_true rfl⟩ (fun v M1 H locs hv hm hS => ?_)
  obtain ⟨κ1, hT9, hE9, hv1⟩ := hv
  have hk_h0 := hE9.k hT hk_h0
  have hE := hE.trans hT0 hT hE9
  have hT := hT9
  obtain ⟨Mc1, hMx⟩ : ∃ x : mM, x = M1 := ⟨M1, rfl⟩
  subst hMx
  obtain ⟨w3, hv1⟩ := hv1
  subst hv1
  refine W.eq (g2 := F0 m 9 ls [.int w3]) rfl ?_
  refine W.widen (k := 1) (n := 6) (Nat.le_of_ble_eq_true rfl) (Nat.le_of_ble_eq_true rfl) ?_
  have hm : mm D (AZ z) Mc1 H := hm
  refine vx_ret ?_
  refine W.iret (v := w3) hx hb hr (fun t ht hW => ⟨⟨some (.int w3), _, rfl, ?_, by rw [ht]; exact hm⟩, hS.F ht⟩) hS.2.2 dX5_check_9
  exact ⟨_, hT, hE, ⟨_, rfl⟩⟩

set_option maxHeartbeats 4000000 in
set_option maxRecDepth 100000 in
theorem t_X3_step_NI (l : Launch) (D : va_G) (k : Nat → ClassId) (z : Nat) (M : mM) (κ : Nat → Option KD) (h0 : Nat) (a1 : Int32) (hk_h0 : κ h0 = some .txn) (hT : TM k κ M) : mK l yX3_step wsX3_step ({ frames := 0, cells := 0, slots := 0, locals := 0 }) D k z [.ref h0, .null, .int a1] M (fun v M' => ∃ κ', TM k κ' M' ∧ kx κ M κ' M' ∧ v = some .null) := by
  refine Met.ofW (cc := cX3_step) (maxL := 3) (ret := (some (.object "CommitTree$Node"))) (by decide) rfl ?_
  intro p e s m args below meth c s₁ B hml hv
  obtain ⟨rfl, hz, hcx, hm⟩ := hv
  have hx := B.exec
  have hb := B.bytes
  have hr := B.returns
  have hts := atoms_spec (ws := wsX3_step) B.pre
  have hown : s.vm.findClass RX3 = some m.cls := findClass_of_methodNamed B.named
  have hlocks := B.notSynchronized
  have hK := hcx.1
  have hS : va_S (AZ z) s.heap s.heap [] := va_S.rf
  have hA : ∀ q, s.heap.size ≤ q → AZ z q := fun q h => Nat.le_trans hz h
  have hl := lv_entry ([.ref h0, .null, .int a1]) (n := 3) (Nat.le_of_ble_eq_true rfl)
  rw [lg_entry_eq]
  generalize (lg_sl ([.ref h0, .null, .int a1]) ++ List.replicate (3 - (lg_sl ([.ref h0, .null, .int a1])).length) Slot.unset).toArray = ls at hl ⊢
  have hl : lv_has ls 3 [(0, .ref h0), (1, .null), (2, .int a1)] := hl
  have f37 := hts (.fieldLink RX3 37 "CommitTree$Transaction" "view" "LCommitTree$Tree;") (by decide +kernel)
  have f58 := hts (.fieldLink RX3 58 "CommitTree$Node" "directory" "Z") (by decide +kernel)
  have wX2 : ∀ w ∈ wsX20, w ∈ wsX3_step := by decide +kernel
  have wX3 : ∀ w ∈ wsX30, w ∈ wsX3_step := by decide +kernel
  have hT0 := hT
  have hE : kx κ M κ M := kx.refl _ _
  refine lv_aload_nN hx hb dX3_step_0 rfl (lv_at hl 1 rfl) ?_
  refine lv_ifnullN (tgt := 11) hx hb dX3_step_1 (by decide) ?_
  refine lv_null hx hb dX3_step_11 ?_
  refine W.aret (v := .null) hx hb hr (Or.inl ⟨_, rfl⟩) (Or.inl rfl) (fun t ht hW => ⟨⟨some (.null), _, rfl, ?_, by rw [ht]; exact hm⟩, hS.F ht⟩) hS.2.2 dX3_step_12
  exact ⟨_, hT, hE, rfl⟩

set_option maxHeartbeats 4000000 in
set_option maxRecDepth 100000 in
theorem t_X3_noteRead_RII (l : Launch) (D : va_G) (k : Nat → ClassId) (z : Nat) (M : mM) (κ : Nat → Option KD) (r0 : Nat) (a1 : Int32) (a2 : Int32) (hk_r0 : κ r0 = some .longs) (hT : TM k κ M) : mK l yX3_noteRead wsX3_noteRead ({ frames := 0, cells := 0, slots := 0, locals := 0 }) D k z [.ref r0, .int a1, .int a2] M (fun v M' => ∃ κ', TM k κ' M' ∧ kx κ M κ' M' ∧ v = none) := by
  refine Met.ofW (cc := cX3_noteRead) (maxL := 3) (ret := none) (by decide) rfl ?_
  intro p e s m args below meth c s₁ B hml hv
  obtain ⟨rfl, hz, hcx, hm⟩ := hv
  have hx := B.exec
  have hb := B.bytes
  have hr := B.returns
  have hts := atoms_spec (ws := wsX3_noteRead) B.pre
  have hown : s.vm.findClass RX3 = some m.cls := findClass_of_methodNamed B.named
  have hlocks := B.notSynchronized
  have hK := hcx.1
  have hS : va_S (AZ z) s.heap s.heap [] := va_S.rf
  have hA : ∀ q, s.heap.size ≤ q → AZ z q := fun q h => Nat.le_trans hz h
  have hl := lv_entry ([.ref r0, .int a1, .int a2]) (n := 3) (Nat.le_of_ble_eq_true rfl)
  rw [lg_entry_eq]
  generalize (lg_sl ([.ref r0, .int a1, .int a2]) ++ List.replicate (3 - (lg_sl ([.ref r0, .int a1, .int a2])).length) Slot.unset).toArray = ls at hl ⊢
  have hl : lv_has ls 3 [(0, .ref r0), (1, .int a1), (2, .int a2)] := hl
  have hT0 := hT
  have hE : kx κ M κ M := kx.refl _ _
  refine lv_iload_n hx hb dX3_noteRead_0 rfl (lv_at hl 1 rfl) ?_
  refine lv_if_lt (tgt := 19) hx hb dX3_noteRead_1 (by decide) (fun c1 => ?_) (fun c1 => ?_)
  · refine W.vret hx hb hr (fun t ht hW => ⟨⟨none, _, rfl, ?_, by rw [ht]; exact hm⟩, hS.F ht⟩) hS.2.2 dX3_noteRead_19
    exact ⟨_, hT, hE, rfl⟩
  · refine lv_iload_n hx hb dX3_noteRead_4 rfl (lv_at hl 1 rfl) ?_
    refine lv_aload_n hx hb dX3_noteRead_5 rfl (lv_at hl 0 rfl) ?_
    obtain ⟨f_2, hM_r0_2⟩ := hT.longs hk_r0
    refine m_alen hx hb hK hm 1 hM_r0_2 rfl (v := nI 60) rfl dX3_noteRead_6 ?_
    refine lv_icmp_ge (tgt := 19) hx hb dX3_noteRead_7 (by decide) (fun c3 => ?_) (fun c3 => ?_)
    · refine W.vret hx hb hr (fun t ht hW => ⟨⟨none, _, rfl, ?_, by rw [ht]; exact hm⟩, hS.F ht⟩) hS.2.2 dX3_noteRead_19
      exact ⟨_, hT, hE, rfl⟩
    · refine lv_aload_n hx hb dX3_noteRead_10 rfl (lv_at hl 0 rfl) ?_
      refine lv_iload_n hx hb dX3_noteRead_11 rfl (lv_at hl 1 rfl) ?_
      refine lv_dup2_11 hx hb dX3_noteRead_12 rfl rfl ?_
      refine m_lald hx hb hK hm 1 hM_r0_2 rfl (in_of (i := a1) (n := 60) (by first | assumption | exact nI_pos (by omega)) (by assumption) (by first | decide | omega)) dX3_noteRead_13 ?_
      refine lv_lconst (v := 1) hx hb dX3_noteRead_14 (by decide) ?_
      refine lv_iload_n hx hb dX3_noteRead_15 rfl (lv_at hl 2 rfl) ?_
      refine lv_lshl (v := (1 <<< (a2.toInt64 &&& 63))) hx hb dX3_noteRead_16 rfl ?_
      refine lv_lor hx hb dX3_noteRead_17 ?_
      refine m_last hx hb hK hm hS 1 hM_r0_2 rfl (in_of (i := a1) (n := 60) (by first | assumption | exact nI_pos (by omega)) (by assumption) (by first | decide | omega)) dX3_noteRead_18 (fun H locs hm hS => ?_)
      have hm : mm D (AZ z) (mu M r0 (.inl (k 1, 60, .inr (.inl (vp_updL f_2 a1.toNatClampNeg ((f_2 a1.toNatClampNeg) ||| (1 <<< (a2.toInt64 &&& 63)))))))) H := hm
      have hT : TM k κ (mu M r0 (.inl (k 1, 60, .inr (.inl (vp_updL f_2 a1.toNatClampNeg ((f_2 a1.toNatClampNeg) ||| (1 <<< (a2.toInt64 &&& 63)))))))) := hT.put hk_r0 (show wf k κ .longs (.inl (k 1, 60, .inr (.inl (vp_updL f_2 a1.toNatClampNeg ((f_2 a1.toNatClampNeg) ||| (1 <<< (a2.toInt64 &&& 63))))))) from ⟨(vp_updL f_2 a1.toNatClampNeg ((f_2 a1.toNatClampNeg) ||| (1 <<< (a2.toInt64 &&& 63)))), rfl⟩)
      have hE : kx κ M κ (mu M r0 (.inl (k 1, 60, .inr (.inl (vp_updL f_2 a1.toNatClampNeg ((f_2 a1.toNatClampNeg) ||| (1 <<< (a2.toInt64 &&& 63)))))))) := hE.put hk_r0
      generalize (mu M r0 (.inl (k 1, 60, .inr (.inl (vp_updL f_2 a1.toNatClampNeg ((f_2 a1.toNatClampNeg) ||| (1 <<< (a2.toInt64 &&& 63)))))))) = Mc1 at hm hT hE
      refine W.vret hx hb hr (fun t ht hW => ⟨⟨none, _, rfl, ?_, by rw [ht]; exact hm⟩, hS.F ht⟩) hS.2.2 dX3_noteRead_19
      exact ⟨_, hT, hE, rfl⟩

set_option maxHeartbeats 4000000 in
set_option maxRecDepth 100000 in
theorem t_X3_lookAtCell_RI (l : Launch) (D : va_G) (k : Nat → ClassId) (z : Nat) (M : mM) (κ : Nat → Option KD) (h0 : Nat) (r0 : Nat) (a1 : Int32) (hk_h0 : κ h0 = some .txn) (hk_r0 : κ r0 = some .node) (hT : TM k κ M) : mK l yX3_lookAtCell wsX3_lookAtCell ({ frames := 1, cells := 0, slots := 0, locals := 23 }) D k z [.ref h0, .ref r0, .int a1] M (fun v M' => ∃ κ', TM k κ' M' ∧ kx κ M κ' M' ∧ v = none) := by
  refine Met.ofW (cc := cX3_lookAtCell) (maxL := 5) (ret := none) (by decide) rfl ?_
  intro p e s m args below meth c s₁ B hml hv
  obtain ⟨rfl, hz, hcx, hm⟩ := hv
  have hx := B.exec
  have hb := B.bytes
  have hr := B.returns
  have hts := atoms_spec (ws := wsX3_lookAtCell) B.pre
  have hown : s.vm.findClass RX3 = some m.cls := findClass_of_methodNamed B.named
  have hlocks := B.notSynchronized
  have hK := hcx.1
  have hS : va_S (AZ z) s.heap s.heap [] := va_S.rf
  have hA : ∀ q, s.heap.size ≤ q → AZ z q := fun q h => Nat.le_trans hz h
  have hl := lv_entry ([.ref h0, .ref r0, .int a1]) (n := 5) (Nat.le_of_ble_eq_true rfl)
  rw [lg_entry_eq]
  generalize (lg_sl ([.ref h0, .ref r0, .int a1]) ++ List.replicate (5 - (lg_sl ([.ref h0, .ref r0, .int a1])).length) Slot.unset).toArray = ls at hl ⊢
  have hl : lv_has ls 5 [(0, .ref h0), (1, .ref r0), (2, .int a1)] := hl
  have f12 := hts (.fieldLink RX3 12 "CommitTree$Transaction" "base" "LCommitTree$Tree;") (by decide +kernel)
  have f22 := hts (.fieldLink RX3 22 "CommitTree$Transaction" "cellsRead" "[J") (by decide +kernel)
  have f71 := hts (.fieldLink RX3 71 "CommitTree$Node" "id" "I") (by decide +kernel)
  have wX2 : ∀ w ∈ wsX20, w ∈ wsX3_lookAtCell := by decide +kernel
  have wX3 : ∀ w ∈ wsX30, w ∈ wsX3_lookAtCell := by decide +kernel
  have hT0 := hT
  have hE : kx κ M κ M := kx.refl _ _
  refine lv_aload_n hx hb dX3_lookAtCell_0 rfl (lv_at hl 0 rfl) ?_
  obtain ⟨v0_1, v1_1, v2_1, v3_1, v4_1, v5_1, v6_1, hM_h0_1, hk_v0_1, hk_v1_1, hk_v2_1, hk_v3_1, hk_v4_1, hz_v5_1⟩ := hT.txn hk_h0
  refine m_get (T := TX3) (N := 7) (ci := 3) (v := .ref v0_1) hx hb hts wX3 hown hK hm hM_h0_1 rfl 0 (by decide) f12 (fun _ h9 => h9) rfl dX3_lookAtCell_1 ?_
  refine lv_aload_n hx hb dX3_lookAtCell_4 rfl (lv_at hl 1 rfl) ?_
  obtain ⟨v0_2, v1_2, v2_2, v3_2, hM_r0_2, hz_v1_2, hk_v3_2⟩ := hT.node hk_r0
  refine m_get (T := TX2) (N := 4) (ci := 2) (v := .int v0_2) hx hb hts wX2 hown hK hm hM_r0_2 rfl 0 (by decide) f71 (fun _ h9 => h9) rfl dX3_lookAtCell_5 ?_
  obtain ⟨v0_3, v1_3, hM_v0_1_3, hk_v0_3, hn_v1_3⟩ := hT.tree hk_v0_1
  refine m_kV (As := [.int v0_2]) (rest := []) (rm := { frames := 0, cells := 0, slots := 0, locals := 0 }) ⟨hx, hb, hml, hown, hts⟩ (t_X4_placeOf_I l D k z _ _ v0_1 v0_2 hk_v0_1 hT) (cwV 1 hts gX3_lookAtCell_X4_placeOf rfl rfl rfl (by decide +kernel) ⟨Nat.le_of_ble_eq_true rfl, Nat.le_of_ble_eq_true rfl⟩) (m_recv hK hm (q := (RX4, TX4, 2)) rfl hM_v0_1_3) hz hcx hm hS rfl hl.1 rfl (Nat.le_of_ble_eq_true rfl) dX3_lookAtCell_8 ⟨Nat.le_of_ble_eq_true rfl, Nat.le_of_ble_eq_true rfl⟩ (fun v M1 H locs hv hm hS => ?_)
  obtain ⟨hv1, hM1⟩ := hv
  rw [hM1] at hm
  obtain ⟨w4, hv1⟩ := hv1
  subst hv1
  refine W.eq (g2 := F0 m 11 ls [.int w4]) rfl ?_
  refine W.widen (k := 0) (n := 0) (Nat.le_of_ble_eq_true rfl) (Nat.le_of_ble_eq_true rfl) ?_
  have hm : mm D (AZ z) M H := hm
  refine lv_istore_n (lv' := [(3, .int w4), (0, .ref h0), (1, .ref r0), (2, .int a1)]) hx hb dX3_lookAtCell_11 rfl hl (by decide) rfl (fun ls hl => ?_)
  refine lv_aload_n hx hb dX3_lookAtCell_12 rfl (lv_at hl 1 rfl) ?_
  refine m_get (T := TX3) (N := 7) (ci := 3) (v := .ref v0_1) hx hb hts wX3 hown hK hm hM_h0_1 rfl 0 (by decide) f12 (fun _ h9 => h9) rfl dX3_lookAtCell_13 ?_
  refine lv_iload_n hx hb dX3_lookAtCell_16 rfl (lv_at hl 0 rfl) ?_
  refine m_kV (As := [.int w4]) (rest := []) (rm := { frames := 0, cells := 0, slots := 0, locals := 0 }) ⟨hx, hb, hml, hown, hts⟩ (t_X4_at_I l D k z _ _ v0_1 w4 hk_v0_1 hT) (cwV 1 hts gX3_lookAtCell_X4_at rfl rfl rfl (by decide +kernel) ⟨Nat.le_of_ble_eq_true rfl, Nat.le_of_ble_eq_true rfl⟩) (m_recv hK hm (q := (RX4, TX4, 2)) rfl hM_v0_1_3) hz hcx hm hS rfl hl.1 rfl (Nat.le_of_ble_eq_true rfl) dX3_lookAtCell_17 ⟨Nat.le_of_ble_eq_true rfl, Nat.le_of_ble_eq_true rfl⟩ (fun v M1 H locs hv hm hS => ?_)
  obtain ⟨hv1, hM1⟩ := hv
  rw [hM1] at hm
  rcases hv1 with hv1 | ⟨x5, hv1, hk_x5, hx9⟩
  · subst hv1
    refine W.eq (g2 := F0 m 20 ls [.null]) rfl ?_
    refine W.widen (k := 0) (n := 0) (Nat.le_of_ble_eq_true rfl) (Nat.le_of_ble_eq_true rfl) ?_
    have hm : mm D (AZ z) M H := hm
    refine lv_astoreN (lv' := [(4, .null), (3, .int w4), (0, .ref h0), (1, .ref r0), (2, .int a1)]) hx hb dX3_lookAtCell_20 hl (by decide) rfl (fun ls hl => ?_)
    refine lv_aloadN hx hb dX3_lookAtCell_22 (lv_at hl 0 rfl) ?_
    refine lv_ifnullN (tgt := 50) hx hb dX3_lookAtCell_24 (by decide) ?_
    refine W.vret hx hb hr (fun t ht hW => ⟨⟨none, _, rfl, ?_, by rw [ht]; exact hm⟩, hS.F ht⟩) hS.2.2 dX3_lookAtCell_50
    exact ⟨_, hT, hE, rfl⟩
  · subst hv1
    refine W.eq (g2 := F0 m 20 ls [.ref x5]) rfl ?_
    refine W.widen (k := 0) (n := 0) (Nat.le_of_ble_eq_true rfl) (Nat.le_of_ble_eq_true rfl) ?_
    have hm : mm D (AZ z) M H := hm
    refine lv_astore (lv' := [(4, .ref x5), (3, .int w4), (0, .ref h0), (1, .ref r0), (2, .int a1)]) hx hb dX3_lookAtCell_20 hl (by decide) rfl (fun ls hl => ?_)
    refine lv_aload hx hb dX3_lookAtCell_22 (lv_at hl 0 rfl) ?_
    refine lv_ifnull hx hb dX3_lookAtCell_24 ?_
    refine lv_aload hx hb dX3_lookAtCell_27 (lv_at hl 0 rfl) ?_
    refine lv_iload_n hx hb dX3_lookAtCell_29 rfl (lv_at hl 4 rfl) ?_
    obtain ⟨v0_6, v1_6, v2_6, v3_6, hM_x5_6, hz_v1_6, hk_v3_6⟩ := hT.node hk_x5
    refine m_kV (As := [.int a1]) (rest := []) (rm := { frames := 0, cells := 0, slots := 0, locals := 0 }) ⟨hx, hb, hml, hown, hts⟩ (t_X2_cell_I l D k z _ _ x5 a1 hk_x5 hT) (cwV 1 hts gX3_lookAtCell_X2_cell rfl rfl rfl (by decide +kernel) ⟨Nat.le_of_ble_eq_true rfl, Nat.le_of_ble_eq_true rfl⟩) (m_recv hK hm (q := (RX2, TX2, 4)) rfl hM_x5_6) hz hcx hm hS rfl hl.1 rfl (Nat.le_of_ble_eq_true rfl) dX3_lookAtCell_30 ⟨Nat.le_of_ble_eq_true rfl, Nat.le_of_ble_eq_true rfl⟩ (fun v M1 H locs hv hm hS => ?_)
    obtain ⟨hv1, hM1⟩ := hv
    rw [hM1] at hm
    obtain ⟨w7, hv1⟩ := hv1
    subst hv1
    refine W.eq (g2 := F0 m 33 ls [.int w7]) rfl ?_
    refine W.widen (k := 0) (n := 0) (Nat.le_of_ble_eq_true rfl) (Nat.le_of_ble_eq_true rfl) ?_
    have hm : mm D (AZ z) M H := hm
    refine lv_aload_n hx hb dX3_lookAtCell_33 rfl (lv_at hl 3 rfl) ?_
    refine lv_iload_n hx hb dX3_lookAtCell_34 rfl (lv_at hl 4 rfl) ?_
    refine m_kV (As := [.int a1]) (rest := [.int w7]) (rm := { frames := 0, cells := 0, slots := 0, locals := 0 }) ⟨hx, hb, hml, hown, hts⟩ (t_X2_cell_I l D k z _ _ r0 a1 hk_r0 hT) (cwV 1 hts gX3_lookAtCell_X2_cell rfl rfl rfl (by decide +kernel) ⟨Nat.le_of_ble_eq_true rfl, Nat.le_of_ble_eq_true rfl⟩) (m_recv hK hm (q := (RX2, TX2, 4)) rfl hM_r0_2) hz hcx hm hS rfl hl.1 rfl (Nat.le_of_ble_eq_true rfl) dX3_lookAtCell_35 ⟨Nat.le_of_ble_eq_true rfl, Nat.le_of_ble_eq_true rfl⟩ (fun v M1 H locs hv hm hS => ?_)
    obtain ⟨hv1, hM1⟩ := hv
    rw [hM1] at hm
    obtain ⟨w8, hv1⟩ := hv1
    subst hv1
    refine W.eq (g2 := F0 m 38 ls [.int w8, .int w7]) rfl ?_
    refine W.widen (k := 0) (n := 0) (Nat.le_of_ble_eq_true rfl) (Nat.le_of_ble_eq_true rfl) ?_
    have hm : mm D (AZ z) M H := hm
    refine lv_icmp_ne (tgt := 50) hx hb dX3_lookAtCell_38 (by decide) (fun c9 => ?_) (fun c9 => ?_)
    · refine W.vret hx hb hr (fun t ht hW => ⟨⟨none, _, rfl, ?_, by rw [ht]; exact hm⟩, hS.F ht⟩) hS.2.2 dX3_lookAtCell_50
      exact ⟨_, hT, hE, rfl⟩
    · refine lv_aload_n hx hb dX3_lookAtCell_41 rfl (lv_at hl 2 rfl) ?_
      refine m_get (T := TX3) (N := 7) (ci := 3) (v := .ref v3_1) hx hb hts wX3 hown hK hm hM_h0_1 rfl 3 (by decide) f22 (fun _ h9 => h9) rfl dX3_lookAtCell_42 ?_
      refine lv_iload_n hx hb dX3_lookAtCell_45 rfl (lv_at hl 1 rfl) ?_
      refine lv_iload_n hx hb dX3_lookAtCell_46 rfl (lv_at hl 4 rfl) ?_
      refine m_kS (As := [.ref v3_1, .int w4, .int a1]) (rest := []) (rm := { frames := 0, cells := 0, slots := 0, locals := 0 }) ⟨hx, hb, hml, hown, hts⟩ (t_X3_noteRead_RII l D k z _ _ v3_1 w4 a1 hk_v3_1 hT) (cwS 3 hts gX3_lookAtCell_X3_noteRead rfl rfl rfl (by decide +kernel) ⟨Nat.le_of_ble_eq_true rfl, Nat.le_of_ble_eq_true rfl⟩) hz hcx hm hS rfl hl.1 rfl (Nat.le_of_ble_eq_true rfl) dX3_lookAtCell_47 ⟨Nat.le_of_ble_eq_true rfl, Nat.le_of_ble_eq_true rfl⟩ (fun v M1 H locs hv hm hS => ?_)
      obtain ⟨κ1, hT9, hE9, hv1⟩ := hv
      have hk_h0 := hE9.k hT hk_h0
      have hk_r0 := hE9.k hT hk_r0
      have hk_x5 := hE9.k hT hk_x5
      have hE := hE.trans hT0 hT hE9
      have hT := hT9
      obtain ⟨Mc1, hMx⟩ : ∃ x : mM, x = M1 := ⟨M1, rfl⟩
      subst hMx
      subst hv1
      refine W.eq (g2 := F0 m 50 ls []) rfl ?_
      refine W.widen (k := 0) (n := 0) (Nat.le_of_ble_eq_true rfl) (Nat.le_of_ble_eq_true rfl) ?_
      have hm : mm D (AZ z) Mc1 H := hm
      refine W.vret hx hb hr (fun t ht hW => ⟨⟨none, _, rfl, ?_, by rw [ht]; exact hm⟩, hS.F ht⟩) hS.2.2 dX3_lookAtCell_50
      exact ⟨_, hT, hE, rfl⟩

set_option maxHeartbeats 4000000 in
set_option maxRecDepth 100000 in
theorem t_X3_step_RI (l : Launch) (D : va_G) (k : Nat → ClassId) (z : Nat) (M : mM) (κ : Nat → Option KD) (h0 : Nat) (r0 : Nat) (a1 : Int32) (hk_h0 : κ h0 = some .txn) (hk_r0 : κ r0 = some .node) (hT : TM k κ M) : mK l yX3_step wsX3_step ({ frames := 2, cells := 0, slots := 0, locals := 47 }) D k z [.ref h0, .ref r0, .int a1] M (fun v M' => ∃ κ', TM k κ' M' ∧ kx κ M κ' M' ∧ (v = some .null ∨ ∃ a, v = some (.ref a) ∧ κ' a = some .node)) := by
  refine Met.ofW (cc := cX3_step) (maxL := 3) (ret := (some (.object "CommitTree$Node"))) (by decide) rfl ?_
  intro p e s m args below meth c s₁ B hml hv
  obtain ⟨rfl, hz, hcx, hm⟩ := hv
  have hx := B.exec
  have hb := B.bytes
  have hr := B.returns
  have hts := atoms_spec (ws := wsX3_step) B.pre
  have hown : s.vm.findClass RX3 = some m.cls := findClass_of_methodNamed B.named
  have hlocks := B.notSynchronized
  have hK := hcx.1
  have hS : va_S (AZ z) s.heap s.heap [] := va_S.rf
  have hA : ∀ q, s.heap.size ≤ q → AZ z q := fun q h => Nat.le_trans hz h
  have hl := lv_entry ([.ref h0, .ref r0, .int a1]) (n := 3) (Nat.le_of_ble_eq_true rfl)
  rw [lg_entry_eq]
  generalize (lg_sl ([.ref h0, .ref r0, .int a1]) ++ List.replicate (3 - (lg_sl ([.ref h0, .ref r0, .int a1])).length) Slot.unset).toArray = ls at hl ⊢
  have hl : lv_has ls 3 [(0, .ref h0), (1, .ref r0), (2, .int a1)] := hl
  have f37 := hts (.fieldLink RX3 37 "CommitTree$Transaction" "view" "LCommitTree$Tree;") (by decide +kernel)
  have f58 := hts (.fieldLink RX3 58 "CommitTree$Node" "directory" "Z") (by decide +kernel)
  have wX2 : ∀ w ∈ wsX20, w ∈ wsX3_step := by decide +kernel
  have wX3 : ∀ w ∈ wsX30, w ∈ wsX3_step := by decide +kernel
  have hT0 := hT
  have hE : kx κ M κ M := kx.refl _ _
  refine lv_aload_n hx hb dX3_step_0 rfl (lv_at hl 1 rfl) ?_
  refine lv_ifnull hx hb dX3_step_1 ?_
  refine lv_aload_n hx hb dX3_step_4 rfl (lv_at hl 1 rfl) ?_
  obtain ⟨v0_1, v1_1, v2_1, v3_1, hM_r0_1, hz_v1_1, hk_v3_1⟩ := hT.node hk_r0
  rcases hz_v1_1 with h9 | h9
  · subst h9
    refine m_get (T := TX2) (N := 4) (ci := 2) (v := .int 0) hx hb hts wX2 hown hK hm hM_r0_1 rfl 1 (by decide) f58 (fun _ h9 => h9) rfl dX3_step_5 ?_
    refine lv_if_ne (tgt := 13) hx hb dX3_step_8 (by decide) (fun c2 => ?_) (fun c2 => ?_)
    · first | exact absurd c2 (by decide) | exact absurd (by decide) c2
    · refine lv_null hx hb dX3_step_11 ?_
      refine W.aret (v := .null) hx hb hr (Or.inl ⟨_, rfl⟩) (Or.inl rfl) (fun t ht hW => ⟨⟨some (.null), _, rfl, ?_, by rw [ht]; exact hm⟩, hS.F ht⟩) hS.2.2 dX3_step_12
      exact ⟨_, hT, hE, Or.inl rfl⟩
  · subst h9
    refine m_get (T := TX2) (N := 4) (ci := 2) (v := .int 1) hx hb hts wX2 hown hK hm hM_r0_1 rfl 1 (by decide) f58 (fun _ h9 => h9) rfl dX3_step_5 ?_
    refine lv_if_ne (tgt := 13) hx hb dX3_step_8 (by decide) (fun c3 => ?_) (fun c3 => ?_)
    · refine lv_aload_n hx hb dX3_step_13 rfl (lv_at hl 0 rfl) ?_
      refine lv_aload_n hx hb dX3_step_14 rfl (lv_at hl 1 rfl) ?_
      refine lv_iload_n hx hb dX3_step_15 rfl (lv_at hl 2 rfl) ?_
      obtain ⟨v0_4, v1_4, v2_4, v3_4, v4_4, v5_4, v6_4, hM_h0_4, hk_v0_4, hk_v1_4, hk_v2_4, hk_v3_4, hk_v4_4, hz_v5_4⟩ := hT.txn hk_h0
      refine m_kV (As := [.ref r0, .int a1]) (rest := []) (rm := { frames := 1, cells := 0, slots := 0, locals := 23 }) ⟨hx, hb, hml, hown, hts⟩ (t_X3_lookAtCell_RI l D k z _ _ h0 r0 a1 hk_h0 hk_r0 hT) (cwV 2 hts gX3_step_X3_lookAtCell rfl rfl rfl (by decide +kernel) ⟨Nat.le_of_ble_eq_true rfl, Nat.le_of_ble_eq_true rfl⟩) (m_recv hK hm (q := (RX3, TX3, 7)) rfl hM_h0_4) hz hcx hm hS rfl hl.1 rfl (Nat.le_of_ble_eq_true rfl) dX3_step_16 ⟨Nat.le_of_ble_eq_true rfl, Nat.le_of_ble_eq_true rfl⟩ (fun v M1 H locs hv hm hS => ?_)
      obtain ⟨κ1, hT9, hE9, hv1⟩ := hv
      have hk_h0 := hE9.k hT hk_h0
      have hk_r0 := hE9.k hT hk_r0
      have hE := hE.trans hT0 hT hE9
      have hT := hT9
      obtain ⟨Mc1, hMx⟩ : ∃ x : mM, x = M1 := ⟨M1, rfl⟩
      subst hMx
      subst hv1
      refine W.eq (g2 := F0 m 19 ls []) rfl ?_
      refine W.widen (k := 0) (n := 0) (Nat.le_of_ble_eq_true rfl) (Nat.le_of_ble_eq_true rfl) ?_
      have hm : mm D (AZ z) Mc1 H := hm
      refine lv_aload_n hx hb dX3_step_19 rfl (lv_at hl 0 rfl) ?_
      obtain ⟨v0_5, v1_5, v2_5, v3_5, v4_5, v5_5, v6_5, hM_h0_5, hk_v0_5, hk_v1_5, hk_v2_5, hk_v3_5, hk_v4_5, hz_v5_5⟩ := hT.txn hk_h0
      refine m_get (T := TX3) (N := 7) (ci := 3) (v := .ref v1_5) hx hb hts wX3 hown hK hm hM_h0_5 rfl 1 (by decide) f37 (fun _ h9 => h9) rfl dX3_step_20 ?_
      refine lv_aload_n hx hb dX3_step_23 rfl (lv_at hl 1 rfl) ?_
      refine lv_iload_n hx hb dX3_step_24 rfl (lv_at hl 2 rfl) ?_
      obtain ⟨v0_6, v1_6, v2_6, v3_6, hM_r0_6, hz_v1_6, hk_v3_6⟩ := hT.node hk_r0
      refine m_kV (As := [.int a1]) (rest := [.ref v1_5]) (rm := { frames := 0, cells := 0, slots := 0, locals := 0 }) ⟨hx, hb, hml, hown, hts⟩ (t_X2_cell_I l D k z _ _ r0 a1 hk_r0 hT) (cwV 1 hts gX3_step_X2_cell rfl rfl rfl (by decide +kernel) ⟨Nat.le_of_ble_eq_true rfl, Nat.le_of_ble_eq_true rfl⟩) (m_recv hK hm (q := (RX2, TX2, 4)) rfl hM_r0_6) hz hcx hm hS rfl hl.1 rfl (Nat.le_of_ble_eq_true rfl) dX3_step_25 ⟨Nat.le_of_ble_eq_true rfl, Nat.le_of_ble_eq_true rfl⟩ (fun v M1 H locs hv hm hS => ?_)
      obtain ⟨hv1, hM1⟩ := hv
      rw [hM1] at hm
      obtain ⟨w7, hv1⟩ := hv1
      subst hv1
      refine W.eq (g2 := F0 m 28 ls [.int w7, .ref v1_5]) rfl ?_
      refine W.widen (k := 0) (n := 0) (Nat.le_of_ble_eq_true rfl) (Nat.le_of_ble_eq_true rfl) ?_
      have hm : mm D (AZ z) Mc1 H := hm
      obtain ⟨v0_8, v1_8, hM_v1_5_8, hk_v0_8, hn_v1_8⟩ := hT.tree hk_v1_5
      refine m_kV (As := [.int w7]) (rest := []) (rm := { frames := 1, cells := 0, slots := 0, locals := 23 }) ⟨hx, hb, hml, hown, hts⟩ (t_X4_find_I l D k z _ _ v1_5 w7 hk_v1_5 hT) (cwV 1 hts gX3_step_X4_find rfl rfl rfl (by decide +kernel) ⟨Nat.le_of_ble_eq_true rfl, Nat.le_of_ble_eq_true rfl⟩) (m_recv hK hm (q := (RX4, TX4, 2)) rfl hM_v1_5_8) hz hcx hm hS rfl hl.1 rfl (Nat.le_of_ble_eq_true rfl) dX3_step_28 ⟨Nat.le_of_ble_eq_true rfl, Nat.le_of_ble_eq_true rfl⟩ (fun v M1 H locs hv hm hS => ?_)
      obtain ⟨hv1, hM1⟩ := hv
      rw [hM1] at hm
      rcases hv1 with hv1 | ⟨x9, hv1, hk_x9⟩
      · subst hv1
        refine W.eq (g2 := F0 m 31 ls [.null]) rfl ?_
        refine W.widen (k := 0) (n := 0) (Nat.le_of_ble_eq_true rfl) (Nat.le_of_ble_eq_true rfl) ?_
        have hm : mm D (AZ z) Mc1 H := hm
        refine W.aret (v := .null) hx hb hr (Or.inl ⟨_, rfl⟩) (Or.inl rfl) (fun t ht hW => ⟨⟨some (.null), _, rfl, ?_, by rw [ht]; exact hm⟩, hS.F ht⟩) hS.2.2 dX3_step_31
        exact ⟨_, hT, hE, Or.inl rfl⟩
      · subst hv1
        refine W.eq (g2 := F0 m 31 ls [.ref x9]) rfl ?_
        refine W.widen (k := 0) (n := 0) (Nat.le_of_ble_eq_true rfl) (Nat.le_of_ble_eq_true rfl) ?_
        have hm : mm D (AZ z) Mc1 H := hm
        refine W.aret (v := .ref x9) hx hb hr (Or.inl ⟨_, rfl⟩) (Or.inr ⟨_, rfl⟩) (fun t ht hW => ⟨⟨some (.ref x9), _, rfl, ?_, by rw [ht]; exact hm⟩, hS.F ht⟩) hS.2.2 dX3_step_31
        exact ⟨_, hT, hE, Or.inr ⟨_, rfl, hk_x9⟩⟩
    · first | exact absurd c3 (by decide) | exact absurd (by decide) c3

