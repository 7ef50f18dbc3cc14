set_option maxHeartbeats 4000000 in
set_option maxRecDepth 100000 in
theorem t_X4_blocks (l : Launch) (D : va_G) (k : Nat → ClassId) (z : Nat) (M : mM) (κ : Nat → Option KD) (h0 : Nat) (hk_h0 : κ h0 = some .tree) (hT : TM k κ M) : mK l yX4_blocks wsX4_blocks ({ frames := 2, cells := 0, slots := 0, locals := 40 }) D k z [.ref h0] M (fun v M' => (∃ x, v = some (.int x)) ∧ M' = M) := by
  refine Met.ofW (cc := cX4_blocks) (maxL := 4) (ret := (some .int)) (by decide) rfl ?_
  intro p e s m args below meth c s₁ B hml hv
  obtain ⟨rfl, hz, hcx, hm⟩ := hv
  have hx := B.exec
  have hb := B.bytes
  have hr := B.returns
  have hts := atoms_spec (ws := wsX4_blocks) B.pre
  have hown : s.vm.findClass RX4 = some m.cls := findClass_of_methodNamed B.named
  have hlocks := B.notSynchronized
  have hK := hcx.1
  have hS : va_S (AZ z) s.heap s.heap [] := va_S.rf
  have hA : ∀ q, s.heap.size ≤ q → AZ z q := fun q h => Nat.le_trans hz h
  have hl := lv_entry ([.ref h0]) (n := 4) (Nat.le_of_ble_eq_true rfl)
  rw [lg_entry_eq]
  generalize (lg_sl ([.ref h0]) ++ List.replicate (4 - (lg_sl ([.ref h0])).length) Slot.unset).toArray = ls at hl ⊢
  have hl : lv_has ls 4 [(0, .ref h0)] := hl
  have f17 := hts (.fieldLink RX4 17 "CommitTree$Tree" "size" "I") (by decide +kernel)
  have wX4 : ∀ w ∈ wsX40, w ∈ wsX4_blocks := by decide +kernel
  have hT0 := hT
  have hE : kx κ M κ M := kx.refl _ _
  refine lv_iconst (v := 0) hx hb dX4_blocks_0 (by decide) ?_
  refine lv_istore_n (lv' := [(1, .int 0), (0, .ref h0)]) hx hb dX4_blocks_1 rfl hl (by decide) rfl (fun ls hl => ?_)
  refine lv_iconst (v := 0) hx hb dX4_blocks_2 (by decide) ?_
  refine lv_istore_n (lv' := [(2, .int 0), (1, .int 0), (0, .ref h0)]) hx hb dX4_blocks_3 rfl hl (by decide) rfl (fun ls hl => ?_)
  refine W_loop (σ := Nat × Int32) (fun ⟨j1, y2⟩ H locs ls => (j1 < 2147483648) ∧ mm D (AZ z) M H ∧ va_S (AZ z) s.heap H locs ∧ lv_has ls 4 [(2, .int (nI j1)), (1, .int y2), (0, .ref h0)]) (fun ⟨j1, y2⟩ => 2147483648 - j1) (fun ⟨j1, y2⟩ => 0) (fun ⟨j1, y2⟩ => 0) ?_ (0, 0) _ _ _ ⟨(by decide), hm, hS, lv_sub hl [0, 1, 2] rfl⟩
  intro ⟨j1, y2⟩ H locs ls hQ ih4
  obtain ⟨hbj1, hm, hS, hl⟩ := hQ
  try dsimp only at hm hl ih4 hbj1 ⊢
  refine lv_iload_n hx hb dX4_blocks_4 rfl (lv_at hl 0 rfl) ?_
  refine lv_aload_n hx hb dX4_blocks_5 rfl (lv_at hl 2 rfl) ?_
  obtain ⟨v0_3, v1_3, hM_h0_3, hk_v0_3, hn_v1_3⟩ := hT.tree hk_h0
  refine m_get (T := TX4) (N := 2) (ci := 4) (v := .int (nI v1_3)) hx hb hts wX4 hown hK hm hM_h0_3 rfl 1 (by decide) f17 (fun _ h9 => h9) rfl dX4_blocks_6 ?_
  refine lv_icmp_ge (tgt := 35) hx hb dX4_blocks_9 (by decide) (fun c4 => ?_) (fun c4 => ?_)
  · refine lv_iload_n hx hb dX4_blocks_35 rfl (lv_at hl 1 rfl) ?_
    refine W.iret (v := y2) hx hb hr (fun t ht hW => ⟨⟨some (.int y2), _, rfl, ?_, by rw [ht]; exact hm⟩, hS.F ht⟩) hS.2.2 dX4_blocks_36
    exact ⟨⟨_, rfl⟩, rfl⟩
  · refine lv_aload_n hx hb dX4_blocks_12 rfl (lv_at hl 2 rfl) ?_
    refine lv_iload_n hx hb dX4_blocks_13 rfl (lv_at hl 0 rfl) ?_
    refine m_kV (As := [.int (nI j1)]) (rest := []) (rm := { frames := 0, cells := 0, slots := 0, locals := 0 }) ⟨hx, hb, hml, hown, hts⟩ (t_X4_at_I l D k z _ _ h0 (nI j1) hk_h0 hT) (cwV 1 hts gX4_blocks_X4_at rfl rfl rfl (by decide +kernel) ⟨Nat.le_of_ble_eq_true rfl, Nat.le_of_ble_eq_true rfl⟩) (m_recv hK hm (q := (RX4, TX4, 2)) rfl hM_h0_3) hz hcx hm hS rfl hl.1 rfl (Nat.le_of_ble_eq_true rfl) dX4_blocks_14 ⟨Nat.le_of_ble_eq_true rfl, Nat.le_of_ble_eq_true rfl⟩ (fun v M1 H locs hv hm hS => ?_)
    obtain ⟨hv1, hM1⟩ := hv
    rw [hM1] at hm
    rcases hv1 with hv1 | ⟨x5, hv1, hk_x5, hx9⟩
    · subst hv1
      refine W.eq (g2 := F0 m 17 ls [.null]) rfl ?_
      refine W.widen (k := 0) (n := 0) (Nat.le_of_ble_eq_true rfl) (Nat.le_of_ble_eq_true rfl) ?_
      have hm : mm D (AZ z) M H := hm
      refine lv_astore_nN (lv' := [(3, .null), (2, .int (nI j1)), (1, .int y2), (0, .ref h0)]) hx hb dX4_blocks_17 rfl hl (by decide) rfl (fun ls hl => ?_)
      refine lv_aload_nN hx hb dX4_blocks_18 rfl (lv_at hl 0 rfl) ?_
      refine lv_ifnullN (tgt := 29) hx hb dX4_blocks_19 (by decide) ?_
      refine lv_iinc (v := ((nI j1) + 1)) (lv' := [(2, .int ((nI j1) + 1)), (3, .null), (1, .int y2), (0, .ref h0)]) hx hb dX4_blocks_29 hl (k := 1) rfl rfl (by decide) rfl (fun ls hl => ?_)
      refine lv_goto (tgt := 4) hx hb dX4_blocks_32 (by decide) ?_
      rw [nI_1] at hl
      exact ih4 (j1 + 1, y2) _ _ _ ⟨(by first | exact nI_up hbj1 c4 | exact nI_up2 (by decide) hbj1 c4), hm, hS, lv_sub hl [0, 2, 3] rfl⟩ (by show 2147483648 - (j1 + 1) < 2147483648 - j1; omega)
    · subst hv1
      refine W.eq (g2 := F0 m 17 ls [.ref x5]) rfl ?_
      refine W.widen (k := 0) (n := 0) (Nat.le_of_ble_eq_true rfl) (Nat.le_of_ble_eq_true rfl) ?_
      have hm : mm D (AZ z) M H := hm
      refine lv_astore_n (lv' := [(3, .ref x5), (2, .int (nI j1)), (1, .int y2), (0, .ref h0)]) hx hb dX4_blocks_17 rfl hl (by decide) rfl (fun ls hl => ?_)
      refine lv_aload_n hx hb dX4_blocks_18 rfl (lv_at hl 0 rfl) ?_
      refine lv_ifnull hx hb dX4_blocks_19 ?_
      refine lv_iload_n hx hb dX4_blocks_22 rfl (lv_at hl 2 rfl) ?_
      refine lv_aload_n hx hb dX4_blocks_23 rfl (lv_at hl 0 rfl) ?_
      obtain ⟨v0_6, v1_6, v2_6, v3_6, hM_x5_6, hz_v1_6, hk_v3_6⟩ := hT.node hk_x5
      refine m_kV (As := []) (rest := [.int y2]) (rm := { frames := 1, cells := 0, slots := 0, locals := 20 }) ⟨hx, hb, hml, hown, hts⟩ (t_X2_blocks l D k z _ _ x5 hk_x5 hT) (cwV 0 hts gX4_blocks_X2_blocks rfl rfl rfl (by decide +kernel) ⟨Nat.le_of_ble_eq_true rfl, Nat.le_of_ble_eq_true rfl⟩) (m_recv hK hm (q := (RX2, TX2, 4)) rfl hM_x5_6) hz hcx hm hS rfl hl.1 rfl (Nat.le_of_ble_eq_true rfl) dX4_blocks_24 ⟨Nat.le_of_ble_eq_true rfl, Nat.le_of_ble_eq_true rfl⟩ (fun v M1 H locs hv hm hS => ?_)
      obtain ⟨hv1, hM1⟩ := hv
      rw [hM1] at hm
      obtain ⟨w7, hv1⟩ := hv1
      subst hv1
      refine W.eq (g2 := F0 m 27 ls [.int w7, .int y2]) rfl ?_
      refine W.widen (k := 0) (n := 0) (Nat.le_of_ble_eq_true rfl) (Nat.le_of_ble_eq_true rfl) ?_
      have hm : mm D (AZ z) M H := hm
      refine lv_iadd hx hb dX4_blocks_27 ?_
      refine lv_istore_n (lv' := [(1, .int (y2 + w7)), (3, .ref x5), (2, .int (nI j1)), (0, .ref h0)]) hx hb dX4_blocks_28 rfl hl (by decide) rfl (fun ls hl => ?_)
      refine lv_iinc (v := ((nI j1) + 1)) (lv' := [(2, .int ((nI j1) + 1)), (1, .int (y2 + w7)), (3, .ref x5), (0, .ref h0)]) hx hb dX4_blocks_29 hl (k := 2) rfl rfl (by decide) rfl (fun ls hl => ?_)
      refine lv_goto (tgt := 4) hx hb dX4_blocks_32 (by decide) ?_
      rw [nI_1] at hl
      exact ih4 (j1 + 1, (y2 + w7)) _ _ _ ⟨(by first | exact nI_up hbj1 c4 | exact nI_up2 (by decide) hbj1 c4), hm, hS, lv_sub hl [0, 1, 3] rfl⟩ (by show 2147483648 - (j1 + 1) < 2147483648 - j1; omega)

set_option maxHeartbeats 4000000 in
set_option maxRecDepth 100000 in
theorem t_X5_openTransactions (l : Launch) (D : va_G) (k : Nat → ClassId) (z : Nat) (M : mM) (κ : Nat → Option KD) (h0 : Nat) (hk_h0 : κ h0 = some .top) (hT : TM k κ M) : mK l yX5_openTransactions wsX5_openTransactions ({ frames := 0, cells := 0, slots := 0, locals := 0 }) D k z [.ref h0] M (fun v M' => (∃ x, v = some (.int x)) ∧ M' = M) := by
  refine Met.ofW (cc := cX5_openTransactions) (maxL := 4) (ret := (some .int)) (by decide) rfl ?_
  intro p e s m args below meth c s₁ B hml hv
  obtain ⟨rfl, hz, hcx, hm⟩ := hv
  have hx := B.exec
  have hb := B.bytes
  have hr := B.returns
  have hts := atoms_spec (ws := wsX5_openTransactions) B.pre
  have hown : s.vm.findClass RX5 = some m.cls := findClass_of_methodNamed B.named
  have hlocks := B.notSynchronized
  have hK := hcx.1
  have hS : va_S (AZ z) s.heap s.heap [] := va_S.rf
  have hA : ∀ q, s.heap.size ≤ q → AZ z q := fun q h => Nat.le_trans hz h
  have hl := lv_entry ([.ref h0]) (n := 4) (Nat.le_of_ble_eq_true rfl)
  rw [lg_entry_eq]
  generalize (lg_sl ([.ref h0]) ++ List.replicate (4 - (lg_sl ([.ref h0])).length) Slot.unset).toArray = ls at hl ⊢
  have hl : lv_has ls 4 [(0, .ref h0)] := hl
  have f45 := hts (.fieldLink RX5 45 "CommitTree" "transactions" "[LCommitTree$Transaction;") (by decide +kernel)
  have f80 := hts (.fieldLink RX5 80 "CommitTree$Transaction" "open" "Z") (by decide +kernel)
  have wX3 : ∀ w ∈ wsX30, w ∈ wsX5_openTransactions := by decide +kernel
  have wX5 : ∀ w ∈ wsX50, w ∈ wsX5_openTransactions := by decide +kernel
  have hT0 := hT
  have hE : kx κ M κ M := kx.refl _ _
  refine lv_iconst (v := 0) hx hb dX5_openTransactions_0 (by decide) ?_
  refine lv_istore_n (lv' := [(1, .int 0), (0, .ref h0)]) hx hb dX5_openTransactions_1 rfl hl (by decide) rfl (fun ls hl => ?_)
  refine lv_iconst (v := 0) hx hb dX5_openTransactions_2 (by decide) ?_
  refine lv_istore_n (lv' := [(2, .int 0), (1, .int 0), (0, .ref h0)]) hx hb dX5_openTransactions_3 rfl hl (by decide) rfl (fun ls hl => ?_)
  refine W_loop (σ := Nat × Int32) (fun ⟨j1, y2⟩ H locs ls => (j1 < 2147483648) ∧ mm D (AZ z) M H ∧ va_S (AZ z) s.heap H locs ∧ lv_has ls 4 [(2, .int (nI j1)), (1, .int y2), (0, .ref h0)]) (fun ⟨j1, y2⟩ => 2147483648 - j1) (fun ⟨j1, y2⟩ => 0) (fun ⟨j1, y2⟩ => 0) ?_ (0, 0) _ _ _ ⟨(by decide), hm, hS, lv_sub hl [0, 1, 2] rfl⟩
  intro ⟨j1, y2⟩ H locs ls hQ ih4
  obtain ⟨hbj1, hm, hS, hl⟩ := hQ
  try dsimp only at hm hl ih4 hbj1 ⊢
  refine lv_iload_n hx hb dX5_openTransactions_4 rfl (lv_at hl 0 rfl) ?_
  refine lv_aload_n hx hb dX5_openTransactions_5 rfl (lv_at hl 2 rfl) ?_
  obtain ⟨v0_3, v1_3, v2_3, v3_3, v4_3, v5_3, v6_3, v7_3, v8_3, v9_3, v10_3, hM_h0_3, hk_v0_3, hk_v1_3, hk_v2_3, hk_v3_3, hk_v4_3, hk_v5_3, hz_v9_3, hz_v10_3⟩ := hT.top hk_h0
  refine m_get (T := TX5) (N := 11) (ci := 5) (v := .ref v4_3) hx hb hts wX5 hown hK hm hM_h0_3 rfl 4 (by decide) f45 (fun _ h9 => h9) rfl dX5_openTransactions_6 ?_
  obtain ⟨g_4, hM_v4_3_4, hg_4⟩ := hT.txns hk_v4_3
  refine m_alen hx hb hK hm 4 hM_v4_3_4 rfl (v := nI 6) rfl dX5_openTransactions_9 ?_
  refine lv_icmp_ge (tgt := 40) hx hb dX5_openTransactions_10 (by decide) (fun c5 => ?_) (fun c5 => ?_)
  · refine lv_iload_n hx hb dX5_openTransactions_40 rfl (lv_at hl 1 rfl) ?_
    refine W.iret (v := y2) hx hb hr (fun t ht hW => ⟨⟨some (.int y2), _, rfl, ?_, by rw [ht]; exact hm⟩, hS.F ht⟩) hS.2.2 dX5_openTransactions_41
    exact ⟨⟨_, rfl⟩, rfl⟩
  · refine lv_aload_n hx hb dX5_openTransactions_13 rfl (lv_at hl 2 rfl) ?_
    refine m_get (T := TX5) (N := 11) (ci := 5) (v := .ref v4_3) hx hb hts wX5 hown hK hm hM_h0_3 rfl 4 (by decide) f45 (fun _ h9 => h9) rfl dX5_openTransactions_14 ?_
    refine lv_iload_n hx hb dX5_openTransactions_17 rfl (lv_at hl 0 rfl) ?_
    refine m_aald hx hb hK hm 4 hM_v4_3_4 rfl (in_of (i := (nI j1)) (n := 6) (by first | assumption | exact nI_pos (by omega)) (by assumption) (by first | decide | omega)) dX5_openTransactions_18 ?_
    obtain ⟨o6, ho6⟩ : ∃ o9, g_4 ((nI j1)).toNatClampNeg = o9 := ⟨_, rfl⟩
    refine W.eq (g2 := F0 m 19 ls [va_rf o6]) (by rw [ho6]) ?_
    rcases o6 with _ | x7
    · refine W.eq (g2 := F0 m 19 ls [.null]) rfl ?_
      refine lv_astore_nN (lv' := [(3, .null), (2, .int (nI j1)), (1, .int y2), (0, .ref h0)]) hx hb dX5_openTransactions_19 rfl hl (by decide) rfl (fun ls hl => ?_)
      refine lv_aload_nN hx hb dX5_openTransactions_20 rfl (lv_at hl 0 rfl) ?_
      refine lv_ifnullN (tgt := 34) hx hb dX5_openTransactions_21 (by decide) ?_
      refine lv_iinc (v := ((nI j1) + 1)) (lv' := [(2, .int ((nI j1) + 1)), (3, .null), (1, .int y2), (0, .ref h0)]) hx hb dX5_openTransactions_34 hl (k := 1) rfl rfl (by decide) rfl (fun ls hl => ?_)
      refine lv_goto (tgt := 4) hx hb dX5_openTransactions_37 (by decide) ?_
      rw [nI_1] at hl
      exact ih4 (j1 + 1, y2) _ _ _ ⟨(by first | exact nI_up hbj1 c5 | exact nI_up2 (by decide) hbj1 c5), hm, hS, lv_sub hl [0, 2, 3] rfl⟩ (by show 2147483648 - (j1 + 1) < 2147483648 - j1; omega)
    · have hk_x7 := hg_4 _ _ ho6
      refine W.eq (g2 := F0 m 19 ls [.ref x7]) rfl ?_
      refine lv_astore_n (lv' := [(3, .ref x7), (2, .int (nI j1)), (1, .int y2), (0, .ref h0)]) hx hb dX5_openTransactions_19 rfl hl (by decide) rfl (fun ls hl => ?_)
      refine lv_aload_n hx hb dX5_openTransactions_20 rfl (lv_at hl 0 rfl) ?_
      refine lv_ifnull hx hb dX5_openTransactions_21 ?_
      refine lv_aload_n hx hb dX5_openTransactions_24 rfl (lv_at hl 0 rfl) ?_
      obtain ⟨v0_8, v1_8, v2_8, v3_8, v4_8, v5_8, v6_8, hM_x7_8, hk_v0_8, hk_v1_8, hk_v2_8, hk_v3_8, hk_v4_8, hz_v5_8⟩ := hT.txn hk_x7
      rcases hz_v5_8 with h9 | h9
      · subst h9
        refine m_get (T := TX3) (N := 7) (ci := 3) (v := .int 0) hx hb hts wX3 hown hK hm hM_x7_8 rfl 5 (by decide) f80 (fun _ h9 => h9) rfl dX5_openTransactions_25 ?_
        refine lv_if_eq (tgt := 34) hx hb dX5_openTransactions_28 (by decide) (fun c9 => ?_) (fun c9 => ?_)
        · refine lv_iinc (v := ((nI j1) + 1)) (lv' := [(2, .int ((nI j1) + 1)), (3, .ref x7), (1, .int y2), (0, .ref h0)]) hx hb dX5_openTransactions_34 hl (k := 1) rfl rfl (by decide) rfl (fun ls hl => ?_)
          refine lv_goto (tgt := 4) hx hb dX5_openTransactions_37 (by decide) ?_
          rw [nI_1] at hl
          exact ih4 (j1 + 1, y2) _ _ _ ⟨(by first | exact nI_up hbj1 c5 | exact nI_up2 (by decide) hbj1 c5), hm, hS, lv_sub hl [0, 2, 3] rfl⟩ (by show 2147483648 - (j1 + 1) < 2147483648 - j1; omega)
        · first | exact absurd c9 (by decide) | exact absurd (by decide) c9
      · subst h9
        refine m_get (T := TX3) (N := 7) (ci := 3) (v := .int 1) hx hb hts wX3 hown hK hm hM_x7_8 rfl 5 (by decide) f80 (fun _ h9 => h9) rfl dX5_openTransactions_25 ?_
        refine lv_if_eq (tgt := 34) hx hb dX5_openTransactions_28 (by decide) (fun c10 => ?_) (fun c10 => ?_)
        · first | exact absurd c10 (by decide) | exact absurd (by decide) c10
        · refine lv_iinc (v := (y2 + 1)) (lv' := [(1, .int (y2 + 1)), (3, .ref x7), (2, .int (nI j1)), (0, .ref h0)]) hx hb dX5_openTransactions_31 hl (k := 2) rfl rfl (by decide) rfl (fun ls hl => ?_)
          refine lv_iinc (v := ((nI j1) + 1)) (lv' := [(2, .int ((nI j1) + 1)), (1, .int (y2 + 1)), (3, .ref x7), (0, .ref h0)]) hx hb dX5_openTransactions_34 hl (k := 2) rfl rfl (by decide) rfl (fun ls hl => ?_)
          refine lv_goto (tgt := 4) hx hb dX5_openTransactions_37 (by decide) ?_
          rw [nI_1] at hl
          exact ih4 (j1 + 1, (y2 + 1)) _ _ _ ⟨(by first | exact nI_up hbj1 c5 | exact nI_up2 (by decide) hbj1 c5), hm, hS, lv_sub hl [0, 1, 3] rfl⟩ (by show 2147483648 - (j1 + 1) < 2147483648 - j1; omega)

set_option maxHeartbeats 4000000 in
set_option maxRecDepth 100000 in
theorem t_X5_count_I (l : Launch) (hlt : l.stackTraces = false) (D : va_G) (k : Nat → ClassId) (z : Nat) (M : mM) (κ : Nat → Option KD) (h0 : Nat) (a0 : Int32) (hk_h0 : κ h0 = some .top) (hT : TM k κ M) : mC l yX5_count wsX5_count ({ frames := 6, cells := 1, slots := 6, locals := 82 }) D k z [.ref h0, .int a0] M (fun v M' => (∃ x, v = some (.int x)) ∧ M' = M) (fun E M' => E ∈ (["java/lang/IllegalArgumentException"] : List String) ∧ ∃ κ', TM k κ' M' ∧ kx κ M κ' M') := by
  refine vx_ofW (cc := cX5_count) (maxL := 2) (ret := (some .int)) (by decide) rfl ?_
  intro p e s m args below meth c s₁ B hml hnt hv
  obtain ⟨rfl, hz, hcx, hm⟩ := hv
  have hx := B.exec
  have hb := B.bytes
  have hr := B.returns
  have hts := atoms_spec (ws := wsX5_count) B.pre
  have hown : s.vm.findClass RX5 = some m.cls := findClass_of_methodNamed B.named
  have hlocks := B.notSynchronized
  have hK := hcx.1
  have hS : va_S (AZ z) s.heap s.heap [] := va_S.rf
  have hA : ∀ q, s.heap.size ≤ q → AZ z q := fun q h => Nat.le_trans hz h
  have hl := lv_entry ([.ref h0, .int a0]) (n := 2) (Nat.le_of_ble_eq_true rfl)
  rw [lg_entry_eq]
  generalize (lg_sl ([.ref h0, .int a0]) ++ List.replicate (2 - (lg_sl ([.ref h0, .int a0])).length) Slot.unset).toArray = ls at hl ⊢
  have hl : lv_has ls 2 [(0, .ref h0), (1, .int a0)] := hl
  have f10 := hts (.fieldLink RX5 10 "CommitTree" "tree" "LCommitTree$Tree;") (by decide +kernel)
  have f39 := hts (.fieldLink RX5 39 "CommitTree" "disk" "LCommitTree$Disk;") (by decide +kernel)
  have f60 := hts (.fieldLink RX5 60 "CommitTree" "committed" "I") (by decide +kernel)
  have f66 := hts (.fieldLink RX5 66 "CommitTree" "down" "Z") (by decide +kernel)
  have f131 := hts (.fieldLink RX5 131 "CommitTree$Tree" "size" "I") (by decide +kernel)
  have f257 := hts (.fieldLink RX5 257 "CommitTree$Disk" "written" "I") (by decide +kernel)
  have wX0 : ∀ w ∈ wsX00, w ∈ wsX5_count := by decide +kernel
  have wX4 : ∀ w ∈ wsX40, w ∈ wsX5_count := by decide +kernel
  have wX5 : ∀ w ∈ wsX50, w ∈ wsX5_count := by decide +kernel
  have hT0 := hT
  have hE : kx κ M κ M := kx.refl _ _
  refine lv_iload_n hx hb dX5_count_0 rfl (lv_at hl 1 rfl) ?_
  rcases (show ((a0).toInt < 0 ∨ 5 < (a0).toInt) ∨ (a0).toInt = 0 ∨ (a0).toInt = 1 ∨ (a0).toInt = 2 ∨ (a0).toInt = 3 ∨ (a0).toInt = 4 ∨ (a0).toInt = 5 by omega) with c1 | c1 | c1 | c1 | c1 | c1 | c1
  · refine lv_tableOut (tgt := 87) hx hb dX5_count_1 c1 (by decide) ?_
    obtain ⟨sa, hsa⟩ := hcx.2.2.1 (239, "no such what") (by decide)
    refine vx_throwS (own := RX5) (cls := "java/lang/IllegalArgumentException") (text := "no such what") (names := ["java/lang/RuntimeException", "java/lang/Exception"]) (ik := 175) (is := 239) (ic := 179) (A := AZ z) hx hb hlt hown (by decide) (by decide) (hts (.classLink RX5 175 "java/lang/IllegalArgumentException") (by decide +kernel)) (hts (.initialized "java/lang/IllegalArgumentException") (by decide +kernel)) hsa (vx_hat (B := DW) (fun w h => hts w (List.mem_cons_of_mem _ (List.mem_append_right _ h))) (by decide +kernel) (hcx.dw _)) (by decide +kernel) hcx.2.1.1 hcx.2.1.2 hS (hl.1.trans hml.symm) dX5_count_87 dX5_count_90 dX5_count_91 dX5_count_93 dX5_count_96 (fun x hx => (hnt x hx).elim) (Nat.le_of_ble_eq_true rfl) (Nat.le_of_ble_eq_true rfl) (Nat.le_of_ble_eq_true rfl) (Nat.le_of_ble_eq_true rfl) hlocks (fun t hvm hz1 hq => ⟨⟨_, ?_, hm.kept hq⟩, ⟨Nat.le_trans hS.1 hz1, fun q h1 h2 => (hq q (Nat.lt_of_lt_of_le h1 hS.1)).trans (hS.2.1 q h1 h2)⟩⟩) hS.2.2 (Nat.le_of_ble_eq_true rfl) (Nat.le_of_ble_eq_true rfl)
    exact ⟨by simp, _, hT, hE⟩
  · refine lv_tableIn (off := 39) (tgt := 40) hx hb dX5_count_1 (by omega) (by omega) (by rw [c1]; rfl) (by decide) ?_
    refine lv_aload_n hx hb dX5_count_40 rfl (lv_at hl 0 rfl) ?_
    obtain ⟨v0_2, v1_2, v2_2, v3_2, v4_2, v5_2, v6_2, v7_2, v8_2, v9_2, v10_2, hM_h0_2, hk_v0_2, hk_v1_2, hk_v2_2, hk_v3_2, hk_v4_2, hk_v5_2, hz_v9_2, hz_v10_2⟩ := hT.top hk_h0
    refine m_get (T := TX5) (N := 11) (ci := 5) (v := .int v7_2) hx hb hts wX5 hown hK hm hM_h0_2 rfl 7 (by decide) f60 (fun _ h9 => h9) rfl dX5_count_41 ?_
    refine W.widen (k := 1) (n := 6) (by omega) (by omega) ?_
    refine vx_ret ?_
    refine W.iret (v := v7_2) hx hb hr (fun t ht hW => ⟨⟨some (.int v7_2), _, rfl, ?_, by rw [ht]; exact hm⟩, hS.F ht⟩) hS.2.2 dX5_count_44
    exact ⟨⟨_, rfl⟩, rfl⟩
  · refine lv_tableIn (off := 44) (tgt := 45) hx hb dX5_count_1 (by omega) (by omega) (by rw [c1]; rfl) (by decide) ?_
    refine lv_aload_n hx hb dX5_count_45 rfl (lv_at hl 0 rfl) ?_
    obtain ⟨v0_3, v1_3, v2_3, v3_3, v4_3, v5_3, v6_3, v7_3, v8_3, v9_3, v10_3, hM_h0_3, hk_v0_3, hk_v1_3, hk_v2_3, hk_v3_3, hk_v4_3, hk_v5_3, hz_v9_3, hz_v10_3⟩ := hT.top hk_h0
    refine m_get (T := TX5) (N := 11) (ci := 5) (v := .ref v0_3) hx hb hts wX5 hown hK hm hM_h0_3 rfl 0 (by decide) f10 (fun _ h9 => h9) rfl dX5_count_46 ?_
    obtain ⟨v0_4, v1_4, hM_v0_3_4, hk_v0_4, hn_v1_4⟩ := hT.tree hk_v0_3
    refine m_get (T := TX4) (N := 2) (ci := 4) (v := .int (nI v1_4)) hx hb hts wX4 hown hK hm hM_v0_3_4 rfl 1 (by decide) f131 (fun _ h9 => h9) rfl dX5_count_49 ?_
    refine W.widen (k := 1) (n := 6) (by omega) (by omega) ?_
    refine vx_ret ?_
    refine W.iret (v := (nI v1_4)) hx hb hr (fun t ht hW => ⟨⟨some (.int (nI v1_4)), _, rfl, ?_, by rw [ht]; exact hm⟩, hS.F ht⟩) hS.2.2 dX5_count_52
    exact ⟨⟨_, rfl⟩, rfl⟩
  · refine lv_tableIn (off := 52) (tgt := 53) hx hb dX5_count_1 (by omega) (by omega) (by rw [c1]; rfl) (by decide) ?_
    refine lv_aload_n hx hb dX5_count_53 rfl (lv_at hl 0 rfl) ?_
    obtain ⟨v0_5, v1_5, v2_5, v3_5, v4_5, v5_5, v6_5, v7_5, v8_5, v9_5, v10_5, hM_h0_5, hk_v0_5, hk_v1_5, hk_v2_5, hk_v3_5, hk_v4_5, hk_v5_5, hz_v9_5, hz_v10_5⟩ := hT.top hk_h0
    refine m_get (T := TX5) (N := 11) (ci := 5) (v := .ref v0_5) hx hb hts wX5 hown hK hm hM_h0_5 rfl 0 (by decide) f10 (fun _ h9 => h9) rfl dX5_count_54 ?_
    obtain ⟨v0_6, v1_6, hM_v0_5_6, hk_v0_6, hn_v1_6⟩ := hT.tree hk_v0_5
    refine m_kV (As := []) (rest := []) (rm := { frames := 2, cells := 0, slots := 0, locals := 40 }) ⟨hx, hb, hml, hown, hts⟩ (t_X4_blocks l D k z _ _ v0_5 hk_v0_5 hT) (cwV 0 hts gX5_count_X4_blocks rfl rfl rfl (by decide +kernel) ⟨Nat.le_of_ble_eq_true rfl, Nat.le_of_ble_eq_true rfl⟩) (m_recv hK hm (q := (RX4, TX4, 2)) rfl hM_v0_5_6) hz hcx hm hS rfl hl.1 rfl (Nat.le_of_ble_eq_true rfl) dX5_count_57 ⟨Nat.le_of_ble_eq_true rfl, Nat.le_of_ble_eq_true rfl⟩ (fun v M1 H locs hv hm hS => ?_)
    obtain ⟨hv1, hM1⟩ := hv
    rw [hM1] at hm
    obtain ⟨w7, hv1⟩ := hv1
    subst hv1
    refine W.eq (g2 := F0 m 60 ls [.int w7]) rfl ?_
    refine W.widen (k := 0) (n := 0) (Nat.le_of_ble_eq_true rfl) (Nat.le_of_ble_eq_true rfl) ?_
    have hm : mm D (AZ z) M H := hm
    refine W.widen (k := 1) (n := 6) (by omega) (by omega) ?_
    refine vx_ret ?_
    refine W.iret (v := w7) hx hb hr (fun t ht hW => ⟨⟨some (.int w7), _, rfl, ?_, by rw [ht]; exact hm⟩, hS.F ht⟩) hS.2.2 dX5_count_60
    exact ⟨⟨_, rfl⟩, rfl⟩
  · refine lv_tableIn (off := 60) (tgt := 61) hx hb dX5_count_1 (by omega) (by omega) (by rw [c1]; rfl) (by decide) ?_
    refine lv_aload_n hx hb dX5_count_61 rfl (lv_at hl 0 rfl) ?_
    obtain ⟨v0_8, v1_8, v2_8, v3_8, v4_8, v5_8, v6_8, v7_8, v8_8, v9_8, v10_8, hM_h0_8, hk_v0_8, hk_v1_8, hk_v2_8, hk_v3_8, hk_v4_8, hk_v5_8, hz_v9_8, hz_v10_8⟩ := hT.top hk_h0
    refine m_kV (As := []) (rest := []) (rm := { frames := 0, cells := 0, slots := 0, locals := 0 }) ⟨hx, hb, hml, hown, hts⟩ (t_X5_openTransactions l D k z _ _ h0 hk_h0 hT) (cwV 0 hts gX5_count_X5_openTransactions rfl rfl rfl (by decide +kernel) ⟨Nat.le_of_ble_eq_true rfl, Nat.le_of_ble_eq_true rfl⟩) (m_recv hK hm (q := (RX5, TX5, 11)) rfl hM_h0_8) hz hcx hm hS rfl hl.1 rfl (Nat.le_of_ble_eq_true rfl) dX5_count_62 ⟨Nat.le_of_ble_eq_true rfl, Nat.le_of_ble_eq_true rfl⟩ (fun v M1 H locs hv hm hS => ?_)
    obtain ⟨hv1, hM1⟩ := hv
    rw [hM1] at hm
    obtain ⟨w9, hv1⟩ := hv1
    subst hv1
    refine W.eq (g2 := F0 m 65 ls [.int w9]) rfl ?_
    refine W.widen (k := 0) (n := 0) (Nat.le_of_ble_eq_true rfl) (Nat.le_of_ble_eq_true rfl) ?_
    have hm : mm D (AZ z) M H := hm
    refine W.widen (k := 1) (n := 6) (by omega) (by omega) ?_
    refine vx_ret ?_
    refine W.iret (v := w9) hx hb hr (fun t ht hW => ⟨⟨some (.int w9), _, rfl, ?_, by rw [ht]; exact hm⟩, hS.F ht⟩) hS.2.2 dX5_count_65
    exact ⟨⟨_, rfl⟩, rfl⟩
  · refine lv_tableIn (off := 65) (tgt := 66) hx hb dX5_count_1 (by omega) (by omega) (by rw [c1]; rfl) (by decide) ?_
    refine lv_aload_n hx hb dX5_count_66 rfl (lv_at hl 0 rfl) ?_
    obtain ⟨v0_10, v1_10, v2_10, v3_10, v4_10, v5_10, v6_10, v7_10, v8_10, v9_10, v10_10, hM_h0_10, hk_v0_10, hk_v1_10, hk_v2_10, hk_v3_10, hk_v4_10, hk_v5_10, hz_v9_10, hz_v10_10⟩ := hT.top hk_h0
    rcases hz_v9_10 with h9 | h9
    · subst h9
      refine m_get (T := TX5) (N := 11) (ci := 5) (v := .int 0) hx hb hts wX5 hown hK hm hM_h0_10 rfl 9 (by decide) f66 (fun _ h9 => h9) rfl dX5_count_67 ?_
      refine lv_if_eq (tgt := 77) hx hb dX5_count_70 (by decide) (fun c11 => ?_) (fun c11 => ?_)
      · refine lv_iconst (v := 0) hx hb dX5_count_77 (by decide) ?_
        refine W.widen (k := 1) (n := 6) (by omega) (by omega) ?_
        refine vx_ret ?_
        refine W.iret (v := 0) hx hb hr (fun t ht hW => ⟨⟨some (.int 0), _, rfl, ?_, by rw [ht]; exact hm⟩, hS.F ht⟩) hS.2.2 dX5_count_78
        exact ⟨⟨_, rfl⟩, rfl⟩
      · first | exact absurd c11 (by decide) | exact absurd (by decide) c11
    · subst h9
      refine m_get (T := TX5) (N := 11) (ci := 5) (v := .int 1) hx hb hts wX5 hown hK hm hM_h0_10 rfl 9 (by decide) f66 (fun _ h9 => h9) rfl dX5_count_67 ?_
      refine lv_if_eq (tgt := 77) hx hb dX5_count_70 (by decide) (fun c12 => ?_) (fun c12 => ?_)
      · first | exact absurd c12 (by decide) | exact absurd (by decide) c12
      · refine lv_iconst (v := 1) hx hb dX5_count_73 (by decide) ?_
        refine lv_goto (tgt := 78) hx hb dX5_count_74 (by decide) ?_
        refine W.widen (k := 1) (n := 6) (by omega) (by omega) ?_
        refine vx_ret ?_
        refine W.iret (v := 1) hx hb hr (fun t ht hW => ⟨⟨some (.int 1), _, rfl, ?_, by rw [ht]; exact hm⟩, hS.F ht⟩) hS.2.2 dX5_count_78
        exact ⟨⟨_, rfl⟩, rfl⟩
  · refine lv_tableIn (off := 78) (tgt := 79) hx hb dX5_count_1 (by omega) (by omega) (by rw [c1]; rfl) (by decide) ?_
    refine lv_aload_n hx hb dX5_count_79 rfl (lv_at hl 0 rfl) ?_
    obtain ⟨v0_13, v1_13, v2_13, v3_13, v4_13, v5_13, v6_13, v7_13, v8_13, v9_13, v10_13, hM_h0_13, hk_v0_13, hk_v1_13, hk_v2_13, hk_v3_13, hk_v4_13, hk_v5_13, hz_v9_13, hz_v10_13⟩ := hT.top hk_h0
    refine m_get (T := TX5) (N := 11) (ci := 5) (v := .ref v3_13) hx hb hts wX5 hown hK hm hM_h0_13 rfl 3 (by decide) f39 (fun _ h9 => h9) rfl dX5_count_80 ?_
    obtain ⟨v0_14, v1_14, hM_v3_13_14⟩ := hT.disk hk_v3_13
    refine m_get (T := TX0) (N := 2) (ci := 0) (v := .int v0_14) hx hb hts wX0 hown hK hm hM_v3_13_14 rfl 0 (by decide) f257 (fun _ h9 => h9) rfl dX5_count_83 ?_
    refine W.widen (k := 1) (n := 6) (by omega) (by omega) ?_
    refine vx_ret ?_
    refine W.iret (v := v0_14) hx hb hr (fun t ht hW => ⟨⟨some (.int v0_14), _, rfl, ?_, by rw [ht]; exact hm⟩, hS.F ht⟩) hS.2.2 dX5_count_86
    exact ⟨⟨_, rfl⟩, rfl⟩

set_option maxHeartbeats 4000000 in
set_option maxRecDepth 100000 in
theorem i_X4_init (l : Launch) (D : va_G) (k : Nat → ClassId) (z : Nat) (M : mM) (κ : Nat → Option KD) (h0 : Nat)  (ho : M h0 = some (.inr (4, [.null, .int 0]))) (hko : κ h0 = none) (hT : TM k κ M) : mK l yX4_init wsX4_init ({ frames := 1, cells := 1, slots := 60, locals := 12 }) D k z [.ref h0] M (fun v M' => v = none ∧ ∃ κ', TM k κ' M' ∧ kx κ (mdel M h0) κ' M' ∧ κ' h0 = some .tree) := by
  refine Met.ofW (cc := cX4_init) (maxL := 1) (ret := none) (by decide) rfl ?_
  intro p e s m args below meth c s₁ B hml hv
  obtain ⟨rfl, hz, hcx, hm⟩ := hv
  have hx := B.exec
  have hb := B.bytes
  have hr := B.returns
  have hts := atoms_spec (ws := wsX4_init) B.pre
  have hown : s.vm.findClass RX4 = some m.cls := findClass_of_methodNamed B.named
  have hlocks := B.notSynchronized
  have hK := hcx.1
  have hS : va_S (AZ z) s.heap s.heap [] := va_S.rf
  have hA : ∀ q, s.heap.size ≤ q → AZ z q := fun q h => Nat.le_trans hz h
  have hin : meth.name = "<init>" := (name_of_methodNamed B.named B.method).1
  have hl := lv_entry ([.ref h0]) (n := 1) (Nat.le_of_ble_eq_true rfl)
  rw [lg_entry_eq]
  generalize (lg_sl ([.ref h0]) ++ List.replicate (1 - (lg_sl ([.ref h0])).length) Slot.unset).toArray = ls at hl ⊢
  have hl : lv_has ls 1 [(0, .ref h0)] := hl
  have f11 := hts (.fieldLink RX4 11 "CommitTree$Tree" "nodes" "[LCommitTree$Node;") (by decide +kernel)
  have f17 := hts (.fieldLink RX4 17 "CommitTree$Tree" "size" "I") (by decide +kernel)
  have wX4 : ∀ w ∈ wsX40, w ∈ wsX4_init := by decide +kernel
  have hT0 : TM k κ (mdel M h0) := hT.del hko
  have hE : kx κ (mdel M h0) κ M := kx.del0 _ _ _
  have hk0_h0 := hko
  have hz0_h0 : mdel M h0 h0 = none := if_pos rfl
  refine lv_aload_n hx hb dX4_init_0 rfl (lv_at hl 0 rfl) ?_
  refine W.objInit hx hb hown (hts (.methodLink RX4 3 objectInit) (by decide +kernel)) (hts (.instanceMethod objectInit) (by decide +kernel)) (hts (.code objectInit ⟨#[0xb1]⟩ 1 none) (by decide +kernel)) rfl (by rw [hml]; exact hl.1) rfl dX4_init_1 (Nat.le_of_ble_eq_true rfl) (Nat.le_of_ble_eq_true rfl) ?_
  refine W.eq (g2 := F0 m 4 ls []) rfl ?_
  refine lv_aload_n hx hb dX4_init_4 rfl (lv_at hl 0 rfl) ?_
  refine lv_bipush (v := 60) hx hb dX4_init_5 (by decide) ?_
  refine m_newq hx hb hown (hts (.classLink RX4 9 RX2) (by decide +kernel)) hcx.2.2.2.1.1.1 hK 3 rfl hm hS hA (N' := 60) (by decide) rfl (by decide) (Nat.le_of_ble_eq_true rfl) (Nat.le_of_ble_eq_true rfl) dX4_init_7 (fun q1 H hq1 hm hS => ?_)
  refine W.widen (k := 1) (n := 60) (Nat.le_of_ble_eq_true rfl) (Nat.le_of_ble_eq_true rfl) ?_
  have ne_h0_q1 : h0 ≠ q1 := m_fr hq1 ho
  have hm : mm D (AZ z) (mu M q1 (.inl (k 3, 60, .inr (.inr (.inr (.inr (fun _ => none))))))) H := hm
  have hz0_q1 := hE.no hT0 hT hq1
  have hk0_q1 := hT.no hq1
  have hR_2 : (mu M q1 (.inl (k 3, 60, .inr (.inr (.inr (.inr (fun _ => none))))))) h0 = _ := (mu_ne (m_fr hq1 ho)).trans ho
  have hM_q1 : (mu M q1 (.inl (k 3, 60, .inr (.inr (.inr (.inr (fun _ => none))))))) q1 = _ := mu_self _ _ _
  have hT : TM k κ (mu M q1 (.inl (k 3, 60, .inr (.inr (.inr (.inr (fun _ => none))))))) := hT.new0 hq1
  have hE : kx κ (mdel M h0) κ (mu M q1 (.inl (k 3, 60, .inr (.inr (.inr (.inr (fun _ => none))))))) := hE.new0 hq1
  generalize (mu M q1 (.inl (k 3, 60, .inr (.inr (.inr (.inr (fun _ => none))))))) = Mc1 at hm hT hE hR_2 hM_q1
  have hT9 : TM k (kup κ q1 .rows) Mc1 := hT.adopt hk0_q1 hM_q1 (show wf k (kup κ q1 .rows) .rows _ from ⟨(fun _ => none), rfl, fun _ _ h9 => by cases h9⟩)
  have hE : kx κ (mdel M h0) (kup κ q1 .rows) Mc1 := hE.adopt hz0_q1
  have hT := hT9
  have hk_q1 : kup κ q1 .rows q1 = some .rows := kup_self _ _ _
  have hk0_h0 : kup κ q1 .rows h0 = none := (if_neg ne_h0_q1).trans hk0_h0
  generalize kup κ q1 .rows = κ2 at hT hE hk_q1 hk0_h0
  refine m_putF (T := TX4) (N := 2) (ci := 4) (v := .ref q1) (ty := .array (.object "CommitTree$Node")) hx hb hts wX4 tyX4 tyX4_ok nmX4 hown hK hm hS hR_2 rfl 0 (by decide) f11 (fun _ h9 => h9) rfl hin rfl (by decide +kernel) rfl rfl (Nat.le_of_ble_eq_true rfl) dX4_init_10 (fun H locs hm hS => ?_)
  have hm : mm D (AZ z) (mu Mc1 h0 (.inr (4, [.ref q1, .int 0]))) H := hm
  have hT : TM k κ2 (mu Mc1 h0 (.inr (4, [.ref q1, .int 0]))) := fun b9 d9 hb9 => by
    obtain ⟨e9, h9, h8⟩ := hT b9 d9 hb9
    exact ⟨e9, (mu_ne (fun q9 => by rw [q9, hk0_h0] at hb9; cases hb9)).trans h9, h8⟩
  have hE : kx κ (mdel M h0) κ2 (mu Mc1 h0 (.inr (4, [.ref q1, .int 0]))) := ⟨hE.1, fun b9 e9 hb9 hn9 => (mu_ne (m_fr hz0_h0 hb9)).trans (hE.2 b9 e9 hb9 hn9)⟩
  have hM_h0 : (mu Mc1 h0 (.inr (4, [.ref q1, .int 0]))) h0 = _ := mu_self _ _ _
  generalize (mu Mc1 h0 (.inr (4, [.ref q1, .int 0]))) = Mc3 at hm hT hE hM_h0
  refine lv_aload_n hx hb dX4_init_13 rfl (lv_at hl 0 rfl) ?_
  refine lv_iconst (v := 0) hx hb dX4_init_14 (by decide) ?_
  refine m_put (T := TX4) (N := 2) (ci := 4) (v := .int 0) (ty := .int) hx hb hts wX4 tyX4 tyX4_ok nmX4 hown hK hm hS hM_h0 rfl 1 (by decide) f17 (fun _ h9 => h9) rfl (by decide +kernel) rfl rfl (Nat.le_of_ble_eq_true rfl) dX4_init_15 (fun H locs hm hS => ?_)
  have hm : mm D (AZ z) (mu Mc3 h0 (.inr (4, [.ref q1, .int 0]))) H := hm
  have hT : TM k κ2 (mu Mc3 h0 (.inr (4, [.ref q1, .int 0]))) := fun b9 d9 hb9 => by
    obtain ⟨e9, h9, h8⟩ := hT b9 d9 hb9
    exact ⟨e9, (mu_ne (fun q9 => by rw [q9, hk0_h0] at hb9; cases hb9)).trans h9, h8⟩
  have hE : kx κ (mdel M h0) κ2 (mu Mc3 h0 (.inr (4, [.ref q1, .int 0]))) := ⟨hE.1, fun b9 e9 hb9 hn9 => (mu_ne (m_fr hz0_h0 hb9)).trans (hE.2 b9 e9 hb9 hn9)⟩
  have hM_h0 : (mu Mc3 h0 (.inr (4, [.ref q1, .int 0]))) h0 = _ := mu_self _ _ _
  generalize (mu Mc3 h0 (.inr (4, [.ref q1, .int 0]))) = Mc4 at hm hT hE hM_h0
  have hk_old := hk0_h0
  have hk_q1 := kup_old (d := .tree) hk0_h0 hk_q1
  have hT : TM k (kup κ2 h0 .tree) Mc4 := hT.adopt hk0_h0 hM_h0 (show wf k (kup κ2 h0 .tree) .tree _ from ⟨q1, 0, rfl, hk_q1, (by decide)⟩)
  have hE : kx κ (mdel M h0) (kup κ2 h0 .tree) Mc4 := hE.adopt hz0_h0
  have hk_h0 : kup κ2 h0 .tree h0 = some .tree := kup_self _ _ _
  generalize kup κ2 h0 .tree = κ5 at hT hE hk_q1 hk_h0
  refine W.vret hx hb hr (fun t ht hW => ⟨⟨none, _, rfl, ?_, by rw [ht]; exact hm⟩, hS.F ht⟩) hS.2.2 dX4_init_18
  exact ⟨rfl, _, hT, hE, hk_h0⟩

set_option maxHeartbeats 4000000 in
set_option maxRecDepth 100000 in
theorem i_X1_init (l : Launch) (D : va_G) (k : Nat → ClassId) (z : Nat) (M : mM) (κ : Nat → Option KD) (h0 : Nat)  (ho : M h0 = some (.inr (1, [.int 0, .int 0, .int 0, .int 0, .null, .null]))) (hko : κ h0 = none) (hT : TM k κ M) : mK l yX1_init wsX1_init ({ frames := 3, cells := 4, slots := 88, locals := 61 }) D k z [.ref h0] M (fun v M' => v = none ∧ ∃ κ', TM k κ' M' ∧ kx κ (mdel M h0) κ' M' ∧ κ' h0 = some .merge) := by
  refine Met.ofW (cc := cX1_init) (maxL := 1) (ret := none) (by decide) rfl ?_
  intro p e s m args below meth c s₁ B hml hv
  obtain ⟨rfl, hz, hcx, hm⟩ := hv
  have hx := B.exec
  have hb := B.bytes
  have hr := B.returns
  have hts := atoms_spec (ws := wsX1_init) B.pre
  have hown : s.vm.findClass RX1 = some m.cls := findClass_of_methodNamed B.named
  have hlocks := B.notSynchronized
  have hK := hcx.1
  have hS : va_S (AZ z) s.heap s.heap [] := va_S.rf
  have hA : ∀ q, s.heap.size ≤ q → AZ z q := fun q h => Nat.le_trans hz h
  have hin : meth.name = "<init>" := (name_of_methodNamed B.named B.method).1
  have hl := lv_entry ([.ref h0]) (n := 1) (Nat.le_of_ble_eq_true rfl)
  rw [lg_entry_eq]
  generalize (lg_sl ([.ref h0]) ++ List.replicate (1 - (lg_sl ([.ref h0])).length) Slot.unset).toArray = ls at hl ⊢
  have hl : lv_has ls 1 [(0, .ref h0)] := hl
  have f9 := hts (.fieldLink RX1 9 "CommitTree$Merge" "items" "I") (by decide +kernel)
  have f15 := hts (.fieldLink RX1 15 "CommitTree$Merge" "nodes" "I") (by decide +kernel)
  have f18 := hts (.fieldLink RX1 18 "CommitTree$Merge" "blocks" "I") (by decide +kernel)
  have f21 := hts (.fieldLink RX1 21 "CommitTree$Merge" "home" "I") (by decide +kernel)
  have f30 := hts (.fieldLink RX1 30 "CommitTree$Merge" "noDirectory" "LCommitTree$Node;") (by decide +kernel)
  have f34 := hts (.fieldLink RX1 34 "CommitTree$Merge" "noFile" "LCommitTree$Node;") (by decide +kernel)
  have wX1 : ∀ w ∈ wsX10, w ∈ wsX1_init := by decide +kernel
  have hT0 : TM k κ (mdel M h0) := hT.del hko
  have hE : kx κ (mdel M h0) κ M := kx.del0 _ _ _
  have hk0_h0 := hko
  have hz0_h0 : mdel M h0 h0 = none := if_pos rfl
  refine lv_aload_n hx hb dX1_init_0 rfl (lv_at hl 0 rfl) ?_
  refine W.objInit hx hb hown (hts (.methodLink RX1 3 objectInit) (by decide +kernel)) (hts (.instanceMethod objectInit) (by decide +kernel)) (hts (.code objectInit ⟨#[0xb1]⟩ 1 none) (by decide +kernel)) rfl (by rw [hml]; exact hl.1) rfl dX1_init_1 (Nat.le_of_ble_eq_true rfl) (Nat.le_of_ble_eq_true rfl) ?_
  refine W.eq (g2 := F0 m 4 ls []) rfl ?_
  refine lv_aload_n hx hb dX1_init_4 rfl (lv_at hl 0 rfl) ?_
  refine lv_iconst (v := 0) hx hb dX1_init_5 (by decide) ?_
  refine m_put (T := TX1) (N := 6) (ci := 1) (v := .int 0) (ty := .int) hx hb hts wX1 tyX1 tyX1_ok nmX1 hown hK hm hS ho rfl 0 (by decide) f9 (fun _ h9 => h9) rfl (by decide +kernel) rfl rfl (Nat.le_of_ble_eq_true rfl) dX1_init_6 (fun H locs hm hS => ?_)
  have hm : mm D (AZ z) (mu M h0 (.inr (1, [.int 0, .int 0, .int 0, .int 0, .null, .null]))) H := hm
  have hT : TM k κ (mu M h0 (.inr (1, [.int 0, .int 0, .int 0, .int 0, .null, .null]))) := fun b9 d9 hb9 => by
    obtain ⟨e9, h9, h8⟩ := hT b9 d9 hb9
    exact ⟨e9, (mu_ne (fun q9 => by rw [q9, hk0_h0] at hb9; cases hb9)).trans h9, h8⟩
  have hE : kx κ (mdel M h0) κ (mu M h0 (.inr (1, [.int 0, .int 0, .int 0, .int 0, .null, .null]))) := ⟨hE.1, fun b9 e9 hb9 hn9 => (mu_ne (m_fr hz0_h0 hb9)).trans (hE.2 b9 e9 hb9 hn9)⟩
  have hM_h0 : (mu M h0 (.inr (1, [.int 0, .int 0, .int 0, .int 0, .null, .null]))) h0 = _ := mu_self _ _ _
  generalize (mu M h0 (.inr (1, [.int 0, .int 0, .int 0, .int 0, .null, .null]))) = Mc1 at hm hT hE hM_h0
  refine lv_aload_n hx hb dX1_init_9 rfl (lv_at hl 0 rfl) ?_
  refine lv_iconst (v := 0) hx hb dX1_init_10 (by decide) ?_
  refine m_put (T := TX1) (N := 6) (ci := 1) (v := .int 0) (ty := .int) hx hb hts wX1 tyX1 tyX1_ok nmX1 hown hK hm hS hM_h0 rfl 1 (by decide) f15 (fun _ h9 => h9) rfl (by decide +kernel) rfl rfl (Nat.le_of_ble_eq_true rfl) dX1_init_11 (fun H locs hm hS => ?_)
  have hm : mm D (AZ z) (mu Mc1 h0 (.inr (1, [.int 0, .int 0, .int 0, .int 0, .null, .null]))) H := hm
  have hT : TM k κ (mu Mc1 h0 (.inr (1, [.int 0, .int 0, .int 0, .int 0, .null, .null]))) := fun b9 d9 hb9 => by
    obtain ⟨e9, h9, h8⟩ := hT b9 d9 hb9
    exact ⟨e9, (mu_ne (fun q9 => by rw [q9, hk0_h0] at hb9; cases hb9)).trans h9, h8⟩
  have hE : kx κ (mdel M h0) κ (mu Mc1 h0 (.inr (1, [.int 0, .int 0, .int 0, .int 0, .null, .null]))) := ⟨hE.1, fun b9 e9 hb9 hn9 => (mu_ne (m_fr hz0_h0 hb9)).trans (hE.2 b9 e9 hb9 hn9)⟩
  have hM_h0 : (mu Mc1 h0 (.inr (1, [.int 0, .int 0, .int 0, .int 0, .null, .null]))) h0 = _ := mu_self _ _ _
  generalize (mu Mc1 h0 (.inr (1, [.int 0, .int 0, .int 0, .int 0, .null, .null]))) = Mc2 at hm hT hE hM_h0
  refine lv_aload_n hx hb dX1_init_14 rfl (lv_at hl 0 rfl) ?_
  refine lv_iconst (v := 0) hx hb dX1_init_15 (by decide) ?_
  refine m_put (T := TX1) (N := 6) (ci := 1) (v := .int 0) (ty := .int) hx hb hts wX1 tyX1 tyX1_ok nmX1 hown hK hm hS hM_h0 rfl 2 (by decide) f18 (fun _ h9 => h9) rfl (by decide +kernel) rfl rfl (Nat.le_of_ble_eq_true rfl) dX1_init_16 (fun H locs hm hS => ?_)
  have hm : mm D (AZ z) (mu Mc2 h0 (.inr (1, [.int 0, .int 0, .int 0, .int 0, .null, .null]))) H := hm
  have hT : TM k κ (mu Mc2 h0 (.inr (1, [.int 0, .int 0, .int 0, .int 0, .null, .null]))) := fun b9 d9 hb9 => by
    obtain ⟨e9, h9, h8⟩ := hT b9 d9 hb9
    exact ⟨e9, (mu_ne (fun q9 => by rw [q9, hk0_h0] at hb9; cases hb9)).trans h9, h8⟩
  have hE : kx κ (mdel M h0) κ (mu Mc2 h0 (.inr (1, [.int 0, .int 0, .int 0, .int 0, .null, .null]))) := ⟨hE.1, fun b9 e9 hb9 hn9 => (mu_ne (m_fr hz0_h0 hb9)).trans (hE.2 b9 e9 hb9 hn9)⟩
  have hM_h0 : (mu Mc2 h0 (.inr (1, [.int 0, .int 0, .int 0, .int 0, .null, .null]))) h0 = _ := mu_self _ _ _
  generalize (mu Mc2 h0 (.inr (1, [.int 0, .int 0, .int 0, .int 0, .null, .null]))) = Mc3 at hm hT hE hM_h0
  refine lv_aload_n hx hb dX1_init_19 rfl (lv_at hl 0 rfl) ?_
  refine lv_iconst (v := 0) hx hb dX1_init_20 (by decide) ?_
  refine m_put (T := TX1) (N := 6) (ci := 1) (v := .int 0) (ty := .int) hx hb hts wX1 tyX1 tyX1_ok nmX1 hown hK hm hS hM_h0 rfl 3 (by decide) f21 (fun _ h9 => h9) rfl (by decide +kernel) rfl rfl (Nat.le_of_ble_eq_true rfl) dX1_init_21 (fun H locs hm hS => ?_)
  have hm : mm D (AZ z) (mu Mc3 h0 (.inr (1, [.int 0, .int 0, .int 0, .int 0, .null, .null]))) H := hm
  have hT : TM k κ (mu Mc3 h0 (.inr (1, [.int 0, .int 0, .int 0, .int 0, .null, .null]))) := fun b9 d9 hb9 => by
    obtain ⟨e9, h9, h8⟩ := hT b9 d9 hb9
    exact ⟨e9, (mu_ne (fun q9 => by rw [q9, hk0_h0] at hb9; cases hb9)).trans h9, h8⟩
  have hE : kx κ (mdel M h0) κ (mu Mc3 h0 (.inr (1, [.int 0, .int 0, .int 0, .int 0, .null, .null]))) := ⟨hE.1, fun b9 e9 hb9 hn9 => (mu_ne (m_fr hz0_h0 hb9)).trans (hE.2 b9 e9 hb9 hn9)⟩
  have hM_h0 : (mu Mc3 h0 (.inr (1, [.int 0, .int 0, .int 0, .int 0, .null, .null]))) h0 = _ := mu_self _ _ _
  generalize (mu Mc3 h0 (.inr (1, [.int 0, .int 0, .int 0, .int 0, .null, .null]))) = Mc4 at hm hT hE hM_h0
  refine lv_aload_n hx hb dX1_init_24 rfl (lv_at hl 0 rfl) ?_
  refine lv_iconst (v := 0) hx hb dX1_init_25 (by decide) ?_
  refine lv_iconst (v := 1) hx hb dX1_init_26 (by decide) ?_
  refine m_kS (As := [.int 0, .int 1]) (rest := [.ref h0]) (rm := { frames := 2, cells := 2, slots := 20, locals := 40 }) ⟨hx, hb, hml, hown, hts⟩ (t_X2_blank_I1 l D k z _ _ 0  hT) (va_cwS 2 hts gX1_init_X2_blank rfl rfl rfl (by decide +kernel) ⟨Nat.le_of_ble_eq_true rfl, Nat.le_of_ble_eq_true rfl⟩) hz hcx hm hS rfl hl.1 rfl (Nat.le_of_ble_eq_true rfl) dX1_init_27 ⟨Nat.le_of_ble_eq_true rfl, Nat.le_of_ble_eq_true rfl⟩ (fun v M1 H locs hv hm hS => ?_)
  obtain ⟨κ5, hT9, hE9, hv1⟩ := hv
  have hE := hE.trans hT0 hT hE9
  have hT := hT9
  obtain ⟨Mc5, hMx⟩ : ∃ x : mM, x = M1 := ⟨M1, rfl⟩
  subst hMx
  have hk1_h0_5 := hE9.2 h0 _ hM_h0 hk0_h0
  have hk0_h0 := (hE9.1 h0 _ hM_h0).trans hk0_h0
  obtain ⟨x1, hv1, hk_x1⟩ := hv1
  subst hv1
  refine W.eq (g2 := F0 m 30 ls [.ref x1, .ref h0]) rfl ?_
  refine W.widen (k := 2) (n := 20) (Nat.le_of_ble_eq_true rfl) (Nat.le_of_ble_eq_true rfl) ?_
  have hm : mm D (AZ z) Mc5 H := hm
  refine m_putF (T := TX1) (N := 6) (ci := 1) (v := .ref x1) (ty := .object "CommitTree$Node") hx hb hts wX1 tyX1 tyX1_ok nmX1 hown hK hm hS hk1_h0_5 rfl 4 (by decide) f30 (fun _ h9 => h9) rfl hin rfl (by decide +kernel) rfl rfl (Nat.le_of_ble_eq_true rfl) dX1_init_30 (fun H locs hm hS => ?_)
  have hm : mm D (AZ z) (mu Mc5 h0 (.inr (1, [.int 0, .int 0, .int 0, .int 0, .ref x1, .null]))) H := hm
  have hT : TM k κ5 (mu Mc5 h0 (.inr (1, [.int 0, .int 0, .int 0, .int 0, .ref x1, .null]))) := fun b9 d9 hb9 => by
    obtain ⟨e9, h9, h8⟩ := hT b9 d9 hb9
    exact ⟨e9, (mu_ne (fun q9 => by rw [q9, hk0_h0] at hb9; cases hb9)).trans h9, h8⟩
  have hE : kx κ (mdel M h0) κ5 (mu Mc5 h0 (.inr (1, [.int 0, .int 0, .int 0, .int 0, .ref x1, .null]))) := ⟨hE.1, fun b9 e9 hb9 hn9 => (mu_ne (m_fr hz0_h0 hb9)).trans (hE.2 b9 e9 hb9 hn9)⟩
  have hM_h0 : (mu Mc5 h0 (.inr (1, [.int 0, .int 0, .int 0, .int 0, .ref x1, .null]))) h0 = _ := mu_self _ _ _
  generalize (mu Mc5 h0 (.inr (1, [.int 0, .int 0, .int 0, .int 0, .ref x1, .null]))) = Mc6 at hm hT hE hM_h0
  refine lv_aload_n hx hb dX1_init_33 rfl (lv_at hl 0 rfl) ?_
  refine lv_iconst (v := 0) hx hb dX1_init_34 (by decide) ?_
  refine lv_iconst (v := 0) hx hb dX1_init_35 (by decide) ?_
  refine m_kS (As := [.int 0, .int 0]) (rest := [.ref h0]) (rm := { frames := 2, cells := 2, slots := 68, locals := 40 }) ⟨hx, hb, hml, hown, hts⟩ (t_X2_blank_I0 l D k z _ _ 0  hT) (va_cwS 2 hts gX1_init_X2_blank rfl rfl rfl (by decide +kernel) ⟨Nat.le_of_ble_eq_true rfl, Nat.le_of_ble_eq_true rfl⟩) hz hcx hm hS rfl hl.1 rfl (Nat.le_of_ble_eq_true rfl) dX1_init_36 ⟨Nat.le_of_ble_eq_true rfl, Nat.le_of_ble_eq_true rfl⟩ (fun v M1 H locs hv hm hS => ?_)
  obtain ⟨κ7, hT9, hE9, hv1⟩ := hv
  have hk_x1 := hE9.k hT hk_x1
  have hE := hE.trans hT0 hT hE9
  have hT := hT9
  obtain ⟨Mc7, hMx⟩ : ∃ x : mM, x = M1 := ⟨M1, rfl⟩
  subst hMx
  have hk1_h0_7 := hE9.2 h0 _ hM_h0 hk0_h0
  have hk0_h0 := (hE9.1 h0 _ hM_h0).trans hk0_h0
  obtain ⟨x2, hv1, hk_x2⟩ := hv1
  subst hv1
  refine W.eq (g2 := F0 m 39 ls [.ref x2, .ref h0]) rfl ?_
  refine W.widen (k := 4) (n := 88) (Nat.le_of_ble_eq_true rfl) (Nat.le_of_ble_eq_true rfl) ?_
  have hm : mm D (AZ z) Mc7 H := hm
  refine m_putF (T := TX1) (N := 6) (ci := 1) (v := .ref x2) (ty := .object "CommitTree$Node") hx hb hts wX1 tyX1 tyX1_ok nmX1 hown hK hm hS hk1_h0_7 rfl 5 (by decide) f34 (fun _ h9 => h9) rfl hin rfl (by decide +kernel) rfl rfl (Nat.le_of_ble_eq_true rfl) dX1_init_39 (fun H locs hm hS => ?_)
  have hm : mm D (AZ z) (mu Mc7 h0 (.inr (1, [.int 0, .int 0, .int 0, .int 0, .ref x1, .ref x2]))) H := hm
  have hT : TM k κ7 (mu Mc7 h0 (.inr (1, [.int 0, .int 0, .int 0, .int 0, .ref x1, .ref x2]))) := fun b9 d9 hb9 => by
    obtain ⟨e9, h9, h8⟩ := hT b9 d9 hb9
    exact ⟨e9, (mu_ne (fun q9 => by rw [q9, hk0_h0] at hb9; cases hb9)).trans h9, h8⟩
  have hE : kx κ (mdel M h0) κ7 (mu Mc7 h0 (.inr (1, [.int 0, .int 0, .int 0, .int 0, .ref x1, .ref x2]))) := ⟨hE.1, fun b9 e9 hb9 hn9 => (mu_ne (m_fr hz0_h0 hb9)).trans (hE.2 b9 e9 hb9 hn9)⟩
  have hM_h0 : (mu Mc7 h0 (.inr (1, [.int 0, .int 0, .int 0, .int 0, .ref x1, .ref x2]))) h0 = _ := mu_self _ _ _
  generalize (mu Mc7 h0 (.inr (1, [.int 0, .int 0, .int 0, .int 0, .ref x1, .ref x2]))) = Mc8 at hm hT hE hM_h0
  have hk_old := hk0_h0
  have hk_x1 := kup_old (d := .merge) hk0_h0 hk_x1
  have hk_x2 := kup_old (d := .merge) hk0_h0 hk_x2
  have hT : TM k (kup κ7 h0 .merge) Mc8 := hT.adopt hk0_h0 hM_h0 (show wf k (kup κ7 h0 .merge) .merge _ from ⟨0, 0, 0, 0, x1, x2, rfl, hk_x1, hk_x2⟩)
  have hE : kx κ (mdel M h0) (kup κ7 h0 .merge) Mc8 := hE.adopt hz0_h0
  have hk_h0 : kup κ7 h0 .merge h0 = some .merge := kup_self _ _ _
  generalize kup κ7 h0 .merge = κ9 at hT hE hk_x1 hk_x2 hk_h0
  refine W.vret hx hb hr (fun t ht hW => ⟨⟨none, _, rfl, ?_, by rw [ht]; exact hm⟩, hS.F ht⟩) hS.2.2 dX1_init_42
  exact ⟨rfl, _, hT, hE, hk_h0⟩

set_option maxHeartbeats 4000000 in
set_option maxRecDepth 100000 in
theorem i_X0_init (l : Launch) (D : va_G) (k : Nat → ClassId) (z : Nat) (M : mM) (κ : Nat → Option KD) (h0 : Nat)  (ho : M h0 = some (.inr (0, [.int 0, .int 0]))) (hko : κ h0 = none) (hT : TM k κ M) : mK l yX0_init wsX0_init ({ frames := 1, cells := 0, slots := 0, locals := 12 }) D k z [.ref h0] M (fun v M' => v = none ∧ ∃ κ', TM k κ' M' ∧ kx κ (mdel M h0) κ' M' ∧ κ' h0 = some .disk) := by
  refine Met.ofW (cc := cX0_init) (maxL := 1) (ret := none) (by decide) rfl ?_
  intro p e s m args below meth c s₁ B hml hv
  obtain ⟨rfl, hz, hcx, hm⟩ := hv
  have hx := B.exec
  have hb := B.bytes
  have hr := B.returns
  have hts := atoms_spec (ws := wsX0_init) B.pre
  have hown : s.vm.findClass RX0 = some m.cls := findClass_of_methodNamed B.named
  have hlocks := B.notSynchronized
  have hK := hcx.1
  have hS : va_S (AZ z) s.heap s.heap [] := va_S.rf
  have hA : ∀ q, s.heap.size ≤ q → AZ z q := fun q h => Nat.le_trans hz h
  have hin : meth.name = "<init>" := (name_of_methodNamed B.named B.method).1
  have hl := lv_entry ([.ref h0]) (n := 1) (Nat.le_of_ble_eq_true rfl)
  rw [lg_entry_eq]
  generalize (lg_sl ([.ref h0]) ++ List.replicate (1 - (lg_sl ([.ref h0])).length) Slot.unset).toArray = ls at hl ⊢
  have hl : lv_has ls 1 [(0, .ref h0)] := hl
  have f9 := hts (.fieldLink RX0 9 "CommitTree$Disk" "written" "I") (by decide +kernel)
  have f15 := hts (.fieldLink RX0 15 "CommitTree$Disk" "left" "I") (by decide +kernel)
  have wX0 : ∀ w ∈ wsX00, w ∈ wsX0_init := by decide +kernel
  have hT0 : TM k κ (mdel M h0) := hT.del hko
  have hE : kx κ (mdel M h0) κ M := kx.del0 _ _ _
  have hk0_h0 := hko
  have hz0_h0 : mdel M h0 h0 = none := if_pos rfl
  refine lv_aload_n hx hb dX0_init_0 rfl (lv_at hl 0 rfl) ?_
  refine W.objInit hx hb hown (hts (.methodLink RX0 3 objectInit) (by decide +kernel)) (hts (.instanceMethod objectInit) (by decide +kernel)) (hts (.code objectInit ⟨#[0xb1]⟩ 1 none) (by decide +kernel)) rfl (by rw [hml]; exact hl.1) rfl dX0_init_1 (Nat.le_of_ble_eq_true rfl) (Nat.le_of_ble_eq_true rfl) ?_
  refine W.eq (g2 := F0 m 4 ls []) rfl ?_
  refine lv_aload_n hx hb dX0_init_4 rfl (lv_at hl 0 rfl) ?_
  refine lv_iconst (v := 0) hx hb dX0_init_5 (by decide) ?_
  refine m_put (T := TX0) (N := 2) (ci := 0) (v := .int 0) (ty := .int) hx hb hts wX0 tyX0 tyX0_ok nmX0 hown hK hm hS ho rfl 0 (by decide) f9 (fun _ h9 => h9) rfl (by decide +kernel) rfl rfl (Nat.le_of_ble_eq_true rfl) dX0_init_6 (fun H locs hm hS => ?_)
  have hm : mm D (AZ z) (mu M h0 (.inr (0, [.int 0, .int 0]))) H := hm
  have hT : TM k κ (mu M h0 (.inr (0, [.int 0, .int 0]))) := fun b9 d9 hb9 => by
    obtain ⟨e9, h9, h8⟩ := hT b9 d9 hb9
    exact ⟨e9, (mu_ne (fun q9 => by rw [q9, hk0_h0] at hb9; cases hb9)).trans h9, h8⟩
  have hE : kx κ (mdel M h0) κ (mu M h0 (.inr (0, [.int 0, .int 0]))) := ⟨hE.1, fun b9 e9 hb9 hn9 => (mu_ne (m_fr hz0_h0 hb9)).trans (hE.2 b9 e9 hb9 hn9)⟩
  have hM_h0 : (mu M h0 (.inr (0, [.int 0, .int 0]))) h0 = _ := mu_self _ _ _
  generalize (mu M h0 (.inr (0, [.int 0, .int 0]))) = Mc1 at hm hT hE hM_h0
  refine lv_aload_n hx hb dX0_init_9 rfl (lv_at hl 0 rfl) ?_
  refine lv_iconst (v := (-1)) hx hb dX0_init_10 (by decide) ?_
  refine m_put (T := TX0) (N := 2) (ci := 0) (v := .int (-1)) (ty := .int) hx hb hts wX0 tyX0 tyX0_ok nmX0 hown hK hm hS hM_h0 rfl 1 (by decide) f15 (fun _ h9 => h9) rfl (by decide +kernel) rfl rfl (Nat.le_of_ble_eq_true rfl) dX0_init_11 (fun H locs hm hS => ?_)
  have hm : mm D (AZ z) (mu Mc1 h0 (.inr (0, [.int 0, .int (-1)]))) H := hm
  have hT : TM k κ (mu Mc1 h0 (.inr (0, [.int 0, .int (-1)]))) := fun b9 d9 hb9 => by
    obtain ⟨e9, h9, h8⟩ := hT b9 d9 hb9
    exact ⟨e9, (mu_ne (fun q9 => by rw [q9, hk0_h0] at hb9; cases hb9)).trans h9, h8⟩
  have hE : kx κ (mdel M h0) κ (mu Mc1 h0 (.inr (0, [.int 0, .int (-1)]))) := ⟨hE.1, fun b9 e9 hb9 hn9 => (mu_ne (m_fr hz0_h0 hb9)).trans (hE.2 b9 e9 hb9 hn9)⟩
  have hM_h0 : (mu Mc1 h0 (.inr (0, [.int 0, .int (-1)]))) h0 = _ := mu_self _ _ _
  generalize (mu Mc1 h0 (.inr (0, [.int 0, .int (-1)]))) = Mc2 at hm hT hE hM_h0
  have hk_old := hk0_h0
  have hT : TM k (kup κ h0 .disk) Mc2 := hT.adopt hk0_h0 hM_h0 (show wf k (kup κ h0 .disk) .disk _ from ⟨0, (-1), rfl⟩)
  have hE : kx κ (mdel M h0) (kup κ h0 .disk) Mc2 := hE.adopt hz0_h0
  have hk_h0 : kup κ h0 .disk h0 = some .disk := kup_self _ _ _
  generalize kup κ h0 .disk = κ3 at hT hE hk_h0
  refine W.vret hx hb hr (fun t ht hW => ⟨⟨none, _, rfl, ?_, by rw [ht]; exact hm⟩, hS.F ht⟩) hS.2.2 dX0_init_14
  exact ⟨rfl, _, hT, hE, hk_h0⟩

