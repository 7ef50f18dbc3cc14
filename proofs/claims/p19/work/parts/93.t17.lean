set_option maxHeartbeats 4000000 in
set_option maxRecDepth 100000 in
theorem t_X3_pushMark (l : Launch) (D : va_G) (k : Nat → ClassId) (z : Nat) (M : mM) (κ : Nat → Option KD) (h0 : Nat) (hk_h0 : κ h0 = some .txn) (hT : TM k κ M) : mK l yX3_pushMark wsX3_pushMark ({ frames := 2, cells := 0, slots := 0, locals := 44 }) D k z [.ref h0] M (fun v M' => ∃ κ', TM k κ' M' ∧ kx κ M κ' M' ∧ (v = some (.int 0) ∨ v = some (.int 1))) := by
  refine Met.ofW (cc := cX3_pushMark) (maxL := 2) (ret := (some .boolean)) (by decide) rfl ?_
  intro p e s m args below meth c s₁ B hml hv
  obtain ⟨rfl, hz, hcx, hm⟩ := hv
  have hx := B.exec
  have hb := B.bytes
  have hr := B.returns
  have hts := atoms_spec (ws := wsX3_pushMark) B.pre
  have hown : s.vm.findClass RX3 = some m.cls := findClass_of_methodNamed B.named
  have hlocks := B.notSynchronized
  have hK := hcx.1
  have hS : va_S (AZ z) s.heap s.heap [] := va_S.rf
  have hA : ∀ q, s.heap.size ≤ q → AZ z q := fun q h => Nat.le_trans hz h
  have hl := lv_entry ([.ref h0]) (n := 2) (Nat.le_of_ble_eq_true rfl)
  rw [lg_entry_eq]
  generalize (lg_sl ([.ref h0]) ++ List.replicate (2 - (lg_sl ([.ref h0])).length) Slot.unset).toArray = ls at hl ⊢
  have hl : lv_has ls 2 [(0, .ref h0)] := hl
  have f33 := hts (.fieldLink RX3 33 "CommitTree$Transaction" "marked" "I") (by decide +kernel)
  have f37 := hts (.fieldLink RX3 37 "CommitTree$Transaction" "view" "LCommitTree$Tree;") (by decide +kernel)
  have wX3 : ∀ w ∈ wsX30, w ∈ wsX3_pushMark := by decide +kernel
  have hT0 := hT
  have hE : kx κ M κ M := kx.refl _ _
  refine lv_aload_n hx hb dX3_pushMark_0 rfl (lv_at hl 0 rfl) ?_
  refine lv_aload_n hx hb dX3_pushMark_1 rfl (lv_at hl 0 rfl) ?_
  obtain ⟨v0_1, v1_1, v2_1, v3_1, v4_1, v5_1, v6_1, hM_h0_1, hk_v0_1, hk_v1_1, hk_v2_1, hk_v3_1, hk_v4_1, hz_v5_1⟩ := hT.txn hk_h0
  refine m_get (T := TX3) (N := 7) (ci := 3) (v := .int v6_1) hx hb hts wX3 hown hK hm hM_h0_1 rfl 6 (by decide) f33 (fun _ h9 => h9) rfl dX3_pushMark_2 ?_
  refine m_kV (As := [.int v6_1]) (rest := []) (rm := { frames := 0, cells := 0, slots := 0, locals := 0 }) ⟨hx, hb, hml, hown, hts⟩ (t_X3_markAt_I l D k z _ _ h0 v6_1 hk_h0 hT) (cwV 1 hts gX3_pushMark_X3_markAt rfl rfl rfl (by decide +kernel) ⟨Nat.le_of_ble_eq_true rfl, Nat.le_of_ble_eq_true rfl⟩) (m_recv hK hm (q := (RX3, TX3, 7)) rfl hM_h0_1) hz hcx hm hS rfl hl.1 rfl (Nat.le_of_ble_eq_true rfl) dX3_pushMark_5 ⟨Nat.le_of_ble_eq_true rfl, Nat.le_of_ble_eq_true rfl⟩ (fun v M1 H locs hv hm hS => ?_)
  obtain ⟨hv1, hM1⟩ := hv
  rw [hM1] at hm
  rcases hv1 with hv1 | ⟨x2, hv1, hk_x2⟩
  · subst hv1
    refine W.eq (g2 := F0 m 8 ls [.null]) rfl ?_
    refine W.widen (k := 0) (n := 0) (Nat.le_of_ble_eq_true rfl) (Nat.le_of_ble_eq_true rfl) ?_
    have hm : mm D (AZ z) M H := hm
    refine lv_astore_nN (lv' := [(1, .null), (0, .ref h0)]) hx hb dX3_pushMark_8 rfl hl (by decide) rfl (fun ls hl => ?_)
    refine lv_aload_nN hx hb dX3_pushMark_9 rfl (lv_at hl 0 rfl) ?_
    refine lv_ifnonnullN hx hb dX3_pushMark_10 ?_
    refine lv_iconst (v := 0) hx hb dX3_pushMark_13 (by decide) ?_
    refine W.zret hx hb hr rfl (fun t ht hW => ⟨⟨some (.int 0), _, rfl, ?_, by rw [ht]; exact hm⟩, hS.F ht⟩) hS.2.2 dX3_pushMark_14
    exact ⟨_, hT, hE, Or.inl rfl⟩
  · subst hv1
    refine W.eq (g2 := F0 m 8 ls [.ref x2]) rfl ?_
    refine W.widen (k := 0) (n := 0) (Nat.le_of_ble_eq_true rfl) (Nat.le_of_ble_eq_true rfl) ?_
    have hm : mm D (AZ z) M H := hm
    refine lv_astore_n (lv' := [(1, .ref x2), (0, .ref h0)]) hx hb dX3_pushMark_8 rfl hl (by decide) rfl (fun ls hl => ?_)
    refine lv_aload_n hx hb dX3_pushMark_9 rfl (lv_at hl 0 rfl) ?_
    refine lv_ifnonnull (tgt := 15) hx hb dX3_pushMark_10 (by decide) ?_
    refine lv_aload_n hx hb dX3_pushMark_15 rfl (lv_at hl 0 rfl) ?_
    refine lv_aload_n hx hb dX3_pushMark_16 rfl (lv_at hl 1 rfl) ?_
    refine m_get (T := TX3) (N := 7) (ci := 3) (v := .ref v1_1) hx hb hts wX3 hown hK hm hM_h0_1 rfl 1 (by decide) f37 (fun _ h9 => h9) rfl dX3_pushMark_17 ?_
    obtain ⟨v0_3, v1_3, hM_x2_3, hk_v0_3, hn_v1_3⟩ := hT.tree hk_x2
    refine m_kV (As := [.ref v1_1]) (rest := []) (rm := { frames := 1, cells := 0, slots := 0, locals := 21 }) ⟨hx, hb, hml, hown, hts⟩ (t_X4_copyFrom_R l D k z _ _ x2 v1_1 hk_x2 hk_v1_1 hT) (cwV 1 hts gX3_pushMark_X4_copyFrom rfl rfl rfl (by decide +kernel) ⟨Nat.le_of_ble_eq_true rfl, Nat.le_of_ble_eq_true rfl⟩) (m_recv hK hm (q := (RX4, TX4, 2)) rfl hM_x2_3) hz hcx hm hS rfl hl.1 rfl (Nat.le_of_ble_eq_true rfl) dX3_pushMark_20 ⟨Nat.le_of_ble_eq_true rfl, Nat.le_of_ble_eq_true rfl⟩ (fun v M1 H locs hv hm hS => ?_)
    obtain ⟨κ1, hT9, hE9, hv1⟩ := hv
    have hk_h0 := hE9.k hT hk_h0
    have hk_x2 := hE9.k hT hk_x2
    have hE := hE.trans hT0 hT hE9
    have hT := hT9
    obtain ⟨Mc1, hMx⟩ : ∃ x : mM, x = M1 := ⟨M1, rfl⟩
    subst hMx
    subst hv1
    refine W.eq (g2 := F0 m 23 ls []) rfl ?_
    refine W.widen (k := 0) (n := 0) (Nat.le_of_ble_eq_true rfl) (Nat.le_of_ble_eq_true rfl) ?_
    have hm : mm D (AZ z) Mc1 H := hm
    refine lv_aload_n hx hb dX3_pushMark_23 rfl (lv_at hl 1 rfl) ?_
    refine lv_dup hx hb dX3_pushMark_24 rfl ?_
    obtain ⟨v0_4, v1_4, v2_4, v3_4, v4_4, v5_4, v6_4, hM_h0_4, hk_v0_4, hk_v1_4, hk_v2_4, hk_v3_4, hk_v4_4, hz_v5_4⟩ := hT.txn hk_h0
    refine m_get (T := TX3) (N := 7) (ci := 3) (v := .int v6_4) hx hb hts wX3 hown hK hm hM_h0_4 rfl 6 (by decide) f33 (fun _ h9 => h9) rfl dX3_pushMark_25 ?_
    refine lv_iconst (v := 1) hx hb dX3_pushMark_28 (by decide) ?_
    refine lv_iadd hx hb dX3_pushMark_29 ?_
    refine m_put (T := TX3) (N := 7) (ci := 3) (v := .int (v6_4 + 1)) (ty := .int) hx hb hts wX3 tyX3 tyX3_ok nmX3 hown hK hm hS hM_h0_4 rfl 6 (by decide) f33 (fun _ h9 => h9) rfl (by decide +kernel) rfl rfl (Nat.le_of_ble_eq_true rfl) dX3_pushMark_30 (fun H locs hm hS => ?_)
    have hm : mm D (AZ z) (mu Mc1 h0 (.inr (3, [.ref v0_4, .ref v1_4, .ref v2_4, .ref v3_4, .ref v4_4, .int v5_4, .int (v6_4 + 1)]))) H := hm
    have hT : TM k κ1 (mu Mc1 h0 (.inr (3, [.ref v0_4, .ref v1_4, .ref v2_4, .ref v3_4, .ref v4_4, .int v5_4, .int (v6_4 + 1)]))) := hT.put hk_h0 (show wf k κ1 .txn (.inr (3, [.ref v0_4, .ref v1_4, .ref v2_4, .ref v3_4, .ref v4_4, .int v5_4, .int (v6_4 + 1)])) from ⟨v0_4, v1_4, v2_4, v3_4, v4_4, v5_4, (v6_4 + 1), rfl, hk_v0_4, hk_v1_4, hk_v2_4, hk_v3_4, hk_v4_4, hz_v5_4⟩)
    have hE : kx κ M κ1 (mu Mc1 h0 (.inr (3, [.ref v0_4, .ref v1_4, .ref v2_4, .ref v3_4, .ref v4_4, .int v5_4, .int (v6_4 + 1)]))) := hE.put hk_h0
    generalize (mu Mc1 h0 (.inr (3, [.ref v0_4, .ref v1_4, .ref v2_4, .ref v3_4, .ref v4_4, .int v5_4, .int (v6_4 + 1)]))) = Mc2 at hm hT hE
    refine lv_iconst (v := 1) hx hb dX3_pushMark_33 (by decide) ?_
    refine W.zret hx hb hr rfl (fun t ht hW => ⟨⟨some (.int 1), _, rfl, ?_, by rw [ht]; exact hm⟩, hS.F ht⟩) hS.2.2 dX3_pushMark_34
    exact ⟨_, hT, hE, Or.inr rfl⟩

set_option maxHeartbeats 4000000 in
set_option maxRecDepth 100000 in
theorem t_X5_mark_I (l : Launch) (hlt : l.stackTraces = false) (D : va_G) (k : Nat → ClassId) (z : Nat) (M : mM) (κ : Nat → Option KD) (h0 : Nat) (a0 : Int32) (hk_h0 : κ h0 = some .top) (hT : TM k κ M) : mC l yX5_mark wsX5_mark ({ frames := 7, cells := 2, slots := 12, locals := 104 }) D k z [.ref h0, .int a0] M (fun v M' => ∃ κ', TM k κ' M' ∧ kx κ M κ' M' ∧ ∃ x, v = some (.int x)) (fun E M' => E ∈ (["java/lang/UnsupportedOperationException", "java/lang/IllegalStateException"] : List String) ∧ ∃ κ', TM k κ' M' ∧ kx κ M κ' M') := by
  refine vx_ofW (cc := cX5_mark) (maxL := 3) (ret := (some .int)) (by decide) rfl ?_
  intro p e s m args below meth c s₁ B hml hnt hv
  obtain ⟨rfl, hz, hcx, hm⟩ := hv
  have hx := B.exec
  have hb := B.bytes
  have hr := B.returns
  have hts := atoms_spec (ws := wsX5_mark) B.pre
  have hown : s.vm.findClass RX5 = some m.cls := findClass_of_methodNamed B.named
  have hlocks := B.notSynchronized
  have hK := hcx.1
  have hS : va_S (AZ z) s.heap s.heap [] := va_S.rf
  have hA : ∀ q, s.heap.size ≤ q → AZ z q := fun q h => Nat.le_trans hz h
  have hl := lv_entry ([.ref h0, .int a0]) (n := 3) (Nat.le_of_ble_eq_true rfl)
  rw [lg_entry_eq]
  generalize (lg_sl ([.ref h0, .int a0]) ++ List.replicate (3 - (lg_sl ([.ref h0, .int a0])).length) Slot.unset).toArray = ls at hl ⊢
  have hl : lv_has ls 3 [(0, .ref h0), (1, .int a0)] := hl
  have f227 := hts (.fieldLink RX5 227 "CommitTree$Transaction" "marked" "I") (by decide +kernel)
  have wX3 : ∀ w ∈ wsX30, w ∈ wsX5_mark := by decide +kernel
  have hT0 := hT
  have hE : kx κ M κ M := kx.refl _ _
  refine lv_aload_n hx hb dX5_mark_0 rfl (lv_at hl 0 rfl) ?_
  refine lv_iload_n hx hb dX5_mark_1 rfl (lv_at hl 1 rfl) ?_
  obtain ⟨v0_1, v1_1, v2_1, v3_1, v4_1, v5_1, v6_1, v7_1, v8_1, v9_1, v10_1, hM_h0_1, hk_v0_1, hk_v1_1, hk_v2_1, hk_v3_1, hk_v4_1, hk_v5_1, hz_v9_1, hz_v10_1⟩ := hT.top hk_h0
  refine m_cV (As := [.int a0]) (rest := []) (rm := { frames := 6, cells := 1, slots := 6, locals := 82 }) ⟨hx, hb, hml, hown, hts⟩ (t_X5_opened_I l hlt D k z _ _ h0 a0 hk_h0 hT) (cwV 1 hts gX5_mark_X5_opened rfl rfl rfl (by decide +kernel) ⟨Nat.le_of_ble_eq_true rfl, Nat.le_of_ble_eq_true rfl⟩) (m_recv hK hm (q := (RX5, TX5, 11)) rfl hM_h0_1) hz hcx hm hS rfl hl.1 rfl (Nat.le_of_ble_eq_true rfl) dX5_mark_2 ⟨Nat.le_of_ble_eq_true rfl, Nat.le_of_ble_eq_true rfl⟩ (fun E ce q9 M1 H locs hv hm hS hce hcv hcl => ?_) (fun v M1 H locs hv hm hS => ?_)
  · refine vx_out (fun x hx => (hnt x hx).elim) hlocks hce hcv hcl (fun t ht hvm => ⟨⟨_, ?_, by rw [ht]; exact hm⟩, hS.F ht⟩) hS.2.2 (Nat.le_of_ble_eq_true rfl) (Nat.le_of_ble_eq_true rfl)
    obtain ⟨hE8, κ8, hT8, hx8⟩ := hv
    exact ⟨by simp only [List.mem_cons, List.not_mem_nil, or_false] at hE8 ⊢; first | exact hE8 | simp [hE8], κ8, hT8, hE.trans hT0 hT hx8⟩
  obtain ⟨hv1, hM1⟩ := hv
  rw [hM1] at hm
  obtain ⟨x2, hv1, hk_x2⟩ := hv1
  subst hv1
  refine W.eq (g2 := F0 m 5 ls [.ref x2]) rfl ?_
  refine W.widen (k := 1) (n := 6) (Nat.le_of_ble_eq_true rfl) (Nat.le_of_ble_eq_true rfl) ?_
  have hm : mm D (AZ z) M H := hm
  refine lv_astore_n (lv' := [(2, .ref x2), (0, .ref h0), (1, .int a0)]) hx hb dX5_mark_5 rfl hl (by decide) rfl (fun ls hl => ?_)
  refine lv_aload_n hx hb dX5_mark_6 rfl (lv_at hl 0 rfl) ?_
  obtain ⟨v0_3, v1_3, v2_3, v3_3, v4_3, v5_3, v6_3, hM_x2_3, hk_v0_3, hk_v1_3, hk_v2_3, hk_v3_3, hk_v4_3, hz_v5_3⟩ := hT.txn hk_x2
  refine m_kV (As := []) (rest := []) (rm := { frames := 2, cells := 0, slots := 0, locals := 44 }) ⟨hx, hb, hml, hown, hts⟩ (t_X3_pushMark l D k z _ _ x2 hk_x2 hT) (cwV 0 hts gX5_mark_X3_pushMark rfl rfl rfl (by decide +kernel) ⟨Nat.le_of_ble_eq_true rfl, Nat.le_of_ble_eq_true rfl⟩) (m_recv hK hm (q := (RX3, TX3, 7)) rfl hM_x2_3) hz hcx hm hS rfl hl.1 rfl (Nat.le_of_ble_eq_true rfl) dX5_mark_7 ⟨Nat.le_of_ble_eq_true rfl, Nat.le_of_ble_eq_true rfl⟩ (fun v M1 H locs hv hm hS => ?_)
  obtain ⟨κ1, hT9, hE9, hv1⟩ := hv
  have hk_h0 := hE9.k hT hk_h0
  have hk_x2 := hE9.k hT hk_x2
  have hE := hE.trans hT0 hT hE9
  have hT := hT9
  obtain ⟨Mc1, hMx⟩ : ∃ x : mM, x = M1 := ⟨M1, rfl⟩
  subst hMx
  rcases hv1 with hv1 | hv1
  · subst hv1
    refine W.eq (g2 := F0 m 10 ls [.int 0]) rfl ?_
    refine W.widen (k := 1) (n := 6) (Nat.le_of_ble_eq_true rfl) (Nat.le_of_ble_eq_true rfl) ?_
    have hm : mm D (AZ z) Mc1 H := hm
    refine lv_if_ne (tgt := 23) hx hb dX5_mark_10 (by decide) (fun c4 => ?_) (fun c4 => ?_)
    · first | exact absurd c4 (by decide) | exact absurd (by decide) c4
    · obtain ⟨sa, hsa⟩ := hcx.2.2.1 (225, "there are three marks") (by decide)
      refine vx_throwS (own := RX5) (cls := "java/lang/UnsupportedOperationException") (text := "there are three marks") (names := ["java/lang/RuntimeException", "java/lang/Exception"]) (ik := 86) (is := 225) (ic := 90) (A := AZ z) hx hb hlt hown (by decide) (by decide) (hts (.classLink RX5 86 "java/lang/UnsupportedOperationException") (by decide +kernel)) (hts (.initialized "java/lang/UnsupportedOperationException") (by decide +kernel)) hsa (vx_hat (B := DW) (fun w h => hts w (List.mem_cons_of_mem _ (List.mem_append_left _ (List.mem_append_right _ h)))) (by decide +kernel) (hcx.dw _)) (by decide +kernel) hcx.2.1.1 hcx.2.1.2 hS (hl.1.trans hml.symm) dX5_mark_13 dX5_mark_16 dX5_mark_17 dX5_mark_19 dX5_mark_22 (fun x hx => (hnt x hx).elim) (Nat.le_of_ble_eq_true rfl) (Nat.le_of_ble_eq_true rfl) (Nat.le_of_ble_eq_true rfl) (Nat.le_of_ble_eq_true rfl) hlocks (fun t hvm hz1 hq => ⟨⟨_, ?_, hm.kept hq⟩, ⟨Nat.le_trans hS.1 hz1, fun q h1 h2 => (hq q (Nat.lt_of_lt_of_le h1 hS.1)).trans (hS.2.1 q h1 h2)⟩⟩) hS.2.2 (Nat.le_of_ble_eq_true rfl) (Nat.le_of_ble_eq_true rfl)
      exact ⟨by simp, _, hT, hE⟩
  · subst hv1
    refine W.eq (g2 := F0 m 10 ls [.int 1]) rfl ?_
    refine W.widen (k := 1) (n := 6) (Nat.le_of_ble_eq_true rfl) (Nat.le_of_ble_eq_true rfl) ?_
    have hm : mm D (AZ z) Mc1 H := hm
    refine lv_if_ne (tgt := 23) hx hb dX5_mark_10 (by decide) (fun c5 => ?_) (fun c5 => ?_)
    · refine lv_aload_n hx hb dX5_mark_23 rfl (lv_at hl 0 rfl) ?_
      obtain ⟨v0_6, v1_6, v2_6, v3_6, v4_6, v5_6, v6_6, hM_x2_6, hk_v0_6, hk_v1_6, hk_v2_6, hk_v3_6, hk_v4_6, hz_v5_6⟩ := hT.txn hk_x2
      refine m_get (T := TX3) (N := 7) (ci := 3) (v := .int v6_6) hx hb hts wX3 hown hK hm hM_x2_6 rfl 6 (by decide) f227 (fun _ h9 => h9) rfl dX5_mark_24 ?_
      refine W.widen (k := 2) (n := 12) (by omega) (by omega) ?_
      refine vx_ret ?_
      refine W.iret (v := v6_6) hx hb hr (fun t ht hW => ⟨⟨some (.int v6_6), _, rfl, ?_, by rw [ht]; exact hm⟩, hS.F ht⟩) hS.2.2 dX5_mark_27
      exact ⟨_, hT, hE, ⟨_, rfl⟩⟩
    · first | exact absurd c5 (by decide) | exact absurd (by decide) c5

set_option maxHeartbeats 4000000 in
set_option maxRecDepth 100000 in
theorem t_X3_popMark (l : Launch) (D : va_G) (k : Nat → ClassId) (z : Nat) (M : mM) (κ : Nat → Option KD) (h0 : Nat) (hk_h0 : κ h0 = some .txn) (hT : TM k κ M) : mK l yX3_popMark wsX3_popMark ({ frames := 2, cells := 0, slots := 0, locals := 44 }) D k z [.ref h0] M (fun v M' => ∃ κ', TM k κ' M' ∧ kx κ M κ' M' ∧ (v = some (.int 0) ∨ v = some (.int 1))) := by
  refine Met.ofW (cc := cX3_popMark) (maxL := 2) (ret := (some .boolean)) (by decide) rfl ?_
  intro p e s m args below meth c s₁ B hml hv
  obtain ⟨rfl, hz, hcx, hm⟩ := hv
  have hx := B.exec
  have hb := B.bytes
  have hr := B.returns
  have hts := atoms_spec (ws := wsX3_popMark) B.pre
  have hown : s.vm.findClass RX3 = some m.cls := findClass_of_methodNamed B.named
  have hlocks := B.notSynchronized
  have hK := hcx.1
  have hS : va_S (AZ z) s.heap s.heap [] := va_S.rf
  have hA : ∀ q, s.heap.size ≤ q → AZ z q := fun q h => Nat.le_trans hz h
  have hl := lv_entry ([.ref h0]) (n := 2) (Nat.le_of_ble_eq_true rfl)
  rw [lg_entry_eq]
  generalize (lg_sl ([.ref h0]) ++ List.replicate (2 - (lg_sl ([.ref h0])).length) Slot.unset).toArray = ls at hl ⊢
  have hl : lv_has ls 2 [(0, .ref h0)] := hl
  have f33 := hts (.fieldLink RX3 33 "CommitTree$Transaction" "marked" "I") (by decide +kernel)
  have f37 := hts (.fieldLink RX3 37 "CommitTree$Transaction" "view" "LCommitTree$Tree;") (by decide +kernel)
  have wX3 : ∀ w ∈ wsX30, w ∈ wsX3_popMark := by decide +kernel
  have hT0 := hT
  have hE : kx κ M κ M := kx.refl _ _
  refine lv_aload_n hx hb dX3_popMark_0 rfl (lv_at hl 0 rfl) ?_
  refine lv_aload_n hx hb dX3_popMark_1 rfl (lv_at hl 0 rfl) ?_
  obtain ⟨v0_1, v1_1, v2_1, v3_1, v4_1, v5_1, v6_1, hM_h0_1, hk_v0_1, hk_v1_1, hk_v2_1, hk_v3_1, hk_v4_1, hz_v5_1⟩ := hT.txn hk_h0
  refine m_get (T := TX3) (N := 7) (ci := 3) (v := .int v6_1) hx hb hts wX3 hown hK hm hM_h0_1 rfl 6 (by decide) f33 (fun _ h9 => h9) rfl dX3_popMark_2 ?_
  refine lv_iconst (v := 1) hx hb dX3_popMark_5 (by decide) ?_
  refine lv_isub hx hb dX3_popMark_6 ?_
  refine m_kV (As := [.int (v6_1 - 1)]) (rest := []) (rm := { frames := 0, cells := 0, slots := 0, locals := 0 }) ⟨hx, hb, hml, hown, hts⟩ (t_X3_markAt_I l D k z _ _ h0 (v6_1 - 1) hk_h0 hT) (cwV 1 hts gX3_popMark_X3_markAt rfl rfl rfl (by decide +kernel) ⟨Nat.le_of_ble_eq_true rfl, Nat.le_of_ble_eq_true rfl⟩) (m_recv hK hm (q := (RX3, TX3, 7)) rfl hM_h0_1) hz hcx hm hS rfl hl.1 rfl (Nat.le_of_ble_eq_true rfl) dX3_popMark_7 ⟨Nat.le_of_ble_eq_true rfl, Nat.le_of_ble_eq_true rfl⟩ (fun v M1 H locs hv hm hS => ?_)
  obtain ⟨hv1, hM1⟩ := hv
  rw [hM1] at hm
  rcases hv1 with hv1 | ⟨x2, hv1, hk_x2⟩
  · subst hv1
    refine W.eq (g2 := F0 m 10 ls [.null]) rfl ?_
    refine W.widen (k := 0) (n := 0) (Nat.le_of_ble_eq_true rfl) (Nat.le_of_ble_eq_true rfl) ?_
    have hm : mm D (AZ z) M H := hm
    refine lv_astore_nN (lv' := [(1, .null), (0, .ref h0)]) hx hb dX3_popMark_10 rfl hl (by decide) rfl (fun ls hl => ?_)
    refine lv_aload_nN hx hb dX3_popMark_11 rfl (lv_at hl 0 rfl) ?_
    refine lv_ifnonnullN hx hb dX3_popMark_12 ?_
    refine lv_iconst (v := 0) hx hb dX3_popMark_15 (by decide) ?_
    refine W.zret hx hb hr rfl (fun t ht hW => ⟨⟨some (.int 0), _, rfl, ?_, by rw [ht]; exact hm⟩, hS.F ht⟩) hS.2.2 dX3_popMark_16
    exact ⟨_, hT, hE, Or.inl rfl⟩
  · subst hv1
    refine W.eq (g2 := F0 m 10 ls [.ref x2]) rfl ?_
    refine W.widen (k := 0) (n := 0) (Nat.le_of_ble_eq_true rfl) (Nat.le_of_ble_eq_true rfl) ?_
    have hm : mm D (AZ z) M H := hm
    refine lv_astore_n (lv' := [(1, .ref x2), (0, .ref h0)]) hx hb dX3_popMark_10 rfl hl (by decide) rfl (fun ls hl => ?_)
    refine lv_aload_n hx hb dX3_popMark_11 rfl (lv_at hl 0 rfl) ?_
    refine lv_ifnonnull (tgt := 17) hx hb dX3_popMark_12 (by decide) ?_
    refine lv_aload_n hx hb dX3_popMark_17 rfl (lv_at hl 1 rfl) ?_
    refine m_get (T := TX3) (N := 7) (ci := 3) (v := .ref v1_1) hx hb hts wX3 hown hK hm hM_h0_1 rfl 1 (by decide) f37 (fun _ h9 => h9) rfl dX3_popMark_18 ?_
    refine lv_aload_n hx hb dX3_popMark_21 rfl (lv_at hl 0 rfl) ?_
    obtain ⟨v0_3, v1_3, hM_v1_1_3, hk_v0_3, hn_v1_3⟩ := hT.tree hk_v1_1
    refine m_kV (As := [.ref x2]) (rest := []) (rm := { frames := 1, cells := 0, slots := 0, locals := 21 }) ⟨hx, hb, hml, hown, hts⟩ (t_X4_copyFrom_R l D k z _ _ v1_1 x2 hk_v1_1 hk_x2 hT) (cwV 1 hts gX3_popMark_X4_copyFrom rfl rfl rfl (by decide +kernel) ⟨Nat.le_of_ble_eq_true rfl, Nat.le_of_ble_eq_true rfl⟩) (m_recv hK hm (q := (RX4, TX4, 2)) rfl hM_v1_1_3) hz hcx hm hS rfl hl.1 rfl (Nat.le_of_ble_eq_true rfl) dX3_popMark_22 ⟨Nat.le_of_ble_eq_true rfl, Nat.le_of_ble_eq_true rfl⟩ (fun v M1 H locs hv hm hS => ?_)
    obtain ⟨κ1, hT9, hE9, hv1⟩ := hv
    have hk_h0 := hE9.k hT hk_h0
    have hk_v1_1 := hE9.k hT hk_v1_1
    have hk_x2 := hE9.k hT hk_x2
    have hE := hE.trans hT0 hT hE9
    have hT := hT9
    obtain ⟨Mc1, hMx⟩ : ∃ x : mM, x = M1 := ⟨M1, rfl⟩
    subst hMx
    subst hv1
    refine W.eq (g2 := F0 m 25 ls []) rfl ?_
    refine W.widen (k := 0) (n := 0) (Nat.le_of_ble_eq_true rfl) (Nat.le_of_ble_eq_true rfl) ?_
    have hm : mm D (AZ z) Mc1 H := hm
    refine lv_aload_n hx hb dX3_popMark_25 rfl (lv_at hl 1 rfl) ?_
    refine lv_dup hx hb dX3_popMark_26 rfl ?_
    obtain ⟨v0_4, v1_4, v2_4, v3_4, v4_4, v5_4, v6_4, hM_h0_4, hk_v0_4, hk_v1_4, hk_v2_4, hk_v3_4, hk_v4_4, hz_v5_4⟩ := hT.txn hk_h0
    refine m_get (T := TX3) (N := 7) (ci := 3) (v := .int v6_4) hx hb hts wX3 hown hK hm hM_h0_4 rfl 6 (by decide) f33 (fun _ h9 => h9) rfl dX3_popMark_27 ?_
    refine lv_iconst (v := 1) hx hb dX3_popMark_30 (by decide) ?_
    refine lv_isub hx hb dX3_popMark_31 ?_
    refine m_put (T := TX3) (N := 7) (ci := 3) (v := .int (v6_4 - 1)) (ty := .int) hx hb hts wX3 tyX3 tyX3_ok nmX3 hown hK hm hS hM_h0_4 rfl 6 (by decide) f33 (fun _ h9 => h9) rfl (by decide +kernel) rfl rfl (Nat.le_of_ble_eq_true rfl) dX3_popMark_32 (fun H locs hm hS => ?_)
    have hm : mm D (AZ z) (mu Mc1 h0 (.inr (3, [.ref v0_4, .ref v1_4, .ref v2_4, .ref v3_4, .ref v4_4, .int v5_4, .int (v6_4 - 1)]))) H := hm
    have hT : TM k κ1 (mu Mc1 h0 (.inr (3, [.ref v0_4, .ref v1_4, .ref v2_4, .ref v3_4, .ref v4_4, .int v5_4, .int (v6_4 - 1)]))) := hT.put hk_h0 (show wf k κ1 .txn (.inr (3, [.ref v0_4, .ref v1_4, .ref v2_4, .ref v3_4, .ref v4_4, .int v5_4, .int (v6_4 - 1)])) from ⟨v0_4, v1_4, v2_4, v3_4, v4_4, v5_4, (v6_4 - 1), rfl, hk_v0_4, hk_v1_4, hk_v2_4, hk_v3_4, hk_v4_4, hz_v5_4⟩)
    have hE : kx κ M κ1 (mu Mc1 h0 (.inr (3, [.ref v0_4, .ref v1_4, .ref v2_4, .ref v3_4, .ref v4_4, .int v5_4, .int (v6_4 - 1)]))) := hE.put hk_h0
    generalize (mu Mc1 h0 (.inr (3, [.ref v0_4, .ref v1_4, .ref v2_4, .ref v3_4, .ref v4_4, .int v5_4, .int (v6_4 - 1)]))) = Mc2 at hm hT hE
    refine lv_iconst (v := 1) hx hb dX3_popMark_35 (by decide) ?_
    refine W.zret hx hb hr rfl (fun t ht hW => ⟨⟨some (.int 1), _, rfl, ?_, by rw [ht]; exact hm⟩, hS.F ht⟩) hS.2.2 dX3_popMark_36
    exact ⟨_, hT, hE, Or.inr rfl⟩

set_option maxHeartbeats 4000000 in
set_option maxRecDepth 100000 in
theorem t_X5_back_I (l : Launch) (hlt : l.stackTraces = false) (D : va_G) (k : Nat → ClassId) (z : Nat) (M : mM) (κ : Nat → Option KD) (h0 : Nat) (a0 : Int32) (hk_h0 : κ h0 = some .top) (hT : TM k κ M) : mC l yX5_back wsX5_back ({ frames := 7, cells := 2, slots := 12, locals := 104 }) D k z [.ref h0, .int a0] M (fun v M' => ∃ κ', TM k κ' M' ∧ kx κ M κ' M' ∧ ∃ x, v = some (.int x)) (fun E M' => E ∈ (["java/lang/UnsupportedOperationException", "java/lang/IllegalStateException"] : List String) ∧ ∃ κ', TM k κ' M' ∧ kx κ M κ' M') := by
  refine vx_ofW (cc := cX5_back) (maxL := 3) (ret := (some .int)) (by decide) rfl ?_
  intro p e s m args below meth c s₁ B hml hnt hv
  obtain ⟨rfl, hz, hcx, hm⟩ := hv
  have hx := B.exec
  have hb := B.bytes
  have hr := B.returns
  have hts := atoms_spec (ws := wsX5_back) B.pre
  have hown : s.vm.findClass RX5 = some m.cls := findClass_of_methodNamed B.named
  have hlocks := B.notSynchronized
  have hK := hcx.1
  have hS : va_S (AZ z) s.heap s.heap [] := va_S.rf
  have hA : ∀ q, s.heap.size ≤ q → AZ z q := fun q h => Nat.le_trans hz h
  have hl := lv_entry ([.ref h0, .int a0]) (n := 3) (Nat.le_of_ble_eq_true rfl)
  rw [lg_entry_eq]
  generalize (lg_sl ([.ref h0, .int a0]) ++ List.replicate (3 - (lg_sl ([.ref h0, .int a0])).length) Slot.unset).toArray = ls at hl ⊢
  have hl : lv_has ls 3 [(0, .ref h0), (1, .int a0)] := hl
  have f227 := hts (.fieldLink RX5 227 "CommitTree$Transaction" "marked" "I") (by decide +kernel)
  have wX3 : ∀ w ∈ wsX30, w ∈ wsX5_back := by decide +kernel
  have hT0 := hT
  have hE : kx κ M κ M := kx.refl _ _
  refine lv_aload_n hx hb dX5_back_0 rfl (lv_at hl 0 rfl) ?_
  refine lv_iload_n hx hb dX5_back_1 rfl (lv_at hl 1 rfl) ?_
  obtain ⟨v0_1, v1_1, v2_1, v3_1, v4_1, v5_1, v6_1, v7_1, v8_1, v9_1, v10_1, hM_h0_1, hk_v0_1, hk_v1_1, hk_v2_1, hk_v3_1, hk_v4_1, hk_v5_1, hz_v9_1, hz_v10_1⟩ := hT.top hk_h0
  refine m_cV (As := [.int a0]) (rest := []) (rm := { frames := 6, cells := 1, slots := 6, locals := 82 }) ⟨hx, hb, hml, hown, hts⟩ (t_X5_opened_I l hlt D k z _ _ h0 a0 hk_h0 hT) (cwV 1 hts gX5_back_X5_opened rfl rfl rfl (by decide +kernel) ⟨Nat.le_of_ble_eq_true rfl, Nat.le_of_ble_eq_true rfl⟩) (m_recv hK hm (q := (RX5, TX5, 11)) rfl hM_h0_1) hz hcx hm hS rfl hl.1 rfl (Nat.le_of_ble_eq_true rfl) dX5_back_2 ⟨Nat.le_of_ble_eq_true rfl, Nat.le_of_ble_eq_true rfl⟩ (fun E ce q9 M1 H locs hv hm hS hce hcv hcl => ?_) (fun v M1 H locs hv hm hS => ?_)
  · refine vx_out (fun x hx => (hnt x hx).elim) hlocks hce hcv hcl (fun t ht hvm => ⟨⟨_, ?_, by rw [ht]; exact hm⟩, hS.F ht⟩) hS.2.2 (Nat.le_of_ble_eq_true rfl) (Nat.le_of_ble_eq_true rfl)
    obtain ⟨hE8, κ8, hT8, hx8⟩ := hv
    exact ⟨by simp only [List.mem_cons, List.not_mem_nil, or_false] at hE8 ⊢; first | exact hE8 | simp [hE8], κ8, hT8, hE.trans hT0 hT hx8⟩
  obtain ⟨hv1, hM1⟩ := hv
  rw [hM1] at hm
  obtain ⟨x2, hv1, hk_x2⟩ := hv1
  subst hv1
  refine W.eq (g2 := F0 m 5 ls [.ref x2]) rfl ?_
  refine W.widen (k := 1) (n := 6) (Nat.le_of_ble_eq_true rfl) (Nat.le_of_ble_eq_true rfl) ?_
  have hm : mm D (AZ z) M H := hm
  refine lv_astore_n (lv' := [(2, .ref x2), (0, .ref h0), (1, .int a0)]) hx hb dX5_back_5 rfl hl (by decide) rfl (fun ls hl => ?_)
  refine lv_aload_n hx hb dX5_back_6 rfl (lv_at hl 0 rfl) ?_
  obtain ⟨v0_3, v1_3, v2_3, v3_3, v4_3, v5_3, v6_3, hM_x2_3, hk_v0_3, hk_v1_3, hk_v2_3, hk_v3_3, hk_v4_3, hz_v5_3⟩ := hT.txn hk_x2
  refine m_kV (As := []) (rest := []) (rm := { frames := 2, cells := 0, slots := 0, locals := 44 }) ⟨hx, hb, hml, hown, hts⟩ (t_X3_popMark l D k z _ _ x2 hk_x2 hT) (cwV 0 hts gX5_back_X3_popMark rfl rfl rfl (by decide +kernel) ⟨Nat.le_of_ble_eq_true rfl, Nat.le_of_ble_eq_true rfl⟩) (m_recv hK hm (q := (RX3, TX3, 7)) rfl hM_x2_3) hz hcx hm hS rfl hl.1 rfl (Nat.le_of_ble_eq_true rfl) dX5_back_7 ⟨Nat.le_of_ble_eq_true rfl, Nat.le_of_ble_eq_true rfl⟩ (fun v M1 H locs hv hm hS => ?_)
  obtain ⟨κ1, hT9, hE9, hv1⟩ := hv
  have hk_h0 := hE9.k hT hk_h0
  have hk_x2 := hE9.k hT hk_x2
  have hE := hE.trans hT0 hT hE9
  have hT := hT9
  obtain ⟨Mc1, hMx⟩ : ∃ x : mM, x = M1 := ⟨M1, rfl⟩
  subst hMx
  rcases hv1 with hv1 | hv1
  · subst hv1
    refine W.eq (g2 := F0 m 10 ls [.int 0]) rfl ?_
    refine W.widen (k := 1) (n := 6) (Nat.le_of_ble_eq_true rfl) (Nat.le_of_ble_eq_true rfl) ?_
    have hm : mm D (AZ z) Mc1 H := hm
    refine lv_if_ne (tgt := 23) hx hb dX5_back_10 (by decide) (fun c4 => ?_) (fun c4 => ?_)
    · first | exact absurd c4 (by decide) | exact absurd (by decide) c4
    · obtain ⟨sa, hsa⟩ := hcx.2.2.1 (233, "there is no mark") (by decide)
      refine vx_throwS (own := RX5) (cls := "java/lang/UnsupportedOperationException") (text := "there is no mark") (names := ["java/lang/RuntimeException", "java/lang/Exception"]) (ik := 86) (is := 233) (ic := 90) (A := AZ z) hx hb hlt hown (by decide) (by decide) (hts (.classLink RX5 86 "java/lang/UnsupportedOperationException") (by decide +kernel)) (hts (.initialized "java/lang/UnsupportedOperationException") (by decide +kernel)) hsa (vx_hat (B := DW) (fun w h => hts w (List.mem_cons_of_mem _ (List.mem_append_left _ (List.mem_append_right _ h)))) (by decide +kernel) (hcx.dw _)) (by decide +kernel) hcx.2.1.1 hcx.2.1.2 hS (hl.1.trans hml.symm) dX5_back_13 dX5_back_16 dX5_back_17 dX5_back_19 dX5_back_22 (fun x hx => (hnt x hx).elim) (Nat.le_of_ble_eq_true rfl) (Nat.le_of_ble_eq_true rfl) (Nat.le_of_ble_eq_true rfl) (Nat.le_of_ble_eq_true rfl) hlocks (fun t hvm hz1 hq => ⟨⟨_, ?_, hm.kept hq⟩, ⟨Nat.le_trans hS.1 hz1, fun q h1 h2 => (hq q (Nat.lt_of_lt_of_le h1 hS.1)).trans (hS.2.1 q h1 h2)⟩⟩) hS.2.2 (Nat.le_of_ble_eq_true rfl) (Nat.le_of_ble_eq_true rfl)
      exact ⟨by simp, _, hT, hE⟩
  · subst hv1
    refine W.eq (g2 := F0 m 10 ls [.int 1]) rfl ?_
    refine W.widen (k := 1) (n := 6) (Nat.le_of_ble_eq_true rfl) (Nat.le_of_ble_eq_true rfl) ?_
    have hm : mm D (AZ z) Mc1 H := hm
    refine lv_if_ne (tgt := 23) hx hb dX5_back_10 (by decide) (fun c5 => ?_) (fun c5 => ?_)
    · refine lv_aload_n hx hb dX5_back_23 rfl (lv_at hl 0 rfl) ?_
      obtain ⟨v0_6, v1_6, v2_6, v3_6, v4_6, v5_6, v6_6, hM_x2_6, hk_v0_6, hk_v1_6, hk_v2_6, hk_v3_6, hk_v4_6, hz_v5_6⟩ := hT.txn hk_x2
      refine m_get (T := TX3) (N := 7) (ci := 3) (v := .int v6_6) hx hb hts wX3 hown hK hm hM_x2_6 rfl 6 (by decide) f227 (fun _ h9 => h9) rfl dX5_back_24 ?_
      refine W.widen (k := 2) (n := 12) (by omega) (by omega) ?_
      refine vx_ret ?_
      refine W.iret (v := v6_6) hx hb hr (fun t ht hW => ⟨⟨some (.int v6_6), _, rfl, ?_, by rw [ht]; exact hm⟩, hS.F ht⟩) hS.2.2 dX5_back_27
      exact ⟨_, hT, hE, ⟨_, rfl⟩⟩
    · first | exact absurd c5 (by decide) | exact absurd (by decide) c5

set_option maxHeartbeats 4000000 in
set_option maxRecDepth 100000 in
theorem t_X5_about_II (l : Launch) (hlt : l.stackTraces = false) (D : va_G) (k : Nat → ClassId) (z : Nat) (M : mM) (κ : Nat → Option KD) (h0 : Nat) (a0 : Int32) (a1 : Int32) (hk_h0 : κ h0 = some .top) (hT : TM k κ M) : mC l yX5_about wsX5_about ({ frames := 7, cells := 2, slots := 12, locals := 123 }) D k z [.ref h0, .int a0, .int a1] M (fun v M' => ∃ κ', TM k κ' M' ∧ kx κ M κ' M' ∧ ∃ x, v = some (.int x)) (fun E M' => E ∈ (["java/lang/IllegalArgumentException", "java/lang/IllegalStateException"] : List String) ∧ ∃ κ', TM k κ' M' ∧ kx κ M κ' M') := by
  refine vx_ofW (cc := cX5_about) (maxL := 4) (ret := (some .int)) (by decide) rfl ?_
  intro p e s m args below meth c s₁ B hml hnt hv
  obtain ⟨rfl, hz, hcx, hm⟩ := hv
  have hx := B.exec
  have hb := B.bytes
  have hr := B.returns
  have hts := atoms_spec (ws := wsX5_about) B.pre
  have hown : s.vm.findClass RX5 = some m.cls := findClass_of_methodNamed B.named
  have hlocks := B.notSynchronized
  have hK := hcx.1
  have hS : va_S (AZ z) s.heap s.heap [] := va_S.rf
  have hA : ∀ q, s.heap.size ≤ q → AZ z q := fun q h => Nat.le_trans hz h
  have hl := lv_entry ([.ref h0, .int a0, .int a1]) (n := 4) (Nat.le_of_ble_eq_true rfl)
  rw [lg_entry_eq]
  generalize (lg_sl ([.ref h0, .int a0, .int a1]) ++ List.replicate (4 - (lg_sl ([.ref h0, .int a0, .int a1])).length) Slot.unset).toArray = ls at hl ⊢
  have hl : lv_has ls 4 [(0, .ref h0), (1, .int a0), (2, .int a1)] := hl
  have f32 := hts (.fieldLink RX5 32 "CommitTree" "merge" "LCommitTree$Merge;") (by decide +kernel)
  have f103 := hts (.fieldLink RX5 103 "CommitTree$Merge" "items" "I") (by decide +kernel)
  have f106 := hts (.fieldLink RX5 106 "CommitTree$Transaction" "base" "LCommitTree$Tree;") (by decide +kernel)
  have f109 := hts (.fieldLink RX5 109 "CommitTree$Transaction" "view" "LCommitTree$Tree;") (by decide +kernel)
  have f131 := hts (.fieldLink RX5 131 "CommitTree$Tree" "size" "I") (by decide +kernel)
  have f227 := hts (.fieldLink RX5 227 "CommitTree$Transaction" "marked" "I") (by decide +kernel)
  have wX1 : ∀ w ∈ wsX10, w ∈ wsX5_about := by decide +kernel
  have wX3 : ∀ w ∈ wsX30, w ∈ wsX5_about := by decide +kernel
  have wX4 : ∀ w ∈ wsX40, w ∈ wsX5_about := by decide +kernel
  have wX5 : ∀ w ∈ wsX50, w ∈ wsX5_about := by decide +kernel
  have hT0 := hT
  have hE : kx κ M κ M := kx.refl _ _
  refine lv_aload_n hx hb dX5_about_0 rfl (lv_at hl 0 rfl) ?_
  refine lv_iload_n hx hb dX5_about_1 rfl (lv_at hl 1 rfl) ?_
  obtain ⟨v0_1, v1_1, v2_1, v3_1, v4_1, v5_1, v6_1, v7_1, v8_1, v9_1, v10_1, hM_h0_1, hk_v0_1, hk_v1_1, hk_v2_1, hk_v3_1, hk_v4_1, hk_v5_1, hz_v9_1, hz_v10_1⟩ := hT.top hk_h0
  refine m_cV (As := [.int a0]) (rest := []) (rm := { frames := 6, cells := 1, slots := 6, locals := 82 }) ⟨hx, hb, hml, hown, hts⟩ (t_X5_opened_I l hlt D k z _ _ h0 a0 hk_h0 hT) (cwV 1 hts gX5_about_X5_opened rfl rfl rfl (by decide +kernel) ⟨Nat.le_of_ble_eq_true rfl, Nat.le_of_ble_eq_true rfl⟩) (m_recv hK hm (q := (RX5, TX5, 11)) rfl hM_h0_1) hz hcx hm hS rfl hl.1 rfl (Nat.le_of_ble_eq_true rfl) dX5_about_2 ⟨Nat.le_of_ble_eq_true rfl, Nat.le_of_ble_eq_true rfl⟩ (fun E ce q9 M1 H locs hv hm hS hce hcv hcl => ?_) (fun v M1 H locs hv hm hS => ?_)
  · refine vx_out (fun x hx => (hnt x hx).elim) hlocks hce hcv hcl (fun t ht hvm => ⟨⟨_, ?_, by rw [ht]; exact hm⟩, hS.F ht⟩) hS.2.2 (Nat.le_of_ble_eq_true rfl) (Nat.le_of_ble_eq_true rfl)
    obtain ⟨hE8, κ8, hT8, hx8⟩ := hv
    exact ⟨by simp only [List.mem_cons, List.not_mem_nil, or_false] at hE8 ⊢; first | exact hE8 | simp [hE8], κ8, hT8, hE.trans hT0 hT hx8⟩
  obtain ⟨hv1, hM1⟩ := hv
  rw [hM1] at hm
  obtain ⟨x2, hv1, hk_x2⟩ := hv1
  subst hv1
  refine W.eq (g2 := F0 m 5 ls [.ref x2]) rfl ?_
  refine W.widen (k := 1) (n := 6) (Nat.le_of_ble_eq_true rfl) (Nat.le_of_ble_eq_true rfl) ?_
  have hm : mm D (AZ z) M H := hm
  refine lv_astore_n (lv' := [(3, .ref x2), (0, .ref h0), (1, .int a0), (2, .int a1)]) hx hb dX5_about_5 rfl hl (by decide) rfl (fun ls hl => ?_)
  refine lv_iload_n hx hb dX5_about_6 rfl (lv_at hl 3 rfl) ?_
  rcases (show ((a1).toInt < 0 ∨ 3 < (a1).toInt) ∨ (a1).toInt = 0 ∨ (a1).toInt = 1 ∨ (a1).toInt = 2 ∨ (a1).toInt = 3 by omega) with c3 | c3 | c3 | c3 | c3
  · refine lv_tableOut (tgt := 81) hx hb dX5_about_7 c3 (by decide) ?_
    obtain ⟨sa, hsa⟩ := hcx.2.2.1 (239, "no such what") (by decide)
    refine vx_throwS (own := RX5) (cls := "java/lang/IllegalArgumentException") (text := "no such what") (names := ["java/lang/RuntimeException", "java/lang/Exception"]) (ik := 175) (is := 239) (ic := 179) (A := AZ z) hx hb hlt hown (by decide) (by decide) (hts (.classLink RX5 175 "java/lang/IllegalArgumentException") (by decide +kernel)) (hts (.initialized "java/lang/IllegalArgumentException") (by decide +kernel)) hsa (vx_hat (B := DW) (fun w h => hts w (List.mem_cons_of_mem _ (List.mem_append_left _ (List.mem_append_right _ h)))) (by decide +kernel) (hcx.dw _)) (by decide +kernel) hcx.2.1.1 hcx.2.1.2 hS (hl.1.trans hml.symm) dX5_about_81 dX5_about_84 dX5_about_85 dX5_about_87 dX5_about_90 (fun x hx => (hnt x hx).elim) (Nat.le_of_ble_eq_true rfl) (Nat.le_of_ble_eq_true rfl) (Nat.le_of_ble_eq_true rfl) (Nat.le_of_ble_eq_true rfl) hlocks (fun t hvm hz1 hq => ⟨⟨_, ?_, hm.kept hq⟩, ⟨Nat.le_trans hS.1 hz1, fun q h1 h2 => (hq q (Nat.lt_of_lt_of_le h1 hS.1)).trans (hS.2.1 q h1 h2)⟩⟩) hS.2.2 (Nat.le_of_ble_eq_true rfl) (Nat.le_of_ble_eq_true rfl)
    exact ⟨by simp, _, hT, hE⟩
  · refine lv_tableIn (off := 29) (tgt := 36) hx hb dX5_about_7 (by omega) (by omega) (by rw [c3]; rfl) (by decide) ?_
    refine lv_aload_n hx hb dX5_about_36 rfl (lv_at hl 0 rfl) ?_
    obtain ⟨v0_4, v1_4, v2_4, v3_4, v4_4, v5_4, v6_4, hM_x2_4, hk_v0_4, hk_v1_4, hk_v2_4, hk_v3_4, hk_v4_4, hz_v5_4⟩ := hT.txn hk_x2
    refine m_kV (As := []) (rest := []) (rm := { frames := 1, cells := 0, slots := 0, locals := 21 }) ⟨hx, hb, hml, hown, hts⟩ (t_X3_itemsRead l D k z _ _ x2 hk_x2 hT) (cwV 0 hts gX5_about_X3_itemsRead rfl rfl rfl (by decide +kernel) ⟨Nat.le_of_ble_eq_true rfl, Nat.le_of_ble_eq_true rfl⟩) (m_recv hK hm (q := (RX3, TX3, 7)) rfl hM_x2_4) hz hcx hm hS rfl hl.1 rfl (Nat.le_of_ble_eq_true rfl) dX5_about_37 ⟨Nat.le_of_ble_eq_true rfl, Nat.le_of_ble_eq_true rfl⟩ (fun v M1 H locs hv hm hS => ?_)
    obtain ⟨hv1, hM1⟩ := hv
    rw [hM1] at hm
    obtain ⟨w5, hv1⟩ := hv1
    subst hv1
    refine W.eq (g2 := F0 m 40 ls [.int w5]) rfl ?_
    refine W.widen (k := 1) (n := 6) (Nat.le_of_ble_eq_true rfl) (Nat.le_of_ble_eq_true rfl) ?_
    have hm : mm D (AZ z) M H := hm
    refine W.widen (k := 2) (n := 12) (by omega) (by omega) ?_
    refine vx_ret ?_
    refine W.iret (v := w5) hx hb hr (fun t ht hW => ⟨⟨some (.int w5), _, rfl, ?_, by rw [ht]; exact hm⟩, hS.F ht⟩) hS.2.2 dX5_about_40
    exact ⟨_, hT, hE, ⟨_, rfl⟩⟩
  · refine lv_tableIn (off := 34) (tgt := 41) hx hb dX5_about_7 (by omega) (by omega) (by rw [c3]; rfl) (by decide) ?_
    refine lv_aload_n hx hb dX5_about_41 rfl (lv_at hl 1 rfl) ?_
    refine m_get (T := TX5) (N := 11) (ci := 5) (v := .ref v2_1) hx hb hts wX5 hown hK hm hM_h0_1 rfl 2 (by decide) f32 (fun _ h9 => h9) rfl dX5_about_42 ?_
    refine lv_aload_n hx hb dX5_about_45 rfl (lv_at hl 0 rfl) ?_
    obtain ⟨v0_6, v1_6, v2_6, v3_6, v4_6, v5_6, v6_6, hM_x2_6, hk_v0_6, hk_v1_6, hk_v2_6, hk_v3_6, hk_v4_6, hz_v5_6⟩ := hT.txn hk_x2
    refine m_get (T := TX3) (N := 7) (ci := 3) (v := .ref v0_6) hx hb hts wX3 hown hK hm hM_x2_6 rfl 0 (by decide) f106 (fun _ h9 => h9) rfl dX5_about_46 ?_
    refine lv_aload_n hx hb dX5_about_49 rfl (lv_at hl 0 rfl) ?_
    refine m_get (T := TX3) (N := 7) (ci := 3) (v := .ref v1_6) hx hb hts wX3 hown hK hm hM_x2_6 rfl 1 (by decide) f109 (fun _ h9 => h9) rfl dX5_about_50 ?_
    refine lv_aload_n hx hb dX5_about_53 rfl (lv_at hl 0 rfl) ?_
    refine m_get (T := TX3) (N := 7) (ci := 3) (v := .ref v0_6) hx hb hts wX3 hown hK hm hM_x2_6 rfl 0 (by decide) f106 (fun _ h9 => h9) rfl dX5_about_54 ?_
    obtain ⟨v0_7, v1_7, v2_7, v3_7, v4_7, v5_7, hM_v2_1_7, hk_v4_7, hk_v5_7⟩ := hT.merge hk_v2_1
    refine m_kV (As := [.ref v0_6, .ref v1_6, .ref v0_6]) (rest := []) (rm := { frames := 4, cells := 0, slots := 0, locals := 98 }) ⟨hx, hb, hml, hown, hts⟩ (t_X1_weigh_RRR l D k z _ _ v2_1 v0_6 v1_6 v0_6 hk_v2_1 hk_v0_6 hk_v1_6 hk_v0_6 hT) (cwV 3 hts gX5_about_X1_weigh rfl rfl rfl (by decide +kernel) ⟨Nat.le_of_ble_eq_true rfl, Nat.le_of_ble_eq_true rfl⟩) (m_recv hK hm (q := (RX1, TX1, 6)) rfl hM_v2_1_7) hz hcx hm hS rfl hl.1 rfl (Nat.le_of_ble_eq_true rfl) dX5_about_57 ⟨Nat.le_of_ble_eq_true rfl, Nat.le_of_ble_eq_true rfl⟩ (fun v M1 H locs hv hm hS => ?_)
    obtain ⟨κ1, hT9, hE9, hv1⟩ := hv
    have hk_h0 := hE9.k hT hk_h0
    have hk_v2_1 := hE9.k hT hk_v2_1
    have hk_x2 := hE9.k hT hk_x2
    have hE := hE.trans hT0 hT hE9
    have hT := hT9
    obtain ⟨Mc1, hMx⟩ : ∃ x : mM, x = M1 := ⟨M1, rfl⟩
    subst hMx
    subst hv1
    refine W.eq (g2 := F0 m 60 ls []) rfl ?_
    refine W.widen (k := 1) (n := 6) (Nat.le_of_ble_eq_true rfl) (Nat.le_of_ble_eq_true rfl) ?_
    have hm : mm D (AZ z) Mc1 H := hm
    refine lv_aload_n hx hb dX5_about_60 rfl (lv_at hl 1 rfl) ?_
    obtain ⟨v0_8, v1_8, v2_8, v3_8, v4_8, v5_8, v6_8, v7_8, v8_8, v9_8, v10_8, hM_h0_8, hk_v0_8, hk_v1_8, hk_v2_8, hk_v3_8, hk_v4_8, hk_v5_8, hz_v9_8, hz_v10_8⟩ := hT.top hk_h0
    refine m_get (T := TX5) (N := 11) (ci := 5) (v := .ref v2_8) hx hb hts wX5 hown hK hm hM_h0_8 rfl 2 (by decide) f32 (fun _ h9 => h9) rfl dX5_about_61 ?_
    obtain ⟨v0_9, v1_9, v2_9, v3_9, v4_9, v5_9, hM_v2_8_9, hk_v4_9, hk_v5_9⟩ := hT.merge hk_v2_8
    refine m_get (T := TX1) (N := 6) (ci := 1) (v := .int v0_9) hx hb hts wX1 hown hK hm hM_v2_8_9 rfl 0 (by decide) f103 (fun _ h9 => h9) rfl dX5_about_64 ?_
    refine W.widen (k := 2) (n := 12) (by omega) (by omega) ?_
    refine vx_ret ?_
    refine W.iret (v := v0_9) hx hb hr (fun t ht hW => ⟨⟨some (.int v0_9), _, rfl, ?_, by rw [ht]; exact hm⟩, hS.F ht⟩) hS.2.2 dX5_about_67
    exact ⟨_, hT, hE, ⟨_, rfl⟩⟩
  · refine lv_tableIn (off := 61) (tgt := 68) hx hb dX5_about_7 (by omega) (by omega) (by rw [c3]; rfl) (by decide) ?_
    refine lv_aload_n hx hb dX5_about_68 rfl (lv_at hl 0 rfl) ?_
    obtain ⟨v0_10, v1_10, v2_10, v3_10, v4_10, v5_10, v6_10, hM_x2_10, hk_v0_10, hk_v1_10, hk_v2_10, hk_v3_10, hk_v4_10, hz_v5_10⟩ := hT.txn hk_x2
    refine m_get (T := TX3) (N := 7) (ci := 3) (v := .ref v1_10) hx hb hts wX3 hown hK hm hM_x2_10 rfl 1 (by decide) f109 (fun _ h9 => h9) rfl dX5_about_69 ?_
    obtain ⟨v0_11, v1_11, hM_v1_10_11, hk_v0_11, hn_v1_11⟩ := hT.tree hk_v1_10
    refine m_get (T := TX4) (N := 2) (ci := 4) (v := .int (nI v1_11)) hx hb hts wX4 hown hK hm hM_v1_10_11 rfl 1 (by decide) f131 (fun _ h9 => h9) rfl dX5_about_72 ?_
    refine W.widen (k := 2) (n := 12) (by omega) (by omega) ?_
    refine vx_ret ?_
    refine W.iret (v := (nI v1_11)) hx hb hr (fun t ht hW => ⟨⟨some (.int (nI v1_11)), _, rfl, ?_, by rw [ht]; exact hm⟩, hS.F ht⟩) hS.2.2 dX5_about_75
    exact ⟨_, hT, hE, ⟨_, rfl⟩⟩
  · refine lv_tableIn (off := 69) (tgt := 76) hx hb dX5_about_7 (by omega) (by omega) (by rw [c3]; rfl) (by decide) ?_
    refine lv_aload_n hx hb dX5_about_76 rfl (lv_at hl 0 rfl) ?_
    obtain ⟨v0_12, v1_12, v2_12, v3_12, v4_12, v5_12, v6_12, hM_x2_12, hk_v0_12, hk_v1_12, hk_v2_12, hk_v3_12, hk_v4_12, hz_v5_12⟩ := hT.txn hk_x2
    refine m_get (T := TX3) (N := 7) (ci := 3) (v := .int v6_12) hx hb hts wX3 hown hK hm hM_x2_12 rfl 6 (by decide) f227 (fun _ h9 => h9) rfl dX5_about_77 ?_
    refine W.widen (k := 2) (n := 12) (by omega) (by omega) ?_
    refine vx_ret ?_
    refine W.iret (v := v6_12) hx hb hr (fun t ht hW => ⟨⟨some (.int v6_12), _, rfl, ?_, by rw [ht]; exact hm⟩, hS.F ht⟩) hS.2.2 dX5_about_80
    exact ⟨_, hT, hE, ⟨_, rfl⟩⟩

set_option maxHeartbeats 4000000 in
set_option maxRecDepth 100000 in
theorem t_X5_power_I (l : Launch) (hlt : l.stackTraces = false) (D : va_G) (k : Nat → ClassId) (z : Nat) (M : mM) (κ : Nat → Option KD) (h0 : Nat) (a0 : Int32) (hk_h0 : κ h0 = some .top) (hT : TM k κ M) : mC l yX5_power wsX5_power ({ frames := 6, cells := 1, slots := 6, locals := 82 }) D k z [.ref h0, .int a0] M (fun v M' => ∃ κ', TM k κ' M' ∧ kx κ M κ' M' ∧ v = none) (fun E M' => E ∈ (["java/lang/IllegalArgumentException"] : List String) ∧ ∃ κ', TM k κ' M' ∧ kx κ M κ' M') := by
  refine vx_ofW (cc := cX5_power) (maxL := 2) (ret := none) (by decide) rfl ?_
  intro p e s m args below meth c s₁ B hml hnt hv
  obtain ⟨rfl, hz, hcx, hm⟩ := hv
  have hx := B.exec
  have hb := B.bytes
  have hr := B.returns
  have hts := atoms_spec (ws := wsX5_power) B.pre
  have hown : s.vm.findClass RX5 = some m.cls := findClass_of_methodNamed B.named
  have hlocks := B.notSynchronized
  have hK := hcx.1
  have hS : va_S (AZ z) s.heap s.heap [] := va_S.rf
  have hA : ∀ q, s.heap.size ≤ q → AZ z q := fun q h => Nat.le_trans hz h
  have hl := lv_entry ([.ref h0, .int a0]) (n := 2) (Nat.le_of_ble_eq_true rfl)
  rw [lg_entry_eq]
  generalize (lg_sl ([.ref h0, .int a0]) ++ List.replicate (2 - (lg_sl ([.ref h0, .int a0])).length) Slot.unset).toArray = ls at hl ⊢
  have hl : lv_has ls 2 [(0, .ref h0), (1, .int a0)] := hl
  have f39 := hts (.fieldLink RX5 39 "CommitTree" "disk" "LCommitTree$Disk;") (by decide +kernel)
  have f243 := hts (.fieldLink RX5 243 "CommitTree$Disk" "left" "I") (by decide +kernel)
  have wX0 : ∀ w ∈ wsX00, w ∈ wsX5_power := by decide +kernel
  have wX5 : ∀ w ∈ wsX50, w ∈ wsX5_power := by decide +kernel
  have hT0 := hT
  have hE : kx κ M κ M := kx.refl _ _
  refine lv_iload_n hx hb dX5_power_0 rfl (lv_at hl 1 rfl) ?_
  refine lv_iconst (v := (-1)) hx hb dX5_power_1 (by decide) ?_
  refine lv_icmp_lt (tgt := 12) hx hb dX5_power_2 (by decide) (fun c1 => ?_) (fun c1 => ?_)
  · obtain ⟨sa, hsa⟩ := hcx.2.2.1 (241, "not NONE .. 1000") (by decide)
    refine vx_throwS (own := RX5) (cls := "java/lang/IllegalArgumentException") (text := "not NONE .. 1000") (names := ["java/lang/RuntimeException", "java/lang/Exception"]) (ik := 175) (is := 241) (ic := 179) (A := AZ z) hx hb hlt hown (by decide) (by decide) (hts (.classLink RX5 175 "java/lang/IllegalArgumentException") (by decide +kernel)) (hts (.initialized "java/lang/IllegalArgumentException") (by decide +kernel)) hsa (vx_hat (B := DW) (fun w h => hts w (List.mem_cons_of_mem _ (List.mem_append_right _ h))) (by decide +kernel) (hcx.dw _)) (by decide +kernel) hcx.2.1.1 hcx.2.1.2 hS (hl.1.trans hml.symm) dX5_power_12 dX5_power_15 dX5_power_16 dX5_power_18 dX5_power_21 (fun x hx => (hnt x hx).elim) (Nat.le_of_ble_eq_true rfl) (Nat.le_of_ble_eq_true rfl) (Nat.le_of_ble_eq_true rfl) (Nat.le_of_ble_eq_true rfl) hlocks (fun t hvm hz1 hq => ⟨⟨_, ?_, hm.kept hq⟩, ⟨Nat.le_trans hS.1 hz1, fun q h1 h2 => (hq q (Nat.lt_of_lt_of_le h1 hS.1)).trans (hS.2.1 q h1 h2)⟩⟩) hS.2.2 (Nat.le_of_ble_eq_true rfl) (Nat.le_of_ble_eq_true rfl)
    exact ⟨by simp, _, hT, hE⟩
  · refine lv_iload_n hx hb dX5_power_5 rfl (lv_at hl 1 rfl) ?_
    refine lv_sipush (v := 1000) hx hb dX5_power_6 (by decide) ?_
    refine lv_icmp_le (tgt := 22) hx hb dX5_power_9 (by decide) (fun c2 => ?_) (fun c2 => ?_)
    · refine lv_aload_n hx hb dX5_power_22 rfl (lv_at hl 0 rfl) ?_
      obtain ⟨v0_3, v1_3, v2_3, v3_3, v4_3, v5_3, v6_3, v7_3, v8_3, v9_3, v10_3, hM_h0_3, hk_v0_3, hk_v1_3, hk_v2_3, hk_v3_3, hk_v4_3, hk_v5_3, hz_v9_3, hz_v10_3⟩ := hT.top hk_h0
      refine m_get (T := TX5) (N := 11) (ci := 5) (v := .ref v3_3) hx hb hts wX5 hown hK hm hM_h0_3 rfl 3 (by decide) f39 (fun _ h9 => h9) rfl dX5_power_23 ?_
      refine lv_iload_n hx hb dX5_power_26 rfl (lv_at hl 1 rfl) ?_
      obtain ⟨v0_4, v1_4, hM_v3_3_4⟩ := hT.disk hk_v3_3
      refine m_put (T := TX0) (N := 2) (ci := 0) (v := .int a0) (ty := .int) hx hb hts wX0 tyX0 tyX0_ok nmX0 hown hK hm hS hM_v3_3_4 rfl 1 (by decide) f243 (fun _ h9 => h9) rfl (by decide +kernel) rfl rfl (Nat.le_of_ble_eq_true rfl) dX5_power_27 (fun H locs hm hS => ?_)
      have hm : mm D (AZ z) (mu M v3_3 (.inr (0, [.int v0_4, .int a0]))) H := hm
      have hR_5 : (mu M v3_3 (.inr (0, [.int v0_4, .int a0]))) h0 = _ := (mu_ne (kd_ne hk_h0 hk_v3_3 (by decide))).trans hM_h0_3
      have hT : TM k κ (mu M v3_3 (.inr (0, [.int v0_4, .int a0]))) := hT.put hk_v3_3 (show wf k κ .disk (.inr (0, [.int v0_4, .int a0])) from ⟨v0_4, a0, rfl⟩)
      have hE : kx κ M κ (mu M v3_3 (.inr (0, [.int v0_4, .int a0]))) := hE.put hk_v3_3
      generalize (mu M v3_3 (.inr (0, [.int v0_4, .int a0]))) = Mc1 at hm hT hE hR_5
      refine W.widen (k := 1) (n := 6) (by omega) (by omega) ?_
      refine vx_ret ?_
      refine W.vret hx hb hr (fun t ht hW => ⟨⟨none, _, rfl, ?_, by rw [ht]; exact hm⟩, hS.F ht⟩) hS.2.2 dX5_power_30
      exact ⟨_, hT, hE, rfl⟩
    · obtain ⟨sa, hsa⟩ := hcx.2.2.1 (241, "not NONE .. 1000") (by decide)
      refine vx_throwS (own := RX5) (cls := "java/lang/IllegalArgumentException") (text := "not NONE .. 1000") (names := ["java/lang/RuntimeException", "java/lang/Exception"]) (ik := 175) (is := 241) (ic := 179) (A := AZ z) hx hb hlt hown (by decide) (by decide) (hts (.classLink RX5 175 "java/lang/IllegalArgumentException") (by decide +kernel)) (hts (.initialized "java/lang/IllegalArgumentException") (by decide +kernel)) hsa (vx_hat (B := DW) (fun w h => hts w (List.mem_cons_of_mem _ (List.mem_append_right _ h))) (by decide +kernel) (hcx.dw _)) (by decide +kernel) hcx.2.1.1 hcx.2.1.2 hS (hl.1.trans hml.symm) dX5_power_12 dX5_power_15 dX5_power_16 dX5_power_18 dX5_power_21 (fun x hx => (hnt x hx).elim) (Nat.le_of_ble_eq_true rfl) (Nat.le_of_ble_eq_true rfl) (Nat.le_of_ble_eq_true rfl) (Nat.le_of_ble_eq_true rfl) hlocks (fun t hvm hz1 hq => ⟨⟨_, ?_, hm.kept hq⟩, ⟨Nat.le_trans hS.1 hz1, fun q h1 h2 => (hq q (Nat.lt_of_lt_of_le h1 hS.1)).trans (hS.2.1 q h1 h2)⟩⟩) hS.2.2 (Nat.le_of_ble_eq_true rfl) (Nat.le_of_ble_eq_true rfl)
      exact ⟨by simp, _, hT, hE⟩

set_option maxHeartbeats 4000000 in
set_option maxRecDepth 100000 in
theorem t_X5_recover (l : Launch) (hlt : l.stackTraces = false) (D : va_G) (k : Nat → ClassId) (z : Nat) (M : mM) (κ : Nat → Option KD) (h0 : Nat) (hk_h0 : κ h0 = some .top) (hT : TM k κ M) : mC l yX5_recover wsX5_recover ({ frames := 6, cells := 1, slots := 6, locals := 82 }) D k z [.ref h0] M (fun v M' => ∃ κ', TM k κ' M' ∧ kx κ M κ' M' ∧ ∃ x, v = some (.int x)) (fun E M' => E ∈ (["java/lang/IllegalStateException"] : List String) ∧ ∃ κ', TM k κ' M' ∧ kx κ M κ' M') := by
  refine vx_ofW (cc := cX5_recover) (maxL := 1) (ret := (some .int)) (by decide) rfl ?_
  intro p e s m args below meth c s₁ B hml hnt hv
  obtain ⟨rfl, hz, hcx, hm⟩ := hv
  have hx := B.exec
  have hb := B.bytes
  have hr := B.returns
  have hts := atoms_spec (ws := wsX5_recover) B.pre
  have hown : s.vm.findClass RX5 = some m.cls := findClass_of_methodNamed B.named
  have hlocks := B.notSynchronized
  have hK := hcx.1
  have hS : va_S (AZ z) s.heap s.heap [] := va_S.rf
  have hA : ∀ q, s.heap.size ≤ q → AZ z q := fun q h => Nat.le_trans hz h
  have hl := lv_entry ([.ref h0]) (n := 1) (Nat.le_of_ble_eq_true rfl)
  rw [lg_entry_eq]
  generalize (lg_sl ([.ref h0]) ++ List.replicate (1 - (lg_sl ([.ref h0])).length) Slot.unset).toArray = ls at hl ⊢
  have hl : lv_has ls 1 [(0, .ref h0)] := hl
  have f63 := hts (.fieldLink RX5 63 "CommitTree" "homeBlocks" "I") (by decide +kernel)
  have f66 := hts (.fieldLink RX5 66 "CommitTree" "down" "Z") (by decide +kernel)
  have f70 := hts (.fieldLink RX5 70 "CommitTree" "recordCounts" "Z") (by decide +kernel)
  have wX5 : ∀ w ∈ wsX50, w ∈ wsX5_recover := by decide +kernel
  have hT0 := hT
  have hE : kx κ M κ M := kx.refl _ _
  refine lv_aload_n hx hb dX5_recover_0 rfl (lv_at hl 0 rfl) ?_
  obtain ⟨v0_1, v1_1, v2_1, v3_1, v4_1, v5_1, v6_1, v7_1, v8_1, v9_1, v10_1, hM_h0_1, hk_v0_1, hk_v1_1, hk_v2_1, hk_v3_1, hk_v4_1, hk_v5_1, hz_v9_1, hz_v10_1⟩ := hT.top hk_h0
  rcases hz_v9_1 with h9 | h9
  · subst h9
    refine m_get (T := TX5) (N := 11) (ci := 5) (v := .int 0) hx hb hts wX5 hown hK hm hM_h0_1 rfl 9 (by decide) f66 (fun _ h9 => h9) rfl dX5_recover_1 ?_
    refine lv_if_ne (tgt := 17) hx hb dX5_recover_4 (by decide) (fun c2 => ?_) (fun c2 => ?_)
    · first | exact absurd c2 (by decide) | exact absurd (by decide) c2
    · obtain ⟨sa, hsa⟩ := hcx.2.2.1 (246, "all is not down") (by decide)
      refine vx_throwS (own := RX5) (cls := "java/lang/IllegalStateException") (text := "all is not down") (names := ["java/lang/RuntimeException", "java/lang/Exception"]) (ik := 73) (is := 246) (ic := 77) (A := AZ z) hx hb hlt hown (by decide) (by decide) (hts (.classLink RX5 73 "java/lang/IllegalStateException") (by decide +kernel)) (hts (.initialized "java/lang/IllegalStateException") (by decide +kernel)) hsa (vx_hat (B := DW) (fun w h => hts w (List.mem_cons_of_mem _ (List.mem_append_right _ h))) (by decide +kernel) (hcx.dw _)) (by decide +kernel) hcx.2.1.1 hcx.2.1.2 hS (hl.1.trans hml.symm) dX5_recover_7 dX5_recover_10 dX5_recover_11 dX5_recover_13 dX5_recover_16 (fun x hx => (hnt x hx).elim) (Nat.le_of_ble_eq_true rfl) (Nat.le_of_ble_eq_true rfl) (Nat.le_of_ble_eq_true rfl) (Nat.le_of_ble_eq_true rfl) hlocks (fun t hvm hz1 hq => ⟨⟨_, ?_, hm.kept hq⟩, ⟨Nat.le_trans hS.1 hz1, fun q h1 h2 => (hq q (Nat.lt_of_lt_of_le h1 hS.1)).trans (hS.2.1 q h1 h2)⟩⟩) hS.2.2 (Nat.le_of_ble_eq_true rfl) (Nat.le_of_ble_eq_true rfl)
      exact ⟨by simp, _, hT, hE⟩
  · subst h9
    refine m_get (T := TX5) (N := 11) (ci := 5) (v := .int 1) hx hb hts wX5 hown hK hm hM_h0_1 rfl 9 (by decide) f66 (fun _ h9 => h9) rfl dX5_recover_1 ?_
    refine lv_if_ne (tgt := 17) hx hb dX5_recover_4 (by decide) (fun c3 => ?_) (fun c3 => ?_)
    · refine lv_aload_n hx hb dX5_recover_17 rfl (lv_at hl 0 rfl) ?_
      rcases hz_v10_1 with h9 | h9
      · subst h9
        refine m_get (T := TX5) (N := 11) (ci := 5) (v := .int 0) hx hb hts wX5 hown hK hm hM_h0_1 rfl 10 (by decide) f70 (fun _ h9 => h9) rfl dX5_recover_18 ?_
        refine lv_if_ne (tgt := 31) hx hb dX5_recover_21 (by decide) (fun c4 => ?_) (fun c4 => ?_)
        · first | exact absurd c4 (by decide) | exact absurd (by decide) c4
        · refine lv_aload_n hx hb dX5_recover_24 rfl (lv_at hl 0 rfl) ?_
          refine lv_iconst (v := 0) hx hb dX5_recover_25 (by decide) ?_
          refine m_put (T := TX5) (N := 11) (ci := 5) (v := .int 0) (ty := .boolean) hx hb hts wX5 tyX5 tyX5_ok nmX5 hown hK hm hS hM_h0_1 rfl 9 (by decide) f66 (fun _ h9 => h9) rfl (by decide +kernel) rfl rfl (Nat.le_of_ble_eq_true rfl) dX5_recover_26 (fun H locs hm hS => ?_)
          have hm : mm D (AZ z) (mu M h0 (.inr (5, [.ref v0_1, .ref v1_1, .ref v2_1, .ref v3_1, .ref v4_1, .ref v5_1, .int v6_1, .int v7_1, .int v8_1, .int 0, .int 0]))) H := hm
          have hT : TM k κ (mu M h0 (.inr (5, [.ref v0_1, .ref v1_1, .ref v2_1, .ref v3_1, .ref v4_1, .ref v5_1, .int v6_1, .int v7_1, .int v8_1, .int 0, .int 0]))) := hT.put hk_h0 (show wf k κ .top (.inr (5, [.ref v0_1, .ref v1_1, .ref v2_1, .ref v3_1, .ref v4_1, .ref v5_1, .int v6_1, .int v7_1, .int v8_1, .int 0, .int 0])) from ⟨v0_1, v1_1, v2_1, v3_1, v4_1, v5_1, v6_1, v7_1, v8_1, 0, 0, rfl, hk_v0_1, hk_v1_1, hk_v2_1, hk_v3_1, hk_v4_1, hk_v5_1, (Or.inl rfl), (Or.inl rfl)⟩)
          have hE : kx κ M κ (mu M h0 (.inr (5, [.ref v0_1, .ref v1_1, .ref v2_1, .ref v3_1, .ref v4_1, .ref v5_1, .int v6_1, .int v7_1, .int v8_1, .int 0, .int 0]))) := hE.put hk_h0
          generalize (mu M h0 (.inr (5, [.ref v0_1, .ref v1_1, .ref v2_1, .ref v3_1, .ref v4_1, .ref v5_1, .int v6_1, .int v7_1, .int v8_1, .int 0, .int 0]))) = Mc1 at hm hT hE
          refine lv_iconst (v := 0) hx hb dX5_recover_29 (by decide) ?_
          refine W.widen (k := 1) (n := 6) (by omega) (by omega) ?_
          refine vx_ret ?_
          refine W.iret (v := 0) hx hb hr (fun t ht hW => ⟨⟨some (.int 0), _, rfl, ?_, by rw [ht]; exact hm⟩, hS.F ht⟩) hS.2.2 dX5_recover_30
          exact ⟨_, hT, hE, ⟨_, rfl⟩⟩
      · subst h9
        refine m_get (T := TX5) (N := 11) (ci := 5) (v := .int 1) hx hb hts wX5 hown hK hm hM_h0_1 rfl 10 (by decide) f70 (fun _ h9 => h9) rfl dX5_recover_18 ?_
        refine lv_if_ne (tgt := 31) hx hb dX5_recover_21 (by decide) (fun c5 => ?_) (fun c5 => ?_)
        · refine lv_aload_n hx hb dX5_recover_31 rfl (lv_at hl 0 rfl) ?_
          refine m_kV (As := []) (rest := []) (rm := { frames := 2, cells := 0, slots := 0, locals := 44 }) ⟨hx, hb, hml, hown, hts⟩ (t_X5_broughtHome l D k z _ _ h0 hk_h0 hT) (cwV 0 hts gX5_recover_X5_broughtHome rfl rfl rfl (by decide +kernel) ⟨Nat.le_of_ble_eq_true rfl, Nat.le_of_ble_eq_true rfl⟩) (m_recv hK hm (q := (RX5, TX5, 11)) rfl hM_h0_1) hz hcx hm hS rfl hl.1 rfl (Nat.le_of_ble_eq_true rfl) dX5_recover_32 ⟨Nat.le_of_ble_eq_true rfl, Nat.le_of_ble_eq_true rfl⟩ (fun v M1 H locs hv hm hS => ?_)
          obtain ⟨κ2, hT9, hE9, hv1⟩ := hv
          have hk_h0 := hE9.k hT hk_h0
          have hE := hE.trans hT0 hT hE9
          have hT := hT9
          obtain ⟨Mc2, hMx⟩ : ∃ x : mM, x = M1 := ⟨M1, rfl⟩
          subst hMx
          rcases hv1 with hv1 | hv1
          · subst hv1
            refine W.eq (g2 := F0 m 35 ls [.int 0]) rfl ?_
            refine W.widen (k := 0) (n := 0) (Nat.le_of_ble_eq_true rfl) (Nat.le_of_ble_eq_true rfl) ?_
            have hm : mm D (AZ z) Mc2 H := hm
            refine lv_if_ne (tgt := 41) hx hb dX5_recover_35 (by decide) (fun c6 => ?_) (fun c6 => ?_)
            · first | exact absurd c6 (by decide) | exact absurd (by decide) c6
            · refine lv_bipush (v := (-4)) hx hb dX5_recover_38 (by decide) ?_
              refine W.widen (k := 1) (n := 6) (by omega) (by omega) ?_
              refine vx_ret ?_
              refine W.iret (v := (-4)) hx hb hr (fun t ht hW => ⟨⟨some (.int (-4)), _, rfl, ?_, by rw [ht]; exact hm⟩, hS.F ht⟩) hS.2.2 dX5_recover_40
              exact ⟨_, hT, hE, ⟨_, rfl⟩⟩
          · subst hv1
            refine W.eq (g2 := F0 m 35 ls [.int 1]) rfl ?_
            refine W.widen (k := 0) (n := 0) (Nat.le_of_ble_eq_true rfl) (Nat.le_of_ble_eq_true rfl) ?_
            have hm : mm D (AZ z) Mc2 H := hm
            refine lv_if_ne (tgt := 41) hx hb dX5_recover_35 (by decide) (fun c7 => ?_) (fun c7 => ?_)
            · refine lv_aload_n hx hb dX5_recover_41 rfl (lv_at hl 0 rfl) ?_
              refine lv_iconst (v := 0) hx hb dX5_recover_42 (by decide) ?_
              obtain ⟨v0_8, v1_8, v2_8, v3_8, v4_8, v5_8, v6_8, v7_8, v8_8, v9_8, v10_8, hM_h0_8, hk_v0_8, hk_v1_8, hk_v2_8, hk_v3_8, hk_v4_8, hk_v5_8, hz_v9_8, hz_v10_8⟩ := hT.top hk_h0
              refine m_put (T := TX5) (N := 11) (ci := 5) (v := .int 0) (ty := .boolean) hx hb hts wX5 tyX5 tyX5_ok nmX5 hown hK hm hS hM_h0_8 rfl 9 (by decide) f66 (fun _ h9 => h9) rfl (by decide +kernel) rfl rfl (Nat.le_of_ble_eq_true rfl) dX5_recover_43 (fun H locs hm hS => ?_)
              have hm : mm D (AZ z) (mu Mc2 h0 (.inr (5, [.ref v0_8, .ref v1_8, .ref v2_8, .ref v3_8, .ref v4_8, .ref v5_8, .int v6_8, .int v7_8, .int v8_8, .int 0, .int v10_8]))) H := hm
              have hT : TM k κ2 (mu Mc2 h0 (.inr (5, [.ref v0_8, .ref v1_8, .ref v2_8, .ref v3_8, .ref v4_8, .ref v5_8, .int v6_8, .int v7_8, .int v8_8, .int 0, .int v10_8]))) := hT.put hk_h0 (show wf k κ2 .top (.inr (5, [.ref v0_8, .ref v1_8, .ref v2_8, .ref v3_8, .ref v4_8, .ref v5_8, .int v6_8, .int v7_8, .int v8_8, .int 0, .int v10_8])) from ⟨v0_8, v1_8, v2_8, v3_8, v4_8, v5_8, v6_8, v7_8, v8_8, 0, v10_8, rfl, hk_v0_8, hk_v1_8, hk_v2_8, hk_v3_8, hk_v4_8, hk_v5_8, (Or.inl rfl), hz_v10_8⟩)
              have hE : kx κ M κ2 (mu Mc2 h0 (.inr (5, [.ref v0_8, .ref v1_8, .ref v2_8, .ref v3_8, .ref v4_8, .ref v5_8, .int v6_8, .int v7_8, .int v8_8, .int 0, .int v10_8]))) := hE.put hk_h0
              generalize (mu Mc2 h0 (.inr (5, [.ref v0_8, .ref v1_8, .ref v2_8, .ref v3_8, .ref v4_8, .ref v5_8, .int v6_8, .int v7_8, .int v8_8, .int 0, .int v10_8]))) = Mc3 at hm hT hE
              refine lv_aload_n hx hb dX5_recover_46 rfl (lv_at hl 0 rfl) ?_
              obtain ⟨v0_9, v1_9, v2_9, v3_9, v4_9, v5_9, v6_9, v7_9, v8_9, v9_9, v10_9, hM_h0_9, hk_v0_9, hk_v1_9, hk_v2_9, hk_v3_9, hk_v4_9, hk_v5_9, hz_v9_9, hz_v10_9⟩ := hT.top hk_h0
              refine m_get (T := TX5) (N := 11) (ci := 5) (v := .int v8_9) hx hb hts wX5 hown hK hm hM_h0_9 rfl 8 (by decide) f63 (fun _ h9 => h9) rfl dX5_recover_47 ?_
              refine lv_iconst (v := 1) hx hb dX5_recover_50 (by decide) ?_
              refine lv_iadd hx hb dX5_recover_51 ?_
              refine W.widen (k := 1) (n := 6) (by omega) (by omega) ?_
              refine vx_ret ?_
              refine W.iret (v := (v8_9 + 1)) hx hb hr (fun t ht hW => ⟨⟨some (.int (v8_9 + 1)), _, rfl, ?_, by rw [ht]; exact hm⟩, hS.F ht⟩) hS.2.2 dX5_recover_52
              exact ⟨_, hT, hE, ⟨_, rfl⟩⟩
            · first | exact absurd c7 (by decide) | exact absurd (by decide) c7
        · first | exact absurd c5 (by decide) | exact absurd (by decide) c5
    · first | exact absurd c3 (by decide) | exact absurd (by decide) c3

set_option maxHeartbeats 4000000 in
set_option maxRecDepth 100000 in
theorem t_X2_blocks (l : Launch) (D : va_G) (k : Nat → ClassId) (z : Nat) (M : mM) (κ : Nat → Option KD) (h0 : Nat) (hk_h0 : κ h0 = some .node) (hT : TM k κ M) : mK l yX2_blocks wsX2_blocks ({ frames := 1, cells := 0, slots := 0, locals := 20 }) D k z [.ref h0] M (fun v M' => (∃ x, v = some (.int x)) ∧ M' = M) := by
  refine Met.ofW (cc := cX2_blocks) (maxL := 1) (ret := (some .int)) (by decide) rfl ?_
  intro p e s m args below meth c s₁ B hml hv
  obtain ⟨rfl, hz, hcx, hm⟩ := hv
  have hx := B.exec
  have hb := B.bytes
  have hr := B.returns
  have hts := atoms_spec (ws := wsX2_blocks) B.pre
  have hown : s.vm.findClass RX2 = some m.cls := findClass_of_methodNamed B.named
  have hlocks := B.notSynchronized
  have hK := hcx.1
  have hS : va_S (AZ z) s.heap s.heap [] := va_S.rf
  have hA : ∀ q, s.heap.size ≤ q → AZ z q := fun q h => Nat.le_trans hz h
  have hl := lv_entry ([.ref h0]) (n := 1) (Nat.le_of_ble_eq_true rfl)
  rw [lg_entry_eq]
  generalize (lg_sl ([.ref h0]) ++ List.replicate (1 - (lg_sl ([.ref h0])).length) Slot.unset).toArray = ls at hl ⊢
  have hl : lv_has ls 1 [(0, .ref h0)] := hl
  have f15 := hts (.fieldLink RX2 15 "CommitTree$Node" "directory" "Z") (by decide +kernel)
  have f19 := hts (.fieldLink RX2 19 "CommitTree$Node" "size" "I") (by decide +kernel)
  have wX2 : ∀ w ∈ wsX20, w ∈ wsX2_blocks := by decide +kernel
  have hT0 := hT
  have hE : kx κ M κ M := kx.refl _ _
  refine lv_aload_n hx hb dX2_blocks_0 rfl (lv_at hl 0 rfl) ?_
  obtain ⟨v0_1, v1_1, v2_1, v3_1, hM_h0_1, hz_v1_1, hk_v3_1⟩ := hT.node hk_h0
  rcases hz_v1_1 with h9 | h9
  · subst h9
    refine m_get (T := TX2) (N := 4) (ci := 2) (v := .int 0) hx hb hts wX2 hown hK hm hM_h0_1 rfl 1 (by decide) f15 (fun _ h9 => h9) rfl dX2_blocks_1 ?_
    refine lv_if_eq (tgt := 11) hx hb dX2_blocks_4 (by decide) (fun c2 => ?_) (fun c2 => ?_)
    · refine lv_iconst (v := 1) hx hb dX2_blocks_11 (by decide) ?_
      refine lv_aload_n hx hb dX2_blocks_12 rfl (lv_at hl 0 rfl) ?_
      refine m_get (T := TX2) (N := 4) (ci := 2) (v := .int v2_1) hx hb hts wX2 hown hK hm hM_h0_1 rfl 2 (by decide) f19 (fun _ h9 => h9) rfl dX2_blocks_13 ?_
      refine m_kS (As := [.int v2_1]) (rest := [.int 1]) (rm := { frames := 0, cells := 0, slots := 0, locals := 0 }) ⟨hx, hb, hml, hown, hts⟩ (t_X2_wordBlocks_I l D k z _ _ v2_1  hT) (cwS 1 hts gX2_blocks_X2_wordBlocks rfl rfl rfl (by decide +kernel) ⟨Nat.le_of_ble_eq_true rfl, Nat.le_of_ble_eq_true rfl⟩) hz hcx hm hS rfl hl.1 rfl (Nat.le_of_ble_eq_true rfl) dX2_blocks_16 ⟨Nat.le_of_ble_eq_true rfl, Nat.le_of_ble_eq_true rfl⟩ (fun v M1 H locs hv hm hS => ?_)
      obtain ⟨hv1, hM1⟩ := hv
      rw [hM1] at hm
      obtain ⟨w3, hv1⟩ := hv1
      subst hv1
      refine W.eq (g2 := F0 m 19 ls [.int w3, .int 1]) rfl ?_
      refine W.widen (k := 0) (n := 0) (Nat.le_of_ble_eq_true rfl) (Nat.le_of_ble_eq_true rfl) ?_
      have hm : mm D (AZ z) M H := hm
      refine lv_iadd hx hb dX2_blocks_19 ?_
      refine W.iret (v := (1 + w3)) hx hb hr (fun t ht hW => ⟨⟨some (.int (1 + w3)), _, rfl, ?_, by rw [ht]; exact hm⟩, hS.F ht⟩) hS.2.2 dX2_blocks_20
      exact ⟨⟨_, rfl⟩, rfl⟩
    · first | exact absurd c2 (by decide) | exact absurd (by decide) c2
  · subst h9
    refine m_get (T := TX2) (N := 4) (ci := 2) (v := .int 1) hx hb hts wX2 hown hK hm hM_h0_1 rfl 1 (by decide) f15 (fun _ h9 => h9) rfl dX2_blocks_1 ?_
    refine lv_if_eq (tgt := 11) hx hb dX2_blocks_4 (by decide) (fun c4 => ?_) (fun c4 => ?_)
    · first | exact absurd c4 (by decide) | exact absurd (by decide) c4
    · refine lv_iconst (v := 1) hx hb dX2_blocks_7 (by decide) ?_
      refine lv_goto (tgt := 20) hx hb dX2_blocks_8 (by decide) ?_
      refine W.iret (v := 1) hx hb hr (fun t ht hW => ⟨⟨some (.int 1), _, rfl, ?_, by rw [ht]; exact hm⟩, hS.F ht⟩) hS.2.2 dX2_blocks_20
      exact ⟨⟨_, rfl⟩, rfl⟩

