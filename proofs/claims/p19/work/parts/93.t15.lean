set_option maxHeartbeats 4000000 in
set_option maxRecDepth 100000 in
theorem t_X3_lookAtSize_R (l : Launch) (D : va_G) (k : Nat → ClassId) (z : Nat) (M : mM) (κ : Nat → Option KD) (h0 : Nat) (r0 : Nat) (hk_h0 : κ h0 = some .txn) (hk_r0 : κ r0 = some .node) (hT : TM k κ M) : mK l yX3_lookAtSize wsX3_lookAtSize ({ frames := 1, cells := 0, slots := 0, locals := 23 }) D k z [.ref h0, .ref r0] M (fun v M' => ∃ κ', TM k κ' M' ∧ kx κ M κ' M' ∧ v = none) := by
  refine Met.ofW (cc := cX3_lookAtSize) (maxL := 4) (ret := none) (by decide) rfl ?_
  intro p e s m args below meth c s₁ B hml hv
  obtain ⟨rfl, hz, hcx, hm⟩ := hv
  have hx := B.exec
  have hb := B.bytes
  have hr := B.returns
  have hts := atoms_spec (ws := wsX3_lookAtSize) B.pre
  have hown : s.vm.findClass RX3 = some m.cls := findClass_of_methodNamed B.named
  have hlocks := B.notSynchronized
  have hK := hcx.1
  have hS : va_S (AZ z) s.heap s.heap [] := va_S.rf
  have hA : ∀ q, s.heap.size ≤ q → AZ z q := fun q h => Nat.le_trans hz h
  have hl := lv_entry ([.ref h0, .ref r0]) (n := 4) (Nat.le_of_ble_eq_true rfl)
  rw [lg_entry_eq]
  generalize (lg_sl ([.ref h0, .ref r0]) ++ List.replicate (4 - (lg_sl ([.ref h0, .ref r0])).length) Slot.unset).toArray = ls at hl ⊢
  have hl : lv_has ls 4 [(0, .ref h0), (1, .ref r0)] := hl
  have f12 := hts (.fieldLink RX3 12 "CommitTree$Transaction" "base" "LCommitTree$Tree;") (by decide +kernel)
  have f26 := hts (.fieldLink RX3 26 "CommitTree$Transaction" "factsRead" "[J") (by decide +kernel)
  have f71 := hts (.fieldLink RX3 71 "CommitTree$Node" "id" "I") (by decide +kernel)
  have f84 := hts (.fieldLink RX3 84 "CommitTree$Node" "size" "I") (by decide +kernel)
  have wX2 : ∀ w ∈ wsX20, w ∈ wsX3_lookAtSize := by decide +kernel
  have wX3 : ∀ w ∈ wsX30, w ∈ wsX3_lookAtSize := by decide +kernel
  have hT0 := hT
  have hE : kx κ M κ M := kx.refl _ _
  refine lv_aload_n hx hb dX3_lookAtSize_0 rfl (lv_at hl 0 rfl) ?_
  obtain ⟨v0_1, v1_1, v2_1, v3_1, v4_1, v5_1, v6_1, hM_h0_1, hk_v0_1, hk_v1_1, hk_v2_1, hk_v3_1, hk_v4_1, hz_v5_1⟩ := hT.txn hk_h0
  refine m_get (T := TX3) (N := 7) (ci := 3) (v := .ref v0_1) hx hb hts wX3 hown hK hm hM_h0_1 rfl 0 (by decide) f12 (fun _ h9 => h9) rfl dX3_lookAtSize_1 ?_
  refine lv_aload_n hx hb dX3_lookAtSize_4 rfl (lv_at hl 1 rfl) ?_
  obtain ⟨v0_2, v1_2, v2_2, v3_2, hM_r0_2, hz_v1_2, hk_v3_2⟩ := hT.node hk_r0
  refine m_get (T := TX2) (N := 4) (ci := 2) (v := .int v0_2) hx hb hts wX2 hown hK hm hM_r0_2 rfl 0 (by decide) f71 (fun _ h9 => h9) rfl dX3_lookAtSize_5 ?_
  obtain ⟨v0_3, v1_3, hM_v0_1_3, hk_v0_3, hn_v1_3⟩ := hT.tree hk_v0_1
  refine m_kV (As := [.int v0_2]) (rest := []) (rm := { frames := 0, cells := 0, slots := 0, locals := 0 }) ⟨hx, hb, hml, hown, hts⟩ (t_X4_placeOf_I l D k z _ _ v0_1 v0_2 hk_v0_1 hT) (cwV 1 hts gX3_lookAtSize_X4_placeOf rfl rfl rfl (by decide +kernel) ⟨Nat.le_of_ble_eq_true rfl, Nat.le_of_ble_eq_true rfl⟩) (m_recv hK hm (q := (RX4, TX4, 2)) rfl hM_v0_1_3) hz hcx hm hS rfl hl.1 rfl (Nat.le_of_ble_eq_true rfl) dX3_lookAtSize_8 ⟨Nat.le_of_ble_eq_true rfl, Nat.le_of_ble_eq_true rfl⟩ (fun v M1 H locs hv hm hS => ?_)
  obtain ⟨hv1, hM1⟩ := hv
  rw [hM1] at hm
  obtain ⟨w4, hv1⟩ := hv1
  subst hv1
  refine W.eq (g2 := F0 m 11 ls [.int w4]) rfl ?_
  refine W.widen (k := 0) (n := 0) (Nat.le_of_ble_eq_true rfl) (Nat.le_of_ble_eq_true rfl) ?_
  have hm : mm D (AZ z) M H := hm
  refine lv_istore_n (lv' := [(2, .int w4), (0, .ref h0), (1, .ref r0)]) hx hb dX3_lookAtSize_11 rfl hl (by decide) rfl (fun ls hl => ?_)
  refine lv_aload_n hx hb dX3_lookAtSize_12 rfl (lv_at hl 1 rfl) ?_
  refine m_get (T := TX3) (N := 7) (ci := 3) (v := .ref v0_1) hx hb hts wX3 hown hK hm hM_h0_1 rfl 0 (by decide) f12 (fun _ h9 => h9) rfl dX3_lookAtSize_13 ?_
  refine lv_iload_n hx hb dX3_lookAtSize_16 rfl (lv_at hl 0 rfl) ?_
  refine m_kV (As := [.int w4]) (rest := []) (rm := { frames := 0, cells := 0, slots := 0, locals := 0 }) ⟨hx, hb, hml, hown, hts⟩ (t_X4_at_I l D k z _ _ v0_1 w4 hk_v0_1 hT) (cwV 1 hts gX3_lookAtSize_X4_at rfl rfl rfl (by decide +kernel) ⟨Nat.le_of_ble_eq_true rfl, Nat.le_of_ble_eq_true rfl⟩) (m_recv hK hm (q := (RX4, TX4, 2)) rfl hM_v0_1_3) hz hcx hm hS rfl hl.1 rfl (Nat.le_of_ble_eq_true rfl) dX3_lookAtSize_17 ⟨Nat.le_of_ble_eq_true rfl, Nat.le_of_ble_eq_true rfl⟩ (fun v M1 H locs hv hm hS => ?_)
  obtain ⟨hv1, hM1⟩ := hv
  rw [hM1] at hm
  rcases hv1 with hv1 | ⟨x5, hv1, hk_x5, hx9⟩
  · subst hv1
    refine W.eq (g2 := F0 m 20 ls [.null]) rfl ?_
    refine W.widen (k := 0) (n := 0) (Nat.le_of_ble_eq_true rfl) (Nat.le_of_ble_eq_true rfl) ?_
    have hm : mm D (AZ z) M H := hm
    refine lv_astore_nN (lv' := [(3, .null), (2, .int w4), (0, .ref h0), (1, .ref r0)]) hx hb dX3_lookAtSize_20 rfl hl (by decide) rfl (fun ls hl => ?_)
    refine lv_aload_nN hx hb dX3_lookAtSize_21 rfl (lv_at hl 0 rfl) ?_
    refine lv_ifnullN (tgt := 45) hx hb dX3_lookAtSize_22 (by decide) ?_
    refine W.vret hx hb hr (fun t ht hW => ⟨⟨none, _, rfl, ?_, by rw [ht]; exact hm⟩, hS.F ht⟩) hS.2.2 dX3_lookAtSize_45
    exact ⟨_, hT, hE, rfl⟩
  · subst hv1
    refine W.eq (g2 := F0 m 20 ls [.ref x5]) rfl ?_
    refine W.widen (k := 0) (n := 0) (Nat.le_of_ble_eq_true rfl) (Nat.le_of_ble_eq_true rfl) ?_
    have hm : mm D (AZ z) M H := hm
    refine lv_astore_n (lv' := [(3, .ref x5), (2, .int w4), (0, .ref h0), (1, .ref r0)]) hx hb dX3_lookAtSize_20 rfl hl (by decide) rfl (fun ls hl => ?_)
    refine lv_aload_n hx hb dX3_lookAtSize_21 rfl (lv_at hl 0 rfl) ?_
    refine lv_ifnull hx hb dX3_lookAtSize_22 ?_
    refine lv_aload_n hx hb dX3_lookAtSize_25 rfl (lv_at hl 0 rfl) ?_
    obtain ⟨v0_6, v1_6, v2_6, v3_6, hM_x5_6, hz_v1_6, hk_v3_6⟩ := hT.node hk_x5
    refine m_get (T := TX2) (N := 4) (ci := 2) (v := .int v2_6) hx hb hts wX2 hown hK hm hM_x5_6 rfl 2 (by decide) f84 (fun _ h9 => h9) rfl dX3_lookAtSize_26 ?_
    refine lv_aload_n hx hb dX3_lookAtSize_29 rfl (lv_at hl 3 rfl) ?_
    refine m_get (T := TX2) (N := 4) (ci := 2) (v := .int v2_2) hx hb hts wX2 hown hK hm hM_r0_2 rfl 2 (by decide) f84 (fun _ h9 => h9) rfl dX3_lookAtSize_30 ?_
    refine lv_icmp_ne (tgt := 45) hx hb dX3_lookAtSize_33 (by decide) (fun c7 => ?_) (fun c7 => ?_)
    · refine W.vret hx hb hr (fun t ht hW => ⟨⟨none, _, rfl, ?_, by rw [ht]; exact hm⟩, hS.F ht⟩) hS.2.2 dX3_lookAtSize_45
      exact ⟨_, hT, hE, rfl⟩
    · refine lv_aload_n hx hb dX3_lookAtSize_36 rfl (lv_at hl 2 rfl) ?_
      refine m_get (T := TX3) (N := 7) (ci := 3) (v := .ref v4_1) hx hb hts wX3 hown hK hm hM_h0_1 rfl 4 (by decide) f26 (fun _ h9 => h9) rfl dX3_lookAtSize_37 ?_
      refine lv_iload_n hx hb dX3_lookAtSize_40 rfl (lv_at hl 1 rfl) ?_
      refine lv_iconst (v := 0) hx hb dX3_lookAtSize_41 (by decide) ?_
      refine m_kS (As := [.ref v4_1, .int w4, .int 0]) (rest := []) (rm := { frames := 0, cells := 0, slots := 0, locals := 0 }) ⟨hx, hb, hml, hown, hts⟩ (t_X3_noteRead_RII l D k z _ _ v4_1 w4 0 hk_v4_1 hT) (cwS 3 hts gX3_lookAtSize_X3_noteRead rfl rfl rfl (by decide +kernel) ⟨Nat.le_of_ble_eq_true rfl, Nat.le_of_ble_eq_true rfl⟩) hz hcx hm hS rfl hl.1 rfl (Nat.le_of_ble_eq_true rfl) dX3_lookAtSize_42 ⟨Nat.le_of_ble_eq_true rfl, Nat.le_of_ble_eq_true rfl⟩ (fun v M1 H locs hv hm hS => ?_)
      obtain ⟨κ1, hT9, hE9, hv1⟩ := hv
      have hk_h0 := hE9.k hT hk_h0
      have hk_r0 := hE9.k hT hk_r0
      have hk_x5 := hE9.k hT hk_x5
      have hE := hE.trans hT0 hT hE9
      have hT := hT9
      obtain ⟨Mc1, hMx⟩ : ∃ x : mM, x = M1 := ⟨M1, rfl⟩
      subst hMx
      subst hv1
      refine W.eq (g2 := F0 m 45 ls []) rfl ?_
      refine W.widen (k := 0) (n := 0) (Nat.le_of_ble_eq_true rfl) (Nat.le_of_ble_eq_true rfl) ?_
      have hm : mm D (AZ z) Mc1 H := hm
      refine W.vret hx hb hr (fun t ht hW => ⟨⟨none, _, rfl, ?_, by rw [ht]; exact hm⟩, hS.F ht⟩) hS.2.2 dX3_lookAtSize_45
      exact ⟨_, hT, hE, rfl⟩

set_option maxHeartbeats 4000000 in
set_option maxRecDepth 100000 in
theorem t_X5_measuredFile_RI (l : Launch) (hlt : l.stackTraces = false) (D : va_G) (k : Nat → ClassId) (z : Nat) (M : mM) (κ : Nat → Option KD) (r0 : Nat) (a1 : Int32) (hk_r0 : κ r0 = some .txn) (hT : TM k κ M) : mC l yX5_measuredFile wsX5_measuredFile ({ frames := 7, cells := 2, slots := 12, locals := 102 }) D k z [.ref r0, .int a1] M (fun v M' => ∃ κ', TM k κ' M' ∧ kx κ M κ' M' ∧ ∃ a, v = some (.ref a) ∧ κ' a = some .node) (fun E M' => E ∈ (["java/util/NoSuchElementException", "java/lang/UnsupportedOperationException", "java/lang/IllegalArgumentException"] : List String) ∧ ∃ κ', TM k κ' M' ∧ kx κ M κ' M') := by
  refine vx_ofW (cc := cX5_measuredFile) (maxL := 3) (ret := (some (.object "CommitTree$Node"))) (by decide) rfl ?_
  intro p e s m args below meth c s₁ B hml hnt hv
  obtain ⟨rfl, hz, hcx, hm⟩ := hv
  have hx := B.exec
  have hb := B.bytes
  have hr := B.returns
  have hts := atoms_spec (ws := wsX5_measuredFile) B.pre
  have hown : s.vm.findClass RX5 = some m.cls := findClass_of_methodNamed B.named
  have hlocks := B.notSynchronized
  have hK := hcx.1
  have hS : va_S (AZ z) s.heap s.heap [] := va_S.rf
  have hA : ∀ q, s.heap.size ≤ q → AZ z q := fun q h => Nat.le_trans hz h
  have hl := lv_entry ([.ref r0, .int a1]) (n := 3) (Nat.le_of_ble_eq_true rfl)
  rw [lg_entry_eq]
  generalize (lg_sl ([.ref r0, .int a1]) ++ List.replicate (3 - (lg_sl ([.ref r0, .int a1])).length) Slot.unset).toArray = ls at hl ⊢
  have hl : lv_has ls 3 [(0, .ref r0), (1, .int a1)] := hl
  have f159 := hts (.fieldLink RX5 159 "CommitTree$Node" "directory" "Z") (by decide +kernel)
  have wX2 : ∀ w ∈ wsX20, w ∈ wsX5_measuredFile := by decide +kernel
  have hT0 := hT
  have hE : kx κ M κ M := kx.refl _ _
  refine lv_iload_n hx hb dX5_measuredFile_0 rfl (lv_at hl 1 rfl) ?_
  refine m_cS (As := [.int a1]) (rest := []) (rm := { frames := 6, cells := 1, slots := 6, locals := 82 }) ⟨hx, hb, hml, hown, hts⟩ (c_X5_needPath l hlt D k z _ a1) (cwS 1 hts gX5_measuredFile_X5_needPath rfl rfl rfl (by decide +kernel) ⟨Nat.le_of_ble_eq_true rfl, Nat.le_of_ble_eq_true rfl⟩) hz hcx hm hS rfl hl.1 rfl (Nat.le_of_ble_eq_true rfl) dX5_measuredFile_1 ⟨Nat.le_of_ble_eq_true rfl, Nat.le_of_ble_eq_true rfl⟩ (fun E ce q9 M1 H locs hv hm hS hce hcv hcl => ?_) (fun v M1 H locs hv hm hS => ?_)
  · refine vx_out (fun x hx => (hnt x hx).elim) hlocks hce hcv hcl (fun t ht hvm => ⟨⟨_, ?_, by rw [ht]; exact hm⟩, hS.F ht⟩) hS.2.2 (Nat.le_of_ble_eq_true rfl) (Nat.le_of_ble_eq_true rfl)
    obtain ⟨-, hE8, hM8⟩ := hv
    rw [hM8]
    exact ⟨by rw [hE8]; simp, _, hT, hE⟩
  obtain ⟨-, hv1, hM1⟩ := hv
  rw [hM1] at hm
  subst hv1
  refine W.eq (g2 := F0 m 4 ls []) rfl ?_
  refine W.widen (k := 1) (n := 6) (Nat.le_of_ble_eq_true rfl) (Nat.le_of_ble_eq_true rfl) ?_
  have hm : mm D (AZ z) M H := hm
  refine lv_aload_n hx hb dX5_measuredFile_4 rfl (lv_at hl 0 rfl) ?_
  refine lv_iload_n hx hb dX5_measuredFile_5 rfl (lv_at hl 1 rfl) ?_
  obtain ⟨v0_1, v1_1, v2_1, v3_1, v4_1, v5_1, v6_1, hM_r0_1, hk_v0_1, hk_v1_1, hk_v2_1, hk_v3_1, hk_v4_1, hz_v5_1⟩ := hT.txn hk_r0
  refine m_kV (As := [.int a1]) (rest := []) (rm := { frames := 3, cells := 0, slots := 0, locals := 69 }) ⟨hx, hb, hml, hown, hts⟩ (t_X3_lookUp_I l D k z _ _ r0 a1 hk_r0 hT) (cwV 1 hts gX5_measuredFile_X3_lookUp rfl rfl rfl (by decide +kernel) ⟨Nat.le_of_ble_eq_true rfl, Nat.le_of_ble_eq_true rfl⟩) (m_recv hK hm (q := (RX3, TX3, 7)) rfl hM_r0_1) hz hcx hm hS rfl hl.1 rfl (Nat.le_of_ble_eq_true rfl) dX5_measuredFile_6 ⟨Nat.le_of_ble_eq_true rfl, Nat.le_of_ble_eq_true rfl⟩ (fun v M1 H locs hv hm hS => ?_)
  obtain ⟨κ1, hT9, hE9, hv1⟩ := hv
  have hk_r0 := hE9.k hT hk_r0
  have hE := hE.trans hT0 hT hE9
  have hT := hT9
  obtain ⟨Mc1, hMx⟩ : ∃ x : mM, x = M1 := ⟨M1, rfl⟩
  subst hMx
  rcases hv1 with hv1 | ⟨x2, hv1, hk_x2⟩
  · subst hv1
    refine W.eq (g2 := F0 m 9 ls [.null]) rfl ?_
    refine W.widen (k := 1) (n := 6) (Nat.le_of_ble_eq_true rfl) (Nat.le_of_ble_eq_true rfl) ?_
    have hm : mm D (AZ z) Mc1 H := hm
    refine lv_astore_nN (lv' := [(2, .null), (0, .ref r0), (1, .int a1)]) hx hb dX5_measuredFile_9 rfl hl (by decide) rfl (fun ls hl => ?_)
    refine lv_aload_nN hx hb dX5_measuredFile_10 rfl (lv_at hl 0 rfl) ?_
    refine lv_ifnonnullN hx hb dX5_measuredFile_11 ?_
    obtain ⟨sa, hsa⟩ := hcx.2.2.1 (156, "there is nothing at the path") (by decide)
    refine nx_throwS (own := RX5) (cls := "java/util/NoSuchElementException") (Y := "java/lang/RuntimeException") (text := "there is nothing at the path") (names := ["java/lang/Exception"]) (ik := 154) (is := 156) (ic := 158) (i1 := 13) (b1 := prog_21_method_4_code) (A := AZ z) hx hb hlt hown (by decide) (by decide) (by decide) (by decide +kernel) (by decide +kernel) (by decide +kernel) (by decide +kernel) (hts (.classLink RX5 154 "java/util/NoSuchElementException") (by decide +kernel)) (hts (.initialized "java/util/NoSuchElementException") (by decide +kernel)) hsa (vx_hat (B := DW) (fun w h => hts w (List.mem_cons_of_mem _ (List.mem_append_left _ (List.mem_append_left _ (List.mem_append_right _ h))))) (by decide +kernel) (hcx.dw _)) (by decide +kernel) hcx.2.1.1 hcx.2.1.2 hS (hl.1.trans hml.symm) dX5_measuredFile_14 dX5_measuredFile_17 dX5_measuredFile_18 dX5_measuredFile_20 dX5_measuredFile_23 (fun x hx => (hnt x hx).elim) (Nat.le_of_ble_eq_true rfl) (Nat.le_of_ble_eq_true rfl) (Nat.le_of_ble_eq_true rfl) (Nat.le_of_ble_eq_true rfl) hlocks (fun t hvm hz1 hq => ⟨⟨_, ?_, hm.kept hq⟩, ⟨Nat.le_trans hS.1 hz1, fun q h1 h2 => (hq q (Nat.lt_of_lt_of_le h1 hS.1)).trans (hS.2.1 q h1 h2)⟩⟩) hS.2.2 (Nat.le_of_ble_eq_true rfl) (Nat.le_of_ble_eq_true rfl)
    exact ⟨by simp, _, hT, hE⟩
  · subst hv1
    refine W.eq (g2 := F0 m 9 ls [.ref x2]) rfl ?_
    refine W.widen (k := 1) (n := 6) (Nat.le_of_ble_eq_true rfl) (Nat.le_of_ble_eq_true rfl) ?_
    have hm : mm D (AZ z) Mc1 H := hm
    refine lv_astore_n (lv' := [(2, .ref x2), (0, .ref r0), (1, .int a1)]) hx hb dX5_measuredFile_9 rfl hl (by decide) rfl (fun ls hl => ?_)
    refine lv_aload_n hx hb dX5_measuredFile_10 rfl (lv_at hl 0 rfl) ?_
    refine lv_ifnonnull (tgt := 24) hx hb dX5_measuredFile_11 (by decide) ?_
    refine lv_aload_n hx hb dX5_measuredFile_24 rfl (lv_at hl 0 rfl) ?_
    obtain ⟨v0_3, v1_3, v2_3, v3_3, hM_x2_3, hz_v1_3, hk_v3_3⟩ := hT.node hk_x2
    rcases hz_v1_3 with h9 | h9
    · subst h9
      refine m_get (T := TX2) (N := 4) (ci := 2) (v := .int 0) hx hb hts wX2 hown hK hm hM_x2_3 rfl 1 (by decide) f159 (fun _ h9 => h9) rfl dX5_measuredFile_25 ?_
      refine lv_if_eq (tgt := 42) hx hb dX5_measuredFile_28 (by decide) (fun c4 => ?_) (fun c4 => ?_)
      · refine lv_aload_n hx hb dX5_measuredFile_42 rfl (lv_at hl 1 rfl) ?_
        refine lv_aload_n hx hb dX5_measuredFile_43 rfl (lv_at hl 0 rfl) ?_
        obtain ⟨v0_5, v1_5, v2_5, v3_5, v4_5, v5_5, v6_5, hM_r0_5, hk_v0_5, hk_v1_5, hk_v2_5, hk_v3_5, hk_v4_5, hz_v5_5⟩ := hT.txn hk_r0
        refine m_kV (As := [.ref x2]) (rest := []) (rm := { frames := 1, cells := 0, slots := 0, locals := 23 }) ⟨hx, hb, hml, hown, hts⟩ (t_X3_lookAtSize_R l D k z _ _ r0 x2 hk_r0 hk_x2 hT) (cwV 1 hts gX5_measuredFile_X3_lookAtSize rfl rfl rfl (by decide +kernel) ⟨Nat.le_of_ble_eq_true rfl, Nat.le_of_ble_eq_true rfl⟩) (m_recv hK hm (q := (RX3, TX3, 7)) rfl hM_r0_5) hz hcx hm hS rfl hl.1 rfl (Nat.le_of_ble_eq_true rfl) dX5_measuredFile_44 ⟨Nat.le_of_ble_eq_true rfl, Nat.le_of_ble_eq_true rfl⟩ (fun v M1 H locs hv hm hS => ?_)
        obtain ⟨κ2, hT9, hE9, hv1⟩ := hv
        have hk_r0 := hE9.k hT hk_r0
        have hk_x2 := hE9.k hT hk_x2
        have hE := hE.trans hT0 hT hE9
        have hT := hT9
        obtain ⟨Mc2, hMx⟩ : ∃ x : mM, x = M1 := ⟨M1, rfl⟩
        subst hMx
        subst hv1
        refine W.eq (g2 := F0 m 47 ls []) rfl ?_
        refine W.widen (k := 1) (n := 6) (Nat.le_of_ble_eq_true rfl) (Nat.le_of_ble_eq_true rfl) ?_
        have hm : mm D (AZ z) Mc2 H := hm
        refine lv_aload_n hx hb dX5_measuredFile_47 rfl (lv_at hl 0 rfl) ?_
        refine W.widen (k := 2) (n := 12) (by omega) (by omega) ?_
        refine vx_ret ?_
        refine W.aret (v := .ref x2) hx hb hr (Or.inl ⟨_, rfl⟩) (Or.inr ⟨_, rfl⟩) (fun t ht hW => ⟨⟨some (.ref x2), _, rfl, ?_, by rw [ht]; exact hm⟩, hS.F ht⟩) hS.2.2 dX5_measuredFile_48
        exact ⟨_, hT, hE, ⟨_, rfl, hk_x2⟩⟩
      · first | exact absurd c4 (by decide) | exact absurd (by decide) c4
    · subst h9
      refine m_get (T := TX2) (N := 4) (ci := 2) (v := .int 1) hx hb hts wX2 hown hK hm hM_x2_3 rfl 1 (by decide) f159 (fun _ h9 => h9) rfl dX5_measuredFile_25 ?_
      refine lv_if_eq (tgt := 42) hx hb dX5_measuredFile_28 (by decide) (fun c6 => ?_) (fun c6 => ?_)
      · first | exact absurd c6 (by decide) | exact absurd (by decide) c6
      · obtain ⟨sa, hsa⟩ := hcx.2.2.1 (275, "it is a directory") (by decide)
        refine vx_throwSW (own := RX5) (cls := "java/lang/UnsupportedOperationException") (text := "it is a directory") (names := ["java/lang/RuntimeException", "java/lang/Exception"]) (ik := 86) (is := 275) (ic := 90) (A := AZ z) hx hb hlt hown (by decide) (by decide) (hts (.classLink RX5 86 "java/lang/UnsupportedOperationException") (by decide +kernel)) (hts (.initialized "java/lang/UnsupportedOperationException") (by decide +kernel)) hsa (vx_hat (B := DW) (fun w h => hts w (List.mem_cons_of_mem _ (List.mem_append_left _ (List.mem_append_right _ h)))) (by decide +kernel) (hcx.dw _)) (by decide +kernel) hcx.2.1.1 hcx.2.1.2 hS (hl.1.trans hml.symm) dX5_measuredFile_31 dX5_measuredFile_34 dX5_measuredFile_35 dX5_measuredFile_38 dX5_measuredFile_41 (fun x hx => (hnt x hx).elim) (Nat.le_of_ble_eq_true rfl) (Nat.le_of_ble_eq_true rfl) (Nat.le_of_ble_eq_true rfl) (Nat.le_of_ble_eq_true rfl) hlocks (fun t hvm hz1 hq => ⟨⟨_, ?_, hm.kept hq⟩, ⟨Nat.le_trans hS.1 hz1, fun q h1 h2 => (hq q (Nat.lt_of_lt_of_le h1 hS.1)).trans (hS.2.1 q h1 h2)⟩⟩) hS.2.2 (Nat.le_of_ble_eq_true rfl) (Nat.le_of_ble_eq_true rfl)
        exact ⟨by simp, _, hT, hE⟩

set_option maxHeartbeats 4000000 in
set_option maxRecDepth 100000 in
theorem t_X5_needWord_RI (l : Launch) (hlt : l.stackTraces = false) (D : va_G) (k : Nat → ClassId) (z : Nat) (M : mM) (κ : Nat → Option KD) (r0 : Nat) (a1 : Int32) (hk_r0 : κ r0 = some .node) (hT : TM k κ M) : mC l yX5_needWord wsX5_needWord ({ frames := 6, cells := 1, slots := 6, locals := 82 }) D k z [.ref r0, .int a1] M (fun v M' => (v = none) ∧ M' = M) (fun E M' => E ∈ (["java/lang/IndexOutOfBoundsException"] : List String) ∧ ∃ κ', TM k κ' M' ∧ kx κ M κ' M') := by
  refine vx_ofW (cc := cX5_needWord) (maxL := 2) (ret := none) (by decide) rfl ?_
  intro p e s m args below meth c s₁ B hml hnt hv
  obtain ⟨rfl, hz, hcx, hm⟩ := hv
  have hx := B.exec
  have hb := B.bytes
  have hr := B.returns
  have hts := atoms_spec (ws := wsX5_needWord) B.pre
  have hown : s.vm.findClass RX5 = some m.cls := findClass_of_methodNamed B.named
  have hlocks := B.notSynchronized
  have hK := hcx.1
  have hS : va_S (AZ z) s.heap s.heap [] := va_S.rf
  have hA : ∀ q, s.heap.size ≤ q → AZ z q := fun q h => Nat.le_trans hz h
  have hl := lv_entry ([.ref r0, .int a1]) (n := 2) (Nat.le_of_ble_eq_true rfl)
  rw [lg_entry_eq]
  generalize (lg_sl ([.ref r0, .int a1]) ++ List.replicate (2 - (lg_sl ([.ref r0, .int a1])).length) Slot.unset).toArray = ls at hl ⊢
  have hl : lv_has ls 2 [(0, .ref r0), (1, .int a1)] := hl
  have f189 := hts (.fieldLink RX5 189 "CommitTree$Node" "size" "I") (by decide +kernel)
  have wX2 : ∀ w ∈ wsX20, w ∈ wsX5_needWord := by decide +kernel
  have hT0 := hT
  have hE : kx κ M κ M := kx.refl _ _
  refine lv_iload_n hx hb dX5_needWord_0 rfl (lv_at hl 1 rfl) ?_
  refine lv_if_lt (tgt := 12) hx hb dX5_needWord_1 (by decide) (fun c1 => ?_) (fun c1 => ?_)
  · obtain ⟨sa, hsa⟩ := hcx.2.2.1 (280, "the file has no such word") (by decide)
    refine vx_throwSW (own := RX5) (cls := "java/lang/IndexOutOfBoundsException") (text := "the file has no such word") (names := ["java/lang/RuntimeException", "java/lang/Exception"]) (ik := 198) (is := 280) (ic := 202) (A := AZ z) hx hb hlt hown (by decide) (by decide) (hts (.classLink RX5 198 "java/lang/IndexOutOfBoundsException") (by decide +kernel)) (hts (.initialized "java/lang/IndexOutOfBoundsException") (by decide +kernel)) hsa (vx_hat (B := DW) (fun w h => hts w (List.mem_cons_of_mem _ (List.mem_append_right _ h))) (by decide +kernel) (hcx.dw _)) (by decide +kernel) hcx.2.1.1 hcx.2.1.2 hS (hl.1.trans hml.symm) dX5_needWord_12 dX5_needWord_15 dX5_needWord_16 dX5_needWord_19 dX5_needWord_22 (fun x hx => (hnt x hx).elim) (Nat.le_of_ble_eq_true rfl) (Nat.le_of_ble_eq_true rfl) (Nat.le_of_ble_eq_true rfl) (Nat.le_of_ble_eq_true rfl) hlocks (fun t hvm hz1 hq => ⟨⟨_, ?_, hm.kept hq⟩, ⟨Nat.le_trans hS.1 hz1, fun q h1 h2 => (hq q (Nat.lt_of_lt_of_le h1 hS.1)).trans (hS.2.1 q h1 h2)⟩⟩) hS.2.2 (Nat.le_of_ble_eq_true rfl) (Nat.le_of_ble_eq_true rfl)
    exact ⟨by simp, _, hT, hE⟩
  · refine lv_iload_n hx hb dX5_needWord_4 rfl (lv_at hl 1 rfl) ?_
    refine lv_aload_n hx hb dX5_needWord_5 rfl (lv_at hl 0 rfl) ?_
    obtain ⟨v0_2, v1_2, v2_2, v3_2, hM_r0_2, hz_v1_2, hk_v3_2⟩ := hT.node hk_r0
    refine m_get (T := TX2) (N := 4) (ci := 2) (v := .int v2_2) hx hb hts wX2 hown hK hm hM_r0_2 rfl 2 (by decide) f189 (fun _ h9 => h9) rfl dX5_needWord_6 ?_
    refine lv_icmp_lt (tgt := 23) hx hb dX5_needWord_9 (by decide) (fun c3 => ?_) (fun c3 => ?_)
    · refine W.widen (k := 1) (n := 6) (by omega) (by omega) ?_
      refine vx_ret ?_
      refine W.vret hx hb hr (fun t ht hW => ⟨⟨none, _, rfl, ?_, by rw [ht]; exact hm⟩, hS.F ht⟩) hS.2.2 dX5_needWord_23
      exact ⟨rfl, rfl⟩
    · obtain ⟨sa, hsa⟩ := hcx.2.2.1 (280, "the file has no such word") (by decide)
      refine vx_throwSW (own := RX5) (cls := "java/lang/IndexOutOfBoundsException") (text := "the file has no such word") (names := ["java/lang/RuntimeException", "java/lang/Exception"]) (ik := 198) (is := 280) (ic := 202) (A := AZ z) hx hb hlt hown (by decide) (by decide) (hts (.classLink RX5 198 "java/lang/IndexOutOfBoundsException") (by decide +kernel)) (hts (.initialized "java/lang/IndexOutOfBoundsException") (by decide +kernel)) hsa (vx_hat (B := DW) (fun w h => hts w (List.mem_cons_of_mem _ (List.mem_append_right _ h))) (by decide +kernel) (hcx.dw _)) (by decide +kernel) hcx.2.1.1 hcx.2.1.2 hS (hl.1.trans hml.symm) dX5_needWord_12 dX5_needWord_15 dX5_needWord_16 dX5_needWord_19 dX5_needWord_22 (fun x hx => (hnt x hx).elim) (Nat.le_of_ble_eq_true rfl) (Nat.le_of_ble_eq_true rfl) (Nat.le_of_ble_eq_true rfl) (Nat.le_of_ble_eq_true rfl) hlocks (fun t hvm hz1 hq => ⟨⟨_, ?_, hm.kept hq⟩, ⟨Nat.le_trans hS.1 hz1, fun q h1 h2 => (hq q (Nat.lt_of_lt_of_le h1 hS.1)).trans (hS.2.1 q h1 h2)⟩⟩) hS.2.2 (Nat.le_of_ble_eq_true rfl) (Nat.le_of_ble_eq_true rfl)
      exact ⟨by simp, _, hT, hE⟩

set_option maxHeartbeats 4000000 in
set_option maxRecDepth 100000 in
theorem t_X5_write_IIII (l : Launch) (hlt : l.stackTraces = false) (D : va_G) (k : Nat → ClassId) (z : Nat) (M : mM) (κ : Nat → Option KD) (h0 : Nat) (a0 : Int32) (a1 : Int32) (a2 : Int32) (a3 : Int32) (hk_h0 : κ h0 = some .top) (hT : TM k κ M) : mC l yX5_write wsX5_write ({ frames := 8, cells := 6, slots := 92, locals := 124 }) D k z [.ref h0, .int a0, .int a1, .int a2, .int a3] M (fun v M' => ∃ κ', TM k κ' M' ∧ kx κ M κ' M' ∧ ∃ x, v = some (.int x)) (fun E M' => E ∈ (["java/lang/IllegalStateException", "java/util/NoSuchElementException", "java/lang/UnsupportedOperationException", "java/lang/IllegalArgumentException", "java/lang/IndexOutOfBoundsException"] : List String) ∧ ∃ κ', TM k κ' M' ∧ kx κ M κ' M') := by
  refine vx_ofW (cc := cX5_write) (maxL := 7) (ret := (some .int)) (by decide) rfl ?_
  intro p e s m args below meth c s₁ B hml hnt hv
  obtain ⟨rfl, hz, hcx, hm⟩ := hv
  have hx := B.exec
  have hb := B.bytes
  have hr := B.returns
  have hts := atoms_spec (ws := wsX5_write) B.pre
  have hown : s.vm.findClass RX5 = some m.cls := findClass_of_methodNamed B.named
  have hlocks := B.notSynchronized
  have hK := hcx.1
  have hS : va_S (AZ z) s.heap s.heap [] := va_S.rf
  have hA : ∀ q, s.heap.size ≤ q → AZ z q := fun q h => Nat.le_trans hz h
  have hl := lv_entry ([.ref h0, .int a0, .int a1, .int a2, .int a3]) (n := 7) (Nat.le_of_ble_eq_true rfl)
  rw [lg_entry_eq]
  generalize (lg_sl ([.ref h0, .int a0, .int a1, .int a2, .int a3]) ++ List.replicate (7 - (lg_sl ([.ref h0, .int a0, .int a1, .int a2, .int a3])).length) Slot.unset).toArray = ls at hl ⊢
  have hl : lv_has ls 7 [(0, .ref h0), (1, .int a0), (2, .int a1), (3, .int a2), (4, .int a3)] := hl
  have f109 := hts (.fieldLink RX5 109 "CommitTree$Transaction" "view" "LCommitTree$Tree;") (by decide +kernel)
  have f189 := hts (.fieldLink RX5 189 "CommitTree$Node" "size" "I") (by decide +kernel)
  have wX2 : ∀ w ∈ wsX20, w ∈ wsX5_write := by decide +kernel
  have wX3 : ∀ w ∈ wsX30, w ∈ wsX5_write := by decide +kernel
  have hT0 := hT
  have hE : kx κ M κ M := kx.refl _ _
  refine lv_aload_n hx hb dX5_write_0 rfl (lv_at hl 0 rfl) ?_
  refine lv_iload_n hx hb dX5_write_1 rfl (lv_at hl 1 rfl) ?_
  obtain ⟨v0_1, v1_1, v2_1, v3_1, v4_1, v5_1, v6_1, v7_1, v8_1, v9_1, v10_1, hM_h0_1, hk_v0_1, hk_v1_1, hk_v2_1, hk_v3_1, hk_v4_1, hk_v5_1, hz_v9_1, hz_v10_1⟩ := hT.top hk_h0
  refine m_cV (As := [.int a0]) (rest := []) (rm := { frames := 6, cells := 1, slots := 6, locals := 82 }) ⟨hx, hb, hml, hown, hts⟩ (t_X5_opened_I l hlt D k z _ _ h0 a0 hk_h0 hT) (cwV 1 hts gX5_write_X5_opened rfl rfl rfl (by decide +kernel) ⟨Nat.le_of_ble_eq_true rfl, Nat.le_of_ble_eq_true rfl⟩) (m_recv hK hm (q := (RX5, TX5, 11)) rfl hM_h0_1) hz hcx hm hS rfl hl.1 rfl (Nat.le_of_ble_eq_true rfl) dX5_write_2 ⟨Nat.le_of_ble_eq_true rfl, Nat.le_of_ble_eq_true rfl⟩ (fun E ce q9 M1 H locs hv hm hS hce hcv hcl => ?_) (fun v M1 H locs hv hm hS => ?_)
  · refine vx_out (fun x hx => (hnt x hx).elim) hlocks hce hcv hcl (fun t ht hvm => ⟨⟨_, ?_, by rw [ht]; exact hm⟩, hS.F ht⟩) hS.2.2 (Nat.le_of_ble_eq_true rfl) (Nat.le_of_ble_eq_true rfl)
    obtain ⟨hE8, κ8, hT8, hx8⟩ := hv
    exact ⟨by simp only [List.mem_cons, List.not_mem_nil, or_false] at hE8 ⊢; first | exact hE8 | simp [hE8], κ8, hT8, hE.trans hT0 hT hx8⟩
  obtain ⟨hv1, hM1⟩ := hv
  rw [hM1] at hm
  obtain ⟨x2, hv1, hk_x2⟩ := hv1
  subst hv1
  refine W.eq (g2 := F0 m 5 ls [.ref x2]) rfl ?_
  refine W.widen (k := 1) (n := 6) (Nat.le_of_ble_eq_true rfl) (Nat.le_of_ble_eq_true rfl) ?_
  have hm : mm D (AZ z) M H := hm
  refine lv_astore (lv' := [(5, .ref x2), (0, .ref h0), (1, .int a0), (2, .int a1), (3, .int a2), (4, .int a3)]) hx hb dX5_write_5 hl (by decide) rfl (fun ls hl => ?_)
  refine lv_aload hx hb dX5_write_7 (lv_at hl 0 rfl) ?_
  refine lv_iload_n hx hb dX5_write_9 rfl (lv_at hl 3 rfl) ?_
  refine m_cS (As := [.ref x2, .int a1]) (rest := []) (rm := { frames := 7, cells := 2, slots := 12, locals := 102 }) ⟨hx, hb, hml, hown, hts⟩ (t_X5_measuredFile_RI l hlt D k z _ _ x2 a1 hk_x2 hT) (cwS 2 hts gX5_write_X5_measuredFile rfl rfl rfl (by decide +kernel) ⟨Nat.le_of_ble_eq_true rfl, Nat.le_of_ble_eq_true rfl⟩) hz hcx hm hS rfl hl.1 rfl (Nat.le_of_ble_eq_true rfl) dX5_write_10 ⟨Nat.le_of_ble_eq_true rfl, Nat.le_of_ble_eq_true rfl⟩ (fun E ce q9 M1 H locs hv hm hS hce hcv hcl => ?_) (fun v M1 H locs hv hm hS => ?_)
  · refine vx_out (fun x hx => (hnt x hx).elim) hlocks hce hcv hcl (fun t ht hvm => ⟨⟨_, ?_, by rw [ht]; exact hm⟩, hS.F ht⟩) hS.2.2 (Nat.le_of_ble_eq_true rfl) (Nat.le_of_ble_eq_true rfl)
    obtain ⟨hE8, κ8, hT8, hx8⟩ := hv
    exact ⟨by simp only [List.mem_cons, List.not_mem_nil, or_false] at hE8 ⊢; first | exact hE8 | (rcases hE8 with q8 | q8 | q8 <;> simp [q8]), κ8, hT8, hE.trans hT0 hT hx8⟩
  obtain ⟨κ1, hT9, hE9, hv1⟩ := hv
  have hk_h0 := hE9.k hT hk_h0
  have hk_x2 := hE9.k hT hk_x2
  have hE := hE.trans hT0 hT hE9
  have hT := hT9
  obtain ⟨Mc1, hMx⟩ : ∃ x : mM, x = M1 := ⟨M1, rfl⟩
  subst hMx
  obtain ⟨x3, hv1, hk_x3⟩ := hv1
  subst hv1
  refine W.eq (g2 := F0 m 13 ls [.ref x3]) rfl ?_
  refine W.widen (k := 3) (n := 18) (Nat.le_of_ble_eq_true rfl) (Nat.le_of_ble_eq_true rfl) ?_
  have hm : mm D (AZ z) Mc1 H := hm
  refine lv_astore (lv' := [(6, .ref x3), (5, .ref x2), (0, .ref h0), (1, .int a0), (2, .int a1), (3, .int a2), (4, .int a3)]) hx hb dX5_write_13 hl (by decide) rfl (fun ls hl => ?_)
  refine lv_aload hx hb dX5_write_15 (lv_at hl 0 rfl) ?_
  refine lv_iload_n hx hb dX5_write_17 rfl (lv_at hl 5 rfl) ?_
  refine m_cS (As := [.ref x3, .int a2]) (rest := []) (rm := { frames := 6, cells := 1, slots := 6, locals := 82 }) ⟨hx, hb, hml, hown, hts⟩ (t_X5_needWord_RI l hlt D k z _ _ x3 a2 hk_x3 hT) (cwS 2 hts gX5_write_X5_needWord rfl rfl rfl (by decide +kernel) ⟨Nat.le_of_ble_eq_true rfl, Nat.le_of_ble_eq_true rfl⟩) hz hcx hm hS rfl hl.1 rfl (Nat.le_of_ble_eq_true rfl) dX5_write_18 ⟨Nat.le_of_ble_eq_true rfl, Nat.le_of_ble_eq_true rfl⟩ (fun E ce q9 M1 H locs hv hm hS hce hcv hcl => ?_) (fun v M1 H locs hv hm hS => ?_)
  · refine vx_out (fun x hx => (hnt x hx).elim) hlocks hce hcv hcl (fun t ht hvm => ⟨⟨_, ?_, by rw [ht]; exact hm⟩, hS.F ht⟩) hS.2.2 (Nat.le_of_ble_eq_true rfl) (Nat.le_of_ble_eq_true rfl)
    obtain ⟨hE8, κ8, hT8, hx8⟩ := hv
    exact ⟨by simp only [List.mem_cons, List.not_mem_nil, or_false] at hE8 ⊢; first | exact hE8 | simp [hE8], κ8, hT8, hE.trans hT0 hT hx8⟩
  obtain ⟨hv1, hM1⟩ := hv
  rw [hM1] at hm
  subst hv1
  refine W.eq (g2 := F0 m 21 ls []) rfl ?_
  refine W.widen (k := 4) (n := 24) (Nat.le_of_ble_eq_true rfl) (Nat.le_of_ble_eq_true rfl) ?_
  have hm : mm D (AZ z) Mc1 H := hm
  refine lv_aload hx hb dX5_write_21 (lv_at hl 1 rfl) ?_
  obtain ⟨v0_4, v1_4, v2_4, v3_4, v4_4, v5_4, v6_4, hM_x2_4, hk_v0_4, hk_v1_4, hk_v2_4, hk_v3_4, hk_v4_4, hz_v5_4⟩ := hT.txn hk_x2
  refine m_get (T := TX3) (N := 7) (ci := 3) (v := .ref v1_4) hx hb hts wX3 hown hK hm hM_x2_4 rfl 1 (by decide) f109 (fun _ h9 => h9) rfl dX5_write_23 ?_
  refine lv_aload hx hb dX5_write_26 (lv_at hl 0 rfl) ?_
  refine lv_iload_n hx hb dX5_write_28 rfl (lv_at hl 5 rfl) ?_
  refine lv_iload hx hb dX5_write_29 (lv_at hl 6 rfl) ?_
  refine lv_aload hx hb dX5_write_31 (lv_at hl 0 rfl) ?_
  obtain ⟨v0_5, v1_5, v2_5, v3_5, hM_x3_5, hz_v1_5, hk_v3_5⟩ := hT.node hk_x3
  refine m_get (T := TX2) (N := 4) (ci := 2) (v := .int v2_5) hx hb hts wX2 hown hK hm hM_x3_5 rfl 2 (by decide) f189 (fun _ h9 => h9) rfl dX5_write_33 ?_
  refine m_kV (As := [.int a2, .int a3, .int v2_5]) (rest := [.ref v1_4]) (rm := { frames := 2, cells := 2, slots := 68, locals := 40 }) ⟨hx, hb, hml, hown, hts⟩ (t_X2_withCell_III l D k z _ _ x3 a2 a3 v2_5 hk_x3 hT) (cwV 3 hts gX5_write_X2_withCell rfl rfl rfl (by decide +kernel) ⟨Nat.le_of_ble_eq_true rfl, Nat.le_of_ble_eq_true rfl⟩) (m_recv hK hm (q := (RX2, TX2, 4)) rfl hM_x3_5) hz hcx hm hS rfl hl.1 rfl (Nat.le_of_ble_eq_true rfl) dX5_write_36 ⟨Nat.le_of_ble_eq_true rfl, Nat.le_of_ble_eq_true rfl⟩ (fun v M1 H locs hv hm hS => ?_)
  obtain ⟨κ2, hT9, hE9, hv1⟩ := hv
  have hk_h0 := hE9.k hT hk_h0
  have hk_x2 := hE9.k hT hk_x2
  have hk_x3 := hE9.k hT hk_x3
  have hk_v1_4 := hE9.k hT hk_v1_4
  have hE := hE.trans hT0 hT hE9
  have hT := hT9
  obtain ⟨Mc2, hMx⟩ : ∃ x : mM, x = M1 := ⟨M1, rfl⟩
  subst hMx
  obtain ⟨x6, hv1, hk_x6⟩ := hv1
  subst hv1
  refine W.eq (g2 := F0 m 39 ls [.ref x6, .ref v1_4]) rfl ?_
  refine W.widen (k := 6) (n := 92) (Nat.le_of_ble_eq_true rfl) (Nat.le_of_ble_eq_true rfl) ?_
  have hm : mm D (AZ z) Mc2 H := hm
  obtain ⟨v0_7, v1_7, hM_v1_4_7, hk_v0_7, hn_v1_7⟩ := hT.tree hk_v1_4
  refine m_kV (As := [.ref x6]) (rest := []) (rm := { frames := 1, cells := 0, slots := 0, locals := 23 }) ⟨hx, hb, hml, hown, hts⟩ (t_X4_put_R l D k z _ _ v1_4 x6 hk_v1_4 hk_x6 hT) (cwV 1 hts gX5_write_X4_put rfl rfl rfl (by decide +kernel) ⟨Nat.le_of_ble_eq_true rfl, Nat.le_of_ble_eq_true rfl⟩) (m_recv hK hm (q := (RX4, TX4, 2)) rfl hM_v1_4_7) hz hcx hm hS rfl hl.1 rfl (Nat.le_of_ble_eq_true rfl) dX5_write_39 ⟨Nat.le_of_ble_eq_true rfl, Nat.le_of_ble_eq_true rfl⟩ (fun v M1 H locs hv hm hS => ?_)
  obtain ⟨κ3, hT9, hE9, hv1⟩ := hv
  have hk_h0 := hE9.k hT hk_h0
  have hk_x2 := hE9.k hT hk_x2
  have hk_x3 := hE9.k hT hk_x3
  have hk_v1_4 := hE9.k hT hk_v1_4
  have hE := hE.trans hT0 hT hE9
  have hT := hT9
  obtain ⟨Mc3, hMx⟩ : ∃ x : mM, x = M1 := ⟨M1, rfl⟩
  subst hMx
  subst hv1
  refine W.eq (g2 := F0 m 42 ls []) rfl ?_
  refine W.widen (k := 6) (n := 92) (Nat.le_of_ble_eq_true rfl) (Nat.le_of_ble_eq_true rfl) ?_
  have hm : mm D (AZ z) Mc3 H := hm
  refine lv_aload hx hb dX5_write_42 (lv_at hl 0 rfl) ?_
  obtain ⟨v0_8, v1_8, v2_8, v3_8, hM_x3_8, hz_v1_8, hk_v3_8⟩ := hT.node hk_x3
  refine m_get (T := TX2) (N := 4) (ci := 2) (v := .int v2_8) hx hb hts wX2 hown hK hm hM_x3_8 rfl 2 (by decide) f189 (fun _ h9 => h9) rfl dX5_write_44 ?_
  refine vx_ret ?_
  refine W.iret (v := v2_8) hx hb hr (fun t ht hW => ⟨⟨some (.int v2_8), _, rfl, ?_, by rw [ht]; exact hm⟩, hS.F ht⟩) hS.2.2 dX5_write_47
  exact ⟨_, hT, hE, ⟨_, rfl⟩⟩

set_option maxHeartbeats 4000000 in
set_option maxRecDepth 100000 in
theorem t_X5_append_III (l : Launch) (hlt : l.stackTraces = false) (D : va_G) (k : Nat → ClassId) (z : Nat) (M : mM) (κ : Nat → Option KD) (h0 : Nat) (a0 : Int32) (a1 : Int32) (a2 : Int32) (hk_h0 : κ h0 = some .top) (hT : TM k κ M) : mC l yX5_append wsX5_append ({ frames := 8, cells := 5, slots := 86, locals := 124 }) D k z [.ref h0, .int a0, .int a1, .int a2] M (fun v M' => ∃ κ', TM k κ' M' ∧ kx κ M κ' M' ∧ ∃ x, v = some (.int x)) (fun E M' => E ∈ (["java/lang/UnsupportedOperationException", "java/lang/IllegalStateException", "java/util/NoSuchElementException", "java/lang/IllegalArgumentException"] : List String) ∧ ∃ κ', TM k κ' M' ∧ kx κ M κ' M') := by
  refine vx_ofW (cc := cX5_append) (maxL := 6) (ret := (some .int)) (by decide) rfl ?_
  intro p e s m args below meth c s₁ B hml hnt hv
  obtain ⟨rfl, hz, hcx, hm⟩ := hv
  have hx := B.exec
  have hb := B.bytes
  have hr := B.returns
  have hts := atoms_spec (ws := wsX5_append) B.pre
  have hown : s.vm.findClass RX5 = some m.cls := findClass_of_methodNamed B.named
  have hlocks := B.notSynchronized
  have hK := hcx.1
  have hS : va_S (AZ z) s.heap s.heap [] := va_S.rf
  have hA : ∀ q, s.heap.size ≤ q → AZ z q := fun q h => Nat.le_trans hz h
  have hl := lv_entry ([.ref h0, .int a0, .int a1, .int a2]) (n := 6) (Nat.le_of_ble_eq_true rfl)
  rw [lg_entry_eq]
  generalize (lg_sl ([.ref h0, .int a0, .int a1, .int a2]) ++ List.replicate (6 - (lg_sl ([.ref h0, .int a0, .int a1, .int a2])).length) Slot.unset).toArray = ls at hl ⊢
  have hl : lv_has ls 6 [(0, .ref h0), (1, .int a0), (2, .int a1), (3, .int a2)] := hl
  have f109 := hts (.fieldLink RX5 109 "CommitTree$Transaction" "view" "LCommitTree$Tree;") (by decide +kernel)
  have f189 := hts (.fieldLink RX5 189 "CommitTree$Node" "size" "I") (by decide +kernel)
  have wX2 : ∀ w ∈ wsX20, w ∈ wsX5_append := by decide +kernel
  have wX3 : ∀ w ∈ wsX30, w ∈ wsX5_append := by decide +kernel
  have hT0 := hT
  have hE : kx κ M κ M := kx.refl _ _
  refine lv_aload_n hx hb dX5_append_0 rfl (lv_at hl 0 rfl) ?_
  refine lv_iload_n hx hb dX5_append_1 rfl (lv_at hl 1 rfl) ?_
  obtain ⟨v0_1, v1_1, v2_1, v3_1, v4_1, v5_1, v6_1, v7_1, v8_1, v9_1, v10_1, hM_h0_1, hk_v0_1, hk_v1_1, hk_v2_1, hk_v3_1, hk_v4_1, hk_v5_1, hz_v9_1, hz_v10_1⟩ := hT.top hk_h0
  refine m_cV (As := [.int a0]) (rest := []) (rm := { frames := 6, cells := 1, slots := 6, locals := 82 }) ⟨hx, hb, hml, hown, hts⟩ (t_X5_opened_I l hlt D k z _ _ h0 a0 hk_h0 hT) (cwV 1 hts gX5_append_X5_opened rfl rfl rfl (by decide +kernel) ⟨Nat.le_of_ble_eq_true rfl, Nat.le_of_ble_eq_true rfl⟩) (m_recv hK hm (q := (RX5, TX5, 11)) rfl hM_h0_1) hz hcx hm hS rfl hl.1 rfl (Nat.le_of_ble_eq_true rfl) dX5_append_2 ⟨Nat.le_of_ble_eq_true rfl, Nat.le_of_ble_eq_true rfl⟩ (fun E ce q9 M1 H locs hv hm hS hce hcv hcl => ?_) (fun v M1 H locs hv hm hS => ?_)
  · refine vx_out (fun x hx => (hnt x hx).elim) hlocks hce hcv hcl (fun t ht hvm => ⟨⟨_, ?_, by rw [ht]; exact hm⟩, hS.F ht⟩) hS.2.2 (Nat.le_of_ble_eq_true rfl) (Nat.le_of_ble_eq_true rfl)
    obtain ⟨hE8, κ8, hT8, hx8⟩ := hv
    exact ⟨by simp only [List.mem_cons, List.not_mem_nil, or_false] at hE8 ⊢; first | exact hE8 | simp [hE8], κ8, hT8, hE.trans hT0 hT hx8⟩
  obtain ⟨hv1, hM1⟩ := hv
  rw [hM1] at hm
  obtain ⟨x2, hv1, hk_x2⟩ := hv1
  subst hv1
  refine W.eq (g2 := F0 m 5 ls [.ref x2]) rfl ?_
  refine W.widen (k := 1) (n := 6) (Nat.le_of_ble_eq_true rfl) (Nat.le_of_ble_eq_true rfl) ?_
  have hm : mm D (AZ z) M H := hm
  refine lv_astore (lv' := [(4, .ref x2), (0, .ref h0), (1, .int a0), (2, .int a1), (3, .int a2)]) hx hb dX5_append_5 hl (by decide) rfl (fun ls hl => ?_)
  refine lv_aload hx hb dX5_append_7 (lv_at hl 0 rfl) ?_
  refine lv_iload_n hx hb dX5_append_9 rfl (lv_at hl 3 rfl) ?_
  refine m_cS (As := [.ref x2, .int a1]) (rest := []) (rm := { frames := 7, cells := 2, slots := 12, locals := 102 }) ⟨hx, hb, hml, hown, hts⟩ (t_X5_measuredFile_RI l hlt D k z _ _ x2 a1 hk_x2 hT) (cwS 2 hts gX5_append_X5_measuredFile rfl rfl rfl (by decide +kernel) ⟨Nat.le_of_ble_eq_true rfl, Nat.le_of_ble_eq_true rfl⟩) hz hcx hm hS rfl hl.1 rfl (Nat.le_of_ble_eq_true rfl) dX5_append_10 ⟨Nat.le_of_ble_eq_true rfl, Nat.le_of_ble_eq_true rfl⟩ (fun E ce q9 M1 H locs hv hm hS hce hcv hcl => ?_) (fun v M1 H locs hv hm hS => ?_)
  · refine vx_out (fun x hx => (hnt x hx).elim) hlocks hce hcv hcl (fun t ht hvm => ⟨⟨_, ?_, by rw [ht]; exact hm⟩, hS.F ht⟩) hS.2.2 (Nat.le_of_ble_eq_true rfl) (Nat.le_of_ble_eq_true rfl)
    obtain ⟨hE8, κ8, hT8, hx8⟩ := hv
    exact ⟨by simp only [List.mem_cons, List.not_mem_nil, or_false] at hE8 ⊢; first | exact hE8 | (rcases hE8 with q8 | q8 | q8 <;> simp [q8]), κ8, hT8, hE.trans hT0 hT hx8⟩
  obtain ⟨κ1, hT9, hE9, hv1⟩ := hv
  have hk_h0 := hE9.k hT hk_h0
  have hk_x2 := hE9.k hT hk_x2
  have hE := hE.trans hT0 hT hE9
  have hT := hT9
  obtain ⟨Mc1, hMx⟩ : ∃ x : mM, x = M1 := ⟨M1, rfl⟩
  subst hMx
  obtain ⟨x3, hv1, hk_x3⟩ := hv1
  subst hv1
  refine W.eq (g2 := F0 m 13 ls [.ref x3]) rfl ?_
  refine W.widen (k := 3) (n := 18) (Nat.le_of_ble_eq_true rfl) (Nat.le_of_ble_eq_true rfl) ?_
  have hm : mm D (AZ z) Mc1 H := hm
  refine lv_astore (lv' := [(5, .ref x3), (4, .ref x2), (0, .ref h0), (1, .int a0), (2, .int a1), (3, .int a2)]) hx hb dX5_append_13 hl (by decide) rfl (fun ls hl => ?_)
  refine lv_aload hx hb dX5_append_15 (lv_at hl 0 rfl) ?_
  obtain ⟨v0_4, v1_4, v2_4, v3_4, hM_x3_4, hz_v1_4, hk_v3_4⟩ := hT.node hk_x3
  refine m_get (T := TX2) (N := 4) (ci := 2) (v := .int v2_4) hx hb hts wX2 hown hK hm hM_x3_4 rfl 2 (by decide) f189 (fun _ h9 => h9) rfl dX5_append_17 ?_
  refine lv_bipush (v := 64) hx hb dX5_append_20 (by decide) ?_
  refine lv_icmp_lt (tgt := 35) hx hb dX5_append_22 (by decide) (fun c5 => ?_) (fun c5 => ?_)
  · refine lv_aload hx hb dX5_append_35 (lv_at hl 1 rfl) ?_
    obtain ⟨v0_6, v1_6, v2_6, v3_6, v4_6, v5_6, v6_6, hM_x2_6, hk_v0_6, hk_v1_6, hk_v2_6, hk_v3_6, hk_v4_6, hz_v5_6⟩ := hT.txn hk_x2
    refine m_get (T := TX3) (N := 7) (ci := 3) (v := .ref v1_6) hx hb hts wX3 hown hK hm hM_x2_6 rfl 1 (by decide) f109 (fun _ h9 => h9) rfl dX5_append_37 ?_
    refine lv_aload hx hb dX5_append_40 (lv_at hl 0 rfl) ?_
    refine lv_aload hx hb dX5_append_42 (lv_at hl 0 rfl) ?_
    refine m_get (T := TX2) (N := 4) (ci := 2) (v := .int v2_4) hx hb hts wX2 hown hK hm hM_x3_4 rfl 2 (by decide) f189 (fun _ h9 => h9) rfl dX5_append_44 ?_
    refine lv_iload_n hx hb dX5_append_47 rfl (lv_at hl 5 rfl) ?_
    refine lv_aload hx hb dX5_append_48 (lv_at hl 0 rfl) ?_
    refine m_get (T := TX2) (N := 4) (ci := 2) (v := .int v2_4) hx hb hts wX2 hown hK hm hM_x3_4 rfl 2 (by decide) f189 (fun _ h9 => h9) rfl dX5_append_50 ?_
    refine lv_iconst (v := 1) hx hb dX5_append_53 (by decide) ?_
    refine lv_iadd hx hb dX5_append_54 ?_
    refine m_kV (As := [.int v2_4, .int a2, .int (v2_4 + 1)]) (rest := [.ref v1_6]) (rm := { frames := 2, cells := 2, slots := 68, locals := 40 }) ⟨hx, hb, hml, hown, hts⟩ (t_X2_withCell_III l D k z _ _ x3 v2_4 a2 (v2_4 + 1) hk_x3 hT) (cwV 3 hts gX5_append_X2_withCell rfl rfl rfl (by decide +kernel) ⟨Nat.le_of_ble_eq_true rfl, Nat.le_of_ble_eq_true rfl⟩) (m_recv hK hm (q := (RX2, TX2, 4)) rfl hM_x3_4) hz hcx hm hS rfl hl.1 rfl (Nat.le_of_ble_eq_true rfl) dX5_append_55 ⟨Nat.le_of_ble_eq_true rfl, Nat.le_of_ble_eq_true rfl⟩ (fun v M1 H locs hv hm hS => ?_)
    obtain ⟨κ2, hT9, hE9, hv1⟩ := hv
    have hk_h0 := hE9.k hT hk_h0
    have hk_x2 := hE9.k hT hk_x2
    have hk_x3 := hE9.k hT hk_x3
    have hk_v1_6 := hE9.k hT hk_v1_6
    have hE := hE.trans hT0 hT hE9
    have hT := hT9
    obtain ⟨Mc2, hMx⟩ : ∃ x : mM, x = M1 := ⟨M1, rfl⟩
    subst hMx
    obtain ⟨x7, hv1, hk_x7⟩ := hv1
    subst hv1
    refine W.eq (g2 := F0 m 58 ls [.ref x7, .ref v1_6]) rfl ?_
    refine W.widen (k := 5) (n := 86) (Nat.le_of_ble_eq_true rfl) (Nat.le_of_ble_eq_true rfl) ?_
    have hm : mm D (AZ z) Mc2 H := hm
    obtain ⟨v0_8, v1_8, hM_v1_6_8, hk_v0_8, hn_v1_8⟩ := hT.tree hk_v1_6
    refine m_kV (As := [.ref x7]) (rest := []) (rm := { frames := 1, cells := 0, slots := 0, locals := 23 }) ⟨hx, hb, hml, hown, hts⟩ (t_X4_put_R l D k z _ _ v1_6 x7 hk_v1_6 hk_x7 hT) (cwV 1 hts gX5_append_X4_put rfl rfl rfl (by decide +kernel) ⟨Nat.le_of_ble_eq_true rfl, Nat.le_of_ble_eq_true rfl⟩) (m_recv hK hm (q := (RX4, TX4, 2)) rfl hM_v1_6_8) hz hcx hm hS rfl hl.1 rfl (Nat.le_of_ble_eq_true rfl) dX5_append_58 ⟨Nat.le_of_ble_eq_true rfl, Nat.le_of_ble_eq_true rfl⟩ (fun v M1 H locs hv hm hS => ?_)
    obtain ⟨κ3, hT9, hE9, hv1⟩ := hv
    have hk_h0 := hE9.k hT hk_h0
    have hk_x2 := hE9.k hT hk_x2
    have hk_x3 := hE9.k hT hk_x3
    have hk_v1_6 := hE9.k hT hk_v1_6
    have hE := hE.trans hT0 hT hE9
    have hT := hT9
    obtain ⟨Mc3, hMx⟩ : ∃ x : mM, x = M1 := ⟨M1, rfl⟩
    subst hMx
    subst hv1
    refine W.eq (g2 := F0 m 61 ls []) rfl ?_
    refine W.widen (k := 5) (n := 86) (Nat.le_of_ble_eq_true rfl) (Nat.le_of_ble_eq_true rfl) ?_
    have hm : mm D (AZ z) Mc3 H := hm
    refine lv_aload hx hb dX5_append_61 (lv_at hl 0 rfl) ?_
    obtain ⟨v0_9, v1_9, v2_9, v3_9, hM_x3_9, hz_v1_9, hk_v3_9⟩ := hT.node hk_x3
    refine m_get (T := TX2) (N := 4) (ci := 2) (v := .int v2_9) hx hb hts wX2 hown hK hm hM_x3_9 rfl 2 (by decide) f189 (fun _ h9 => h9) rfl dX5_append_63 ?_
    refine lv_iconst (v := 1) hx hb dX5_append_66 (by decide) ?_
    refine lv_iadd hx hb dX5_append_67 ?_
    refine vx_ret ?_
    refine W.iret (v := (v2_9 + 1)) hx hb hr (fun t ht hW => ⟨⟨some (.int (v2_9 + 1)), _, rfl, ?_, by rw [ht]; exact hm⟩, hS.F ht⟩) hS.2.2 dX5_append_68
    exact ⟨_, hT, hE, ⟨_, rfl⟩⟩
  · obtain ⟨sa, hsa⟩ := hcx.2.2.1 (194, "the file has 64 words") (by decide)
    refine vx_throwS (own := RX5) (cls := "java/lang/UnsupportedOperationException") (text := "the file has 64 words") (names := ["java/lang/RuntimeException", "java/lang/Exception"]) (ik := 86) (is := 194) (ic := 90) (A := AZ z) hx hb hlt hown (by decide) (by decide) (hts (.classLink RX5 86 "java/lang/UnsupportedOperationException") (by decide +kernel)) (hts (.initialized "java/lang/UnsupportedOperationException") (by decide +kernel)) hsa (vx_hat (B := DW) (fun w h => hts w (List.mem_cons_of_mem _ (List.mem_append_left _ (List.mem_append_left _ (List.mem_append_left _ (List.mem_append_right _ h)))))) (by decide +kernel) (hcx.dw _)) (by decide +kernel) hcx.2.1.1 hcx.2.1.2 hS (hl.1.trans hml.symm) dX5_append_25 dX5_append_28 dX5_append_29 dX5_append_31 dX5_append_34 (fun x hx => (hnt x hx).elim) (Nat.le_of_ble_eq_true rfl) (Nat.le_of_ble_eq_true rfl) (Nat.le_of_ble_eq_true rfl) (Nat.le_of_ble_eq_true rfl) hlocks (fun t hvm hz1 hq => ⟨⟨_, ?_, hm.kept hq⟩, ⟨Nat.le_trans hS.1 hz1, fun q h1 h2 => (hq q (Nat.lt_of_lt_of_le h1 hS.1)).trans (hS.2.1 q h1 h2)⟩⟩) hS.2.2 (Nat.le_of_ble_eq_true rfl) (Nat.le_of_ble_eq_true rfl)
    exact ⟨by simp, _, hT, hE⟩

set_option maxHeartbeats 4000000 in
set_option maxRecDepth 100000 in
theorem t_X2_cutTo_I (l : Launch) (D : va_G) (k : Nat → ClassId) (z : Nat) (M : mM) (κ : Nat → Option KD) (h0 : Nat) (a0 : Int32) (hk_h0 : κ h0 = some .node) (hT : TM k κ M) : mK l yX2_cutTo wsX2_cutTo ({ frames := 2, cells := 2, slots := 68, locals := 40 }) D k z [.ref h0, .int a0] M (fun v M' => ∃ κ', TM k κ' M' ∧ kx κ M κ' M' ∧ ∃ a, v = some (.ref a) ∧ κ' a = some .node) := by
  refine Met.ofW (cc := cX2_cutTo) (maxL := 4) (ret := (some (.object "CommitTree$Node"))) (by decide) rfl ?_
  intro p e s m args below meth c s₁ B hml hv
  obtain ⟨rfl, hz, hcx, hm⟩ := hv
  have hx := B.exec
  have hb := B.bytes
  have hr := B.returns
  have hts := atoms_spec (ws := wsX2_cutTo) B.pre
  have hown : s.vm.findClass RX2 = some m.cls := findClass_of_methodNamed B.named
  have hlocks := B.notSynchronized
  have hK := hcx.1
  have hS : va_S (AZ z) s.heap s.heap [] := va_S.rf
  have hA : ∀ q, s.heap.size ≤ q → AZ z q := fun q h => Nat.le_trans hz h
  have hl := lv_entry ([.ref h0, .int a0]) (n := 4) (Nat.le_of_ble_eq_true rfl)
  rw [lg_entry_eq]
  generalize (lg_sl ([.ref h0, .int a0]) ++ List.replicate (4 - (lg_sl ([.ref h0, .int a0])).length) Slot.unset).toArray = ls at hl ⊢
  have hl : lv_has ls 4 [(0, .ref h0), (1, .int a0)] := hl
  have f9 := hts (.fieldLink RX2 9 "CommitTree$Node" "id" "I") (by decide +kernel)
  have f15 := hts (.fieldLink RX2 15 "CommitTree$Node" "directory" "Z") (by decide +kernel)
  have f22 := hts (.fieldLink RX2 22 "CommitTree$Node" "cells" "[I") (by decide +kernel)
  have wX2 : ∀ w ∈ wsX20, w ∈ wsX2_cutTo := by decide +kernel
  have hT0 := hT
  have hE : kx κ M κ M := kx.refl _ _
  refine lv_aload_n hx hb dX2_cutTo_0 rfl (lv_at hl 0 rfl) ?_
  obtain ⟨v0_1, v1_1, v2_1, v3_1, hM_h0_1, hz_v1_1, hk_v3_1⟩ := hT.node hk_h0
  refine m_get (T := TX2) (N := 4) (ci := 2) (v := .ref v3_1) hx hb hts wX2 hown hK hm hM_h0_1 rfl 3 (by decide) f22 (fun _ h9 => h9) rfl dX2_cutTo_1 ?_
  obtain ⟨n_3, f_3, hM_v3_1_3, hn_3⟩ := hT.ints hk_v3_1
  refine m_clone hx hb (hml.trans hl.1.symm) (ad := "[I") hown (hts (.methodLink RX2 29 ⟨"[I", "clone", "()Ljava/lang/Object;"⟩) (by decide +kernel)) (hts (.sameMethod "[I" "java/lang/Object" "clone" "()Ljava/lang/Object;") (by decide +kernel)) (hts (.native ⟨"java/lang/Object", "clone", "()Ljava/lang/Object;"⟩) (by decide +kernel)) (hts (.instanceMethod ⟨"java/lang/Object", "clone", "()Ljava/lang/Object;"⟩) (by decide +kernel)) (hts (.selects "[I" ⟨"[I", "clone", "()Ljava/lang/Object;"⟩ ⟨"java/lang/Object", "clone", "()Ljava/lang/Object;"⟩) (by decide +kernel)) hcx.2.2.2.1.2 hK hm hS hA 0 (x := (n_3, .inl f_3)) (ty := .int) hM_v3_1_3 rfl (va_nm_int (hK.2 0 _ rfl).2) (fun i v hv => va_fit (ty := .int) (F := fun j => .int (f_3 j)) (fun i _ => rfl) i v hv) (Nat.le_of_ble_eq_true rfl) (Nat.le_of_ble_eq_true rfl) (Nat.le_of_ble_eq_true rfl) (show 0 + n_3 ≤ 68 by omega) dX2_cutTo_4 (fun q2 H hq2 hm hS => ?_)
  refine W.widen (k := 1) (n := 64) (Nat.le_of_ble_eq_true rfl) (show 0 + n_3 ≤ 64 by omega) ?_
  have hm : mm D (AZ z) (mu M q2 (.inl (k 0, n_3, .inl f_3))) H := hm
  have hz0_q2 := hE.no hT0 hT hq2
  have hk0_q2 := hT.no hq2
  have hR_4 : (mu M q2 (.inl (k 0, n_3, .inl f_3))) h0 = _ := (mu_ne (m_fr hq2 hM_h0_1)).trans hM_h0_1
  have hR_5 : (mu M q2 (.inl (k 0, n_3, .inl f_3))) v3_1 = _ := (mu_ne (m_fr hq2 hM_v3_1_3)).trans hM_v3_1_3
  have hM_q2 : (mu M q2 (.inl (k 0, n_3, .inl f_3))) q2 = _ := mu_self _ _ _
  have hT : TM k κ (mu M q2 (.inl (k 0, n_3, .inl f_3))) := hT.new0 hq2
  have hE : kx κ M κ (mu M q2 (.inl (k 0, n_3, .inl f_3))) := hE.new0 hq2
  generalize (mu M q2 (.inl (k 0, n_3, .inl f_3))) = Mc1 at hm hT hE hR_4 hR_5 hM_q2
  have hT9 : TM k (kup κ q2 .ints) Mc1 := hT.adopt hk0_q2 hM_q2 (show wf k (kup κ q2 .ints) .ints _ from ⟨n_3, f_3, rfl, hn_3⟩)
  have hE : kx κ M (kup κ q2 .ints) Mc1 := hE.adopt hz0_q2
  have hT := hT9
  have hk_h0 := kup_old (d := .ints) hk0_q2 hk_h0
  have hk_v3_1 := kup_old (d := .ints) hk0_q2 hk_v3_1
  have hk_q2 : kup κ q2 .ints q2 = some .ints := kup_self _ _ _
  generalize kup κ q2 .ints = κ2 at hT hE hk_h0 hk_v3_1 hk_q2
  refine m_castA hx hb hown (hts (.classLink RX2 30 "[I") (by decide +kernel)) hm hM_q2 (va_nm_int (hK.2 0 _ rfl).2) dX2_cutTo_7 ?_
  refine lv_astore_n (lv' := [(2, .ref q2), (0, .ref h0), (1, .int a0)]) hx hb dX2_cutTo_10 rfl hl (by decide) rfl (fun ls hl => ?_)
  refine lv_iload_n hx hb dX2_cutTo_11 rfl (lv_at hl 2 rfl) ?_
  refine lv_iconst (v := 0) hx hb dX2_cutTo_12 (by decide) ?_
  refine va_mmax hx hb (hml.trans hl.1.symm) hown (hts (.methodLink RX2 34 Lib.Math.max.name) (by decide +kernel)) (hts (.static Lib.Math.max.name) (by decide +kernel)) (hts (.initialized "java/lang/Math") (by decide +kernel)) (hts (.code Lib.Math.max.name Lib.Math.max.code 2 (some .int)) (by decide +kernel)) (Nat.le_of_ble_eq_true rfl) (Nat.le_of_ble_eq_true rfl) (Nat.le_of_ble_eq_true rfl) (Nat.le_of_ble_eq_true rfl) dX2_cutTo_13 ?_
  obtain ⟨u6, hnu6, eu6⟩ := mx_0 a0
  refine W.eq (g2 := F0 m 16 ls [.int (nI u6)]) (by rw [eu6]) ?_
  refine lv_istore_n (lv' := [(3, .int (nI u6)), (2, .ref q2), (0, .ref h0), (1, .int a0)]) hx hb dX2_cutTo_16 rfl hl (by decide) rfl (fun ls hl => ?_)
  refine W_loop (σ := Nat × (Nat → Option KD) × mM) (fun ⟨j7, K17, M17⟩ H locs ls => (j7 < 2147483648) ∧ (TM k K17 M17) ∧ (kx κ M K17 M17) ∧ (K17 q2 = some .ints) ∧ (K17 h0 = some .node) ∧ mm D (AZ z) M17 H ∧ va_S (AZ z) s.heap H locs ∧ lv_has ls 4 [(3, .int (nI j7)), (2, .ref q2), (0, .ref h0), (1, .int a0)]) (fun ⟨j7, K17, M17⟩ => 2147483648 - j7) (fun ⟨j7, K17, M17⟩ => 1) (fun ⟨j7, K17, M17⟩ => 64) ?_ (u6, κ2, Mc1) _ _ _ ⟨(by omega), hT, hE, hk_q2, hk_h0, hm, hS, lv_sub hl [0, 1, 2, 3] rfl⟩
  intro ⟨j7, K17, M17⟩ H locs ls hQ ih17
  obtain ⟨hbj7, hT, hE, hk_q2, hk_h0, hm, hS, hl⟩ := hQ
  try dsimp only at hm hl ih17 hbj7 hT hE hk_q2 hk_h0 ⊢
  refine lv_iload_n hx hb dX2_cutTo_17 rfl (lv_at hl 0 rfl) ?_
  refine lv_aload_n hx hb dX2_cutTo_18 rfl (lv_at hl 1 rfl) ?_
  obtain ⟨n_8, f_8, hM_q2_8, hn_8⟩ := hT.ints hk_q2
  refine m_alen hx hb hK hm 0 hM_q2_8 rfl (v := nI n_8) rfl dX2_cutTo_19 ?_
  refine lv_icmp_ge (tgt := 33) hx hb dX2_cutTo_20 (by decide) (fun c9 => ?_) (fun c9 => ?_)
  · refine m_new (T := TX2) (N := 4) (ci := 2) (fs := [.int 0, .int 0, .int 0, .null]) hx hb hts wX2 tyX2 tyX2_ok hown (hts (.classLink RX2 10 RX2) (by decide +kernel)) (hts (.instantiable RX2 4) (by decide +kernel)) (hts (.initialized RX2) (by decide +kernel)) hK hm hS hA rfl (fun j hj => by rcases (show j = 0 ∨ j = 1 ∨ j = 2 ∨ j = 3 by omega) with rfl | rfl | rfl | rfl <;> rfl) (Nat.le_of_ble_eq_true rfl) (Nat.le_of_ble_eq_true rfl) dX2_cutTo_33 (fun q10 H hq10 hm hS => ?_)
    refine W.widen (k := 2) (n := 68) (Nat.le_of_ble_eq_true rfl) (Nat.le_of_ble_eq_true rfl) ?_
    have hm : mm D (AZ z) (mu M17 q10 (.inr (2, [.int 0, .int 0, .int 0, .null]))) H := hm
    have hz0_q10 := hE.no hT0 hT hq10
    have hk0_q10 := hT.no hq10
    have hR_11 : (mu M17 q10 (.inr (2, [.int 0, .int 0, .int 0, .null]))) q2 = _ := (mu_ne (m_fr hq10 hM_q2_8)).trans hM_q2_8
    have hM_q10 : (mu M17 q10 (.inr (2, [.int 0, .int 0, .int 0, .null]))) q10 = _ := mu_self _ _ _
    have hT : TM k K17 (mu M17 q10 (.inr (2, [.int 0, .int 0, .int 0, .null]))) := hT.new0 hq10
    have hE : kx κ M K17 (mu M17 q10 (.inr (2, [.int 0, .int 0, .int 0, .null]))) := hE.new0 hq10
    generalize (mu M17 q10 (.inr (2, [.int 0, .int 0, .int 0, .null]))) = Mc3 at hm hT hE hR_11 hM_q10
    refine lv_dup hx hb dX2_cutTo_36 rfl ?_
    refine lv_aload_n hx hb dX2_cutTo_37 rfl (lv_at hl 2 rfl) ?_
    obtain ⟨v0_12, v1_12, v2_12, v3_12, hM_h0_12, hz_v1_12, hk_v3_12⟩ := hT.node hk_h0
    refine m_get (T := TX2) (N := 4) (ci := 2) (v := .int v0_12) hx hb hts wX2 hown hK hm hM_h0_12 rfl 0 (by decide) f9 (fun _ h9 => h9) rfl dX2_cutTo_38 ?_
    refine lv_aload_n hx hb dX2_cutTo_41 rfl (lv_at hl 2 rfl) ?_
    rcases hz_v1_12 with h9 | h9
    · subst h9
      refine m_get (T := TX2) (N := 4) (ci := 2) (v := .int 0) hx hb hts wX2 hown hK hm hM_h0_12 rfl 1 (by decide) f15 (fun _ h9 => h9) rfl dX2_cutTo_42 ?_
      refine lv_iload_n hx hb dX2_cutTo_45 rfl (lv_at hl 3 rfl) ?_
      refine lv_aload_n hx hb dX2_cutTo_46 rfl (lv_at hl 1 rfl) ?_
      refine m_kI (As := [.int v0_12, .int 0, .int a0, .ref q2]) (rest := [.ref q10]) (rm := { frames := 1, cells := 0, slots := 0, locals := 12 }) ⟨hx, hb, hml, hown, hts⟩ (c_X2_init l D k z _ q10 q2 v0_12 0 a0 (by decide) hM_q10) (cwI 4 hts gX2_cutTo_X2_init rfl rfl rfl (hts (.initialized RX2) (by decide +kernel)) (hts (.methodLink RX2 26 yX2_init) (by decide +kernel)) (hts (.instanceMethod yX2_init) (by decide +kernel)) rfl (by decide +kernel) ⟨Nat.le_of_ble_eq_true rfl, Nat.le_of_ble_eq_true rfl⟩) hz hcx hm hS rfl hl.1 rfl (Nat.le_of_ble_eq_true rfl) dX2_cutTo_47 ⟨Nat.le_of_ble_eq_true rfl, Nat.le_of_ble_eq_true rfl⟩ (fun v M1 H locs hv hm hS => ?_)
      obtain ⟨hv1, hM1⟩ := hv
      subst hv1
      rw [hM1] at hm
      have hR_13 : (mu Mc3 q10 (.inr (2, [.int v0_12, .int 0, .int a0, .ref q2]))) q2 = _ := (mu_ne (fun q9 => by rw [q9, hk0_q10] at hk_q2; cases hk_q2)).trans hR_11
      have hR_14 : (mu Mc3 q10 (.inr (2, [.int v0_12, .int 0, .int a0, .ref q2]))) h0 = _ := (mu_ne (fun q9 => by rw [q9, hk0_q10] at hk_h0; cases hk_h0)).trans hM_h0_12
      have hT : TM k K17 (mu Mc3 q10 (.inr (2, [.int v0_12, .int 0, .int a0, .ref q2]))) := fun b9 d9 hb9 => by
        obtain ⟨e9, h9, h8⟩ := hT b9 d9 hb9
        exact ⟨e9, (mu_ne (fun q9 => by rw [q9, hk0_q10] at hb9; cases hb9)).trans h9, h8⟩
      have hE : kx κ M K17 (mu Mc3 q10 (.inr (2, [.int v0_12, .int 0, .int a0, .ref q2]))) := ⟨hE.1, fun b9 e9 hb9 hn9 => (mu_ne (m_fr hz0_q10 hb9)).trans (hE.2 b9 e9 hb9 hn9)⟩
      have hM_q10 : (mu Mc3 q10 (.inr (2, [.int v0_12, .int 0, .int a0, .ref q2]))) q10 = _ := mu_self _ _ _
      generalize (mu Mc3 q10 (.inr (2, [.int v0_12, .int 0, .int a0, .ref q2]))) = Mc4 at hm hT hE hR_13 hR_14 hM_q10
      have hk_old := hk0_q10
      have hk_q2 := kup_old (d := .node) hk0_q10 hk_q2
      have hk_h0 := kup_old (d := .node) hk0_q10 hk_h0
      have hk_v3_12 := kup_old (d := .node) hk0_q10 hk_v3_12
      have hT : TM k (kup K17 q10 .node) Mc4 := hT.adopt hk0_q10 hM_q10 (show wf k (kup K17 q10 .node) .node _ from ⟨v0_12, 0, a0, q2, rfl, (Or.inl rfl), hk_q2⟩)
      have hE : kx κ M (kup K17 q10 .node) Mc4 := hE.adopt hz0_q10
      have hk_q10 : kup K17 q10 .node q10 = some .node := kup_self _ _ _
      generalize kup K17 q10 .node = κ5 at hT hE hk_q2 hk_h0 hk_v3_12 hk_q10
      refine W.eq (g2 := F0 m 50 ls [.ref q10]) rfl ?_
      refine W.widen (k := 2) (n := 68) (Nat.le_of_ble_eq_true rfl) (Nat.le_of_ble_eq_true rfl) ?_
      have hm : mm D (AZ z) Mc4 H := hm
      refine W.aret (v := .ref q10) hx hb hr (Or.inl ⟨_, rfl⟩) (Or.inr ⟨_, rfl⟩) (fun t ht hW => ⟨⟨some (.ref q10), _, rfl, ?_, by rw [ht]; exact hm⟩, hS.F ht⟩) hS.2.2 dX2_cutTo_50
      exact ⟨_, hT, hE, ⟨_, rfl, hk_q10⟩⟩
    · subst h9
      refine m_get (T := TX2) (N := 4) (ci := 2) (v := .int 1) hx hb hts wX2 hown hK hm hM_h0_12 rfl 1 (by decide) f15 (fun _ h9 => h9) rfl dX2_cutTo_42 ?_
      refine lv_iload_n hx hb dX2_cutTo_45 rfl (lv_at hl 3 rfl) ?_
      refine lv_aload_n hx hb dX2_cutTo_46 rfl (lv_at hl 1 rfl) ?_
      refine m_kI (As := [.int v0_12, .int 1, .int a0, .ref q2]) (rest := [.ref q10]) (rm := { frames := 1, cells := 0, slots := 0, locals := 12 }) ⟨hx, hb, hml, hown, hts⟩ (c_X2_init l D k z _ q10 q2 v0_12 1 a0 (by decide) hM_q10) (cwI 4 hts gX2_cutTo_X2_init rfl rfl rfl (hts (.initialized RX2) (by decide +kernel)) (hts (.methodLink RX2 26 yX2_init) (by decide +kernel)) (hts (.instanceMethod yX2_init) (by decide +kernel)) rfl (by decide +kernel) ⟨Nat.le_of_ble_eq_true rfl, Nat.le_of_ble_eq_true rfl⟩) hz hcx hm hS rfl hl.1 rfl (Nat.le_of_ble_eq_true rfl) dX2_cutTo_47 ⟨Nat.le_of_ble_eq_true rfl, Nat.le_of_ble_eq_true rfl⟩ (fun v M1 H locs hv hm hS => ?_)
      obtain ⟨hv1, hM1⟩ := hv
      subst hv1
      rw [hM1] at hm
      have hR_15 : (mu Mc3 q10 (.inr (2, [.int v0_12, .int 1, .int a0, .ref q2]))) q2 = _ := (mu_ne (fun q9 => by rw [q9, hk0_q10] at hk_q2; cases hk_q2)).trans hR_11
      have hR_16 : (mu Mc3 q10 (.inr (2, [.int v0_12, .int 1, .int a0, .ref q2]))) h0 = _ := (mu_ne (fun q9 => by rw [q9, hk0_q10] at hk_h0; cases hk_h0)).trans hM_h0_12
      have hT : TM k K17 (mu Mc3 q10 (.inr (2, [.int v0_12, .int 1, .int a0, .ref q2]))) := fun b9 d9 hb9 => by
        obtain ⟨e9, h9, h8⟩ := hT b9 d9 hb9
        exact ⟨e9, (mu_ne (fun q9 => by rw [q9, hk0_q10] at hb9; cases hb9)).trans h9, h8⟩
      have hE : kx κ M K17 (mu Mc3 q10 (.inr (2, [.int v0_12, .int 1, .int a0, .ref q2]))) := ⟨hE.1, fun b9 e9 hb9 hn9 => (mu_ne (m_fr hz0_q10 hb9)).trans (hE.2 b9 e9 hb9 hn9)⟩
      have hM_q10 : (mu Mc3 q10 (.inr (2, [.int v0_12, .int 1, .int a0, .ref q2]))) q10 = _ := mu_self _ _ _
      generalize (mu Mc3 q10 (.inr (2, [.int v0_12, .int 1, .int a0, .ref q2]))) = Mc6 at hm hT hE hR_15 hR_16 hM_q10
      have hk_old := hk0_q10
      have hk_q2 := kup_old (d := .node) hk0_q10 hk_q2
      have hk_h0 := kup_old (d := .node) hk0_q10 hk_h0
      have hk_v3_12 := kup_old (d := .node) hk0_q10 hk_v3_12
      have hT : TM k (kup K17 q10 .node) Mc6 := hT.adopt hk0_q10 hM_q10 (show wf k (kup K17 q10 .node) .node _ from ⟨v0_12, 1, a0, q2, rfl, (Or.inr rfl), hk_q2⟩)
      have hE : kx κ M (kup K17 q10 .node) Mc6 := hE.adopt hz0_q10
      have hk_q10 : kup K17 q10 .node q10 = some .node := kup_self _ _ _
      generalize kup K17 q10 .node = κ7 at hT hE hk_q2 hk_h0 hk_v3_12 hk_q10
      refine W.eq (g2 := F0 m 50 ls [.ref q10]) rfl ?_
      refine W.widen (k := 2) (n := 68) (Nat.le_of_ble_eq_true rfl) (Nat.le_of_ble_eq_true rfl) ?_
      have hm : mm D (AZ z) Mc6 H := hm
      refine W.aret (v := .ref q10) hx hb hr (Or.inl ⟨_, rfl⟩) (Or.inr ⟨_, rfl⟩) (fun t ht hW => ⟨⟨some (.ref q10), _, rfl, ?_, by rw [ht]; exact hm⟩, hS.F ht⟩) hS.2.2 dX2_cutTo_50
      exact ⟨_, hT, hE, ⟨_, rfl, hk_q10⟩⟩
  · refine lv_aload_n hx hb dX2_cutTo_23 rfl (lv_at hl 1 rfl) ?_
    refine lv_iload_n hx hb dX2_cutTo_24 rfl (lv_at hl 0 rfl) ?_
    refine lv_iconst (v := 0) hx hb dX2_cutTo_25 (by decide) ?_
    refine m_iast hx hb hK hm hS 0 hM_q2_8 rfl (in_of (i := (nI j7)) (n := n_8) (by first | assumption | exact nI_pos (by omega)) (by assumption) (by first | decide | omega)) dX2_cutTo_26 (fun H locs hm hS => ?_)
    have hm : mm D (AZ z) (mu M17 q2 (.inl (k 0, n_8, .inl (upd f_8 ((nI j7)).toNatClampNeg 0)))) H := hm
    have hT : TM k K17 (mu M17 q2 (.inl (k 0, n_8, .inl (upd f_8 ((nI j7)).toNatClampNeg 0)))) := hT.put hk_q2 (show wf k K17 .ints (.inl (k 0, n_8, .inl (upd f_8 ((nI j7)).toNatClampNeg 0))) from ⟨n_8, (upd f_8 ((nI j7)).toNatClampNeg 0), rfl, hn_8⟩)
    have hE : kx κ M K17 (mu M17 q2 (.inl (k 0, n_8, .inl (upd f_8 ((nI j7)).toNatClampNeg 0)))) := hE.put hk_q2
    generalize (mu M17 q2 (.inl (k 0, n_8, .inl (upd f_8 ((nI j7)).toNatClampNeg 0)))) = Mc8 at hm hT hE
    refine lv_iinc (v := ((nI j7) + 1)) (lv' := [(3, .int ((nI j7) + 1)), (2, .ref q2), (0, .ref h0), (1, .int a0)]) hx hb dX2_cutTo_27 hl (k := 0) rfl rfl (by decide) rfl (fun ls hl => ?_)
    refine lv_goto (tgt := 17) hx hb dX2_cutTo_30 (by decide) ?_
    rw [nI_1] at hl
    exact ih17 (j7 + 1, K17, Mc8) _ _ _ ⟨(by first | exact nI_up hbj7 c9 | exact nI_up2 (by decide) hbj7 c9), hT, hE, hk_q2, hk_h0, hm, hS, lv_sub hl [0, 1, 2, 3] rfl⟩ (by show 2147483648 - (j7 + 1) < 2147483648 - j7; omega)

