set_option maxHeartbeats 4000000 in
set_option maxRecDepth 100000 in
theorem t_X5_remove_II (l : Launch) (hlt : l.stackTraces = false) (D : va_G) (k : Nat → ClassId) (z : Nat) (M : mM) (κ : Nat → Option KD) (h0 : Nat) (a0 : Int32) (a1 : Int32) (hk_h0 : κ h0 = some .top) (hT : TM k κ M) : mC l yX5_remove wsX5_remove ({ frames := 7, cells := 4, slots := 80, locals := 104 }) D k z [.ref h0, .int a0, .int a1] M (fun v M' => ∃ κ', TM k κ' M' ∧ kx κ M κ' M' ∧ (v = some (.int 0) ∨ v = some (.int 1))) (fun E M' => E ∈ (["java/util/NoSuchElementException", "java/lang/UnsupportedOperationException", "java/lang/IllegalStateException", "java/lang/IllegalArgumentException"] : List String) ∧ ∃ κ', TM k κ' M' ∧ kx κ M κ' M') := by
  refine vx_ofW (cc := cX5_remove) (maxL := 6) (ret := (some .boolean)) (by decide) rfl ?_
  intro p e s m args below meth c s₁ B hml hnt hv
  obtain ⟨rfl, hz, hcx, hm⟩ := hv
  have hx := B.exec
  have hb := B.bytes
  have hr := B.returns
  have hts := atoms_spec (ws := wsX5_remove) B.pre
  have hown : s.vm.findClass RX5 = some m.cls := findClass_of_methodNamed B.named
  have hlocks := B.notSynchronized
  have hK := hcx.1
  have hS : va_S (AZ z) s.heap s.heap [] := va_S.rf
  have hA : ∀ q, s.heap.size ≤ q → AZ z q := fun q h => Nat.le_trans hz h
  have hl := lv_entry ([.ref h0, .int a0, .int a1]) (n := 6) (Nat.le_of_ble_eq_true rfl)
  rw [lg_entry_eq]
  generalize (lg_sl ([.ref h0, .int a0, .int a1]) ++ List.replicate (6 - (lg_sl ([.ref h0, .int a0, .int a1])).length) Slot.unset).toArray = ls at hl ⊢
  have hl : lv_has ls 6 [(0, .ref h0), (1, .int a0), (2, .int a1)] := hl
  have f109 := hts (.fieldLink RX5 109 "CommitTree$Transaction" "view" "LCommitTree$Tree;") (by decide +kernel)
  have f139 := hts (.fieldLink RX5 139 "CommitTree$Node" "id" "I") (by decide +kernel)
  have f159 := hts (.fieldLink RX5 159 "CommitTree$Node" "directory" "Z") (by decide +kernel)
  have wX2 : ∀ w ∈ wsX20, w ∈ wsX5_remove := by decide +kernel
  have wX3 : ∀ w ∈ wsX30, w ∈ wsX5_remove := by decide +kernel
  have hT0 := hT
  have hE : kx κ M κ M := kx.refl _ _
  refine lv_aload_n hx hb dX5_remove_0 rfl (lv_at hl 0 rfl) ?_
  refine lv_iload_n hx hb dX5_remove_1 rfl (lv_at hl 1 rfl) ?_
  obtain ⟨v0_1, v1_1, v2_1, v3_1, v4_1, v5_1, v6_1, v7_1, v8_1, v9_1, v10_1, hM_h0_1, hk_v0_1, hk_v1_1, hk_v2_1, hk_v3_1, hk_v4_1, hk_v5_1, hz_v9_1, hz_v10_1⟩ := hT.top hk_h0
  refine m_cV (As := [.int a0]) (rest := []) (rm := { frames := 6, cells := 1, slots := 6, locals := 82 }) ⟨hx, hb, hml, hown, hts⟩ (t_X5_opened_I l hlt D k z _ _ h0 a0 hk_h0 hT) (cwV 1 hts gX5_remove_X5_opened rfl rfl rfl (by decide +kernel) ⟨Nat.le_of_ble_eq_true rfl, Nat.le_of_ble_eq_true rfl⟩) (m_recv hK hm (q := (RX5, TX5, 11)) rfl hM_h0_1) hz hcx hm hS rfl hl.1 rfl (Nat.le_of_ble_eq_true rfl) dX5_remove_2 ⟨Nat.le_of_ble_eq_true rfl, Nat.le_of_ble_eq_true rfl⟩ (fun E ce q9 M1 H locs hv hm hS hce hcv hcl => ?_) (fun v M1 H locs hv hm hS => ?_)
  · refine vx_out (fun x hx => (hnt x hx).elim) hlocks hce hcv hcl (fun t ht hvm => ⟨⟨_, ?_, by rw [ht]; exact hm⟩, hS.F ht⟩) hS.2.2 (Nat.le_of_ble_eq_true rfl) (Nat.le_of_ble_eq_true rfl)
    obtain ⟨hE8, κ8, hT8, hx8⟩ := hv
    exact ⟨by simp only [List.mem_cons, List.not_mem_nil, or_false] at hE8 ⊢; first | exact hE8 | simp [hE8], κ8, hT8, hE.trans hT0 hT hx8⟩
  obtain ⟨hv1, hM1⟩ := hv
  rw [hM1] at hm
  obtain ⟨x2, hv1, hk_x2⟩ := hv1
  subst hv1
  refine W.eq (g2 := F0 m 5 ls [.ref x2]) rfl ?_
  refine W.widen (k := 1) (n := 6) (Nat.le_of_ble_eq_true rfl) (Nat.le_of_ble_eq_true rfl) ?_
  have hm : mm D (AZ z) M H := hm
  refine lv_astore_n (lv' := [(3, .ref x2), (0, .ref h0), (1, .int a0), (2, .int a1)]) hx hb dX5_remove_5 rfl hl (by decide) rfl (fun ls hl => ?_)
  refine lv_iload_n hx hb dX5_remove_6 rfl (lv_at hl 3 rfl) ?_
  refine m_cS (As := [.int a1]) (rest := []) (rm := { frames := 6, cells := 1, slots := 6, locals := 82 }) ⟨hx, hb, hml, hown, hts⟩ (c_X5_needPathBelowRoot l hlt D k z _ a1) (cwS 1 hts gX5_remove_X5_needPathBelowRoot rfl rfl rfl (by decide +kernel) ⟨Nat.le_of_ble_eq_true rfl, Nat.le_of_ble_eq_true rfl⟩) hz hcx hm hS rfl hl.1 rfl (Nat.le_of_ble_eq_true rfl) dX5_remove_7 ⟨Nat.le_of_ble_eq_true rfl, Nat.le_of_ble_eq_true rfl⟩ (fun E ce q9 M1 H locs hv hm hS hce hcv hcl => ?_) (fun v M1 H locs hv hm hS => ?_)
  · refine vx_out (fun x hx => (hnt x hx).elim) hlocks hce hcv hcl (fun t ht hvm => ⟨⟨_, ?_, by rw [ht]; exact hm⟩, hS.F ht⟩) hS.2.2 (Nat.le_of_ble_eq_true rfl) (Nat.le_of_ble_eq_true rfl)
    obtain ⟨-, hE8, hM8⟩ := hv
    rw [hM8]
    exact ⟨by rw [hE8]; simp, _, hT, hE⟩
  obtain ⟨-, hv1, hM1⟩ := hv
  rw [hM1] at hm
  subst hv1
  refine W.eq (g2 := F0 m 10 ls []) rfl ?_
  refine W.widen (k := 2) (n := 12) (Nat.le_of_ble_eq_true rfl) (Nat.le_of_ble_eq_true rfl) ?_
  have hm : mm D (AZ z) M H := hm
  refine lv_aload_n hx hb dX5_remove_10 rfl (lv_at hl 0 rfl) ?_
  refine lv_iload_n hx hb dX5_remove_11 rfl (lv_at hl 3 rfl) ?_
  refine lv_iconst (v := 4) hx hb dX5_remove_12 (by decide) ?_
  refine lv_ishr hx hb dX5_remove_13 ?_
  obtain ⟨v0_3, v1_3, v2_3, v3_3, v4_3, v5_3, v6_3, hM_x2_3, hk_v0_3, hk_v1_3, hk_v2_3, hk_v3_3, hk_v4_3, hz_v5_3⟩ := hT.txn hk_x2
  refine m_kV (As := [.int (a1 >>> (4 &&& 31))]) (rest := []) (rm := { frames := 3, cells := 0, slots := 0, locals := 69 }) ⟨hx, hb, hml, hown, hts⟩ (t_X3_lookUp_I l D k z _ _ x2 (a1 >>> (4 &&& 31)) hk_x2 hT) (cwV 1 hts gX5_remove_X3_lookUp rfl rfl rfl (by decide +kernel) ⟨Nat.le_of_ble_eq_true rfl, Nat.le_of_ble_eq_true rfl⟩) (m_recv hK hm (q := (RX3, TX3, 7)) rfl hM_x2_3) hz hcx hm hS rfl hl.1 rfl (Nat.le_of_ble_eq_true rfl) dX5_remove_14 ⟨Nat.le_of_ble_eq_true rfl, Nat.le_of_ble_eq_true rfl⟩ (fun v M1 H locs hv hm hS => ?_)
  obtain ⟨κ1, hT9, hE9, hv1⟩ := hv
  have hk_h0 := hE9.k hT hk_h0
  have hk_x2 := hE9.k hT hk_x2
  have hE := hE.trans hT0 hT hE9
  have hT := hT9
  obtain ⟨Mc1, hMx⟩ : ∃ x : mM, x = M1 := ⟨M1, rfl⟩
  subst hMx
  rcases hv1 with hv1 | ⟨x4, hv1, hk_x4⟩
  · subst hv1
    refine W.eq (g2 := F0 m 17 ls [.null]) rfl ?_
    refine W.widen (k := 2) (n := 12) (Nat.le_of_ble_eq_true rfl) (Nat.le_of_ble_eq_true rfl) ?_
    have hm : mm D (AZ z) Mc1 H := hm
    refine lv_astoreN (lv' := [(4, .null), (3, .ref x2), (0, .ref h0), (1, .int a0), (2, .int a1)]) hx hb dX5_remove_17 hl (by decide) rfl (fun ls hl => ?_)
    refine lv_aload_n hx hb dX5_remove_19 rfl (lv_at hl 1 rfl) ?_
    refine lv_aloadN hx hb dX5_remove_20 (lv_at hl 0 rfl) ?_
    refine lv_iload_n hx hb dX5_remove_22 rfl (lv_at hl 4 rfl) ?_
    refine lv_bipush (v := 15) hx hb dX5_remove_23 (by decide) ?_
    refine lv_iand hx hb dX5_remove_25 ?_
    obtain ⟨v0_5, v1_5, v2_5, v3_5, v4_5, v5_5, v6_5, hM_x2_5, hk_v0_5, hk_v1_5, hk_v2_5, hk_v3_5, hk_v4_5, hz_v5_5⟩ := hT.txn hk_x2
    refine m_kV (As := [.null, .int (a1 &&& 15)]) (rest := []) (rm := { frames := 0, cells := 0, slots := 0, locals := 0 }) ⟨hx, hb, hml, hown, hts⟩ (t_X3_step_NI l D k z _ _ x2 (a1 &&& 15) hk_x2 hT) (cwV 2 hts gX5_remove_X3_step rfl rfl rfl (by decide +kernel) ⟨Nat.le_of_ble_eq_true rfl, Nat.le_of_ble_eq_true rfl⟩) (m_recv hK hm (q := (RX3, TX3, 7)) rfl hM_x2_5) hz hcx hm hS rfl hl.1 rfl (Nat.le_of_ble_eq_true rfl) dX5_remove_26 ⟨Nat.le_of_ble_eq_true rfl, Nat.le_of_ble_eq_true rfl⟩ (fun v M1 H locs hv hm hS => ?_)
    obtain ⟨κ2, hT9, hE9, hv1⟩ := hv
    have hk_h0 := hE9.k hT hk_h0
    have hk_x2 := hE9.k hT hk_x2
    have hE := hE.trans hT0 hT hE9
    have hT := hT9
    obtain ⟨Mc2, hMx⟩ : ∃ x : mM, x = M1 := ⟨M1, rfl⟩
    subst hMx
    subst hv1
    refine W.eq (g2 := F0 m 29 ls [.null]) rfl ?_
    refine W.widen (k := 2) (n := 12) (Nat.le_of_ble_eq_true rfl) (Nat.le_of_ble_eq_true rfl) ?_
    have hm : mm D (AZ z) Mc2 H := hm
    refine lv_astoreN (lv' := [(5, .null), (4, .null), (3, .ref x2), (0, .ref h0), (1, .int a0), (2, .int a1)]) hx hb dX5_remove_29 hl (by decide) rfl (fun ls hl => ?_)
    refine lv_aloadN hx hb dX5_remove_31 (lv_at hl 0 rfl) ?_
    refine lv_ifnullN (tgt := 41) hx hb dX5_remove_33 (by decide) ?_
    obtain ⟨sa, hsa⟩ := hcx.2.2.1 (156, "there is nothing at the path") (by decide)
    refine nx_throwS (own := RX5) (cls := "java/util/NoSuchElementException") (Y := "java/lang/RuntimeException") (text := "there is nothing at the path") (names := ["java/lang/Exception"]) (ik := 154) (is := 156) (ic := 158) (i1 := 13) (b1 := prog_21_method_4_code) (A := AZ z) hx hb hlt hown (by decide) (by decide) (by decide) (by decide +kernel) (by decide +kernel) (by decide +kernel) (by decide +kernel) (hts (.classLink RX5 154 "java/util/NoSuchElementException") (by decide +kernel)) (hts (.initialized "java/util/NoSuchElementException") (by decide +kernel)) hsa (vx_hat (B := DW) (fun w h => hts w (List.mem_cons_of_mem _ (List.mem_append_left _ (List.mem_append_left _ (List.mem_append_left _ (List.mem_append_right _ h)))))) (by decide +kernel) (hcx.dw _)) (by decide +kernel) hcx.2.1.1 hcx.2.1.2 hS (hl.1.trans hml.symm) dX5_remove_41 dX5_remove_44 dX5_remove_45 dX5_remove_47 dX5_remove_50 (fun x hx => (hnt x hx).elim) (Nat.le_of_ble_eq_true rfl) (Nat.le_of_ble_eq_true rfl) (Nat.le_of_ble_eq_true rfl) (Nat.le_of_ble_eq_true rfl) hlocks (fun t hvm hz1 hq => ⟨⟨_, ?_, hm.kept hq⟩, ⟨Nat.le_trans hS.1 hz1, fun q h1 h2 => (hq q (Nat.lt_of_lt_of_le h1 hS.1)).trans (hS.2.1 q h1 h2)⟩⟩) hS.2.2 (Nat.le_of_ble_eq_true rfl) (Nat.le_of_ble_eq_true rfl)
    exact ⟨by simp, _, hT, hE⟩
  · subst hv1
    refine W.eq (g2 := F0 m 17 ls [.ref x4]) rfl ?_
    refine W.widen (k := 2) (n := 12) (Nat.le_of_ble_eq_true rfl) (Nat.le_of_ble_eq_true rfl) ?_
    have hm : mm D (AZ z) Mc1 H := hm
    refine lv_astore (lv' := [(4, .ref x4), (3, .ref x2), (0, .ref h0), (1, .int a0), (2, .int a1)]) hx hb dX5_remove_17 hl (by decide) rfl (fun ls hl => ?_)
    refine lv_aload_n hx hb dX5_remove_19 rfl (lv_at hl 1 rfl) ?_
    refine lv_aload hx hb dX5_remove_20 (lv_at hl 0 rfl) ?_
    refine lv_iload_n hx hb dX5_remove_22 rfl (lv_at hl 4 rfl) ?_
    refine lv_bipush (v := 15) hx hb dX5_remove_23 (by decide) ?_
    refine lv_iand hx hb dX5_remove_25 ?_
    obtain ⟨v0_7, v1_7, v2_7, v3_7, v4_7, v5_7, v6_7, hM_x2_7, hk_v0_7, hk_v1_7, hk_v2_7, hk_v3_7, hk_v4_7, hz_v5_7⟩ := hT.txn hk_x2
    refine m_kV (As := [.ref x4, .int (a1 &&& 15)]) (rest := []) (rm := { frames := 2, cells := 0, slots := 0, locals := 47 }) ⟨hx, hb, hml, hown, hts⟩ (t_X3_step_RI l D k z _ _ x2 x4 (a1 &&& 15) hk_x2 hk_x4 hT) (cwV 2 hts gX5_remove_X3_step rfl rfl rfl (by decide +kernel) ⟨Nat.le_of_ble_eq_true rfl, Nat.le_of_ble_eq_true rfl⟩) (m_recv hK hm (q := (RX3, TX3, 7)) rfl hM_x2_7) hz hcx hm hS rfl hl.1 rfl (Nat.le_of_ble_eq_true rfl) dX5_remove_26 ⟨Nat.le_of_ble_eq_true rfl, Nat.le_of_ble_eq_true rfl⟩ (fun v M1 H locs hv hm hS => ?_)
    obtain ⟨κ3, hT9, hE9, hv1⟩ := hv
    have hk_h0 := hE9.k hT hk_h0
    have hk_x2 := hE9.k hT hk_x2
    have hk_x4 := hE9.k hT hk_x4
    have hE := hE.trans hT0 hT hE9
    have hT := hT9
    obtain ⟨Mc3, hMx⟩ : ∃ x : mM, x = M1 := ⟨M1, rfl⟩
    subst hMx
    rcases hv1 with hv1 | ⟨x8, hv1, hk_x8⟩
    · subst hv1
      refine W.eq (g2 := F0 m 29 ls [.null]) rfl ?_
      refine W.widen (k := 2) (n := 12) (Nat.le_of_ble_eq_true rfl) (Nat.le_of_ble_eq_true rfl) ?_
      have hm : mm D (AZ z) Mc3 H := hm
      refine lv_astoreN (lv' := [(5, .null), (4, .ref x4), (3, .ref x2), (0, .ref h0), (1, .int a0), (2, .int a1)]) hx hb dX5_remove_29 hl (by decide) rfl (fun ls hl => ?_)
      refine lv_aloadN hx hb dX5_remove_31 (lv_at hl 0 rfl) ?_
      refine lv_ifnullN (tgt := 41) hx hb dX5_remove_33 (by decide) ?_
      obtain ⟨sa, hsa⟩ := hcx.2.2.1 (156, "there is nothing at the path") (by decide)
      refine nx_throwS (own := RX5) (cls := "java/util/NoSuchElementException") (Y := "java/lang/RuntimeException") (text := "there is nothing at the path") (names := ["java/lang/Exception"]) (ik := 154) (is := 156) (ic := 158) (i1 := 13) (b1 := prog_21_method_4_code) (A := AZ z) hx hb hlt hown (by decide) (by decide) (by decide) (by decide +kernel) (by decide +kernel) (by decide +kernel) (by decide +kernel) (hts (.classLink RX5 154 "java/util/NoSuchElementException") (by decide +kernel)) (hts (.initialized "java/util/NoSuchElementException") (by decide +kernel)) hsa (vx_hat (B := DW) (fun w h => hts w (List.mem_cons_of_mem _ (List.mem_append_left _ (List.mem_append_left _ (List.mem_append_left _ (List.mem_append_right _ h)))))) (by decide +kernel) (hcx.dw _)) (by decide +kernel) hcx.2.1.1 hcx.2.1.2 hS (hl.1.trans hml.symm) dX5_remove_41 dX5_remove_44 dX5_remove_45 dX5_remove_47 dX5_remove_50 (fun x hx => (hnt x hx).elim) (Nat.le_of_ble_eq_true rfl) (Nat.le_of_ble_eq_true rfl) (Nat.le_of_ble_eq_true rfl) (Nat.le_of_ble_eq_true rfl) hlocks (fun t hvm hz1 hq => ⟨⟨_, ?_, hm.kept hq⟩, ⟨Nat.le_trans hS.1 hz1, fun q h1 h2 => (hq q (Nat.lt_of_lt_of_le h1 hS.1)).trans (hS.2.1 q h1 h2)⟩⟩) hS.2.2 (Nat.le_of_ble_eq_true rfl) (Nat.le_of_ble_eq_true rfl)
      exact ⟨by simp, _, hT, hE⟩
    · subst hv1
      refine W.eq (g2 := F0 m 29 ls [.ref x8]) rfl ?_
      refine W.widen (k := 2) (n := 12) (Nat.le_of_ble_eq_true rfl) (Nat.le_of_ble_eq_true rfl) ?_
      have hm : mm D (AZ z) Mc3 H := hm
      refine lv_astore (lv' := [(5, .ref x8), (4, .ref x4), (3, .ref x2), (0, .ref h0), (1, .int a0), (2, .int a1)]) hx hb dX5_remove_29 hl (by decide) rfl (fun ls hl => ?_)
      refine lv_aload hx hb dX5_remove_31 (lv_at hl 0 rfl) ?_
      refine lv_ifnull hx hb dX5_remove_33 ?_
      refine lv_aload hx hb dX5_remove_36 (lv_at hl 1 rfl) ?_
      refine lv_ifnonnull (tgt := 51) hx hb dX5_remove_38 (by decide) ?_
      refine lv_aload hx hb dX5_remove_51 (lv_at hl 0 rfl) ?_
      obtain ⟨v0_9, v1_9, v2_9, v3_9, hM_x8_9, hz_v1_9, hk_v3_9⟩ := hT.node hk_x8
      rcases hz_v1_9 with h9 | h9
      · subst h9
        refine m_get (T := TX2) (N := 4) (ci := 2) (v := .int 0) hx hb hts wX2 hown hK hm hM_x8_9 rfl 1 (by decide) f159 (fun _ h9 => h9) rfl dX5_remove_53 ?_
        refine lv_if_eq (tgt := 78) hx hb dX5_remove_56 (by decide) (fun c10 => ?_) (fun c10 => ?_)
        · refine lv_aload_n hx hb dX5_remove_78 rfl (lv_at hl 2 rfl) ?_
          obtain ⟨v0_11, v1_11, v2_11, v3_11, v4_11, v5_11, v6_11, hM_x2_11, hk_v0_11, hk_v1_11, hk_v2_11, hk_v3_11, hk_v4_11, hz_v5_11⟩ := hT.txn hk_x2
          refine m_get (T := TX3) (N := 7) (ci := 3) (v := .ref v1_11) hx hb hts wX3 hown hK hm hM_x2_11 rfl 1 (by decide) f109 (fun _ h9 => h9) rfl dX5_remove_79 ?_
          refine lv_aload hx hb dX5_remove_82 (lv_at hl 0 rfl) ?_
          refine m_get (T := TX2) (N := 4) (ci := 2) (v := .int v0_9) hx hb hts wX2 hown hK hm hM_x8_9 rfl 0 (by decide) f139 (fun _ h9 => h9) rfl dX5_remove_84 ?_
          obtain ⟨v0_12, v1_12, hM_v1_11_12, hk_v0_12, hn_v1_12⟩ := hT.tree hk_v1_11
          refine m_kV (As := [.int v0_9]) (rest := []) (rm := { frames := 1, cells := 0, slots := 0, locals := 23 }) ⟨hx, hb, hml, hown, hts⟩ (t_X4_takeOut_I l D k z _ _ v1_11 v0_9 hk_v1_11 hT) (cwV 1 hts gX5_remove_X4_takeOut rfl rfl rfl (by decide +kernel) ⟨Nat.le_of_ble_eq_true rfl, Nat.le_of_ble_eq_true rfl⟩) (m_recv hK hm (q := (RX4, TX4, 2)) rfl hM_v1_11_12) hz hcx hm hS rfl hl.1 rfl (Nat.le_of_ble_eq_true rfl) dX5_remove_87 ⟨Nat.le_of_ble_eq_true rfl, Nat.le_of_ble_eq_true rfl⟩ (fun v M1 H locs hv hm hS => ?_)
          obtain ⟨κ4, hT9, hE9, hv1⟩ := hv
          have hk_h0 := hE9.k hT hk_h0
          have hk_x2 := hE9.k hT hk_x2
          have hk_x4 := hE9.k hT hk_x4
          have hk_x8 := hE9.k hT hk_x8
          have hk_v1_11 := hE9.k hT hk_v1_11
          have hE := hE.trans hT0 hT hE9
          have hT := hT9
          obtain ⟨Mc4, hMx⟩ : ∃ x : mM, x = M1 := ⟨M1, rfl⟩
          subst hMx
          subst hv1
          refine W.eq (g2 := F0 m 90 ls []) rfl ?_
          refine W.widen (k := 2) (n := 12) (Nat.le_of_ble_eq_true rfl) (Nat.le_of_ble_eq_true rfl) ?_
          have hm : mm D (AZ z) Mc4 H := hm
          refine lv_aload_n hx hb dX5_remove_90 rfl (lv_at hl 2 rfl) ?_
          obtain ⟨v0_13, v1_13, v2_13, v3_13, v4_13, v5_13, v6_13, hM_x2_13, hk_v0_13, hk_v1_13, hk_v2_13, hk_v3_13, hk_v4_13, hz_v5_13⟩ := hT.txn hk_x2
          refine m_get (T := TX3) (N := 7) (ci := 3) (v := .ref v1_13) hx hb hts wX3 hown hK hm hM_x2_13 rfl 1 (by decide) f109 (fun _ h9 => h9) rfl dX5_remove_91 ?_
          refine lv_aload hx hb dX5_remove_94 (lv_at hl 1 rfl) ?_
          obtain ⟨v0_14, v1_14, v2_14, v3_14, hM_x4_14, hz_v1_14, hk_v3_14⟩ := hT.node hk_x4
          refine m_get (T := TX2) (N := 4) (ci := 2) (v := .int v0_14) hx hb hts wX2 hown hK hm hM_x4_14 rfl 0 (by decide) f139 (fun _ h9 => h9) rfl dX5_remove_96 ?_
          refine lv_iload_n hx hb dX5_remove_99 rfl (lv_at hl 5 rfl) ?_
          refine lv_bipush (v := 15) hx hb dX5_remove_100 (by decide) ?_
          refine lv_iand hx hb dX5_remove_102 ?_
          refine lv_iconst (v := 0) hx hb dX5_remove_103 (by decide) ?_
          obtain ⟨v0_15, v1_15, hM_v1_13_15, hk_v0_15, hn_v1_15⟩ := hT.tree hk_v1_13
          refine m_kV (As := [.int v0_14, .int (a1 &&& 15), .int 0]) (rest := []) (rm := { frames := 3, cells := 2, slots := 68, locals := 64 }) ⟨hx, hb, hml, hown, hts⟩ (t_X4_setEntry_III l D k z _ _ v1_13 v0_14 (a1 &&& 15) 0 hk_v1_13 hT) (cwV 3 hts gX5_remove_X4_setEntry rfl rfl rfl (by decide +kernel) ⟨Nat.le_of_ble_eq_true rfl, Nat.le_of_ble_eq_true rfl⟩) (m_recv hK hm (q := (RX4, TX4, 2)) rfl hM_v1_13_15) hz hcx hm hS rfl hl.1 rfl (Nat.le_of_ble_eq_true rfl) dX5_remove_104 ⟨Nat.le_of_ble_eq_true rfl, Nat.le_of_ble_eq_true rfl⟩ (fun v M1 H locs hv hm hS => ?_)
          obtain ⟨κ5, hT9, hE9, hv1⟩ := hv
          have hk_h0 := hE9.k hT hk_h0
          have hk_x2 := hE9.k hT hk_x2
          have hk_x4 := hE9.k hT hk_x4
          have hk_x8 := hE9.k hT hk_x8
          have hk_v1_13 := hE9.k hT hk_v1_13
          have hE := hE.trans hT0 hT hE9
          have hT := hT9
          obtain ⟨Mc5, hMx⟩ : ∃ x : mM, x = M1 := ⟨M1, rfl⟩
          subst hMx
          subst hv1
          refine W.eq (g2 := F0 m 107 ls []) rfl ?_
          refine W.widen (k := 4) (n := 80) (Nat.le_of_ble_eq_true rfl) (Nat.le_of_ble_eq_true rfl) ?_
          have hm : mm D (AZ z) Mc5 H := hm
          refine lv_aload hx hb dX5_remove_107 (lv_at hl 0 rfl) ?_
          obtain ⟨v0_16, v1_16, v2_16, v3_16, hM_x8_16, hz_v1_16, hk_v3_16⟩ := hT.node hk_x8
          rcases hz_v1_16 with h9 | h9
          · subst h9
            refine m_get (T := TX2) (N := 4) (ci := 2) (v := .int 0) hx hb hts wX2 hown hK hm hM_x8_16 rfl 1 (by decide) f159 (fun _ h9 => h9) rfl dX5_remove_109 ?_
            refine vx_ret ?_
            refine W.zret hx hb hr rfl (fun t ht hW => ⟨⟨some (.int 0), _, rfl, ?_, by rw [ht]; exact hm⟩, hS.F ht⟩) hS.2.2 dX5_remove_112
            exact ⟨_, hT, hE, Or.inl rfl⟩
          · subst h9
            refine m_get (T := TX2) (N := 4) (ci := 2) (v := .int 1) hx hb hts wX2 hown hK hm hM_x8_16 rfl 1 (by decide) f159 (fun _ h9 => h9) rfl dX5_remove_109 ?_
            refine vx_ret ?_
            refine W.zret hx hb hr rfl (fun t ht hW => ⟨⟨some (.int 1), _, rfl, ?_, by rw [ht]; exact hm⟩, hS.F ht⟩) hS.2.2 dX5_remove_112
            exact ⟨_, hT, hE, Or.inr rfl⟩
        · first | exact absurd c10 (by decide) | exact absurd (by decide) c10
      · subst h9
        refine m_get (T := TX2) (N := 4) (ci := 2) (v := .int 1) hx hb hts wX2 hown hK hm hM_x8_9 rfl 1 (by decide) f159 (fun _ h9 => h9) rfl dX5_remove_53 ?_
        refine lv_if_eq (tgt := 78) hx hb dX5_remove_56 (by decide) (fun c17 => ?_) (fun c17 => ?_)
        · first | exact absurd c17 (by decide) | exact absurd (by decide) c17
        · refine lv_aload_n hx hb dX5_remove_59 rfl (lv_at hl 2 rfl) ?_
          refine lv_aload hx hb dX5_remove_60 (lv_at hl 0 rfl) ?_
          obtain ⟨v0_18, v1_18, v2_18, v3_18, v4_18, v5_18, v6_18, hM_x2_18, hk_v0_18, hk_v1_18, hk_v2_18, hk_v3_18, hk_v4_18, hz_v5_18⟩ := hT.txn hk_x2
          refine m_kV (As := [.ref x8]) (rest := []) (rm := { frames := 1, cells := 0, slots := 0, locals := 23 }) ⟨hx, hb, hml, hown, hts⟩ (t_X3_namesOf_R l D k z _ _ x2 x8 hk_x2 hk_x8 hT) (cwV 1 hts gX5_remove_X3_namesOf rfl rfl rfl (by decide +kernel) ⟨Nat.le_of_ble_eq_true rfl, Nat.le_of_ble_eq_true rfl⟩) (m_recv hK hm (q := (RX3, TX3, 7)) rfl hM_x2_18) hz hcx hm hS rfl hl.1 rfl (Nat.le_of_ble_eq_true rfl) dX5_remove_62 ⟨Nat.le_of_ble_eq_true rfl, Nat.le_of_ble_eq_true rfl⟩ (fun v M1 H locs hv hm hS => ?_)
          obtain ⟨κ6, hT9, hE9, hv1⟩ := hv
          have hk_h0 := hE9.k hT hk_h0
          have hk_x2 := hE9.k hT hk_x2
          have hk_x4 := hE9.k hT hk_x4
          have hk_x8 := hE9.k hT hk_x8
          have hE := hE.trans hT0 hT hE9
          have hT := hT9
          obtain ⟨Mc6, hMx⟩ : ∃ x : mM, x = M1 := ⟨M1, rfl⟩
          subst hMx
          obtain ⟨w19, hv1⟩ := hv1
          subst hv1
          refine W.eq (g2 := F0 m 65 ls [.int w19]) rfl ?_
          refine W.widen (k := 2) (n := 12) (Nat.le_of_ble_eq_true rfl) (Nat.le_of_ble_eq_true rfl) ?_
          have hm : mm D (AZ z) Mc6 H := hm
          refine lv_if_eq (tgt := 78) hx hb dX5_remove_65 (by decide) (fun c20 => ?_) (fun c20 => ?_)
          · refine lv_aload_n hx hb dX5_remove_78 rfl (lv_at hl 2 rfl) ?_
            obtain ⟨v0_21, v1_21, v2_21, v3_21, v4_21, v5_21, v6_21, hM_x2_21, hk_v0_21, hk_v1_21, hk_v2_21, hk_v3_21, hk_v4_21, hz_v5_21⟩ := hT.txn hk_x2
            refine m_get (T := TX3) (N := 7) (ci := 3) (v := .ref v1_21) hx hb hts wX3 hown hK hm hM_x2_21 rfl 1 (by decide) f109 (fun _ h9 => h9) rfl dX5_remove_79 ?_
            refine lv_aload hx hb dX5_remove_82 (lv_at hl 0 rfl) ?_
            obtain ⟨v0_22, v1_22, v2_22, v3_22, hM_x8_22, hz_v1_22, hk_v3_22⟩ := hT.node hk_x8
            refine m_get (T := TX2) (N := 4) (ci := 2) (v := .int v0_22) hx hb hts wX2 hown hK hm hM_x8_22 rfl 0 (by decide) f139 (fun _ h9 => h9) rfl dX5_remove_84 ?_
            obtain ⟨v0_23, v1_23, hM_v1_21_23, hk_v0_23, hn_v1_23⟩ := hT.tree hk_v1_21
            refine m_kV (As := [.int v0_22]) (rest := []) (rm := { frames := 1, cells := 0, slots := 0, locals := 23 }) ⟨hx, hb, hml, hown, hts⟩ (t_X4_takeOut_I l D k z _ _ v1_21 v0_22 hk_v1_21 hT) (cwV 1 hts gX5_remove_X4_takeOut rfl rfl rfl (by decide +kernel) ⟨Nat.le_of_ble_eq_true rfl, Nat.le_of_ble_eq_true rfl⟩) (m_recv hK hm (q := (RX4, TX4, 2)) rfl hM_v1_21_23) hz hcx hm hS rfl hl.1 rfl (Nat.le_of_ble_eq_true rfl) dX5_remove_87 ⟨Nat.le_of_ble_eq_true rfl, Nat.le_of_ble_eq_true rfl⟩ (fun v M1 H locs hv hm hS => ?_)
            obtain ⟨κ7, hT9, hE9, hv1⟩ := hv
            have hk_h0 := hE9.k hT hk_h0
            have hk_x2 := hE9.k hT hk_x2
            have hk_x4 := hE9.k hT hk_x4
            have hk_x8 := hE9.k hT hk_x8
            have hk_v1_21 := hE9.k hT hk_v1_21
            have hE := hE.trans hT0 hT hE9
            have hT := hT9
            obtain ⟨Mc7, hMx⟩ : ∃ x : mM, x = M1 := ⟨M1, rfl⟩
            subst hMx
            subst hv1
            refine W.eq (g2 := F0 m 90 ls []) rfl ?_
            refine W.widen (k := 2) (n := 12) (Nat.le_of_ble_eq_true rfl) (Nat.le_of_ble_eq_true rfl) ?_
            have hm : mm D (AZ z) Mc7 H := hm
            refine lv_aload_n hx hb dX5_remove_90 rfl (lv_at hl 2 rfl) ?_
            obtain ⟨v0_24, v1_24, v2_24, v3_24, v4_24, v5_24, v6_24, hM_x2_24, hk_v0_24, hk_v1_24, hk_v2_24, hk_v3_24, hk_v4_24, hz_v5_24⟩ := hT.txn hk_x2
            refine m_get (T := TX3) (N := 7) (ci := 3) (v := .ref v1_24) hx hb hts wX3 hown hK hm hM_x2_24 rfl 1 (by decide) f109 (fun _ h9 => h9) rfl dX5_remove_91 ?_
            refine lv_aload hx hb dX5_remove_94 (lv_at hl 1 rfl) ?_
            obtain ⟨v0_25, v1_25, v2_25, v3_25, hM_x4_25, hz_v1_25, hk_v3_25⟩ := hT.node hk_x4
            refine m_get (T := TX2) (N := 4) (ci := 2) (v := .int v0_25) hx hb hts wX2 hown hK hm hM_x4_25 rfl 0 (by decide) f139 (fun _ h9 => h9) rfl dX5_remove_96 ?_
            refine lv_iload_n hx hb dX5_remove_99 rfl (lv_at hl 5 rfl) ?_
            refine lv_bipush (v := 15) hx hb dX5_remove_100 (by decide) ?_
            refine lv_iand hx hb dX5_remove_102 ?_
            refine lv_iconst (v := 0) hx hb dX5_remove_103 (by decide) ?_
            obtain ⟨v0_26, v1_26, hM_v1_24_26, hk_v0_26, hn_v1_26⟩ := hT.tree hk_v1_24
            refine m_kV (As := [.int v0_25, .int (a1 &&& 15), .int 0]) (rest := []) (rm := { frames := 3, cells := 2, slots := 68, locals := 64 }) ⟨hx, hb, hml, hown, hts⟩ (t_X4_setEntry_III l D k z _ _ v1_24 v0_25 (a1 &&& 15) 0 hk_v1_24 hT) (cwV 3 hts gX5_remove_X4_setEntry rfl rfl rfl (by decide +kernel) ⟨Nat.le_of_ble_eq_true rfl, Nat.le_of_ble_eq_true rfl⟩) (m_recv hK hm (q := (RX4, TX4, 2)) rfl hM_v1_24_26) hz hcx hm hS rfl hl.1 rfl (Nat.le_of_ble_eq_true rfl) dX5_remove_104 ⟨Nat.le_of_ble_eq_true rfl, Nat.le_of_ble_eq_true rfl⟩ (fun v M1 H locs hv hm hS => ?_)
            obtain ⟨κ8, hT9, hE9, hv1⟩ := hv
            have hk_h0 := hE9.k hT hk_h0
            have hk_x2 := hE9.k hT hk_x2
            have hk_x4 := hE9.k hT hk_x4
            have hk_x8 := hE9.k hT hk_x8
            have hk_v1_24 := hE9.k hT hk_v1_24
            have hE := hE.trans hT0 hT hE9
            have hT := hT9
            obtain ⟨Mc8, hMx⟩ : ∃ x : mM, x = M1 := ⟨M1, rfl⟩
            subst hMx
            subst hv1
            refine W.eq (g2 := F0 m 107 ls []) rfl ?_
            refine W.widen (k := 4) (n := 80) (Nat.le_of_ble_eq_true rfl) (Nat.le_of_ble_eq_true rfl) ?_
            have hm : mm D (AZ z) Mc8 H := hm
            refine lv_aload hx hb dX5_remove_107 (lv_at hl 0 rfl) ?_
            obtain ⟨v0_27, v1_27, v2_27, v3_27, hM_x8_27, hz_v1_27, hk_v3_27⟩ := hT.node hk_x8
            rcases hz_v1_27 with h9 | h9
            · subst h9
              refine m_get (T := TX2) (N := 4) (ci := 2) (v := .int 0) hx hb hts wX2 hown hK hm hM_x8_27 rfl 1 (by decide) f159 (fun _ h9 => h9) rfl dX5_remove_109 ?_
              refine vx_ret ?_
              refine W.zret hx hb hr rfl (fun t ht hW => ⟨⟨some (.int 0), _, rfl, ?_, by rw [ht]; exact hm⟩, hS.F ht⟩) hS.2.2 dX5_remove_112
              exact ⟨_, hT, hE, Or.inl rfl⟩
            · subst h9
              refine m_get (T := TX2) (N := 4) (ci := 2) (v := .int 1) hx hb hts wX2 hown hK hm hM_x8_27 rfl 1 (by decide) f159 (fun _ h9 => h9) rfl dX5_remove_109 ?_
              refine vx_ret ?_
              refine W.zret hx hb hr rfl (fun t ht hW => ⟨⟨some (.int 1), _, rfl, ?_, by rw [ht]; exact hm⟩, hS.F ht⟩) hS.2.2 dX5_remove_112
              exact ⟨_, hT, hE, Or.inr rfl⟩
          · obtain ⟨sa, hsa⟩ := hcx.2.2.1 (166, "the directory is not empty") (by decide)
            refine vx_throwS (own := RX5) (cls := "java/lang/UnsupportedOperationException") (text := "the directory is not empty") (names := ["java/lang/RuntimeException", "java/lang/Exception"]) (ik := 86) (is := 166) (ic := 90) (A := AZ z) hx hb hlt hown (by decide) (by decide) (hts (.classLink RX5 86 "java/lang/UnsupportedOperationException") (by decide +kernel)) (hts (.initialized "java/lang/UnsupportedOperationException") (by decide +kernel)) hsa (vx_hat (B := DW) (fun w h => hts w (List.mem_cons_of_mem _ (List.mem_append_left _ (List.mem_append_left _ (List.mem_append_right _ h))))) (by decide +kernel) (hcx.dw _)) (by decide +kernel) hcx.2.1.1 hcx.2.1.2 hS (hl.1.trans hml.symm) dX5_remove_68 dX5_remove_71 dX5_remove_72 dX5_remove_74 dX5_remove_77 (fun x hx => (hnt x hx).elim) (Nat.le_of_ble_eq_true rfl) (Nat.le_of_ble_eq_true rfl) (Nat.le_of_ble_eq_true rfl) (Nat.le_of_ble_eq_true rfl) hlocks (fun t hvm hz1 hq => ⟨⟨_, ?_, hm.kept hq⟩, ⟨Nat.le_trans hS.1 hz1, fun q h1 h2 => (hq q (Nat.lt_of_lt_of_le h1 hS.1)).trans (hS.2.1 q h1 h2)⟩⟩) hS.2.2 (Nat.le_of_ble_eq_true rfl) (Nat.le_of_ble_eq_true rfl)
            exact ⟨by simp, _, hT, hE⟩

set_option maxHeartbeats 4000000 in
set_option maxRecDepth 100000 in
theorem t_X5_move_III (l : Launch) (hlt : l.stackTraces = false) (D : va_G) (k : Nat → ClassId) (z : Nat) (M : mM) (κ : Nat → Option KD) (h0 : Nat) (a0 : Int32) (a1 : Int32) (a2 : Int32) (hk_h0 : κ h0 = some .top) (hT : TM k κ M) : mC l yX5_move wsX5_move ({ frames := 7, cells := 8, slots := 160, locals := 115 }) D k z [.ref h0, .int a0, .int a1, .int a2] M (fun v M' => ∃ κ', TM k κ' M' ∧ kx κ M κ' M' ∧ (v = some (.int 0) ∨ v = some (.int 1))) (fun E M' => E ∈ (["java/lang/IllegalArgumentException", "java/util/NoSuchElementException", "java/lang/IllegalStateException", "java/lang/UnsupportedOperationException"] : List String) ∧ ∃ κ', TM k κ' M' ∧ kx κ M κ' M') := by
  refine vx_ofW (cc := cX5_move) (maxL := 8) (ret := (some .boolean)) (by decide) rfl ?_
  intro p e s m args below meth c s₁ B hml hnt hv
  obtain ⟨rfl, hz, hcx, hm⟩ := hv
  have hx := B.exec
  have hb := B.bytes
  have hr := B.returns
  have hts := atoms_spec (ws := wsX5_move) B.pre
  have hown : s.vm.findClass RX5 = some m.cls := findClass_of_methodNamed B.named
  have hlocks := B.notSynchronized
  have hK := hcx.1
  have hS : va_S (AZ z) s.heap s.heap [] := va_S.rf
  have hA : ∀ q, s.heap.size ≤ q → AZ z q := fun q h => Nat.le_trans hz h
  have hl := lv_entry ([.ref h0, .int a0, .int a1, .int a2]) (n := 8) (Nat.le_of_ble_eq_true rfl)
  rw [lg_entry_eq]
  generalize (lg_sl ([.ref h0, .int a0, .int a1, .int a2]) ++ List.replicate (8 - (lg_sl ([.ref h0, .int a0, .int a1, .int a2])).length) Slot.unset).toArray = ls at hl ⊢
  have hl : lv_has ls 8 [(0, .ref h0), (1, .int a0), (2, .int a1), (3, .int a2)] := hl
  have f109 := hts (.fieldLink RX5 109 "CommitTree$Transaction" "view" "LCommitTree$Tree;") (by decide +kernel)
  have f139 := hts (.fieldLink RX5 139 "CommitTree$Node" "id" "I") (by decide +kernel)
  have f159 := hts (.fieldLink RX5 159 "CommitTree$Node" "directory" "Z") (by decide +kernel)
  have wX2 : ∀ w ∈ wsX20, w ∈ wsX5_move := by decide +kernel
  have wX3 : ∀ w ∈ wsX30, w ∈ wsX5_move := by decide +kernel
  have hT0 := hT
  have hE : kx κ M κ M := kx.refl _ _
  refine lv_aload_n hx hb dX5_move_0 rfl (lv_at hl 0 rfl) ?_
  refine lv_iload_n hx hb dX5_move_1 rfl (lv_at hl 1 rfl) ?_
  obtain ⟨v0_1, v1_1, v2_1, v3_1, v4_1, v5_1, v6_1, v7_1, v8_1, v9_1, v10_1, hM_h0_1, hk_v0_1, hk_v1_1, hk_v2_1, hk_v3_1, hk_v4_1, hk_v5_1, hz_v9_1, hz_v10_1⟩ := hT.top hk_h0
  refine m_cV (As := [.int a0]) (rest := []) (rm := { frames := 6, cells := 1, slots := 6, locals := 82 }) ⟨hx, hb, hml, hown, hts⟩ (t_X5_opened_I l hlt D k z _ _ h0 a0 hk_h0 hT) (cwV 1 hts gX5_move_X5_opened rfl rfl rfl (by decide +kernel) ⟨Nat.le_of_ble_eq_true rfl, Nat.le_of_ble_eq_true rfl⟩) (m_recv hK hm (q := (RX5, TX5, 11)) rfl hM_h0_1) hz hcx hm hS rfl hl.1 rfl (Nat.le_of_ble_eq_true rfl) dX5_move_2 ⟨Nat.le_of_ble_eq_true rfl, Nat.le_of_ble_eq_true rfl⟩ (fun E ce q9 M1 H locs hv hm hS hce hcv hcl => ?_) (fun v M1 H locs hv hm hS => ?_)
  · refine vx_out (fun x hx => (hnt x hx).elim) hlocks hce hcv hcl (fun t ht hvm => ⟨⟨_, ?_, by rw [ht]; exact hm⟩, hS.F ht⟩) hS.2.2 (Nat.le_of_ble_eq_true rfl) (Nat.le_of_ble_eq_true rfl)
    obtain ⟨hE8, κ8, hT8, hx8⟩ := hv
    exact ⟨by simp only [List.mem_cons, List.not_mem_nil, or_false] at hE8 ⊢; first | exact hE8 | simp [hE8], κ8, hT8, hE.trans hT0 hT hx8⟩
  obtain ⟨hv1, hM1⟩ := hv
  rw [hM1] at hm
  obtain ⟨x2, hv1, hk_x2⟩ := hv1
  subst hv1
  refine W.eq (g2 := F0 m 5 ls [.ref x2]) rfl ?_
  refine W.widen (k := 1) (n := 6) (Nat.le_of_ble_eq_true rfl) (Nat.le_of_ble_eq_true rfl) ?_
  have hm : mm D (AZ z) M H := hm
  refine lv_astore (lv' := [(4, .ref x2), (0, .ref h0), (1, .int a0), (2, .int a1), (3, .int a2)]) hx hb dX5_move_5 hl (by decide) rfl (fun ls hl => ?_)
  refine lv_iload_n hx hb dX5_move_7 rfl (lv_at hl 3 rfl) ?_
  refine m_cS (As := [.int a1]) (rest := []) (rm := { frames := 6, cells := 1, slots := 6, locals := 82 }) ⟨hx, hb, hml, hown, hts⟩ (c_X5_needPathBelowRoot l hlt D k z _ a1) (cwS 1 hts gX5_move_X5_needPathBelowRoot rfl rfl rfl (by decide +kernel) ⟨Nat.le_of_ble_eq_true rfl, Nat.le_of_ble_eq_true rfl⟩) hz hcx hm hS rfl hl.1 rfl (Nat.le_of_ble_eq_true rfl) dX5_move_8 ⟨Nat.le_of_ble_eq_true rfl, Nat.le_of_ble_eq_true rfl⟩ (fun E ce q9 M1 H locs hv hm hS hce hcv hcl => ?_) (fun v M1 H locs hv hm hS => ?_)
  · refine vx_out (fun x hx => (hnt x hx).elim) hlocks hce hcv hcl (fun t ht hvm => ⟨⟨_, ?_, by rw [ht]; exact hm⟩, hS.F ht⟩) hS.2.2 (Nat.le_of_ble_eq_true rfl) (Nat.le_of_ble_eq_true rfl)
    obtain ⟨-, hE8, hM8⟩ := hv
    rw [hM8]
    exact ⟨by rw [hE8]; simp, _, hT, hE⟩
  obtain ⟨-, hv1, hM1⟩ := hv
  rw [hM1] at hm
  subst hv1
  refine W.eq (g2 := F0 m 11 ls []) rfl ?_
  refine W.widen (k := 2) (n := 12) (Nat.le_of_ble_eq_true rfl) (Nat.le_of_ble_eq_true rfl) ?_
  have hm : mm D (AZ z) M H := hm
  refine lv_iload_n hx hb dX5_move_11 rfl (lv_at hl 4 rfl) ?_
  refine m_cS (As := [.int a2]) (rest := []) (rm := { frames := 6, cells := 1, slots := 6, locals := 82 }) ⟨hx, hb, hml, hown, hts⟩ (c_X5_needPathBelowRoot l hlt D k z _ a2) (cwS 1 hts gX5_move_X5_needPathBelowRoot rfl rfl rfl (by decide +kernel) ⟨Nat.le_of_ble_eq_true rfl, Nat.le_of_ble_eq_true rfl⟩) hz hcx hm hS rfl hl.1 rfl (Nat.le_of_ble_eq_true rfl) dX5_move_12 ⟨Nat.le_of_ble_eq_true rfl, Nat.le_of_ble_eq_true rfl⟩ (fun E ce q9 M1 H locs hv hm hS hce hcv hcl => ?_) (fun v M1 H locs hv hm hS => ?_)
  · refine vx_out (fun x hx => (hnt x hx).elim) hlocks hce hcv hcl (fun t ht hvm => ⟨⟨_, ?_, by rw [ht]; exact hm⟩, hS.F ht⟩) hS.2.2 (Nat.le_of_ble_eq_true rfl) (Nat.le_of_ble_eq_true rfl)
    obtain ⟨-, hE8, hM8⟩ := hv
    rw [hM8]
    exact ⟨by rw [hE8]; simp, _, hT, hE⟩
  obtain ⟨-, hv1, hM1⟩ := hv
  rw [hM1] at hm
  subst hv1
  refine W.eq (g2 := F0 m 15 ls []) rfl ?_
  refine W.widen (k := 3) (n := 18) (Nat.le_of_ble_eq_true rfl) (Nat.le_of_ble_eq_true rfl) ?_
  have hm : mm D (AZ z) M H := hm
  refine lv_iload_n hx hb dX5_move_15 rfl (lv_at hl 4 rfl) ?_
  refine lv_iload_n hx hb dX5_move_16 rfl (lv_at hl 3 rfl) ?_
  refine m_kS (As := [.int a2, .int a1]) (rest := []) (rm := { frames := 0, cells := 0, slots := 0, locals := 0 }) ⟨hx, hb, hml, hown, hts⟩ (c_X5_isOrGoesThrough l D k z _ a2 a1) (cwS 2 hts gX5_move_X5_isOrGoesThrough rfl rfl rfl (by decide +kernel) ⟨Nat.le_of_ble_eq_true rfl, Nat.le_of_ble_eq_true rfl⟩) hz hcx hm hS rfl hl.1 rfl (Nat.le_of_ble_eq_true rfl) dX5_move_17 ⟨Nat.le_of_ble_eq_true rfl, Nat.le_of_ble_eq_true rfl⟩ (fun v M1 H locs hv hm hS => ?_)
  obtain ⟨hv1, hM1⟩ := hv
  have hv1 : v = some (.int 0) ∨ v = some (.int 1) := hv1.elim (fun q => Or.inr q.2) (fun q => Or.inl q.2)
  rw [hM1] at hm
  rcases hv1 with hv1 | hv1
  · subst hv1
    refine W.eq (g2 := F0 m 20 ls [.int 0]) rfl ?_
    refine W.widen (k := 3) (n := 18) (Nat.le_of_ble_eq_true rfl) (Nat.le_of_ble_eq_true rfl) ?_
    have hm : mm D (AZ z) M H := hm
    refine lv_if_eq (tgt := 33) hx hb dX5_move_20 (by decide) (fun c3 => ?_) (fun c3 => ?_)
    · refine lv_aload hx hb dX5_move_33 (lv_at hl 0 rfl) ?_
      refine lv_iload_n hx hb dX5_move_35 rfl (lv_at hl 3 rfl) ?_
      refine lv_iconst (v := 4) hx hb dX5_move_36 (by decide) ?_
      refine lv_ishr hx hb dX5_move_37 ?_
      obtain ⟨v0_4, v1_4, v2_4, v3_4, v4_4, v5_4, v6_4, hM_x2_4, hk_v0_4, hk_v1_4, hk_v2_4, hk_v3_4, hk_v4_4, hz_v5_4⟩ := hT.txn hk_x2
      refine m_kV (As := [.int (a1 >>> (4 &&& 31))]) (rest := []) (rm := { frames := 3, cells := 0, slots := 0, locals := 69 }) ⟨hx, hb, hml, hown, hts⟩ (t_X3_lookUp_I l D k z _ _ x2 (a1 >>> (4 &&& 31)) hk_x2 hT) (cwV 1 hts gX5_move_X3_lookUp rfl rfl rfl (by decide +kernel) ⟨Nat.le_of_ble_eq_true rfl, Nat.le_of_ble_eq_true rfl⟩) (m_recv hK hm (q := (RX3, TX3, 7)) rfl hM_x2_4) hz hcx hm hS rfl hl.1 rfl (Nat.le_of_ble_eq_true rfl) dX5_move_38 ⟨Nat.le_of_ble_eq_true rfl, Nat.le_of_ble_eq_true rfl⟩ (fun v M1 H locs hv hm hS => ?_)
      obtain ⟨κ1, hT9, hE9, hv1⟩ := hv
      have hk_h0 := hE9.k hT hk_h0
      have hk_x2 := hE9.k hT hk_x2
      have hE := hE.trans hT0 hT hE9
      have hT := hT9
      obtain ⟨Mc1, hMx⟩ : ∃ x : mM, x = M1 := ⟨M1, rfl⟩
      subst hMx
      rcases hv1 with hv1 | ⟨x5, hv1, hk_x5⟩
      · subst hv1
        refine W.eq (g2 := F0 m 41 ls [.null]) rfl ?_
        refine W.widen (k := 3) (n := 18) (Nat.le_of_ble_eq_true rfl) (Nat.le_of_ble_eq_true rfl) ?_
        have hm : mm D (AZ z) Mc1 H := hm
        refine lv_astoreN (lv' := [(5, .null), (4, .ref x2), (0, .ref h0), (1, .int a0), (2, .int a1), (3, .int a2)]) hx hb dX5_move_41 hl (by decide) rfl (fun ls hl => ?_)
        refine lv_aload hx hb dX5_move_43 (lv_at hl 1 rfl) ?_
        refine lv_aloadN hx hb dX5_move_45 (lv_at hl 0 rfl) ?_
        refine lv_iload_n hx hb dX5_move_47 rfl (lv_at hl 4 rfl) ?_
        refine lv_bipush (v := 15) hx hb dX5_move_48 (by decide) ?_
        refine lv_iand hx hb dX5_move_50 ?_
        obtain ⟨v0_6, v1_6, v2_6, v3_6, v4_6, v5_6, v6_6, hM_x2_6, hk_v0_6, hk_v1_6, hk_v2_6, hk_v3_6, hk_v4_6, hz_v5_6⟩ := hT.txn hk_x2
        refine m_kV (As := [.null, .int (a1 &&& 15)]) (rest := []) (rm := { frames := 0, cells := 0, slots := 0, locals := 0 }) ⟨hx, hb, hml, hown, hts⟩ (t_X3_step_NI l D k z _ _ x2 (a1 &&& 15) hk_x2 hT) (cwV 2 hts gX5_move_X3_step rfl rfl rfl (by decide +kernel) ⟨Nat.le_of_ble_eq_true rfl, Nat.le_of_ble_eq_true rfl⟩) (m_recv hK hm (q := (RX3, TX3, 7)) rfl hM_x2_6) hz hcx hm hS rfl hl.1 rfl (Nat.le_of_ble_eq_true rfl) dX5_move_51 ⟨Nat.le_of_ble_eq_true rfl, Nat.le_of_ble_eq_true rfl⟩ (fun v M1 H locs hv hm hS => ?_)
        obtain ⟨κ2, hT9, hE9, hv1⟩ := hv
        have hk_h0 := hE9.k hT hk_h0
        have hk_x2 := hE9.k hT hk_x2
        have hE := hE.trans hT0 hT hE9
        have hT := hT9
        obtain ⟨Mc2, hMx⟩ : ∃ x : mM, x = M1 := ⟨M1, rfl⟩
        subst hMx
        subst hv1
        refine W.eq (g2 := F0 m 54 ls [.null]) rfl ?_
        refine W.widen (k := 3) (n := 18) (Nat.le_of_ble_eq_true rfl) (Nat.le_of_ble_eq_true rfl) ?_
        have hm : mm D (AZ z) Mc2 H := hm
        refine lv_astoreN (lv' := [(6, .null), (5, .null), (4, .ref x2), (0, .ref h0), (1, .int a0), (2, .int a1), (3, .int a2)]) hx hb dX5_move_54 hl (by decide) rfl (fun ls hl => ?_)
        refine lv_aloadN hx hb dX5_move_56 (lv_at hl 0 rfl) ?_
        refine lv_ifnullN (tgt := 66) hx hb dX5_move_58 (by decide) ?_
        obtain ⟨sa, hsa⟩ := hcx.2.2.1 (180, "there is nothing at the first path") (by decide)
        refine nx_throwS (own := RX5) (cls := "java/util/NoSuchElementException") (Y := "java/lang/RuntimeException") (text := "there is nothing at the first path") (names := ["java/lang/Exception"]) (ik := 154) (is := 180) (ic := 158) (i1 := 13) (b1 := prog_21_method_4_code) (A := AZ z) hx hb hlt hown (by decide) (by decide) (by decide) (by decide +kernel) (by decide +kernel) (by decide +kernel) (by decide +kernel) (hts (.classLink RX5 154 "java/util/NoSuchElementException") (by decide +kernel)) (hts (.initialized "java/util/NoSuchElementException") (by decide +kernel)) hsa (vx_hat (B := DW) (fun w h => hts w (List.mem_cons_of_mem _ (List.mem_append_left _ (List.mem_append_left _ (List.mem_append_right _ h))))) (by decide +kernel) (hcx.dw _)) (by decide +kernel) hcx.2.1.1 hcx.2.1.2 hS (hl.1.trans hml.symm) dX5_move_66 dX5_move_69 dX5_move_70 dX5_move_72 dX5_move_75 (fun x hx => (hnt x hx).elim) (Nat.le_of_ble_eq_true rfl) (Nat.le_of_ble_eq_true rfl) (Nat.le_of_ble_eq_true rfl) (Nat.le_of_ble_eq_true rfl) hlocks (fun t hvm hz1 hq => ⟨⟨_, ?_, hm.kept hq⟩, ⟨Nat.le_trans hS.1 hz1, fun q h1 h2 => (hq q (Nat.lt_of_lt_of_le h1 hS.1)).trans (hS.2.1 q h1 h2)⟩⟩) hS.2.2 (Nat.le_of_ble_eq_true rfl) (Nat.le_of_ble_eq_true rfl)
        exact ⟨by simp, _, hT, hE⟩
      · subst hv1
        refine W.eq (g2 := F0 m 41 ls [.ref x5]) rfl ?_
        refine W.widen (k := 3) (n := 18) (Nat.le_of_ble_eq_true rfl) (Nat.le_of_ble_eq_true rfl) ?_
        have hm : mm D (AZ z) Mc1 H := hm
        refine lv_astore (lv' := [(5, .ref x5), (4, .ref x2), (0, .ref h0), (1, .int a0), (2, .int a1), (3, .int a2)]) hx hb dX5_move_41 hl (by decide) rfl (fun ls hl => ?_)
        refine lv_aload hx hb dX5_move_43 (lv_at hl 1 rfl) ?_
        refine lv_aload hx hb dX5_move_45 (lv_at hl 0 rfl) ?_
        refine lv_iload_n hx hb dX5_move_47 rfl (lv_at hl 4 rfl) ?_
        refine lv_bipush (v := 15) hx hb dX5_move_48 (by decide) ?_
        refine lv_iand hx hb dX5_move_50 ?_
        obtain ⟨v0_8, v1_8, v2_8, v3_8, v4_8, v5_8, v6_8, hM_x2_8, hk_v0_8, hk_v1_8, hk_v2_8, hk_v3_8, hk_v4_8, hz_v5_8⟩ := hT.txn hk_x2
        refine m_kV (As := [.ref x5, .int (a1 &&& 15)]) (rest := []) (rm := { frames := 2, cells := 0, slots := 0, locals := 47 }) ⟨hx, hb, hml, hown, hts⟩ (t_X3_step_RI l D k z _ _ x2 x5 (a1 &&& 15) hk_x2 hk_x5 hT) (cwV 2 hts gX5_move_X3_step rfl rfl rfl (by decide +kernel) ⟨Nat.le_of_ble_eq_true rfl, Nat.le_of_ble_eq_true rfl⟩) (m_recv hK hm (q := (RX3, TX3, 7)) rfl hM_x2_8) hz hcx hm hS rfl hl.1 rfl (Nat.le_of_ble_eq_true rfl) dX5_move_51 ⟨Nat.le_of_ble_eq_true rfl, Nat.le_of_ble_eq_true rfl⟩ (fun v M1 H locs hv hm hS => ?_)
        obtain ⟨κ3, hT9, hE9, hv1⟩ := hv
        have hk_h0 := hE9.k hT hk_h0
        have hk_x2 := hE9.k hT hk_x2
        have hk_x5 := hE9.k hT hk_x5
        have hE := hE.trans hT0 hT hE9
        have hT := hT9
        obtain ⟨Mc3, hMx⟩ : ∃ x : mM, x = M1 := ⟨M1, rfl⟩
        subst hMx
        rcases hv1 with hv1 | ⟨x9, hv1, hk_x9⟩
        · subst hv1
          refine W.eq (g2 := F0 m 54 ls [.null]) rfl ?_
          refine W.widen (k := 3) (n := 18) (Nat.le_of_ble_eq_true rfl) (Nat.le_of_ble_eq_true rfl) ?_
          have hm : mm D (AZ z) Mc3 H := hm
          refine lv_astoreN (lv' := [(6, .null), (5, .ref x5), (4, .ref x2), (0, .ref h0), (1, .int a0), (2, .int a1), (3, .int a2)]) hx hb dX5_move_54 hl (by decide) rfl (fun ls hl => ?_)
          refine lv_aloadN hx hb dX5_move_56 (lv_at hl 0 rfl) ?_
          refine lv_ifnullN (tgt := 66) hx hb dX5_move_58 (by decide) ?_
          obtain ⟨sa, hsa⟩ := hcx.2.2.1 (180, "there is nothing at the first path") (by decide)
          refine nx_throwS (own := RX5) (cls := "java/util/NoSuchElementException") (Y := "java/lang/RuntimeException") (text := "there is nothing at the first path") (names := ["java/lang/Exception"]) (ik := 154) (is := 180) (ic := 158) (i1 := 13) (b1 := prog_21_method_4_code) (A := AZ z) hx hb hlt hown (by decide) (by decide) (by decide) (by decide +kernel) (by decide +kernel) (by decide +kernel) (by decide +kernel) (hts (.classLink RX5 154 "java/util/NoSuchElementException") (by decide +kernel)) (hts (.initialized "java/util/NoSuchElementException") (by decide +kernel)) hsa (vx_hat (B := DW) (fun w h => hts w (List.mem_cons_of_mem _ (List.mem_append_left _ (List.mem_append_left _ (List.mem_append_right _ h))))) (by decide +kernel) (hcx.dw _)) (by decide +kernel) hcx.2.1.1 hcx.2.1.2 hS (hl.1.trans hml.symm) dX5_move_66 dX5_move_69 dX5_move_70 dX5_move_72 dX5_move_75 (fun x hx => (hnt x hx).elim) (Nat.le_of_ble_eq_true rfl) (Nat.le_of_ble_eq_true rfl) (Nat.le_of_ble_eq_true rfl) (Nat.le_of_ble_eq_true rfl) hlocks (fun t hvm hz1 hq => ⟨⟨_, ?_, hm.kept hq⟩, ⟨Nat.le_trans hS.1 hz1, fun q h1 h2 => (hq q (Nat.lt_of_lt_of_le h1 hS.1)).trans (hS.2.1 q h1 h2)⟩⟩) hS.2.2 (Nat.le_of_ble_eq_true rfl) (Nat.le_of_ble_eq_true rfl)
          exact ⟨by simp, _, hT, hE⟩
        · subst hv1
          refine W.eq (g2 := F0 m 54 ls [.ref x9]) rfl ?_
          refine W.widen (k := 3) (n := 18) (Nat.le_of_ble_eq_true rfl) (Nat.le_of_ble_eq_true rfl) ?_
          have hm : mm D (AZ z) Mc3 H := hm
          refine lv_astore (lv' := [(6, .ref x9), (5, .ref x5), (4, .ref x2), (0, .ref h0), (1, .int a0), (2, .int a1), (3, .int a2)]) hx hb dX5_move_54 hl (by decide) rfl (fun ls hl => ?_)
          refine lv_aload hx hb dX5_move_56 (lv_at hl 0 rfl) ?_
          refine lv_ifnull hx hb dX5_move_58 ?_
          refine lv_aload hx hb dX5_move_61 (lv_at hl 1 rfl) ?_
          refine lv_ifnonnull (tgt := 76) hx hb dX5_move_63 (by decide) ?_
          refine lv_aload hx hb dX5_move_76 (lv_at hl 2 rfl) ?_
          refine lv_iload_n hx hb dX5_move_78 rfl (lv_at hl 6 rfl) ?_
          refine m_cS (As := [.ref x2, .int a2]) (rest := []) (rm := { frames := 6, cells := 1, slots := 6, locals := 93 }) ⟨hx, hb, hml, hown, hts⟩ (t_X5_parentWithRoom_RI l hlt D k z _ _ x2 a2 hk_x2 hT) (cwS 2 hts gX5_move_X5_parentWithRoom rfl rfl rfl (by decide +kernel) ⟨Nat.le_of_ble_eq_true rfl, Nat.le_of_ble_eq_true rfl⟩) hz hcx hm hS rfl hl.1 rfl (Nat.le_of_ble_eq_true rfl) dX5_move_79 ⟨Nat.le_of_ble_eq_true rfl, Nat.le_of_ble_eq_true rfl⟩ (fun E ce q9 M1 H locs hv hm hS hce hcv hcl => ?_) (fun v M1 H locs hv hm hS => ?_)
          · refine vx_out (fun x hx => (hnt x hx).elim) hlocks hce hcv hcl (fun t ht hvm => ⟨⟨_, ?_, by rw [ht]; exact hm⟩, hS.F ht⟩) hS.2.2 (Nat.le_of_ble_eq_true rfl) (Nat.le_of_ble_eq_true rfl)
            obtain ⟨hE8, κ8, hT8, hx8⟩ := hv
            exact ⟨by simp only [List.mem_cons, List.not_mem_nil, or_false] at hE8 ⊢; first | exact hE8 | (rcases hE8 with q8 | q8 <;> simp [q8]), κ8, hT8, hE.trans hT0 hT hx8⟩
          obtain ⟨κ4, hT9, hE9, hv1⟩ := hv
          have hk_h0 := hE9.k hT hk_h0
          have hk_x2 := hE9.k hT hk_x2
          have hk_x5 := hE9.k hT hk_x5
          have hk_x9 := hE9.k hT hk_x9
          have hE := hE.trans hT0 hT hE9
          have hT := hT9
          obtain ⟨Mc4, hMx⟩ : ∃ x : mM, x = M1 := ⟨M1, rfl⟩
          subst hMx
          obtain ⟨x10, hv1, hk_x10⟩ := hv1
          subst hv1
          refine W.eq (g2 := F0 m 82 ls [.ref x10]) rfl ?_
          refine W.widen (k := 4) (n := 24) (Nat.le_of_ble_eq_true rfl) (Nat.le_of_ble_eq_true rfl) ?_
          have hm : mm D (AZ z) Mc4 H := hm
          refine lv_astore (lv' := [(7, .ref x10), (6, .ref x9), (5, .ref x5), (4, .ref x2), (0, .ref h0), (1, .int a0), (2, .int a1), (3, .int a2)]) hx hb dX5_move_82 hl (by decide) rfl (fun ls hl => ?_)
          refine lv_aload hx hb dX5_move_84 (lv_at hl 3 rfl) ?_
          obtain ⟨v0_11, v1_11, v2_11, v3_11, v4_11, v5_11, v6_11, hM_x2_11, hk_v0_11, hk_v1_11, hk_v2_11, hk_v3_11, hk_v4_11, hz_v5_11⟩ := hT.txn hk_x2
          refine m_get (T := TX3) (N := 7) (ci := 3) (v := .ref v1_11) hx hb hts wX3 hown hK hm hM_x2_11 rfl 1 (by decide) f109 (fun _ h9 => h9) rfl dX5_move_86 ?_
          refine lv_aload hx hb dX5_move_89 (lv_at hl 2 rfl) ?_
          obtain ⟨v0_12, v1_12, v2_12, v3_12, hM_x5_12, hz_v1_12, hk_v3_12⟩ := hT.node hk_x5
          refine m_get (T := TX2) (N := 4) (ci := 2) (v := .int v0_12) hx hb hts wX2 hown hK hm hM_x5_12 rfl 0 (by decide) f139 (fun _ h9 => h9) rfl dX5_move_91 ?_
          refine lv_iload_n hx hb dX5_move_94 rfl (lv_at hl 6 rfl) ?_
          refine lv_bipush (v := 15) hx hb dX5_move_95 (by decide) ?_
          refine lv_iand hx hb dX5_move_97 ?_
          refine lv_iconst (v := 0) hx hb dX5_move_98 (by decide) ?_
          obtain ⟨v0_13, v1_13, hM_v1_11_13, hk_v0_13, hn_v1_13⟩ := hT.tree hk_v1_11
          refine m_kV (As := [.int v0_12, .int (a1 &&& 15), .int 0]) (rest := []) (rm := { frames := 3, cells := 2, slots := 68, locals := 64 }) ⟨hx, hb, hml, hown, hts⟩ (t_X4_setEntry_III l D k z _ _ v1_11 v0_12 (a1 &&& 15) 0 hk_v1_11 hT) (cwV 3 hts gX5_move_X4_setEntry rfl rfl rfl (by decide +kernel) ⟨Nat.le_of_ble_eq_true rfl, Nat.le_of_ble_eq_true rfl⟩) (m_recv hK hm (q := (RX4, TX4, 2)) rfl hM_v1_11_13) hz hcx hm hS rfl hl.1 rfl (Nat.le_of_ble_eq_true rfl) dX5_move_99 ⟨Nat.le_of_ble_eq_true rfl, Nat.le_of_ble_eq_true rfl⟩ (fun v M1 H locs hv hm hS => ?_)
          obtain ⟨κ5, hT9, hE9, hv1⟩ := hv
          have hk_h0 := hE9.k hT hk_h0
          have hk_x2 := hE9.k hT hk_x2
          have hk_x5 := hE9.k hT hk_x5
          have hk_x9 := hE9.k hT hk_x9
          have hk_x10 := hE9.k hT hk_x10
          have hk_v1_11 := hE9.k hT hk_v1_11
          have hE := hE.trans hT0 hT hE9
          have hT := hT9
          obtain ⟨Mc5, hMx⟩ : ∃ x : mM, x = M1 := ⟨M1, rfl⟩
          subst hMx
          subst hv1
          refine W.eq (g2 := F0 m 102 ls []) rfl ?_
          refine W.widen (k := 6) (n := 92) (Nat.le_of_ble_eq_true rfl) (Nat.le_of_ble_eq_true rfl) ?_
          have hm : mm D (AZ z) Mc5 H := hm
          refine lv_aload hx hb dX5_move_102 (lv_at hl 3 rfl) ?_
          obtain ⟨v0_14, v1_14, v2_14, v3_14, v4_14, v5_14, v6_14, hM_x2_14, hk_v0_14, hk_v1_14, hk_v2_14, hk_v3_14, hk_v4_14, hz_v5_14⟩ := hT.txn hk_x2
          refine m_get (T := TX3) (N := 7) (ci := 3) (v := .ref v1_14) hx hb hts wX3 hown hK hm hM_x2_14 rfl 1 (by decide) f109 (fun _ h9 => h9) rfl dX5_move_104 ?_
          refine lv_aload hx hb dX5_move_107 (lv_at hl 0 rfl) ?_
          obtain ⟨v0_15, v1_15, v2_15, v3_15, hM_x10_15, hz_v1_15, hk_v3_15⟩ := hT.node hk_x10
          refine m_get (T := TX2) (N := 4) (ci := 2) (v := .int v0_15) hx hb hts wX2 hown hK hm hM_x10_15 rfl 0 (by decide) f139 (fun _ h9 => h9) rfl dX5_move_109 ?_
          refine lv_iload_n hx hb dX5_move_112 rfl (lv_at hl 7 rfl) ?_
          refine lv_bipush (v := 15) hx hb dX5_move_113 (by decide) ?_
          refine lv_iand hx hb dX5_move_115 ?_
          refine lv_aload hx hb dX5_move_116 (lv_at hl 1 rfl) ?_
          obtain ⟨v0_16, v1_16, v2_16, v3_16, hM_x9_16, hz_v1_16, hk_v3_16⟩ := hT.node hk_x9
          refine m_get (T := TX2) (N := 4) (ci := 2) (v := .int v0_16) hx hb hts wX2 hown hK hm hM_x9_16 rfl 0 (by decide) f139 (fun _ h9 => h9) rfl dX5_move_118 ?_
          obtain ⟨v0_17, v1_17, hM_v1_14_17, hk_v0_17, hn_v1_17⟩ := hT.tree hk_v1_14
          refine m_kV (As := [.int v0_15, .int (a2 &&& 15), .int v0_16]) (rest := []) (rm := { frames := 3, cells := 2, slots := 68, locals := 64 }) ⟨hx, hb, hml, hown, hts⟩ (t_X4_setEntry_III l D k z _ _ v1_14 v0_15 (a2 &&& 15) v0_16 hk_v1_14 hT) (cwV 3 hts gX5_move_X4_setEntry rfl rfl rfl (by decide +kernel) ⟨Nat.le_of_ble_eq_true rfl, Nat.le_of_ble_eq_true rfl⟩) (m_recv hK hm (q := (RX4, TX4, 2)) rfl hM_v1_14_17) hz hcx hm hS rfl hl.1 rfl (Nat.le_of_ble_eq_true rfl) dX5_move_121 ⟨Nat.le_of_ble_eq_true rfl, Nat.le_of_ble_eq_true rfl⟩ (fun v M1 H locs hv hm hS => ?_)
          obtain ⟨κ6, hT9, hE9, hv1⟩ := hv
          have hk_h0 := hE9.k hT hk_h0
          have hk_x2 := hE9.k hT hk_x2
          have hk_x5 := hE9.k hT hk_x5
          have hk_x9 := hE9.k hT hk_x9
          have hk_x10 := hE9.k hT hk_x10
          have hk_v1_14 := hE9.k hT hk_v1_14
          have hE := hE.trans hT0 hT hE9
          have hT := hT9
          obtain ⟨Mc6, hMx⟩ : ∃ x : mM, x = M1 := ⟨M1, rfl⟩
          subst hMx
          subst hv1
          refine W.eq (g2 := F0 m 124 ls []) rfl ?_
          refine W.widen (k := 8) (n := 160) (Nat.le_of_ble_eq_true rfl) (Nat.le_of_ble_eq_true rfl) ?_
          have hm : mm D (AZ z) Mc6 H := hm
          refine lv_aload hx hb dX5_move_124 (lv_at hl 1 rfl) ?_
          obtain ⟨v0_18, v1_18, v2_18, v3_18, hM_x9_18, hz_v1_18, hk_v3_18⟩ := hT.node hk_x9
          rcases hz_v1_18 with h9 | h9
          · subst h9
            refine m_get (T := TX2) (N := 4) (ci := 2) (v := .int 0) hx hb hts wX2 hown hK hm hM_x9_18 rfl 1 (by decide) f159 (fun _ h9 => h9) rfl dX5_move_126 ?_
            refine vx_ret ?_
            refine W.zret hx hb hr rfl (fun t ht hW => ⟨⟨some (.int 0), _, rfl, ?_, by rw [ht]; exact hm⟩, hS.F ht⟩) hS.2.2 dX5_move_129
            exact ⟨_, hT, hE, Or.inl rfl⟩
          · subst h9
            refine m_get (T := TX2) (N := 4) (ci := 2) (v := .int 1) hx hb hts wX2 hown hK hm hM_x9_18 rfl 1 (by decide) f159 (fun _ h9 => h9) rfl dX5_move_126 ?_
            refine vx_ret ?_
            refine W.zret hx hb hr rfl (fun t ht hW => ⟨⟨some (.int 1), _, rfl, ?_, by rw [ht]; exact hm⟩, hS.F ht⟩) hS.2.2 dX5_move_129
            exact ⟨_, hT, hE, Or.inr rfl⟩
    · first | exact absurd c3 (by decide) | exact absurd (by decide) c3
  · subst hv1
    refine W.eq (g2 := F0 m 20 ls [.int 1]) rfl ?_
    refine W.widen (k := 3) (n := 18) (Nat.le_of_ble_eq_true rfl) (Nat.le_of_ble_eq_true rfl) ?_
    have hm : mm D (AZ z) M H := hm
    refine lv_if_eq (tgt := 33) hx hb dX5_move_20 (by decide) (fun c19 => ?_) (fun c19 => ?_)
    · first | exact absurd c19 (by decide) | exact absurd (by decide) c19
    · obtain ⟨sa, hsa⟩ := hcx.2.2.1 (177, "the second path is the first one, or goes through it") (by decide)
      refine vx_throwS (own := RX5) (cls := "java/lang/IllegalArgumentException") (text := "the second path is the first one, or goes through it") (names := ["java/lang/RuntimeException", "java/lang/Exception"]) (ik := 175) (is := 177) (ic := 179) (A := AZ z) hx hb hlt hown (by decide) (by decide) (hts (.classLink RX5 175 "java/lang/IllegalArgumentException") (by decide +kernel)) (hts (.initialized "java/lang/IllegalArgumentException") (by decide +kernel)) hsa (vx_hat (B := DW) (fun w h => hts w (List.mem_cons_of_mem _ (List.mem_append_left _ (List.mem_append_left _ (List.mem_append_left _ (List.mem_append_right _ h)))))) (by decide +kernel) (hcx.dw _)) (by decide +kernel) hcx.2.1.1 hcx.2.1.2 hS (hl.1.trans hml.symm) dX5_move_23 dX5_move_26 dX5_move_27 dX5_move_29 dX5_move_32 (fun x hx => (hnt x hx).elim) (Nat.le_of_ble_eq_true rfl) (Nat.le_of_ble_eq_true rfl) (Nat.le_of_ble_eq_true rfl) (Nat.le_of_ble_eq_true rfl) hlocks (fun t hvm hz1 hq => ⟨⟨_, ?_, hm.kept hq⟩, ⟨Nat.le_trans hS.1 hz1, fun q h1 h2 => (hq q (Nat.lt_of_lt_of_le h1 hS.1)).trans (hS.2.1 q h1 h2)⟩⟩) hS.2.2 (Nat.le_of_ble_eq_true rfl) (Nat.le_of_ble_eq_true rfl)
      exact ⟨by simp, _, hT, hE⟩

