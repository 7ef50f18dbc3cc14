set_option maxHeartbeats 4000000 in
set_option maxRecDepth 100000 in
theorem t_X5_cut_III (l : Launch) (hlt : l.stackTraces = false) (D : va_G) (k : Nat → ClassId) (z : Nat) (M : mM) (κ : Nat → Option KD) (h0 : Nat) (a0 : Int32) (a1 : Int32) (a2 : Int32) (hk_h0 : κ h0 = some .top) (hT : TM k κ M) : mC l yX5_cut wsX5_cut ({ frames := 8, cells := 5, slots := 86, locals := 124 }) D k z [.ref h0, .int a0, .int a1, .int a2] M (fun v M' => ∃ κ', TM k κ' M' ∧ kx κ M κ' M' ∧ ∃ x, v = some (.int x)) (fun E M' => E ∈ (["java/lang/IllegalArgumentException", "java/lang/IndexOutOfBoundsException", "java/lang/IllegalStateException", "java/util/NoSuchElementException", "java/lang/UnsupportedOperationException"] : List String) ∧ ∃ κ', TM k κ' M' ∧ kx κ M κ' M') := by
  refine vx_ofW (cc := cX5_cut) (maxL := 6) (ret := (some .int)) (by decide) rfl ?_
  intro p e s m args below meth c s₁ B hml hnt hv
  obtain ⟨rfl, hz, hcx, hm⟩ := hv
  have hx := B.exec
  have hb := B.bytes
  have hr := B.returns
  have hts := atoms_spec (ws := wsX5_cut) B.pre
  have hown : s.vm.findClass RX5 = some m.cls := findClass_of_methodNamed B.named
  have hlocks := B.notSynchronized
  have hK := hcx.1
  have hS : va_S (AZ z) s.heap s.heap [] := va_S.rf
  have hA : ∀ q, s.heap.size ≤ q → AZ z q := fun q h => Nat.le_trans hz h
  have hl := lv_entry ([.ref h0, .int a0, .int a1, .int a2]) (n := 6) (Nat.le_of_ble_eq_true rfl)
  rw [lg_entry_eq]
  generalize (lg_sl ([.ref h0, .int a0, .int a1, .int a2]) ++ List.replicate (6 - (lg_sl ([.ref h0, .int a0, .int a1, .int a2])).length) Slot.unset).toArray = ls at hl ⊢
  have hl : lv_has ls 6 [(0, .ref h0), (1, .int a0), (2, .int a1), (3, .int a2)] := hl
  have f109 := hts (.fieldLink RX5 109 "CommitTree$Transaction" "view" "LCommitTree$Tree;") (by decide +kernel)
  have f189 := hts (.fieldLink RX5 189 "CommitTree$Node" "size" "I") (by decide +kernel)
  have wX2 : ∀ w ∈ wsX20, w ∈ wsX5_cut := by decide +kernel
  have wX3 : ∀ w ∈ wsX30, w ∈ wsX5_cut := by decide +kernel
  have hT0 := hT
  have hE : kx κ M κ M := kx.refl _ _
  refine lv_aload_n hx hb dX5_cut_0 rfl (lv_at hl 0 rfl) ?_
  refine lv_iload_n hx hb dX5_cut_1 rfl (lv_at hl 1 rfl) ?_
  obtain ⟨v0_1, v1_1, v2_1, v3_1, v4_1, v5_1, v6_1, v7_1, v8_1, v9_1, v10_1, hM_h0_1, hk_v0_1, hk_v1_1, hk_v2_1, hk_v3_1, hk_v4_1, hk_v5_1, hz_v9_1, hz_v10_1⟩ := hT.top hk_h0
  refine m_cV (As := [.int a0]) (rest := []) (rm := { frames := 6, cells := 1, slots := 6, locals := 82 }) ⟨hx, hb, hml, hown, hts⟩ (t_X5_opened_I l hlt D k z _ _ h0 a0 hk_h0 hT) (cwV 1 hts gX5_cut_X5_opened rfl rfl rfl (by decide +kernel) ⟨Nat.le_of_ble_eq_true rfl, Nat.le_of_ble_eq_true rfl⟩) (m_recv hK hm (q := (RX5, TX5, 11)) rfl hM_h0_1) hz hcx hm hS rfl hl.1 rfl (Nat.le_of_ble_eq_true rfl) dX5_cut_2 ⟨Nat.le_of_ble_eq_true rfl, Nat.le_of_ble_eq_true rfl⟩ (fun E ce q9 M1 H locs hv hm hS hce hcv hcl => ?_) (fun v M1 H locs hv hm hS => ?_)
  · refine vx_out (fun x hx => (hnt x hx).elim) hlocks hce hcv hcl (fun t ht hvm => ⟨⟨_, ?_, by rw [ht]; exact hm⟩, hS.F ht⟩) hS.2.2 (Nat.le_of_ble_eq_true rfl) (Nat.le_of_ble_eq_true rfl)
    obtain ⟨hE8, κ8, hT8, hx8⟩ := hv
    exact ⟨by simp only [List.mem_cons, List.not_mem_nil, or_false] at hE8 ⊢; first | exact hE8 | simp [hE8], κ8, hT8, hE.trans hT0 hT hx8⟩
  obtain ⟨hv1, hM1⟩ := hv
  rw [hM1] at hm
  obtain ⟨x2, hv1, hk_x2⟩ := hv1
  subst hv1
  refine W.eq (g2 := F0 m 5 ls [.ref x2]) rfl ?_
  refine W.widen (k := 1) (n := 6) (Nat.le_of_ble_eq_true rfl) (Nat.le_of_ble_eq_true rfl) ?_
  have hm : mm D (AZ z) M H := hm
  refine lv_astore (lv' := [(4, .ref x2), (0, .ref h0), (1, .int a0), (2, .int a1), (3, .int a2)]) hx hb dX5_cut_5 hl (by decide) rfl (fun ls hl => ?_)
  refine lv_iload_n hx hb dX5_cut_7 rfl (lv_at hl 4 rfl) ?_
  refine lv_if_lt (tgt := 17) hx hb dX5_cut_8 (by decide) (fun c3 => ?_) (fun c3 => ?_)
  · obtain ⟨sa, hsa⟩ := hcx.2.2.1 (196, "no file has so many words") (by decide)
    refine vx_throwS (own := RX5) (cls := "java/lang/IllegalArgumentException") (text := "no file has so many words") (names := ["java/lang/RuntimeException", "java/lang/Exception"]) (ik := 175) (is := 196) (ic := 179) (A := AZ z) hx hb hlt hown (by decide) (by decide) (hts (.classLink RX5 175 "java/lang/IllegalArgumentException") (by decide +kernel)) (hts (.initialized "java/lang/IllegalArgumentException") (by decide +kernel)) hsa (vx_hat (B := DW) (fun w h => hts w (List.mem_cons_of_mem _ (List.mem_append_left _ (List.mem_append_left _ (List.mem_append_left _ (List.mem_append_left _ (List.mem_append_right _ h))))))) (by decide +kernel) (hcx.dw _)) (by decide +kernel) hcx.2.1.1 hcx.2.1.2 hS (hl.1.trans hml.symm) dX5_cut_17 dX5_cut_20 dX5_cut_21 dX5_cut_23 dX5_cut_26 (fun x hx => (hnt x hx).elim) (Nat.le_of_ble_eq_true rfl) (Nat.le_of_ble_eq_true rfl) (Nat.le_of_ble_eq_true rfl) (Nat.le_of_ble_eq_true rfl) hlocks (fun t hvm hz1 hq => ⟨⟨_, ?_, hm.kept hq⟩, ⟨Nat.le_trans hS.1 hz1, fun q h1 h2 => (hq q (Nat.lt_of_lt_of_le h1 hS.1)).trans (hS.2.1 q h1 h2)⟩⟩) hS.2.2 (Nat.le_of_ble_eq_true rfl) (Nat.le_of_ble_eq_true rfl)
    exact ⟨by simp, _, hT, hE⟩
  · refine lv_iload_n hx hb dX5_cut_11 rfl (lv_at hl 4 rfl) ?_
    refine lv_bipush (v := 64) hx hb dX5_cut_12 (by decide) ?_
    refine lv_icmp_le (tgt := 27) hx hb dX5_cut_14 (by decide) (fun c4 => ?_) (fun c4 => ?_)
    · refine lv_aload hx hb dX5_cut_27 (lv_at hl 0 rfl) ?_
      refine lv_iload_n hx hb dX5_cut_29 rfl (lv_at hl 3 rfl) ?_
      refine m_cS (As := [.ref x2, .int a1]) (rest := []) (rm := { frames := 7, cells := 2, slots := 12, locals := 102 }) ⟨hx, hb, hml, hown, hts⟩ (t_X5_measuredFile_RI l hlt D k z _ _ x2 a1 hk_x2 hT) (cwS 2 hts gX5_cut_X5_measuredFile rfl rfl rfl (by decide +kernel) ⟨Nat.le_of_ble_eq_true rfl, Nat.le_of_ble_eq_true rfl⟩) hz hcx hm hS rfl hl.1 rfl (Nat.le_of_ble_eq_true rfl) dX5_cut_30 ⟨Nat.le_of_ble_eq_true rfl, Nat.le_of_ble_eq_true rfl⟩ (fun E ce q9 M1 H locs hv hm hS hce hcv hcl => ?_) (fun v M1 H locs hv hm hS => ?_)
      · refine vx_out (fun x hx => (hnt x hx).elim) hlocks hce hcv hcl (fun t ht hvm => ⟨⟨_, ?_, by rw [ht]; exact hm⟩, hS.F ht⟩) hS.2.2 (Nat.le_of_ble_eq_true rfl) (Nat.le_of_ble_eq_true rfl)
        obtain ⟨hE8, κ8, hT8, hx8⟩ := hv
        exact ⟨by simp only [List.mem_cons, List.not_mem_nil, or_false] at hE8 ⊢; first | exact hE8 | (rcases hE8 with q8 | q8 | q8 <;> simp [q8]), κ8, hT8, hE.trans hT0 hT hx8⟩
      obtain ⟨κ1, hT9, hE9, hv1⟩ := hv
      have hk_h0 := hE9.k hT hk_h0
      have hk_x2 := hE9.k hT hk_x2
      have hE := hE.trans hT0 hT hE9
      have hT := hT9
      obtain ⟨Mc1, hMx⟩ : ∃ x : mM, x = M1 := ⟨M1, rfl⟩
      subst hMx
      obtain ⟨x5, hv1, hk_x5⟩ := hv1
      subst hv1
      refine W.eq (g2 := F0 m 33 ls [.ref x5]) rfl ?_
      refine W.widen (k := 3) (n := 18) (Nat.le_of_ble_eq_true rfl) (Nat.le_of_ble_eq_true rfl) ?_
      have hm : mm D (AZ z) Mc1 H := hm
      refine lv_astore (lv' := [(5, .ref x5), (4, .ref x2), (0, .ref h0), (1, .int a0), (2, .int a1), (3, .int a2)]) hx hb dX5_cut_33 hl (by decide) rfl (fun ls hl => ?_)
      refine lv_aload hx hb dX5_cut_35 (lv_at hl 0 rfl) ?_
      obtain ⟨v0_6, v1_6, v2_6, v3_6, hM_x5_6, hz_v1_6, hk_v3_6⟩ := hT.node hk_x5
      refine m_get (T := TX2) (N := 4) (ci := 2) (v := .int v2_6) hx hb hts wX2 hown hK hm hM_x5_6 rfl 2 (by decide) f189 (fun _ h9 => h9) rfl dX5_cut_37 ?_
      refine lv_iload_n hx hb dX5_cut_40 rfl (lv_at hl 5 rfl) ?_
      refine lv_icmp_ge (tgt := 54) hx hb dX5_cut_41 (by decide) (fun c7 => ?_) (fun c7 => ?_)
      · refine lv_aload hx hb dX5_cut_54 (lv_at hl 1 rfl) ?_
        obtain ⟨v0_8, v1_8, v2_8, v3_8, v4_8, v5_8, v6_8, hM_x2_8, hk_v0_8, hk_v1_8, hk_v2_8, hk_v3_8, hk_v4_8, hz_v5_8⟩ := hT.txn hk_x2
        refine m_get (T := TX3) (N := 7) (ci := 3) (v := .ref v1_8) hx hb hts wX3 hown hK hm hM_x2_8 rfl 1 (by decide) f109 (fun _ h9 => h9) rfl dX5_cut_56 ?_
        refine lv_aload hx hb dX5_cut_59 (lv_at hl 0 rfl) ?_
        refine lv_iload_n hx hb dX5_cut_61 rfl (lv_at hl 5 rfl) ?_
        refine m_kV (As := [.int a2]) (rest := [.ref v1_8]) (rm := { frames := 2, cells := 2, slots := 68, locals := 40 }) ⟨hx, hb, hml, hown, hts⟩ (t_X2_cutTo_I l D k z _ _ x5 a2 hk_x5 hT) (cwV 1 hts gX5_cut_X2_cutTo rfl rfl rfl (by decide +kernel) ⟨Nat.le_of_ble_eq_true rfl, Nat.le_of_ble_eq_true rfl⟩) (m_recv hK hm (q := (RX2, TX2, 4)) rfl hM_x5_6) hz hcx hm hS rfl hl.1 rfl (Nat.le_of_ble_eq_true rfl) dX5_cut_62 ⟨Nat.le_of_ble_eq_true rfl, Nat.le_of_ble_eq_true rfl⟩ (fun v M1 H locs hv hm hS => ?_)
        obtain ⟨κ2, hT9, hE9, hv1⟩ := hv
        have hk_h0 := hE9.k hT hk_h0
        have hk_x2 := hE9.k hT hk_x2
        have hk_x5 := hE9.k hT hk_x5
        have hk_v1_8 := hE9.k hT hk_v1_8
        have hE := hE.trans hT0 hT hE9
        have hT := hT9
        obtain ⟨Mc2, hMx⟩ : ∃ x : mM, x = M1 := ⟨M1, rfl⟩
        subst hMx
        obtain ⟨x9, hv1, hk_x9⟩ := hv1
        subst hv1
        refine W.eq (g2 := F0 m 65 ls [.ref x9, .ref v1_8]) rfl ?_
        refine W.widen (k := 5) (n := 86) (Nat.le_of_ble_eq_true rfl) (Nat.le_of_ble_eq_true rfl) ?_
        have hm : mm D (AZ z) Mc2 H := hm
        obtain ⟨v0_10, v1_10, hM_v1_8_10, hk_v0_10, hn_v1_10⟩ := hT.tree hk_v1_8
        refine m_kV (As := [.ref x9]) (rest := []) (rm := { frames := 1, cells := 0, slots := 0, locals := 23 }) ⟨hx, hb, hml, hown, hts⟩ (t_X4_put_R l D k z _ _ v1_8 x9 hk_v1_8 hk_x9 hT) (cwV 1 hts gX5_cut_X4_put rfl rfl rfl (by decide +kernel) ⟨Nat.le_of_ble_eq_true rfl, Nat.le_of_ble_eq_true rfl⟩) (m_recv hK hm (q := (RX4, TX4, 2)) rfl hM_v1_8_10) hz hcx hm hS rfl hl.1 rfl (Nat.le_of_ble_eq_true rfl) dX5_cut_65 ⟨Nat.le_of_ble_eq_true rfl, Nat.le_of_ble_eq_true rfl⟩ (fun v M1 H locs hv hm hS => ?_)
        obtain ⟨κ3, hT9, hE9, hv1⟩ := hv
        have hk_h0 := hE9.k hT hk_h0
        have hk_x2 := hE9.k hT hk_x2
        have hk_x5 := hE9.k hT hk_x5
        have hk_v1_8 := hE9.k hT hk_v1_8
        have hE := hE.trans hT0 hT hE9
        have hT := hT9
        obtain ⟨Mc3, hMx⟩ : ∃ x : mM, x = M1 := ⟨M1, rfl⟩
        subst hMx
        subst hv1
        refine W.eq (g2 := F0 m 68 ls []) rfl ?_
        refine W.widen (k := 5) (n := 86) (Nat.le_of_ble_eq_true rfl) (Nat.le_of_ble_eq_true rfl) ?_
        have hm : mm D (AZ z) Mc3 H := hm
        refine lv_aload hx hb dX5_cut_68 (lv_at hl 0 rfl) ?_
        obtain ⟨v0_11, v1_11, v2_11, v3_11, hM_x5_11, hz_v1_11, hk_v3_11⟩ := hT.node hk_x5
        refine m_get (T := TX2) (N := 4) (ci := 2) (v := .int v2_11) hx hb hts wX2 hown hK hm hM_x5_11 rfl 2 (by decide) f189 (fun _ h9 => h9) rfl dX5_cut_70 ?_
        refine lv_iload_n hx hb dX5_cut_73 rfl (lv_at hl 5 rfl) ?_
        refine lv_isub hx hb dX5_cut_74 ?_
        refine vx_ret ?_
        refine W.iret (v := (v2_11 - a2)) hx hb hr (fun t ht hW => ⟨⟨some (.int (v2_11 - a2)), _, rfl, ?_, by rw [ht]; exact hm⟩, hS.F ht⟩) hS.2.2 dX5_cut_75
        exact ⟨_, hT, hE, ⟨_, rfl⟩⟩
      · obtain ⟨sa, hsa⟩ := hcx.2.2.1 (200, "the file has fewer words") (by decide)
        refine vx_throwS (own := RX5) (cls := "java/lang/IndexOutOfBoundsException") (text := "the file has fewer words") (names := ["java/lang/RuntimeException", "java/lang/Exception"]) (ik := 198) (is := 200) (ic := 202) (A := AZ z) hx hb hlt hown (by decide) (by decide) (hts (.classLink RX5 198 "java/lang/IndexOutOfBoundsException") (by decide +kernel)) (hts (.initialized "java/lang/IndexOutOfBoundsException") (by decide +kernel)) hsa (vx_hat (B := DW) (fun w h => hts w (List.mem_cons_of_mem _ (List.mem_append_left _ (List.mem_append_left _ (List.mem_append_left _ (List.mem_append_right _ h)))))) (by decide +kernel) (hcx.dw _)) (by decide +kernel) hcx.2.1.1 hcx.2.1.2 hS (hl.1.trans hml.symm) dX5_cut_44 dX5_cut_47 dX5_cut_48 dX5_cut_50 dX5_cut_53 (fun x hx => (hnt x hx).elim) (Nat.le_of_ble_eq_true rfl) (Nat.le_of_ble_eq_true rfl) (Nat.le_of_ble_eq_true rfl) (Nat.le_of_ble_eq_true rfl) hlocks (fun t hvm hz1 hq => ⟨⟨_, ?_, hm.kept hq⟩, ⟨Nat.le_trans hS.1 hz1, fun q h1 h2 => (hq q (Nat.lt_of_lt_of_le h1 hS.1)).trans (hS.2.1 q h1 h2)⟩⟩) hS.2.2 (Nat.le_of_ble_eq_true rfl) (Nat.le_of_ble_eq_true rfl)
        exact ⟨by simp, _, hT, hE⟩
    · obtain ⟨sa, hsa⟩ := hcx.2.2.1 (196, "no file has so many words") (by decide)
      refine vx_throwS (own := RX5) (cls := "java/lang/IllegalArgumentException") (text := "no file has so many words") (names := ["java/lang/RuntimeException", "java/lang/Exception"]) (ik := 175) (is := 196) (ic := 179) (A := AZ z) hx hb hlt hown (by decide) (by decide) (hts (.classLink RX5 175 "java/lang/IllegalArgumentException") (by decide +kernel)) (hts (.initialized "java/lang/IllegalArgumentException") (by decide +kernel)) hsa (vx_hat (B := DW) (fun w h => hts w (List.mem_cons_of_mem _ (List.mem_append_left _ (List.mem_append_left _ (List.mem_append_left _ (List.mem_append_left _ (List.mem_append_right _ h))))))) (by decide +kernel) (hcx.dw _)) (by decide +kernel) hcx.2.1.1 hcx.2.1.2 hS (hl.1.trans hml.symm) dX5_cut_17 dX5_cut_20 dX5_cut_21 dX5_cut_23 dX5_cut_26 (fun x hx => (hnt x hx).elim) (Nat.le_of_ble_eq_true rfl) (Nat.le_of_ble_eq_true rfl) (Nat.le_of_ble_eq_true rfl) (Nat.le_of_ble_eq_true rfl) hlocks (fun t hvm hz1 hq => ⟨⟨_, ?_, hm.kept hq⟩, ⟨Nat.le_trans hS.1 hz1, fun q h1 h2 => (hq q (Nat.lt_of_lt_of_le h1 hS.1)).trans (hS.2.1 q h1 h2)⟩⟩) hS.2.2 (Nat.le_of_ble_eq_true rfl) (Nat.le_of_ble_eq_true rfl)
      exact ⟨by simp, _, hT, hE⟩

set_option maxHeartbeats 4000000 in
set_option maxRecDepth 100000 in
theorem t_X5_openedOrNone_I (l : Launch) (hlt : l.stackTraces = false) (D : va_G) (k : Nat → ClassId) (z : Nat) (M : mM) (κ : Nat → Option KD) (h0 : Nat) (a0 : Int32) (hk_h0 : κ h0 = some .top) (hT : TM k κ M) : mC l yX5_openedOrNone wsX5_openedOrNone ({ frames := 7, cells := 1, slots := 6, locals := 104 }) D k z [.ref h0, .int a0] M (fun v M' => (∃ a, v = some (.ref a) ∧ κ a = some .txn) ∧ M' = M) (fun E M' => E ∈ (["java/lang/IllegalStateException"] : List String) ∧ ∃ κ', TM k κ' M' ∧ kx κ M κ' M') := by
  refine vx_ofW (cc := cX5_openedOrNone) (maxL := 2) (ret := (some (.object "CommitTree$Transaction"))) (by decide) rfl ?_
  intro p e s m args below meth c s₁ B hml hnt hv
  obtain ⟨rfl, hz, hcx, hm⟩ := hv
  have hx := B.exec
  have hb := B.bytes
  have hr := B.returns
  have hts := atoms_spec (ws := wsX5_openedOrNone) B.pre
  have hown : s.vm.findClass RX5 = some m.cls := findClass_of_methodNamed B.named
  have hlocks := B.notSynchronized
  have hK := hcx.1
  have hS : va_S (AZ z) s.heap s.heap [] := va_S.rf
  have hA : ∀ q, s.heap.size ≤ q → AZ z q := fun q h => Nat.le_trans hz h
  have hl := lv_entry ([.ref h0, .int a0]) (n := 2) (Nat.le_of_ble_eq_true rfl)
  rw [lg_entry_eq]
  generalize (lg_sl ([.ref h0, .int a0]) ++ List.replicate (2 - (lg_sl ([.ref h0, .int a0])).length) Slot.unset).toArray = ls at hl ⊢
  have hl : lv_has ls 2 [(0, .ref h0), (1, .int a0)] := hl
  have f52 := hts (.fieldLink RX5 52 "CommitTree" "outside" "LCommitTree$Transaction;") (by decide +kernel)
  have f66 := hts (.fieldLink RX5 66 "CommitTree" "down" "Z") (by decide +kernel)
  have wX5 : ∀ w ∈ wsX50, w ∈ wsX5_openedOrNone := by decide +kernel
  have hT0 := hT
  have hE : kx κ M κ M := kx.refl _ _
  refine lv_iload_n hx hb dX5_openedOrNone_0 rfl (lv_at hl 1 rfl) ?_
  refine lv_iconst (v := (-1)) hx hb dX5_openedOrNone_1 (by decide) ?_
  refine lv_icmp_ne (tgt := 19) hx hb dX5_openedOrNone_2 (by decide) (fun c1 => ?_) (fun c1 => ?_)
  · refine lv_aload_n hx hb dX5_openedOrNone_19 rfl (lv_at hl 0 rfl) ?_
    refine lv_iload_n hx hb dX5_openedOrNone_20 rfl (lv_at hl 1 rfl) ?_
    obtain ⟨v0_2, v1_2, v2_2, v3_2, v4_2, v5_2, v6_2, v7_2, v8_2, v9_2, v10_2, hM_h0_2, hk_v0_2, hk_v1_2, hk_v2_2, hk_v3_2, hk_v4_2, hk_v5_2, hz_v9_2, hz_v10_2⟩ := hT.top hk_h0
    refine m_cV (As := [.int a0]) (rest := []) (rm := { frames := 6, cells := 1, slots := 6, locals := 82 }) ⟨hx, hb, hml, hown, hts⟩ (t_X5_opened_I l hlt D k z _ _ h0 a0 hk_h0 hT) (cwV 1 hts gX5_openedOrNone_X5_opened rfl rfl rfl (by decide +kernel) ⟨Nat.le_of_ble_eq_true rfl, Nat.le_of_ble_eq_true rfl⟩) (m_recv hK hm (q := (RX5, TX5, 11)) rfl hM_h0_2) hz hcx hm hS rfl hl.1 rfl (Nat.le_of_ble_eq_true rfl) dX5_openedOrNone_21 ⟨Nat.le_of_ble_eq_true rfl, Nat.le_of_ble_eq_true rfl⟩ (fun E ce q9 M1 H locs hv hm hS hce hcv hcl => ?_) (fun v M1 H locs hv hm hS => ?_)
    · refine vx_out (fun x hx => (hnt x hx).elim) hlocks hce hcv hcl (fun t ht hvm => ⟨⟨_, ?_, by rw [ht]; exact hm⟩, hS.F ht⟩) hS.2.2 (Nat.le_of_ble_eq_true rfl) (Nat.le_of_ble_eq_true rfl)
      obtain ⟨hE8, κ8, hT8, hx8⟩ := hv
      exact ⟨by simp only [List.mem_cons, List.not_mem_nil, or_false] at hE8 ⊢; first | exact hE8 | simp [hE8], κ8, hT8, hE.trans hT0 hT hx8⟩
    obtain ⟨hv1, hM1⟩ := hv
    rw [hM1] at hm
    obtain ⟨x3, hv1, hk_x3⟩ := hv1
    subst hv1
    refine W.eq (g2 := F0 m 24 ls [.ref x3]) rfl ?_
    refine W.widen (k := 1) (n := 6) (Nat.le_of_ble_eq_true rfl) (Nat.le_of_ble_eq_true rfl) ?_
    have hm : mm D (AZ z) M H := hm
    refine vx_ret ?_
    refine W.aret (v := .ref x3) hx hb hr (Or.inl ⟨_, rfl⟩) (Or.inr ⟨_, rfl⟩) (fun t ht hW => ⟨⟨some (.ref x3), _, rfl, ?_, by rw [ht]; exact hm⟩, hS.F ht⟩) hS.2.2 dX5_openedOrNone_24
    exact ⟨⟨_, rfl, hk_x3⟩, rfl⟩
  · refine lv_aload_n hx hb dX5_openedOrNone_5 rfl (lv_at hl 0 rfl) ?_
    obtain ⟨v0_4, v1_4, v2_4, v3_4, v4_4, v5_4, v6_4, v7_4, v8_4, v9_4, v10_4, hM_h0_4, hk_v0_4, hk_v1_4, hk_v2_4, hk_v3_4, hk_v4_4, hk_v5_4, hz_v9_4, hz_v10_4⟩ := hT.top hk_h0
    rcases hz_v9_4 with h9 | h9
    · subst h9
      refine m_get (T := TX5) (N := 11) (ci := 5) (v := .int 0) hx hb hts wX5 hown hK hm hM_h0_4 rfl 9 (by decide) f66 (fun _ h9 => h9) rfl dX5_openedOrNone_6 ?_
      refine lv_if_ne (tgt := 19) hx hb dX5_openedOrNone_9 (by decide) (fun c5 => ?_) (fun c5 => ?_)
      · first | exact absurd c5 (by decide) | exact absurd (by decide) c5
      · refine lv_aload_n hx hb dX5_openedOrNone_12 rfl (lv_at hl 0 rfl) ?_
        refine m_get (T := TX5) (N := 11) (ci := 5) (v := .ref v5_4) hx hb hts wX5 hown hK hm hM_h0_4 rfl 5 (by decide) f52 (fun _ h9 => h9) rfl dX5_openedOrNone_13 ?_
        refine lv_goto (tgt := 24) hx hb dX5_openedOrNone_16 (by decide) ?_
        refine W.widen (k := 1) (n := 6) (by omega) (by omega) ?_
        refine vx_ret ?_
        refine W.aret (v := .ref v5_4) hx hb hr (Or.inl ⟨_, rfl⟩) (Or.inr ⟨_, rfl⟩) (fun t ht hW => ⟨⟨some (.ref v5_4), _, rfl, ?_, by rw [ht]; exact hm⟩, hS.F ht⟩) hS.2.2 dX5_openedOrNone_24
        exact ⟨⟨_, rfl, hk_v5_4⟩, rfl⟩
    · subst h9
      refine m_get (T := TX5) (N := 11) (ci := 5) (v := .int 1) hx hb hts wX5 hown hK hm hM_h0_4 rfl 9 (by decide) f66 (fun _ h9 => h9) rfl dX5_openedOrNone_6 ?_
      refine lv_if_ne (tgt := 19) hx hb dX5_openedOrNone_9 (by decide) (fun c6 => ?_) (fun c6 => ?_)
      · refine lv_aload_n hx hb dX5_openedOrNone_19 rfl (lv_at hl 0 rfl) ?_
        refine lv_iload_n hx hb dX5_openedOrNone_20 rfl (lv_at hl 1 rfl) ?_
        refine m_cV (As := [.int a0]) (rest := []) (rm := { frames := 6, cells := 1, slots := 6, locals := 82 }) ⟨hx, hb, hml, hown, hts⟩ (t_X5_opened_I l hlt D k z _ _ h0 a0 hk_h0 hT) (cwV 1 hts gX5_openedOrNone_X5_opened rfl rfl rfl (by decide +kernel) ⟨Nat.le_of_ble_eq_true rfl, Nat.le_of_ble_eq_true rfl⟩) (m_recv hK hm (q := (RX5, TX5, 11)) rfl hM_h0_4) hz hcx hm hS rfl hl.1 rfl (Nat.le_of_ble_eq_true rfl) dX5_openedOrNone_21 ⟨Nat.le_of_ble_eq_true rfl, Nat.le_of_ble_eq_true rfl⟩ (fun E ce q9 M1 H locs hv hm hS hce hcv hcl => ?_) (fun v M1 H locs hv hm hS => ?_)
        · refine vx_out (fun x hx => (hnt x hx).elim) hlocks hce hcv hcl (fun t ht hvm => ⟨⟨_, ?_, by rw [ht]; exact hm⟩, hS.F ht⟩) hS.2.2 (Nat.le_of_ble_eq_true rfl) (Nat.le_of_ble_eq_true rfl)
          obtain ⟨hE8, κ8, hT8, hx8⟩ := hv
          exact ⟨by simp only [List.mem_cons, List.not_mem_nil, or_false] at hE8 ⊢; first | exact hE8 | simp [hE8], κ8, hT8, hE.trans hT0 hT hx8⟩
        obtain ⟨hv1, hM1⟩ := hv
        rw [hM1] at hm
        obtain ⟨x7, hv1, hk_x7⟩ := hv1
        subst hv1
        refine W.eq (g2 := F0 m 24 ls [.ref x7]) rfl ?_
        refine W.widen (k := 1) (n := 6) (Nat.le_of_ble_eq_true rfl) (Nat.le_of_ble_eq_true rfl) ?_
        have hm : mm D (AZ z) M H := hm
        refine vx_ret ?_
        refine W.aret (v := .ref x7) hx hb hr (Or.inl ⟨_, rfl⟩) (Or.inr ⟨_, rfl⟩) (fun t ht hW => ⟨⟨some (.ref x7), _, rfl, ?_, by rw [ht]; exact hm⟩, hS.F ht⟩) hS.2.2 dX5_openedOrNone_24
        exact ⟨⟨_, rfl, hk_x7⟩, rfl⟩
      · first | exact absurd c6 (by decide) | exact absurd (by decide) c6

set_option maxHeartbeats 4000000 in
set_option maxRecDepth 100000 in
theorem t_X5_read_III (l : Launch) (hlt : l.stackTraces = false) (D : va_G) (k : Nat → ClassId) (z : Nat) (M : mM) (κ : Nat → Option KD) (h0 : Nat) (a0 : Int32) (a1 : Int32) (a2 : Int32) (hk_h0 : κ h0 = some .top) (hT : TM k κ M) : mC l yX5_read wsX5_read ({ frames := 8, cells := 4, slots := 24, locals := 125 }) D k z [.ref h0, .int a0, .int a1, .int a2] M (fun v M' => ∃ κ', TM k κ' M' ∧ kx κ M κ' M' ∧ ∃ x, v = some (.int x)) (fun E M' => E ∈ (["java/lang/IllegalStateException", "java/util/NoSuchElementException", "java/lang/UnsupportedOperationException", "java/lang/IllegalArgumentException", "java/lang/IndexOutOfBoundsException"] : List String) ∧ ∃ κ', TM k κ' M' ∧ kx κ M κ' M') := by
  refine vx_ofW (cc := cX5_read) (maxL := 6) (ret := (some .int)) (by decide) rfl ?_
  intro p e s m args below meth c s₁ B hml hnt hv
  obtain ⟨rfl, hz, hcx, hm⟩ := hv
  have hx := B.exec
  have hb := B.bytes
  have hr := B.returns
  have hts := atoms_spec (ws := wsX5_read) B.pre
  have hown : s.vm.findClass RX5 = some m.cls := findClass_of_methodNamed B.named
  have hlocks := B.notSynchronized
  have hK := hcx.1
  have hS : va_S (AZ z) s.heap s.heap [] := va_S.rf
  have hA : ∀ q, s.heap.size ≤ q → AZ z q := fun q h => Nat.le_trans hz h
  have hl := lv_entry ([.ref h0, .int a0, .int a1, .int a2]) (n := 6) (Nat.le_of_ble_eq_true rfl)
  rw [lg_entry_eq]
  generalize (lg_sl ([.ref h0, .int a0, .int a1, .int a2]) ++ List.replicate (6 - (lg_sl ([.ref h0, .int a0, .int a1, .int a2])).length) Slot.unset).toArray = ls at hl ⊢
  have hl : lv_has ls 6 [(0, .ref h0), (1, .int a0), (2, .int a1), (3, .int a2)] := hl
  have hT0 := hT
  have hE : kx κ M κ M := kx.refl _ _
  refine lv_aload_n hx hb dX5_read_0 rfl (lv_at hl 0 rfl) ?_
  refine lv_iload_n hx hb dX5_read_1 rfl (lv_at hl 1 rfl) ?_
  obtain ⟨v0_1, v1_1, v2_1, v3_1, v4_1, v5_1, v6_1, v7_1, v8_1, v9_1, v10_1, hM_h0_1, hk_v0_1, hk_v1_1, hk_v2_1, hk_v3_1, hk_v4_1, hk_v5_1, hz_v9_1, hz_v10_1⟩ := hT.top hk_h0
  refine m_cV (As := [.int a0]) (rest := []) (rm := { frames := 7, cells := 1, slots := 6, locals := 104 }) ⟨hx, hb, hml, hown, hts⟩ (t_X5_openedOrNone_I l hlt D k z _ _ h0 a0 hk_h0 hT) (cwV 1 hts gX5_read_X5_openedOrNone rfl rfl rfl (by decide +kernel) ⟨Nat.le_of_ble_eq_true rfl, Nat.le_of_ble_eq_true rfl⟩) (m_recv hK hm (q := (RX5, TX5, 11)) rfl hM_h0_1) hz hcx hm hS rfl hl.1 rfl (Nat.le_of_ble_eq_true rfl) dX5_read_2 ⟨Nat.le_of_ble_eq_true rfl, Nat.le_of_ble_eq_true rfl⟩ (fun E ce q9 M1 H locs hv hm hS hce hcv hcl => ?_) (fun v M1 H locs hv hm hS => ?_)
  · refine vx_out (fun x hx => (hnt x hx).elim) hlocks hce hcv hcl (fun t ht hvm => ⟨⟨_, ?_, by rw [ht]; exact hm⟩, hS.F ht⟩) hS.2.2 (Nat.le_of_ble_eq_true rfl) (Nat.le_of_ble_eq_true rfl)
    obtain ⟨hE8, κ8, hT8, hx8⟩ := hv
    exact ⟨by simp only [List.mem_cons, List.not_mem_nil, or_false] at hE8 ⊢; first | exact hE8 | simp [hE8], κ8, hT8, hE.trans hT0 hT hx8⟩
  obtain ⟨hv1, hM1⟩ := hv
  rw [hM1] at hm
  obtain ⟨x2, hv1, hk_x2⟩ := hv1
  subst hv1
  refine W.eq (g2 := F0 m 5 ls [.ref x2]) rfl ?_
  refine W.widen (k := 1) (n := 6) (Nat.le_of_ble_eq_true rfl) (Nat.le_of_ble_eq_true rfl) ?_
  have hm : mm D (AZ z) M H := hm
  refine lv_astore (lv' := [(4, .ref x2), (0, .ref h0), (1, .int a0), (2, .int a1), (3, .int a2)]) hx hb dX5_read_5 hl (by decide) rfl (fun ls hl => ?_)
  refine lv_aload hx hb dX5_read_7 (lv_at hl 0 rfl) ?_
  refine lv_iload_n hx hb dX5_read_9 rfl (lv_at hl 3 rfl) ?_
  refine m_cS (As := [.ref x2, .int a1]) (rest := []) (rm := { frames := 7, cells := 2, slots := 12, locals := 102 }) ⟨hx, hb, hml, hown, hts⟩ (t_X5_measuredFile_RI l hlt D k z _ _ x2 a1 hk_x2 hT) (cwS 2 hts gX5_read_X5_measuredFile rfl rfl rfl (by decide +kernel) ⟨Nat.le_of_ble_eq_true rfl, Nat.le_of_ble_eq_true rfl⟩) hz hcx hm hS rfl hl.1 rfl (Nat.le_of_ble_eq_true rfl) dX5_read_10 ⟨Nat.le_of_ble_eq_true rfl, Nat.le_of_ble_eq_true rfl⟩ (fun E ce q9 M1 H locs hv hm hS hce hcv hcl => ?_) (fun v M1 H locs hv hm hS => ?_)
  · refine vx_out (fun x hx => (hnt x hx).elim) hlocks hce hcv hcl (fun t ht hvm => ⟨⟨_, ?_, by rw [ht]; exact hm⟩, hS.F ht⟩) hS.2.2 (Nat.le_of_ble_eq_true rfl) (Nat.le_of_ble_eq_true rfl)
    obtain ⟨hE8, κ8, hT8, hx8⟩ := hv
    exact ⟨by simp only [List.mem_cons, List.not_mem_nil, or_false] at hE8 ⊢; first | exact hE8 | (rcases hE8 with q8 | q8 | q8 <;> simp [q8]), κ8, hT8, hE.trans hT0 hT hx8⟩
  obtain ⟨κ1, hT9, hE9, hv1⟩ := hv
  have hk_h0 := hE9.k hT hk_h0
  have hk_x2 := hE9.k hT hk_x2
  have hE := hE.trans hT0 hT hE9
  have hT := hT9
  obtain ⟨Mc1, hMx⟩ : ∃ x : mM, x = M1 := ⟨M1, rfl⟩
  subst hMx
  obtain ⟨x3, hv1, hk_x3⟩ := hv1
  subst hv1
  refine W.eq (g2 := F0 m 13 ls [.ref x3]) rfl ?_
  refine W.widen (k := 3) (n := 18) (Nat.le_of_ble_eq_true rfl) (Nat.le_of_ble_eq_true rfl) ?_
  have hm : mm D (AZ z) Mc1 H := hm
  refine lv_astore (lv' := [(5, .ref x3), (4, .ref x2), (0, .ref h0), (1, .int a0), (2, .int a1), (3, .int a2)]) hx hb dX5_read_13 hl (by decide) rfl (fun ls hl => ?_)
  refine lv_aload hx hb dX5_read_15 (lv_at hl 0 rfl) ?_
  refine lv_iload_n hx hb dX5_read_17 rfl (lv_at hl 5 rfl) ?_
  refine m_cS (As := [.ref x3, .int a2]) (rest := []) (rm := { frames := 6, cells := 1, slots := 6, locals := 82 }) ⟨hx, hb, hml, hown, hts⟩ (t_X5_needWord_RI l hlt D k z _ _ x3 a2 hk_x3 hT) (cwS 2 hts gX5_read_X5_needWord rfl rfl rfl (by decide +kernel) ⟨Nat.le_of_ble_eq_true rfl, Nat.le_of_ble_eq_true rfl⟩) hz hcx hm hS rfl hl.1 rfl (Nat.le_of_ble_eq_true rfl) dX5_read_18 ⟨Nat.le_of_ble_eq_true rfl, Nat.le_of_ble_eq_true rfl⟩ (fun E ce q9 M1 H locs hv hm hS hce hcv hcl => ?_) (fun v M1 H locs hv hm hS => ?_)
  · refine vx_out (fun x hx => (hnt x hx).elim) hlocks hce hcv hcl (fun t ht hvm => ⟨⟨_, ?_, by rw [ht]; exact hm⟩, hS.F ht⟩) hS.2.2 (Nat.le_of_ble_eq_true rfl) (Nat.le_of_ble_eq_true rfl)
    obtain ⟨hE8, κ8, hT8, hx8⟩ := hv
    exact ⟨by simp only [List.mem_cons, List.not_mem_nil, or_false] at hE8 ⊢; first | exact hE8 | simp [hE8], κ8, hT8, hE.trans hT0 hT hx8⟩
  obtain ⟨hv1, hM1⟩ := hv
  rw [hM1] at hm
  subst hv1
  refine W.eq (g2 := F0 m 21 ls []) rfl ?_
  refine W.widen (k := 4) (n := 24) (Nat.le_of_ble_eq_true rfl) (Nat.le_of_ble_eq_true rfl) ?_
  have hm : mm D (AZ z) Mc1 H := hm
  refine lv_aload hx hb dX5_read_21 (lv_at hl 1 rfl) ?_
  refine lv_aload hx hb dX5_read_23 (lv_at hl 0 rfl) ?_
  refine lv_iload_n hx hb dX5_read_25 rfl (lv_at hl 5 rfl) ?_
  obtain ⟨v0_4, v1_4, v2_4, v3_4, v4_4, v5_4, v6_4, hM_x2_4, hk_v0_4, hk_v1_4, hk_v2_4, hk_v3_4, hk_v4_4, hz_v5_4⟩ := hT.txn hk_x2
  refine m_kV (As := [.ref x3, .int a2]) (rest := []) (rm := { frames := 1, cells := 0, slots := 0, locals := 23 }) ⟨hx, hb, hml, hown, hts⟩ (t_X3_lookAtCell_RI l D k z _ _ x2 x3 a2 hk_x2 hk_x3 hT) (cwV 2 hts gX5_read_X3_lookAtCell rfl rfl rfl (by decide +kernel) ⟨Nat.le_of_ble_eq_true rfl, Nat.le_of_ble_eq_true rfl⟩) (m_recv hK hm (q := (RX3, TX3, 7)) rfl hM_x2_4) hz hcx hm hS rfl hl.1 rfl (Nat.le_of_ble_eq_true rfl) dX5_read_26 ⟨Nat.le_of_ble_eq_true rfl, Nat.le_of_ble_eq_true rfl⟩ (fun v M1 H locs hv hm hS => ?_)
  obtain ⟨κ2, hT9, hE9, hv1⟩ := hv
  have hk_h0 := hE9.k hT hk_h0
  have hk_x2 := hE9.k hT hk_x2
  have hk_x3 := hE9.k hT hk_x3
  have hE := hE.trans hT0 hT hE9
  have hT := hT9
  obtain ⟨Mc2, hMx⟩ : ∃ x : mM, x = M1 := ⟨M1, rfl⟩
  subst hMx
  subst hv1
  refine W.eq (g2 := F0 m 29 ls []) rfl ?_
  refine W.widen (k := 4) (n := 24) (Nat.le_of_ble_eq_true rfl) (Nat.le_of_ble_eq_true rfl) ?_
  have hm : mm D (AZ z) Mc2 H := hm
  refine lv_aload hx hb dX5_read_29 (lv_at hl 0 rfl) ?_
  refine lv_iload_n hx hb dX5_read_31 rfl (lv_at hl 5 rfl) ?_
  obtain ⟨v0_5, v1_5, v2_5, v3_5, hM_x3_5, hz_v1_5, hk_v3_5⟩ := hT.node hk_x3
  refine m_kV (As := [.int a2]) (rest := []) (rm := { frames := 0, cells := 0, slots := 0, locals := 0 }) ⟨hx, hb, hml, hown, hts⟩ (t_X2_cell_I l D k z _ _ x3 a2 hk_x3 hT) (cwV 1 hts gX5_read_X2_cell rfl rfl rfl (by decide +kernel) ⟨Nat.le_of_ble_eq_true rfl, Nat.le_of_ble_eq_true rfl⟩) (m_recv hK hm (q := (RX2, TX2, 4)) rfl hM_x3_5) hz hcx hm hS rfl hl.1 rfl (Nat.le_of_ble_eq_true rfl) dX5_read_32 ⟨Nat.le_of_ble_eq_true rfl, Nat.le_of_ble_eq_true rfl⟩ (fun v M1 H locs hv hm hS => ?_)
  obtain ⟨hv1, hM1⟩ := hv
  rw [hM1] at hm
  obtain ⟨w6, hv1⟩ := hv1
  subst hv1
  refine W.eq (g2 := F0 m 35 ls [.int w6]) rfl ?_
  refine W.widen (k := 4) (n := 24) (Nat.le_of_ble_eq_true rfl) (Nat.le_of_ble_eq_true rfl) ?_
  have hm : mm D (AZ z) Mc2 H := hm
  refine vx_ret ?_
  refine W.iret (v := w6) hx hb hr (fun t ht hW => ⟨⟨some (.int w6), _, rfl, ?_, by rw [ht]; exact hm⟩, hS.F ht⟩) hS.2.2 dX5_read_35
  exact ⟨_, hT, hE, ⟨_, rfl⟩⟩

set_option maxHeartbeats 4000000 in
set_option maxRecDepth 100000 in
theorem t_X5_length_II (l : Launch) (hlt : l.stackTraces = false) (D : va_G) (k : Nat → ClassId) (z : Nat) (M : mM) (κ : Nat → Option KD) (h0 : Nat) (a0 : Int32) (a1 : Int32) (hk_h0 : κ h0 = some .top) (hT : TM k κ M) : mC l yX5_length wsX5_length ({ frames := 8, cells := 3, slots := 18, locals := 125 }) D k z [.ref h0, .int a0, .int a1] M (fun v M' => ∃ κ', TM k κ' M' ∧ kx κ M κ' M' ∧ ∃ x, v = some (.int x)) (fun E M' => E ∈ (["java/lang/IllegalStateException", "java/util/NoSuchElementException", "java/lang/UnsupportedOperationException", "java/lang/IllegalArgumentException"] : List String) ∧ ∃ κ', TM k κ' M' ∧ kx κ M κ' M') := by
  refine vx_ofW (cc := cX5_length) (maxL := 3) (ret := (some .int)) (by decide) rfl ?_
  intro p e s m args below meth c s₁ B hml hnt hv
  obtain ⟨rfl, hz, hcx, hm⟩ := hv
  have hx := B.exec
  have hb := B.bytes
  have hr := B.returns
  have hts := atoms_spec (ws := wsX5_length) B.pre
  have hown : s.vm.findClass RX5 = some m.cls := findClass_of_methodNamed B.named
  have hlocks := B.notSynchronized
  have hK := hcx.1
  have hS : va_S (AZ z) s.heap s.heap [] := va_S.rf
  have hA : ∀ q, s.heap.size ≤ q → AZ z q := fun q h => Nat.le_trans hz h
  have hl := lv_entry ([.ref h0, .int a0, .int a1]) (n := 3) (Nat.le_of_ble_eq_true rfl)
  rw [lg_entry_eq]
  generalize (lg_sl ([.ref h0, .int a0, .int a1]) ++ List.replicate (3 - (lg_sl ([.ref h0, .int a0, .int a1])).length) Slot.unset).toArray = ls at hl ⊢
  have hl : lv_has ls 3 [(0, .ref h0), (1, .int a0), (2, .int a1)] := hl
  have f189 := hts (.fieldLink RX5 189 "CommitTree$Node" "size" "I") (by decide +kernel)
  have wX2 : ∀ w ∈ wsX20, w ∈ wsX5_length := by decide +kernel
  have hT0 := hT
  have hE : kx κ M κ M := kx.refl _ _
  refine lv_aload_n hx hb dX5_length_0 rfl (lv_at hl 0 rfl) ?_
  refine lv_iload_n hx hb dX5_length_1 rfl (lv_at hl 1 rfl) ?_
  obtain ⟨v0_1, v1_1, v2_1, v3_1, v4_1, v5_1, v6_1, v7_1, v8_1, v9_1, v10_1, hM_h0_1, hk_v0_1, hk_v1_1, hk_v2_1, hk_v3_1, hk_v4_1, hk_v5_1, hz_v9_1, hz_v10_1⟩ := hT.top hk_h0
  refine m_cV (As := [.int a0]) (rest := []) (rm := { frames := 7, cells := 1, slots := 6, locals := 104 }) ⟨hx, hb, hml, hown, hts⟩ (t_X5_openedOrNone_I l hlt D k z _ _ h0 a0 hk_h0 hT) (cwV 1 hts gX5_length_X5_openedOrNone rfl rfl rfl (by decide +kernel) ⟨Nat.le_of_ble_eq_true rfl, Nat.le_of_ble_eq_true rfl⟩) (m_recv hK hm (q := (RX5, TX5, 11)) rfl hM_h0_1) hz hcx hm hS rfl hl.1 rfl (Nat.le_of_ble_eq_true rfl) dX5_length_2 ⟨Nat.le_of_ble_eq_true rfl, Nat.le_of_ble_eq_true rfl⟩ (fun E ce q9 M1 H locs hv hm hS hce hcv hcl => ?_) (fun v M1 H locs hv hm hS => ?_)
  · refine vx_out (fun x hx => (hnt x hx).elim) hlocks hce hcv hcl (fun t ht hvm => ⟨⟨_, ?_, by rw [ht]; exact hm⟩, hS.F ht⟩) hS.2.2 (Nat.le_of_ble_eq_true rfl) (Nat.le_of_ble_eq_true rfl)
    obtain ⟨hE8, κ8, hT8, hx8⟩ := hv
    exact ⟨by simp only [List.mem_cons, List.not_mem_nil, or_false] at hE8 ⊢; first | exact hE8 | simp [hE8], κ8, hT8, hE.trans hT0 hT hx8⟩
  obtain ⟨hv1, hM1⟩ := hv
  rw [hM1] at hm
  obtain ⟨x2, hv1, hk_x2⟩ := hv1
  subst hv1
  refine W.eq (g2 := F0 m 5 ls [.ref x2]) rfl ?_
  refine W.widen (k := 1) (n := 6) (Nat.le_of_ble_eq_true rfl) (Nat.le_of_ble_eq_true rfl) ?_
  have hm : mm D (AZ z) M H := hm
  refine lv_iload_n hx hb dX5_length_5 rfl (lv_at hl 2 rfl) ?_
  refine m_cS (As := [.ref x2, .int a1]) (rest := []) (rm := { frames := 7, cells := 2, slots := 12, locals := 102 }) ⟨hx, hb, hml, hown, hts⟩ (t_X5_measuredFile_RI l hlt D k z _ _ x2 a1 hk_x2 hT) (cwS 2 hts gX5_length_X5_measuredFile rfl rfl rfl (by decide +kernel) ⟨Nat.le_of_ble_eq_true rfl, Nat.le_of_ble_eq_true rfl⟩) hz hcx hm hS rfl hl.1 rfl (Nat.le_of_ble_eq_true rfl) dX5_length_6 ⟨Nat.le_of_ble_eq_true rfl, Nat.le_of_ble_eq_true rfl⟩ (fun E ce q9 M1 H locs hv hm hS hce hcv hcl => ?_) (fun v M1 H locs hv hm hS => ?_)
  · refine vx_out (fun x hx => (hnt x hx).elim) hlocks hce hcv hcl (fun t ht hvm => ⟨⟨_, ?_, by rw [ht]; exact hm⟩, hS.F ht⟩) hS.2.2 (Nat.le_of_ble_eq_true rfl) (Nat.le_of_ble_eq_true rfl)
    obtain ⟨hE8, κ8, hT8, hx8⟩ := hv
    exact ⟨by simp only [List.mem_cons, List.not_mem_nil, or_false] at hE8 ⊢; first | exact hE8 | (rcases hE8 with q8 | q8 | q8 <;> simp [q8]), κ8, hT8, hE.trans hT0 hT hx8⟩
  obtain ⟨κ1, hT9, hE9, hv1⟩ := hv
  have hk_h0 := hE9.k hT hk_h0
  have hE := hE.trans hT0 hT hE9
  have hT := hT9
  obtain ⟨Mc1, hMx⟩ : ∃ x : mM, x = M1 := ⟨M1, rfl⟩
  subst hMx
  obtain ⟨x3, hv1, hk_x3⟩ := hv1
  subst hv1
  refine W.eq (g2 := F0 m 9 ls [.ref x3]) rfl ?_
  refine W.widen (k := 3) (n := 18) (Nat.le_of_ble_eq_true rfl) (Nat.le_of_ble_eq_true rfl) ?_
  have hm : mm D (AZ z) Mc1 H := hm
  obtain ⟨v0_4, v1_4, v2_4, v3_4, hM_x3_4, hz_v1_4, hk_v3_4⟩ := hT.node hk_x3
  refine m_get (T := TX2) (N := 4) (ci := 2) (v := .int v2_4) hx hb hts wX2 hown hK hm hM_x3_4 rfl 2 (by decide) f189 (fun _ h9 => h9) rfl dX5_length_9 ?_
  refine vx_ret ?_
  refine W.iret (v := v2_4) hx hb hr (fun t ht hW => ⟨⟨some (.int v2_4), _, rfl, ?_, by rw [ht]; exact hm⟩, hS.F ht⟩) hS.2.2 dX5_length_12
  exact ⟨_, hT, hE, ⟨_, rfl⟩⟩

set_option maxHeartbeats 4000000 in
set_option maxRecDepth 100000 in
theorem t_X5_kind_II (l : Launch) (hlt : l.stackTraces = false) (D : va_G) (k : Nat → ClassId) (z : Nat) (M : mM) (κ : Nat → Option KD) (h0 : Nat) (a0 : Int32) (a1 : Int32) (hk_h0 : κ h0 = some .top) (hT : TM k κ M) : mC l yX5_kind wsX5_kind ({ frames := 8, cells := 2, slots := 12, locals := 125 }) D k z [.ref h0, .int a0, .int a1] M (fun v M' => ∃ κ', TM k κ' M' ∧ kx κ M κ' M' ∧ ∃ x, v = some (.int x)) (fun E M' => E ∈ (["java/lang/IllegalStateException", "java/lang/IllegalArgumentException"] : List String) ∧ ∃ κ', TM k κ' M' ∧ kx κ M κ' M') := by
  refine vx_ofW (cc := cX5_kind) (maxL := 5) (ret := (some .int)) (by decide) rfl ?_
  intro p e s m args below meth c s₁ B hml hnt hv
  obtain ⟨rfl, hz, hcx, hm⟩ := hv
  have hx := B.exec
  have hb := B.bytes
  have hr := B.returns
  have hts := atoms_spec (ws := wsX5_kind) B.pre
  have hown : s.vm.findClass RX5 = some m.cls := findClass_of_methodNamed B.named
  have hlocks := B.notSynchronized
  have hK := hcx.1
  have hS : va_S (AZ z) s.heap s.heap [] := va_S.rf
  have hA : ∀ q, s.heap.size ≤ q → AZ z q := fun q h => Nat.le_trans hz h
  have hl := lv_entry ([.ref h0, .int a0, .int a1]) (n := 5) (Nat.le_of_ble_eq_true rfl)
  rw [lg_entry_eq]
  generalize (lg_sl ([.ref h0, .int a0, .int a1]) ++ List.replicate (5 - (lg_sl ([.ref h0, .int a0, .int a1])).length) Slot.unset).toArray = ls at hl ⊢
  have hl : lv_has ls 5 [(0, .ref h0), (1, .int a0), (2, .int a1)] := hl
  have f159 := hts (.fieldLink RX5 159 "CommitTree$Node" "directory" "Z") (by decide +kernel)
  have wX2 : ∀ w ∈ wsX20, w ∈ wsX5_kind := by decide +kernel
  have hT0 := hT
  have hE : kx κ M κ M := kx.refl _ _
  refine lv_aload_n hx hb dX5_kind_0 rfl (lv_at hl 0 rfl) ?_
  refine lv_iload_n hx hb dX5_kind_1 rfl (lv_at hl 1 rfl) ?_
  obtain ⟨v0_1, v1_1, v2_1, v3_1, v4_1, v5_1, v6_1, v7_1, v8_1, v9_1, v10_1, hM_h0_1, hk_v0_1, hk_v1_1, hk_v2_1, hk_v3_1, hk_v4_1, hk_v5_1, hz_v9_1, hz_v10_1⟩ := hT.top hk_h0
  refine m_cV (As := [.int a0]) (rest := []) (rm := { frames := 7, cells := 1, slots := 6, locals := 104 }) ⟨hx, hb, hml, hown, hts⟩ (t_X5_openedOrNone_I l hlt D k z _ _ h0 a0 hk_h0 hT) (cwV 1 hts gX5_kind_X5_openedOrNone rfl rfl rfl (by decide +kernel) ⟨Nat.le_of_ble_eq_true rfl, Nat.le_of_ble_eq_true rfl⟩) (m_recv hK hm (q := (RX5, TX5, 11)) rfl hM_h0_1) hz hcx hm hS rfl hl.1 rfl (Nat.le_of_ble_eq_true rfl) dX5_kind_2 ⟨Nat.le_of_ble_eq_true rfl, Nat.le_of_ble_eq_true rfl⟩ (fun E ce q9 M1 H locs hv hm hS hce hcv hcl => ?_) (fun v M1 H locs hv hm hS => ?_)
  · refine vx_out (fun x hx => (hnt x hx).elim) hlocks hce hcv hcl (fun t ht hvm => ⟨⟨_, ?_, by rw [ht]; exact hm⟩, hS.F ht⟩) hS.2.2 (Nat.le_of_ble_eq_true rfl) (Nat.le_of_ble_eq_true rfl)
    obtain ⟨hE8, κ8, hT8, hx8⟩ := hv
    exact ⟨by simp only [List.mem_cons, List.not_mem_nil, or_false] at hE8 ⊢; first | exact hE8 | simp [hE8], κ8, hT8, hE.trans hT0 hT hx8⟩
  obtain ⟨hv1, hM1⟩ := hv
  rw [hM1] at hm
  obtain ⟨x2, hv1, hk_x2⟩ := hv1
  subst hv1
  refine W.eq (g2 := F0 m 5 ls [.ref x2]) rfl ?_
  refine W.widen (k := 1) (n := 6) (Nat.le_of_ble_eq_true rfl) (Nat.le_of_ble_eq_true rfl) ?_
  have hm : mm D (AZ z) M H := hm
  refine lv_astore_n (lv' := [(3, .ref x2), (0, .ref h0), (1, .int a0), (2, .int a1)]) hx hb dX5_kind_5 rfl hl (by decide) rfl (fun ls hl => ?_)
  refine lv_iload_n hx hb dX5_kind_6 rfl (lv_at hl 3 rfl) ?_
  refine m_cS (As := [.int a1]) (rest := []) (rm := { frames := 6, cells := 1, slots := 6, locals := 82 }) ⟨hx, hb, hml, hown, hts⟩ (c_X5_needPath l hlt D k z _ a1) (cwS 1 hts gX5_kind_X5_needPath rfl rfl rfl (by decide +kernel) ⟨Nat.le_of_ble_eq_true rfl, Nat.le_of_ble_eq_true rfl⟩) hz hcx hm hS rfl hl.1 rfl (Nat.le_of_ble_eq_true rfl) dX5_kind_7 ⟨Nat.le_of_ble_eq_true rfl, Nat.le_of_ble_eq_true rfl⟩ (fun E ce q9 M1 H locs hv hm hS hce hcv hcl => ?_) (fun v M1 H locs hv hm hS => ?_)
  · refine vx_out (fun x hx => (hnt x hx).elim) hlocks hce hcv hcl (fun t ht hvm => ⟨⟨_, ?_, by rw [ht]; exact hm⟩, hS.F ht⟩) hS.2.2 (Nat.le_of_ble_eq_true rfl) (Nat.le_of_ble_eq_true rfl)
    obtain ⟨-, hE8, hM8⟩ := hv
    rw [hM8]
    exact ⟨by rw [hE8]; simp, _, hT, hE⟩
  obtain ⟨-, hv1, hM1⟩ := hv
  rw [hM1] at hm
  subst hv1
  refine W.eq (g2 := F0 m 10 ls []) rfl ?_
  refine W.widen (k := 2) (n := 12) (Nat.le_of_ble_eq_true rfl) (Nat.le_of_ble_eq_true rfl) ?_
  have hm : mm D (AZ z) M H := hm
  refine lv_aload_n hx hb dX5_kind_10 rfl (lv_at hl 0 rfl) ?_
  refine lv_iload_n hx hb dX5_kind_11 rfl (lv_at hl 3 rfl) ?_
  obtain ⟨v0_3, v1_3, v2_3, v3_3, v4_3, v5_3, v6_3, hM_x2_3, hk_v0_3, hk_v1_3, hk_v2_3, hk_v3_3, hk_v4_3, hz_v5_3⟩ := hT.txn hk_x2
  refine m_kV (As := [.int a1]) (rest := []) (rm := { frames := 3, cells := 0, slots := 0, locals := 69 }) ⟨hx, hb, hml, hown, hts⟩ (t_X3_lookUp_I l D k z _ _ x2 a1 hk_x2 hT) (cwV 1 hts gX5_kind_X3_lookUp rfl rfl rfl (by decide +kernel) ⟨Nat.le_of_ble_eq_true rfl, Nat.le_of_ble_eq_true rfl⟩) (m_recv hK hm (q := (RX3, TX3, 7)) rfl hM_x2_3) hz hcx hm hS rfl hl.1 rfl (Nat.le_of_ble_eq_true rfl) dX5_kind_12 ⟨Nat.le_of_ble_eq_true rfl, Nat.le_of_ble_eq_true rfl⟩ (fun v M1 H locs hv hm hS => ?_)
  obtain ⟨κ1, hT9, hE9, hv1⟩ := hv
  have hk_h0 := hE9.k hT hk_h0
  have hk_x2 := hE9.k hT hk_x2
  have hE := hE.trans hT0 hT hE9
  have hT := hT9
  obtain ⟨Mc1, hMx⟩ : ∃ x : mM, x = M1 := ⟨M1, rfl⟩
  subst hMx
  rcases hv1 with hv1 | ⟨x4, hv1, hk_x4⟩
  · subst hv1
    refine W.eq (g2 := F0 m 15 ls [.null]) rfl ?_
    refine W.widen (k := 2) (n := 12) (Nat.le_of_ble_eq_true rfl) (Nat.le_of_ble_eq_true rfl) ?_
    have hm : mm D (AZ z) Mc1 H := hm
    refine lv_astoreN (lv' := [(4, .null), (3, .ref x2), (0, .ref h0), (1, .int a0), (2, .int a1)]) hx hb dX5_kind_15 hl (by decide) rfl (fun ls hl => ?_)
    refine lv_aloadN hx hb dX5_kind_17 (lv_at hl 0 rfl) ?_
    refine lv_ifnonnullN hx hb dX5_kind_19 ?_
    refine lv_iconst (v := 0) hx hb dX5_kind_22 (by decide) ?_
    refine vx_ret ?_
    refine W.iret (v := 0) hx hb hr (fun t ht hW => ⟨⟨some (.int 0), _, rfl, ?_, by rw [ht]; exact hm⟩, hS.F ht⟩) hS.2.2 dX5_kind_23
    exact ⟨_, hT, hE, ⟨_, rfl⟩⟩
  · subst hv1
    refine W.eq (g2 := F0 m 15 ls [.ref x4]) rfl ?_
    refine W.widen (k := 2) (n := 12) (Nat.le_of_ble_eq_true rfl) (Nat.le_of_ble_eq_true rfl) ?_
    have hm : mm D (AZ z) Mc1 H := hm
    refine lv_astore (lv' := [(4, .ref x4), (3, .ref x2), (0, .ref h0), (1, .int a0), (2, .int a1)]) hx hb dX5_kind_15 hl (by decide) rfl (fun ls hl => ?_)
    refine lv_aload hx hb dX5_kind_17 (lv_at hl 0 rfl) ?_
    refine lv_ifnonnull (tgt := 24) hx hb dX5_kind_19 (by decide) ?_
    refine lv_aload hx hb dX5_kind_24 (lv_at hl 0 rfl) ?_
    obtain ⟨v0_5, v1_5, v2_5, v3_5, hM_x4_5, hz_v1_5, hk_v3_5⟩ := hT.node hk_x4
    rcases hz_v1_5 with h9 | h9
    · subst h9
      refine m_get (T := TX2) (N := 4) (ci := 2) (v := .int 0) hx hb hts wX2 hown hK hm hM_x4_5 rfl 1 (by decide) f159 (fun _ h9 => h9) rfl dX5_kind_26 ?_
      refine lv_if_eq (tgt := 36) hx hb dX5_kind_29 (by decide) (fun c6 => ?_) (fun c6 => ?_)
      · refine lv_iconst (v := 2) hx hb dX5_kind_36 (by decide) ?_
        refine vx_ret ?_
        refine W.iret (v := 2) hx hb hr (fun t ht hW => ⟨⟨some (.int 2), _, rfl, ?_, by rw [ht]; exact hm⟩, hS.F ht⟩) hS.2.2 dX5_kind_37
        exact ⟨_, hT, hE, ⟨_, rfl⟩⟩
      · first | exact absurd c6 (by decide) | exact absurd (by decide) c6
    · subst h9
      refine m_get (T := TX2) (N := 4) (ci := 2) (v := .int 1) hx hb hts wX2 hown hK hm hM_x4_5 rfl 1 (by decide) f159 (fun _ h9 => h9) rfl dX5_kind_26 ?_
      refine lv_if_eq (tgt := 36) hx hb dX5_kind_29 (by decide) (fun c7 => ?_) (fun c7 => ?_)
      · first | exact absurd c7 (by decide) | exact absurd (by decide) c7
      · refine lv_iconst (v := 1) hx hb dX5_kind_32 (by decide) ?_
        refine lv_goto (tgt := 37) hx hb dX5_kind_33 (by decide) ?_
        refine vx_ret ?_
        refine W.iret (v := 1) hx hb hr (fun t ht hW => ⟨⟨some (.int 1), _, rfl, ?_, by rw [ht]; exact hm⟩, hS.F ht⟩) hS.2.2 dX5_kind_37
        exact ⟨_, hT, hE, ⟨_, rfl⟩⟩

set_option maxHeartbeats 4000000 in
set_option maxRecDepth 100000 in
theorem t_X5_list_II (l : Launch) (hlt : l.stackTraces = false) (D : va_G) (k : Nat → ClassId) (z : Nat) (M : mM) (κ : Nat → Option KD) (h0 : Nat) (a0 : Int32) (a1 : Int32) (hk_h0 : κ h0 = some .top) (hT : TM k κ M) : mC l yX5_list wsX5_list ({ frames := 8, cells := 3, slots := 18, locals := 125 }) D k z [.ref h0, .int a0, .int a1] M (fun v M' => ∃ κ', TM k κ' M' ∧ kx κ M κ' M' ∧ ∃ x, v = some (.int x)) (fun E M' => E ∈ (["java/util/NoSuchElementException", "java/lang/UnsupportedOperationException", "java/lang/IllegalStateException", "java/lang/IllegalArgumentException"] : List String) ∧ ∃ κ', TM k κ' M' ∧ kx κ M κ' M') := by
  refine vx_ofW (cc := cX5_list) (maxL := 5) (ret := (some .int)) (by decide) rfl ?_
  intro p e s m args below meth c s₁ B hml hnt hv
  obtain ⟨rfl, hz, hcx, hm⟩ := hv
  have hx := B.exec
  have hb := B.bytes
  have hr := B.returns
  have hts := atoms_spec (ws := wsX5_list) B.pre
  have hown : s.vm.findClass RX5 = some m.cls := findClass_of_methodNamed B.named
  have hlocks := B.notSynchronized
  have hK := hcx.1
  have hS : va_S (AZ z) s.heap s.heap [] := va_S.rf
  have hA : ∀ q, s.heap.size ≤ q → AZ z q := fun q h => Nat.le_trans hz h
  have hl := lv_entry ([.ref h0, .int a0, .int a1]) (n := 5) (Nat.le_of_ble_eq_true rfl)
  rw [lg_entry_eq]
  generalize (lg_sl ([.ref h0, .int a0, .int a1]) ++ List.replicate (5 - (lg_sl ([.ref h0, .int a0, .int a1])).length) Slot.unset).toArray = ls at hl ⊢
  have hl : lv_has ls 5 [(0, .ref h0), (1, .int a0), (2, .int a1)] := hl
  have f159 := hts (.fieldLink RX5 159 "CommitTree$Node" "directory" "Z") (by decide +kernel)
  have wX2 : ∀ w ∈ wsX20, w ∈ wsX5_list := by decide +kernel
  have hT0 := hT
  have hE : kx κ M κ M := kx.refl _ _
  refine lv_aload_n hx hb dX5_list_0 rfl (lv_at hl 0 rfl) ?_
  refine lv_iload_n hx hb dX5_list_1 rfl (lv_at hl 1 rfl) ?_
  obtain ⟨v0_1, v1_1, v2_1, v3_1, v4_1, v5_1, v6_1, v7_1, v8_1, v9_1, v10_1, hM_h0_1, hk_v0_1, hk_v1_1, hk_v2_1, hk_v3_1, hk_v4_1, hk_v5_1, hz_v9_1, hz_v10_1⟩ := hT.top hk_h0
  refine m_cV (As := [.int a0]) (rest := []) (rm := { frames := 7, cells := 1, slots := 6, locals := 104 }) ⟨hx, hb, hml, hown, hts⟩ (t_X5_openedOrNone_I l hlt D k z _ _ h0 a0 hk_h0 hT) (cwV 1 hts gX5_list_X5_openedOrNone rfl rfl rfl (by decide +kernel) ⟨Nat.le_of_ble_eq_true rfl, Nat.le_of_ble_eq_true rfl⟩) (m_recv hK hm (q := (RX5, TX5, 11)) rfl hM_h0_1) hz hcx hm hS rfl hl.1 rfl (Nat.le_of_ble_eq_true rfl) dX5_list_2 ⟨Nat.le_of_ble_eq_true rfl, Nat.le_of_ble_eq_true rfl⟩ (fun E ce q9 M1 H locs hv hm hS hce hcv hcl => ?_) (fun v M1 H locs hv hm hS => ?_)
  · refine vx_out (fun x hx => (hnt x hx).elim) hlocks hce hcv hcl (fun t ht hvm => ⟨⟨_, ?_, by rw [ht]; exact hm⟩, hS.F ht⟩) hS.2.2 (Nat.le_of_ble_eq_true rfl) (Nat.le_of_ble_eq_true rfl)
    obtain ⟨hE8, κ8, hT8, hx8⟩ := hv
    exact ⟨by simp only [List.mem_cons, List.not_mem_nil, or_false] at hE8 ⊢; first | exact hE8 | simp [hE8], κ8, hT8, hE.trans hT0 hT hx8⟩
  obtain ⟨hv1, hM1⟩ := hv
  rw [hM1] at hm
  obtain ⟨x2, hv1, hk_x2⟩ := hv1
  subst hv1
  refine W.eq (g2 := F0 m 5 ls [.ref x2]) rfl ?_
  refine W.widen (k := 1) (n := 6) (Nat.le_of_ble_eq_true rfl) (Nat.le_of_ble_eq_true rfl) ?_
  have hm : mm D (AZ z) M H := hm
  refine lv_astore_n (lv' := [(3, .ref x2), (0, .ref h0), (1, .int a0), (2, .int a1)]) hx hb dX5_list_5 rfl hl (by decide) rfl (fun ls hl => ?_)
  refine lv_iload_n hx hb dX5_list_6 rfl (lv_at hl 3 rfl) ?_
  refine m_cS (As := [.int a1]) (rest := []) (rm := { frames := 6, cells := 1, slots := 6, locals := 82 }) ⟨hx, hb, hml, hown, hts⟩ (c_X5_needPath l hlt D k z _ a1) (cwS 1 hts gX5_list_X5_needPath rfl rfl rfl (by decide +kernel) ⟨Nat.le_of_ble_eq_true rfl, Nat.le_of_ble_eq_true rfl⟩) hz hcx hm hS rfl hl.1 rfl (Nat.le_of_ble_eq_true rfl) dX5_list_7 ⟨Nat.le_of_ble_eq_true rfl, Nat.le_of_ble_eq_true rfl⟩ (fun E ce q9 M1 H locs hv hm hS hce hcv hcl => ?_) (fun v M1 H locs hv hm hS => ?_)
  · refine vx_out (fun x hx => (hnt x hx).elim) hlocks hce hcv hcl (fun t ht hvm => ⟨⟨_, ?_, by rw [ht]; exact hm⟩, hS.F ht⟩) hS.2.2 (Nat.le_of_ble_eq_true rfl) (Nat.le_of_ble_eq_true rfl)
    obtain ⟨-, hE8, hM8⟩ := hv
    rw [hM8]
    exact ⟨by rw [hE8]; simp, _, hT, hE⟩
  obtain ⟨-, hv1, hM1⟩ := hv
  rw [hM1] at hm
  subst hv1
  refine W.eq (g2 := F0 m 10 ls []) rfl ?_
  refine W.widen (k := 2) (n := 12) (Nat.le_of_ble_eq_true rfl) (Nat.le_of_ble_eq_true rfl) ?_
  have hm : mm D (AZ z) M H := hm
  refine lv_aload_n hx hb dX5_list_10 rfl (lv_at hl 0 rfl) ?_
  refine lv_iload_n hx hb dX5_list_11 rfl (lv_at hl 3 rfl) ?_
  obtain ⟨v0_3, v1_3, v2_3, v3_3, v4_3, v5_3, v6_3, hM_x2_3, hk_v0_3, hk_v1_3, hk_v2_3, hk_v3_3, hk_v4_3, hz_v5_3⟩ := hT.txn hk_x2
  refine m_kV (As := [.int a1]) (rest := []) (rm := { frames := 3, cells := 0, slots := 0, locals := 69 }) ⟨hx, hb, hml, hown, hts⟩ (t_X3_lookUp_I l D k z _ _ x2 a1 hk_x2 hT) (cwV 1 hts gX5_list_X3_lookUp rfl rfl rfl (by decide +kernel) ⟨Nat.le_of_ble_eq_true rfl, Nat.le_of_ble_eq_true rfl⟩) (m_recv hK hm (q := (RX3, TX3, 7)) rfl hM_x2_3) hz hcx hm hS rfl hl.1 rfl (Nat.le_of_ble_eq_true rfl) dX5_list_12 ⟨Nat.le_of_ble_eq_true rfl, Nat.le_of_ble_eq_true rfl⟩ (fun v M1 H locs hv hm hS => ?_)
  obtain ⟨κ1, hT9, hE9, hv1⟩ := hv
  have hk_h0 := hE9.k hT hk_h0
  have hk_x2 := hE9.k hT hk_x2
  have hE := hE.trans hT0 hT hE9
  have hT := hT9
  obtain ⟨Mc1, hMx⟩ : ∃ x : mM, x = M1 := ⟨M1, rfl⟩
  subst hMx
  rcases hv1 with hv1 | ⟨x4, hv1, hk_x4⟩
  · subst hv1
    refine W.eq (g2 := F0 m 15 ls [.null]) rfl ?_
    refine W.widen (k := 2) (n := 12) (Nat.le_of_ble_eq_true rfl) (Nat.le_of_ble_eq_true rfl) ?_
    have hm : mm D (AZ z) Mc1 H := hm
    refine lv_astoreN (lv' := [(4, .null), (3, .ref x2), (0, .ref h0), (1, .int a0), (2, .int a1)]) hx hb dX5_list_15 hl (by decide) rfl (fun ls hl => ?_)
    refine lv_aloadN hx hb dX5_list_17 (lv_at hl 0 rfl) ?_
    refine lv_ifnonnullN hx hb dX5_list_19 ?_
    obtain ⟨sa, hsa⟩ := hcx.2.2.1 (156, "there is nothing at the path") (by decide)
    refine nx_throwS (own := RX5) (cls := "java/util/NoSuchElementException") (Y := "java/lang/RuntimeException") (text := "there is nothing at the path") (names := ["java/lang/Exception"]) (ik := 154) (is := 156) (ic := 158) (i1 := 13) (b1 := prog_21_method_4_code) (A := AZ z) hx hb hlt hown (by decide) (by decide) (by decide) (by decide +kernel) (by decide +kernel) (by decide +kernel) (by decide +kernel) (hts (.classLink RX5 154 "java/util/NoSuchElementException") (by decide +kernel)) (hts (.initialized "java/util/NoSuchElementException") (by decide +kernel)) hsa (vx_hat (B := DW) (fun w h => hts w (List.mem_cons_of_mem _ (List.mem_append_left _ (List.mem_append_left _ (List.mem_append_left _ (List.mem_append_right _ h)))))) (by decide +kernel) (hcx.dw _)) (by decide +kernel) hcx.2.1.1 hcx.2.1.2 hS (hl.1.trans hml.symm) dX5_list_22 dX5_list_25 dX5_list_26 dX5_list_28 dX5_list_31 (fun x hx => (hnt x hx).elim) (Nat.le_of_ble_eq_true rfl) (Nat.le_of_ble_eq_true rfl) (Nat.le_of_ble_eq_true rfl) (Nat.le_of_ble_eq_true rfl) hlocks (fun t hvm hz1 hq => ⟨⟨_, ?_, hm.kept hq⟩, ⟨Nat.le_trans hS.1 hz1, fun q h1 h2 => (hq q (Nat.lt_of_lt_of_le h1 hS.1)).trans (hS.2.1 q h1 h2)⟩⟩) hS.2.2 (Nat.le_of_ble_eq_true rfl) (Nat.le_of_ble_eq_true rfl)
    exact ⟨by simp, _, hT, hE⟩
  · subst hv1
    refine W.eq (g2 := F0 m 15 ls [.ref x4]) rfl ?_
    refine W.widen (k := 2) (n := 12) (Nat.le_of_ble_eq_true rfl) (Nat.le_of_ble_eq_true rfl) ?_
    have hm : mm D (AZ z) Mc1 H := hm
    refine lv_astore (lv' := [(4, .ref x4), (3, .ref x2), (0, .ref h0), (1, .int a0), (2, .int a1)]) hx hb dX5_list_15 hl (by decide) rfl (fun ls hl => ?_)
    refine lv_aload hx hb dX5_list_17 (lv_at hl 0 rfl) ?_
    refine lv_ifnonnull (tgt := 32) hx hb dX5_list_19 (by decide) ?_
    refine lv_aload hx hb dX5_list_32 (lv_at hl 0 rfl) ?_
    obtain ⟨v0_5, v1_5, v2_5, v3_5, hM_x4_5, hz_v1_5, hk_v3_5⟩ := hT.node hk_x4
    rcases hz_v1_5 with h9 | h9
    · subst h9
      refine m_get (T := TX2) (N := 4) (ci := 2) (v := .int 0) hx hb hts wX2 hown hK hm hM_x4_5 rfl 1 (by decide) f159 (fun _ h9 => h9) rfl dX5_list_34 ?_
      refine lv_if_ne (tgt := 50) hx hb dX5_list_37 (by decide) (fun c6 => ?_) (fun c6 => ?_)
      · first | exact absurd c6 (by decide) | exact absurd (by decide) c6
      · obtain ⟨sa, hsa⟩ := hcx.2.2.1 (219, "it is a file") (by decide)
        refine vx_throwS (own := RX5) (cls := "java/lang/UnsupportedOperationException") (text := "it is a file") (names := ["java/lang/RuntimeException", "java/lang/Exception"]) (ik := 86) (is := 219) (ic := 90) (A := AZ z) hx hb hlt hown (by decide) (by decide) (hts (.classLink RX5 86 "java/lang/UnsupportedOperationException") (by decide +kernel)) (hts (.initialized "java/lang/UnsupportedOperationException") (by decide +kernel)) hsa (vx_hat (B := DW) (fun w h => hts w (List.mem_cons_of_mem _ (List.mem_append_left _ (List.mem_append_left _ (List.mem_append_right _ h))))) (by decide +kernel) (hcx.dw _)) (by decide +kernel) hcx.2.1.1 hcx.2.1.2 hS (hl.1.trans hml.symm) dX5_list_40 dX5_list_43 dX5_list_44 dX5_list_46 dX5_list_49 (fun x hx => (hnt x hx).elim) (Nat.le_of_ble_eq_true rfl) (Nat.le_of_ble_eq_true rfl) (Nat.le_of_ble_eq_true rfl) (Nat.le_of_ble_eq_true rfl) hlocks (fun t hvm hz1 hq => ⟨⟨_, ?_, hm.kept hq⟩, ⟨Nat.le_trans hS.1 hz1, fun q h1 h2 => (hq q (Nat.lt_of_lt_of_le h1 hS.1)).trans (hS.2.1 q h1 h2)⟩⟩) hS.2.2 (Nat.le_of_ble_eq_true rfl) (Nat.le_of_ble_eq_true rfl)
        exact ⟨by simp, _, hT, hE⟩
    · subst h9
      refine m_get (T := TX2) (N := 4) (ci := 2) (v := .int 1) hx hb hts wX2 hown hK hm hM_x4_5 rfl 1 (by decide) f159 (fun _ h9 => h9) rfl dX5_list_34 ?_
      refine lv_if_ne (tgt := 50) hx hb dX5_list_37 (by decide) (fun c7 => ?_) (fun c7 => ?_)
      · refine lv_aload_n hx hb dX5_list_50 rfl (lv_at hl 1 rfl) ?_
        refine lv_aload hx hb dX5_list_51 (lv_at hl 0 rfl) ?_
        obtain ⟨v0_8, v1_8, v2_8, v3_8, v4_8, v5_8, v6_8, hM_x2_8, hk_v0_8, hk_v1_8, hk_v2_8, hk_v3_8, hk_v4_8, hz_v5_8⟩ := hT.txn hk_x2
        refine m_kV (As := [.ref x4]) (rest := []) (rm := { frames := 1, cells := 0, slots := 0, locals := 23 }) ⟨hx, hb, hml, hown, hts⟩ (t_X3_namesOf_R l D k z _ _ x2 x4 hk_x2 hk_x4 hT) (cwV 1 hts gX5_list_X3_namesOf rfl rfl rfl (by decide +kernel) ⟨Nat.le_of_ble_eq_true rfl, Nat.le_of_ble_eq_true rfl⟩) (m_recv hK hm (q := (RX3, TX3, 7)) rfl hM_x2_8) hz hcx hm hS rfl hl.1 rfl (Nat.le_of_ble_eq_true rfl) dX5_list_53 ⟨Nat.le_of_ble_eq_true rfl, Nat.le_of_ble_eq_true rfl⟩ (fun v M1 H locs hv hm hS => ?_)
        obtain ⟨κ2, hT9, hE9, hv1⟩ := hv
        have hk_h0 := hE9.k hT hk_h0
        have hk_x2 := hE9.k hT hk_x2
        have hk_x4 := hE9.k hT hk_x4
        have hE := hE.trans hT0 hT hE9
        have hT := hT9
        obtain ⟨Mc2, hMx⟩ : ∃ x : mM, x = M1 := ⟨M1, rfl⟩
        subst hMx
        obtain ⟨w9, hv1⟩ := hv1
        subst hv1
        refine W.eq (g2 := F0 m 56 ls [.int w9]) rfl ?_
        refine W.widen (k := 2) (n := 12) (Nat.le_of_ble_eq_true rfl) (Nat.le_of_ble_eq_true rfl) ?_
        have hm : mm D (AZ z) Mc2 H := hm
        refine W.widen (k := 3) (n := 18) (by omega) (by omega) ?_
        refine vx_ret ?_
        refine W.iret (v := w9) hx hb hr (fun t ht hW => ⟨⟨some (.int w9), _, rfl, ?_, by rw [ht]; exact hm⟩, hS.F ht⟩) hS.2.2 dX5_list_56
        exact ⟨_, hT, hE, ⟨_, rfl⟩⟩
      · first | exact absurd c7 (by decide) | exact absurd (by decide) c7

set_option maxHeartbeats 4000000 in
set_option maxRecDepth 100000 in
theorem t_X3_markAt_I (l : Launch) (D : va_G) (k : Nat → ClassId) (z : Nat) (M : mM) (κ : Nat → Option KD) (h0 : Nat) (a0 : Int32) (hk_h0 : κ h0 = some .txn) (hT : TM k κ M) : mK l yX3_markAt wsX3_markAt ({ frames := 0, cells := 0, slots := 0, locals := 0 }) D k z [.ref h0, .int a0] M (fun v M' => ((v = some .null ∨ ∃ a, v = some (.ref a) ∧ κ a = some .tree)) ∧ M' = M) := by
  refine Met.ofW (cc := cX3_markAt) (maxL := 2) (ret := (some (.object "CommitTree$Tree"))) (by decide) rfl ?_
  intro p e s m args below meth c s₁ B hml hv
  obtain ⟨rfl, hz, hcx, hm⟩ := hv
  have hx := B.exec
  have hb := B.bytes
  have hr := B.returns
  have hts := atoms_spec (ws := wsX3_markAt) B.pre
  have hown : s.vm.findClass RX3 = some m.cls := findClass_of_methodNamed B.named
  have hlocks := B.notSynchronized
  have hK := hcx.1
  have hS : va_S (AZ z) s.heap s.heap [] := va_S.rf
  have hA : ∀ q, s.heap.size ≤ q → AZ z q := fun q h => Nat.le_trans hz h
  have hl := lv_entry ([.ref h0, .int a0]) (n := 2) (Nat.le_of_ble_eq_true rfl)
  rw [lg_entry_eq]
  generalize (lg_sl ([.ref h0, .int a0]) ++ List.replicate (2 - (lg_sl ([.ref h0, .int a0])).length) Slot.unset).toArray = ls at hl ⊢
  have hl : lv_has ls 2 [(0, .ref h0), (1, .int a0)] := hl
  have f18 := hts (.fieldLink RX3 18 "CommitTree$Transaction" "marks" "[LCommitTree$Tree;") (by decide +kernel)
  have wX3 : ∀ w ∈ wsX30, w ∈ wsX3_markAt := by decide +kernel
  have hT0 := hT
  have hE : kx κ M κ M := kx.refl _ _
  refine lv_iload_n hx hb dX3_markAt_0 rfl (lv_at hl 1 rfl) ?_
  refine lv_if_lt (tgt := 22) hx hb dX3_markAt_1 (by decide) (fun c1 => ?_) (fun c1 => ?_)
  · refine lv_null hx hb dX3_markAt_22 ?_
    refine W.aret (v := .null) hx hb hr (Or.inl ⟨_, rfl⟩) (Or.inl rfl) (fun t ht hW => ⟨⟨some (.null), _, rfl, ?_, by rw [ht]; exact hm⟩, hS.F ht⟩) hS.2.2 dX3_markAt_23
    exact ⟨Or.inl rfl, rfl⟩
  · refine lv_iload_n hx hb dX3_markAt_4 rfl (lv_at hl 1 rfl) ?_
    refine lv_aload_n hx hb dX3_markAt_5 rfl (lv_at hl 0 rfl) ?_
    obtain ⟨v0_2, v1_2, v2_2, v3_2, v4_2, v5_2, v6_2, hM_h0_2, hk_v0_2, hk_v1_2, hk_v2_2, hk_v3_2, hk_v4_2, hz_v5_2⟩ := hT.txn hk_h0
    refine m_get (T := TX3) (N := 7) (ci := 3) (v := .ref v2_2) hx hb hts wX3 hown hK hm hM_h0_2 rfl 2 (by decide) f18 (fun _ h9 => h9) rfl dX3_markAt_6 ?_
    obtain ⟨g_3, hM_v2_2_3, hg_3⟩ := hT.trees hk_v2_2
    refine m_alen hx hb hK hm 5 hM_v2_2_3 rfl (v := nI 3) rfl dX3_markAt_9 ?_
    refine lv_icmp_ge (tgt := 22) hx hb dX3_markAt_10 (by decide) (fun c4 => ?_) (fun c4 => ?_)
    · refine lv_null hx hb dX3_markAt_22 ?_
      refine W.aret (v := .null) hx hb hr (Or.inl ⟨_, rfl⟩) (Or.inl rfl) (fun t ht hW => ⟨⟨some (.null), _, rfl, ?_, by rw [ht]; exact hm⟩, hS.F ht⟩) hS.2.2 dX3_markAt_23
      exact ⟨Or.inl rfl, rfl⟩
    · refine lv_aload_n hx hb dX3_markAt_13 rfl (lv_at hl 0 rfl) ?_
      refine m_get (T := TX3) (N := 7) (ci := 3) (v := .ref v2_2) hx hb hts wX3 hown hK hm hM_h0_2 rfl 2 (by decide) f18 (fun _ h9 => h9) rfl dX3_markAt_14 ?_
      refine lv_iload_n hx hb dX3_markAt_17 rfl (lv_at hl 1 rfl) ?_
      refine m_aald hx hb hK hm 5 hM_v2_2_3 rfl (in_of (i := a0) (n := 3) (by first | assumption | exact nI_pos (by omega)) (by assumption) (by first | decide | omega)) dX3_markAt_18 ?_
      obtain ⟨o5, ho5⟩ : ∃ o9, g_3 a0.toNatClampNeg = o9 := ⟨_, rfl⟩
      refine W.eq (g2 := F0 m 19 ls [va_rf o5]) (by rw [ho5]) ?_
      rcases o5 with _ | x6
      · refine W.eq (g2 := F0 m 19 ls [.null]) rfl ?_
        refine lv_goto (tgt := 23) hx hb dX3_markAt_19 (by decide) ?_
        refine W.aret (v := .null) hx hb hr (Or.inl ⟨_, rfl⟩) (Or.inl rfl) (fun t ht hW => ⟨⟨some (.null), _, rfl, ?_, by rw [ht]; exact hm⟩, hS.F ht⟩) hS.2.2 dX3_markAt_23
        exact ⟨Or.inl rfl, rfl⟩
      · have hk_x6 := hg_3 _ _ ho5
        refine W.eq (g2 := F0 m 19 ls [.ref x6]) rfl ?_
        refine lv_goto (tgt := 23) hx hb dX3_markAt_19 (by decide) ?_
        refine W.aret (v := .ref x6) hx hb hr (Or.inl ⟨_, rfl⟩) (Or.inr ⟨_, rfl⟩) (fun t ht hW => ⟨⟨some (.ref x6), _, rfl, ?_, by rw [ht]; exact hm⟩, hS.F ht⟩) hS.2.2 dX3_markAt_23
        exact ⟨Or.inr ⟨_, rfl, hk_x6⟩, rfl⟩

