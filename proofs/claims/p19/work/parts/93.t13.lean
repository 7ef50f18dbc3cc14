set_option maxHeartbeats 4000000 in
set_option maxRecDepth 100000 in
theorem t_X5_make_II1 (l : Launch) (hlt : l.stackTraces = false) (D : va_G) (k : Nat → ClassId) (z : Nat) (M : mM) (κ : Nat → Option KD) (h0 : Nat) (a0 : Int32) (a1 : Int32) (hk_h0 : κ h0 = some .top) (hT : TM k κ M) : mC l yX5_make wsX5_make ({ frames := 7, cells := 7, slots := 106, locals := 115 }) D k z [.ref h0, .int a0, .int a1, .int 1] M (fun v M' => ∃ κ', TM k κ' M' ∧ kx κ M κ' M' ∧ v = none) (fun E M' => E ∈ (["java/lang/UnsupportedOperationException", "java/lang/IllegalStateException", "java/lang/IllegalArgumentException", "java/util/NoSuchElementException"] : List String) ∧ ∃ κ', TM k κ' M' ∧ kx κ M κ' M') := by
  refine vx_ofW (cc := cX5_make) (maxL := 6) (ret := none) (by decide) rfl ?_
  intro p e s m args below meth c s₁ B hml hnt hv
  obtain ⟨rfl, hz, hcx, hm⟩ := hv
  have hx := B.exec
  have hb := B.bytes
  have hr := B.returns
  have hts := atoms_spec (ws := wsX5_make) B.pre
  have hown : s.vm.findClass RX5 = some m.cls := findClass_of_methodNamed B.named
  have hlocks := B.notSynchronized
  have hK := hcx.1
  have hS : va_S (AZ z) s.heap s.heap [] := va_S.rf
  have hA : ∀ q, s.heap.size ≤ q → AZ z q := fun q h => Nat.le_trans hz h
  have hl := lv_entry ([.ref h0, .int a0, .int a1, .int 1]) (n := 6) (Nat.le_of_ble_eq_true rfl)
  rw [lg_entry_eq]
  generalize (lg_sl ([.ref h0, .int a0, .int a1, .int 1]) ++ List.replicate (6 - (lg_sl ([.ref h0, .int a0, .int a1, .int 1])).length) Slot.unset).toArray = ls at hl ⊢
  have hl : lv_has ls 6 [(0, .ref h0), (1, .int a0), (2, .int a1), (3, .int 1)] := hl
  have f56 := hts (.fieldLink RX5 56 "CommitTree" "newestNode" "I") (by decide +kernel)
  have f109 := hts (.fieldLink RX5 109 "CommitTree$Transaction" "view" "LCommitTree$Tree;") (by decide +kernel)
  have f131 := hts (.fieldLink RX5 131 "CommitTree$Tree" "size" "I") (by decide +kernel)
  have f139 := hts (.fieldLink RX5 139 "CommitTree$Node" "id" "I") (by decide +kernel)
  have wX2 : ∀ w ∈ wsX20, w ∈ wsX5_make := by decide +kernel
  have wX3 : ∀ w ∈ wsX30, w ∈ wsX5_make := by decide +kernel
  have wX4 : ∀ w ∈ wsX40, w ∈ wsX5_make := by decide +kernel
  have wX5 : ∀ w ∈ wsX50, w ∈ wsX5_make := by decide +kernel
  have hT0 := hT
  have hE : kx κ M κ M := kx.refl _ _
  refine lv_aload_n hx hb dX5_make_0 rfl (lv_at hl 0 rfl) ?_
  refine lv_iload_n hx hb dX5_make_1 rfl (lv_at hl 1 rfl) ?_
  obtain ⟨v0_1, v1_1, v2_1, v3_1, v4_1, v5_1, v6_1, v7_1, v8_1, v9_1, v10_1, hM_h0_1, hk_v0_1, hk_v1_1, hk_v2_1, hk_v3_1, hk_v4_1, hk_v5_1, hz_v9_1, hz_v10_1⟩ := hT.top hk_h0
  refine m_cV (As := [.int a0]) (rest := []) (rm := { frames := 6, cells := 1, slots := 6, locals := 82 }) ⟨hx, hb, hml, hown, hts⟩ (t_X5_opened_I l hlt D k z _ _ h0 a0 hk_h0 hT) (cwV 1 hts gX5_make_X5_opened rfl rfl rfl (by decide +kernel) ⟨Nat.le_of_ble_eq_true rfl, Nat.le_of_ble_eq_true rfl⟩) (m_recv hK hm (q := (RX5, TX5, 11)) rfl hM_h0_1) hz hcx hm hS rfl hl.1 rfl (Nat.le_of_ble_eq_true rfl) dX5_make_2 ⟨Nat.le_of_ble_eq_true rfl, Nat.le_of_ble_eq_true rfl⟩ (fun E ce q9 M1 H locs hv hm hS hce hcv hcl => ?_) (fun v M1 H locs hv hm hS => ?_)
  · refine vx_out (fun x hx => (hnt x hx).elim) hlocks hce hcv hcl (fun t ht hvm => ⟨⟨_, ?_, by rw [ht]; exact hm⟩, hS.F ht⟩) hS.2.2 (Nat.le_of_ble_eq_true rfl) (Nat.le_of_ble_eq_true rfl)
    obtain ⟨hE8, κ8, hT8, hx8⟩ := hv
    exact ⟨by simp only [List.mem_cons, List.not_mem_nil, or_false] at hE8 ⊢; first | exact hE8 | simp [hE8], κ8, hT8, hE.trans hT0 hT hx8⟩
  obtain ⟨hv1, hM1⟩ := hv
  rw [hM1] at hm
  obtain ⟨x2, hv1, hk_x2⟩ := hv1
  subst hv1
  refine W.eq (g2 := F0 m 5 ls [.ref x2]) rfl ?_
  refine W.widen (k := 1) (n := 6) (Nat.le_of_ble_eq_true rfl) (Nat.le_of_ble_eq_true rfl) ?_
  have hm : mm D (AZ z) M H := hm
  refine lv_astore (lv' := [(4, .ref x2), (0, .ref h0), (1, .int a0), (2, .int a1), (3, .int 1)]) hx hb dX5_make_5 hl (by decide) rfl (fun ls hl => ?_)
  refine lv_iload_n hx hb dX5_make_7 rfl (lv_at hl 3 rfl) ?_
  refine m_cS (As := [.int a1]) (rest := []) (rm := { frames := 6, cells := 1, slots := 6, locals := 82 }) ⟨hx, hb, hml, hown, hts⟩ (c_X5_needPathBelowRoot l hlt D k z _ a1) (cwS 1 hts gX5_make_X5_needPathBelowRoot rfl rfl rfl (by decide +kernel) ⟨Nat.le_of_ble_eq_true rfl, Nat.le_of_ble_eq_true rfl⟩) hz hcx hm hS rfl hl.1 rfl (Nat.le_of_ble_eq_true rfl) dX5_make_8 ⟨Nat.le_of_ble_eq_true rfl, Nat.le_of_ble_eq_true rfl⟩ (fun E ce q9 M1 H locs hv hm hS hce hcv hcl => ?_) (fun v M1 H locs hv hm hS => ?_)
  · refine vx_out (fun x hx => (hnt x hx).elim) hlocks hce hcv hcl (fun t ht hvm => ⟨⟨_, ?_, by rw [ht]; exact hm⟩, hS.F ht⟩) hS.2.2 (Nat.le_of_ble_eq_true rfl) (Nat.le_of_ble_eq_true rfl)
    obtain ⟨-, hE8, hM8⟩ := hv
    rw [hM8]
    exact ⟨by rw [hE8]; simp, _, hT, hE⟩
  obtain ⟨-, hv1, hM1⟩ := hv
  rw [hM1] at hm
  subst hv1
  refine W.eq (g2 := F0 m 11 ls []) rfl ?_
  refine W.widen (k := 2) (n := 12) (Nat.le_of_ble_eq_true rfl) (Nat.le_of_ble_eq_true rfl) ?_
  have hm : mm D (AZ z) M H := hm
  refine lv_aload hx hb dX5_make_11 (lv_at hl 0 rfl) ?_
  refine lv_iload_n hx hb dX5_make_13 rfl (lv_at hl 3 rfl) ?_
  refine m_cS (As := [.ref x2, .int a1]) (rest := []) (rm := { frames := 6, cells := 1, slots := 6, locals := 93 }) ⟨hx, hb, hml, hown, hts⟩ (t_X5_parentWithRoom_RI l hlt D k z _ _ x2 a1 hk_x2 hT) (cwS 2 hts gX5_make_X5_parentWithRoom rfl rfl rfl (by decide +kernel) ⟨Nat.le_of_ble_eq_true rfl, Nat.le_of_ble_eq_true rfl⟩) hz hcx hm hS rfl hl.1 rfl (Nat.le_of_ble_eq_true rfl) dX5_make_14 ⟨Nat.le_of_ble_eq_true rfl, Nat.le_of_ble_eq_true rfl⟩ (fun E ce q9 M1 H locs hv hm hS hce hcv hcl => ?_) (fun v M1 H locs hv hm hS => ?_)
  · refine vx_out (fun x hx => (hnt x hx).elim) hlocks hce hcv hcl (fun t ht hvm => ⟨⟨_, ?_, by rw [ht]; exact hm⟩, hS.F ht⟩) hS.2.2 (Nat.le_of_ble_eq_true rfl) (Nat.le_of_ble_eq_true rfl)
    obtain ⟨hE8, κ8, hT8, hx8⟩ := hv
    exact ⟨by simp only [List.mem_cons, List.not_mem_nil, or_false] at hE8 ⊢; first | exact hE8 | (rcases hE8 with q8 | q8 <;> simp [q8]), κ8, hT8, hE.trans hT0 hT hx8⟩
  obtain ⟨κ1, hT9, hE9, hv1⟩ := hv
  have hk_h0 := hE9.k hT hk_h0
  have hk_x2 := hE9.k hT hk_x2
  have hE := hE.trans hT0 hT hE9
  have hT := hT9
  obtain ⟨Mc1, hMx⟩ : ∃ x : mM, x = M1 := ⟨M1, rfl⟩
  subst hMx
  obtain ⟨x3, hv1, hk_x3⟩ := hv1
  subst hv1
  refine W.eq (g2 := F0 m 17 ls [.ref x3]) rfl ?_
  refine W.widen (k := 3) (n := 18) (Nat.le_of_ble_eq_true rfl) (Nat.le_of_ble_eq_true rfl) ?_
  have hm : mm D (AZ z) Mc1 H := hm
  refine lv_astore (lv' := [(5, .ref x3), (4, .ref x2), (0, .ref h0), (1, .int a0), (2, .int a1), (3, .int 1)]) hx hb dX5_make_17 hl (by decide) rfl (fun ls hl => ?_)
  refine lv_aload hx hb dX5_make_19 (lv_at hl 1 rfl) ?_
  obtain ⟨v0_4, v1_4, v2_4, v3_4, v4_4, v5_4, v6_4, hM_x2_4, hk_v0_4, hk_v1_4, hk_v2_4, hk_v3_4, hk_v4_4, hz_v5_4⟩ := hT.txn hk_x2
  refine m_get (T := TX3) (N := 7) (ci := 3) (v := .ref v1_4) hx hb hts wX3 hown hK hm hM_x2_4 rfl 1 (by decide) f109 (fun _ h9 => h9) rfl dX5_make_21 ?_
  obtain ⟨v0_5, v1_5, hM_v1_4_5, hk_v0_5, hn_v1_5⟩ := hT.tree hk_v1_4
  refine m_get (T := TX4) (N := 2) (ci := 4) (v := .int (nI v1_5)) hx hb hts wX4 hown hK hm hM_v1_4_5 rfl 1 (by decide) f131 (fun _ h9 => h9) rfl dX5_make_24 ?_
  refine lv_bipush (v := 60) hx hb dX5_make_27 (by decide) ?_
  refine lv_icmp_lt (tgt := 42) hx hb dX5_make_29 (by decide) (fun c6 => ?_) (fun c6 => ?_)
  · refine lv_aload_n hx hb dX5_make_42 rfl (lv_at hl 2 rfl) ?_
    refine lv_dup hx hb dX5_make_43 rfl ?_
    obtain ⟨v0_7, v1_7, v2_7, v3_7, v4_7, v5_7, v6_7, v7_7, v8_7, v9_7, v10_7, hM_h0_7, hk_v0_7, hk_v1_7, hk_v2_7, hk_v3_7, hk_v4_7, hk_v5_7, hz_v9_7, hz_v10_7⟩ := hT.top hk_h0
    refine m_get (T := TX5) (N := 11) (ci := 5) (v := .int v6_7) hx hb hts wX5 hown hK hm hM_h0_7 rfl 6 (by decide) f56 (fun _ h9 => h9) rfl dX5_make_44 ?_
    refine lv_iconst (v := 1) hx hb dX5_make_47 (by decide) ?_
    refine lv_iadd hx hb dX5_make_48 ?_
    refine m_put (T := TX5) (N := 11) (ci := 5) (v := .int (v6_7 + 1)) (ty := .int) hx hb hts wX5 tyX5 tyX5_ok nmX5 hown hK hm hS hM_h0_7 rfl 6 (by decide) f56 (fun _ h9 => h9) rfl (by decide +kernel) rfl rfl (Nat.le_of_ble_eq_true rfl) dX5_make_49 (fun H locs hm hS => ?_)
    have hm : mm D (AZ z) (mu Mc1 h0 (.inr (5, [.ref v0_7, .ref v1_7, .ref v2_7, .ref v3_7, .ref v4_7, .ref v5_7, .int (v6_7 + 1), .int v7_7, .int v8_7, .int v9_7, .int v10_7]))) H := hm
    have hR_8 : (mu Mc1 h0 (.inr (5, [.ref v0_7, .ref v1_7, .ref v2_7, .ref v3_7, .ref v4_7, .ref v5_7, .int (v6_7 + 1), .int v7_7, .int v8_7, .int v9_7, .int v10_7]))) x2 = _ := (mu_ne (kd_ne hk_x2 hk_h0 (by decide))).trans hM_x2_4
    have hR_9 : (mu Mc1 h0 (.inr (5, [.ref v0_7, .ref v1_7, .ref v2_7, .ref v3_7, .ref v4_7, .ref v5_7, .int (v6_7 + 1), .int v7_7, .int v8_7, .int v9_7, .int v10_7]))) v1_4 = _ := (mu_ne (kd_ne hk_v1_4 hk_h0 (by decide))).trans hM_v1_4_5
    have hT : TM k κ1 (mu Mc1 h0 (.inr (5, [.ref v0_7, .ref v1_7, .ref v2_7, .ref v3_7, .ref v4_7, .ref v5_7, .int (v6_7 + 1), .int v7_7, .int v8_7, .int v9_7, .int v10_7]))) := hT.put hk_h0 (show wf k κ1 .top (.inr (5, [.ref v0_7, .ref v1_7, .ref v2_7, .ref v3_7, .ref v4_7, .ref v5_7, .int (v6_7 + 1), .int v7_7, .int v8_7, .int v9_7, .int v10_7])) from ⟨v0_7, v1_7, v2_7, v3_7, v4_7, v5_7, (v6_7 + 1), v7_7, v8_7, v9_7, v10_7, rfl, hk_v0_7, hk_v1_7, hk_v2_7, hk_v3_7, hk_v4_7, hk_v5_7, hz_v9_7, hz_v10_7⟩)
    have hE : kx κ M κ1 (mu Mc1 h0 (.inr (5, [.ref v0_7, .ref v1_7, .ref v2_7, .ref v3_7, .ref v4_7, .ref v5_7, .int (v6_7 + 1), .int v7_7, .int v8_7, .int v9_7, .int v10_7]))) := hE.put hk_h0
    generalize (mu Mc1 h0 (.inr (5, [.ref v0_7, .ref v1_7, .ref v2_7, .ref v3_7, .ref v4_7, .ref v5_7, .int (v6_7 + 1), .int v7_7, .int v8_7, .int v9_7, .int v10_7]))) = Mc2 at hm hT hE hR_8 hR_9
    refine lv_aload hx hb dX5_make_52 (lv_at hl 1 rfl) ?_
    refine m_get (T := TX3) (N := 7) (ci := 3) (v := .ref v1_4) hx hb hts wX3 hown hK hm hR_8 rfl 1 (by decide) f109 (fun _ h9 => h9) rfl dX5_make_54 ?_
    refine lv_aload_n hx hb dX5_make_57 rfl (lv_at hl 2 rfl) ?_
    obtain ⟨v0_10, v1_10, v2_10, v3_10, v4_10, v5_10, v6_10, v7_10, v8_10, v9_10, v10_10, hM_h0_10, hk_v0_10, hk_v1_10, hk_v2_10, hk_v3_10, hk_v4_10, hk_v5_10, hz_v9_10, hz_v10_10⟩ := hT.top hk_h0
    refine m_get (T := TX5) (N := 11) (ci := 5) (v := .int v6_10) hx hb hts wX5 hown hK hm hM_h0_10 rfl 6 (by decide) f56 (fun _ h9 => h9) rfl dX5_make_58 ?_
    refine lv_iload_n hx hb dX5_make_61 rfl (lv_at hl 5 rfl) ?_
    refine m_kS (As := [.int v6_10, .int 1]) (rest := [.ref v1_4]) (rm := { frames := 2, cells := 2, slots := 20, locals := 40 }) ⟨hx, hb, hml, hown, hts⟩ (t_X2_blank_I1 l D k z _ _ v6_10  hT) (va_cwS 2 hts gX5_make_X2_blank rfl rfl rfl (by decide +kernel) ⟨Nat.le_of_ble_eq_true rfl, Nat.le_of_ble_eq_true rfl⟩) hz hcx hm hS rfl hl.1 rfl (Nat.le_of_ble_eq_true rfl) dX5_make_62 ⟨Nat.le_of_ble_eq_true rfl, Nat.le_of_ble_eq_true rfl⟩ (fun v M1 H locs hv hm hS => ?_)
    obtain ⟨κ3, hT9, hE9, hv1⟩ := hv
    have hk_h0 := hE9.k hT hk_h0
    have hk_x2 := hE9.k hT hk_x2
    have hk_x3 := hE9.k hT hk_x3
    have hk_v1_4 := hE9.k hT hk_v1_4
    have hE := hE.trans hT0 hT hE9
    have hT := hT9
    obtain ⟨Mc3, hMx⟩ : ∃ x : mM, x = M1 := ⟨M1, rfl⟩
    subst hMx
    obtain ⟨x11, hv1, hk_x11⟩ := hv1
    subst hv1
    refine W.eq (g2 := F0 m 65 ls [.ref x11, .ref v1_4]) rfl ?_
    refine W.widen (k := 5) (n := 38) (Nat.le_of_ble_eq_true rfl) (Nat.le_of_ble_eq_true rfl) ?_
    have hm : mm D (AZ z) Mc3 H := hm
    obtain ⟨v0_12, v1_12, hM_v1_4_12, hk_v0_12, hn_v1_12⟩ := hT.tree hk_v1_4
    refine m_kV (As := [.ref x11]) (rest := []) (rm := { frames := 1, cells := 0, slots := 0, locals := 23 }) ⟨hx, hb, hml, hown, hts⟩ (t_X4_put_R l D k z _ _ v1_4 x11 hk_v1_4 hk_x11 hT) (cwV 1 hts gX5_make_X4_put rfl rfl rfl (by decide +kernel) ⟨Nat.le_of_ble_eq_true rfl, Nat.le_of_ble_eq_true rfl⟩) (m_recv hK hm (q := (RX4, TX4, 2)) rfl hM_v1_4_12) hz hcx hm hS rfl hl.1 rfl (Nat.le_of_ble_eq_true rfl) dX5_make_65 ⟨Nat.le_of_ble_eq_true rfl, Nat.le_of_ble_eq_true rfl⟩ (fun v M1 H locs hv hm hS => ?_)
    obtain ⟨κ4, hT9, hE9, hv1⟩ := hv
    have hk_h0 := hE9.k hT hk_h0
    have hk_x2 := hE9.k hT hk_x2
    have hk_x3 := hE9.k hT hk_x3
    have hk_v1_4 := hE9.k hT hk_v1_4
    have hE := hE.trans hT0 hT hE9
    have hT := hT9
    obtain ⟨Mc4, hMx⟩ : ∃ x : mM, x = M1 := ⟨M1, rfl⟩
    subst hMx
    subst hv1
    refine W.eq (g2 := F0 m 68 ls []) rfl ?_
    refine W.widen (k := 5) (n := 38) (Nat.le_of_ble_eq_true rfl) (Nat.le_of_ble_eq_true rfl) ?_
    have hm : mm D (AZ z) Mc4 H := hm
    refine lv_aload hx hb dX5_make_68 (lv_at hl 1 rfl) ?_
    obtain ⟨v0_13, v1_13, v2_13, v3_13, v4_13, v5_13, v6_13, hM_x2_13, hk_v0_13, hk_v1_13, hk_v2_13, hk_v3_13, hk_v4_13, hz_v5_13⟩ := hT.txn hk_x2
    refine m_get (T := TX3) (N := 7) (ci := 3) (v := .ref v1_13) hx hb hts wX3 hown hK hm hM_x2_13 rfl 1 (by decide) f109 (fun _ h9 => h9) rfl dX5_make_70 ?_
    refine lv_aload hx hb dX5_make_73 (lv_at hl 0 rfl) ?_
    obtain ⟨v0_14, v1_14, v2_14, v3_14, hM_x3_14, hz_v1_14, hk_v3_14⟩ := hT.node hk_x3
    refine m_get (T := TX2) (N := 4) (ci := 2) (v := .int v0_14) hx hb hts wX2 hown hK hm hM_x3_14 rfl 0 (by decide) f139 (fun _ h9 => h9) rfl dX5_make_75 ?_
    refine lv_iload_n hx hb dX5_make_78 rfl (lv_at hl 4 rfl) ?_
    refine lv_bipush (v := 15) hx hb dX5_make_79 (by decide) ?_
    refine lv_iand hx hb dX5_make_81 ?_
    refine lv_aload_n hx hb dX5_make_82 rfl (lv_at hl 2 rfl) ?_
    obtain ⟨v0_15, v1_15, v2_15, v3_15, v4_15, v5_15, v6_15, v7_15, v8_15, v9_15, v10_15, hM_h0_15, hk_v0_15, hk_v1_15, hk_v2_15, hk_v3_15, hk_v4_15, hk_v5_15, hz_v9_15, hz_v10_15⟩ := hT.top hk_h0
    refine m_get (T := TX5) (N := 11) (ci := 5) (v := .int v6_15) hx hb hts wX5 hown hK hm hM_h0_15 rfl 6 (by decide) f56 (fun _ h9 => h9) rfl dX5_make_83 ?_
    obtain ⟨v0_16, v1_16, hM_v1_13_16, hk_v0_16, hn_v1_16⟩ := hT.tree hk_v1_13
    refine m_kV (As := [.int v0_14, .int (a1 &&& 15), .int v6_15]) (rest := []) (rm := { frames := 3, cells := 2, slots := 68, locals := 64 }) ⟨hx, hb, hml, hown, hts⟩ (t_X4_setEntry_III l D k z _ _ v1_13 v0_14 (a1 &&& 15) v6_15 hk_v1_13 hT) (cwV 3 hts gX5_make_X4_setEntry rfl rfl rfl (by decide +kernel) ⟨Nat.le_of_ble_eq_true rfl, Nat.le_of_ble_eq_true rfl⟩) (m_recv hK hm (q := (RX4, TX4, 2)) rfl hM_v1_13_16) hz hcx hm hS rfl hl.1 rfl (Nat.le_of_ble_eq_true rfl) dX5_make_86 ⟨Nat.le_of_ble_eq_true rfl, Nat.le_of_ble_eq_true rfl⟩ (fun v M1 H locs hv hm hS => ?_)
    obtain ⟨κ5, hT9, hE9, hv1⟩ := hv
    have hk_h0 := hE9.k hT hk_h0
    have hk_x2 := hE9.k hT hk_x2
    have hk_x3 := hE9.k hT hk_x3
    have hk_v1_13 := hE9.k hT hk_v1_13
    have hE := hE.trans hT0 hT hE9
    have hT := hT9
    obtain ⟨Mc5, hMx⟩ : ∃ x : mM, x = M1 := ⟨M1, rfl⟩
    subst hMx
    subst hv1
    refine W.eq (g2 := F0 m 89 ls []) rfl ?_
    refine W.widen (k := 7) (n := 106) (Nat.le_of_ble_eq_true rfl) (Nat.le_of_ble_eq_true rfl) ?_
    have hm : mm D (AZ z) Mc5 H := hm
    refine vx_ret ?_
    refine W.vret hx hb hr (fun t ht hW => ⟨⟨none, _, rfl, ?_, by rw [ht]; exact hm⟩, hS.F ht⟩) hS.2.2 dX5_make_89
    exact ⟨_, hT, hE, rfl⟩
  · obtain ⟨sa, hsa⟩ := hcx.2.2.1 (134, "the view has 60 nodes") (by decide)
    refine vx_throwS (own := RX5) (cls := "java/lang/UnsupportedOperationException") (text := "the view has 60 nodes") (names := ["java/lang/RuntimeException", "java/lang/Exception"]) (ik := 86) (is := 134) (ic := 90) (A := AZ z) hx hb hlt hown (by decide) (by decide) (hts (.classLink RX5 86 "java/lang/UnsupportedOperationException") (by decide +kernel)) (hts (.initialized "java/lang/UnsupportedOperationException") (by decide +kernel)) hsa (vx_hat (B := DW) (fun w h => hts w (List.mem_cons_of_mem _ (List.mem_append_left _ (List.mem_append_left _ (List.mem_append_left _ (List.mem_append_right _ h)))))) (by decide +kernel) (hcx.dw _)) (by decide +kernel) hcx.2.1.1 hcx.2.1.2 hS (hl.1.trans hml.symm) dX5_make_32 dX5_make_35 dX5_make_36 dX5_make_38 dX5_make_41 (fun x hx => (hnt x hx).elim) (Nat.le_of_ble_eq_true rfl) (Nat.le_of_ble_eq_true rfl) (Nat.le_of_ble_eq_true rfl) (Nat.le_of_ble_eq_true rfl) hlocks (fun t hvm hz1 hq => ⟨⟨_, ?_, hm.kept hq⟩, ⟨Nat.le_trans hS.1 hz1, fun q h1 h2 => (hq q (Nat.lt_of_lt_of_le h1 hS.1)).trans (hS.2.1 q h1 h2)⟩⟩) hS.2.2 (Nat.le_of_ble_eq_true rfl) (Nat.le_of_ble_eq_true rfl)
    exact ⟨by simp, _, hT, hE⟩

set_option maxHeartbeats 4000000 in
set_option maxRecDepth 100000 in
theorem t_X4_takeOut_I (l : Launch) (D : va_G) (k : Nat → ClassId) (z : Nat) (M : mM) (κ : Nat → Option KD) (h0 : Nat) (a0 : Int32) (hk_h0 : κ h0 = some .tree) (hT : TM k κ M) : mK l yX4_takeOut wsX4_takeOut ({ frames := 1, cells := 0, slots := 0, locals := 23 }) D k z [.ref h0, .int a0] M (fun v M' => ∃ κ', TM k κ' M' ∧ kx κ M κ' M' ∧ v = none) := by
  refine Met.ofW (cc := cX4_takeOut) (maxL := 4) (ret := none) (by decide) rfl ?_
  intro p e s m args below meth c s₁ B hml hv
  obtain ⟨rfl, hz, hcx, hm⟩ := hv
  have hx := B.exec
  have hb := B.bytes
  have hr := B.returns
  have hts := atoms_spec (ws := wsX4_takeOut) B.pre
  have hown : s.vm.findClass RX4 = some m.cls := findClass_of_methodNamed B.named
  have hlocks := B.notSynchronized
  have hK := hcx.1
  have hS : va_S (AZ z) s.heap s.heap [] := va_S.rf
  have hA : ∀ q, s.heap.size ≤ q → AZ z q := fun q h => Nat.le_trans hz h
  have hl := lv_entry ([.ref h0, .int a0]) (n := 4) (Nat.le_of_ble_eq_true rfl)
  rw [lg_entry_eq]
  generalize (lg_sl ([.ref h0, .int a0]) ++ List.replicate (4 - (lg_sl ([.ref h0, .int a0])).length) Slot.unset).toArray = ls at hl ⊢
  have hl : lv_has ls 4 [(0, .ref h0), (1, .int a0)] := hl
  have f11 := hts (.fieldLink RX4 11 "CommitTree$Tree" "nodes" "[LCommitTree$Node;") (by decide +kernel)
  have f17 := hts (.fieldLink RX4 17 "CommitTree$Tree" "size" "I") (by decide +kernel)
  have wX4 : ∀ w ∈ wsX40, w ∈ wsX4_takeOut := by decide +kernel
  have hT0 := hT
  have hE : kx κ M κ M := kx.refl _ _
  refine lv_aload_n hx hb dX4_takeOut_0 rfl (lv_at hl 0 rfl) ?_
  refine lv_iload_n hx hb dX4_takeOut_1 rfl (lv_at hl 1 rfl) ?_
  obtain ⟨v0_1, v1_1, hM_h0_1, hk_v0_1, hn_v1_1⟩ := hT.tree hk_h0
  refine m_kV (As := [.int a0]) (rest := []) (rm := { frames := 0, cells := 0, slots := 0, locals := 0 }) ⟨hx, hb, hml, hown, hts⟩ (t_X4_placeOf_I l D k z _ _ h0 a0 hk_h0 hT) (cwV 1 hts gX4_takeOut_X4_placeOf rfl rfl rfl (by decide +kernel) ⟨Nat.le_of_ble_eq_true rfl, Nat.le_of_ble_eq_true rfl⟩) (m_recv hK hm (q := (RX4, TX4, 2)) rfl hM_h0_1) hz hcx hm hS rfl hl.1 rfl (Nat.le_of_ble_eq_true rfl) dX4_takeOut_2 ⟨Nat.le_of_ble_eq_true rfl, Nat.le_of_ble_eq_true rfl⟩ (fun v M1 H locs hv hm hS => ?_)
  obtain ⟨hv1, hM1⟩ := hv
  rw [hM1] at hm
  obtain ⟨w2, hv1⟩ := hv1
  subst hv1
  refine W.eq (g2 := F0 m 5 ls [.int w2]) rfl ?_
  refine W.widen (k := 0) (n := 0) (Nat.le_of_ble_eq_true rfl) (Nat.le_of_ble_eq_true rfl) ?_
  have hm : mm D (AZ z) M H := hm
  refine lv_istore_n (lv' := [(2, .int w2), (0, .ref h0), (1, .int a0)]) hx hb dX4_takeOut_5 rfl hl (by decide) rfl (fun ls hl => ?_)
  refine lv_aload_n hx hb dX4_takeOut_6 rfl (lv_at hl 1 rfl) ?_
  refine lv_aload_n hx hb dX4_takeOut_7 rfl (lv_at hl 1 rfl) ?_
  refine m_get (T := TX4) (N := 2) (ci := 4) (v := .int (nI v1_1)) hx hb hts wX4 hown hK hm hM_h0_1 rfl 1 (by decide) f17 (fun _ h9 => h9) rfl dX4_takeOut_8 ?_
  refine lv_iconst (v := 1) hx hb dX4_takeOut_11 (by decide) ?_
  refine lv_isub hx hb dX4_takeOut_12 ?_
  refine m_kV (As := [.int ((nI v1_1) - 1)]) (rest := []) (rm := { frames := 0, cells := 0, slots := 0, locals := 0 }) ⟨hx, hb, hml, hown, hts⟩ (t_X4_at_I l D k z _ _ h0 ((nI v1_1) - 1) hk_h0 hT) (cwV 1 hts gX4_takeOut_X4_at rfl rfl rfl (by decide +kernel) ⟨Nat.le_of_ble_eq_true rfl, Nat.le_of_ble_eq_true rfl⟩) (m_recv hK hm (q := (RX4, TX4, 2)) rfl hM_h0_1) hz hcx hm hS rfl hl.1 rfl (Nat.le_of_ble_eq_true rfl) dX4_takeOut_13 ⟨Nat.le_of_ble_eq_true rfl, Nat.le_of_ble_eq_true rfl⟩ (fun v M1 H locs hv hm hS => ?_)
  obtain ⟨hv1, hM1⟩ := hv
  rw [hM1] at hm
  rcases hv1 with hv1 | ⟨x3, hv1, hk_x3, hx9⟩
  · subst hv1
    refine W.eq (g2 := F0 m 16 ls [.null]) rfl ?_
    refine W.widen (k := 0) (n := 0) (Nat.le_of_ble_eq_true rfl) (Nat.le_of_ble_eq_true rfl) ?_
    have hm : mm D (AZ z) M H := hm
    refine lv_astore_nN (lv' := [(3, .null), (2, .int w2), (0, .ref h0), (1, .int a0)]) hx hb dX4_takeOut_16 rfl hl (by decide) rfl (fun ls hl => ?_)
    refine lv_iload_n hx hb dX4_takeOut_17 rfl (lv_at hl 1 rfl) ?_
    refine lv_if_lt (tgt := 51) hx hb dX4_takeOut_18 (by decide) (fun c4 => ?_) (fun c4 => ?_)
    · refine W.vret hx hb hr (fun t ht hW => ⟨⟨none, _, rfl, ?_, by rw [ht]; exact hm⟩, hS.F ht⟩) hS.2.2 dX4_takeOut_51
      exact ⟨_, hT, hE, rfl⟩
    · refine lv_iload_n hx hb dX4_takeOut_21 rfl (lv_at hl 1 rfl) ?_
      refine lv_aload_n hx hb dX4_takeOut_22 rfl (lv_at hl 2 rfl) ?_
      refine m_get (T := TX4) (N := 2) (ci := 4) (v := .ref v0_1) hx hb hts wX4 hown hK hm hM_h0_1 rfl 0 (by decide) f11 (fun _ h9 => h9) rfl dX4_takeOut_23 ?_
      obtain ⟨g_5, hM_v0_1_5, hg_5⟩ := hT.rows hk_v0_1
      refine m_alen hx hb hK hm 3 hM_v0_1_5 rfl (v := nI 60) rfl dX4_takeOut_26 ?_
      refine lv_icmp_ge (tgt := 51) hx hb dX4_takeOut_27 (by decide) (fun c6 => ?_) (fun c6 => ?_)
      · refine W.vret hx hb hr (fun t ht hW => ⟨⟨none, _, rfl, ?_, by rw [ht]; exact hm⟩, hS.F ht⟩) hS.2.2 dX4_takeOut_51
        exact ⟨_, hT, hE, rfl⟩
      · refine lv_aload_nN hx hb dX4_takeOut_30 rfl (lv_at hl 0 rfl) ?_
        refine lv_ifnullN (tgt := 51) hx hb dX4_takeOut_31 (by decide) ?_
        refine W.vret hx hb hr (fun t ht hW => ⟨⟨none, _, rfl, ?_, by rw [ht]; exact hm⟩, hS.F ht⟩) hS.2.2 dX4_takeOut_51
        exact ⟨_, hT, hE, rfl⟩
  · subst hv1
    refine W.eq (g2 := F0 m 16 ls [.ref x3]) rfl ?_
    refine W.widen (k := 0) (n := 0) (Nat.le_of_ble_eq_true rfl) (Nat.le_of_ble_eq_true rfl) ?_
    have hm : mm D (AZ z) M H := hm
    refine lv_astore_n (lv' := [(3, .ref x3), (2, .int w2), (0, .ref h0), (1, .int a0)]) hx hb dX4_takeOut_16 rfl hl (by decide) rfl (fun ls hl => ?_)
    refine lv_iload_n hx hb dX4_takeOut_17 rfl (lv_at hl 1 rfl) ?_
    refine lv_if_lt (tgt := 51) hx hb dX4_takeOut_18 (by decide) (fun c7 => ?_) (fun c7 => ?_)
    · refine W.vret hx hb hr (fun t ht hW => ⟨⟨none, _, rfl, ?_, by rw [ht]; exact hm⟩, hS.F ht⟩) hS.2.2 dX4_takeOut_51
      exact ⟨_, hT, hE, rfl⟩
    · refine lv_iload_n hx hb dX4_takeOut_21 rfl (lv_at hl 1 rfl) ?_
      refine lv_aload_n hx hb dX4_takeOut_22 rfl (lv_at hl 2 rfl) ?_
      refine m_get (T := TX4) (N := 2) (ci := 4) (v := .ref v0_1) hx hb hts wX4 hown hK hm hM_h0_1 rfl 0 (by decide) f11 (fun _ h9 => h9) rfl dX4_takeOut_23 ?_
      obtain ⟨g_8, hM_v0_1_8, hg_8⟩ := hT.rows hk_v0_1
      refine m_alen hx hb hK hm 3 hM_v0_1_8 rfl (v := nI 60) rfl dX4_takeOut_26 ?_
      refine lv_icmp_ge (tgt := 51) hx hb dX4_takeOut_27 (by decide) (fun c9 => ?_) (fun c9 => ?_)
      · refine W.vret hx hb hr (fun t ht hW => ⟨⟨none, _, rfl, ?_, by rw [ht]; exact hm⟩, hS.F ht⟩) hS.2.2 dX4_takeOut_51
        exact ⟨_, hT, hE, rfl⟩
      · refine lv_aload_n hx hb dX4_takeOut_30 rfl (lv_at hl 0 rfl) ?_
        refine lv_ifnull hx hb dX4_takeOut_31 ?_
        refine lv_aload_n hx hb dX4_takeOut_34 rfl (lv_at hl 2 rfl) ?_
        refine m_get (T := TX4) (N := 2) (ci := 4) (v := .ref v0_1) hx hb hts wX4 hown hK hm hM_h0_1 rfl 0 (by decide) f11 (fun _ h9 => h9) rfl dX4_takeOut_35 ?_
        refine lv_iload_n hx hb dX4_takeOut_38 rfl (lv_at hl 1 rfl) ?_
        refine lv_aload_n hx hb dX4_takeOut_39 rfl (lv_at hl 0 rfl) ?_
        obtain ⟨v0_10, v1_10, v2_10, v3_10, hM_x3_10, hz_v1_10, hk_v3_10⟩ := hT.node hk_x3
        refine m_aast (r := (RX2, TX2, 4)) hx hb hK hm hS 3 2 hM_v0_1_8 rfl hM_x3_10 rfl (in_of (i := w2) (n := 60) (by first | assumption | exact nI_pos (by omega)) (by assumption) (by first | decide | omega)) dX4_takeOut_40 (fun H locs hm hS => ?_)
        have hm : mm D (AZ z) (mu M v0_1 (.inl (k 3, 60, .inr (.inr (.inr (.inr (va_up g_8 w2.toNatClampNeg (some x3)))))))) H := hm
        have hR_11 : (mu M v0_1 (.inl (k 3, 60, .inr (.inr (.inr (.inr (va_up g_8 w2.toNatClampNeg (some x3)))))))) h0 = _ := (mu_ne (kd_ne hk_h0 hk_v0_1 (by decide))).trans hM_h0_1
        have hR_12 : (mu M v0_1 (.inl (k 3, 60, .inr (.inr (.inr (.inr (va_up g_8 w2.toNatClampNeg (some x3)))))))) x3 = _ := (mu_ne (kd_ne hk_x3 hk_v0_1 (by decide))).trans hM_x3_10
        have hT : TM k κ (mu M v0_1 (.inl (k 3, 60, .inr (.inr (.inr (.inr (va_up g_8 w2.toNatClampNeg (some x3)))))))) := hT.put hk_v0_1 (show wf k κ .rows (.inl (k 3, 60, .inr (.inr (.inr (.inr (va_up g_8 w2.toNatClampNeg (some x3))))))) from ⟨(va_up g_8 w2.toNatClampNeg (some x3)), rfl, fun j9 a9 h9 => by
          by_cases hj9 : j9 = w2.toNatClampNeg
          · rw [hj9, va_up_self] at h9; cases h9; exact hk_x3
          · rw [va_up_ne _ _ hj9] at h9; exact hg_8 _ _ h9⟩)
        have hE : kx κ M κ (mu M v0_1 (.inl (k 3, 60, .inr (.inr (.inr (.inr (va_up g_8 w2.toNatClampNeg (some x3)))))))) := hE.put hk_v0_1
        generalize (mu M v0_1 (.inl (k 3, 60, .inr (.inr (.inr (.inr (va_up g_8 w2.toNatClampNeg (some x3)))))))) = Mc1 at hm hT hE hR_11 hR_12
        refine lv_aload_n hx hb dX4_takeOut_41 rfl (lv_at hl 2 rfl) ?_
        refine lv_dup hx hb dX4_takeOut_42 rfl ?_
        refine m_get (T := TX4) (N := 2) (ci := 4) (v := .int (nI v1_1)) hx hb hts wX4 hown hK hm hR_11 rfl 1 (by decide) f17 (fun _ h9 => h9) rfl dX4_takeOut_43 ?_
        refine lv_iconst (v := 1) hx hb dX4_takeOut_46 (by decide) ?_
        refine lv_isub hx hb dX4_takeOut_47 ?_
        have hpos := sz_pos hx9
        refine m_put (T := TX4) (N := 2) (ci := 4) (v := .int ((nI v1_1) - 1)) (ty := .int) hx hb hts wX4 tyX4 tyX4_ok nmX4 hown hK hm hS hR_11 rfl 1 (by decide) f17 (fun _ h9 => h9) rfl (by decide +kernel) rfl rfl (Nat.le_of_ble_eq_true rfl) dX4_takeOut_48 (fun H locs hm hS => ?_)
        have hm : mm D (AZ z) (mu Mc1 h0 (.inr (4, [.ref v0_1, .int ((nI v1_1) - 1)]))) H := hm
        have hR_13 : (mu Mc1 h0 (.inr (4, [.ref v0_1, .int ((nI v1_1) - 1)]))) x3 = _ := (mu_ne (kd_ne hk_x3 hk_h0 (by decide))).trans hR_12
        have hT : TM k κ (mu Mc1 h0 (.inr (4, [.ref v0_1, .int ((nI v1_1) - 1)]))) := hT.put hk_h0 (show wf k κ .tree (.inr (4, [.ref v0_1, .int ((nI v1_1) - 1)])) from ⟨v0_1, (v1_1 - 1), (by rw [show (1 : Int32) = nI 1 from rfl, pk_sub (by omega)]), hk_v0_1, (by omega)⟩)
        have hE : kx κ M κ (mu Mc1 h0 (.inr (4, [.ref v0_1, .int ((nI v1_1) - 1)]))) := hE.put hk_h0
        generalize (mu Mc1 h0 (.inr (4, [.ref v0_1, .int ((nI v1_1) - 1)]))) = Mc2 at hm hT hE hR_13
        refine W.vret hx hb hr (fun t ht hW => ⟨⟨none, _, rfl, ?_, by rw [ht]; exact hm⟩, hS.F ht⟩) hS.2.2 dX4_takeOut_51
        exact ⟨_, hT, hE, rfl⟩

set_option maxHeartbeats 4000000 in
set_option maxRecDepth 100000 in
theorem t_X3_namesOf_R (l : Launch) (D : va_G) (k : Nat → ClassId) (z : Nat) (M : mM) (κ : Nat → Option KD) (h0 : Nat) (r0 : Nat) (hk_h0 : κ h0 = some .txn) (hk_r0 : κ r0 = some .node) (hT : TM k κ M) : mK l yX3_namesOf wsX3_namesOf ({ frames := 1, cells := 0, slots := 0, locals := 23 }) D k z [.ref h0, .ref r0] M (fun v M' => ∃ κ', TM k κ' M' ∧ kx κ M κ' M' ∧ ∃ x, v = some (.int x)) := by
  refine Met.ofW (cc := cX3_namesOf) (maxL := 7) (ret := (some .int)) (by decide) rfl ?_
  intro p e s m args below meth c s₁ B hml hv
  obtain ⟨rfl, hz, hcx, hm⟩ := hv
  have hx := B.exec
  have hb := B.bytes
  have hr := B.returns
  have hts := atoms_spec (ws := wsX3_namesOf) B.pre
  have hown : s.vm.findClass RX3 = some m.cls := findClass_of_methodNamed B.named
  have hlocks := B.notSynchronized
  have hK := hcx.1
  have hS : va_S (AZ z) s.heap s.heap [] := va_S.rf
  have hA : ∀ q, s.heap.size ≤ q → AZ z q := fun q h => Nat.le_trans hz h
  have hl := lv_entry ([.ref h0, .ref r0]) (n := 7) (Nat.le_of_ble_eq_true rfl)
  rw [lg_entry_eq]
  generalize (lg_sl ([.ref h0, .ref r0]) ++ List.replicate (7 - (lg_sl ([.ref h0, .ref r0])).length) Slot.unset).toArray = ls at hl ⊢
  have hl : lv_has ls 7 [(0, .ref h0), (1, .ref r0)] := hl
  have f12 := hts (.fieldLink RX3 12 "CommitTree$Transaction" "base" "LCommitTree$Tree;") (by decide +kernel)
  have f26 := hts (.fieldLink RX3 26 "CommitTree$Transaction" "factsRead" "[J") (by decide +kernel)
  have f71 := hts (.fieldLink RX3 71 "CommitTree$Node" "id" "I") (by decide +kernel)
  have wX2 : ∀ w ∈ wsX20, w ∈ wsX3_namesOf := by decide +kernel
  have wX3 : ∀ w ∈ wsX30, w ∈ wsX3_namesOf := by decide +kernel
  have hT0 := hT
  have hE : kx κ M κ M := kx.refl _ _
  refine lv_aload_n hx hb dX3_namesOf_0 rfl (lv_at hl 0 rfl) ?_
  obtain ⟨v0_1, v1_1, v2_1, v3_1, v4_1, v5_1, v6_1, hM_h0_1, hk_v0_1, hk_v1_1, hk_v2_1, hk_v3_1, hk_v4_1, hz_v5_1⟩ := hT.txn hk_h0
  refine m_get (T := TX3) (N := 7) (ci := 3) (v := .ref v0_1) hx hb hts wX3 hown hK hm hM_h0_1 rfl 0 (by decide) f12 (fun _ h9 => h9) rfl dX3_namesOf_1 ?_
  refine lv_aload_n hx hb dX3_namesOf_4 rfl (lv_at hl 1 rfl) ?_
  obtain ⟨v0_2, v1_2, v2_2, v3_2, hM_r0_2, hz_v1_2, hk_v3_2⟩ := hT.node hk_r0
  refine m_get (T := TX2) (N := 4) (ci := 2) (v := .int v0_2) hx hb hts wX2 hown hK hm hM_r0_2 rfl 0 (by decide) f71 (fun _ h9 => h9) rfl dX3_namesOf_5 ?_
  obtain ⟨v0_3, v1_3, hM_v0_1_3, hk_v0_3, hn_v1_3⟩ := hT.tree hk_v0_1
  refine m_kV (As := [.int v0_2]) (rest := []) (rm := { frames := 0, cells := 0, slots := 0, locals := 0 }) ⟨hx, hb, hml, hown, hts⟩ (t_X4_placeOf_I l D k z _ _ v0_1 v0_2 hk_v0_1 hT) (cwV 1 hts gX3_namesOf_X4_placeOf rfl rfl rfl (by decide +kernel) ⟨Nat.le_of_ble_eq_true rfl, Nat.le_of_ble_eq_true rfl⟩) (m_recv hK hm (q := (RX4, TX4, 2)) rfl hM_v0_1_3) hz hcx hm hS rfl hl.1 rfl (Nat.le_of_ble_eq_true rfl) dX3_namesOf_8 ⟨Nat.le_of_ble_eq_true rfl, Nat.le_of_ble_eq_true rfl⟩ (fun v M1 H locs hv hm hS => ?_)
  obtain ⟨hv1, hM1⟩ := hv
  rw [hM1] at hm
  obtain ⟨w4, hv1⟩ := hv1
  subst hv1
  refine W.eq (g2 := F0 m 11 ls [.int w4]) rfl ?_
  refine W.widen (k := 0) (n := 0) (Nat.le_of_ble_eq_true rfl) (Nat.le_of_ble_eq_true rfl) ?_
  have hm : mm D (AZ z) M H := hm
  refine lv_istore_n (lv' := [(2, .int w4), (0, .ref h0), (1, .ref r0)]) hx hb dX3_namesOf_11 rfl hl (by decide) rfl (fun ls hl => ?_)
  refine lv_aload_n hx hb dX3_namesOf_12 rfl (lv_at hl 1 rfl) ?_
  refine m_get (T := TX3) (N := 7) (ci := 3) (v := .ref v0_1) hx hb hts wX3 hown hK hm hM_h0_1 rfl 0 (by decide) f12 (fun _ h9 => h9) rfl dX3_namesOf_13 ?_
  refine lv_iload_n hx hb dX3_namesOf_16 rfl (lv_at hl 0 rfl) ?_
  refine m_kV (As := [.int w4]) (rest := []) (rm := { frames := 0, cells := 0, slots := 0, locals := 0 }) ⟨hx, hb, hml, hown, hts⟩ (t_X4_at_I l D k z _ _ v0_1 w4 hk_v0_1 hT) (cwV 1 hts gX3_namesOf_X4_at rfl rfl rfl (by decide +kernel) ⟨Nat.le_of_ble_eq_true rfl, Nat.le_of_ble_eq_true rfl⟩) (m_recv hK hm (q := (RX4, TX4, 2)) rfl hM_v0_1_3) hz hcx hm hS rfl hl.1 rfl (Nat.le_of_ble_eq_true rfl) dX3_namesOf_17 ⟨Nat.le_of_ble_eq_true rfl, Nat.le_of_ble_eq_true rfl⟩ (fun v M1 H locs hv hm hS => ?_)
  obtain ⟨hv1, hM1⟩ := hv
  rw [hM1] at hm
  rcases hv1 with hv1 | ⟨x5, hv1, hk_x5, hx9⟩
  · subst hv1
    refine W.eq (g2 := F0 m 20 ls [.null]) rfl ?_
    refine W.widen (k := 0) (n := 0) (Nat.le_of_ble_eq_true rfl) (Nat.le_of_ble_eq_true rfl) ?_
    have hm : mm D (AZ z) M H := hm
    refine lv_astore_nN (lv' := [(3, .null), (2, .int w4), (0, .ref h0), (1, .ref r0)]) hx hb dX3_namesOf_20 rfl hl (by decide) rfl (fun ls hl => ?_)
    refine lv_iconst (v := 0) hx hb dX3_namesOf_21 (by decide) ?_
    refine lv_istore (lv' := [(4, .int 0), (3, .null), (2, .int w4), (0, .ref h0), (1, .ref r0)]) hx hb dX3_namesOf_22 hl (by decide) rfl (fun ls hl => ?_)
    refine lv_iconst (v := 1) hx hb dX3_namesOf_24 (by decide) ?_
    refine lv_istore (lv' := [(5, .int 1), (4, .int 0), (3, .null), (2, .int w4), (0, .ref h0), (1, .ref r0)]) hx hb dX3_namesOf_25 hl (by decide) rfl (fun ls hl => ?_)
    refine W_loop (σ := Nat × Int32 × (Nat → Option KD) × mM) (fun ⟨j6, y7, K27, M27⟩ H locs ls => (j6 < 2147483648) ∧ (TM k K27 M27) ∧ (kx κ M K27 M27) ∧ (K27 h0 = some .txn) ∧ (K27 r0 = some .node) ∧ mm D (AZ z) M27 H ∧ va_S (AZ z) s.heap H locs ∧ lv_has ls 7 [(5, .int (nI j6)), (4, .int y7), (3, .null), (2, .int w4), (0, .ref h0), (1, .ref r0)]) (fun ⟨j6, y7, K27, M27⟩ => 2147483648 - j6) (fun ⟨j6, y7, K27, M27⟩ => 0) (fun ⟨j6, y7, K27, M27⟩ => 0) ?_ (1, 0, κ, M) _ _ _ ⟨(by decide), hT, hE, hk_h0, hk_r0, hm, hS, lv_sub hl [0, 1, 2, 3, 4, 5] rfl⟩
    intro ⟨j6, y7, K27, M27⟩ H locs ls hQ ih27
    obtain ⟨hbj6, hT, hE, hk_h0, hk_r0, hm, hS, hl⟩ := hQ
    try dsimp only at hm hl ih27 hbj6 hT hE hk_h0 hk_r0 ⊢
    refine lv_iload hx hb dX3_namesOf_27 (lv_at hl 0 rfl) ?_
    refine lv_bipush (v := 15) hx hb dX3_namesOf_29 (by decide) ?_
    refine lv_icmp_gt (tgt := 103) hx hb dX3_namesOf_31 (by decide) (fun c8 => ?_) (fun c8 => ?_)
    · refine lv_iload hx hb dX3_namesOf_103 (lv_at hl 1 rfl) ?_
      refine W.iret (v := y7) hx hb hr (fun t ht hW => ⟨⟨some (.int y7), _, rfl, ?_, by rw [ht]; exact hm⟩, hS.F ht⟩) hS.2.2 dX3_namesOf_105
      exact ⟨_, hT, hE, ⟨_, rfl⟩⟩
    · refine lv_aload_n hx hb dX3_namesOf_34 rfl (lv_at hl 5 rfl) ?_
      refine lv_iload hx hb dX3_namesOf_35 (lv_at hl 0 rfl) ?_
      obtain ⟨v0_9, v1_9, v2_9, v3_9, hM_r0_9, hz_v1_9, hk_v3_9⟩ := hT.node hk_r0
      refine m_kV (As := [.int (nI j6)]) (rest := []) (rm := { frames := 0, cells := 0, slots := 0, locals := 0 }) ⟨hx, hb, hml, hown, hts⟩ (t_X2_cell_I l D k z _ _ r0 (nI j6) hk_r0 hT) (cwV 1 hts gX3_namesOf_X2_cell rfl rfl rfl (by decide +kernel) ⟨Nat.le_of_ble_eq_true rfl, Nat.le_of_ble_eq_true rfl⟩) (m_recv hK hm (q := (RX2, TX2, 4)) rfl hM_r0_9) hz hcx hm hS rfl hl.1 rfl (Nat.le_of_ble_eq_true rfl) dX3_namesOf_37 ⟨Nat.le_of_ble_eq_true rfl, Nat.le_of_ble_eq_true rfl⟩ (fun v M1 H locs hv hm hS => ?_)
      obtain ⟨hv1, hM1⟩ := hv
      rw [hM1] at hm
      obtain ⟨w10, hv1⟩ := hv1
      subst hv1
      refine W.eq (g2 := F0 m 40 ls [.int w10]) rfl ?_
      refine W.widen (k := 0) (n := 0) (Nat.le_of_ble_eq_true rfl) (Nat.le_of_ble_eq_true rfl) ?_
      have hm : mm D (AZ z) M27 H := hm
      refine lv_if_eq (tgt := 47) hx hb dX3_namesOf_40 (by decide) (fun c11 => ?_) (fun c11 => ?_)
      · refine lv_iconst (v := 0) hx hb dX3_namesOf_47 (by decide) ?_
        refine lv_istore (lv' := [(6, .int 0), (5, .int (nI j6)), (4, .int y7), (3, .null), (2, .int w4), (0, .ref h0), (1, .ref r0)]) hx hb dX3_namesOf_48 hl (by decide) rfl (fun ls hl => ?_)
        refine lv_iload hx hb dX3_namesOf_50 (lv_at hl 0 rfl) ?_
        refine lv_if_eq (tgt := 64) hx hb dX3_namesOf_52 (by decide) (fun c12 => ?_) (fun c12 => ?_)
        · refine lv_aload_nN hx hb dX3_namesOf_64 rfl (lv_at hl 3 rfl) ?_
          refine lv_ifnullN (tgt := 97) hx hb dX3_namesOf_65 (by decide) ?_
          refine lv_iinc (v := ((nI j6) + 1)) (lv' := [(5, .int ((nI j6) + 1)), (6, .int 0), (4, .int y7), (3, .null), (2, .int w4), (0, .ref h0), (1, .ref r0)]) hx hb dX3_namesOf_97 hl (k := 1) rfl rfl (by decide) rfl (fun ls hl => ?_)
          refine lv_goto (tgt := 27) hx hb dX3_namesOf_100 (by decide) ?_
          rw [nI_1] at hl
          exact ih27 (j6 + 1, y7, K27, M27) _ _ _ ⟨(by first | exact nI_up hbj6 c8 | exact nI_up2 (by decide) hbj6 c8), hT, hE, hk_h0, hk_r0, hm, hS, lv_sub hl [0, 2, 3, 4, 5, 6] rfl⟩ (by show 2147483648 - (j6 + 1) < 2147483648 - j6; omega)
        · first | exact absurd c12 (by decide) | exact absurd (by decide) c12
      · refine lv_iconst (v := 1) hx hb dX3_namesOf_43 (by decide) ?_
        refine lv_goto (tgt := 48) hx hb dX3_namesOf_44 (by decide) ?_
        refine lv_istore (lv' := [(6, .int 1), (5, .int (nI j6)), (4, .int y7), (3, .null), (2, .int w4), (0, .ref h0), (1, .ref r0)]) hx hb dX3_namesOf_48 hl (by decide) rfl (fun ls hl => ?_)
        refine lv_iload hx hb dX3_namesOf_50 (lv_at hl 0 rfl) ?_
        refine lv_if_eq (tgt := 64) hx hb dX3_namesOf_52 (by decide) (fun c13 => ?_) (fun c13 => ?_)
        · first | exact absurd c13 (by decide) | exact absurd (by decide) c13
        · refine lv_iload hx hb dX3_namesOf_55 (lv_at hl 2 rfl) ?_
          refine lv_iconst (v := 1) hx hb dX3_namesOf_57 (by decide) ?_
          refine lv_iload hx hb dX3_namesOf_58 (lv_at hl 1 rfl) ?_
          refine lv_ishl hx hb dX3_namesOf_60 ?_
          refine lv_ior hx hb dX3_namesOf_61 ?_
          refine lv_istore (lv' := [(4, .int (y7 ||| (1 <<< ((nI j6) &&& 31)))), (6, .int 1), (5, .int (nI j6)), (3, .null), (2, .int w4), (0, .ref h0), (1, .ref r0)]) hx hb dX3_namesOf_62 hl (by decide) rfl (fun ls hl => ?_)
          refine lv_aload_nN hx hb dX3_namesOf_64 rfl (lv_at hl 3 rfl) ?_
          refine lv_ifnullN (tgt := 97) hx hb dX3_namesOf_65 (by decide) ?_
          refine lv_iinc (v := ((nI j6) + 1)) (lv' := [(5, .int ((nI j6) + 1)), (4, .int (y7 ||| (1 <<< ((nI j6) &&& 31)))), (6, .int 1), (3, .null), (2, .int w4), (0, .ref h0), (1, .ref r0)]) hx hb dX3_namesOf_97 hl (k := 2) rfl rfl (by decide) rfl (fun ls hl => ?_)
          refine lv_goto (tgt := 27) hx hb dX3_namesOf_100 (by decide) ?_
          rw [nI_1] at hl
          exact ih27 (j6 + 1, (y7 ||| (1 <<< ((nI j6) &&& 31))), K27, M27) _ _ _ ⟨(by first | exact nI_up hbj6 c8 | exact nI_up2 (by decide) hbj6 c8), hT, hE, hk_h0, hk_r0, hm, hS, lv_sub hl [0, 1, 3, 4, 5, 6] rfl⟩ (by show 2147483648 - (j6 + 1) < 2147483648 - j6; omega)
  · subst hv1
    refine W.eq (g2 := F0 m 20 ls [.ref x5]) rfl ?_
    refine W.widen (k := 0) (n := 0) (Nat.le_of_ble_eq_true rfl) (Nat.le_of_ble_eq_true rfl) ?_
    have hm : mm D (AZ z) M H := hm
    refine lv_astore_n (lv' := [(3, .ref x5), (2, .int w4), (0, .ref h0), (1, .ref r0)]) hx hb dX3_namesOf_20 rfl hl (by decide) rfl (fun ls hl => ?_)
    refine lv_iconst (v := 0) hx hb dX3_namesOf_21 (by decide) ?_
    refine lv_istore (lv' := [(4, .int 0), (3, .ref x5), (2, .int w4), (0, .ref h0), (1, .ref r0)]) hx hb dX3_namesOf_22 hl (by decide) rfl (fun ls hl => ?_)
    refine lv_iconst (v := 1) hx hb dX3_namesOf_24 (by decide) ?_
    refine lv_istore (lv' := [(5, .int 1), (4, .int 0), (3, .ref x5), (2, .int w4), (0, .ref h0), (1, .ref r0)]) hx hb dX3_namesOf_25 hl (by decide) rfl (fun ls hl => ?_)
    refine W_loop (σ := Nat × Int32 × (Nat → Option KD) × mM) (fun ⟨j14, y15, K27, M27⟩ H locs ls => (j14 < 2147483648) ∧ (TM k K27 M27) ∧ (kx κ M K27 M27) ∧ (K27 x5 = some .node) ∧ (K27 h0 = some .txn) ∧ (K27 r0 = some .node) ∧ mm D (AZ z) M27 H ∧ va_S (AZ z) s.heap H locs ∧ lv_has ls 7 [(5, .int (nI j14)), (4, .int y15), (3, .ref x5), (2, .int w4), (0, .ref h0), (1, .ref r0)]) (fun ⟨j14, y15, K27, M27⟩ => 2147483648 - j14) (fun ⟨j14, y15, K27, M27⟩ => 0) (fun ⟨j14, y15, K27, M27⟩ => 0) ?_ (1, 0, κ, M) _ _ _ ⟨(by decide), hT, hE, hk_x5, hk_h0, hk_r0, hm, hS, lv_sub hl [0, 1, 2, 3, 4, 5] rfl⟩
    intro ⟨j14, y15, K27, M27⟩ H locs ls hQ ih27
    obtain ⟨hbj14, hT, hE, hk_x5, hk_h0, hk_r0, hm, hS, hl⟩ := hQ
    try dsimp only at hm hl ih27 hbj14 hT hE hk_x5 hk_h0 hk_r0 ⊢
    refine lv_iload hx hb dX3_namesOf_27 (lv_at hl 0 rfl) ?_
    refine lv_bipush (v := 15) hx hb dX3_namesOf_29 (by decide) ?_
    refine lv_icmp_gt (tgt := 103) hx hb dX3_namesOf_31 (by decide) (fun c16 => ?_) (fun c16 => ?_)
    · refine lv_iload hx hb dX3_namesOf_103 (lv_at hl 1 rfl) ?_
      refine W.iret (v := y15) hx hb hr (fun t ht hW => ⟨⟨some (.int y15), _, rfl, ?_, by rw [ht]; exact hm⟩, hS.F ht⟩) hS.2.2 dX3_namesOf_105
      exact ⟨_, hT, hE, ⟨_, rfl⟩⟩
    · refine lv_aload_n hx hb dX3_namesOf_34 rfl (lv_at hl 5 rfl) ?_
      refine lv_iload hx hb dX3_namesOf_35 (lv_at hl 0 rfl) ?_
      obtain ⟨v0_17, v1_17, v2_17, v3_17, hM_r0_17, hz_v1_17, hk_v3_17⟩ := hT.node hk_r0
      refine m_kV (As := [.int (nI j14)]) (rest := []) (rm := { frames := 0, cells := 0, slots := 0, locals := 0 }) ⟨hx, hb, hml, hown, hts⟩ (t_X2_cell_I l D k z _ _ r0 (nI j14) hk_r0 hT) (cwV 1 hts gX3_namesOf_X2_cell rfl rfl rfl (by decide +kernel) ⟨Nat.le_of_ble_eq_true rfl, Nat.le_of_ble_eq_true rfl⟩) (m_recv hK hm (q := (RX2, TX2, 4)) rfl hM_r0_17) hz hcx hm hS rfl hl.1 rfl (Nat.le_of_ble_eq_true rfl) dX3_namesOf_37 ⟨Nat.le_of_ble_eq_true rfl, Nat.le_of_ble_eq_true rfl⟩ (fun v M1 H locs hv hm hS => ?_)
      obtain ⟨hv1, hM1⟩ := hv
      rw [hM1] at hm
      obtain ⟨w18, hv1⟩ := hv1
      subst hv1
      refine W.eq (g2 := F0 m 40 ls [.int w18]) rfl ?_
      refine W.widen (k := 0) (n := 0) (Nat.le_of_ble_eq_true rfl) (Nat.le_of_ble_eq_true rfl) ?_
      have hm : mm D (AZ z) M27 H := hm
      refine lv_if_eq (tgt := 47) hx hb dX3_namesOf_40 (by decide) (fun c19 => ?_) (fun c19 => ?_)
      · refine lv_iconst (v := 0) hx hb dX3_namesOf_47 (by decide) ?_
        refine lv_istore (lv' := [(6, .int 0), (5, .int (nI j14)), (4, .int y15), (3, .ref x5), (2, .int w4), (0, .ref h0), (1, .ref r0)]) hx hb dX3_namesOf_48 hl (by decide) rfl (fun ls hl => ?_)
        refine lv_iload hx hb dX3_namesOf_50 (lv_at hl 0 rfl) ?_
        refine lv_if_eq (tgt := 64) hx hb dX3_namesOf_52 (by decide) (fun c20 => ?_) (fun c20 => ?_)
        · refine lv_aload_n hx hb dX3_namesOf_64 rfl (lv_at hl 3 rfl) ?_
          refine lv_ifnull hx hb dX3_namesOf_65 ?_
          refine lv_iload hx hb dX3_namesOf_68 (lv_at hl 0 rfl) ?_
          refine lv_aload_n hx hb dX3_namesOf_70 rfl (lv_at hl 3 rfl) ?_
          refine lv_iload hx hb dX3_namesOf_71 (lv_at hl 1 rfl) ?_
          obtain ⟨v0_21, v1_21, v2_21, v3_21, hM_x5_21, hz_v1_21, hk_v3_21⟩ := hT.node hk_x5
          refine m_kV (As := [.int (nI j14)]) (rest := [.int 0]) (rm := { frames := 0, cells := 0, slots := 0, locals := 0 }) ⟨hx, hb, hml, hown, hts⟩ (t_X2_cell_I l D k z _ _ x5 (nI j14) hk_x5 hT) (cwV 1 hts gX3_namesOf_X2_cell rfl rfl rfl (by decide +kernel) ⟨Nat.le_of_ble_eq_true rfl, Nat.le_of_ble_eq_true rfl⟩) (m_recv hK hm (q := (RX2, TX2, 4)) rfl hM_x5_21) hz hcx hm hS rfl hl.1 rfl (Nat.le_of_ble_eq_true rfl) dX3_namesOf_73 ⟨Nat.le_of_ble_eq_true rfl, Nat.le_of_ble_eq_true rfl⟩ (fun v M1 H locs hv hm hS => ?_)
          obtain ⟨hv1, hM1⟩ := hv
          rw [hM1] at hm
          obtain ⟨w22, hv1⟩ := hv1
          subst hv1
          refine W.eq (g2 := F0 m 76 ls [.int w22, .int 0]) rfl ?_
          refine W.widen (k := 0) (n := 0) (Nat.le_of_ble_eq_true rfl) (Nat.le_of_ble_eq_true rfl) ?_
          have hm : mm D (AZ z) M27 H := hm
          refine lv_if_eq (tgt := 83) hx hb dX3_namesOf_76 (by decide) (fun c23 => ?_) (fun c23 => ?_)
          · refine lv_iconst (v := 0) hx hb dX3_namesOf_83 (by decide) ?_
            refine lv_icmp_ne (tgt := 97) hx hb dX3_namesOf_84 (by decide) (fun c24 => ?_) (fun c24 => ?_)
            · first | exact absurd c24 (by decide) | exact absurd (by decide) c24
            · refine lv_aload_n hx hb dX3_namesOf_87 rfl (lv_at hl 5 rfl) ?_
              obtain ⟨v0_25, v1_25, v2_25, v3_25, v4_25, v5_25, v6_25, hM_h0_25, hk_v0_25, hk_v1_25, hk_v2_25, hk_v3_25, hk_v4_25, hz_v5_25⟩ := hT.txn hk_h0
              refine m_get (T := TX3) (N := 7) (ci := 3) (v := .ref v4_25) hx hb hts wX3 hown hK hm hM_h0_25 rfl 4 (by decide) f26 (fun _ h9 => h9) rfl dX3_namesOf_88 ?_
              refine lv_iload_n hx hb dX3_namesOf_91 rfl (lv_at hl 4 rfl) ?_
              refine lv_iload hx hb dX3_namesOf_92 (lv_at hl 1 rfl) ?_
              refine m_kS (As := [.ref v4_25, .int w4, .int (nI j14)]) (rest := []) (rm := { frames := 0, cells := 0, slots := 0, locals := 0 }) ⟨hx, hb, hml, hown, hts⟩ (t_X3_noteRead_RII l D k z _ _ v4_25 w4 (nI j14) hk_v4_25 hT) (cwS 3 hts gX3_namesOf_X3_noteRead rfl rfl rfl (by decide +kernel) ⟨Nat.le_of_ble_eq_true rfl, Nat.le_of_ble_eq_true rfl⟩) hz hcx hm hS rfl hl.1 rfl (Nat.le_of_ble_eq_true rfl) dX3_namesOf_94 ⟨Nat.le_of_ble_eq_true rfl, Nat.le_of_ble_eq_true rfl⟩ (fun v M1 H locs hv hm hS => ?_)
              obtain ⟨κ1, hT9, hE9, hv1⟩ := hv
              have hk_x5 := hE9.k hT hk_x5
              have hk_h0 := hE9.k hT hk_h0
              have hk_r0 := hE9.k hT hk_r0
              have hE := hE.trans hT0 hT hE9
              have hT := hT9
              obtain ⟨Mc1, hMx⟩ : ∃ x : mM, x = M1 := ⟨M1, rfl⟩
              subst hMx
              subst hv1
              refine W.eq (g2 := F0 m 97 ls []) rfl ?_
              refine W.widen (k := 0) (n := 0) (Nat.le_of_ble_eq_true rfl) (Nat.le_of_ble_eq_true rfl) ?_
              have hm : mm D (AZ z) Mc1 H := hm
              refine lv_iinc (v := ((nI j14) + 1)) (lv' := [(5, .int ((nI j14) + 1)), (6, .int 0), (4, .int y15), (3, .ref x5), (2, .int w4), (0, .ref h0), (1, .ref r0)]) hx hb dX3_namesOf_97 hl (k := 1) rfl rfl (by decide) rfl (fun ls hl => ?_)
              refine lv_goto (tgt := 27) hx hb dX3_namesOf_100 (by decide) ?_
              rw [nI_1] at hl
              exact ih27 (j14 + 1, y15, κ1, Mc1) _ _ _ ⟨(by first | exact nI_up hbj14 c16 | exact nI_up2 (by decide) hbj14 c16), hT, hE, hk_x5, hk_h0, hk_r0, hm, hS, lv_sub hl [0, 2, 3, 4, 5, 6] rfl⟩ (by show 2147483648 - (j14 + 1) < 2147483648 - j14; omega)
          · refine lv_iconst (v := 1) hx hb dX3_namesOf_79 (by decide) ?_
            refine lv_goto (tgt := 84) hx hb dX3_namesOf_80 (by decide) ?_
            refine lv_icmp_ne (tgt := 97) hx hb dX3_namesOf_84 (by decide) (fun c26 => ?_) (fun c26 => ?_)
            · refine lv_iinc (v := ((nI j14) + 1)) (lv' := [(5, .int ((nI j14) + 1)), (6, .int 0), (4, .int y15), (3, .ref x5), (2, .int w4), (0, .ref h0), (1, .ref r0)]) hx hb dX3_namesOf_97 hl (k := 1) rfl rfl (by decide) rfl (fun ls hl => ?_)
              refine lv_goto (tgt := 27) hx hb dX3_namesOf_100 (by decide) ?_
              rw [nI_1] at hl
              exact ih27 (j14 + 1, y15, K27, M27) _ _ _ ⟨(by first | exact nI_up hbj14 c16 | exact nI_up2 (by decide) hbj14 c16), hT, hE, hk_x5, hk_h0, hk_r0, hm, hS, lv_sub hl [0, 2, 3, 4, 5, 6] rfl⟩ (by show 2147483648 - (j14 + 1) < 2147483648 - j14; omega)
            · first | exact absurd c26 (by decide) | exact absurd (by decide) c26
        · first | exact absurd c20 (by decide) | exact absurd (by decide) c20
      · refine lv_iconst (v := 1) hx hb dX3_namesOf_43 (by decide) ?_
        refine lv_goto (tgt := 48) hx hb dX3_namesOf_44 (by decide) ?_
        refine lv_istore (lv' := [(6, .int 1), (5, .int (nI j14)), (4, .int y15), (3, .ref x5), (2, .int w4), (0, .ref h0), (1, .ref r0)]) hx hb dX3_namesOf_48 hl (by decide) rfl (fun ls hl => ?_)
        refine lv_iload hx hb dX3_namesOf_50 (lv_at hl 0 rfl) ?_
        refine lv_if_eq (tgt := 64) hx hb dX3_namesOf_52 (by decide) (fun c27 => ?_) (fun c27 => ?_)
        · first | exact absurd c27 (by decide) | exact absurd (by decide) c27
        · refine lv_iload hx hb dX3_namesOf_55 (lv_at hl 2 rfl) ?_
          refine lv_iconst (v := 1) hx hb dX3_namesOf_57 (by decide) ?_
          refine lv_iload hx hb dX3_namesOf_58 (lv_at hl 1 rfl) ?_
          refine lv_ishl hx hb dX3_namesOf_60 ?_
          refine lv_ior hx hb dX3_namesOf_61 ?_
          refine lv_istore (lv' := [(4, .int (y15 ||| (1 <<< ((nI j14) &&& 31)))), (6, .int 1), (5, .int (nI j14)), (3, .ref x5), (2, .int w4), (0, .ref h0), (1, .ref r0)]) hx hb dX3_namesOf_62 hl (by decide) rfl (fun ls hl => ?_)
          refine lv_aload_n hx hb dX3_namesOf_64 rfl (lv_at hl 3 rfl) ?_
          refine lv_ifnull hx hb dX3_namesOf_65 ?_
          refine lv_iload hx hb dX3_namesOf_68 (lv_at hl 1 rfl) ?_
          refine lv_aload_n hx hb dX3_namesOf_70 rfl (lv_at hl 3 rfl) ?_
          refine lv_iload hx hb dX3_namesOf_71 (lv_at hl 2 rfl) ?_
          obtain ⟨v0_28, v1_28, v2_28, v3_28, hM_x5_28, hz_v1_28, hk_v3_28⟩ := hT.node hk_x5
          refine m_kV (As := [.int (nI j14)]) (rest := [.int 1]) (rm := { frames := 0, cells := 0, slots := 0, locals := 0 }) ⟨hx, hb, hml, hown, hts⟩ (t_X2_cell_I l D k z _ _ x5 (nI j14) hk_x5 hT) (cwV 1 hts gX3_namesOf_X2_cell rfl rfl rfl (by decide +kernel) ⟨Nat.le_of_ble_eq_true rfl, Nat.le_of_ble_eq_true rfl⟩) (m_recv hK hm (q := (RX2, TX2, 4)) rfl hM_x5_28) hz hcx hm hS rfl hl.1 rfl (Nat.le_of_ble_eq_true rfl) dX3_namesOf_73 ⟨Nat.le_of_ble_eq_true rfl, Nat.le_of_ble_eq_true rfl⟩ (fun v M1 H locs hv hm hS => ?_)
          obtain ⟨hv1, hM1⟩ := hv
          rw [hM1] at hm
          obtain ⟨w29, hv1⟩ := hv1
          subst hv1
          refine W.eq (g2 := F0 m 76 ls [.int w29, .int 1]) rfl ?_
          refine W.widen (k := 0) (n := 0) (Nat.le_of_ble_eq_true rfl) (Nat.le_of_ble_eq_true rfl) ?_
          have hm : mm D (AZ z) M27 H := hm
          refine lv_if_eq (tgt := 83) hx hb dX3_namesOf_76 (by decide) (fun c30 => ?_) (fun c30 => ?_)
          · refine lv_iconst (v := 0) hx hb dX3_namesOf_83 (by decide) ?_
            refine lv_icmp_ne (tgt := 97) hx hb dX3_namesOf_84 (by decide) (fun c31 => ?_) (fun c31 => ?_)
            · refine lv_iinc (v := ((nI j14) + 1)) (lv' := [(5, .int ((nI j14) + 1)), (4, .int (y15 ||| (1 <<< ((nI j14) &&& 31)))), (6, .int 1), (3, .ref x5), (2, .int w4), (0, .ref h0), (1, .ref r0)]) hx hb dX3_namesOf_97 hl (k := 2) rfl rfl (by decide) rfl (fun ls hl => ?_)
              refine lv_goto (tgt := 27) hx hb dX3_namesOf_100 (by decide) ?_
              rw [nI_1] at hl
              exact ih27 (j14 + 1, (y15 ||| (1 <<< ((nI j14) &&& 31))), K27, M27) _ _ _ ⟨(by first | exact nI_up hbj14 c16 | exact nI_up2 (by decide) hbj14 c16), hT, hE, hk_x5, hk_h0, hk_r0, hm, hS, lv_sub hl [0, 1, 3, 4, 5, 6] rfl⟩ (by show 2147483648 - (j14 + 1) < 2147483648 - j14; omega)
            · first | exact absurd c31 (by decide) | exact absurd (by decide) c31
          · refine lv_iconst (v := 1) hx hb dX3_namesOf_79 (by decide) ?_
            refine lv_goto (tgt := 84) hx hb dX3_namesOf_80 (by decide) ?_
            refine lv_icmp_ne (tgt := 97) hx hb dX3_namesOf_84 (by decide) (fun c32 => ?_) (fun c32 => ?_)
            · first | exact absurd c32 (by decide) | exact absurd (by decide) c32
            · refine lv_aload_n hx hb dX3_namesOf_87 rfl (lv_at hl 5 rfl) ?_
              obtain ⟨v0_33, v1_33, v2_33, v3_33, v4_33, v5_33, v6_33, hM_h0_33, hk_v0_33, hk_v1_33, hk_v2_33, hk_v3_33, hk_v4_33, hz_v5_33⟩ := hT.txn hk_h0
              refine m_get (T := TX3) (N := 7) (ci := 3) (v := .ref v4_33) hx hb hts wX3 hown hK hm hM_h0_33 rfl 4 (by decide) f26 (fun _ h9 => h9) rfl dX3_namesOf_88 ?_
              refine lv_iload_n hx hb dX3_namesOf_91 rfl (lv_at hl 4 rfl) ?_
              refine lv_iload hx hb dX3_namesOf_92 (lv_at hl 2 rfl) ?_
              refine m_kS (As := [.ref v4_33, .int w4, .int (nI j14)]) (rest := []) (rm := { frames := 0, cells := 0, slots := 0, locals := 0 }) ⟨hx, hb, hml, hown, hts⟩ (t_X3_noteRead_RII l D k z _ _ v4_33 w4 (nI j14) hk_v4_33 hT) (cwS 3 hts gX3_namesOf_X3_noteRead rfl rfl rfl (by decide +kernel) ⟨Nat.le_of_ble_eq_true rfl, Nat.le_of_ble_eq_true rfl⟩) hz hcx hm hS rfl hl.1 rfl (Nat.le_of_ble_eq_true rfl) dX3_namesOf_94 ⟨Nat.le_of_ble_eq_true rfl, Nat.le_of_ble_eq_true rfl⟩ (fun v M1 H locs hv hm hS => ?_)
              obtain ⟨κ2, hT9, hE9, hv1⟩ := hv
              have hk_x5 := hE9.k hT hk_x5
              have hk_h0 := hE9.k hT hk_h0
              have hk_r0 := hE9.k hT hk_r0
              have hE := hE.trans hT0 hT hE9
              have hT := hT9
              obtain ⟨Mc2, hMx⟩ : ∃ x : mM, x = M1 := ⟨M1, rfl⟩
              subst hMx
              subst hv1
              refine W.eq (g2 := F0 m 97 ls []) rfl ?_
              refine W.widen (k := 0) (n := 0) (Nat.le_of_ble_eq_true rfl) (Nat.le_of_ble_eq_true rfl) ?_
              have hm : mm D (AZ z) Mc2 H := hm
              refine lv_iinc (v := ((nI j14) + 1)) (lv' := [(5, .int ((nI j14) + 1)), (4, .int (y15 ||| (1 <<< ((nI j14) &&& 31)))), (6, .int 1), (3, .ref x5), (2, .int w4), (0, .ref h0), (1, .ref r0)]) hx hb dX3_namesOf_97 hl (k := 2) rfl rfl (by decide) rfl (fun ls hl => ?_)
              refine lv_goto (tgt := 27) hx hb dX3_namesOf_100 (by decide) ?_
              rw [nI_1] at hl
              exact ih27 (j14 + 1, (y15 ||| (1 <<< ((nI j14) &&& 31))), κ2, Mc2) _ _ _ ⟨(by first | exact nI_up hbj14 c16 | exact nI_up2 (by decide) hbj14 c16), hT, hE, hk_x5, hk_h0, hk_r0, hm, hS, lv_sub hl [0, 1, 3, 4, 5, 6] rfl⟩ (by show 2147483648 - (j14 + 1) < 2147483648 - j14; omega)

