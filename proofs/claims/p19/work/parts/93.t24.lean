set_option maxHeartbeats 4000000 in
set_option maxRecDepth 100000 in
theorem h_L_about (l : Launch) (hlt : l.stackTraces = false) (D : va_G) (k : Nat → ClassId) (z : Nat) (M : mM) (κ : Nat → Option KD) (r0 : Nat) (a1 : Int32) (a2 : Int32) (r3 : Nat) (hk_r0 : κ r0 = some .top) (hk_r3 : κ r3 = some .outs) (hT : TM k κ M) : mKN l yL_about wsL_about ({ frames := 8, cells := 2, slots := 12, locals := 146 }) D k z [.ref r0, .int a1, .int a2, .ref r3] M (fun v M' => ∃ κ', TM k κ' M' ∧ kx κ M κ' M' ∧ ∃ x, v = some (.int x)) := by
  refine tc_ofWH (cc := cL_about) (maxL := 5) (ret := (some .int)) (hh := [(0, 10, 13, 13), (0, 10, 17, 31)]) (by decide) rfl ?_
  intro p e s m args below meth c s₁ B hml hv
  obtain ⟨rfl, hz, hcxN, hm⟩ := hv
  have hcx := hcxN.1
  have hx := B.exec
  have hb := B.bytes
  have hr := B.returns
  have hts := atoms_spec (ws := wsL_about) B.pre
  have hown : s.vm.findClass RL = some m.cls := findClass_of_methodNamed B.named
  have hlocks := B.notSynchronized
  have hK := hcx.1
  have hS : va_S (AZ z) s.heap s.heap [] := va_S.rf
  have hA : ∀ q, s.heap.size ≤ q → AZ z q := fun q h => Nat.le_trans hz h
  have htab := vx_table (x := yL_about) B (hts (.codeWith yL_about cL_about 5 (some .int) [(0, 10, 13, 13), (0, 10, 17, 31)]) List.mem_cons_self)
  have hl := lv_entry ([.ref r0, .int a1, .int a2, .ref r3]) (n := 5) (Nat.le_of_ble_eq_true rfl)
  rw [lg_entry_eq]
  generalize (lg_sl ([.ref r0, .int a1, .int a2, .ref r3]) ++ List.replicate (5 - (lg_sl ([.ref r0, .int a1, .int a2, .ref r3])).length) Slot.unset).toArray = ls at hl ⊢
  have hl : lv_has ls 5 [(0, .ref r0), (1, .int a1), (2, .int a2), (3, .ref r3)] := hl
  have hT0 := hT
  have hE : kx κ M κ M := kx.refl _ _
  refine lv_aload_n hx hb dL_about_0 rfl (lv_at hl 3 rfl) ?_
  refine lv_iconst (v := 0) hx hb dL_about_1 (by decide) ?_
  refine lv_aload_n hx hb dL_about_2 rfl (lv_at hl 0 rfl) ?_
  refine lv_iload_n hx hb dL_about_3 rfl (lv_at hl 1 rfl) ?_
  refine lv_iload_n hx hb dL_about_4 rfl (lv_at hl 2 rfl) ?_
  obtain ⟨v0_1, v1_1, v2_1, v3_1, v4_1, v5_1, v6_1, v7_1, v8_1, v9_1, v10_1, hM_r0_1, hk_v0_1, hk_v1_1, hk_v2_1, hk_v3_1, hk_v4_1, hk_v5_1, hz_v9_1, hz_v10_1⟩ := hT.top hk_r0
  refine m_cV (As := [.int a1, .int a2]) (rest := [.int 0, .ref r3]) (rm := { frames := 7, cells := 2, slots := 12, locals := 123 }) ⟨hx, hb, hml, hown, hts⟩ (t_X5_about_II l hlt D k z _ _ r0 a1 a2 hk_r0 hT) (cwV 2 hts gL_about_X5_about rfl rfl rfl (by decide +kernel) ⟨Nat.le_of_ble_eq_true rfl, Nat.le_of_ble_eq_true rfl⟩) (m_recv hK hm (q := (RX5, TX5, 11)) rfl hM_r0_1) hz hcx hm hS rfl hl.1 rfl (Nat.le_of_ble_eq_true rfl) dL_about_5 ⟨Nat.le_of_ble_eq_true rfl, Nat.le_of_ble_eq_true rfl⟩ (fun E ce q9 M1 H locs hv hm hS hce hcv hcl => ?_) (fun v M1 H locs hv hm hS => ?_)
  · obtain ⟨hE8, κ8, hT8, hx8⟩ := hv
    have hk_r0 := hx8.k hT hk_r0
    have hk_r3 := hx8.k hT hk_r3
    have hE := hE.trans hT0 hT hx8
    have hT := hT8
    obtain ⟨Mc1, hMx⟩ : ∃ x : mM, x = M1 := ⟨M1, rfl⟩
    subst hMx
    simp only [List.mem_cons, List.not_mem_nil, or_false] at hE8
    rcases hE8 with hE8 | hE8
    · subst hE8
      refine tc_catch (E := "java/lang/IllegalArgumentException") (name := "java/lang/IllegalArgumentException") hown [⟨0, 10, 13, 13⟩] ⟨0, 10, 17, 31⟩ [] (by rw [htab]; rfl) (fun z9 hz9 => by
          simp only [List.mem_cons, List.not_mem_nil, or_false] at hz9
          rcases hz9 with rfl
          · exact Or.inr ⟨by decide, "java/lang/IllegalStateException", hts (.classLink RL 13 "java/lang/IllegalStateException") (by decide +kernel), hcxN.2 ("java/lang/IllegalArgumentException", "java/lang/IllegalStateException") (by decide +kernel)⟩) (by decide) (by decide) (hts (.classLink RL 31 "java/lang/IllegalArgumentException") (by decide +kernel)) (hcx.dw _ (.castable "java/lang/IllegalArgumentException" "java/lang/IllegalArgumentException") (by decide +kernel)) hce hcv hcl ?_
      refine W.widen (k := 2) (n := 12) (Nat.le_of_ble_eq_true rfl) (Nat.le_of_ble_eq_true rfl) ?_
      refine W.eq (g2 := F0 m 17 ls [.ref q9]) rfl ?_
      refine lv_astore (lv' := [(4, .ref q9), (0, .ref r0), (1, .int a1), (2, .int a2), (3, .ref r3)]) hx hb dL_about_17 hl (by decide) rfl (fun ls hl => ?_)
      refine lv_iconst (v := 2) hx hb dL_about_19 (by decide) ?_
      refine W.iret (v := 2) hx hb hr (fun t ht hW => ⟨⟨some (.int 2), _, rfl, ?_, by rw [ht]; exact hm⟩, hS.F ht⟩) hS.2.2 dL_about_20
      exact ⟨_, hT, hE, ⟨_, rfl⟩⟩
    · subst hE8
      refine tc_catch (E := "java/lang/IllegalStateException") (name := "java/lang/IllegalStateException") hown [] ⟨0, 10, 13, 13⟩ [⟨0, 10, 17, 31⟩] (by rw [htab]; rfl) (fun z9 hz9 => by simp at hz9) (by decide) (by decide) (hts (.classLink RL 13 "java/lang/IllegalStateException") (by decide +kernel)) (hcx.dw _ (.castable "java/lang/IllegalStateException" "java/lang/IllegalStateException") (by decide +kernel)) hce hcv hcl ?_
      refine W.widen (k := 2) (n := 12) (Nat.le_of_ble_eq_true rfl) (Nat.le_of_ble_eq_true rfl) ?_
      refine W.eq (g2 := F0 m 13 ls [.ref q9]) rfl ?_
      refine lv_astore (lv' := [(4, .ref q9), (0, .ref r0), (1, .int a1), (2, .int a2), (3, .ref r3)]) hx hb dL_about_13 hl (by decide) rfl (fun ls hl => ?_)
      refine lv_iconst (v := 1) hx hb dL_about_15 (by decide) ?_
      refine W.iret (v := 1) hx hb hr (fun t ht hW => ⟨⟨some (.int 1), _, rfl, ?_, by rw [ht]; exact hm⟩, hS.F ht⟩) hS.2.2 dL_about_16
      exact ⟨_, hT, hE, ⟨_, rfl⟩⟩
  obtain ⟨κ2, hT9, hE9, hv1⟩ := hv
  have hk_r0 := hE9.k hT hk_r0
  have hk_r3 := hE9.k hT hk_r3
  have hE := hE.trans hT0 hT hE9
  have hT := hT9
  obtain ⟨Mc2, hMx⟩ : ∃ x : mM, x = M1 := ⟨M1, rfl⟩
  subst hMx
  obtain ⟨w2, hv1⟩ := hv1
  subst hv1
  refine W.eq (g2 := F0 m 8 ls [.int w2, .int 0, .ref r3]) rfl ?_
  refine W.widen (k := 2) (n := 12) (Nat.le_of_ble_eq_true rfl) (Nat.le_of_ble_eq_true rfl) ?_
  have hm : mm D (AZ z) Mc2 H := hm
  refine lv_i2l (v := (w2).toInt64) hx hb dL_about_8 rfl ?_
  obtain ⟨f_3, hM_r3_3⟩ := hT.outs hk_r3
  refine m_last hx hb hK hm hS 1 hM_r3_3 rfl (by unfold vp_in; decide) dL_about_9 (fun H locs hm hS => ?_)
  have hm : mm D (AZ z) (mu Mc2 r3 (.inl (k 1, 1, .inr (.inl (vp_updL f_3 (0 : Int32).toNatClampNeg (w2).toInt64))))) H := hm
  have hT : TM k κ2 (mu Mc2 r3 (.inl (k 1, 1, .inr (.inl (vp_updL f_3 (0 : Int32).toNatClampNeg (w2).toInt64))))) := hT.put hk_r3 (show wf k κ2 .outs (.inl (k 1, 1, .inr (.inl (vp_updL f_3 (0 : Int32).toNatClampNeg (w2).toInt64)))) from ⟨(vp_updL f_3 (0 : Int32).toNatClampNeg (w2).toInt64), rfl⟩)
  have hE : kx κ M κ2 (mu Mc2 r3 (.inl (k 1, 1, .inr (.inl (vp_updL f_3 (0 : Int32).toNatClampNeg (w2).toInt64))))) := hE.put hk_r3
  generalize (mu Mc2 r3 (.inl (k 1, 1, .inr (.inl (vp_updL f_3 (0 : Int32).toNatClampNeg (w2).toInt64))))) = Mc3 at hm hT hE
  refine lv_goto (tgt := 21) hx hb dL_about_10 (by decide) ?_
  refine lv_iconst (v := 0) hx hb dL_about_21 (by decide) ?_
  refine W.iret (v := 0) hx hb hr (fun t ht hW => ⟨⟨some (.int 0), _, rfl, ?_, by rw [ht]; exact hm⟩, hS.F ht⟩) hS.2.2 dL_about_22
  exact ⟨_, hT, hE, ⟨_, rfl⟩⟩

set_option maxHeartbeats 4000000 in
set_option maxRecDepth 100000 in
theorem h_L_power (l : Launch) (hlt : l.stackTraces = false) (D : va_G) (k : Nat → ClassId) (z : Nat) (M : mM) (κ : Nat → Option KD) (r0 : Nat) (a1 : Int32) (hk_r0 : κ r0 = some .top) (hT : TM k κ M) : mKN l yL_power wsL_power ({ frames := 7, cells := 1, slots := 6, locals := 103 }) D k z [.ref r0, .int a1] M (fun v M' => ∃ κ', TM k κ' M' ∧ kx κ M κ' M' ∧ ((¬ a1 < -1 ∧ a1 ≤ 1000) ∧ v = some (.int 0) ∨ (a1 < -1 ∨ ¬ a1 ≤ 1000) ∧ v = some (.int 1))) := by
  refine tc_ofWH (cc := cL_power) (maxL := 3) (ret := (some .int)) (hh := [(0, 5, 8, 31)]) (by decide) rfl ?_
  intro p e s m args below meth c s₁ B hml hv
  obtain ⟨rfl, hz, hcxN, hm⟩ := hv
  have hcx := hcxN.1
  have hx := B.exec
  have hb := B.bytes
  have hr := B.returns
  have hts := atoms_spec (ws := wsL_power) B.pre
  have hown : s.vm.findClass RL = some m.cls := findClass_of_methodNamed B.named
  have hlocks := B.notSynchronized
  have hK := hcx.1
  have hS : va_S (AZ z) s.heap s.heap [] := va_S.rf
  have hA : ∀ q, s.heap.size ≤ q → AZ z q := fun q h => Nat.le_trans hz h
  have htab := vx_table (x := yL_power) B (hts (.codeWith yL_power cL_power 3 (some .int) [(0, 5, 8, 31)]) List.mem_cons_self)
  have hl := lv_entry ([.ref r0, .int a1]) (n := 3) (Nat.le_of_ble_eq_true rfl)
  rw [lg_entry_eq]
  generalize (lg_sl ([.ref r0, .int a1]) ++ List.replicate (3 - (lg_sl ([.ref r0, .int a1])).length) Slot.unset).toArray = ls at hl ⊢
  have hl : lv_has ls 3 [(0, .ref r0), (1, .int a1)] := hl
  have hT0 := hT
  have hE : kx κ M κ M := kx.refl _ _
  refine lv_aload_n hx hb dL_power_0 rfl (lv_at hl 0 rfl) ?_
  refine lv_iload_n hx hb dL_power_1 rfl (lv_at hl 1 rfl) ?_
  obtain ⟨v0_1, v1_1, v2_1, v3_1, v4_1, v5_1, v6_1, v7_1, v8_1, v9_1, v10_1, hM_r0_1, hk_v0_1, hk_v1_1, hk_v2_1, hk_v3_1, hk_v4_1, hk_v5_1, hz_v9_1, hz_v10_1⟩ := hT.top hk_r0
  refine m_cV (As := [.int a1]) (rest := []) (rm := { frames := 6, cells := 1, slots := 6, locals := 82 }) ⟨hx, hb, hml, hown, hts⟩ (p_X5_power l hlt D k z _ _ r0 a1 hk_r0 hT) (cwV 1 hts gL_power_X5_power rfl rfl rfl (by decide +kernel) ⟨Nat.le_of_ble_eq_true rfl, Nat.le_of_ble_eq_true rfl⟩) (m_recv hK hm (q := (RX5, TX5, 11)) rfl hM_r0_1) hz hcx hm hS rfl hl.1 rfl (Nat.le_of_ble_eq_true rfl) dL_power_2 ⟨Nat.le_of_ble_eq_true rfl, Nat.le_of_ble_eq_true rfl⟩ (fun E ce q9 M1 H locs hv hm hS hce hcv hcl => ?_) (fun v M1 H locs hv hm hS => ?_)
  · obtain ⟨hcT, hE8, κ8, hT8, hx8⟩ := hv
    have hk_r0 := hx8.k hT hk_r0
    have hE := hE.trans hT0 hT hx8
    have hT := hT8
    obtain ⟨Mc1, hMx⟩ : ∃ x : mM, x = M1 := ⟨M1, rfl⟩
    subst hMx
    subst hE8
    refine tc_catch (E := "java/lang/IllegalArgumentException") (name := "java/lang/IllegalArgumentException") hown [] ⟨0, 5, 8, 31⟩ [] (by rw [htab]; rfl) (fun z9 hz9 => by simp at hz9) (by decide) (by decide) (hts (.classLink RL 31 "java/lang/IllegalArgumentException") (by decide +kernel)) (hcx.dw _ (.castable "java/lang/IllegalArgumentException" "java/lang/IllegalArgumentException") (by decide +kernel)) hce hcv hcl ?_
    refine W.widen (k := 1) (n := 6) (Nat.le_of_ble_eq_true rfl) (Nat.le_of_ble_eq_true rfl) ?_
    refine W.eq (g2 := F0 m 8 ls [.ref q9]) rfl ?_
    refine lv_astore_n (lv' := [(2, .ref q9), (0, .ref r0), (1, .int a1)]) hx hb dL_power_8 rfl hl (by decide) rfl (fun ls hl => ?_)
    refine lv_iconst (v := 1) hx hb dL_power_9 (by decide) ?_
    refine W.iret (v := 1) hx hb hr (fun t ht hW => ⟨⟨some (.int 1), _, rfl, ?_, by rw [ht]; exact hm⟩, hS.F ht⟩) hS.2.2 dL_power_10
    exact ⟨_, hT, hE, Or.inr ⟨hcT, rfl⟩⟩
  obtain ⟨hcN, hv1, κ2, hT9, hE9⟩ := hv
  have hk_r0 := hE9.k hT hk_r0
  have hE := hE.trans hT0 hT hE9
  have hT := hT9
  obtain ⟨Mc2, hMx⟩ : ∃ x : mM, x = M1 := ⟨M1, rfl⟩
  subst hMx
  subst hv1
  refine W.eq (g2 := F0 m 5 ls []) rfl ?_
  refine W.widen (k := 1) (n := 6) (Nat.le_of_ble_eq_true rfl) (Nat.le_of_ble_eq_true rfl) ?_
  have hm : mm D (AZ z) Mc2 H := hm
  refine lv_goto (tgt := 11) hx hb dL_power_5 (by decide) ?_
  refine lv_iconst (v := 0) hx hb dL_power_11 (by decide) ?_
  refine W.iret (v := 0) hx hb hr (fun t ht hW => ⟨⟨some (.int 0), _, rfl, ?_, by rw [ht]; exact hm⟩, hS.F ht⟩) hS.2.2 dL_power_12
  exact ⟨_, hT, hE, Or.inl ⟨hcN, rfl⟩⟩

set_option maxHeartbeats 4000000 in
set_option maxRecDepth 100000 in
theorem h_L_recover (l : Launch) (hlt : l.stackTraces = false) (D : va_G) (k : Nat → ClassId) (z : Nat) (M : mM) (κ : Nat → Option KD) (r0 : Nat) (r1 : Nat) (hk_r0 : κ r0 = some .top) (hk_r1 : κ r1 = some .outs) (hT : TM k κ M) : mKN l yL_recover wsL_recover ({ frames := 7, cells := 1, slots := 6, locals := 102 }) D k z [.ref r0, .ref r1] M (fun v M' => ∃ κ', TM k κ' M' ∧ kx κ M κ' M' ∧ ∃ x, v = some (.int x)) := by
  refine tc_ofWH (cc := cL_recover) (maxL := 3) (ret := (some .int)) (hh := [(0, 8, 11, 13)]) (by decide) rfl ?_
  intro p e s m args below meth c s₁ B hml hv
  obtain ⟨rfl, hz, hcxN, hm⟩ := hv
  have hcx := hcxN.1
  have hx := B.exec
  have hb := B.bytes
  have hr := B.returns
  have hts := atoms_spec (ws := wsL_recover) B.pre
  have hown : s.vm.findClass RL = some m.cls := findClass_of_methodNamed B.named
  have hlocks := B.notSynchronized
  have hK := hcx.1
  have hS : va_S (AZ z) s.heap s.heap [] := va_S.rf
  have hA : ∀ q, s.heap.size ≤ q → AZ z q := fun q h => Nat.le_trans hz h
  have htab := vx_table (x := yL_recover) B (hts (.codeWith yL_recover cL_recover 3 (some .int) [(0, 8, 11, 13)]) List.mem_cons_self)
  have hl := lv_entry ([.ref r0, .ref r1]) (n := 3) (Nat.le_of_ble_eq_true rfl)
  rw [lg_entry_eq]
  generalize (lg_sl ([.ref r0, .ref r1]) ++ List.replicate (3 - (lg_sl ([.ref r0, .ref r1])).length) Slot.unset).toArray = ls at hl ⊢
  have hl : lv_has ls 3 [(0, .ref r0), (1, .ref r1)] := hl
  have hT0 := hT
  have hE : kx κ M κ M := kx.refl _ _
  refine lv_aload_n hx hb dL_recover_0 rfl (lv_at hl 1 rfl) ?_
  refine lv_iconst (v := 0) hx hb dL_recover_1 (by decide) ?_
  refine lv_aload_n hx hb dL_recover_2 rfl (lv_at hl 0 rfl) ?_
  obtain ⟨v0_1, v1_1, v2_1, v3_1, v4_1, v5_1, v6_1, v7_1, v8_1, v9_1, v10_1, hM_r0_1, hk_v0_1, hk_v1_1, hk_v2_1, hk_v3_1, hk_v4_1, hk_v5_1, hz_v9_1, hz_v10_1⟩ := hT.top hk_r0
  refine m_cV (As := []) (rest := [.int 0, .ref r1]) (rm := { frames := 6, cells := 1, slots := 6, locals := 82 }) ⟨hx, hb, hml, hown, hts⟩ (t_X5_recover l hlt D k z _ _ r0 hk_r0 hT) (cwV 0 hts gL_recover_X5_recover rfl rfl rfl (by decide +kernel) ⟨Nat.le_of_ble_eq_true rfl, Nat.le_of_ble_eq_true rfl⟩) (m_recv hK hm (q := (RX5, TX5, 11)) rfl hM_r0_1) hz hcx hm hS rfl hl.1 rfl (Nat.le_of_ble_eq_true rfl) dL_recover_3 ⟨Nat.le_of_ble_eq_true rfl, Nat.le_of_ble_eq_true rfl⟩ (fun E ce q9 M1 H locs hv hm hS hce hcv hcl => ?_) (fun v M1 H locs hv hm hS => ?_)
  · obtain ⟨hE8, κ8, hT8, hx8⟩ := hv
    have hk_r0 := hx8.k hT hk_r0
    have hk_r1 := hx8.k hT hk_r1
    have hE := hE.trans hT0 hT hx8
    have hT := hT8
    obtain ⟨Mc1, hMx⟩ : ∃ x : mM, x = M1 := ⟨M1, rfl⟩
    subst hMx
    simp only [List.mem_cons, List.not_mem_nil, or_false] at hE8
    subst hE8
    refine tc_catch (E := "java/lang/IllegalStateException") (name := "java/lang/IllegalStateException") hown [] ⟨0, 8, 11, 13⟩ [] (by rw [htab]; rfl) (fun z9 hz9 => by simp at hz9) (by decide) (by decide) (hts (.classLink RL 13 "java/lang/IllegalStateException") (by decide +kernel)) (hcx.dw _ (.castable "java/lang/IllegalStateException" "java/lang/IllegalStateException") (by decide +kernel)) hce hcv hcl ?_
    refine W.widen (k := 1) (n := 6) (Nat.le_of_ble_eq_true rfl) (Nat.le_of_ble_eq_true rfl) ?_
    refine W.eq (g2 := F0 m 11 ls [.ref q9]) rfl ?_
    refine lv_astore_n (lv' := [(2, .ref q9), (0, .ref r0), (1, .ref r1)]) hx hb dL_recover_11 rfl hl (by decide) rfl (fun ls hl => ?_)
    refine lv_iconst (v := 1) hx hb dL_recover_12 (by decide) ?_
    refine W.iret (v := 1) hx hb hr (fun t ht hW => ⟨⟨some (.int 1), _, rfl, ?_, by rw [ht]; exact hm⟩, hS.F ht⟩) hS.2.2 dL_recover_13
    exact ⟨_, hT, hE, ⟨_, rfl⟩⟩
  obtain ⟨κ2, hT9, hE9, hv1⟩ := hv
  have hk_r0 := hE9.k hT hk_r0
  have hk_r1 := hE9.k hT hk_r1
  have hE := hE.trans hT0 hT hE9
  have hT := hT9
  obtain ⟨Mc2, hMx⟩ : ∃ x : mM, x = M1 := ⟨M1, rfl⟩
  subst hMx
  obtain ⟨w2, hv1⟩ := hv1
  subst hv1
  refine W.eq (g2 := F0 m 6 ls [.int w2, .int 0, .ref r1]) rfl ?_
  refine W.widen (k := 1) (n := 6) (Nat.le_of_ble_eq_true rfl) (Nat.le_of_ble_eq_true rfl) ?_
  have hm : mm D (AZ z) Mc2 H := hm
  refine lv_i2l (v := (w2).toInt64) hx hb dL_recover_6 rfl ?_
  obtain ⟨f_3, hM_r1_3⟩ := hT.outs hk_r1
  refine m_last hx hb hK hm hS 1 hM_r1_3 rfl (by unfold vp_in; decide) dL_recover_7 (fun H locs hm hS => ?_)
  have hm : mm D (AZ z) (mu Mc2 r1 (.inl (k 1, 1, .inr (.inl (vp_updL f_3 (0 : Int32).toNatClampNeg (w2).toInt64))))) H := hm
  have hT : TM k κ2 (mu Mc2 r1 (.inl (k 1, 1, .inr (.inl (vp_updL f_3 (0 : Int32).toNatClampNeg (w2).toInt64))))) := hT.put hk_r1 (show wf k κ2 .outs (.inl (k 1, 1, .inr (.inl (vp_updL f_3 (0 : Int32).toNatClampNeg (w2).toInt64)))) from ⟨(vp_updL f_3 (0 : Int32).toNatClampNeg (w2).toInt64), rfl⟩)
  have hE : kx κ M κ2 (mu Mc2 r1 (.inl (k 1, 1, .inr (.inl (vp_updL f_3 (0 : Int32).toNatClampNeg (w2).toInt64))))) := hE.put hk_r1
  generalize (mu Mc2 r1 (.inl (k 1, 1, .inr (.inl (vp_updL f_3 (0 : Int32).toNatClampNeg (w2).toInt64))))) = Mc3 at hm hT hE
  refine lv_goto (tgt := 14) hx hb dL_recover_8 (by decide) ?_
  refine lv_iconst (v := 0) hx hb dL_recover_14 (by decide) ?_
  refine W.iret (v := 0) hx hb hr (fun t ht hW => ⟨⟨some (.int 0), _, rfl, ?_, by rw [ht]; exact hm⟩, hS.F ht⟩) hS.2.2 dL_recover_15
  exact ⟨_, hT, hE, ⟨_, rfl⟩⟩

set_option maxHeartbeats 4000000 in
set_option maxRecDepth 100000 in
theorem h_L_count (l : Launch) (hlt : l.stackTraces = false) (D : va_G) (k : Nat → ClassId) (z : Nat) (M : mM) (κ : Nat → Option KD) (r0 : Nat) (a1 : Int32) (r2 : Nat) (hk_r0 : κ r0 = some .top) (hk_r2 : κ r2 = some .outs) (hT : TM k κ M) : mKN l yL_count wsL_count ({ frames := 7, cells := 1, slots := 6, locals := 103 }) D k z [.ref r0, .int a1, .ref r2] M (fun v M' => ∃ κ', TM k κ' M' ∧ kx κ M κ' M' ∧ ∃ x, v = some (.int x)) := by
  refine tc_ofWH (cc := cL_count) (maxL := 4) (ret := (some .int)) (hh := [(0, 9, 12, 31)]) (by decide) rfl ?_
  intro p e s m args below meth c s₁ B hml hv
  obtain ⟨rfl, hz, hcxN, hm⟩ := hv
  have hcx := hcxN.1
  have hx := B.exec
  have hb := B.bytes
  have hr := B.returns
  have hts := atoms_spec (ws := wsL_count) B.pre
  have hown : s.vm.findClass RL = some m.cls := findClass_of_methodNamed B.named
  have hlocks := B.notSynchronized
  have hK := hcx.1
  have hS : va_S (AZ z) s.heap s.heap [] := va_S.rf
  have hA : ∀ q, s.heap.size ≤ q → AZ z q := fun q h => Nat.le_trans hz h
  have htab := vx_table (x := yL_count) B (hts (.codeWith yL_count cL_count 4 (some .int) [(0, 9, 12, 31)]) List.mem_cons_self)
  have hl := lv_entry ([.ref r0, .int a1, .ref r2]) (n := 4) (Nat.le_of_ble_eq_true rfl)
  rw [lg_entry_eq]
  generalize (lg_sl ([.ref r0, .int a1, .ref r2]) ++ List.replicate (4 - (lg_sl ([.ref r0, .int a1, .ref r2])).length) Slot.unset).toArray = ls at hl ⊢
  have hl : lv_has ls 4 [(0, .ref r0), (1, .int a1), (2, .ref r2)] := hl
  have hT0 := hT
  have hE : kx κ M κ M := kx.refl _ _
  refine lv_aload_n hx hb dL_count_0 rfl (lv_at hl 2 rfl) ?_
  refine lv_iconst (v := 0) hx hb dL_count_1 (by decide) ?_
  refine lv_aload_n hx hb dL_count_2 rfl (lv_at hl 0 rfl) ?_
  refine lv_iload_n hx hb dL_count_3 rfl (lv_at hl 1 rfl) ?_
  obtain ⟨v0_1, v1_1, v2_1, v3_1, v4_1, v5_1, v6_1, v7_1, v8_1, v9_1, v10_1, hM_r0_1, hk_v0_1, hk_v1_1, hk_v2_1, hk_v3_1, hk_v4_1, hk_v5_1, hz_v9_1, hz_v10_1⟩ := hT.top hk_r0
  refine m_cV (As := [.int a1]) (rest := [.int 0, .ref r2]) (rm := { frames := 6, cells := 1, slots := 6, locals := 82 }) ⟨hx, hb, hml, hown, hts⟩ (t_X5_count_I l hlt D k z _ _ r0 a1 hk_r0 hT) (cwV 1 hts gL_count_X5_count rfl rfl rfl (by decide +kernel) ⟨Nat.le_of_ble_eq_true rfl, Nat.le_of_ble_eq_true rfl⟩) (m_recv hK hm (q := (RX5, TX5, 11)) rfl hM_r0_1) hz hcx hm hS rfl hl.1 rfl (Nat.le_of_ble_eq_true rfl) dL_count_4 ⟨Nat.le_of_ble_eq_true rfl, Nat.le_of_ble_eq_true rfl⟩ (fun E ce q9 M1 H locs hv hm hS hce hcv hcl => ?_) (fun v M1 H locs hv hm hS => ?_)
  · obtain ⟨hE8, κ8, hT8, hx8⟩ := hv
    have hk_r0 := hx8.k hT hk_r0
    have hk_r2 := hx8.k hT hk_r2
    have hE := hE.trans hT0 hT hx8
    have hT := hT8
    obtain ⟨Mc1, hMx⟩ : ∃ x : mM, x = M1 := ⟨M1, rfl⟩
    subst hMx
    simp only [List.mem_cons, List.not_mem_nil, or_false] at hE8
    subst hE8
    refine tc_catch (E := "java/lang/IllegalArgumentException") (name := "java/lang/IllegalArgumentException") hown [] ⟨0, 9, 12, 31⟩ [] (by rw [htab]; rfl) (fun z9 hz9 => by simp at hz9) (by decide) (by decide) (hts (.classLink RL 31 "java/lang/IllegalArgumentException") (by decide +kernel)) (hcx.dw _ (.castable "java/lang/IllegalArgumentException" "java/lang/IllegalArgumentException") (by decide +kernel)) hce hcv hcl ?_
    refine W.widen (k := 1) (n := 6) (Nat.le_of_ble_eq_true rfl) (Nat.le_of_ble_eq_true rfl) ?_
    refine W.eq (g2 := F0 m 12 ls [.ref q9]) rfl ?_
    refine lv_astore_n (lv' := [(3, .ref q9), (0, .ref r0), (1, .int a1), (2, .ref r2)]) hx hb dL_count_12 rfl hl (by decide) rfl (fun ls hl => ?_)
    refine lv_iconst (v := 1) hx hb dL_count_13 (by decide) ?_
    refine W.iret (v := 1) hx hb hr (fun t ht hW => ⟨⟨some (.int 1), _, rfl, ?_, by rw [ht]; exact hm⟩, hS.F ht⟩) hS.2.2 dL_count_14
    exact ⟨_, hT, hE, ⟨_, rfl⟩⟩
  obtain ⟨hv1, hM1⟩ := hv
  rw [hM1] at hm
  obtain ⟨w2, hv1⟩ := hv1
  subst hv1
  refine W.eq (g2 := F0 m 7 ls [.int w2, .int 0, .ref r2]) rfl ?_
  refine W.widen (k := 1) (n := 6) (Nat.le_of_ble_eq_true rfl) (Nat.le_of_ble_eq_true rfl) ?_
  have hm : mm D (AZ z) M H := hm
  refine lv_i2l (v := (w2).toInt64) hx hb dL_count_7 rfl ?_
  obtain ⟨f_3, hM_r2_3⟩ := hT.outs hk_r2
  refine m_last hx hb hK hm hS 1 hM_r2_3 rfl (by unfold vp_in; decide) dL_count_8 (fun H locs hm hS => ?_)
  have hm : mm D (AZ z) (mu M r2 (.inl (k 1, 1, .inr (.inl (vp_updL f_3 (0 : Int32).toNatClampNeg (w2).toInt64))))) H := hm
  have hR_4 : (mu M r2 (.inl (k 1, 1, .inr (.inl (vp_updL f_3 (0 : Int32).toNatClampNeg (w2).toInt64))))) r0 = _ := (mu_ne (kd_ne hk_r0 hk_r2 (by decide))).trans hM_r0_1
  have hT : TM k κ (mu M r2 (.inl (k 1, 1, .inr (.inl (vp_updL f_3 (0 : Int32).toNatClampNeg (w2).toInt64))))) := hT.put hk_r2 (show wf k κ .outs (.inl (k 1, 1, .inr (.inl (vp_updL f_3 (0 : Int32).toNatClampNeg (w2).toInt64)))) from ⟨(vp_updL f_3 (0 : Int32).toNatClampNeg (w2).toInt64), rfl⟩)
  have hE : kx κ M κ (mu M r2 (.inl (k 1, 1, .inr (.inl (vp_updL f_3 (0 : Int32).toNatClampNeg (w2).toInt64))))) := hE.put hk_r2
  generalize (mu M r2 (.inl (k 1, 1, .inr (.inl (vp_updL f_3 (0 : Int32).toNatClampNeg (w2).toInt64))))) = Mc2 at hm hT hE hR_4
  refine lv_goto (tgt := 15) hx hb dL_count_9 (by decide) ?_
  refine lv_iconst (v := 0) hx hb dL_count_15 (by decide) ?_
  refine W.iret (v := 0) hx hb hr (fun t ht hW => ⟨⟨some (.int 0), _, rfl, ?_, by rw [ht]; exact hm⟩, hS.F ht⟩) hS.2.2 dL_count_16
  exact ⟨_, hT, hE, ⟨_, rfl⟩⟩

