theorem p_X5_power (l : Launch) (hlt : l.stackTraces = false) (D : va_G) (k : Nat → ClassId) (z : Nat) (M : mM) (κ : Nat → Option KD) (h0 : Nat) (n : Int32) (hk_h0 : κ h0 = some .top) (hT : TM k κ M) : mC l yX5_power wsX5_power ({ frames := 6, cells := 1, slots := 6, locals := 82 }) D k z [.ref h0, .int n] M (fun v M' => (¬ n < -1 ∧ n ≤ 1000) ∧ v = none ∧ ∃ κ', TM k κ' M' ∧ kx κ M κ' M') (fun E M' => (n < -1 ∨ ¬ n ≤ 1000) ∧ E = "java/lang/IllegalArgumentException" ∧ ∃ κ', TM k κ' M' ∧ kx κ M κ' M') := by
  obtain ⟨v0, v1, v2, v3, v4, v5, v6, v7, v8, v9, v10, hM, hk0, hk1, hk2, hk3, hk4, hk5, hz9, hz10⟩ := hT.top hk_h0
  obtain ⟨w0, w1, hD9⟩ := hT.disk hk3
  refine (c_X5_power l hlt D k z M h0 v0 v1 v2 v3 v4 v5 v6 v7 v8 v9 v10 hM w0 w1 n hD9).imp ?_ ?_
  · rintro v M1 ⟨h1, h2, h3, rfl⟩
    exact ⟨⟨h1, h2⟩, h3, κ, hT.put hk3 ⟨_, _, rfl⟩, (kx.refl _ _).put hk3⟩
  · rintro E M1 ⟨h1, h2, rfl⟩
    exact ⟨h1, h2, κ, hT, kx.refl _ _⟩

set_option maxHeartbeats 4000000 in
set_option maxRecDepth 100000 in
theorem h_L_begin (l : Launch) (hlt : l.stackTraces = false) (D : va_G) (k : Nat → ClassId) (z : Nat) (M : mM) (κ : Nat → Option KD) (r0 : Nat) (r1 : Nat) (hk_r0 : κ r0 = some .top) (hk_r1 : κ r1 = some .outs) (hT : TM k κ M) : mKN l yL_begin wsL_begin ({ frames := 7, cells := 1, slots := 6, locals := 104 }) D k z [.ref r0, .ref r1] M (fun v M' => ∃ κ', TM k κ' M' ∧ kx κ M κ' M' ∧ ∃ x, v = some (.int x)) := by
  refine tc_ofWH (cc := cL_begin) (maxL := 3) (ret := (some .int)) (hh := [(0, 8, 11, 13), (0, 8, 14, 15)]) (by decide) rfl ?_
  intro p e s m args below meth c s₁ B hml hv
  obtain ⟨rfl, hz, hcxN, hm⟩ := hv
  have hcx := hcxN.1
  have hx := B.exec
  have hb := B.bytes
  have hr := B.returns
  have hts := atoms_spec (ws := wsL_begin) B.pre
  have hown : s.vm.findClass RL = some m.cls := findClass_of_methodNamed B.named
  have hlocks := B.notSynchronized
  have hK := hcx.1
  have hS : va_S (AZ z) s.heap s.heap [] := va_S.rf
  have hA : ∀ q, s.heap.size ≤ q → AZ z q := fun q h => Nat.le_trans hz h
  have htab := vx_table (x := yL_begin) B (hts (.codeWith yL_begin cL_begin 3 (some .int) [(0, 8, 11, 13), (0, 8, 14, 15)]) List.mem_cons_self)
  have hl := lv_entry ([.ref r0, .ref r1]) (n := 3) (Nat.le_of_ble_eq_true rfl)
  rw [lg_entry_eq]
  generalize (lg_sl ([.ref r0, .ref r1]) ++ List.replicate (3 - (lg_sl ([.ref r0, .ref r1])).length) Slot.unset).toArray = ls at hl ⊢
  have hl : lv_has ls 3 [(0, .ref r0), (1, .ref r1)] := hl
  have hT0 := hT
  have hE : kx κ M κ M := kx.refl _ _
  refine lv_aload_n hx hb dL_begin_0 rfl (lv_at hl 1 rfl) ?_
  refine lv_iconst (v := 0) hx hb dL_begin_1 (by decide) ?_
  refine lv_aload_n hx hb dL_begin_2 rfl (lv_at hl 0 rfl) ?_
  obtain ⟨v0_1, v1_1, v2_1, v3_1, v4_1, v5_1, v6_1, v7_1, v8_1, v9_1, v10_1, hM_r0_1, hk_v0_1, hk_v1_1, hk_v2_1, hk_v3_1, hk_v4_1, hk_v5_1, hz_v9_1, hz_v10_1⟩ := hT.top hk_r0
  refine m_cV (As := []) (rest := [.int 0, .ref r1]) (rm := { frames := 6, cells := 1, slots := 6, locals := 82 }) ⟨hx, hb, hml, hown, hts⟩ (t_X5_begin l hlt D k z _ _ r0 hk_r0 hT) (cwV 0 hts gL_begin_X5_begin rfl rfl rfl (by decide +kernel) ⟨Nat.le_of_ble_eq_true rfl, Nat.le_of_ble_eq_true rfl⟩) (m_recv hK hm (q := (RX5, TX5, 11)) rfl hM_r0_1) hz hcx hm hS rfl hl.1 rfl (Nat.le_of_ble_eq_true rfl) dL_begin_3 ⟨Nat.le_of_ble_eq_true rfl, Nat.le_of_ble_eq_true rfl⟩ (fun E ce q9 M1 H locs hv hm hS hce hcv hcl => ?_) (fun v M1 H locs hv hm hS => ?_)
  · obtain ⟨hE8, κ8, hT8, hx8⟩ := hv
    have hk_r0 := hx8.k hT hk_r0
    have hk_r1 := hx8.k hT hk_r1
    have hE := hE.trans hT0 hT hx8
    have hT := hT8
    obtain ⟨Mc1, hMx⟩ : ∃ x : mM, x = M1 := ⟨M1, rfl⟩
    subst hMx
    simp only [List.mem_cons, List.not_mem_nil, or_false] at hE8
    rcases hE8 with hE8 | hE8
    · subst hE8
      refine tc_catch (E := "java/lang/IllegalStateException") (name := "java/lang/IllegalStateException") hown [] ⟨0, 8, 11, 13⟩ [⟨0, 8, 14, 15⟩] (by rw [htab]; rfl) (fun z9 hz9 => by simp at hz9) (by decide) (by decide) (hts (.classLink RL 13 "java/lang/IllegalStateException") (by decide +kernel)) (hcx.dw _ (.castable "java/lang/IllegalStateException" "java/lang/IllegalStateException") (by decide +kernel)) hce hcv hcl ?_
      refine W.widen (k := 1) (n := 6) (Nat.le_of_ble_eq_true rfl) (Nat.le_of_ble_eq_true rfl) ?_
      refine W.eq (g2 := F0 m 11 ls [.ref q9]) rfl ?_
      refine lv_astore_n (lv' := [(2, .ref q9), (0, .ref r0), (1, .ref r1)]) hx hb dL_begin_11 rfl hl (by decide) rfl (fun ls hl => ?_)
      refine lv_iconst (v := 1) hx hb dL_begin_12 (by decide) ?_
      refine W.iret (v := 1) hx hb hr (fun t ht hW => ⟨⟨some (.int 1), _, rfl, ?_, by rw [ht]; exact hm⟩, hS.F ht⟩) hS.2.2 dL_begin_13
      exact ⟨_, hT, hE, ⟨_, rfl⟩⟩
    · subst hE8
      refine tc_catch (E := "java/lang/UnsupportedOperationException") (name := "java/lang/UnsupportedOperationException") hown [⟨0, 8, 11, 13⟩] ⟨0, 8, 14, 15⟩ [] (by rw [htab]; rfl) (fun z9 hz9 => by
          simp only [List.mem_cons, List.not_mem_nil, or_false] at hz9
          rcases hz9 with rfl
          · exact Or.inr ⟨by decide, "java/lang/IllegalStateException", hts (.classLink RL 13 "java/lang/IllegalStateException") (by decide +kernel), hcxN.2 ("java/lang/UnsupportedOperationException", "java/lang/IllegalStateException") (by decide +kernel)⟩) (by decide) (by decide) (hts (.classLink RL 15 "java/lang/UnsupportedOperationException") (by decide +kernel)) (hcx.dw _ (.castable "java/lang/UnsupportedOperationException" "java/lang/UnsupportedOperationException") (by decide +kernel)) hce hcv hcl ?_
      refine W.widen (k := 1) (n := 6) (Nat.le_of_ble_eq_true rfl) (Nat.le_of_ble_eq_true rfl) ?_
      refine W.eq (g2 := F0 m 14 ls [.ref q9]) rfl ?_
      refine lv_astore_n (lv' := [(2, .ref q9), (0, .ref r0), (1, .ref r1)]) hx hb dL_begin_14 rfl hl (by decide) rfl (fun ls hl => ?_)
      refine lv_iconst (v := 2) hx hb dL_begin_15 (by decide) ?_
      refine W.iret (v := 2) hx hb hr (fun t ht hW => ⟨⟨some (.int 2), _, rfl, ?_, by rw [ht]; exact hm⟩, hS.F ht⟩) hS.2.2 dL_begin_16
      exact ⟨_, hT, hE, ⟨_, rfl⟩⟩
  obtain ⟨κ2, hT9, hE9, hv1⟩ := hv
  have hk_r0 := hE9.k hT hk_r0
  have hk_r1 := hE9.k hT hk_r1
  have hE := hE.trans hT0 hT hE9
  have hT := hT9
  obtain ⟨Mc2, hMx⟩ : ∃ x : mM, x = M1 := ⟨M1, rfl⟩
  subst hMx
  obtain ⟨w2, hv1⟩ := hv1
  subst hv1
  refine W.eq (g2 := F0 m 6 ls [.int w2, .int 0, .ref r1]) rfl ?_
  refine W.widen (k := 1) (n := 6) (Nat.le_of_ble_eq_true rfl) (Nat.le_of_ble_eq_true rfl) ?_
  have hm : mm D (AZ z) Mc2 H := hm
  refine lv_i2l (v := (w2).toInt64) hx hb dL_begin_6 rfl ?_
  obtain ⟨f_3, hM_r1_3⟩ := hT.outs hk_r1
  refine m_last hx hb hK hm hS 1 hM_r1_3 rfl (by unfold vp_in; decide) dL_begin_7 (fun H locs hm hS => ?_)
  have hm : mm D (AZ z) (mu Mc2 r1 (.inl (k 1, 1, .inr (.inl (vp_updL f_3 (0 : Int32).toNatClampNeg (w2).toInt64))))) H := hm
  have hT : TM k κ2 (mu Mc2 r1 (.inl (k 1, 1, .inr (.inl (vp_updL f_3 (0 : Int32).toNatClampNeg (w2).toInt64))))) := hT.put hk_r1 (show wf k κ2 .outs (.inl (k 1, 1, .inr (.inl (vp_updL f_3 (0 : Int32).toNatClampNeg (w2).toInt64)))) from ⟨(vp_updL f_3 (0 : Int32).toNatClampNeg (w2).toInt64), rfl⟩)
  have hE : kx κ M κ2 (mu Mc2 r1 (.inl (k 1, 1, .inr (.inl (vp_updL f_3 (0 : Int32).toNatClampNeg (w2).toInt64))))) := hE.put hk_r1
  generalize (mu Mc2 r1 (.inl (k 1, 1, .inr (.inl (vp_updL f_3 (0 : Int32).toNatClampNeg (w2).toInt64))))) = Mc3 at hm hT hE
  refine lv_goto (tgt := 17) hx hb dL_begin_8 (by decide) ?_
  refine lv_iconst (v := 0) hx hb dL_begin_17 (by decide) ?_
  refine W.iret (v := 0) hx hb hr (fun t ht hW => ⟨⟨some (.int 0), _, rfl, ?_, by rw [ht]; exact hm⟩, hS.F ht⟩) hS.2.2 dL_begin_18
  exact ⟨_, hT, hE, ⟨_, rfl⟩⟩

set_option maxHeartbeats 4000000 in
set_option maxRecDepth 100000 in
theorem h_L_drop (l : Launch) (hlt : l.stackTraces = false) (D : va_G) (k : Nat → ClassId) (z : Nat) (M : mM) (κ : Nat → Option KD) (r0 : Nat) (a1 : Int32) (r2 : Nat) (hk_r0 : κ r0 = some .top) (hk_r2 : κ r2 = some .outs) (hT : TM k κ M) : mKN l yL_drop wsL_drop ({ frames := 8, cells := 1, slots := 6, locals := 126 }) D k z [.ref r0, .int a1, .ref r2] M (fun v M' => ∃ κ', TM k κ' M' ∧ kx κ M κ' M' ∧ ∃ x, v = some (.int x)) := by
  refine tc_ofWH (cc := cL_drop) (maxL := 4) (ret := (some .int)) (hh := [(0, 9, 12, 13)]) (by decide) rfl ?_
  intro p e s m args below meth c s₁ B hml hv
  obtain ⟨rfl, hz, hcxN, hm⟩ := hv
  have hcx := hcxN.1
  have hx := B.exec
  have hb := B.bytes
  have hr := B.returns
  have hts := atoms_spec (ws := wsL_drop) B.pre
  have hown : s.vm.findClass RL = some m.cls := findClass_of_methodNamed B.named
  have hlocks := B.notSynchronized
  have hK := hcx.1
  have hS : va_S (AZ z) s.heap s.heap [] := va_S.rf
  have hA : ∀ q, s.heap.size ≤ q → AZ z q := fun q h => Nat.le_trans hz h
  have htab := vx_table (x := yL_drop) B (hts (.codeWith yL_drop cL_drop 4 (some .int) [(0, 9, 12, 13)]) List.mem_cons_self)
  have hl := lv_entry ([.ref r0, .int a1, .ref r2]) (n := 4) (Nat.le_of_ble_eq_true rfl)
  rw [lg_entry_eq]
  generalize (lg_sl ([.ref r0, .int a1, .ref r2]) ++ List.replicate (4 - (lg_sl ([.ref r0, .int a1, .ref r2])).length) Slot.unset).toArray = ls at hl ⊢
  have hl : lv_has ls 4 [(0, .ref r0), (1, .int a1), (2, .ref r2)] := hl
  have hT0 := hT
  have hE : kx κ M κ M := kx.refl _ _
  refine lv_aload_n hx hb dL_drop_0 rfl (lv_at hl 2 rfl) ?_
  refine lv_iconst (v := 0) hx hb dL_drop_1 (by decide) ?_
  refine lv_aload_n hx hb dL_drop_2 rfl (lv_at hl 0 rfl) ?_
  refine lv_iload_n hx hb dL_drop_3 rfl (lv_at hl 1 rfl) ?_
  obtain ⟨v0_1, v1_1, v2_1, v3_1, v4_1, v5_1, v6_1, v7_1, v8_1, v9_1, v10_1, hM_r0_1, hk_v0_1, hk_v1_1, hk_v2_1, hk_v3_1, hk_v4_1, hk_v5_1, hz_v9_1, hz_v10_1⟩ := hT.top hk_r0
  refine m_cV (As := [.int a1]) (rest := [.int 0, .ref r2]) (rm := { frames := 7, cells := 1, slots := 6, locals := 104 }) ⟨hx, hb, hml, hown, hts⟩ (t_X5_drop_I l hlt D k z _ _ r0 a1 hk_r0 hT) (cwV 1 hts gL_drop_X5_drop rfl rfl rfl (by decide +kernel) ⟨Nat.le_of_ble_eq_true rfl, Nat.le_of_ble_eq_true rfl⟩) (m_recv hK hm (q := (RX5, TX5, 11)) rfl hM_r0_1) hz hcx hm hS rfl hl.1 rfl (Nat.le_of_ble_eq_true rfl) dL_drop_4 ⟨Nat.le_of_ble_eq_true rfl, Nat.le_of_ble_eq_true rfl⟩ (fun E ce q9 M1 H locs hv hm hS hce hcv hcl => ?_) (fun v M1 H locs hv hm hS => ?_)
  · obtain ⟨hE8, κ8, hT8, hx8⟩ := hv
    have hk_r0 := hx8.k hT hk_r0
    have hk_r2 := hx8.k hT hk_r2
    have hE := hE.trans hT0 hT hx8
    have hT := hT8
    obtain ⟨Mc1, hMx⟩ : ∃ x : mM, x = M1 := ⟨M1, rfl⟩
    subst hMx
    simp only [List.mem_cons, List.not_mem_nil, or_false] at hE8
    subst hE8
    refine tc_catch (E := "java/lang/IllegalStateException") (name := "java/lang/IllegalStateException") hown [] ⟨0, 9, 12, 13⟩ [] (by rw [htab]; rfl) (fun z9 hz9 => by simp at hz9) (by decide) (by decide) (hts (.classLink RL 13 "java/lang/IllegalStateException") (by decide +kernel)) (hcx.dw _ (.castable "java/lang/IllegalStateException" "java/lang/IllegalStateException") (by decide +kernel)) hce hcv hcl ?_
    refine W.widen (k := 1) (n := 6) (Nat.le_of_ble_eq_true rfl) (Nat.le_of_ble_eq_true rfl) ?_
    refine W.eq (g2 := F0 m 12 ls [.ref q9]) rfl ?_
    refine lv_astore_n (lv' := [(3, .ref q9), (0, .ref r0), (1, .int a1), (2, .ref r2)]) hx hb dL_drop_12 rfl hl (by decide) rfl (fun ls hl => ?_)
    refine lv_iconst (v := 1) hx hb dL_drop_13 (by decide) ?_
    refine W.iret (v := 1) hx hb hr (fun t ht hW => ⟨⟨some (.int 1), _, rfl, ?_, by rw [ht]; exact hm⟩, hS.F ht⟩) hS.2.2 dL_drop_14
    exact ⟨_, hT, hE, ⟨_, rfl⟩⟩
  obtain ⟨κ2, hT9, hE9, hv1⟩ := hv
  have hk_r0 := hE9.k hT hk_r0
  have hk_r2 := hE9.k hT hk_r2
  have hE := hE.trans hT0 hT hE9
  have hT := hT9
  obtain ⟨Mc2, hMx⟩ : ∃ x : mM, x = M1 := ⟨M1, rfl⟩
  subst hMx
  obtain ⟨w2, hv1⟩ := hv1
  subst hv1
  refine W.eq (g2 := F0 m 7 ls [.int w2, .int 0, .ref r2]) rfl ?_
  refine W.widen (k := 1) (n := 6) (Nat.le_of_ble_eq_true rfl) (Nat.le_of_ble_eq_true rfl) ?_
  have hm : mm D (AZ z) Mc2 H := hm
  refine lv_i2l (v := (w2).toInt64) hx hb dL_drop_7 rfl ?_
  obtain ⟨f_3, hM_r2_3⟩ := hT.outs hk_r2
  refine m_last hx hb hK hm hS 1 hM_r2_3 rfl (by unfold vp_in; decide) dL_drop_8 (fun H locs hm hS => ?_)
  have hm : mm D (AZ z) (mu Mc2 r2 (.inl (k 1, 1, .inr (.inl (vp_updL f_3 (0 : Int32).toNatClampNeg (w2).toInt64))))) H := hm
  have hT : TM k κ2 (mu Mc2 r2 (.inl (k 1, 1, .inr (.inl (vp_updL f_3 (0 : Int32).toNatClampNeg (w2).toInt64))))) := hT.put hk_r2 (show wf k κ2 .outs (.inl (k 1, 1, .inr (.inl (vp_updL f_3 (0 : Int32).toNatClampNeg (w2).toInt64)))) from ⟨(vp_updL f_3 (0 : Int32).toNatClampNeg (w2).toInt64), rfl⟩)
  have hE : kx κ M κ2 (mu Mc2 r2 (.inl (k 1, 1, .inr (.inl (vp_updL f_3 (0 : Int32).toNatClampNeg (w2).toInt64))))) := hE.put hk_r2
  generalize (mu Mc2 r2 (.inl (k 1, 1, .inr (.inl (vp_updL f_3 (0 : Int32).toNatClampNeg (w2).toInt64))))) = Mc3 at hm hT hE
  refine lv_goto (tgt := 15) hx hb dL_drop_9 (by decide) ?_
  refine lv_iconst (v := 0) hx hb dL_drop_15 (by decide) ?_
  refine W.iret (v := 0) hx hb hr (fun t ht hW => ⟨⟨some (.int 0), _, rfl, ?_, by rw [ht]; exact hm⟩, hS.F ht⟩) hS.2.2 dL_drop_16
  exact ⟨_, hT, hE, ⟨_, rfl⟩⟩

set_option maxHeartbeats 4000000 in
set_option maxRecDepth 100000 in
theorem h_L_commit (l : Launch) (hlt : l.stackTraces = false) (D : va_G) (k : Nat → ClassId) (z : Nat) (M : mM) (κ : Nat → Option KD) (r0 : Nat) (a1 : Int32) (r2 : Nat) (hk_r0 : κ r0 = some .top) (hk_r2 : κ r2 = some .outs) (hT : TM k κ M) : mKN l yL_commit wsL_commit ({ frames := 8, cells := 121, slots := 4086, locals := 167 }) D k z [.ref r0, .int a1, .ref r2] M (fun v M' => ∃ κ', TM k κ' M' ∧ kx κ M κ' M' ∧ ∃ x, v = some (.int x)) := by
  refine tc_ofWH (cc := cL_commit) (maxL := 4) (ret := (some .int)) (hh := [(0, 9, 12, 13)]) (by decide) rfl ?_
  intro p e s m args below meth c s₁ B hml hv
  obtain ⟨rfl, hz, hcxN, hm⟩ := hv
  have hcx := hcxN.1
  have hx := B.exec
  have hb := B.bytes
  have hr := B.returns
  have hts := atoms_spec (ws := wsL_commit) B.pre
  have hown : s.vm.findClass RL = some m.cls := findClass_of_methodNamed B.named
  have hlocks := B.notSynchronized
  have hK := hcx.1
  have hS : va_S (AZ z) s.heap s.heap [] := va_S.rf
  have hA : ∀ q, s.heap.size ≤ q → AZ z q := fun q h => Nat.le_trans hz h
  have htab := vx_table (x := yL_commit) B (hts (.codeWith yL_commit cL_commit 4 (some .int) [(0, 9, 12, 13)]) List.mem_cons_self)
  have hl := lv_entry ([.ref r0, .int a1, .ref r2]) (n := 4) (Nat.le_of_ble_eq_true rfl)
  rw [lg_entry_eq]
  generalize (lg_sl ([.ref r0, .int a1, .ref r2]) ++ List.replicate (4 - (lg_sl ([.ref r0, .int a1, .ref r2])).length) Slot.unset).toArray = ls at hl ⊢
  have hl : lv_has ls 4 [(0, .ref r0), (1, .int a1), (2, .ref r2)] := hl
  have hT0 := hT
  have hE : kx κ M κ M := kx.refl _ _
  refine lv_aload_n hx hb dL_commit_0 rfl (lv_at hl 2 rfl) ?_
  refine lv_iconst (v := 0) hx hb dL_commit_1 (by decide) ?_
  refine lv_aload_n hx hb dL_commit_2 rfl (lv_at hl 0 rfl) ?_
  refine lv_iload_n hx hb dL_commit_3 rfl (lv_at hl 1 rfl) ?_
  obtain ⟨v0_1, v1_1, v2_1, v3_1, v4_1, v5_1, v6_1, v7_1, v8_1, v9_1, v10_1, hM_r0_1, hk_v0_1, hk_v1_1, hk_v2_1, hk_v3_1, hk_v4_1, hk_v5_1, hz_v9_1, hz_v10_1⟩ := hT.top hk_r0
  refine m_cV (As := [.int a1]) (rest := [.int 0, .ref r2]) (rm := { frames := 7, cells := 121, slots := 4086, locals := 144 }) ⟨hx, hb, hml, hown, hts⟩ (t_X5_commit_I l hlt D k z _ _ r0 a1 hk_r0 hT) (cwV 1 hts gL_commit_X5_commit rfl rfl rfl (by decide +kernel) ⟨Nat.le_of_ble_eq_true rfl, Nat.le_of_ble_eq_true rfl⟩) (m_recv hK hm (q := (RX5, TX5, 11)) rfl hM_r0_1) hz hcx hm hS rfl hl.1 rfl (Nat.le_of_ble_eq_true rfl) dL_commit_4 ⟨Nat.le_of_ble_eq_true rfl, Nat.le_of_ble_eq_true rfl⟩ (fun E ce q9 M1 H locs hv hm hS hce hcv hcl => ?_) (fun v M1 H locs hv hm hS => ?_)
  · obtain ⟨hE8, κ8, hT8, hx8⟩ := hv
    have hk_r0 := hx8.k hT hk_r0
    have hk_r2 := hx8.k hT hk_r2
    have hE := hE.trans hT0 hT hx8
    have hT := hT8
    obtain ⟨Mc1, hMx⟩ : ∃ x : mM, x = M1 := ⟨M1, rfl⟩
    subst hMx
    simp only [List.mem_cons, List.not_mem_nil, or_false] at hE8
    subst hE8
    refine tc_catch (E := "java/lang/IllegalStateException") (name := "java/lang/IllegalStateException") hown [] ⟨0, 9, 12, 13⟩ [] (by rw [htab]; rfl) (fun z9 hz9 => by simp at hz9) (by decide) (by decide) (hts (.classLink RL 13 "java/lang/IllegalStateException") (by decide +kernel)) (hcx.dw _ (.castable "java/lang/IllegalStateException" "java/lang/IllegalStateException") (by decide +kernel)) hce hcv hcl ?_
    refine W.widen (k := 121) (n := 4086) (Nat.le_of_ble_eq_true rfl) (Nat.le_of_ble_eq_true rfl) ?_
    refine W.eq (g2 := F0 m 12 ls [.ref q9]) rfl ?_
    refine lv_astore_n (lv' := [(3, .ref q9), (0, .ref r0), (1, .int a1), (2, .ref r2)]) hx hb dL_commit_12 rfl hl (by decide) rfl (fun ls hl => ?_)
    refine lv_iconst (v := 1) hx hb dL_commit_13 (by decide) ?_
    refine W.iret (v := 1) hx hb hr (fun t ht hW => ⟨⟨some (.int 1), _, rfl, ?_, by rw [ht]; exact hm⟩, hS.F ht⟩) hS.2.2 dL_commit_14
    exact ⟨_, hT, hE, ⟨_, rfl⟩⟩
  obtain ⟨κ2, hT9, hE9, hv1⟩ := hv
  have hk_r0 := hE9.k hT hk_r0
  have hk_r2 := hE9.k hT hk_r2
  have hE := hE.trans hT0 hT hE9
  have hT := hT9
  obtain ⟨Mc2, hMx⟩ : ∃ x : mM, x = M1 := ⟨M1, rfl⟩
  subst hMx
  obtain ⟨w2, hv1⟩ := hv1
  subst hv1
  refine W.eq (g2 := F0 m 7 ls [.int w2, .int 0, .ref r2]) rfl ?_
  refine W.widen (k := 121) (n := 4086) (Nat.le_of_ble_eq_true rfl) (Nat.le_of_ble_eq_true rfl) ?_
  have hm : mm D (AZ z) Mc2 H := hm
  refine lv_i2l (v := (w2).toInt64) hx hb dL_commit_7 rfl ?_
  obtain ⟨f_3, hM_r2_3⟩ := hT.outs hk_r2
  refine m_last hx hb hK hm hS 1 hM_r2_3 rfl (by unfold vp_in; decide) dL_commit_8 (fun H locs hm hS => ?_)
  have hm : mm D (AZ z) (mu Mc2 r2 (.inl (k 1, 1, .inr (.inl (vp_updL f_3 (0 : Int32).toNatClampNeg (w2).toInt64))))) H := hm
  have hT : TM k κ2 (mu Mc2 r2 (.inl (k 1, 1, .inr (.inl (vp_updL f_3 (0 : Int32).toNatClampNeg (w2).toInt64))))) := hT.put hk_r2 (show wf k κ2 .outs (.inl (k 1, 1, .inr (.inl (vp_updL f_3 (0 : Int32).toNatClampNeg (w2).toInt64)))) from ⟨(vp_updL f_3 (0 : Int32).toNatClampNeg (w2).toInt64), rfl⟩)
  have hE : kx κ M κ2 (mu Mc2 r2 (.inl (k 1, 1, .inr (.inl (vp_updL f_3 (0 : Int32).toNatClampNeg (w2).toInt64))))) := hE.put hk_r2
  generalize (mu Mc2 r2 (.inl (k 1, 1, .inr (.inl (vp_updL f_3 (0 : Int32).toNatClampNeg (w2).toInt64))))) = Mc3 at hm hT hE
  refine lv_goto (tgt := 15) hx hb dL_commit_9 (by decide) ?_
  refine lv_iconst (v := 0) hx hb dL_commit_15 (by decide) ?_
  refine W.iret (v := 0) hx hb hr (fun t ht hW => ⟨⟨some (.int 0), _, rfl, ?_, by rw [ht]; exact hm⟩, hS.F ht⟩) hS.2.2 dL_commit_16
  exact ⟨_, hT, hE, ⟨_, rfl⟩⟩

set_option maxHeartbeats 4000000 in
set_option maxRecDepth 100000 in
theorem h_L_check (l : Launch) (hlt : l.stackTraces = false) (D : va_G) (k : Nat → ClassId) (z : Nat) (M : mM) (κ : Nat → Option KD) (r0 : Nat) (a1 : Int32) (r2 : Nat) (hk_r0 : κ r0 = some .top) (hk_r2 : κ r2 = some .outs) (hT : TM k κ M) : mKN l yL_check wsL_check ({ frames := 8, cells := 1, slots := 6, locals := 165 }) D k z [.ref r0, .int a1, .ref r2] M (fun v M' => ∃ κ', TM k κ' M' ∧ kx κ M κ' M' ∧ ∃ x, v = some (.int x)) := by
  refine tc_ofWH (cc := cL_check) (maxL := 4) (ret := (some .int)) (hh := [(0, 9, 12, 13)]) (by decide) rfl ?_
  intro p e s m args below meth c s₁ B hml hv
  obtain ⟨rfl, hz, hcxN, hm⟩ := hv
  have hcx := hcxN.1
  have hx := B.exec
  have hb := B.bytes
  have hr := B.returns
  have hts := atoms_spec (ws := wsL_check) B.pre
  have hown : s.vm.findClass RL = some m.cls := findClass_of_methodNamed B.named
  have hlocks := B.notSynchronized
  have hK := hcx.1
  have hS : va_S (AZ z) s.heap s.heap [] := va_S.rf
  have hA : ∀ q, s.heap.size ≤ q → AZ z q := fun q h => Nat.le_trans hz h
  have htab := vx_table (x := yL_check) B (hts (.codeWith yL_check cL_check 4 (some .int) [(0, 9, 12, 13)]) List.mem_cons_self)
  have hl := lv_entry ([.ref r0, .int a1, .ref r2]) (n := 4) (Nat.le_of_ble_eq_true rfl)
  rw [lg_entry_eq]
  generalize (lg_sl ([.ref r0, .int a1, .ref r2]) ++ List.replicate (4 - (lg_sl ([.ref r0, .int a1, .ref r2])).length) Slot.unset).toArray = ls at hl ⊢
  have hl : lv_has ls 4 [(0, .ref r0), (1, .int a1), (2, .ref r2)] := hl
  have hT0 := hT
  have hE : kx κ M κ M := kx.refl _ _
  refine lv_aload_n hx hb dL_check_0 rfl (lv_at hl 2 rfl) ?_
  refine lv_iconst (v := 0) hx hb dL_check_1 (by decide) ?_
  refine lv_aload_n hx hb dL_check_2 rfl (lv_at hl 0 rfl) ?_
  refine lv_iload_n hx hb dL_check_3 rfl (lv_at hl 1 rfl) ?_
  obtain ⟨v0_1, v1_1, v2_1, v3_1, v4_1, v5_1, v6_1, v7_1, v8_1, v9_1, v10_1, hM_r0_1, hk_v0_1, hk_v1_1, hk_v2_1, hk_v3_1, hk_v4_1, hk_v5_1, hz_v9_1, hz_v10_1⟩ := hT.top hk_r0
  refine m_cV (As := [.int a1]) (rest := [.int 0, .ref r2]) (rm := { frames := 7, cells := 1, slots := 6, locals := 144 }) ⟨hx, hb, hml, hown, hts⟩ (t_X5_check_I l hlt D k z _ _ r0 a1 hk_r0 hT) (cwV 1 hts gL_check_X5_check rfl rfl rfl (by decide +kernel) ⟨Nat.le_of_ble_eq_true rfl, Nat.le_of_ble_eq_true rfl⟩) (m_recv hK hm (q := (RX5, TX5, 11)) rfl hM_r0_1) hz hcx hm hS rfl hl.1 rfl (Nat.le_of_ble_eq_true rfl) dL_check_4 ⟨Nat.le_of_ble_eq_true rfl, Nat.le_of_ble_eq_true rfl⟩ (fun E ce q9 M1 H locs hv hm hS hce hcv hcl => ?_) (fun v M1 H locs hv hm hS => ?_)
  · obtain ⟨hE8, κ8, hT8, hx8⟩ := hv
    have hk_r0 := hx8.k hT hk_r0
    have hk_r2 := hx8.k hT hk_r2
    have hE := hE.trans hT0 hT hx8
    have hT := hT8
    obtain ⟨Mc1, hMx⟩ : ∃ x : mM, x = M1 := ⟨M1, rfl⟩
    subst hMx
    simp only [List.mem_cons, List.not_mem_nil, or_false] at hE8
    subst hE8
    refine tc_catch (E := "java/lang/IllegalStateException") (name := "java/lang/IllegalStateException") hown [] ⟨0, 9, 12, 13⟩ [] (by rw [htab]; rfl) (fun z9 hz9 => by simp at hz9) (by decide) (by decide) (hts (.classLink RL 13 "java/lang/IllegalStateException") (by decide +kernel)) (hcx.dw _ (.castable "java/lang/IllegalStateException" "java/lang/IllegalStateException") (by decide +kernel)) hce hcv hcl ?_
    refine W.widen (k := 1) (n := 6) (Nat.le_of_ble_eq_true rfl) (Nat.le_of_ble_eq_true rfl) ?_
    refine W.eq (g2 := F0 m 12 ls [.ref q9]) rfl ?_
    refine lv_astore_n (lv' := [(3, .ref q9), (0, .ref r0), (1, .int a1), (2, .ref r2)]) hx hb dL_check_12 rfl hl (by decide) rfl (fun ls hl => ?_)
    refine lv_iconst (v := 1) hx hb dL_check_13 (by decide) ?_
    refine W.iret (v := 1) hx hb hr (fun t ht hW => ⟨⟨some (.int 1), _, rfl, ?_, by rw [ht]; exact hm⟩, hS.F ht⟩) hS.2.2 dL_check_14
    exact ⟨_, hT, hE, ⟨_, rfl⟩⟩
  obtain ⟨κ2, hT9, hE9, hv1⟩ := hv
  have hk_r0 := hE9.k hT hk_r0
  have hk_r2 := hE9.k hT hk_r2
  have hE := hE.trans hT0 hT hE9
  have hT := hT9
  obtain ⟨Mc2, hMx⟩ : ∃ x : mM, x = M1 := ⟨M1, rfl⟩
  subst hMx
  obtain ⟨w2, hv1⟩ := hv1
  subst hv1
  refine W.eq (g2 := F0 m 7 ls [.int w2, .int 0, .ref r2]) rfl ?_
  refine W.widen (k := 1) (n := 6) (Nat.le_of_ble_eq_true rfl) (Nat.le_of_ble_eq_true rfl) ?_
  have hm : mm D (AZ z) Mc2 H := hm
  refine lv_i2l (v := (w2).toInt64) hx hb dL_check_7 rfl ?_
  obtain ⟨f_3, hM_r2_3⟩ := hT.outs hk_r2
  refine m_last hx hb hK hm hS 1 hM_r2_3 rfl (by unfold vp_in; decide) dL_check_8 (fun H locs hm hS => ?_)
  have hm : mm D (AZ z) (mu Mc2 r2 (.inl (k 1, 1, .inr (.inl (vp_updL f_3 (0 : Int32).toNatClampNeg (w2).toInt64))))) H := hm
  have hT : TM k κ2 (mu Mc2 r2 (.inl (k 1, 1, .inr (.inl (vp_updL f_3 (0 : Int32).toNatClampNeg (w2).toInt64))))) := hT.put hk_r2 (show wf k κ2 .outs (.inl (k 1, 1, .inr (.inl (vp_updL f_3 (0 : Int32).toNatClampNeg (w2).toInt64)))) from ⟨(vp_updL f_3 (0 : Int32).toNatClampNeg (w2).toInt64), rfl⟩)
  have hE : kx κ M κ2 (mu Mc2 r2 (.inl (k 1, 1, .inr (.inl (vp_updL f_3 (0 : Int32).toNatClampNeg (w2).toInt64))))) := hE.put hk_r2
  generalize (mu Mc2 r2 (.inl (k 1, 1, .inr (.inl (vp_updL f_3 (0 : Int32).toNatClampNeg (w2).toInt64))))) = Mc3 at hm hT hE
  refine lv_goto (tgt := 15) hx hb dL_check_9 (by decide) ?_
  refine lv_iconst (v := 0) hx hb dL_check_15 (by decide) ?_
  refine W.iret (v := 0) hx hb hr (fun t ht hW => ⟨⟨some (.int 0), _, rfl, ?_, by rw [ht]; exact hm⟩, hS.F ht⟩) hS.2.2 dL_check_16
  exact ⟨_, hT, hE, ⟨_, rfl⟩⟩

set_option maxHeartbeats 4000000 in
set_option maxRecDepth 100000 in
theorem h_L_makeRII0 (l : Launch) (hlt : l.stackTraces = false) (D : va_G) (k : Nat → ClassId) (z : Nat) (M : mM) (κ : Nat → Option KD) (r0 : Nat) (a1 : Int32) (a2 : Int32) (hk_r0 : κ r0 = some .top) (hT : TM k κ M) : mKN l yL_make wsL_make ({ frames := 8, cells := 7, slots := 154, locals := 140 }) D k z [.ref r0, .int a1, .int a2, .int 0] M (fun v M' => ∃ κ', TM k κ' M' ∧ kx κ M κ' M' ∧ ∃ x, v = some (.int x)) := by
  refine tc_ofWH (cc := cL_make) (maxL := 5) (ret := (some .int)) (hh := [(0, 7, 10, 13), (0, 7, 14, 31), (0, 7, 18, 33), (0, 7, 22, 15)]) (by decide) rfl ?_
  intro p e s m args below meth c s₁ B hml hv
  obtain ⟨rfl, hz, hcxN, hm⟩ := hv
  have hcx := hcxN.1
  have hx := B.exec
  have hb := B.bytes
  have hr := B.returns
  have hts := atoms_spec (ws := wsL_make) B.pre
  have hown : s.vm.findClass RL = some m.cls := findClass_of_methodNamed B.named
  have hlocks := B.notSynchronized
  have hK := hcx.1
  have hS : va_S (AZ z) s.heap s.heap [] := va_S.rf
  have hA : ∀ q, s.heap.size ≤ q → AZ z q := fun q h => Nat.le_trans hz h
  have htab := vx_table (x := yL_make) B (hts (.codeWith yL_make cL_make 5 (some .int) [(0, 7, 10, 13), (0, 7, 14, 31), (0, 7, 18, 33), (0, 7, 22, 15)]) List.mem_cons_self)
  have hl := lv_entry ([.ref r0, .int a1, .int a2, .int 0]) (n := 5) (Nat.le_of_ble_eq_true rfl)
  rw [lg_entry_eq]
  generalize (lg_sl ([.ref r0, .int a1, .int a2, .int 0]) ++ List.replicate (5 - (lg_sl ([.ref r0, .int a1, .int a2, .int 0])).length) Slot.unset).toArray = ls at hl ⊢
  have hl : lv_has ls 5 [(0, .ref r0), (1, .int a1), (2, .int a2), (3, .int 0)] := hl
  have hT0 := hT
  have hE : kx κ M κ M := kx.refl _ _
  refine lv_aload_n hx hb dL_make_0 rfl (lv_at hl 0 rfl) ?_
  refine lv_iload_n hx hb dL_make_1 rfl (lv_at hl 1 rfl) ?_
  refine lv_iload_n hx hb dL_make_2 rfl (lv_at hl 2 rfl) ?_
  refine lv_iload_n hx hb dL_make_3 rfl (lv_at hl 3 rfl) ?_
  obtain ⟨v0_1, v1_1, v2_1, v3_1, v4_1, v5_1, v6_1, v7_1, v8_1, v9_1, v10_1, hM_r0_1, hk_v0_1, hk_v1_1, hk_v2_1, hk_v3_1, hk_v4_1, hk_v5_1, hz_v9_1, hz_v10_1⟩ := hT.top hk_r0
  refine m_cV (As := [.int a1, .int a2, .int 0]) (rest := []) (rm := { frames := 7, cells := 7, slots := 154, locals := 115 }) ⟨hx, hb, hml, hown, hts⟩ (t_X5_make_II0 l hlt D k z _ _ r0 a1 a2 hk_r0 hT) (cwV 3 hts gL_make_X5_make rfl rfl rfl (by decide +kernel) ⟨Nat.le_of_ble_eq_true rfl, Nat.le_of_ble_eq_true rfl⟩) (m_recv hK hm (q := (RX5, TX5, 11)) rfl hM_r0_1) hz hcx hm hS rfl hl.1 rfl (Nat.le_of_ble_eq_true rfl) dL_make_4 ⟨Nat.le_of_ble_eq_true rfl, Nat.le_of_ble_eq_true rfl⟩ (fun E ce q9 M1 H locs hv hm hS hce hcv hcl => ?_) (fun v M1 H locs hv hm hS => ?_)
  · obtain ⟨hE8, κ8, hT8, hx8⟩ := hv
    have hk_r0 := hx8.k hT hk_r0
    have hE := hE.trans hT0 hT hx8
    have hT := hT8
    obtain ⟨Mc1, hMx⟩ : ∃ x : mM, x = M1 := ⟨M1, rfl⟩
    subst hMx
    simp only [List.mem_cons, List.not_mem_nil, or_false] at hE8
    rcases hE8 with hE8 | hE8 | hE8 | hE8
    · subst hE8
      refine tc_catch (E := "java/lang/UnsupportedOperationException") (name := "java/lang/UnsupportedOperationException") hown [⟨0, 7, 10, 13⟩, ⟨0, 7, 14, 31⟩, ⟨0, 7, 18, 33⟩] ⟨0, 7, 22, 15⟩ [] (by rw [htab]; rfl) (fun z9 hz9 => by
          simp only [List.mem_cons, List.not_mem_nil, or_false] at hz9
          rcases hz9 with rfl | rfl | rfl
          · exact Or.inr ⟨by decide, "java/lang/IllegalStateException", hts (.classLink RL 13 "java/lang/IllegalStateException") (by decide +kernel), hcxN.2 ("java/lang/UnsupportedOperationException", "java/lang/IllegalStateException") (by decide +kernel)⟩
          · exact Or.inr ⟨by decide, "java/lang/IllegalArgumentException", hts (.classLink RL 31 "java/lang/IllegalArgumentException") (by decide +kernel), hcxN.2 ("java/lang/UnsupportedOperationException", "java/lang/IllegalArgumentException") (by decide +kernel)⟩
          · exact Or.inr ⟨by decide, "java/util/NoSuchElementException", hts (.classLink RL 33 "java/util/NoSuchElementException") (by decide +kernel), hcxN.2 ("java/lang/UnsupportedOperationException", "java/util/NoSuchElementException") (by decide +kernel)⟩) (by decide) (by decide) (hts (.classLink RL 15 "java/lang/UnsupportedOperationException") (by decide +kernel)) (hcx.dw _ (.castable "java/lang/UnsupportedOperationException" "java/lang/UnsupportedOperationException") (by decide +kernel)) hce hcv hcl ?_
      refine W.widen (k := 7) (n := 154) (Nat.le_of_ble_eq_true rfl) (Nat.le_of_ble_eq_true rfl) ?_
      refine W.eq (g2 := F0 m 22 ls [.ref q9]) rfl ?_
      refine lv_astore (lv' := [(4, .ref q9), (0, .ref r0), (1, .int a1), (2, .int a2), (3, .int 0)]) hx hb dL_make_22 hl (by decide) rfl (fun ls hl => ?_)
      refine lv_iconst (v := 4) hx hb dL_make_24 (by decide) ?_
      refine W.iret (v := 4) hx hb hr (fun t ht hW => ⟨⟨some (.int 4), _, rfl, ?_, by rw [ht]; exact hm⟩, hS.F ht⟩) hS.2.2 dL_make_25
      exact ⟨_, hT, hE, ⟨_, rfl⟩⟩
    · subst hE8
      refine tc_catch (E := "java/lang/IllegalStateException") (name := "java/lang/IllegalStateException") hown [] ⟨0, 7, 10, 13⟩ [⟨0, 7, 14, 31⟩, ⟨0, 7, 18, 33⟩, ⟨0, 7, 22, 15⟩] (by rw [htab]; rfl) (fun z9 hz9 => by simp at hz9) (by decide) (by decide) (hts (.classLink RL 13 "java/lang/IllegalStateException") (by decide +kernel)) (hcx.dw _ (.castable "java/lang/IllegalStateException" "java/lang/IllegalStateException") (by decide +kernel)) hce hcv hcl ?_
      refine W.widen (k := 7) (n := 154) (Nat.le_of_ble_eq_true rfl) (Nat.le_of_ble_eq_true rfl) ?_
      refine W.eq (g2 := F0 m 10 ls [.ref q9]) rfl ?_
      refine lv_astore (lv' := [(4, .ref q9), (0, .ref r0), (1, .int a1), (2, .int a2), (3, .int 0)]) hx hb dL_make_10 hl (by decide) rfl (fun ls hl => ?_)
      refine lv_iconst (v := 1) hx hb dL_make_12 (by decide) ?_
      refine W.iret (v := 1) hx hb hr (fun t ht hW => ⟨⟨some (.int 1), _, rfl, ?_, by rw [ht]; exact hm⟩, hS.F ht⟩) hS.2.2 dL_make_13
      exact ⟨_, hT, hE, ⟨_, rfl⟩⟩
    · subst hE8
      refine tc_catch (E := "java/lang/IllegalArgumentException") (name := "java/lang/IllegalArgumentException") hown [⟨0, 7, 10, 13⟩] ⟨0, 7, 14, 31⟩ [⟨0, 7, 18, 33⟩, ⟨0, 7, 22, 15⟩] (by rw [htab]; rfl) (fun z9 hz9 => by
          simp only [List.mem_cons, List.not_mem_nil, or_false] at hz9
          rcases hz9 with rfl
          · exact Or.inr ⟨by decide, "java/lang/IllegalStateException", hts (.classLink RL 13 "java/lang/IllegalStateException") (by decide +kernel), hcxN.2 ("java/lang/IllegalArgumentException", "java/lang/IllegalStateException") (by decide +kernel)⟩) (by decide) (by decide) (hts (.classLink RL 31 "java/lang/IllegalArgumentException") (by decide +kernel)) (hcx.dw _ (.castable "java/lang/IllegalArgumentException" "java/lang/IllegalArgumentException") (by decide +kernel)) hce hcv hcl ?_
      refine W.widen (k := 7) (n := 154) (Nat.le_of_ble_eq_true rfl) (Nat.le_of_ble_eq_true rfl) ?_
      refine W.eq (g2 := F0 m 14 ls [.ref q9]) rfl ?_
      refine lv_astore (lv' := [(4, .ref q9), (0, .ref r0), (1, .int a1), (2, .int a2), (3, .int 0)]) hx hb dL_make_14 hl (by decide) rfl (fun ls hl => ?_)
      refine lv_iconst (v := 2) hx hb dL_make_16 (by decide) ?_
      refine W.iret (v := 2) hx hb hr (fun t ht hW => ⟨⟨some (.int 2), _, rfl, ?_, by rw [ht]; exact hm⟩, hS.F ht⟩) hS.2.2 dL_make_17
      exact ⟨_, hT, hE, ⟨_, rfl⟩⟩
    · subst hE8
      refine tc_catch (E := "java/util/NoSuchElementException") (name := "java/util/NoSuchElementException") hown [⟨0, 7, 10, 13⟩, ⟨0, 7, 14, 31⟩] ⟨0, 7, 18, 33⟩ [⟨0, 7, 22, 15⟩] (by rw [htab]; rfl) (fun z9 hz9 => by
          simp only [List.mem_cons, List.not_mem_nil, or_false] at hz9
          rcases hz9 with rfl | rfl
          · exact Or.inr ⟨by decide, "java/lang/IllegalStateException", hts (.classLink RL 13 "java/lang/IllegalStateException") (by decide +kernel), hcxN.2 ("java/util/NoSuchElementException", "java/lang/IllegalStateException") (by decide +kernel)⟩
          · exact Or.inr ⟨by decide, "java/lang/IllegalArgumentException", hts (.classLink RL 31 "java/lang/IllegalArgumentException") (by decide +kernel), hcxN.2 ("java/util/NoSuchElementException", "java/lang/IllegalArgumentException") (by decide +kernel)⟩) (by decide) (by decide) (hts (.classLink RL 33 "java/util/NoSuchElementException") (by decide +kernel)) (hcx.dw _ (.castable "java/util/NoSuchElementException" "java/util/NoSuchElementException") (by decide +kernel)) hce hcv hcl ?_
      refine W.widen (k := 7) (n := 154) (Nat.le_of_ble_eq_true rfl) (Nat.le_of_ble_eq_true rfl) ?_
      refine W.eq (g2 := F0 m 18 ls [.ref q9]) rfl ?_
      refine lv_astore (lv' := [(4, .ref q9), (0, .ref r0), (1, .int a1), (2, .int a2), (3, .int 0)]) hx hb dL_make_18 hl (by decide) rfl (fun ls hl => ?_)
      refine lv_iconst (v := 3) hx hb dL_make_20 (by decide) ?_
      refine W.iret (v := 3) hx hb hr (fun t ht hW => ⟨⟨some (.int 3), _, rfl, ?_, by rw [ht]; exact hm⟩, hS.F ht⟩) hS.2.2 dL_make_21
      exact ⟨_, hT, hE, ⟨_, rfl⟩⟩
  obtain ⟨κ2, hT9, hE9, hv1⟩ := hv
  have hk_r0 := hE9.k hT hk_r0
  have hE := hE.trans hT0 hT hE9
  have hT := hT9
  obtain ⟨Mc2, hMx⟩ : ∃ x : mM, x = M1 := ⟨M1, rfl⟩
  subst hMx
  subst hv1
  refine W.eq (g2 := F0 m 7 ls []) rfl ?_
  refine W.widen (k := 7) (n := 154) (Nat.le_of_ble_eq_true rfl) (Nat.le_of_ble_eq_true rfl) ?_
  have hm : mm D (AZ z) Mc2 H := hm
  refine lv_goto (tgt := 26) hx hb dL_make_7 (by decide) ?_
  refine lv_iconst (v := 0) hx hb dL_make_26 (by decide) ?_
  refine W.iret (v := 0) hx hb hr (fun t ht hW => ⟨⟨some (.int 0), _, rfl, ?_, by rw [ht]; exact hm⟩, hS.F ht⟩) hS.2.2 dL_make_27
  exact ⟨_, hT, hE, ⟨_, rfl⟩⟩

set_option maxHeartbeats 4000000 in
set_option maxRecDepth 100000 in
theorem h_L_makeRII1 (l : Launch) (hlt : l.stackTraces = false) (D : va_G) (k : Nat → ClassId) (z : Nat) (M : mM) (κ : Nat → Option KD) (r0 : Nat) (a1 : Int32) (a2 : Int32) (hk_r0 : κ r0 = some .top) (hT : TM k κ M) : mKN l yL_make wsL_make ({ frames := 8, cells := 7, slots := 106, locals := 140 }) D k z [.ref r0, .int a1, .int a2, .int 1] M (fun v M' => ∃ κ', TM k κ' M' ∧ kx κ M κ' M' ∧ ∃ x, v = some (.int x)) := by
  refine tc_ofWH (cc := cL_make) (maxL := 5) (ret := (some .int)) (hh := [(0, 7, 10, 13), (0, 7, 14, 31), (0, 7, 18, 33), (0, 7, 22, 15)]) (by decide) rfl ?_
  intro p e s m args below meth c s₁ B hml hv
  obtain ⟨rfl, hz, hcxN, hm⟩ := hv
  have hcx := hcxN.1
  have hx := B.exec
  have hb := B.bytes
  have hr := B.returns
  have hts := atoms_spec (ws := wsL_make) B.pre
  have hown : s.vm.findClass RL = some m.cls := findClass_of_methodNamed B.named
  have hlocks := B.notSynchronized
  have hK := hcx.1
  have hS : va_S (AZ z) s.heap s.heap [] := va_S.rf
  have hA : ∀ q, s.heap.size ≤ q → AZ z q := fun q h => Nat.le_trans hz h
  have htab := vx_table (x := yL_make) B (hts (.codeWith yL_make cL_make 5 (some .int) [(0, 7, 10, 13), (0, 7, 14, 31), (0, 7, 18, 33), (0, 7, 22, 15)]) List.mem_cons_self)
  have hl := lv_entry ([.ref r0, .int a1, .int a2, .int 1]) (n := 5) (Nat.le_of_ble_eq_true rfl)
  rw [lg_entry_eq]
  generalize (lg_sl ([.ref r0, .int a1, .int a2, .int 1]) ++ List.replicate (5 - (lg_sl ([.ref r0, .int a1, .int a2, .int 1])).length) Slot.unset).toArray = ls at hl ⊢
  have hl : lv_has ls 5 [(0, .ref r0), (1, .int a1), (2, .int a2), (3, .int 1)] := hl
  have hT0 := hT
  have hE : kx κ M κ M := kx.refl _ _
  refine lv_aload_n hx hb dL_make_0 rfl (lv_at hl 0 rfl) ?_
  refine lv_iload_n hx hb dL_make_1 rfl (lv_at hl 1 rfl) ?_
  refine lv_iload_n hx hb dL_make_2 rfl (lv_at hl 2 rfl) ?_
  refine lv_iload_n hx hb dL_make_3 rfl (lv_at hl 3 rfl) ?_
  obtain ⟨v0_1, v1_1, v2_1, v3_1, v4_1, v5_1, v6_1, v7_1, v8_1, v9_1, v10_1, hM_r0_1, hk_v0_1, hk_v1_1, hk_v2_1, hk_v3_1, hk_v4_1, hk_v5_1, hz_v9_1, hz_v10_1⟩ := hT.top hk_r0
  refine m_cV (As := [.int a1, .int a2, .int 1]) (rest := []) (rm := { frames := 7, cells := 7, slots := 106, locals := 115 }) ⟨hx, hb, hml, hown, hts⟩ (t_X5_make_II1 l hlt D k z _ _ r0 a1 a2 hk_r0 hT) (cwV 3 hts gL_make_X5_make rfl rfl rfl (by decide +kernel) ⟨Nat.le_of_ble_eq_true rfl, Nat.le_of_ble_eq_true rfl⟩) (m_recv hK hm (q := (RX5, TX5, 11)) rfl hM_r0_1) hz hcx hm hS rfl hl.1 rfl (Nat.le_of_ble_eq_true rfl) dL_make_4 ⟨Nat.le_of_ble_eq_true rfl, Nat.le_of_ble_eq_true rfl⟩ (fun E ce q9 M1 H locs hv hm hS hce hcv hcl => ?_) (fun v M1 H locs hv hm hS => ?_)
  · obtain ⟨hE8, κ8, hT8, hx8⟩ := hv
    have hk_r0 := hx8.k hT hk_r0
    have hE := hE.trans hT0 hT hx8
    have hT := hT8
    obtain ⟨Mc1, hMx⟩ : ∃ x : mM, x = M1 := ⟨M1, rfl⟩
    subst hMx
    simp only [List.mem_cons, List.not_mem_nil, or_false] at hE8
    rcases hE8 with hE8 | hE8 | hE8 | hE8
    · subst hE8
      refine tc_catch (E := "java/lang/UnsupportedOperationException") (name := "java/lang/UnsupportedOperationException") hown [⟨0, 7, 10, 13⟩, ⟨0, 7, 14, 31⟩, ⟨0, 7, 18, 33⟩] ⟨0, 7, 22, 15⟩ [] (by rw [htab]; rfl) (fun z9 hz9 => by
          simp only [List.mem_cons, List.not_mem_nil, or_false] at hz9
          rcases hz9 with rfl | rfl | rfl
          · exact Or.inr ⟨by decide, "java/lang/IllegalStateException", hts (.classLink RL 13 "java/lang/IllegalStateException") (by decide +kernel), hcxN.2 ("java/lang/UnsupportedOperationException", "java/lang/IllegalStateException") (by decide +kernel)⟩
          · exact Or.inr ⟨by decide, "java/lang/IllegalArgumentException", hts (.classLink RL 31 "java/lang/IllegalArgumentException") (by decide +kernel), hcxN.2 ("java/lang/UnsupportedOperationException", "java/lang/IllegalArgumentException") (by decide +kernel)⟩
          · exact Or.inr ⟨by decide, "java/util/NoSuchElementException", hts (.classLink RL 33 "java/util/NoSuchElementException") (by decide +kernel), hcxN.2 ("java/lang/UnsupportedOperationException", "java/util/NoSuchElementException") (by decide +kernel)⟩) (by decide) (by decide) (hts (.classLink RL 15 "java/lang/UnsupportedOperationException") (by decide +kernel)) (hcx.dw _ (.castable "java/lang/UnsupportedOperationException" "java/lang/UnsupportedOperationException") (by decide +kernel)) hce hcv hcl ?_
      refine W.widen (k := 7) (n := 106) (Nat.le_of_ble_eq_true rfl) (Nat.le_of_ble_eq_true rfl) ?_
      refine W.eq (g2 := F0 m 22 ls [.ref q9]) rfl ?_
      refine lv_astore (lv' := [(4, .ref q9), (0, .ref r0), (1, .int a1), (2, .int a2), (3, .int 1)]) hx hb dL_make_22 hl (by decide) rfl (fun ls hl => ?_)
      refine lv_iconst (v := 4) hx hb dL_make_24 (by decide) ?_
      refine W.iret (v := 4) hx hb hr (fun t ht hW => ⟨⟨some (.int 4), _, rfl, ?_, by rw [ht]; exact hm⟩, hS.F ht⟩) hS.2.2 dL_make_25
      exact ⟨_, hT, hE, ⟨_, rfl⟩⟩
    · subst hE8
      refine tc_catch (E := "java/lang/IllegalStateException") (name := "java/lang/IllegalStateException") hown [] ⟨0, 7, 10, 13⟩ [⟨0, 7, 14, 31⟩, ⟨0, 7, 18, 33⟩, ⟨0, 7, 22, 15⟩] (by rw [htab]; rfl) (fun z9 hz9 => by simp at hz9) (by decide) (by decide) (hts (.classLink RL 13 "java/lang/IllegalStateException") (by decide +kernel)) (hcx.dw _ (.castable "java/lang/IllegalStateException" "java/lang/IllegalStateException") (by decide +kernel)) hce hcv hcl ?_
      refine W.widen (k := 7) (n := 106) (Nat.le_of_ble_eq_true rfl) (Nat.le_of_ble_eq_true rfl) ?_
      refine W.eq (g2 := F0 m 10 ls [.ref q9]) rfl ?_
      refine lv_astore (lv' := [(4, .ref q9), (0, .ref r0), (1, .int a1), (2, .int a2), (3, .int 1)]) hx hb dL_make_10 hl (by decide) rfl (fun ls hl => ?_)
      refine lv_iconst (v := 1) hx hb dL_make_12 (by decide) ?_
      refine W.iret (v := 1) hx hb hr (fun t ht hW => ⟨⟨some (.int 1), _, rfl, ?_, by rw [ht]; exact hm⟩, hS.F ht⟩) hS.2.2 dL_make_13
      exact ⟨_, hT, hE, ⟨_, rfl⟩⟩
    · subst hE8
      refine tc_catch (E := "java/lang/IllegalArgumentException") (name := "java/lang/IllegalArgumentException") hown [⟨0, 7, 10, 13⟩] ⟨0, 7, 14, 31⟩ [⟨0, 7, 18, 33⟩, ⟨0, 7, 22, 15⟩] (by rw [htab]; rfl) (fun z9 hz9 => by
          simp only [List.mem_cons, List.not_mem_nil, or_false] at hz9
          rcases hz9 with rfl
          · exact Or.inr ⟨by decide, "java/lang/IllegalStateException", hts (.classLink RL 13 "java/lang/IllegalStateException") (by decide +kernel), hcxN.2 ("java/lang/IllegalArgumentException", "java/lang/IllegalStateException") (by decide +kernel)⟩) (by decide) (by decide) (hts (.classLink RL 31 "java/lang/IllegalArgumentException") (by decide +kernel)) (hcx.dw _ (.castable "java/lang/IllegalArgumentException" "java/lang/IllegalArgumentException") (by decide +kernel)) hce hcv hcl ?_
      refine W.widen (k := 7) (n := 106) (Nat.le_of_ble_eq_true rfl) (Nat.le_of_ble_eq_true rfl) ?_
      refine W.eq (g2 := F0 m 14 ls [.ref q9]) rfl ?_
      refine lv_astore (lv' := [(4, .ref q9), (0, .ref r0), (1, .int a1), (2, .int a2), (3, .int 1)]) hx hb dL_make_14 hl (by decide) rfl (fun ls hl => ?_)
      refine lv_iconst (v := 2) hx hb dL_make_16 (by decide) ?_
      refine W.iret (v := 2) hx hb hr (fun t ht hW => ⟨⟨some (.int 2), _, rfl, ?_, by rw [ht]; exact hm⟩, hS.F ht⟩) hS.2.2 dL_make_17
      exact ⟨_, hT, hE, ⟨_, rfl⟩⟩
    · subst hE8
      refine tc_catch (E := "java/util/NoSuchElementException") (name := "java/util/NoSuchElementException") hown [⟨0, 7, 10, 13⟩, ⟨0, 7, 14, 31⟩] ⟨0, 7, 18, 33⟩ [⟨0, 7, 22, 15⟩] (by rw [htab]; rfl) (fun z9 hz9 => by
          simp only [List.mem_cons, List.not_mem_nil, or_false] at hz9
          rcases hz9 with rfl | rfl
          · exact Or.inr ⟨by decide, "java/lang/IllegalStateException", hts (.classLink RL 13 "java/lang/IllegalStateException") (by decide +kernel), hcxN.2 ("java/util/NoSuchElementException", "java/lang/IllegalStateException") (by decide +kernel)⟩
          · exact Or.inr ⟨by decide, "java/lang/IllegalArgumentException", hts (.classLink RL 31 "java/lang/IllegalArgumentException") (by decide +kernel), hcxN.2 ("java/util/NoSuchElementException", "java/lang/IllegalArgumentException") (by decide +kernel)⟩) (by decide) (by decide) (hts (.classLink RL 33 "java/util/NoSuchElementException") (by decide +kernel)) (hcx.dw _ (.castable "java/util/NoSuchElementException" "java/util/NoSuchElementException") (by decide +kernel)) hce hcv hcl ?_
      refine W.widen (k := 7) (n := 106) (Nat.le_of_ble_eq_true rfl) (Nat.le_of_ble_eq_true rfl) ?_
      refine W.eq (g2 := F0 m 18 ls [.ref q9]) rfl ?_
      refine lv_astore (lv' := [(4, .ref q9), (0, .ref r0), (1, .int a1), (2, .int a2), (3, .int 1)]) hx hb dL_make_18 hl (by decide) rfl (fun ls hl => ?_)
      refine lv_iconst (v := 3) hx hb dL_make_20 (by decide) ?_
      refine W.iret (v := 3) hx hb hr (fun t ht hW => ⟨⟨some (.int 3), _, rfl, ?_, by rw [ht]; exact hm⟩, hS.F ht⟩) hS.2.2 dL_make_21
      exact ⟨_, hT, hE, ⟨_, rfl⟩⟩
  obtain ⟨κ2, hT9, hE9, hv1⟩ := hv
  have hk_r0 := hE9.k hT hk_r0
  have hE := hE.trans hT0 hT hE9
  have hT := hT9
  obtain ⟨Mc2, hMx⟩ : ∃ x : mM, x = M1 := ⟨M1, rfl⟩
  subst hMx
  subst hv1
  refine W.eq (g2 := F0 m 7 ls []) rfl ?_
  refine W.widen (k := 7) (n := 106) (Nat.le_of_ble_eq_true rfl) (Nat.le_of_ble_eq_true rfl) ?_
  have hm : mm D (AZ z) Mc2 H := hm
  refine lv_goto (tgt := 26) hx hb dL_make_7 (by decide) ?_
  refine lv_iconst (v := 0) hx hb dL_make_26 (by decide) ?_
  refine W.iret (v := 0) hx hb hr (fun t ht hW => ⟨⟨some (.int 0), _, rfl, ?_, by rw [ht]; exact hm⟩, hS.F ht⟩) hS.2.2 dL_make_27
  exact ⟨_, hT, hE, ⟨_, rfl⟩⟩

set_option maxHeartbeats 4000000 in
set_option maxRecDepth 100000 in
theorem h_L_remove (l : Launch) (hlt : l.stackTraces = false) (D : va_G) (k : Nat → ClassId) (z : Nat) (M : mM) (κ : Nat → Option KD) (r0 : Nat) (a1 : Int32) (a2 : Int32) (r3 : Nat) (hk_r0 : κ r0 = some .top) (hk_r3 : κ r3 = some .outs) (hT : TM k κ M) : mKN l yL_remove wsL_remove ({ frames := 8, cells := 4, slots := 80, locals := 129 }) D k z [.ref r0, .int a1, .int a2, .ref r3] M (fun v M' => ∃ κ', TM k κ' M' ∧ kx κ M κ' M' ∧ ∃ x, v = some (.int x)) := by
  refine tc_ofWH (cc := cL_remove) (maxL := 5) (ret := (some .int)) (hh := [(0, 17, 20, 13), (0, 17, 24, 31), (0, 17, 28, 33), (0, 17, 32, 15)]) (by decide) rfl ?_
  intro p e s m args below meth c s₁ B hml hv
  obtain ⟨rfl, hz, hcxN, hm⟩ := hv
  have hcx := hcxN.1
  have hx := B.exec
  have hb := B.bytes
  have hr := B.returns
  have hts := atoms_spec (ws := wsL_remove) B.pre
  have hown : s.vm.findClass RL = some m.cls := findClass_of_methodNamed B.named
  have hlocks := B.notSynchronized
  have hK := hcx.1
  have hS : va_S (AZ z) s.heap s.heap [] := va_S.rf
  have hA : ∀ q, s.heap.size ≤ q → AZ z q := fun q h => Nat.le_trans hz h
  have htab := vx_table (x := yL_remove) B (hts (.codeWith yL_remove cL_remove 5 (some .int) [(0, 17, 20, 13), (0, 17, 24, 31), (0, 17, 28, 33), (0, 17, 32, 15)]) List.mem_cons_self)
  have hl := lv_entry ([.ref r0, .int a1, .int a2, .ref r3]) (n := 5) (Nat.le_of_ble_eq_true rfl)
  rw [lg_entry_eq]
  generalize (lg_sl ([.ref r0, .int a1, .int a2, .ref r3]) ++ List.replicate (5 - (lg_sl ([.ref r0, .int a1, .int a2, .ref r3])).length) Slot.unset).toArray = ls at hl ⊢
  have hl : lv_has ls 5 [(0, .ref r0), (1, .int a1), (2, .int a2), (3, .ref r3)] := hl
  have hT0 := hT
  have hE : kx κ M κ M := kx.refl _ _
  refine lv_aload_n hx hb dL_remove_0 rfl (lv_at hl 3 rfl) ?_
  refine lv_iconst (v := 0) hx hb dL_remove_1 (by decide) ?_
  refine lv_aload_n hx hb dL_remove_2 rfl (lv_at hl 0 rfl) ?_
  refine lv_iload_n hx hb dL_remove_3 rfl (lv_at hl 1 rfl) ?_
  refine lv_iload_n hx hb dL_remove_4 rfl (lv_at hl 2 rfl) ?_
  obtain ⟨v0_1, v1_1, v2_1, v3_1, v4_1, v5_1, v6_1, v7_1, v8_1, v9_1, v10_1, hM_r0_1, hk_v0_1, hk_v1_1, hk_v2_1, hk_v3_1, hk_v4_1, hk_v5_1, hz_v9_1, hz_v10_1⟩ := hT.top hk_r0
  refine m_cV (As := [.int a1, .int a2]) (rest := [.int 0, .ref r3]) (rm := { frames := 7, cells := 4, slots := 80, locals := 104 }) ⟨hx, hb, hml, hown, hts⟩ (t_X5_remove_II l hlt D k z _ _ r0 a1 a2 hk_r0 hT) (cwV 2 hts gL_remove_X5_remove rfl rfl rfl (by decide +kernel) ⟨Nat.le_of_ble_eq_true rfl, Nat.le_of_ble_eq_true rfl⟩) (m_recv hK hm (q := (RX5, TX5, 11)) rfl hM_r0_1) hz hcx hm hS rfl hl.1 rfl (Nat.le_of_ble_eq_true rfl) dL_remove_5 ⟨Nat.le_of_ble_eq_true rfl, Nat.le_of_ble_eq_true rfl⟩ (fun E ce q9 M1 H locs hv hm hS hce hcv hcl => ?_) (fun v M1 H locs hv hm hS => ?_)
  · obtain ⟨hE8, κ8, hT8, hx8⟩ := hv
    have hk_r0 := hx8.k hT hk_r0
    have hk_r3 := hx8.k hT hk_r3
    have hE := hE.trans hT0 hT hx8
    have hT := hT8
    obtain ⟨Mc1, hMx⟩ : ∃ x : mM, x = M1 := ⟨M1, rfl⟩
    subst hMx
    simp only [List.mem_cons, List.not_mem_nil, or_false] at hE8
    rcases hE8 with hE8 | hE8 | hE8 | hE8
    · subst hE8
      refine tc_catch (E := "java/util/NoSuchElementException") (name := "java/util/NoSuchElementException") hown [⟨0, 17, 20, 13⟩, ⟨0, 17, 24, 31⟩] ⟨0, 17, 28, 33⟩ [⟨0, 17, 32, 15⟩] (by rw [htab]; rfl) (fun z9 hz9 => by
          simp only [List.mem_cons, List.not_mem_nil, or_false] at hz9
          rcases hz9 with rfl | rfl
          · exact Or.inr ⟨by decide, "java/lang/IllegalStateException", hts (.classLink RL 13 "java/lang/IllegalStateException") (by decide +kernel), hcxN.2 ("java/util/NoSuchElementException", "java/lang/IllegalStateException") (by decide +kernel)⟩
          · exact Or.inr ⟨by decide, "java/lang/IllegalArgumentException", hts (.classLink RL 31 "java/lang/IllegalArgumentException") (by decide +kernel), hcxN.2 ("java/util/NoSuchElementException", "java/lang/IllegalArgumentException") (by decide +kernel)⟩) (by decide) (by decide) (hts (.classLink RL 33 "java/util/NoSuchElementException") (by decide +kernel)) (hcx.dw _ (.castable "java/util/NoSuchElementException" "java/util/NoSuchElementException") (by decide +kernel)) hce hcv hcl ?_
      refine W.widen (k := 4) (n := 80) (Nat.le_of_ble_eq_true rfl) (Nat.le_of_ble_eq_true rfl) ?_
      refine W.eq (g2 := F0 m 28 ls [.ref q9]) rfl ?_
      refine lv_astore (lv' := [(4, .ref q9), (0, .ref r0), (1, .int a1), (2, .int a2), (3, .ref r3)]) hx hb dL_remove_28 hl (by decide) rfl (fun ls hl => ?_)
      refine lv_iconst (v := 3) hx hb dL_remove_30 (by decide) ?_
      refine W.iret (v := 3) hx hb hr (fun t ht hW => ⟨⟨some (.int 3), _, rfl, ?_, by rw [ht]; exact hm⟩, hS.F ht⟩) hS.2.2 dL_remove_31
      exact ⟨_, hT, hE, ⟨_, rfl⟩⟩
    · subst hE8
      refine tc_catch (E := "java/lang/UnsupportedOperationException") (name := "java/lang/UnsupportedOperationException") hown [⟨0, 17, 20, 13⟩, ⟨0, 17, 24, 31⟩, ⟨0, 17, 28, 33⟩] ⟨0, 17, 32, 15⟩ [] (by rw [htab]; rfl) (fun z9 hz9 => by
          simp only [List.mem_cons, List.not_mem_nil, or_false] at hz9
          rcases hz9 with rfl | rfl | rfl
          · exact Or.inr ⟨by decide, "java/lang/IllegalStateException", hts (.classLink RL 13 "java/lang/IllegalStateException") (by decide +kernel), hcxN.2 ("java/lang/UnsupportedOperationException", "java/lang/IllegalStateException") (by decide +kernel)⟩
          · exact Or.inr ⟨by decide, "java/lang/IllegalArgumentException", hts (.classLink RL 31 "java/lang/IllegalArgumentException") (by decide +kernel), hcxN.2 ("java/lang/UnsupportedOperationException", "java/lang/IllegalArgumentException") (by decide +kernel)⟩
          · exact Or.inr ⟨by decide, "java/util/NoSuchElementException", hts (.classLink RL 33 "java/util/NoSuchElementException") (by decide +kernel), hcxN.2 ("java/lang/UnsupportedOperationException", "java/util/NoSuchElementException") (by decide +kernel)⟩) (by decide) (by decide) (hts (.classLink RL 15 "java/lang/UnsupportedOperationException") (by decide +kernel)) (hcx.dw _ (.castable "java/lang/UnsupportedOperationException" "java/lang/UnsupportedOperationException") (by decide +kernel)) hce hcv hcl ?_
      refine W.widen (k := 4) (n := 80) (Nat.le_of_ble_eq_true rfl) (Nat.le_of_ble_eq_true rfl) ?_
      refine W.eq (g2 := F0 m 32 ls [.ref q9]) rfl ?_
      refine lv_astore (lv' := [(4, .ref q9), (0, .ref r0), (1, .int a1), (2, .int a2), (3, .ref r3)]) hx hb dL_remove_32 hl (by decide) rfl (fun ls hl => ?_)
      refine lv_iconst (v := 4) hx hb dL_remove_34 (by decide) ?_
      refine W.iret (v := 4) hx hb hr (fun t ht hW => ⟨⟨some (.int 4), _, rfl, ?_, by rw [ht]; exact hm⟩, hS.F ht⟩) hS.2.2 dL_remove_35
      exact ⟨_, hT, hE, ⟨_, rfl⟩⟩
    · subst hE8
      refine tc_catch (E := "java/lang/IllegalStateException") (name := "java/lang/IllegalStateException") hown [] ⟨0, 17, 20, 13⟩ [⟨0, 17, 24, 31⟩, ⟨0, 17, 28, 33⟩, ⟨0, 17, 32, 15⟩] (by rw [htab]; rfl) (fun z9 hz9 => by simp at hz9) (by decide) (by decide) (hts (.classLink RL 13 "java/lang/IllegalStateException") (by decide +kernel)) (hcx.dw _ (.castable "java/lang/IllegalStateException" "java/lang/IllegalStateException") (by decide +kernel)) hce hcv hcl ?_
      refine W.widen (k := 4) (n := 80) (Nat.le_of_ble_eq_true rfl) (Nat.le_of_ble_eq_true rfl) ?_
      refine W.eq (g2 := F0 m 20 ls [.ref q9]) rfl ?_
      refine lv_astore (lv' := [(4, .ref q9), (0, .ref r0), (1, .int a1), (2, .int a2), (3, .ref r3)]) hx hb dL_remove_20 hl (by decide) rfl (fun ls hl => ?_)
      refine lv_iconst (v := 1) hx hb dL_remove_22 (by decide) ?_
      refine W.iret (v := 1) hx hb hr (fun t ht hW => ⟨⟨some (.int 1), _, rfl, ?_, by rw [ht]; exact hm⟩, hS.F ht⟩) hS.2.2 dL_remove_23
      exact ⟨_, hT, hE, ⟨_, rfl⟩⟩
    · subst hE8
      refine tc_catch (E := "java/lang/IllegalArgumentException") (name := "java/lang/IllegalArgumentException") hown [⟨0, 17, 20, 13⟩] ⟨0, 17, 24, 31⟩ [⟨0, 17, 28, 33⟩, ⟨0, 17, 32, 15⟩] (by rw [htab]; rfl) (fun z9 hz9 => by
          simp only [List.mem_cons, List.not_mem_nil, or_false] at hz9
          rcases hz9 with rfl
          · exact Or.inr ⟨by decide, "java/lang/IllegalStateException", hts (.classLink RL 13 "java/lang/IllegalStateException") (by decide +kernel), hcxN.2 ("java/lang/IllegalArgumentException", "java/lang/IllegalStateException") (by decide +kernel)⟩) (by decide) (by decide) (hts (.classLink RL 31 "java/lang/IllegalArgumentException") (by decide +kernel)) (hcx.dw _ (.castable "java/lang/IllegalArgumentException" "java/lang/IllegalArgumentException") (by decide +kernel)) hce hcv hcl ?_
      refine W.widen (k := 4) (n := 80) (Nat.le_of_ble_eq_true rfl) (Nat.le_of_ble_eq_true rfl) ?_
      refine W.eq (g2 := F0 m 24 ls [.ref q9]) rfl ?_
      refine lv_astore (lv' := [(4, .ref q9), (0, .ref r0), (1, .int a1), (2, .int a2), (3, .ref r3)]) hx hb dL_remove_24 hl (by decide) rfl (fun ls hl => ?_)
      refine lv_iconst (v := 2) hx hb dL_remove_26 (by decide) ?_
      refine W.iret (v := 2) hx hb hr (fun t ht hW => ⟨⟨some (.int 2), _, rfl, ?_, by rw [ht]; exact hm⟩, hS.F ht⟩) hS.2.2 dL_remove_27
      exact ⟨_, hT, hE, ⟨_, rfl⟩⟩
  obtain ⟨κ2, hT9, hE9, hv1⟩ := hv
  have hk_r0 := hE9.k hT hk_r0
  have hk_r3 := hE9.k hT hk_r3
  have hE := hE.trans hT0 hT hE9
  have hT := hT9
  obtain ⟨Mc2, hMx⟩ : ∃ x : mM, x = M1 := ⟨M1, rfl⟩
  subst hMx
  rcases hv1 with hv1 | hv1
  · subst hv1
    refine W.eq (g2 := F0 m 8 ls [.int 0, .int 0, .ref r3]) rfl ?_
    refine W.widen (k := 4) (n := 80) (Nat.le_of_ble_eq_true rfl) (Nat.le_of_ble_eq_true rfl) ?_
    have hm : mm D (AZ z) Mc2 H := hm
    refine lv_if_eq (tgt := 15) hx hb dL_remove_8 (by decide) (fun c2 => ?_) (fun c2 => ?_)
    · refine lv_lconst (v := 0) hx hb dL_remove_15 (by decide) ?_
      obtain ⟨f_3, hM_r3_3⟩ := hT.outs hk_r3
      refine m_last hx hb hK hm hS 1 hM_r3_3 rfl (by unfold vp_in; decide) dL_remove_16 (fun H locs hm hS => ?_)
      have hm : mm D (AZ z) (mu Mc2 r3 (.inl (k 1, 1, .inr (.inl (vp_updL f_3 (0 : Int32).toNatClampNeg 0))))) H := hm
      have hT : TM k κ2 (mu Mc2 r3 (.inl (k 1, 1, .inr (.inl (vp_updL f_3 (0 : Int32).toNatClampNeg 0))))) := hT.put hk_r3 (show wf k κ2 .outs (.inl (k 1, 1, .inr (.inl (vp_updL f_3 (0 : Int32).toNatClampNeg 0)))) from ⟨(vp_updL f_3 (0 : Int32).toNatClampNeg 0), rfl⟩)
      have hE : kx κ M κ2 (mu Mc2 r3 (.inl (k 1, 1, .inr (.inl (vp_updL f_3 (0 : Int32).toNatClampNeg 0))))) := hE.put hk_r3
      generalize (mu Mc2 r3 (.inl (k 1, 1, .inr (.inl (vp_updL f_3 (0 : Int32).toNatClampNeg 0))))) = Mc3 at hm hT hE
      refine lv_goto (tgt := 36) hx hb dL_remove_17 (by decide) ?_
      refine lv_iconst (v := 0) hx hb dL_remove_36 (by decide) ?_
      refine W.iret (v := 0) hx hb hr (fun t ht hW => ⟨⟨some (.int 0), _, rfl, ?_, by rw [ht]; exact hm⟩, hS.F ht⟩) hS.2.2 dL_remove_37
      exact ⟨_, hT, hE, ⟨_, rfl⟩⟩
    · first | exact absurd c2 (by decide) | exact absurd (by decide) c2
  · subst hv1
    refine W.eq (g2 := F0 m 8 ls [.int 1, .int 0, .ref r3]) rfl ?_
    refine W.widen (k := 4) (n := 80) (Nat.le_of_ble_eq_true rfl) (Nat.le_of_ble_eq_true rfl) ?_
    have hm : mm D (AZ z) Mc2 H := hm
    refine lv_if_eq (tgt := 15) hx hb dL_remove_8 (by decide) (fun c4 => ?_) (fun c4 => ?_)
    · first | exact absurd c4 (by decide) | exact absurd (by decide) c4
    · refine lv_lconst (v := 1) hx hb dL_remove_11 (by decide) ?_
      refine lv_goto (tgt := 16) hx hb dL_remove_12 (by decide) ?_
      obtain ⟨f_5, hM_r3_5⟩ := hT.outs hk_r3
      refine m_last hx hb hK hm hS 1 hM_r3_5 rfl (by unfold vp_in; decide) dL_remove_16 (fun H locs hm hS => ?_)
      have hm : mm D (AZ z) (mu Mc2 r3 (.inl (k 1, 1, .inr (.inl (vp_updL f_5 (0 : Int32).toNatClampNeg 1))))) H := hm
      have hT : TM k κ2 (mu Mc2 r3 (.inl (k 1, 1, .inr (.inl (vp_updL f_5 (0 : Int32).toNatClampNeg 1))))) := hT.put hk_r3 (show wf k κ2 .outs (.inl (k 1, 1, .inr (.inl (vp_updL f_5 (0 : Int32).toNatClampNeg 1)))) from ⟨(vp_updL f_5 (0 : Int32).toNatClampNeg 1), rfl⟩)
      have hE : kx κ M κ2 (mu Mc2 r3 (.inl (k 1, 1, .inr (.inl (vp_updL f_5 (0 : Int32).toNatClampNeg 1))))) := hE.put hk_r3
      generalize (mu Mc2 r3 (.inl (k 1, 1, .inr (.inl (vp_updL f_5 (0 : Int32).toNatClampNeg 1))))) = Mc4 at hm hT hE
      refine lv_goto (tgt := 36) hx hb dL_remove_17 (by decide) ?_
      refine lv_iconst (v := 0) hx hb dL_remove_36 (by decide) ?_
      refine W.iret (v := 0) hx hb hr (fun t ht hW => ⟨⟨some (.int 0), _, rfl, ?_, by rw [ht]; exact hm⟩, hS.F ht⟩) hS.2.2 dL_remove_37
      exact ⟨_, hT, hE, ⟨_, rfl⟩⟩

