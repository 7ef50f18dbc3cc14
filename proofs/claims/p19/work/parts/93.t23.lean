set_option maxHeartbeats 4000000 in
set_option maxRecDepth 100000 in
theorem h_L_read (l : Launch) (hlt : l.stackTraces = false) (D : va_G) (k : Nat → ClassId) (z : Nat) (M : mM) (κ : Nat → Option KD) (r0 : Nat) (a1 : Int32) (a2 : Int32) (a3 : Int32) (r4 : Nat) (hk_r0 : κ r0 = some .top) (hk_r4 : κ r4 = some .outs) (hT : TM k κ M) : mKN l yL_read wsL_read ({ frames := 9, cells := 4, slots := 24, locals := 150 }) D k z [.ref r0, .int a1, .int a2, .int a3, .ref r4] M (fun v M' => ∃ κ', TM k κ' M' ∧ kx κ M κ' M' ∧ ∃ x, v = some (.int x)) := by
  refine tc_ofWH (cc := cL_read) (maxL := 6) (ret := (some .int)) (hh := [(0, 12, 15, 13), (0, 12, 19, 31), (0, 12, 23, 33), (0, 12, 27, 15), (0, 12, 31, 47)]) (by decide) rfl ?_
  intro p e s m args below meth c s₁ B hml hv
  obtain ⟨rfl, hz, hcxN, hm⟩ := hv
  have hcx := hcxN.1
  have hx := B.exec
  have hb := B.bytes
  have hr := B.returns
  have hts := atoms_spec (ws := wsL_read) B.pre
  have hown : s.vm.findClass RL = some m.cls := findClass_of_methodNamed B.named
  have hlocks := B.notSynchronized
  have hK := hcx.1
  have hS : va_S (AZ z) s.heap s.heap [] := va_S.rf
  have hA : ∀ q, s.heap.size ≤ q → AZ z q := fun q h => Nat.le_trans hz h
  have htab := vx_table (x := yL_read) B (hts (.codeWith yL_read cL_read 6 (some .int) [(0, 12, 15, 13), (0, 12, 19, 31), (0, 12, 23, 33), (0, 12, 27, 15), (0, 12, 31, 47)]) List.mem_cons_self)
  have hl := lv_entry ([.ref r0, .int a1, .int a2, .int a3, .ref r4]) (n := 6) (Nat.le_of_ble_eq_true rfl)
  rw [lg_entry_eq]
  generalize (lg_sl ([.ref r0, .int a1, .int a2, .int a3, .ref r4]) ++ List.replicate (6 - (lg_sl ([.ref r0, .int a1, .int a2, .int a3, .ref r4])).length) Slot.unset).toArray = ls at hl ⊢
  have hl : lv_has ls 6 [(0, .ref r0), (1, .int a1), (2, .int a2), (3, .int a3), (4, .ref r4)] := hl
  have hT0 := hT
  have hE : kx κ M κ M := kx.refl _ _
  refine lv_aload hx hb dL_read_0 (lv_at hl 4 rfl) ?_
  refine lv_iconst (v := 0) hx hb dL_read_2 (by decide) ?_
  refine lv_aload_n hx hb dL_read_3 rfl (lv_at hl 0 rfl) ?_
  refine lv_iload_n hx hb dL_read_4 rfl (lv_at hl 1 rfl) ?_
  refine lv_iload_n hx hb dL_read_5 rfl (lv_at hl 2 rfl) ?_
  refine lv_iload_n hx hb dL_read_6 rfl (lv_at hl 3 rfl) ?_
  obtain ⟨v0_1, v1_1, v2_1, v3_1, v4_1, v5_1, v6_1, v7_1, v8_1, v9_1, v10_1, hM_r0_1, hk_v0_1, hk_v1_1, hk_v2_1, hk_v3_1, hk_v4_1, hk_v5_1, hz_v9_1, hz_v10_1⟩ := hT.top hk_r0
  refine m_cV (As := [.int a1, .int a2, .int a3]) (rest := [.int 0, .ref r4]) (rm := { frames := 8, cells := 4, slots := 24, locals := 125 }) ⟨hx, hb, hml, hown, hts⟩ (t_X5_read_III l hlt D k z _ _ r0 a1 a2 a3 hk_r0 hT) (cwV 3 hts gL_read_X5_read rfl rfl rfl (by decide +kernel) ⟨Nat.le_of_ble_eq_true rfl, Nat.le_of_ble_eq_true rfl⟩) (m_recv hK hm (q := (RX5, TX5, 11)) rfl hM_r0_1) hz hcx hm hS rfl hl.1 rfl (Nat.le_of_ble_eq_true rfl) dL_read_7 ⟨Nat.le_of_ble_eq_true rfl, Nat.le_of_ble_eq_true rfl⟩ (fun E ce q9 M1 H locs hv hm hS hce hcv hcl => ?_) (fun v M1 H locs hv hm hS => ?_)
  · obtain ⟨hE8, κ8, hT8, hx8⟩ := hv
    have hk_r0 := hx8.k hT hk_r0
    have hk_r4 := hx8.k hT hk_r4
    have hE := hE.trans hT0 hT hx8
    have hT := hT8
    obtain ⟨Mc1, hMx⟩ : ∃ x : mM, x = M1 := ⟨M1, rfl⟩
    subst hMx
    simp only [List.mem_cons, List.not_mem_nil, or_false] at hE8
    rcases hE8 with hE8 | hE8 | hE8 | hE8 | hE8
    · subst hE8
      refine tc_catch (E := "java/lang/IllegalStateException") (name := "java/lang/IllegalStateException") hown [] ⟨0, 12, 15, 13⟩ [⟨0, 12, 19, 31⟩, ⟨0, 12, 23, 33⟩, ⟨0, 12, 27, 15⟩, ⟨0, 12, 31, 47⟩] (by rw [htab]; rfl) (fun z9 hz9 => by simp at hz9) (by decide) (by decide) (hts (.classLink RL 13 "java/lang/IllegalStateException") (by decide +kernel)) (hcx.dw _ (.castable "java/lang/IllegalStateException" "java/lang/IllegalStateException") (by decide +kernel)) hce hcv hcl ?_
      refine W.widen (k := 4) (n := 24) (Nat.le_of_ble_eq_true rfl) (Nat.le_of_ble_eq_true rfl) ?_
      refine W.eq (g2 := F0 m 15 ls [.ref q9]) rfl ?_
      refine lv_astore (lv' := [(5, .ref q9), (0, .ref r0), (1, .int a1), (2, .int a2), (3, .int a3), (4, .ref r4)]) hx hb dL_read_15 hl (by decide) rfl (fun ls hl => ?_)
      refine lv_iconst (v := 1) hx hb dL_read_17 (by decide) ?_
      refine W.iret (v := 1) hx hb hr (fun t ht hW => ⟨⟨some (.int 1), _, rfl, ?_, by rw [ht]; exact hm⟩, hS.F ht⟩) hS.2.2 dL_read_18
      exact ⟨_, hT, hE, ⟨_, rfl⟩⟩
    · subst hE8
      refine tc_catch (E := "java/util/NoSuchElementException") (name := "java/util/NoSuchElementException") hown [⟨0, 12, 15, 13⟩, ⟨0, 12, 19, 31⟩] ⟨0, 12, 23, 33⟩ [⟨0, 12, 27, 15⟩, ⟨0, 12, 31, 47⟩] (by rw [htab]; rfl) (fun z9 hz9 => by
          simp only [List.mem_cons, List.not_mem_nil, or_false] at hz9
          rcases hz9 with rfl | rfl
          · exact Or.inr ⟨by decide, "java/lang/IllegalStateException", hts (.classLink RL 13 "java/lang/IllegalStateException") (by decide +kernel), hcxN.2 ("java/util/NoSuchElementException", "java/lang/IllegalStateException") (by decide +kernel)⟩
          · exact Or.inr ⟨by decide, "java/lang/IllegalArgumentException", hts (.classLink RL 31 "java/lang/IllegalArgumentException") (by decide +kernel), hcxN.2 ("java/util/NoSuchElementException", "java/lang/IllegalArgumentException") (by decide +kernel)⟩) (by decide) (by decide) (hts (.classLink RL 33 "java/util/NoSuchElementException") (by decide +kernel)) (hcx.dw _ (.castable "java/util/NoSuchElementException" "java/util/NoSuchElementException") (by decide +kernel)) hce hcv hcl ?_
      refine W.widen (k := 4) (n := 24) (Nat.le_of_ble_eq_true rfl) (Nat.le_of_ble_eq_true rfl) ?_
      refine W.eq (g2 := F0 m 23 ls [.ref q9]) rfl ?_
      refine lv_astore (lv' := [(5, .ref q9), (0, .ref r0), (1, .int a1), (2, .int a2), (3, .int a3), (4, .ref r4)]) hx hb dL_read_23 hl (by decide) rfl (fun ls hl => ?_)
      refine lv_iconst (v := 3) hx hb dL_read_25 (by decide) ?_
      refine W.iret (v := 3) hx hb hr (fun t ht hW => ⟨⟨some (.int 3), _, rfl, ?_, by rw [ht]; exact hm⟩, hS.F ht⟩) hS.2.2 dL_read_26
      exact ⟨_, hT, hE, ⟨_, rfl⟩⟩
    · subst hE8
      refine tc_catch (E := "java/lang/UnsupportedOperationException") (name := "java/lang/UnsupportedOperationException") hown [⟨0, 12, 15, 13⟩, ⟨0, 12, 19, 31⟩, ⟨0, 12, 23, 33⟩] ⟨0, 12, 27, 15⟩ [⟨0, 12, 31, 47⟩] (by rw [htab]; rfl) (fun z9 hz9 => by
          simp only [List.mem_cons, List.not_mem_nil, or_false] at hz9
          rcases hz9 with rfl | rfl | rfl
          · exact Or.inr ⟨by decide, "java/lang/IllegalStateException", hts (.classLink RL 13 "java/lang/IllegalStateException") (by decide +kernel), hcxN.2 ("java/lang/UnsupportedOperationException", "java/lang/IllegalStateException") (by decide +kernel)⟩
          · exact Or.inr ⟨by decide, "java/lang/IllegalArgumentException", hts (.classLink RL 31 "java/lang/IllegalArgumentException") (by decide +kernel), hcxN.2 ("java/lang/UnsupportedOperationException", "java/lang/IllegalArgumentException") (by decide +kernel)⟩
          · exact Or.inr ⟨by decide, "java/util/NoSuchElementException", hts (.classLink RL 33 "java/util/NoSuchElementException") (by decide +kernel), hcxN.2 ("java/lang/UnsupportedOperationException", "java/util/NoSuchElementException") (by decide +kernel)⟩) (by decide) (by decide) (hts (.classLink RL 15 "java/lang/UnsupportedOperationException") (by decide +kernel)) (hcx.dw _ (.castable "java/lang/UnsupportedOperationException" "java/lang/UnsupportedOperationException") (by decide +kernel)) hce hcv hcl ?_
      refine W.widen (k := 4) (n := 24) (Nat.le_of_ble_eq_true rfl) (Nat.le_of_ble_eq_true rfl) ?_
      refine W.eq (g2 := F0 m 27 ls [.ref q9]) rfl ?_
      refine lv_astore (lv' := [(5, .ref q9), (0, .ref r0), (1, .int a1), (2, .int a2), (3, .int a3), (4, .ref r4)]) hx hb dL_read_27 hl (by decide) rfl (fun ls hl => ?_)
      refine lv_iconst (v := 4) hx hb dL_read_29 (by decide) ?_
      refine W.iret (v := 4) hx hb hr (fun t ht hW => ⟨⟨some (.int 4), _, rfl, ?_, by rw [ht]; exact hm⟩, hS.F ht⟩) hS.2.2 dL_read_30
      exact ⟨_, hT, hE, ⟨_, rfl⟩⟩
    · subst hE8
      refine tc_catch (E := "java/lang/IllegalArgumentException") (name := "java/lang/IllegalArgumentException") hown [⟨0, 12, 15, 13⟩] ⟨0, 12, 19, 31⟩ [⟨0, 12, 23, 33⟩, ⟨0, 12, 27, 15⟩, ⟨0, 12, 31, 47⟩] (by rw [htab]; rfl) (fun z9 hz9 => by
          simp only [List.mem_cons, List.not_mem_nil, or_false] at hz9
          rcases hz9 with rfl
          · exact Or.inr ⟨by decide, "java/lang/IllegalStateException", hts (.classLink RL 13 "java/lang/IllegalStateException") (by decide +kernel), hcxN.2 ("java/lang/IllegalArgumentException", "java/lang/IllegalStateException") (by decide +kernel)⟩) (by decide) (by decide) (hts (.classLink RL 31 "java/lang/IllegalArgumentException") (by decide +kernel)) (hcx.dw _ (.castable "java/lang/IllegalArgumentException" "java/lang/IllegalArgumentException") (by decide +kernel)) hce hcv hcl ?_
      refine W.widen (k := 4) (n := 24) (Nat.le_of_ble_eq_true rfl) (Nat.le_of_ble_eq_true rfl) ?_
      refine W.eq (g2 := F0 m 19 ls [.ref q9]) rfl ?_
      refine lv_astore (lv' := [(5, .ref q9), (0, .ref r0), (1, .int a1), (2, .int a2), (3, .int a3), (4, .ref r4)]) hx hb dL_read_19 hl (by decide) rfl (fun ls hl => ?_)
      refine lv_iconst (v := 2) hx hb dL_read_21 (by decide) ?_
      refine W.iret (v := 2) hx hb hr (fun t ht hW => ⟨⟨some (.int 2), _, rfl, ?_, by rw [ht]; exact hm⟩, hS.F ht⟩) hS.2.2 dL_read_22
      exact ⟨_, hT, hE, ⟨_, rfl⟩⟩
    · subst hE8
      refine tc_catch (E := "java/lang/IndexOutOfBoundsException") (name := "java/lang/IndexOutOfBoundsException") hown [⟨0, 12, 15, 13⟩, ⟨0, 12, 19, 31⟩, ⟨0, 12, 23, 33⟩, ⟨0, 12, 27, 15⟩] ⟨0, 12, 31, 47⟩ [] (by rw [htab]; rfl) (fun z9 hz9 => by
          simp only [List.mem_cons, List.not_mem_nil, or_false] at hz9
          rcases hz9 with rfl | rfl | rfl | rfl
          · exact Or.inr ⟨by decide, "java/lang/IllegalStateException", hts (.classLink RL 13 "java/lang/IllegalStateException") (by decide +kernel), hcxN.2 ("java/lang/IndexOutOfBoundsException", "java/lang/IllegalStateException") (by decide +kernel)⟩
          · exact Or.inr ⟨by decide, "java/lang/IllegalArgumentException", hts (.classLink RL 31 "java/lang/IllegalArgumentException") (by decide +kernel), hcxN.2 ("java/lang/IndexOutOfBoundsException", "java/lang/IllegalArgumentException") (by decide +kernel)⟩
          · exact Or.inr ⟨by decide, "java/util/NoSuchElementException", hts (.classLink RL 33 "java/util/NoSuchElementException") (by decide +kernel), hcxN.2 ("java/lang/IndexOutOfBoundsException", "java/util/NoSuchElementException") (by decide +kernel)⟩
          · exact Or.inr ⟨by decide, "java/lang/UnsupportedOperationException", hts (.classLink RL 15 "java/lang/UnsupportedOperationException") (by decide +kernel), hcxN.2 ("java/lang/IndexOutOfBoundsException", "java/lang/UnsupportedOperationException") (by decide +kernel)⟩) (by decide) (by decide) (hts (.classLink RL 47 "java/lang/IndexOutOfBoundsException") (by decide +kernel)) (hcx.dw _ (.castable "java/lang/IndexOutOfBoundsException" "java/lang/IndexOutOfBoundsException") (by decide +kernel)) hce hcv hcl ?_
      refine W.widen (k := 4) (n := 24) (Nat.le_of_ble_eq_true rfl) (Nat.le_of_ble_eq_true rfl) ?_
      refine W.eq (g2 := F0 m 31 ls [.ref q9]) rfl ?_
      refine lv_astore (lv' := [(5, .ref q9), (0, .ref r0), (1, .int a1), (2, .int a2), (3, .int a3), (4, .ref r4)]) hx hb dL_read_31 hl (by decide) rfl (fun ls hl => ?_)
      refine lv_iconst (v := 5) hx hb dL_read_33 (by decide) ?_
      refine W.iret (v := 5) hx hb hr (fun t ht hW => ⟨⟨some (.int 5), _, rfl, ?_, by rw [ht]; exact hm⟩, hS.F ht⟩) hS.2.2 dL_read_34
      exact ⟨_, hT, hE, ⟨_, rfl⟩⟩
  obtain ⟨κ2, hT9, hE9, hv1⟩ := hv
  have hk_r0 := hE9.k hT hk_r0
  have hk_r4 := hE9.k hT hk_r4
  have hE := hE.trans hT0 hT hE9
  have hT := hT9
  obtain ⟨Mc2, hMx⟩ : ∃ x : mM, x = M1 := ⟨M1, rfl⟩
  subst hMx
  obtain ⟨w2, hv1⟩ := hv1
  subst hv1
  refine W.eq (g2 := F0 m 10 ls [.int w2, .int 0, .ref r4]) rfl ?_
  refine W.widen (k := 4) (n := 24) (Nat.le_of_ble_eq_true rfl) (Nat.le_of_ble_eq_true rfl) ?_
  have hm : mm D (AZ z) Mc2 H := hm
  refine lv_i2l (v := (w2).toInt64) hx hb dL_read_10 rfl ?_
  obtain ⟨f_3, hM_r4_3⟩ := hT.outs hk_r4
  refine m_last hx hb hK hm hS 1 hM_r4_3 rfl (by unfold vp_in; decide) dL_read_11 (fun H locs hm hS => ?_)
  have hm : mm D (AZ z) (mu Mc2 r4 (.inl (k 1, 1, .inr (.inl (vp_updL f_3 (0 : Int32).toNatClampNeg (w2).toInt64))))) H := hm
  have hT : TM k κ2 (mu Mc2 r4 (.inl (k 1, 1, .inr (.inl (vp_updL f_3 (0 : Int32).toNatClampNeg (w2).toInt64))))) := hT.put hk_r4 (show wf k κ2 .outs (.inl (k 1, 1, .inr (.inl (vp_updL f_3 (0 : Int32).toNatClampNeg (w2).toInt64)))) from ⟨(vp_updL f_3 (0 : Int32).toNatClampNeg (w2).toInt64), rfl⟩)
  have hE : kx κ M κ2 (mu Mc2 r4 (.inl (k 1, 1, .inr (.inl (vp_updL f_3 (0 : Int32).toNatClampNeg (w2).toInt64))))) := hE.put hk_r4
  generalize (mu Mc2 r4 (.inl (k 1, 1, .inr (.inl (vp_updL f_3 (0 : Int32).toNatClampNeg (w2).toInt64))))) = Mc3 at hm hT hE
  refine lv_goto (tgt := 35) hx hb dL_read_12 (by decide) ?_
  refine lv_iconst (v := 0) hx hb dL_read_35 (by decide) ?_
  refine W.iret (v := 0) hx hb hr (fun t ht hW => ⟨⟨some (.int 0), _, rfl, ?_, by rw [ht]; exact hm⟩, hS.F ht⟩) hS.2.2 dL_read_36
  exact ⟨_, hT, hE, ⟨_, rfl⟩⟩

set_option maxHeartbeats 4000000 in
set_option maxRecDepth 100000 in
theorem h_L_length (l : Launch) (hlt : l.stackTraces = false) (D : va_G) (k : Nat → ClassId) (z : Nat) (M : mM) (κ : Nat → Option KD) (r0 : Nat) (a1 : Int32) (a2 : Int32) (r3 : Nat) (hk_r0 : κ r0 = some .top) (hk_r3 : κ r3 = some .outs) (hT : TM k κ M) : mKN l yL_length wsL_length ({ frames := 9, cells := 3, slots := 18, locals := 147 }) D k z [.ref r0, .int a1, .int a2, .ref r3] M (fun v M' => ∃ κ', TM k κ' M' ∧ kx κ M κ' M' ∧ ∃ x, v = some (.int x)) := by
  refine tc_ofWH (cc := cL_length) (maxL := 5) (ret := (some .int)) (hh := [(0, 10, 13, 13), (0, 10, 17, 31), (0, 10, 21, 33), (0, 10, 25, 15)]) (by decide) rfl ?_
  intro p e s m args below meth c s₁ B hml hv
  obtain ⟨rfl, hz, hcxN, hm⟩ := hv
  have hcx := hcxN.1
  have hx := B.exec
  have hb := B.bytes
  have hr := B.returns
  have hts := atoms_spec (ws := wsL_length) B.pre
  have hown : s.vm.findClass RL = some m.cls := findClass_of_methodNamed B.named
  have hlocks := B.notSynchronized
  have hK := hcx.1
  have hS : va_S (AZ z) s.heap s.heap [] := va_S.rf
  have hA : ∀ q, s.heap.size ≤ q → AZ z q := fun q h => Nat.le_trans hz h
  have htab := vx_table (x := yL_length) B (hts (.codeWith yL_length cL_length 5 (some .int) [(0, 10, 13, 13), (0, 10, 17, 31), (0, 10, 21, 33), (0, 10, 25, 15)]) List.mem_cons_self)
  have hl := lv_entry ([.ref r0, .int a1, .int a2, .ref r3]) (n := 5) (Nat.le_of_ble_eq_true rfl)
  rw [lg_entry_eq]
  generalize (lg_sl ([.ref r0, .int a1, .int a2, .ref r3]) ++ List.replicate (5 - (lg_sl ([.ref r0, .int a1, .int a2, .ref r3])).length) Slot.unset).toArray = ls at hl ⊢
  have hl : lv_has ls 5 [(0, .ref r0), (1, .int a1), (2, .int a2), (3, .ref r3)] := hl
  have hT0 := hT
  have hE : kx κ M κ M := kx.refl _ _
  refine lv_aload_n hx hb dL_length_0 rfl (lv_at hl 3 rfl) ?_
  refine lv_iconst (v := 0) hx hb dL_length_1 (by decide) ?_
  refine lv_aload_n hx hb dL_length_2 rfl (lv_at hl 0 rfl) ?_
  refine lv_iload_n hx hb dL_length_3 rfl (lv_at hl 1 rfl) ?_
  refine lv_iload_n hx hb dL_length_4 rfl (lv_at hl 2 rfl) ?_
  obtain ⟨v0_1, v1_1, v2_1, v3_1, v4_1, v5_1, v6_1, v7_1, v8_1, v9_1, v10_1, hM_r0_1, hk_v0_1, hk_v1_1, hk_v2_1, hk_v3_1, hk_v4_1, hk_v5_1, hz_v9_1, hz_v10_1⟩ := hT.top hk_r0
  refine m_cV (As := [.int a1, .int a2]) (rest := [.int 0, .ref r3]) (rm := { frames := 8, cells := 3, slots := 18, locals := 125 }) ⟨hx, hb, hml, hown, hts⟩ (t_X5_length_II l hlt D k z _ _ r0 a1 a2 hk_r0 hT) (cwV 2 hts gL_length_X5_length rfl rfl rfl (by decide +kernel) ⟨Nat.le_of_ble_eq_true rfl, Nat.le_of_ble_eq_true rfl⟩) (m_recv hK hm (q := (RX5, TX5, 11)) rfl hM_r0_1) hz hcx hm hS rfl hl.1 rfl (Nat.le_of_ble_eq_true rfl) dL_length_5 ⟨Nat.le_of_ble_eq_true rfl, Nat.le_of_ble_eq_true rfl⟩ (fun E ce q9 M1 H locs hv hm hS hce hcv hcl => ?_) (fun v M1 H locs hv hm hS => ?_)
  · obtain ⟨hE8, κ8, hT8, hx8⟩ := hv
    have hk_r0 := hx8.k hT hk_r0
    have hk_r3 := hx8.k hT hk_r3
    have hE := hE.trans hT0 hT hx8
    have hT := hT8
    obtain ⟨Mc1, hMx⟩ : ∃ x : mM, x = M1 := ⟨M1, rfl⟩
    subst hMx
    simp only [List.mem_cons, List.not_mem_nil, or_false] at hE8
    rcases hE8 with hE8 | hE8 | hE8 | hE8
    · subst hE8
      refine tc_catch (E := "java/lang/IllegalStateException") (name := "java/lang/IllegalStateException") hown [] ⟨0, 10, 13, 13⟩ [⟨0, 10, 17, 31⟩, ⟨0, 10, 21, 33⟩, ⟨0, 10, 25, 15⟩] (by rw [htab]; rfl) (fun z9 hz9 => by simp at hz9) (by decide) (by decide) (hts (.classLink RL 13 "java/lang/IllegalStateException") (by decide +kernel)) (hcx.dw _ (.castable "java/lang/IllegalStateException" "java/lang/IllegalStateException") (by decide +kernel)) hce hcv hcl ?_
      refine W.widen (k := 3) (n := 18) (Nat.le_of_ble_eq_true rfl) (Nat.le_of_ble_eq_true rfl) ?_
      refine W.eq (g2 := F0 m 13 ls [.ref q9]) rfl ?_
      refine lv_astore (lv' := [(4, .ref q9), (0, .ref r0), (1, .int a1), (2, .int a2), (3, .ref r3)]) hx hb dL_length_13 hl (by decide) rfl (fun ls hl => ?_)
      refine lv_iconst (v := 1) hx hb dL_length_15 (by decide) ?_
      refine W.iret (v := 1) hx hb hr (fun t ht hW => ⟨⟨some (.int 1), _, rfl, ?_, by rw [ht]; exact hm⟩, hS.F ht⟩) hS.2.2 dL_length_16
      exact ⟨_, hT, hE, ⟨_, rfl⟩⟩
    · subst hE8
      refine tc_catch (E := "java/util/NoSuchElementException") (name := "java/util/NoSuchElementException") hown [⟨0, 10, 13, 13⟩, ⟨0, 10, 17, 31⟩] ⟨0, 10, 21, 33⟩ [⟨0, 10, 25, 15⟩] (by rw [htab]; rfl) (fun z9 hz9 => by
          simp only [List.mem_cons, List.not_mem_nil, or_false] at hz9
          rcases hz9 with rfl | rfl
          · exact Or.inr ⟨by decide, "java/lang/IllegalStateException", hts (.classLink RL 13 "java/lang/IllegalStateException") (by decide +kernel), hcxN.2 ("java/util/NoSuchElementException", "java/lang/IllegalStateException") (by decide +kernel)⟩
          · exact Or.inr ⟨by decide, "java/lang/IllegalArgumentException", hts (.classLink RL 31 "java/lang/IllegalArgumentException") (by decide +kernel), hcxN.2 ("java/util/NoSuchElementException", "java/lang/IllegalArgumentException") (by decide +kernel)⟩) (by decide) (by decide) (hts (.classLink RL 33 "java/util/NoSuchElementException") (by decide +kernel)) (hcx.dw _ (.castable "java/util/NoSuchElementException" "java/util/NoSuchElementException") (by decide +kernel)) hce hcv hcl ?_
      refine W.widen (k := 3) (n := 18) (Nat.le_of_ble_eq_true rfl) (Nat.le_of_ble_eq_true rfl) ?_
      refine W.eq (g2 := F0 m 21 ls [.ref q9]) rfl ?_
      refine lv_astore (lv' := [(4, .ref q9), (0, .ref r0), (1, .int a1), (2, .int a2), (3, .ref r3)]) hx hb dL_length_21 hl (by decide) rfl (fun ls hl => ?_)
      refine lv_iconst (v := 3) hx hb dL_length_23 (by decide) ?_
      refine W.iret (v := 3) hx hb hr (fun t ht hW => ⟨⟨some (.int 3), _, rfl, ?_, by rw [ht]; exact hm⟩, hS.F ht⟩) hS.2.2 dL_length_24
      exact ⟨_, hT, hE, ⟨_, rfl⟩⟩
    · subst hE8
      refine tc_catch (E := "java/lang/UnsupportedOperationException") (name := "java/lang/UnsupportedOperationException") hown [⟨0, 10, 13, 13⟩, ⟨0, 10, 17, 31⟩, ⟨0, 10, 21, 33⟩] ⟨0, 10, 25, 15⟩ [] (by rw [htab]; rfl) (fun z9 hz9 => by
          simp only [List.mem_cons, List.not_mem_nil, or_false] at hz9
          rcases hz9 with rfl | rfl | rfl
          · exact Or.inr ⟨by decide, "java/lang/IllegalStateException", hts (.classLink RL 13 "java/lang/IllegalStateException") (by decide +kernel), hcxN.2 ("java/lang/UnsupportedOperationException", "java/lang/IllegalStateException") (by decide +kernel)⟩
          · exact Or.inr ⟨by decide, "java/lang/IllegalArgumentException", hts (.classLink RL 31 "java/lang/IllegalArgumentException") (by decide +kernel), hcxN.2 ("java/lang/UnsupportedOperationException", "java/lang/IllegalArgumentException") (by decide +kernel)⟩
          · exact Or.inr ⟨by decide, "java/util/NoSuchElementException", hts (.classLink RL 33 "java/util/NoSuchElementException") (by decide +kernel), hcxN.2 ("java/lang/UnsupportedOperationException", "java/util/NoSuchElementException") (by decide +kernel)⟩) (by decide) (by decide) (hts (.classLink RL 15 "java/lang/UnsupportedOperationException") (by decide +kernel)) (hcx.dw _ (.castable "java/lang/UnsupportedOperationException" "java/lang/UnsupportedOperationException") (by decide +kernel)) hce hcv hcl ?_
      refine W.widen (k := 3) (n := 18) (Nat.le_of_ble_eq_true rfl) (Nat.le_of_ble_eq_true rfl) ?_
      refine W.eq (g2 := F0 m 25 ls [.ref q9]) rfl ?_
      refine lv_astore (lv' := [(4, .ref q9), (0, .ref r0), (1, .int a1), (2, .int a2), (3, .ref r3)]) hx hb dL_length_25 hl (by decide) rfl (fun ls hl => ?_)
      refine lv_iconst (v := 4) hx hb dL_length_27 (by decide) ?_
      refine W.iret (v := 4) hx hb hr (fun t ht hW => ⟨⟨some (.int 4), _, rfl, ?_, by rw [ht]; exact hm⟩, hS.F ht⟩) hS.2.2 dL_length_28
      exact ⟨_, hT, hE, ⟨_, rfl⟩⟩
    · subst hE8
      refine tc_catch (E := "java/lang/IllegalArgumentException") (name := "java/lang/IllegalArgumentException") hown [⟨0, 10, 13, 13⟩] ⟨0, 10, 17, 31⟩ [⟨0, 10, 21, 33⟩, ⟨0, 10, 25, 15⟩] (by rw [htab]; rfl) (fun z9 hz9 => by
          simp only [List.mem_cons, List.not_mem_nil, or_false] at hz9
          rcases hz9 with rfl
          · exact Or.inr ⟨by decide, "java/lang/IllegalStateException", hts (.classLink RL 13 "java/lang/IllegalStateException") (by decide +kernel), hcxN.2 ("java/lang/IllegalArgumentException", "java/lang/IllegalStateException") (by decide +kernel)⟩) (by decide) (by decide) (hts (.classLink RL 31 "java/lang/IllegalArgumentException") (by decide +kernel)) (hcx.dw _ (.castable "java/lang/IllegalArgumentException" "java/lang/IllegalArgumentException") (by decide +kernel)) hce hcv hcl ?_
      refine W.widen (k := 3) (n := 18) (Nat.le_of_ble_eq_true rfl) (Nat.le_of_ble_eq_true rfl) ?_
      refine W.eq (g2 := F0 m 17 ls [.ref q9]) rfl ?_
      refine lv_astore (lv' := [(4, .ref q9), (0, .ref r0), (1, .int a1), (2, .int a2), (3, .ref r3)]) hx hb dL_length_17 hl (by decide) rfl (fun ls hl => ?_)
      refine lv_iconst (v := 2) hx hb dL_length_19 (by decide) ?_
      refine W.iret (v := 2) hx hb hr (fun t ht hW => ⟨⟨some (.int 2), _, rfl, ?_, by rw [ht]; exact hm⟩, hS.F ht⟩) hS.2.2 dL_length_20
      exact ⟨_, hT, hE, ⟨_, rfl⟩⟩
  obtain ⟨κ2, hT9, hE9, hv1⟩ := hv
  have hk_r0 := hE9.k hT hk_r0
  have hk_r3 := hE9.k hT hk_r3
  have hE := hE.trans hT0 hT hE9
  have hT := hT9
  obtain ⟨Mc2, hMx⟩ : ∃ x : mM, x = M1 := ⟨M1, rfl⟩
  subst hMx
  obtain ⟨w2, hv1⟩ := hv1
  subst hv1
  refine W.eq (g2 := F0 m 8 ls [.int w2, .int 0, .ref r3]) rfl ?_
  refine W.widen (k := 3) (n := 18) (Nat.le_of_ble_eq_true rfl) (Nat.le_of_ble_eq_true rfl) ?_
  have hm : mm D (AZ z) Mc2 H := hm
  refine lv_i2l (v := (w2).toInt64) hx hb dL_length_8 rfl ?_
  obtain ⟨f_3, hM_r3_3⟩ := hT.outs hk_r3
  refine m_last hx hb hK hm hS 1 hM_r3_3 rfl (by unfold vp_in; decide) dL_length_9 (fun H locs hm hS => ?_)
  have hm : mm D (AZ z) (mu Mc2 r3 (.inl (k 1, 1, .inr (.inl (vp_updL f_3 (0 : Int32).toNatClampNeg (w2).toInt64))))) H := hm
  have hT : TM k κ2 (mu Mc2 r3 (.inl (k 1, 1, .inr (.inl (vp_updL f_3 (0 : Int32).toNatClampNeg (w2).toInt64))))) := hT.put hk_r3 (show wf k κ2 .outs (.inl (k 1, 1, .inr (.inl (vp_updL f_3 (0 : Int32).toNatClampNeg (w2).toInt64)))) from ⟨(vp_updL f_3 (0 : Int32).toNatClampNeg (w2).toInt64), rfl⟩)
  have hE : kx κ M κ2 (mu Mc2 r3 (.inl (k 1, 1, .inr (.inl (vp_updL f_3 (0 : Int32).toNatClampNeg (w2).toInt64))))) := hE.put hk_r3
  generalize (mu Mc2 r3 (.inl (k 1, 1, .inr (.inl (vp_updL f_3 (0 : Int32).toNatClampNeg (w2).toInt64))))) = Mc3 at hm hT hE
  refine lv_goto (tgt := 29) hx hb dL_length_10 (by decide) ?_
  refine lv_iconst (v := 0) hx hb dL_length_29 (by decide) ?_
  refine W.iret (v := 0) hx hb hr (fun t ht hW => ⟨⟨some (.int 0), _, rfl, ?_, by rw [ht]; exact hm⟩, hS.F ht⟩) hS.2.2 dL_length_30
  exact ⟨_, hT, hE, ⟨_, rfl⟩⟩

set_option maxHeartbeats 4000000 in
set_option maxRecDepth 100000 in
theorem h_L_kind (l : Launch) (hlt : l.stackTraces = false) (D : va_G) (k : Nat → ClassId) (z : Nat) (M : mM) (κ : Nat → Option KD) (r0 : Nat) (a1 : Int32) (a2 : Int32) (r3 : Nat) (hk_r0 : κ r0 = some .top) (hk_r3 : κ r3 = some .outs) (hT : TM k κ M) : mKN l yL_kind wsL_kind ({ frames := 9, cells := 2, slots := 12, locals := 149 }) D k z [.ref r0, .int a1, .int a2, .ref r3] M (fun v M' => ∃ κ', TM k κ' M' ∧ kx κ M κ' M' ∧ ∃ x, v = some (.int x)) := by
  refine tc_ofWH (cc := cL_kind) (maxL := 5) (ret := (some .int)) (hh := [(0, 10, 13, 13), (0, 10, 17, 31)]) (by decide) rfl ?_
  intro p e s m args below meth c s₁ B hml hv
  obtain ⟨rfl, hz, hcxN, hm⟩ := hv
  have hcx := hcxN.1
  have hx := B.exec
  have hb := B.bytes
  have hr := B.returns
  have hts := atoms_spec (ws := wsL_kind) B.pre
  have hown : s.vm.findClass RL = some m.cls := findClass_of_methodNamed B.named
  have hlocks := B.notSynchronized
  have hK := hcx.1
  have hS : va_S (AZ z) s.heap s.heap [] := va_S.rf
  have hA : ∀ q, s.heap.size ≤ q → AZ z q := fun q h => Nat.le_trans hz h
  have htab := vx_table (x := yL_kind) B (hts (.codeWith yL_kind cL_kind 5 (some .int) [(0, 10, 13, 13), (0, 10, 17, 31)]) List.mem_cons_self)
  have hl := lv_entry ([.ref r0, .int a1, .int a2, .ref r3]) (n := 5) (Nat.le_of_ble_eq_true rfl)
  rw [lg_entry_eq]
  generalize (lg_sl ([.ref r0, .int a1, .int a2, .ref r3]) ++ List.replicate (5 - (lg_sl ([.ref r0, .int a1, .int a2, .ref r3])).length) Slot.unset).toArray = ls at hl ⊢
  have hl : lv_has ls 5 [(0, .ref r0), (1, .int a1), (2, .int a2), (3, .ref r3)] := hl
  have hT0 := hT
  have hE : kx κ M κ M := kx.refl _ _
  refine lv_aload_n hx hb dL_kind_0 rfl (lv_at hl 3 rfl) ?_
  refine lv_iconst (v := 0) hx hb dL_kind_1 (by decide) ?_
  refine lv_aload_n hx hb dL_kind_2 rfl (lv_at hl 0 rfl) ?_
  refine lv_iload_n hx hb dL_kind_3 rfl (lv_at hl 1 rfl) ?_
  refine lv_iload_n hx hb dL_kind_4 rfl (lv_at hl 2 rfl) ?_
  obtain ⟨v0_1, v1_1, v2_1, v3_1, v4_1, v5_1, v6_1, v7_1, v8_1, v9_1, v10_1, hM_r0_1, hk_v0_1, hk_v1_1, hk_v2_1, hk_v3_1, hk_v4_1, hk_v5_1, hz_v9_1, hz_v10_1⟩ := hT.top hk_r0
  refine m_cV (As := [.int a1, .int a2]) (rest := [.int 0, .ref r3]) (rm := { frames := 8, cells := 2, slots := 12, locals := 125 }) ⟨hx, hb, hml, hown, hts⟩ (t_X5_kind_II l hlt D k z _ _ r0 a1 a2 hk_r0 hT) (cwV 2 hts gL_kind_X5_kind rfl rfl rfl (by decide +kernel) ⟨Nat.le_of_ble_eq_true rfl, Nat.le_of_ble_eq_true rfl⟩) (m_recv hK hm (q := (RX5, TX5, 11)) rfl hM_r0_1) hz hcx hm hS rfl hl.1 rfl (Nat.le_of_ble_eq_true rfl) dL_kind_5 ⟨Nat.le_of_ble_eq_true rfl, Nat.le_of_ble_eq_true rfl⟩ (fun E ce q9 M1 H locs hv hm hS hce hcv hcl => ?_) (fun v M1 H locs hv hm hS => ?_)
  · obtain ⟨hE8, κ8, hT8, hx8⟩ := hv
    have hk_r0 := hx8.k hT hk_r0
    have hk_r3 := hx8.k hT hk_r3
    have hE := hE.trans hT0 hT hx8
    have hT := hT8
    obtain ⟨Mc1, hMx⟩ : ∃ x : mM, x = M1 := ⟨M1, rfl⟩
    subst hMx
    simp only [List.mem_cons, List.not_mem_nil, or_false] at hE8
    rcases hE8 with hE8 | hE8
    · subst hE8
      refine tc_catch (E := "java/lang/IllegalStateException") (name := "java/lang/IllegalStateException") hown [] ⟨0, 10, 13, 13⟩ [⟨0, 10, 17, 31⟩] (by rw [htab]; rfl) (fun z9 hz9 => by simp at hz9) (by decide) (by decide) (hts (.classLink RL 13 "java/lang/IllegalStateException") (by decide +kernel)) (hcx.dw _ (.castable "java/lang/IllegalStateException" "java/lang/IllegalStateException") (by decide +kernel)) hce hcv hcl ?_
      refine W.widen (k := 2) (n := 12) (Nat.le_of_ble_eq_true rfl) (Nat.le_of_ble_eq_true rfl) ?_
      refine W.eq (g2 := F0 m 13 ls [.ref q9]) rfl ?_
      refine lv_astore (lv' := [(4, .ref q9), (0, .ref r0), (1, .int a1), (2, .int a2), (3, .ref r3)]) hx hb dL_kind_13 hl (by decide) rfl (fun ls hl => ?_)
      refine lv_iconst (v := 1) hx hb dL_kind_15 (by decide) ?_
      refine W.iret (v := 1) hx hb hr (fun t ht hW => ⟨⟨some (.int 1), _, rfl, ?_, by rw [ht]; exact hm⟩, hS.F ht⟩) hS.2.2 dL_kind_16
      exact ⟨_, hT, hE, ⟨_, rfl⟩⟩
    · subst hE8
      refine tc_catch (E := "java/lang/IllegalArgumentException") (name := "java/lang/IllegalArgumentException") hown [⟨0, 10, 13, 13⟩] ⟨0, 10, 17, 31⟩ [] (by rw [htab]; rfl) (fun z9 hz9 => by
          simp only [List.mem_cons, List.not_mem_nil, or_false] at hz9
          rcases hz9 with rfl
          · exact Or.inr ⟨by decide, "java/lang/IllegalStateException", hts (.classLink RL 13 "java/lang/IllegalStateException") (by decide +kernel), hcxN.2 ("java/lang/IllegalArgumentException", "java/lang/IllegalStateException") (by decide +kernel)⟩) (by decide) (by decide) (hts (.classLink RL 31 "java/lang/IllegalArgumentException") (by decide +kernel)) (hcx.dw _ (.castable "java/lang/IllegalArgumentException" "java/lang/IllegalArgumentException") (by decide +kernel)) hce hcv hcl ?_
      refine W.widen (k := 2) (n := 12) (Nat.le_of_ble_eq_true rfl) (Nat.le_of_ble_eq_true rfl) ?_
      refine W.eq (g2 := F0 m 17 ls [.ref q9]) rfl ?_
      refine lv_astore (lv' := [(4, .ref q9), (0, .ref r0), (1, .int a1), (2, .int a2), (3, .ref r3)]) hx hb dL_kind_17 hl (by decide) rfl (fun ls hl => ?_)
      refine lv_iconst (v := 2) hx hb dL_kind_19 (by decide) ?_
      refine W.iret (v := 2) hx hb hr (fun t ht hW => ⟨⟨some (.int 2), _, rfl, ?_, by rw [ht]; exact hm⟩, hS.F ht⟩) hS.2.2 dL_kind_20
      exact ⟨_, hT, hE, ⟨_, rfl⟩⟩
  obtain ⟨κ2, hT9, hE9, hv1⟩ := hv
  have hk_r0 := hE9.k hT hk_r0
  have hk_r3 := hE9.k hT hk_r3
  have hE := hE.trans hT0 hT hE9
  have hT := hT9
  obtain ⟨Mc2, hMx⟩ : ∃ x : mM, x = M1 := ⟨M1, rfl⟩
  subst hMx
  obtain ⟨w2, hv1⟩ := hv1
  subst hv1
  refine W.eq (g2 := F0 m 8 ls [.int w2, .int 0, .ref r3]) rfl ?_
  refine W.widen (k := 2) (n := 12) (Nat.le_of_ble_eq_true rfl) (Nat.le_of_ble_eq_true rfl) ?_
  have hm : mm D (AZ z) Mc2 H := hm
  refine lv_i2l (v := (w2).toInt64) hx hb dL_kind_8 rfl ?_
  obtain ⟨f_3, hM_r3_3⟩ := hT.outs hk_r3
  refine m_last hx hb hK hm hS 1 hM_r3_3 rfl (by unfold vp_in; decide) dL_kind_9 (fun H locs hm hS => ?_)
  have hm : mm D (AZ z) (mu Mc2 r3 (.inl (k 1, 1, .inr (.inl (vp_updL f_3 (0 : Int32).toNatClampNeg (w2).toInt64))))) H := hm
  have hT : TM k κ2 (mu Mc2 r3 (.inl (k 1, 1, .inr (.inl (vp_updL f_3 (0 : Int32).toNatClampNeg (w2).toInt64))))) := hT.put hk_r3 (show wf k κ2 .outs (.inl (k 1, 1, .inr (.inl (vp_updL f_3 (0 : Int32).toNatClampNeg (w2).toInt64)))) from ⟨(vp_updL f_3 (0 : Int32).toNatClampNeg (w2).toInt64), rfl⟩)
  have hE : kx κ M κ2 (mu Mc2 r3 (.inl (k 1, 1, .inr (.inl (vp_updL f_3 (0 : Int32).toNatClampNeg (w2).toInt64))))) := hE.put hk_r3
  generalize (mu Mc2 r3 (.inl (k 1, 1, .inr (.inl (vp_updL f_3 (0 : Int32).toNatClampNeg (w2).toInt64))))) = Mc3 at hm hT hE
  refine lv_goto (tgt := 21) hx hb dL_kind_10 (by decide) ?_
  refine lv_iconst (v := 0) hx hb dL_kind_21 (by decide) ?_
  refine W.iret (v := 0) hx hb hr (fun t ht hW => ⟨⟨some (.int 0), _, rfl, ?_, by rw [ht]; exact hm⟩, hS.F ht⟩) hS.2.2 dL_kind_22
  exact ⟨_, hT, hE, ⟨_, rfl⟩⟩

set_option maxHeartbeats 4000000 in
set_option maxRecDepth 100000 in
theorem h_L_list (l : Launch) (hlt : l.stackTraces = false) (D : va_G) (k : Nat → ClassId) (z : Nat) (M : mM) (κ : Nat → Option KD) (r0 : Nat) (a1 : Int32) (a2 : Int32) (r3 : Nat) (hk_r0 : κ r0 = some .top) (hk_r3 : κ r3 = some .outs) (hT : TM k κ M) : mKN l yL_list wsL_list ({ frames := 9, cells := 3, slots := 18, locals := 149 }) D k z [.ref r0, .int a1, .int a2, .ref r3] M (fun v M' => ∃ κ', TM k κ' M' ∧ kx κ M κ' M' ∧ ∃ x, v = some (.int x)) := by
  refine tc_ofWH (cc := cL_list) (maxL := 5) (ret := (some .int)) (hh := [(0, 10, 13, 13), (0, 10, 17, 31), (0, 10, 21, 33), (0, 10, 25, 15)]) (by decide) rfl ?_
  intro p e s m args below meth c s₁ B hml hv
  obtain ⟨rfl, hz, hcxN, hm⟩ := hv
  have hcx := hcxN.1
  have hx := B.exec
  have hb := B.bytes
  have hr := B.returns
  have hts := atoms_spec (ws := wsL_list) B.pre
  have hown : s.vm.findClass RL = some m.cls := findClass_of_methodNamed B.named
  have hlocks := B.notSynchronized
  have hK := hcx.1
  have hS : va_S (AZ z) s.heap s.heap [] := va_S.rf
  have hA : ∀ q, s.heap.size ≤ q → AZ z q := fun q h => Nat.le_trans hz h
  have htab := vx_table (x := yL_list) B (hts (.codeWith yL_list cL_list 5 (some .int) [(0, 10, 13, 13), (0, 10, 17, 31), (0, 10, 21, 33), (0, 10, 25, 15)]) List.mem_cons_self)
  have hl := lv_entry ([.ref r0, .int a1, .int a2, .ref r3]) (n := 5) (Nat.le_of_ble_eq_true rfl)
  rw [lg_entry_eq]
  generalize (lg_sl ([.ref r0, .int a1, .int a2, .ref r3]) ++ List.replicate (5 - (lg_sl ([.ref r0, .int a1, .int a2, .ref r3])).length) Slot.unset).toArray = ls at hl ⊢
  have hl : lv_has ls 5 [(0, .ref r0), (1, .int a1), (2, .int a2), (3, .ref r3)] := hl
  have hT0 := hT
  have hE : kx κ M κ M := kx.refl _ _
  refine lv_aload_n hx hb dL_list_0 rfl (lv_at hl 3 rfl) ?_
  refine lv_iconst (v := 0) hx hb dL_list_1 (by decide) ?_
  refine lv_aload_n hx hb dL_list_2 rfl (lv_at hl 0 rfl) ?_
  refine lv_iload_n hx hb dL_list_3 rfl (lv_at hl 1 rfl) ?_
  refine lv_iload_n hx hb dL_list_4 rfl (lv_at hl 2 rfl) ?_
  obtain ⟨v0_1, v1_1, v2_1, v3_1, v4_1, v5_1, v6_1, v7_1, v8_1, v9_1, v10_1, hM_r0_1, hk_v0_1, hk_v1_1, hk_v2_1, hk_v3_1, hk_v4_1, hk_v5_1, hz_v9_1, hz_v10_1⟩ := hT.top hk_r0
  refine m_cV (As := [.int a1, .int a2]) (rest := [.int 0, .ref r3]) (rm := { frames := 8, cells := 3, slots := 18, locals := 125 }) ⟨hx, hb, hml, hown, hts⟩ (t_X5_list_II l hlt D k z _ _ r0 a1 a2 hk_r0 hT) (cwV 2 hts gL_list_X5_list rfl rfl rfl (by decide +kernel) ⟨Nat.le_of_ble_eq_true rfl, Nat.le_of_ble_eq_true rfl⟩) (m_recv hK hm (q := (RX5, TX5, 11)) rfl hM_r0_1) hz hcx hm hS rfl hl.1 rfl (Nat.le_of_ble_eq_true rfl) dL_list_5 ⟨Nat.le_of_ble_eq_true rfl, Nat.le_of_ble_eq_true rfl⟩ (fun E ce q9 M1 H locs hv hm hS hce hcv hcl => ?_) (fun v M1 H locs hv hm hS => ?_)
  · obtain ⟨hE8, κ8, hT8, hx8⟩ := hv
    have hk_r0 := hx8.k hT hk_r0
    have hk_r3 := hx8.k hT hk_r3
    have hE := hE.trans hT0 hT hx8
    have hT := hT8
    obtain ⟨Mc1, hMx⟩ : ∃ x : mM, x = M1 := ⟨M1, rfl⟩
    subst hMx
    simp only [List.mem_cons, List.not_mem_nil, or_false] at hE8
    rcases hE8 with hE8 | hE8 | hE8 | hE8
    · subst hE8
      refine tc_catch (E := "java/util/NoSuchElementException") (name := "java/util/NoSuchElementException") hown [⟨0, 10, 13, 13⟩, ⟨0, 10, 17, 31⟩] ⟨0, 10, 21, 33⟩ [⟨0, 10, 25, 15⟩] (by rw [htab]; rfl) (fun z9 hz9 => by
          simp only [List.mem_cons, List.not_mem_nil, or_false] at hz9
          rcases hz9 with rfl | rfl
          · exact Or.inr ⟨by decide, "java/lang/IllegalStateException", hts (.classLink RL 13 "java/lang/IllegalStateException") (by decide +kernel), hcxN.2 ("java/util/NoSuchElementException", "java/lang/IllegalStateException") (by decide +kernel)⟩
          · exact Or.inr ⟨by decide, "java/lang/IllegalArgumentException", hts (.classLink RL 31 "java/lang/IllegalArgumentException") (by decide +kernel), hcxN.2 ("java/util/NoSuchElementException", "java/lang/IllegalArgumentException") (by decide +kernel)⟩) (by decide) (by decide) (hts (.classLink RL 33 "java/util/NoSuchElementException") (by decide +kernel)) (hcx.dw _ (.castable "java/util/NoSuchElementException" "java/util/NoSuchElementException") (by decide +kernel)) hce hcv hcl ?_
      refine W.widen (k := 3) (n := 18) (Nat.le_of_ble_eq_true rfl) (Nat.le_of_ble_eq_true rfl) ?_
      refine W.eq (g2 := F0 m 21 ls [.ref q9]) rfl ?_
      refine lv_astore (lv' := [(4, .ref q9), (0, .ref r0), (1, .int a1), (2, .int a2), (3, .ref r3)]) hx hb dL_list_21 hl (by decide) rfl (fun ls hl => ?_)
      refine lv_iconst (v := 3) hx hb dL_list_23 (by decide) ?_
      refine W.iret (v := 3) hx hb hr (fun t ht hW => ⟨⟨some (.int 3), _, rfl, ?_, by rw [ht]; exact hm⟩, hS.F ht⟩) hS.2.2 dL_list_24
      exact ⟨_, hT, hE, ⟨_, rfl⟩⟩
    · subst hE8
      refine tc_catch (E := "java/lang/UnsupportedOperationException") (name := "java/lang/UnsupportedOperationException") hown [⟨0, 10, 13, 13⟩, ⟨0, 10, 17, 31⟩, ⟨0, 10, 21, 33⟩] ⟨0, 10, 25, 15⟩ [] (by rw [htab]; rfl) (fun z9 hz9 => by
          simp only [List.mem_cons, List.not_mem_nil, or_false] at hz9
          rcases hz9 with rfl | rfl | rfl
          · exact Or.inr ⟨by decide, "java/lang/IllegalStateException", hts (.classLink RL 13 "java/lang/IllegalStateException") (by decide +kernel), hcxN.2 ("java/lang/UnsupportedOperationException", "java/lang/IllegalStateException") (by decide +kernel)⟩
          · exact Or.inr ⟨by decide, "java/lang/IllegalArgumentException", hts (.classLink RL 31 "java/lang/IllegalArgumentException") (by decide +kernel), hcxN.2 ("java/lang/UnsupportedOperationException", "java/lang/IllegalArgumentException") (by decide +kernel)⟩
          · exact Or.inr ⟨by decide, "java/util/NoSuchElementException", hts (.classLink RL 33 "java/util/NoSuchElementException") (by decide +kernel), hcxN.2 ("java/lang/UnsupportedOperationException", "java/util/NoSuchElementException") (by decide +kernel)⟩) (by decide) (by decide) (hts (.classLink RL 15 "java/lang/UnsupportedOperationException") (by decide +kernel)) (hcx.dw _ (.castable "java/lang/UnsupportedOperationException" "java/lang/UnsupportedOperationException") (by decide +kernel)) hce hcv hcl ?_
      refine W.widen (k := 3) (n := 18) (Nat.le_of_ble_eq_true rfl) (Nat.le_of_ble_eq_true rfl) ?_
      refine W.eq (g2 := F0 m 25 ls [.ref q9]) rfl ?_
      refine lv_astore (lv' := [(4, .ref q9), (0, .ref r0), (1, .int a1), (2, .int a2), (3, .ref r3)]) hx hb dL_list_25 hl (by decide) rfl (fun ls hl => ?_)
      refine lv_iconst (v := 4) hx hb dL_list_27 (by decide) ?_
      refine W.iret (v := 4) hx hb hr (fun t ht hW => ⟨⟨some (.int 4), _, rfl, ?_, by rw [ht]; exact hm⟩, hS.F ht⟩) hS.2.2 dL_list_28
      exact ⟨_, hT, hE, ⟨_, rfl⟩⟩
    · subst hE8
      refine tc_catch (E := "java/lang/IllegalStateException") (name := "java/lang/IllegalStateException") hown [] ⟨0, 10, 13, 13⟩ [⟨0, 10, 17, 31⟩, ⟨0, 10, 21, 33⟩, ⟨0, 10, 25, 15⟩] (by rw [htab]; rfl) (fun z9 hz9 => by simp at hz9) (by decide) (by decide) (hts (.classLink RL 13 "java/lang/IllegalStateException") (by decide +kernel)) (hcx.dw _ (.castable "java/lang/IllegalStateException" "java/lang/IllegalStateException") (by decide +kernel)) hce hcv hcl ?_
      refine W.widen (k := 3) (n := 18) (Nat.le_of_ble_eq_true rfl) (Nat.le_of_ble_eq_true rfl) ?_
      refine W.eq (g2 := F0 m 13 ls [.ref q9]) rfl ?_
      refine lv_astore (lv' := [(4, .ref q9), (0, .ref r0), (1, .int a1), (2, .int a2), (3, .ref r3)]) hx hb dL_list_13 hl (by decide) rfl (fun ls hl => ?_)
      refine lv_iconst (v := 1) hx hb dL_list_15 (by decide) ?_
      refine W.iret (v := 1) hx hb hr (fun t ht hW => ⟨⟨some (.int 1), _, rfl, ?_, by rw [ht]; exact hm⟩, hS.F ht⟩) hS.2.2 dL_list_16
      exact ⟨_, hT, hE, ⟨_, rfl⟩⟩
    · subst hE8
      refine tc_catch (E := "java/lang/IllegalArgumentException") (name := "java/lang/IllegalArgumentException") hown [⟨0, 10, 13, 13⟩] ⟨0, 10, 17, 31⟩ [⟨0, 10, 21, 33⟩, ⟨0, 10, 25, 15⟩] (by rw [htab]; rfl) (fun z9 hz9 => by
          simp only [List.mem_cons, List.not_mem_nil, or_false] at hz9
          rcases hz9 with rfl
          · exact Or.inr ⟨by decide, "java/lang/IllegalStateException", hts (.classLink RL 13 "java/lang/IllegalStateException") (by decide +kernel), hcxN.2 ("java/lang/IllegalArgumentException", "java/lang/IllegalStateException") (by decide +kernel)⟩) (by decide) (by decide) (hts (.classLink RL 31 "java/lang/IllegalArgumentException") (by decide +kernel)) (hcx.dw _ (.castable "java/lang/IllegalArgumentException" "java/lang/IllegalArgumentException") (by decide +kernel)) hce hcv hcl ?_
      refine W.widen (k := 3) (n := 18) (Nat.le_of_ble_eq_true rfl) (Nat.le_of_ble_eq_true rfl) ?_
      refine W.eq (g2 := F0 m 17 ls [.ref q9]) rfl ?_
      refine lv_astore (lv' := [(4, .ref q9), (0, .ref r0), (1, .int a1), (2, .int a2), (3, .ref r3)]) hx hb dL_list_17 hl (by decide) rfl (fun ls hl => ?_)
      refine lv_iconst (v := 2) hx hb dL_list_19 (by decide) ?_
      refine W.iret (v := 2) hx hb hr (fun t ht hW => ⟨⟨some (.int 2), _, rfl, ?_, by rw [ht]; exact hm⟩, hS.F ht⟩) hS.2.2 dL_list_20
      exact ⟨_, hT, hE, ⟨_, rfl⟩⟩
  obtain ⟨κ2, hT9, hE9, hv1⟩ := hv
  have hk_r0 := hE9.k hT hk_r0
  have hk_r3 := hE9.k hT hk_r3
  have hE := hE.trans hT0 hT hE9
  have hT := hT9
  obtain ⟨Mc2, hMx⟩ : ∃ x : mM, x = M1 := ⟨M1, rfl⟩
  subst hMx
  obtain ⟨w2, hv1⟩ := hv1
  subst hv1
  refine W.eq (g2 := F0 m 8 ls [.int w2, .int 0, .ref r3]) rfl ?_
  refine W.widen (k := 3) (n := 18) (Nat.le_of_ble_eq_true rfl) (Nat.le_of_ble_eq_true rfl) ?_
  have hm : mm D (AZ z) Mc2 H := hm
  refine lv_i2l (v := (w2).toInt64) hx hb dL_list_8 rfl ?_
  obtain ⟨f_3, hM_r3_3⟩ := hT.outs hk_r3
  refine m_last hx hb hK hm hS 1 hM_r3_3 rfl (by unfold vp_in; decide) dL_list_9 (fun H locs hm hS => ?_)
  have hm : mm D (AZ z) (mu Mc2 r3 (.inl (k 1, 1, .inr (.inl (vp_updL f_3 (0 : Int32).toNatClampNeg (w2).toInt64))))) H := hm
  have hT : TM k κ2 (mu Mc2 r3 (.inl (k 1, 1, .inr (.inl (vp_updL f_3 (0 : Int32).toNatClampNeg (w2).toInt64))))) := hT.put hk_r3 (show wf k κ2 .outs (.inl (k 1, 1, .inr (.inl (vp_updL f_3 (0 : Int32).toNatClampNeg (w2).toInt64)))) from ⟨(vp_updL f_3 (0 : Int32).toNatClampNeg (w2).toInt64), rfl⟩)
  have hE : kx κ M κ2 (mu Mc2 r3 (.inl (k 1, 1, .inr (.inl (vp_updL f_3 (0 : Int32).toNatClampNeg (w2).toInt64))))) := hE.put hk_r3
  generalize (mu Mc2 r3 (.inl (k 1, 1, .inr (.inl (vp_updL f_3 (0 : Int32).toNatClampNeg (w2).toInt64))))) = Mc3 at hm hT hE
  refine lv_goto (tgt := 29) hx hb dL_list_10 (by decide) ?_
  refine lv_iconst (v := 0) hx hb dL_list_29 (by decide) ?_
  refine W.iret (v := 0) hx hb hr (fun t ht hW => ⟨⟨some (.int 0), _, rfl, ?_, by rw [ht]; exact hm⟩, hS.F ht⟩) hS.2.2 dL_list_30
  exact ⟨_, hT, hE, ⟨_, rfl⟩⟩

set_option maxHeartbeats 4000000 in
set_option maxRecDepth 100000 in
theorem h_L_mark (l : Launch) (hlt : l.stackTraces = false) (D : va_G) (k : Nat → ClassId) (z : Nat) (M : mM) (κ : Nat → Option KD) (r0 : Nat) (a1 : Int32) (r2 : Nat) (hk_r0 : κ r0 = some .top) (hk_r2 : κ r2 = some .outs) (hT : TM k κ M) : mKN l yL_mark wsL_mark ({ frames := 8, cells := 2, slots := 12, locals := 126 }) D k z [.ref r0, .int a1, .ref r2] M (fun v M' => ∃ κ', TM k κ' M' ∧ kx κ M κ' M' ∧ ∃ x, v = some (.int x)) := by
  refine tc_ofWH (cc := cL_mark) (maxL := 4) (ret := (some .int)) (hh := [(0, 9, 12, 13), (0, 9, 15, 15)]) (by decide) rfl ?_
  intro p e s m args below meth c s₁ B hml hv
  obtain ⟨rfl, hz, hcxN, hm⟩ := hv
  have hcx := hcxN.1
  have hx := B.exec
  have hb := B.bytes
  have hr := B.returns
  have hts := atoms_spec (ws := wsL_mark) B.pre
  have hown : s.vm.findClass RL = some m.cls := findClass_of_methodNamed B.named
  have hlocks := B.notSynchronized
  have hK := hcx.1
  have hS : va_S (AZ z) s.heap s.heap [] := va_S.rf
  have hA : ∀ q, s.heap.size ≤ q → AZ z q := fun q h => Nat.le_trans hz h
  have htab := vx_table (x := yL_mark) B (hts (.codeWith yL_mark cL_mark 4 (some .int) [(0, 9, 12, 13), (0, 9, 15, 15)]) List.mem_cons_self)
  have hl := lv_entry ([.ref r0, .int a1, .ref r2]) (n := 4) (Nat.le_of_ble_eq_true rfl)
  rw [lg_entry_eq]
  generalize (lg_sl ([.ref r0, .int a1, .ref r2]) ++ List.replicate (4 - (lg_sl ([.ref r0, .int a1, .ref r2])).length) Slot.unset).toArray = ls at hl ⊢
  have hl : lv_has ls 4 [(0, .ref r0), (1, .int a1), (2, .ref r2)] := hl
  have hT0 := hT
  have hE : kx κ M κ M := kx.refl _ _
  refine lv_aload_n hx hb dL_mark_0 rfl (lv_at hl 2 rfl) ?_
  refine lv_iconst (v := 0) hx hb dL_mark_1 (by decide) ?_
  refine lv_aload_n hx hb dL_mark_2 rfl (lv_at hl 0 rfl) ?_
  refine lv_iload_n hx hb dL_mark_3 rfl (lv_at hl 1 rfl) ?_
  obtain ⟨v0_1, v1_1, v2_1, v3_1, v4_1, v5_1, v6_1, v7_1, v8_1, v9_1, v10_1, hM_r0_1, hk_v0_1, hk_v1_1, hk_v2_1, hk_v3_1, hk_v4_1, hk_v5_1, hz_v9_1, hz_v10_1⟩ := hT.top hk_r0
  refine m_cV (As := [.int a1]) (rest := [.int 0, .ref r2]) (rm := { frames := 7, cells := 2, slots := 12, locals := 104 }) ⟨hx, hb, hml, hown, hts⟩ (t_X5_mark_I l hlt D k z _ _ r0 a1 hk_r0 hT) (cwV 1 hts gL_mark_X5_mark rfl rfl rfl (by decide +kernel) ⟨Nat.le_of_ble_eq_true rfl, Nat.le_of_ble_eq_true rfl⟩) (m_recv hK hm (q := (RX5, TX5, 11)) rfl hM_r0_1) hz hcx hm hS rfl hl.1 rfl (Nat.le_of_ble_eq_true rfl) dL_mark_4 ⟨Nat.le_of_ble_eq_true rfl, Nat.le_of_ble_eq_true rfl⟩ (fun E ce q9 M1 H locs hv hm hS hce hcv hcl => ?_) (fun v M1 H locs hv hm hS => ?_)
  · obtain ⟨hE8, κ8, hT8, hx8⟩ := hv
    have hk_r0 := hx8.k hT hk_r0
    have hk_r2 := hx8.k hT hk_r2
    have hE := hE.trans hT0 hT hx8
    have hT := hT8
    obtain ⟨Mc1, hMx⟩ : ∃ x : mM, x = M1 := ⟨M1, rfl⟩
    subst hMx
    simp only [List.mem_cons, List.not_mem_nil, or_false] at hE8
    rcases hE8 with hE8 | hE8
    · subst hE8
      refine tc_catch (E := "java/lang/UnsupportedOperationException") (name := "java/lang/UnsupportedOperationException") hown [⟨0, 9, 12, 13⟩] ⟨0, 9, 15, 15⟩ [] (by rw [htab]; rfl) (fun z9 hz9 => by
          simp only [List.mem_cons, List.not_mem_nil, or_false] at hz9
          rcases hz9 with rfl
          · exact Or.inr ⟨by decide, "java/lang/IllegalStateException", hts (.classLink RL 13 "java/lang/IllegalStateException") (by decide +kernel), hcxN.2 ("java/lang/UnsupportedOperationException", "java/lang/IllegalStateException") (by decide +kernel)⟩) (by decide) (by decide) (hts (.classLink RL 15 "java/lang/UnsupportedOperationException") (by decide +kernel)) (hcx.dw _ (.castable "java/lang/UnsupportedOperationException" "java/lang/UnsupportedOperationException") (by decide +kernel)) hce hcv hcl ?_
      refine W.widen (k := 2) (n := 12) (Nat.le_of_ble_eq_true rfl) (Nat.le_of_ble_eq_true rfl) ?_
      refine W.eq (g2 := F0 m 15 ls [.ref q9]) rfl ?_
      refine lv_astore_n (lv' := [(3, .ref q9), (0, .ref r0), (1, .int a1), (2, .ref r2)]) hx hb dL_mark_15 rfl hl (by decide) rfl (fun ls hl => ?_)
      refine lv_iconst (v := 2) hx hb dL_mark_16 (by decide) ?_
      refine W.iret (v := 2) hx hb hr (fun t ht hW => ⟨⟨some (.int 2), _, rfl, ?_, by rw [ht]; exact hm⟩, hS.F ht⟩) hS.2.2 dL_mark_17
      exact ⟨_, hT, hE, ⟨_, rfl⟩⟩
    · subst hE8
      refine tc_catch (E := "java/lang/IllegalStateException") (name := "java/lang/IllegalStateException") hown [] ⟨0, 9, 12, 13⟩ [⟨0, 9, 15, 15⟩] (by rw [htab]; rfl) (fun z9 hz9 => by simp at hz9) (by decide) (by decide) (hts (.classLink RL 13 "java/lang/IllegalStateException") (by decide +kernel)) (hcx.dw _ (.castable "java/lang/IllegalStateException" "java/lang/IllegalStateException") (by decide +kernel)) hce hcv hcl ?_
      refine W.widen (k := 2) (n := 12) (Nat.le_of_ble_eq_true rfl) (Nat.le_of_ble_eq_true rfl) ?_
      refine W.eq (g2 := F0 m 12 ls [.ref q9]) rfl ?_
      refine lv_astore_n (lv' := [(3, .ref q9), (0, .ref r0), (1, .int a1), (2, .ref r2)]) hx hb dL_mark_12 rfl hl (by decide) rfl (fun ls hl => ?_)
      refine lv_iconst (v := 1) hx hb dL_mark_13 (by decide) ?_
      refine W.iret (v := 1) hx hb hr (fun t ht hW => ⟨⟨some (.int 1), _, rfl, ?_, by rw [ht]; exact hm⟩, hS.F ht⟩) hS.2.2 dL_mark_14
      exact ⟨_, hT, hE, ⟨_, rfl⟩⟩
  obtain ⟨κ2, hT9, hE9, hv1⟩ := hv
  have hk_r0 := hE9.k hT hk_r0
  have hk_r2 := hE9.k hT hk_r2
  have hE := hE.trans hT0 hT hE9
  have hT := hT9
  obtain ⟨Mc2, hMx⟩ : ∃ x : mM, x = M1 := ⟨M1, rfl⟩
  subst hMx
  obtain ⟨w2, hv1⟩ := hv1
  subst hv1
  refine W.eq (g2 := F0 m 7 ls [.int w2, .int 0, .ref r2]) rfl ?_
  refine W.widen (k := 2) (n := 12) (Nat.le_of_ble_eq_true rfl) (Nat.le_of_ble_eq_true rfl) ?_
  have hm : mm D (AZ z) Mc2 H := hm
  refine lv_i2l (v := (w2).toInt64) hx hb dL_mark_7 rfl ?_
  obtain ⟨f_3, hM_r2_3⟩ := hT.outs hk_r2
  refine m_last hx hb hK hm hS 1 hM_r2_3 rfl (by unfold vp_in; decide) dL_mark_8 (fun H locs hm hS => ?_)
  have hm : mm D (AZ z) (mu Mc2 r2 (.inl (k 1, 1, .inr (.inl (vp_updL f_3 (0 : Int32).toNatClampNeg (w2).toInt64))))) H := hm
  have hT : TM k κ2 (mu Mc2 r2 (.inl (k 1, 1, .inr (.inl (vp_updL f_3 (0 : Int32).toNatClampNeg (w2).toInt64))))) := hT.put hk_r2 (show wf k κ2 .outs (.inl (k 1, 1, .inr (.inl (vp_updL f_3 (0 : Int32).toNatClampNeg (w2).toInt64)))) from ⟨(vp_updL f_3 (0 : Int32).toNatClampNeg (w2).toInt64), rfl⟩)
  have hE : kx κ M κ2 (mu Mc2 r2 (.inl (k 1, 1, .inr (.inl (vp_updL f_3 (0 : Int32).toNatClampNeg (w2).toInt64))))) := hE.put hk_r2
  generalize (mu Mc2 r2 (.inl (k 1, 1, .inr (.inl (vp_updL f_3 (0 : Int32).toNatClampNeg (w2).toInt64))))) = Mc3 at hm hT hE
  refine lv_goto (tgt := 18) hx hb dL_mark_9 (by decide) ?_
  refine lv_iconst (v := 0) hx hb dL_mark_18 (by decide) ?_
  refine W.iret (v := 0) hx hb hr (fun t ht hW => ⟨⟨some (.int 0), _, rfl, ?_, by rw [ht]; exact hm⟩, hS.F ht⟩) hS.2.2 dL_mark_19
  exact ⟨_, hT, hE, ⟨_, rfl⟩⟩

set_option maxHeartbeats 4000000 in
set_option maxRecDepth 100000 in
theorem h_L_back (l : Launch) (hlt : l.stackTraces = false) (D : va_G) (k : Nat → ClassId) (z : Nat) (M : mM) (κ : Nat → Option KD) (r0 : Nat) (a1 : Int32) (r2 : Nat) (hk_r0 : κ r0 = some .top) (hk_r2 : κ r2 = some .outs) (hT : TM k κ M) : mKN l yL_back wsL_back ({ frames := 8, cells := 2, slots := 12, locals := 126 }) D k z [.ref r0, .int a1, .ref r2] M (fun v M' => ∃ κ', TM k κ' M' ∧ kx κ M κ' M' ∧ ∃ x, v = some (.int x)) := by
  refine tc_ofWH (cc := cL_back) (maxL := 4) (ret := (some .int)) (hh := [(0, 9, 12, 13), (0, 9, 15, 15)]) (by decide) rfl ?_
  intro p e s m args below meth c s₁ B hml hv
  obtain ⟨rfl, hz, hcxN, hm⟩ := hv
  have hcx := hcxN.1
  have hx := B.exec
  have hb := B.bytes
  have hr := B.returns
  have hts := atoms_spec (ws := wsL_back) B.pre
  have hown : s.vm.findClass RL = some m.cls := findClass_of_methodNamed B.named
  have hlocks := B.notSynchronized
  have hK := hcx.1
  have hS : va_S (AZ z) s.heap s.heap [] := va_S.rf
  have hA : ∀ q, s.heap.size ≤ q → AZ z q := fun q h => Nat.le_trans hz h
  have htab := vx_table (x := yL_back) B (hts (.codeWith yL_back cL_back 4 (some .int) [(0, 9, 12, 13), (0, 9, 15, 15)]) List.mem_cons_self)
  have hl := lv_entry ([.ref r0, .int a1, .ref r2]) (n := 4) (Nat.le_of_ble_eq_true rfl)
  rw [lg_entry_eq]
  generalize (lg_sl ([.ref r0, .int a1, .ref r2]) ++ List.replicate (4 - (lg_sl ([.ref r0, .int a1, .ref r2])).length) Slot.unset).toArray = ls at hl ⊢
  have hl : lv_has ls 4 [(0, .ref r0), (1, .int a1), (2, .ref r2)] := hl
  have hT0 := hT
  have hE : kx κ M κ M := kx.refl _ _
  refine lv_aload_n hx hb dL_back_0 rfl (lv_at hl 2 rfl) ?_
  refine lv_iconst (v := 0) hx hb dL_back_1 (by decide) ?_
  refine lv_aload_n hx hb dL_back_2 rfl (lv_at hl 0 rfl) ?_
  refine lv_iload_n hx hb dL_back_3 rfl (lv_at hl 1 rfl) ?_
  obtain ⟨v0_1, v1_1, v2_1, v3_1, v4_1, v5_1, v6_1, v7_1, v8_1, v9_1, v10_1, hM_r0_1, hk_v0_1, hk_v1_1, hk_v2_1, hk_v3_1, hk_v4_1, hk_v5_1, hz_v9_1, hz_v10_1⟩ := hT.top hk_r0
  refine m_cV (As := [.int a1]) (rest := [.int 0, .ref r2]) (rm := { frames := 7, cells := 2, slots := 12, locals := 104 }) ⟨hx, hb, hml, hown, hts⟩ (t_X5_back_I l hlt D k z _ _ r0 a1 hk_r0 hT) (cwV 1 hts gL_back_X5_back rfl rfl rfl (by decide +kernel) ⟨Nat.le_of_ble_eq_true rfl, Nat.le_of_ble_eq_true rfl⟩) (m_recv hK hm (q := (RX5, TX5, 11)) rfl hM_r0_1) hz hcx hm hS rfl hl.1 rfl (Nat.le_of_ble_eq_true rfl) dL_back_4 ⟨Nat.le_of_ble_eq_true rfl, Nat.le_of_ble_eq_true rfl⟩ (fun E ce q9 M1 H locs hv hm hS hce hcv hcl => ?_) (fun v M1 H locs hv hm hS => ?_)
  · obtain ⟨hE8, κ8, hT8, hx8⟩ := hv
    have hk_r0 := hx8.k hT hk_r0
    have hk_r2 := hx8.k hT hk_r2
    have hE := hE.trans hT0 hT hx8
    have hT := hT8
    obtain ⟨Mc1, hMx⟩ : ∃ x : mM, x = M1 := ⟨M1, rfl⟩
    subst hMx
    simp only [List.mem_cons, List.not_mem_nil, or_false] at hE8
    rcases hE8 with hE8 | hE8
    · subst hE8
      refine tc_catch (E := "java/lang/UnsupportedOperationException") (name := "java/lang/UnsupportedOperationException") hown [⟨0, 9, 12, 13⟩] ⟨0, 9, 15, 15⟩ [] (by rw [htab]; rfl) (fun z9 hz9 => by
          simp only [List.mem_cons, List.not_mem_nil, or_false] at hz9
          rcases hz9 with rfl
          · exact Or.inr ⟨by decide, "java/lang/IllegalStateException", hts (.classLink RL 13 "java/lang/IllegalStateException") (by decide +kernel), hcxN.2 ("java/lang/UnsupportedOperationException", "java/lang/IllegalStateException") (by decide +kernel)⟩) (by decide) (by decide) (hts (.classLink RL 15 "java/lang/UnsupportedOperationException") (by decide +kernel)) (hcx.dw _ (.castable "java/lang/UnsupportedOperationException" "java/lang/UnsupportedOperationException") (by decide +kernel)) hce hcv hcl ?_
      refine W.widen (k := 2) (n := 12) (Nat.le_of_ble_eq_true rfl) (Nat.le_of_ble_eq_true rfl) ?_
      refine W.eq (g2 := F0 m 15 ls [.ref q9]) rfl ?_
      refine lv_astore_n (lv' := [(3, .ref q9), (0, .ref r0), (1, .int a1), (2, .ref r2)]) hx hb dL_back_15 rfl hl (by decide) rfl (fun ls hl => ?_)
      refine lv_iconst (v := 2) hx hb dL_back_16 (by decide) ?_
      refine W.iret (v := 2) hx hb hr (fun t ht hW => ⟨⟨some (.int 2), _, rfl, ?_, by rw [ht]; exact hm⟩, hS.F ht⟩) hS.2.2 dL_back_17
      exact ⟨_, hT, hE, ⟨_, rfl⟩⟩
    · subst hE8
      refine tc_catch (E := "java/lang/IllegalStateException") (name := "java/lang/IllegalStateException") hown [] ⟨0, 9, 12, 13⟩ [⟨0, 9, 15, 15⟩] (by rw [htab]; rfl) (fun z9 hz9 => by simp at hz9) (by decide) (by decide) (hts (.classLink RL 13 "java/lang/IllegalStateException") (by decide +kernel)) (hcx.dw _ (.castable "java/lang/IllegalStateException" "java/lang/IllegalStateException") (by decide +kernel)) hce hcv hcl ?_
      refine W.widen (k := 2) (n := 12) (Nat.le_of_ble_eq_true rfl) (Nat.le_of_ble_eq_true rfl) ?_
      refine W.eq (g2 := F0 m 12 ls [.ref q9]) rfl ?_
      refine lv_astore_n (lv' := [(3, .ref q9), (0, .ref r0), (1, .int a1), (2, .ref r2)]) hx hb dL_back_12 rfl hl (by decide) rfl (fun ls hl => ?_)
      refine lv_iconst (v := 1) hx hb dL_back_13 (by decide) ?_
      refine W.iret (v := 1) hx hb hr (fun t ht hW => ⟨⟨some (.int 1), _, rfl, ?_, by rw [ht]; exact hm⟩, hS.F ht⟩) hS.2.2 dL_back_14
      exact ⟨_, hT, hE, ⟨_, rfl⟩⟩
  obtain ⟨κ2, hT9, hE9, hv1⟩ := hv
  have hk_r0 := hE9.k hT hk_r0
  have hk_r2 := hE9.k hT hk_r2
  have hE := hE.trans hT0 hT hE9
  have hT := hT9
  obtain ⟨Mc2, hMx⟩ : ∃ x : mM, x = M1 := ⟨M1, rfl⟩
  subst hMx
  obtain ⟨w2, hv1⟩ := hv1
  subst hv1
  refine W.eq (g2 := F0 m 7 ls [.int w2, .int 0, .ref r2]) rfl ?_
  refine W.widen (k := 2) (n := 12) (Nat.le_of_ble_eq_true rfl) (Nat.le_of_ble_eq_true rfl) ?_
  have hm : mm D (AZ z) Mc2 H := hm
  refine lv_i2l (v := (w2).toInt64) hx hb dL_back_7 rfl ?_
  obtain ⟨f_3, hM_r2_3⟩ := hT.outs hk_r2
  refine m_last hx hb hK hm hS 1 hM_r2_3 rfl (by unfold vp_in; decide) dL_back_8 (fun H locs hm hS => ?_)
  have hm : mm D (AZ z) (mu Mc2 r2 (.inl (k 1, 1, .inr (.inl (vp_updL f_3 (0 : Int32).toNatClampNeg (w2).toInt64))))) H := hm
  have hT : TM k κ2 (mu Mc2 r2 (.inl (k 1, 1, .inr (.inl (vp_updL f_3 (0 : Int32).toNatClampNeg (w2).toInt64))))) := hT.put hk_r2 (show wf k κ2 .outs (.inl (k 1, 1, .inr (.inl (vp_updL f_3 (0 : Int32).toNatClampNeg (w2).toInt64)))) from ⟨(vp_updL f_3 (0 : Int32).toNatClampNeg (w2).toInt64), rfl⟩)
  have hE : kx κ M κ2 (mu Mc2 r2 (.inl (k 1, 1, .inr (.inl (vp_updL f_3 (0 : Int32).toNatClampNeg (w2).toInt64))))) := hE.put hk_r2
  generalize (mu Mc2 r2 (.inl (k 1, 1, .inr (.inl (vp_updL f_3 (0 : Int32).toNatClampNeg (w2).toInt64))))) = Mc3 at hm hT hE
  refine lv_goto (tgt := 18) hx hb dL_back_9 (by decide) ?_
  refine lv_iconst (v := 0) hx hb dL_back_18 (by decide) ?_
  refine W.iret (v := 0) hx hb hr (fun t ht hW => ⟨⟨some (.int 0), _, rfl, ?_, by rw [ht]; exact hm⟩, hS.F ht⟩) hS.2.2 dL_back_19
  exact ⟨_, hT, hE, ⟨_, rfl⟩⟩

