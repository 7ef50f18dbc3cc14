set_option maxHeartbeats 4000000 in
set_option maxRecDepth 100000 in
theorem h_L_move (l : Launch) (hlt : l.stackTraces = false) (D : va_G) (k : Nat → ClassId) (z : Nat) (M : mM) (κ : Nat → Option KD) (r0 : Nat) (a1 : Int32) (a2 : Int32) (a3 : Int32) (r4 : Nat) (hk_r0 : κ r0 = some .top) (hk_r4 : κ r4 = some .outs) (hT : TM k κ M) : mKN l yL_move wsL_move ({ frames := 8, cells := 8, slots := 160, locals := 142 }) D k z [.ref r0, .int a1, .int a2, .int a3, .ref r4] M (fun v M' => ∃ κ', TM k κ' M' ∧ kx κ M κ' M' ∧ ∃ x, v = some (.int x)) := by
  refine tc_ofWH (cc := cL_move) (maxL := 6) (ret := (some .int)) (hh := [(0, 19, 22, 13), (0, 19, 26, 31), (0, 19, 30, 33), (0, 19, 34, 15)]) (by decide) rfl ?_
  intro p e s m args below meth c s₁ B hml hv
  obtain ⟨rfl, hz, hcxN, hm⟩ := hv
  have hcx := hcxN.1
  have hx := B.exec
  have hb := B.bytes
  have hr := B.returns
  have hts := atoms_spec (ws := wsL_move) B.pre
  have hown : s.vm.findClass RL = some m.cls := findClass_of_methodNamed B.named
  have hlocks := B.notSynchronized
  have hK := hcx.1
  have hS : va_S (AZ z) s.heap s.heap [] := va_S.rf
  have hA : ∀ q, s.heap.size ≤ q → AZ z q := fun q h => Nat.le_trans hz h
  have htab := vx_table (x := yL_move) B (hts (.codeWith yL_move cL_move 6 (some .int) [(0, 19, 22, 13), (0, 19, 26, 31), (0, 19, 30, 33), (0, 19, 34, 15)]) List.mem_cons_self)
  have hl := lv_entry ([.ref r0, .int a1, .int a2, .int a3, .ref r4]) (n := 6) (Nat.le_of_ble_eq_true rfl)
  rw [lg_entry_eq]
  generalize (lg_sl ([.ref r0, .int a1, .int a2, .int a3, .ref r4]) ++ List.replicate (6 - (lg_sl ([.ref r0, .int a1, .int a2, .int a3, .ref r4])).length) Slot.unset).toArray = ls at hl ⊢
  have hl : lv_has ls 6 [(0, .ref r0), (1, .int a1), (2, .int a2), (3, .int a3), (4, .ref r4)] := hl
  have hT0 := hT
  have hE : kx κ M κ M := kx.refl _ _
  refine lv_aload hx hb dL_move_0 (lv_at hl 4 rfl) ?_
  refine lv_iconst (v := 0) hx hb dL_move_2 (by decide) ?_
  refine lv_aload_n hx hb dL_move_3 rfl (lv_at hl 0 rfl) ?_
  refine lv_iload_n hx hb dL_move_4 rfl (lv_at hl 1 rfl) ?_
  refine lv_iload_n hx hb dL_move_5 rfl (lv_at hl 2 rfl) ?_
  refine lv_iload_n hx hb dL_move_6 rfl (lv_at hl 3 rfl) ?_
  obtain ⟨v0_1, v1_1, v2_1, v3_1, v4_1, v5_1, v6_1, v7_1, v8_1, v9_1, v10_1, hM_r0_1, hk_v0_1, hk_v1_1, hk_v2_1, hk_v3_1, hk_v4_1, hk_v5_1, hz_v9_1, hz_v10_1⟩ := hT.top hk_r0
  refine m_cV (As := [.int a1, .int a2, .int a3]) (rest := [.int 0, .ref r4]) (rm := { frames := 7, cells := 8, slots := 160, locals := 115 }) ⟨hx, hb, hml, hown, hts⟩ (t_X5_move_III l hlt D k z _ _ r0 a1 a2 a3 hk_r0 hT) (cwV 3 hts gL_move_X5_move rfl rfl rfl (by decide +kernel) ⟨Nat.le_of_ble_eq_true rfl, Nat.le_of_ble_eq_true rfl⟩) (m_recv hK hm (q := (RX5, TX5, 11)) rfl hM_r0_1) hz hcx hm hS rfl hl.1 rfl (Nat.le_of_ble_eq_true rfl) dL_move_7 ⟨Nat.le_of_ble_eq_true rfl, Nat.le_of_ble_eq_true rfl⟩ (fun E ce q9 M1 H locs hv hm hS hce hcv hcl => ?_) (fun v M1 H locs hv hm hS => ?_)
  · obtain ⟨hE8, κ8, hT8, hx8⟩ := hv
    have hk_r0 := hx8.k hT hk_r0
    have hk_r4 := hx8.k hT hk_r4
    have hE := hE.trans hT0 hT hx8
    have hT := hT8
    obtain ⟨Mc1, hMx⟩ : ∃ x : mM, x = M1 := ⟨M1, rfl⟩
    subst hMx
    simp only [List.mem_cons, List.not_mem_nil, or_false] at hE8
    rcases hE8 with hE8 | hE8 | hE8 | hE8
    · subst hE8
      refine tc_catch (E := "java/lang/IllegalArgumentException") (name := "java/lang/IllegalArgumentException") hown [⟨0, 19, 22, 13⟩] ⟨0, 19, 26, 31⟩ [⟨0, 19, 30, 33⟩, ⟨0, 19, 34, 15⟩] (by rw [htab]; rfl) (fun z9 hz9 => by
          simp only [List.mem_cons, List.not_mem_nil, or_false] at hz9
          rcases hz9 with rfl
          · exact Or.inr ⟨by decide, "java/lang/IllegalStateException", hts (.classLink RL 13 "java/lang/IllegalStateException") (by decide +kernel), hcxN.2 ("java/lang/IllegalArgumentException", "java/lang/IllegalStateException") (by decide +kernel)⟩) (by decide) (by decide) (hts (.classLink RL 31 "java/lang/IllegalArgumentException") (by decide +kernel)) (hcx.dw _ (.castable "java/lang/IllegalArgumentException" "java/lang/IllegalArgumentException") (by decide +kernel)) hce hcv hcl ?_
      refine W.widen (k := 8) (n := 160) (Nat.le_of_ble_eq_true rfl) (Nat.le_of_ble_eq_true rfl) ?_
      refine W.eq (g2 := F0 m 26 ls [.ref q9]) rfl ?_
      refine lv_astore (lv' := [(5, .ref q9), (0, .ref r0), (1, .int a1), (2, .int a2), (3, .int a3), (4, .ref r4)]) hx hb dL_move_26 hl (by decide) rfl (fun ls hl => ?_)
      refine lv_iconst (v := 2) hx hb dL_move_28 (by decide) ?_
      refine W.iret (v := 2) hx hb hr (fun t ht hW => ⟨⟨some (.int 2), _, rfl, ?_, by rw [ht]; exact hm⟩, hS.F ht⟩) hS.2.2 dL_move_29
      exact ⟨_, hT, hE, ⟨_, rfl⟩⟩
    · subst hE8
      refine tc_catch (E := "java/util/NoSuchElementException") (name := "java/util/NoSuchElementException") hown [⟨0, 19, 22, 13⟩, ⟨0, 19, 26, 31⟩] ⟨0, 19, 30, 33⟩ [⟨0, 19, 34, 15⟩] (by rw [htab]; rfl) (fun z9 hz9 => by
          simp only [List.mem_cons, List.not_mem_nil, or_false] at hz9
          rcases hz9 with rfl | rfl
          · exact Or.inr ⟨by decide, "java/lang/IllegalStateException", hts (.classLink RL 13 "java/lang/IllegalStateException") (by decide +kernel), hcxN.2 ("java/util/NoSuchElementException", "java/lang/IllegalStateException") (by decide +kernel)⟩
          · exact Or.inr ⟨by decide, "java/lang/IllegalArgumentException", hts (.classLink RL 31 "java/lang/IllegalArgumentException") (by decide +kernel), hcxN.2 ("java/util/NoSuchElementException", "java/lang/IllegalArgumentException") (by decide +kernel)⟩) (by decide) (by decide) (hts (.classLink RL 33 "java/util/NoSuchElementException") (by decide +kernel)) (hcx.dw _ (.castable "java/util/NoSuchElementException" "java/util/NoSuchElementException") (by decide +kernel)) hce hcv hcl ?_
      refine W.widen (k := 8) (n := 160) (Nat.le_of_ble_eq_true rfl) (Nat.le_of_ble_eq_true rfl) ?_
      refine W.eq (g2 := F0 m 30 ls [.ref q9]) rfl ?_
      refine lv_astore (lv' := [(5, .ref q9), (0, .ref r0), (1, .int a1), (2, .int a2), (3, .int a3), (4, .ref r4)]) hx hb dL_move_30 hl (by decide) rfl (fun ls hl => ?_)
      refine lv_iconst (v := 3) hx hb dL_move_32 (by decide) ?_
      refine W.iret (v := 3) hx hb hr (fun t ht hW => ⟨⟨some (.int 3), _, rfl, ?_, by rw [ht]; exact hm⟩, hS.F ht⟩) hS.2.2 dL_move_33
      exact ⟨_, hT, hE, ⟨_, rfl⟩⟩
    · subst hE8
      refine tc_catch (E := "java/lang/IllegalStateException") (name := "java/lang/IllegalStateException") hown [] ⟨0, 19, 22, 13⟩ [⟨0, 19, 26, 31⟩, ⟨0, 19, 30, 33⟩, ⟨0, 19, 34, 15⟩] (by rw [htab]; rfl) (fun z9 hz9 => by simp at hz9) (by decide) (by decide) (hts (.classLink RL 13 "java/lang/IllegalStateException") (by decide +kernel)) (hcx.dw _ (.castable "java/lang/IllegalStateException" "java/lang/IllegalStateException") (by decide +kernel)) hce hcv hcl ?_
      refine W.widen (k := 8) (n := 160) (Nat.le_of_ble_eq_true rfl) (Nat.le_of_ble_eq_true rfl) ?_
      refine W.eq (g2 := F0 m 22 ls [.ref q9]) rfl ?_
      refine lv_astore (lv' := [(5, .ref q9), (0, .ref r0), (1, .int a1), (2, .int a2), (3, .int a3), (4, .ref r4)]) hx hb dL_move_22 hl (by decide) rfl (fun ls hl => ?_)
      refine lv_iconst (v := 1) hx hb dL_move_24 (by decide) ?_
      refine W.iret (v := 1) hx hb hr (fun t ht hW => ⟨⟨some (.int 1), _, rfl, ?_, by rw [ht]; exact hm⟩, hS.F ht⟩) hS.2.2 dL_move_25
      exact ⟨_, hT, hE, ⟨_, rfl⟩⟩
    · subst hE8
      refine tc_catch (E := "java/lang/UnsupportedOperationException") (name := "java/lang/UnsupportedOperationException") hown [⟨0, 19, 22, 13⟩, ⟨0, 19, 26, 31⟩, ⟨0, 19, 30, 33⟩] ⟨0, 19, 34, 15⟩ [] (by rw [htab]; rfl) (fun z9 hz9 => by
          simp only [List.mem_cons, List.not_mem_nil, or_false] at hz9
          rcases hz9 with rfl | rfl | rfl
          · exact Or.inr ⟨by decide, "java/lang/IllegalStateException", hts (.classLink RL 13 "java/lang/IllegalStateException") (by decide +kernel), hcxN.2 ("java/lang/UnsupportedOperationException", "java/lang/IllegalStateException") (by decide +kernel)⟩
          · exact Or.inr ⟨by decide, "java/lang/IllegalArgumentException", hts (.classLink RL 31 "java/lang/IllegalArgumentException") (by decide +kernel), hcxN.2 ("java/lang/UnsupportedOperationException", "java/lang/IllegalArgumentException") (by decide +kernel)⟩
          · exact Or.inr ⟨by decide, "java/util/NoSuchElementException", hts (.classLink RL 33 "java/util/NoSuchElementException") (by decide +kernel), hcxN.2 ("java/lang/UnsupportedOperationException", "java/util/NoSuchElementException") (by decide +kernel)⟩) (by decide) (by decide) (hts (.classLink RL 15 "java/lang/UnsupportedOperationException") (by decide +kernel)) (hcx.dw _ (.castable "java/lang/UnsupportedOperationException" "java/lang/UnsupportedOperationException") (by decide +kernel)) hce hcv hcl ?_
      refine W.widen (k := 8) (n := 160) (Nat.le_of_ble_eq_true rfl) (Nat.le_of_ble_eq_true rfl) ?_
      refine W.eq (g2 := F0 m 34 ls [.ref q9]) rfl ?_
      refine lv_astore (lv' := [(5, .ref q9), (0, .ref r0), (1, .int a1), (2, .int a2), (3, .int a3), (4, .ref r4)]) hx hb dL_move_34 hl (by decide) rfl (fun ls hl => ?_)
      refine lv_iconst (v := 4) hx hb dL_move_36 (by decide) ?_
      refine W.iret (v := 4) hx hb hr (fun t ht hW => ⟨⟨some (.int 4), _, rfl, ?_, by rw [ht]; exact hm⟩, hS.F ht⟩) hS.2.2 dL_move_37
      exact ⟨_, hT, hE, ⟨_, rfl⟩⟩
  obtain ⟨κ2, hT9, hE9, hv1⟩ := hv
  have hk_r0 := hE9.k hT hk_r0
  have hk_r4 := hE9.k hT hk_r4
  have hE := hE.trans hT0 hT hE9
  have hT := hT9
  obtain ⟨Mc2, hMx⟩ : ∃ x : mM, x = M1 := ⟨M1, rfl⟩
  subst hMx
  rcases hv1 with hv1 | hv1
  · subst hv1
    refine W.eq (g2 := F0 m 10 ls [.int 0, .int 0, .ref r4]) rfl ?_
    refine W.widen (k := 8) (n := 160) (Nat.le_of_ble_eq_true rfl) (Nat.le_of_ble_eq_true rfl) ?_
    have hm : mm D (AZ z) Mc2 H := hm
    refine lv_if_eq (tgt := 17) hx hb dL_move_10 (by decide) (fun c2 => ?_) (fun c2 => ?_)
    · refine lv_lconst (v := 0) hx hb dL_move_17 (by decide) ?_
      obtain ⟨f_3, hM_r4_3⟩ := hT.outs hk_r4
      refine m_last hx hb hK hm hS 1 hM_r4_3 rfl (by unfold vp_in; decide) dL_move_18 (fun H locs hm hS => ?_)
      have hm : mm D (AZ z) (mu Mc2 r4 (.inl (k 1, 1, .inr (.inl (vp_updL f_3 (0 : Int32).toNatClampNeg 0))))) H := hm
      have hT : TM k κ2 (mu Mc2 r4 (.inl (k 1, 1, .inr (.inl (vp_updL f_3 (0 : Int32).toNatClampNeg 0))))) := hT.put hk_r4 (show wf k κ2 .outs (.inl (k 1, 1, .inr (.inl (vp_updL f_3 (0 : Int32).toNatClampNeg 0)))) from ⟨(vp_updL f_3 (0 : Int32).toNatClampNeg 0), rfl⟩)
      have hE : kx κ M κ2 (mu Mc2 r4 (.inl (k 1, 1, .inr (.inl (vp_updL f_3 (0 : Int32).toNatClampNeg 0))))) := hE.put hk_r4
      generalize (mu Mc2 r4 (.inl (k 1, 1, .inr (.inl (vp_updL f_3 (0 : Int32).toNatClampNeg 0))))) = Mc3 at hm hT hE
      refine lv_goto (tgt := 38) hx hb dL_move_19 (by decide) ?_
      refine lv_iconst (v := 0) hx hb dL_move_38 (by decide) ?_
      refine W.iret (v := 0) hx hb hr (fun t ht hW => ⟨⟨some (.int 0), _, rfl, ?_, by rw [ht]; exact hm⟩, hS.F ht⟩) hS.2.2 dL_move_39
      exact ⟨_, hT, hE, ⟨_, rfl⟩⟩
    · first | exact absurd c2 (by decide) | exact absurd (by decide) c2
  · subst hv1
    refine W.eq (g2 := F0 m 10 ls [.int 1, .int 0, .ref r4]) rfl ?_
    refine W.widen (k := 8) (n := 160) (Nat.le_of_ble_eq_true rfl) (Nat.le_of_ble_eq_true rfl) ?_
    have hm : mm D (AZ z) Mc2 H := hm
    refine lv_if_eq (tgt := 17) hx hb dL_move_10 (by decide) (fun c4 => ?_) (fun c4 => ?_)
    · first | exact absurd c4 (by decide) | exact absurd (by decide) c4
    · refine lv_lconst (v := 1) hx hb dL_move_13 (by decide) ?_
      refine lv_goto (tgt := 18) hx hb dL_move_14 (by decide) ?_
      obtain ⟨f_5, hM_r4_5⟩ := hT.outs hk_r4
      refine m_last hx hb hK hm hS 1 hM_r4_5 rfl (by unfold vp_in; decide) dL_move_18 (fun H locs hm hS => ?_)
      have hm : mm D (AZ z) (mu Mc2 r4 (.inl (k 1, 1, .inr (.inl (vp_updL f_5 (0 : Int32).toNatClampNeg 1))))) H := hm
      have hT : TM k κ2 (mu Mc2 r4 (.inl (k 1, 1, .inr (.inl (vp_updL f_5 (0 : Int32).toNatClampNeg 1))))) := hT.put hk_r4 (show wf k κ2 .outs (.inl (k 1, 1, .inr (.inl (vp_updL f_5 (0 : Int32).toNatClampNeg 1)))) from ⟨(vp_updL f_5 (0 : Int32).toNatClampNeg 1), rfl⟩)
      have hE : kx κ M κ2 (mu Mc2 r4 (.inl (k 1, 1, .inr (.inl (vp_updL f_5 (0 : Int32).toNatClampNeg 1))))) := hE.put hk_r4
      generalize (mu Mc2 r4 (.inl (k 1, 1, .inr (.inl (vp_updL f_5 (0 : Int32).toNatClampNeg 1))))) = Mc4 at hm hT hE
      refine lv_goto (tgt := 38) hx hb dL_move_19 (by decide) ?_
      refine lv_iconst (v := 0) hx hb dL_move_38 (by decide) ?_
      refine W.iret (v := 0) hx hb hr (fun t ht hW => ⟨⟨some (.int 0), _, rfl, ?_, by rw [ht]; exact hm⟩, hS.F ht⟩) hS.2.2 dL_move_39
      exact ⟨_, hT, hE, ⟨_, rfl⟩⟩

set_option maxHeartbeats 4000000 in
set_option maxRecDepth 100000 in
theorem h_L_write (l : Launch) (hlt : l.stackTraces = false) (D : va_G) (k : Nat → ClassId) (z : Nat) (M : mM) (κ : Nat → Option KD) (r0 : Nat) (a1 : Int32) (a2 : Int32) (a3 : Int32) (a4 : Int32) (r5 : Nat) (hk_r0 : κ r0 = some .top) (hk_r5 : κ r5 = some .outs) (hT : TM k κ M) : mKN l yL_write wsL_write ({ frames := 9, cells := 6, slots := 92, locals := 150 }) D k z [.ref r0, .int a1, .int a2, .int a3, .int a4, .ref r5] M (fun v M' => ∃ κ', TM k κ' M' ∧ kx κ M κ' M' ∧ ∃ x, v = some (.int x)) := by
  refine tc_ofWH (cc := cL_write) (maxL := 7) (ret := (some .int)) (hh := [(0, 14, 17, 13), (0, 14, 21, 31), (0, 14, 25, 33), (0, 14, 29, 15), (0, 14, 33, 47)]) (by decide) rfl ?_
  intro p e s m args below meth c s₁ B hml hv
  obtain ⟨rfl, hz, hcxN, hm⟩ := hv
  have hcx := hcxN.1
  have hx := B.exec
  have hb := B.bytes
  have hr := B.returns
  have hts := atoms_spec (ws := wsL_write) B.pre
  have hown : s.vm.findClass RL = some m.cls := findClass_of_methodNamed B.named
  have hlocks := B.notSynchronized
  have hK := hcx.1
  have hS : va_S (AZ z) s.heap s.heap [] := va_S.rf
  have hA : ∀ q, s.heap.size ≤ q → AZ z q := fun q h => Nat.le_trans hz h
  have htab := vx_table (x := yL_write) B (hts (.codeWith yL_write cL_write 7 (some .int) [(0, 14, 17, 13), (0, 14, 21, 31), (0, 14, 25, 33), (0, 14, 29, 15), (0, 14, 33, 47)]) List.mem_cons_self)
  have hl := lv_entry ([.ref r0, .int a1, .int a2, .int a3, .int a4, .ref r5]) (n := 7) (Nat.le_of_ble_eq_true rfl)
  rw [lg_entry_eq]
  generalize (lg_sl ([.ref r0, .int a1, .int a2, .int a3, .int a4, .ref r5]) ++ List.replicate (7 - (lg_sl ([.ref r0, .int a1, .int a2, .int a3, .int a4, .ref r5])).length) Slot.unset).toArray = ls at hl ⊢
  have hl : lv_has ls 7 [(0, .ref r0), (1, .int a1), (2, .int a2), (3, .int a3), (4, .int a4), (5, .ref r5)] := hl
  have hT0 := hT
  have hE : kx κ M κ M := kx.refl _ _
  refine lv_aload hx hb dL_write_0 (lv_at hl 5 rfl) ?_
  refine lv_iconst (v := 0) hx hb dL_write_2 (by decide) ?_
  refine lv_aload_n hx hb dL_write_3 rfl (lv_at hl 0 rfl) ?_
  refine lv_iload_n hx hb dL_write_4 rfl (lv_at hl 1 rfl) ?_
  refine lv_iload_n hx hb dL_write_5 rfl (lv_at hl 2 rfl) ?_
  refine lv_iload_n hx hb dL_write_6 rfl (lv_at hl 3 rfl) ?_
  refine lv_iload hx hb dL_write_7 (lv_at hl 4 rfl) ?_
  obtain ⟨v0_1, v1_1, v2_1, v3_1, v4_1, v5_1, v6_1, v7_1, v8_1, v9_1, v10_1, hM_r0_1, hk_v0_1, hk_v1_1, hk_v2_1, hk_v3_1, hk_v4_1, hk_v5_1, hz_v9_1, hz_v10_1⟩ := hT.top hk_r0
  refine m_cV (As := [.int a1, .int a2, .int a3, .int a4]) (rest := [.int 0, .ref r5]) (rm := { frames := 8, cells := 6, slots := 92, locals := 124 }) ⟨hx, hb, hml, hown, hts⟩ (t_X5_write_IIII l hlt D k z _ _ r0 a1 a2 a3 a4 hk_r0 hT) (cwV 4 hts gL_write_X5_write rfl rfl rfl (by decide +kernel) ⟨Nat.le_of_ble_eq_true rfl, Nat.le_of_ble_eq_true rfl⟩) (m_recv hK hm (q := (RX5, TX5, 11)) rfl hM_r0_1) hz hcx hm hS rfl hl.1 rfl (Nat.le_of_ble_eq_true rfl) dL_write_9 ⟨Nat.le_of_ble_eq_true rfl, Nat.le_of_ble_eq_true rfl⟩ (fun E ce q9 M1 H locs hv hm hS hce hcv hcl => ?_) (fun v M1 H locs hv hm hS => ?_)
  · obtain ⟨hE8, κ8, hT8, hx8⟩ := hv
    have hk_r0 := hx8.k hT hk_r0
    have hk_r5 := hx8.k hT hk_r5
    have hE := hE.trans hT0 hT hx8
    have hT := hT8
    obtain ⟨Mc1, hMx⟩ : ∃ x : mM, x = M1 := ⟨M1, rfl⟩
    subst hMx
    simp only [List.mem_cons, List.not_mem_nil, or_false] at hE8
    rcases hE8 with hE8 | hE8 | hE8 | hE8 | hE8
    · subst hE8
      refine tc_catch (E := "java/lang/IllegalStateException") (name := "java/lang/IllegalStateException") hown [] ⟨0, 14, 17, 13⟩ [⟨0, 14, 21, 31⟩, ⟨0, 14, 25, 33⟩, ⟨0, 14, 29, 15⟩, ⟨0, 14, 33, 47⟩] (by rw [htab]; rfl) (fun z9 hz9 => by simp at hz9) (by decide) (by decide) (hts (.classLink RL 13 "java/lang/IllegalStateException") (by decide +kernel)) (hcx.dw _ (.castable "java/lang/IllegalStateException" "java/lang/IllegalStateException") (by decide +kernel)) hce hcv hcl ?_
      refine W.widen (k := 6) (n := 92) (Nat.le_of_ble_eq_true rfl) (Nat.le_of_ble_eq_true rfl) ?_
      refine W.eq (g2 := F0 m 17 ls [.ref q9]) rfl ?_
      refine lv_astore (lv' := [(6, .ref q9), (0, .ref r0), (1, .int a1), (2, .int a2), (3, .int a3), (4, .int a4), (5, .ref r5)]) hx hb dL_write_17 hl (by decide) rfl (fun ls hl => ?_)
      refine lv_iconst (v := 1) hx hb dL_write_19 (by decide) ?_
      refine W.iret (v := 1) hx hb hr (fun t ht hW => ⟨⟨some (.int 1), _, rfl, ?_, by rw [ht]; exact hm⟩, hS.F ht⟩) hS.2.2 dL_write_20
      exact ⟨_, hT, hE, ⟨_, rfl⟩⟩
    · subst hE8
      refine tc_catch (E := "java/util/NoSuchElementException") (name := "java/util/NoSuchElementException") hown [⟨0, 14, 17, 13⟩, ⟨0, 14, 21, 31⟩] ⟨0, 14, 25, 33⟩ [⟨0, 14, 29, 15⟩, ⟨0, 14, 33, 47⟩] (by rw [htab]; rfl) (fun z9 hz9 => by
          simp only [List.mem_cons, List.not_mem_nil, or_false] at hz9
          rcases hz9 with rfl | rfl
          · exact Or.inr ⟨by decide, "java/lang/IllegalStateException", hts (.classLink RL 13 "java/lang/IllegalStateException") (by decide +kernel), hcxN.2 ("java/util/NoSuchElementException", "java/lang/IllegalStateException") (by decide +kernel)⟩
          · exact Or.inr ⟨by decide, "java/lang/IllegalArgumentException", hts (.classLink RL 31 "java/lang/IllegalArgumentException") (by decide +kernel), hcxN.2 ("java/util/NoSuchElementException", "java/lang/IllegalArgumentException") (by decide +kernel)⟩) (by decide) (by decide) (hts (.classLink RL 33 "java/util/NoSuchElementException") (by decide +kernel)) (hcx.dw _ (.castable "java/util/NoSuchElementException" "java/util/NoSuchElementException") (by decide +kernel)) hce hcv hcl ?_
      refine W.widen (k := 6) (n := 92) (Nat.le_of_ble_eq_true rfl) (Nat.le_of_ble_eq_true rfl) ?_
      refine W.eq (g2 := F0 m 25 ls [.ref q9]) rfl ?_
      refine lv_astore (lv' := [(6, .ref q9), (0, .ref r0), (1, .int a1), (2, .int a2), (3, .int a3), (4, .int a4), (5, .ref r5)]) hx hb dL_write_25 hl (by decide) rfl (fun ls hl => ?_)
      refine lv_iconst (v := 3) hx hb dL_write_27 (by decide) ?_
      refine W.iret (v := 3) hx hb hr (fun t ht hW => ⟨⟨some (.int 3), _, rfl, ?_, by rw [ht]; exact hm⟩, hS.F ht⟩) hS.2.2 dL_write_28
      exact ⟨_, hT, hE, ⟨_, rfl⟩⟩
    · subst hE8
      refine tc_catch (E := "java/lang/UnsupportedOperationException") (name := "java/lang/UnsupportedOperationException") hown [⟨0, 14, 17, 13⟩, ⟨0, 14, 21, 31⟩, ⟨0, 14, 25, 33⟩] ⟨0, 14, 29, 15⟩ [⟨0, 14, 33, 47⟩] (by rw [htab]; rfl) (fun z9 hz9 => by
          simp only [List.mem_cons, List.not_mem_nil, or_false] at hz9
          rcases hz9 with rfl | rfl | rfl
          · exact Or.inr ⟨by decide, "java/lang/IllegalStateException", hts (.classLink RL 13 "java/lang/IllegalStateException") (by decide +kernel), hcxN.2 ("java/lang/UnsupportedOperationException", "java/lang/IllegalStateException") (by decide +kernel)⟩
          · exact Or.inr ⟨by decide, "java/lang/IllegalArgumentException", hts (.classLink RL 31 "java/lang/IllegalArgumentException") (by decide +kernel), hcxN.2 ("java/lang/UnsupportedOperationException", "java/lang/IllegalArgumentException") (by decide +kernel)⟩
          · exact Or.inr ⟨by decide, "java/util/NoSuchElementException", hts (.classLink RL 33 "java/util/NoSuchElementException") (by decide +kernel), hcxN.2 ("java/lang/UnsupportedOperationException", "java/util/NoSuchElementException") (by decide +kernel)⟩) (by decide) (by decide) (hts (.classLink RL 15 "java/lang/UnsupportedOperationException") (by decide +kernel)) (hcx.dw _ (.castable "java/lang/UnsupportedOperationException" "java/lang/UnsupportedOperationException") (by decide +kernel)) hce hcv hcl ?_
      refine W.widen (k := 6) (n := 92) (Nat.le_of_ble_eq_true rfl) (Nat.le_of_ble_eq_true rfl) ?_
      refine W.eq (g2 := F0 m 29 ls [.ref q9]) rfl ?_
      refine lv_astore (lv' := [(6, .ref q9), (0, .ref r0), (1, .int a1), (2, .int a2), (3, .int a3), (4, .int a4), (5, .ref r5)]) hx hb dL_write_29 hl (by decide) rfl (fun ls hl => ?_)
      refine lv_iconst (v := 4) hx hb dL_write_31 (by decide) ?_
      refine W.iret (v := 4) hx hb hr (fun t ht hW => ⟨⟨some (.int 4), _, rfl, ?_, by rw [ht]; exact hm⟩, hS.F ht⟩) hS.2.2 dL_write_32
      exact ⟨_, hT, hE, ⟨_, rfl⟩⟩
    · subst hE8
      refine tc_catch (E := "java/lang/IllegalArgumentException") (name := "java/lang/IllegalArgumentException") hown [⟨0, 14, 17, 13⟩] ⟨0, 14, 21, 31⟩ [⟨0, 14, 25, 33⟩, ⟨0, 14, 29, 15⟩, ⟨0, 14, 33, 47⟩] (by rw [htab]; rfl) (fun z9 hz9 => by
          simp only [List.mem_cons, List.not_mem_nil, or_false] at hz9
          rcases hz9 with rfl
          · exact Or.inr ⟨by decide, "java/lang/IllegalStateException", hts (.classLink RL 13 "java/lang/IllegalStateException") (by decide +kernel), hcxN.2 ("java/lang/IllegalArgumentException", "java/lang/IllegalStateException") (by decide +kernel)⟩) (by decide) (by decide) (hts (.classLink RL 31 "java/lang/IllegalArgumentException") (by decide +kernel)) (hcx.dw _ (.castable "java/lang/IllegalArgumentException" "java/lang/IllegalArgumentException") (by decide +kernel)) hce hcv hcl ?_
      refine W.widen (k := 6) (n := 92) (Nat.le_of_ble_eq_true rfl) (Nat.le_of_ble_eq_true rfl) ?_
      refine W.eq (g2 := F0 m 21 ls [.ref q9]) rfl ?_
      refine lv_astore (lv' := [(6, .ref q9), (0, .ref r0), (1, .int a1), (2, .int a2), (3, .int a3), (4, .int a4), (5, .ref r5)]) hx hb dL_write_21 hl (by decide) rfl (fun ls hl => ?_)
      refine lv_iconst (v := 2) hx hb dL_write_23 (by decide) ?_
      refine W.iret (v := 2) hx hb hr (fun t ht hW => ⟨⟨some (.int 2), _, rfl, ?_, by rw [ht]; exact hm⟩, hS.F ht⟩) hS.2.2 dL_write_24
      exact ⟨_, hT, hE, ⟨_, rfl⟩⟩
    · subst hE8
      refine tc_catch (E := "java/lang/IndexOutOfBoundsException") (name := "java/lang/IndexOutOfBoundsException") hown [⟨0, 14, 17, 13⟩, ⟨0, 14, 21, 31⟩, ⟨0, 14, 25, 33⟩, ⟨0, 14, 29, 15⟩] ⟨0, 14, 33, 47⟩ [] (by rw [htab]; rfl) (fun z9 hz9 => by
          simp only [List.mem_cons, List.not_mem_nil, or_false] at hz9
          rcases hz9 with rfl | rfl | rfl | rfl
          · exact Or.inr ⟨by decide, "java/lang/IllegalStateException", hts (.classLink RL 13 "java/lang/IllegalStateException") (by decide +kernel), hcxN.2 ("java/lang/IndexOutOfBoundsException", "java/lang/IllegalStateException") (by decide +kernel)⟩
          · exact Or.inr ⟨by decide, "java/lang/IllegalArgumentException", hts (.classLink RL 31 "java/lang/IllegalArgumentException") (by decide +kernel), hcxN.2 ("java/lang/IndexOutOfBoundsException", "java/lang/IllegalArgumentException") (by decide +kernel)⟩
          · exact Or.inr ⟨by decide, "java/util/NoSuchElementException", hts (.classLink RL 33 "java/util/NoSuchElementException") (by decide +kernel), hcxN.2 ("java/lang/IndexOutOfBoundsException", "java/util/NoSuchElementException") (by decide +kernel)⟩
          · exact Or.inr ⟨by decide, "java/lang/UnsupportedOperationException", hts (.classLink RL 15 "java/lang/UnsupportedOperationException") (by decide +kernel), hcxN.2 ("java/lang/IndexOutOfBoundsException", "java/lang/UnsupportedOperationException") (by decide +kernel)⟩) (by decide) (by decide) (hts (.classLink RL 47 "java/lang/IndexOutOfBoundsException") (by decide +kernel)) (hcx.dw _ (.castable "java/lang/IndexOutOfBoundsException" "java/lang/IndexOutOfBoundsException") (by decide +kernel)) hce hcv hcl ?_
      refine W.widen (k := 6) (n := 92) (Nat.le_of_ble_eq_true rfl) (Nat.le_of_ble_eq_true rfl) ?_
      refine W.eq (g2 := F0 m 33 ls [.ref q9]) rfl ?_
      refine lv_astore (lv' := [(6, .ref q9), (0, .ref r0), (1, .int a1), (2, .int a2), (3, .int a3), (4, .int a4), (5, .ref r5)]) hx hb dL_write_33 hl (by decide) rfl (fun ls hl => ?_)
      refine lv_iconst (v := 5) hx hb dL_write_35 (by decide) ?_
      refine W.iret (v := 5) hx hb hr (fun t ht hW => ⟨⟨some (.int 5), _, rfl, ?_, by rw [ht]; exact hm⟩, hS.F ht⟩) hS.2.2 dL_write_36
      exact ⟨_, hT, hE, ⟨_, rfl⟩⟩
  obtain ⟨κ2, hT9, hE9, hv1⟩ := hv
  have hk_r0 := hE9.k hT hk_r0
  have hk_r5 := hE9.k hT hk_r5
  have hE := hE.trans hT0 hT hE9
  have hT := hT9
  obtain ⟨Mc2, hMx⟩ : ∃ x : mM, x = M1 := ⟨M1, rfl⟩
  subst hMx
  obtain ⟨w2, hv1⟩ := hv1
  subst hv1
  refine W.eq (g2 := F0 m 12 ls [.int w2, .int 0, .ref r5]) rfl ?_
  refine W.widen (k := 6) (n := 92) (Nat.le_of_ble_eq_true rfl) (Nat.le_of_ble_eq_true rfl) ?_
  have hm : mm D (AZ z) Mc2 H := hm
  refine lv_i2l (v := (w2).toInt64) hx hb dL_write_12 rfl ?_
  obtain ⟨f_3, hM_r5_3⟩ := hT.outs hk_r5
  refine m_last hx hb hK hm hS 1 hM_r5_3 rfl (by unfold vp_in; decide) dL_write_13 (fun H locs hm hS => ?_)
  have hm : mm D (AZ z) (mu Mc2 r5 (.inl (k 1, 1, .inr (.inl (vp_updL f_3 (0 : Int32).toNatClampNeg (w2).toInt64))))) H := hm
  have hT : TM k κ2 (mu Mc2 r5 (.inl (k 1, 1, .inr (.inl (vp_updL f_3 (0 : Int32).toNatClampNeg (w2).toInt64))))) := hT.put hk_r5 (show wf k κ2 .outs (.inl (k 1, 1, .inr (.inl (vp_updL f_3 (0 : Int32).toNatClampNeg (w2).toInt64)))) from ⟨(vp_updL f_3 (0 : Int32).toNatClampNeg (w2).toInt64), rfl⟩)
  have hE : kx κ M κ2 (mu Mc2 r5 (.inl (k 1, 1, .inr (.inl (vp_updL f_3 (0 : Int32).toNatClampNeg (w2).toInt64))))) := hE.put hk_r5
  generalize (mu Mc2 r5 (.inl (k 1, 1, .inr (.inl (vp_updL f_3 (0 : Int32).toNatClampNeg (w2).toInt64))))) = Mc3 at hm hT hE
  refine lv_goto (tgt := 37) hx hb dL_write_14 (by decide) ?_
  refine lv_iconst (v := 0) hx hb dL_write_37 (by decide) ?_
  refine W.iret (v := 0) hx hb hr (fun t ht hW => ⟨⟨some (.int 0), _, rfl, ?_, by rw [ht]; exact hm⟩, hS.F ht⟩) hS.2.2 dL_write_38
  exact ⟨_, hT, hE, ⟨_, rfl⟩⟩

set_option maxHeartbeats 4000000 in
set_option maxRecDepth 100000 in
theorem h_L_append (l : Launch) (hlt : l.stackTraces = false) (D : va_G) (k : Nat → ClassId) (z : Nat) (M : mM) (κ : Nat → Option KD) (r0 : Nat) (a1 : Int32) (a2 : Int32) (a3 : Int32) (r4 : Nat) (hk_r0 : κ r0 = some .top) (hk_r4 : κ r4 = some .outs) (hT : TM k κ M) : mKN l yL_append wsL_append ({ frames := 9, cells := 5, slots := 86, locals := 149 }) D k z [.ref r0, .int a1, .int a2, .int a3, .ref r4] M (fun v M' => ∃ κ', TM k κ' M' ∧ kx κ M κ' M' ∧ ∃ x, v = some (.int x)) := by
  refine tc_ofWH (cc := cL_append) (maxL := 6) (ret := (some .int)) (hh := [(0, 12, 15, 13), (0, 12, 19, 31), (0, 12, 23, 33), (0, 12, 27, 15)]) (by decide) rfl ?_
  intro p e s m args below meth c s₁ B hml hv
  obtain ⟨rfl, hz, hcxN, hm⟩ := hv
  have hcx := hcxN.1
  have hx := B.exec
  have hb := B.bytes
  have hr := B.returns
  have hts := atoms_spec (ws := wsL_append) B.pre
  have hown : s.vm.findClass RL = some m.cls := findClass_of_methodNamed B.named
  have hlocks := B.notSynchronized
  have hK := hcx.1
  have hS : va_S (AZ z) s.heap s.heap [] := va_S.rf
  have hA : ∀ q, s.heap.size ≤ q → AZ z q := fun q h => Nat.le_trans hz h
  have htab := vx_table (x := yL_append) B (hts (.codeWith yL_append cL_append 6 (some .int) [(0, 12, 15, 13), (0, 12, 19, 31), (0, 12, 23, 33), (0, 12, 27, 15)]) List.mem_cons_self)
  have hl := lv_entry ([.ref r0, .int a1, .int a2, .int a3, .ref r4]) (n := 6) (Nat.le_of_ble_eq_true rfl)
  rw [lg_entry_eq]
  generalize (lg_sl ([.ref r0, .int a1, .int a2, .int a3, .ref r4]) ++ List.replicate (6 - (lg_sl ([.ref r0, .int a1, .int a2, .int a3, .ref r4])).length) Slot.unset).toArray = ls at hl ⊢
  have hl : lv_has ls 6 [(0, .ref r0), (1, .int a1), (2, .int a2), (3, .int a3), (4, .ref r4)] := hl
  have hT0 := hT
  have hE : kx κ M κ M := kx.refl _ _
  refine lv_aload hx hb dL_append_0 (lv_at hl 4 rfl) ?_
  refine lv_iconst (v := 0) hx hb dL_append_2 (by decide) ?_
  refine lv_aload_n hx hb dL_append_3 rfl (lv_at hl 0 rfl) ?_
  refine lv_iload_n hx hb dL_append_4 rfl (lv_at hl 1 rfl) ?_
  refine lv_iload_n hx hb dL_append_5 rfl (lv_at hl 2 rfl) ?_
  refine lv_iload_n hx hb dL_append_6 rfl (lv_at hl 3 rfl) ?_
  obtain ⟨v0_1, v1_1, v2_1, v3_1, v4_1, v5_1, v6_1, v7_1, v8_1, v9_1, v10_1, hM_r0_1, hk_v0_1, hk_v1_1, hk_v2_1, hk_v3_1, hk_v4_1, hk_v5_1, hz_v9_1, hz_v10_1⟩ := hT.top hk_r0
  refine m_cV (As := [.int a1, .int a2, .int a3]) (rest := [.int 0, .ref r4]) (rm := { frames := 8, cells := 5, slots := 86, locals := 124 }) ⟨hx, hb, hml, hown, hts⟩ (t_X5_append_III l hlt D k z _ _ r0 a1 a2 a3 hk_r0 hT) (cwV 3 hts gL_append_X5_append rfl rfl rfl (by decide +kernel) ⟨Nat.le_of_ble_eq_true rfl, Nat.le_of_ble_eq_true rfl⟩) (m_recv hK hm (q := (RX5, TX5, 11)) rfl hM_r0_1) hz hcx hm hS rfl hl.1 rfl (Nat.le_of_ble_eq_true rfl) dL_append_7 ⟨Nat.le_of_ble_eq_true rfl, Nat.le_of_ble_eq_true rfl⟩ (fun E ce q9 M1 H locs hv hm hS hce hcv hcl => ?_) (fun v M1 H locs hv hm hS => ?_)
  · obtain ⟨hE8, κ8, hT8, hx8⟩ := hv
    have hk_r0 := hx8.k hT hk_r0
    have hk_r4 := hx8.k hT hk_r4
    have hE := hE.trans hT0 hT hx8
    have hT := hT8
    obtain ⟨Mc1, hMx⟩ : ∃ x : mM, x = M1 := ⟨M1, rfl⟩
    subst hMx
    simp only [List.mem_cons, List.not_mem_nil, or_false] at hE8
    rcases hE8 with hE8 | hE8 | hE8 | hE8
    · subst hE8
      refine tc_catch (E := "java/lang/UnsupportedOperationException") (name := "java/lang/UnsupportedOperationException") hown [⟨0, 12, 15, 13⟩, ⟨0, 12, 19, 31⟩, ⟨0, 12, 23, 33⟩] ⟨0, 12, 27, 15⟩ [] (by rw [htab]; rfl) (fun z9 hz9 => by
          simp only [List.mem_cons, List.not_mem_nil, or_false] at hz9
          rcases hz9 with rfl | rfl | rfl
          · exact Or.inr ⟨by decide, "java/lang/IllegalStateException", hts (.classLink RL 13 "java/lang/IllegalStateException") (by decide +kernel), hcxN.2 ("java/lang/UnsupportedOperationException", "java/lang/IllegalStateException") (by decide +kernel)⟩
          · exact Or.inr ⟨by decide, "java/lang/IllegalArgumentException", hts (.classLink RL 31 "java/lang/IllegalArgumentException") (by decide +kernel), hcxN.2 ("java/lang/UnsupportedOperationException", "java/lang/IllegalArgumentException") (by decide +kernel)⟩
          · exact Or.inr ⟨by decide, "java/util/NoSuchElementException", hts (.classLink RL 33 "java/util/NoSuchElementException") (by decide +kernel), hcxN.2 ("java/lang/UnsupportedOperationException", "java/util/NoSuchElementException") (by decide +kernel)⟩) (by decide) (by decide) (hts (.classLink RL 15 "java/lang/UnsupportedOperationException") (by decide +kernel)) (hcx.dw _ (.castable "java/lang/UnsupportedOperationException" "java/lang/UnsupportedOperationException") (by decide +kernel)) hce hcv hcl ?_
      refine W.widen (k := 5) (n := 86) (Nat.le_of_ble_eq_true rfl) (Nat.le_of_ble_eq_true rfl) ?_
      refine W.eq (g2 := F0 m 27 ls [.ref q9]) rfl ?_
      refine lv_astore (lv' := [(5, .ref q9), (0, .ref r0), (1, .int a1), (2, .int a2), (3, .int a3), (4, .ref r4)]) hx hb dL_append_27 hl (by decide) rfl (fun ls hl => ?_)
      refine lv_iconst (v := 4) hx hb dL_append_29 (by decide) ?_
      refine W.iret (v := 4) hx hb hr (fun t ht hW => ⟨⟨some (.int 4), _, rfl, ?_, by rw [ht]; exact hm⟩, hS.F ht⟩) hS.2.2 dL_append_30
      exact ⟨_, hT, hE, ⟨_, rfl⟩⟩
    · subst hE8
      refine tc_catch (E := "java/lang/IllegalStateException") (name := "java/lang/IllegalStateException") hown [] ⟨0, 12, 15, 13⟩ [⟨0, 12, 19, 31⟩, ⟨0, 12, 23, 33⟩, ⟨0, 12, 27, 15⟩] (by rw [htab]; rfl) (fun z9 hz9 => by simp at hz9) (by decide) (by decide) (hts (.classLink RL 13 "java/lang/IllegalStateException") (by decide +kernel)) (hcx.dw _ (.castable "java/lang/IllegalStateException" "java/lang/IllegalStateException") (by decide +kernel)) hce hcv hcl ?_
      refine W.widen (k := 5) (n := 86) (Nat.le_of_ble_eq_true rfl) (Nat.le_of_ble_eq_true rfl) ?_
      refine W.eq (g2 := F0 m 15 ls [.ref q9]) rfl ?_
      refine lv_astore (lv' := [(5, .ref q9), (0, .ref r0), (1, .int a1), (2, .int a2), (3, .int a3), (4, .ref r4)]) hx hb dL_append_15 hl (by decide) rfl (fun ls hl => ?_)
      refine lv_iconst (v := 1) hx hb dL_append_17 (by decide) ?_
      refine W.iret (v := 1) hx hb hr (fun t ht hW => ⟨⟨some (.int 1), _, rfl, ?_, by rw [ht]; exact hm⟩, hS.F ht⟩) hS.2.2 dL_append_18
      exact ⟨_, hT, hE, ⟨_, rfl⟩⟩
    · subst hE8
      refine tc_catch (E := "java/util/NoSuchElementException") (name := "java/util/NoSuchElementException") hown [⟨0, 12, 15, 13⟩, ⟨0, 12, 19, 31⟩] ⟨0, 12, 23, 33⟩ [⟨0, 12, 27, 15⟩] (by rw [htab]; rfl) (fun z9 hz9 => by
          simp only [List.mem_cons, List.not_mem_nil, or_false] at hz9
          rcases hz9 with rfl | rfl
          · exact Or.inr ⟨by decide, "java/lang/IllegalStateException", hts (.classLink RL 13 "java/lang/IllegalStateException") (by decide +kernel), hcxN.2 ("java/util/NoSuchElementException", "java/lang/IllegalStateException") (by decide +kernel)⟩
          · exact Or.inr ⟨by decide, "java/lang/IllegalArgumentException", hts (.classLink RL 31 "java/lang/IllegalArgumentException") (by decide +kernel), hcxN.2 ("java/util/NoSuchElementException", "java/lang/IllegalArgumentException") (by decide +kernel)⟩) (by decide) (by decide) (hts (.classLink RL 33 "java/util/NoSuchElementException") (by decide +kernel)) (hcx.dw _ (.castable "java/util/NoSuchElementException" "java/util/NoSuchElementException") (by decide +kernel)) hce hcv hcl ?_
      refine W.widen (k := 5) (n := 86) (Nat.le_of_ble_eq_true rfl) (Nat.le_of_ble_eq_true rfl) ?_
      refine W.eq (g2 := F0 m 23 ls [.ref q9]) rfl ?_
      refine lv_astore (lv' := [(5, .ref q9), (0, .ref r0), (1, .int a1), (2, .int a2), (3, .int a3), (4, .ref r4)]) hx hb dL_append_23 hl (by decide) rfl (fun ls hl => ?_)
      refine lv_iconst (v := 3) hx hb dL_append_25 (by decide) ?_
      refine W.iret (v := 3) hx hb hr (fun t ht hW => ⟨⟨some (.int 3), _, rfl, ?_, by rw [ht]; exact hm⟩, hS.F ht⟩) hS.2.2 dL_append_26
      exact ⟨_, hT, hE, ⟨_, rfl⟩⟩
    · subst hE8
      refine tc_catch (E := "java/lang/IllegalArgumentException") (name := "java/lang/IllegalArgumentException") hown [⟨0, 12, 15, 13⟩] ⟨0, 12, 19, 31⟩ [⟨0, 12, 23, 33⟩, ⟨0, 12, 27, 15⟩] (by rw [htab]; rfl) (fun z9 hz9 => by
          simp only [List.mem_cons, List.not_mem_nil, or_false] at hz9
          rcases hz9 with rfl
          · exact Or.inr ⟨by decide, "java/lang/IllegalStateException", hts (.classLink RL 13 "java/lang/IllegalStateException") (by decide +kernel), hcxN.2 ("java/lang/IllegalArgumentException", "java/lang/IllegalStateException") (by decide +kernel)⟩) (by decide) (by decide) (hts (.classLink RL 31 "java/lang/IllegalArgumentException") (by decide +kernel)) (hcx.dw _ (.castable "java/lang/IllegalArgumentException" "java/lang/IllegalArgumentException") (by decide +kernel)) hce hcv hcl ?_
      refine W.widen (k := 5) (n := 86) (Nat.le_of_ble_eq_true rfl) (Nat.le_of_ble_eq_true rfl) ?_
      refine W.eq (g2 := F0 m 19 ls [.ref q9]) rfl ?_
      refine lv_astore (lv' := [(5, .ref q9), (0, .ref r0), (1, .int a1), (2, .int a2), (3, .int a3), (4, .ref r4)]) hx hb dL_append_19 hl (by decide) rfl (fun ls hl => ?_)
      refine lv_iconst (v := 2) hx hb dL_append_21 (by decide) ?_
      refine W.iret (v := 2) hx hb hr (fun t ht hW => ⟨⟨some (.int 2), _, rfl, ?_, by rw [ht]; exact hm⟩, hS.F ht⟩) hS.2.2 dL_append_22
      exact ⟨_, hT, hE, ⟨_, rfl⟩⟩
  obtain ⟨κ2, hT9, hE9, hv1⟩ := hv
  have hk_r0 := hE9.k hT hk_r0
  have hk_r4 := hE9.k hT hk_r4
  have hE := hE.trans hT0 hT hE9
  have hT := hT9
  obtain ⟨Mc2, hMx⟩ : ∃ x : mM, x = M1 := ⟨M1, rfl⟩
  subst hMx
  obtain ⟨w2, hv1⟩ := hv1
  subst hv1
  refine W.eq (g2 := F0 m 10 ls [.int w2, .int 0, .ref r4]) rfl ?_
  refine W.widen (k := 5) (n := 86) (Nat.le_of_ble_eq_true rfl) (Nat.le_of_ble_eq_true rfl) ?_
  have hm : mm D (AZ z) Mc2 H := hm
  refine lv_i2l (v := (w2).toInt64) hx hb dL_append_10 rfl ?_
  obtain ⟨f_3, hM_r4_3⟩ := hT.outs hk_r4
  refine m_last hx hb hK hm hS 1 hM_r4_3 rfl (by unfold vp_in; decide) dL_append_11 (fun H locs hm hS => ?_)
  have hm : mm D (AZ z) (mu Mc2 r4 (.inl (k 1, 1, .inr (.inl (vp_updL f_3 (0 : Int32).toNatClampNeg (w2).toInt64))))) H := hm
  have hT : TM k κ2 (mu Mc2 r4 (.inl (k 1, 1, .inr (.inl (vp_updL f_3 (0 : Int32).toNatClampNeg (w2).toInt64))))) := hT.put hk_r4 (show wf k κ2 .outs (.inl (k 1, 1, .inr (.inl (vp_updL f_3 (0 : Int32).toNatClampNeg (w2).toInt64)))) from ⟨(vp_updL f_3 (0 : Int32).toNatClampNeg (w2).toInt64), rfl⟩)
  have hE : kx κ M κ2 (mu Mc2 r4 (.inl (k 1, 1, .inr (.inl (vp_updL f_3 (0 : Int32).toNatClampNeg (w2).toInt64))))) := hE.put hk_r4
  generalize (mu Mc2 r4 (.inl (k 1, 1, .inr (.inl (vp_updL f_3 (0 : Int32).toNatClampNeg (w2).toInt64))))) = Mc3 at hm hT hE
  refine lv_goto (tgt := 31) hx hb dL_append_12 (by decide) ?_
  refine lv_iconst (v := 0) hx hb dL_append_31 (by decide) ?_
  refine W.iret (v := 0) hx hb hr (fun t ht hW => ⟨⟨some (.int 0), _, rfl, ?_, by rw [ht]; exact hm⟩, hS.F ht⟩) hS.2.2 dL_append_32
  exact ⟨_, hT, hE, ⟨_, rfl⟩⟩

set_option maxHeartbeats 4000000 in
set_option maxRecDepth 100000 in
theorem h_L_cut (l : Launch) (hlt : l.stackTraces = false) (D : va_G) (k : Nat → ClassId) (z : Nat) (M : mM) (κ : Nat → Option KD) (r0 : Nat) (a1 : Int32) (a2 : Int32) (a3 : Int32) (r4 : Nat) (hk_r0 : κ r0 = some .top) (hk_r4 : κ r4 = some .outs) (hT : TM k κ M) : mKN l yL_cut wsL_cut ({ frames := 9, cells := 5, slots := 86, locals := 149 }) D k z [.ref r0, .int a1, .int a2, .int a3, .ref r4] M (fun v M' => ∃ κ', TM k κ' M' ∧ kx κ M κ' M' ∧ ∃ x, v = some (.int x)) := by
  refine tc_ofWH (cc := cL_cut) (maxL := 6) (ret := (some .int)) (hh := [(0, 12, 15, 13), (0, 12, 19, 31), (0, 12, 23, 33), (0, 12, 27, 15), (0, 12, 31, 47)]) (by decide) rfl ?_
  intro p e s m args below meth c s₁ B hml hv
  obtain ⟨rfl, hz, hcxN, hm⟩ := hv
  have hcx := hcxN.1
  have hx := B.exec
  have hb := B.bytes
  have hr := B.returns
  have hts := atoms_spec (ws := wsL_cut) B.pre
  have hown : s.vm.findClass RL = some m.cls := findClass_of_methodNamed B.named
  have hlocks := B.notSynchronized
  have hK := hcx.1
  have hS : va_S (AZ z) s.heap s.heap [] := va_S.rf
  have hA : ∀ q, s.heap.size ≤ q → AZ z q := fun q h => Nat.le_trans hz h
  have htab := vx_table (x := yL_cut) B (hts (.codeWith yL_cut cL_cut 6 (some .int) [(0, 12, 15, 13), (0, 12, 19, 31), (0, 12, 23, 33), (0, 12, 27, 15), (0, 12, 31, 47)]) List.mem_cons_self)
  have hl := lv_entry ([.ref r0, .int a1, .int a2, .int a3, .ref r4]) (n := 6) (Nat.le_of_ble_eq_true rfl)
  rw [lg_entry_eq]
  generalize (lg_sl ([.ref r0, .int a1, .int a2, .int a3, .ref r4]) ++ List.replicate (6 - (lg_sl ([.ref r0, .int a1, .int a2, .int a3, .ref r4])).length) Slot.unset).toArray = ls at hl ⊢
  have hl : lv_has ls 6 [(0, .ref r0), (1, .int a1), (2, .int a2), (3, .int a3), (4, .ref r4)] := hl
  have hT0 := hT
  have hE : kx κ M κ M := kx.refl _ _
  refine lv_aload hx hb dL_cut_0 (lv_at hl 4 rfl) ?_
  refine lv_iconst (v := 0) hx hb dL_cut_2 (by decide) ?_
  refine lv_aload_n hx hb dL_cut_3 rfl (lv_at hl 0 rfl) ?_
  refine lv_iload_n hx hb dL_cut_4 rfl (lv_at hl 1 rfl) ?_
  refine lv_iload_n hx hb dL_cut_5 rfl (lv_at hl 2 rfl) ?_
  refine lv_iload_n hx hb dL_cut_6 rfl (lv_at hl 3 rfl) ?_
  obtain ⟨v0_1, v1_1, v2_1, v3_1, v4_1, v5_1, v6_1, v7_1, v8_1, v9_1, v10_1, hM_r0_1, hk_v0_1, hk_v1_1, hk_v2_1, hk_v3_1, hk_v4_1, hk_v5_1, hz_v9_1, hz_v10_1⟩ := hT.top hk_r0
  refine m_cV (As := [.int a1, .int a2, .int a3]) (rest := [.int 0, .ref r4]) (rm := { frames := 8, cells := 5, slots := 86, locals := 124 }) ⟨hx, hb, hml, hown, hts⟩ (t_X5_cut_III l hlt D k z _ _ r0 a1 a2 a3 hk_r0 hT) (cwV 3 hts gL_cut_X5_cut rfl rfl rfl (by decide +kernel) ⟨Nat.le_of_ble_eq_true rfl, Nat.le_of_ble_eq_true rfl⟩) (m_recv hK hm (q := (RX5, TX5, 11)) rfl hM_r0_1) hz hcx hm hS rfl hl.1 rfl (Nat.le_of_ble_eq_true rfl) dL_cut_7 ⟨Nat.le_of_ble_eq_true rfl, Nat.le_of_ble_eq_true rfl⟩ (fun E ce q9 M1 H locs hv hm hS hce hcv hcl => ?_) (fun v M1 H locs hv hm hS => ?_)
  · obtain ⟨hE8, κ8, hT8, hx8⟩ := hv
    have hk_r0 := hx8.k hT hk_r0
    have hk_r4 := hx8.k hT hk_r4
    have hE := hE.trans hT0 hT hx8
    have hT := hT8
    obtain ⟨Mc1, hMx⟩ : ∃ x : mM, x = M1 := ⟨M1, rfl⟩
    subst hMx
    simp only [List.mem_cons, List.not_mem_nil, or_false] at hE8
    rcases hE8 with hE8 | hE8 | hE8 | hE8 | hE8
    · subst hE8
      refine tc_catch (E := "java/lang/IllegalArgumentException") (name := "java/lang/IllegalArgumentException") hown [⟨0, 12, 15, 13⟩] ⟨0, 12, 19, 31⟩ [⟨0, 12, 23, 33⟩, ⟨0, 12, 27, 15⟩, ⟨0, 12, 31, 47⟩] (by rw [htab]; rfl) (fun z9 hz9 => by
          simp only [List.mem_cons, List.not_mem_nil, or_false] at hz9
          rcases hz9 with rfl
          · exact Or.inr ⟨by decide, "java/lang/IllegalStateException", hts (.classLink RL 13 "java/lang/IllegalStateException") (by decide +kernel), hcxN.2 ("java/lang/IllegalArgumentException", "java/lang/IllegalStateException") (by decide +kernel)⟩) (by decide) (by decide) (hts (.classLink RL 31 "java/lang/IllegalArgumentException") (by decide +kernel)) (hcx.dw _ (.castable "java/lang/IllegalArgumentException" "java/lang/IllegalArgumentException") (by decide +kernel)) hce hcv hcl ?_
      refine W.widen (k := 5) (n := 86) (Nat.le_of_ble_eq_true rfl) (Nat.le_of_ble_eq_true rfl) ?_
      refine W.eq (g2 := F0 m 19 ls [.ref q9]) rfl ?_
      refine lv_astore (lv' := [(5, .ref q9), (0, .ref r0), (1, .int a1), (2, .int a2), (3, .int a3), (4, .ref r4)]) hx hb dL_cut_19 hl (by decide) rfl (fun ls hl => ?_)
      refine lv_iconst (v := 2) hx hb dL_cut_21 (by decide) ?_
      refine W.iret (v := 2) hx hb hr (fun t ht hW => ⟨⟨some (.int 2), _, rfl, ?_, by rw [ht]; exact hm⟩, hS.F ht⟩) hS.2.2 dL_cut_22
      exact ⟨_, hT, hE, ⟨_, rfl⟩⟩
    · subst hE8
      refine tc_catch (E := "java/lang/IndexOutOfBoundsException") (name := "java/lang/IndexOutOfBoundsException") hown [⟨0, 12, 15, 13⟩, ⟨0, 12, 19, 31⟩, ⟨0, 12, 23, 33⟩, ⟨0, 12, 27, 15⟩] ⟨0, 12, 31, 47⟩ [] (by rw [htab]; rfl) (fun z9 hz9 => by
          simp only [List.mem_cons, List.not_mem_nil, or_false] at hz9
          rcases hz9 with rfl | rfl | rfl | rfl
          · exact Or.inr ⟨by decide, "java/lang/IllegalStateException", hts (.classLink RL 13 "java/lang/IllegalStateException") (by decide +kernel), hcxN.2 ("java/lang/IndexOutOfBoundsException", "java/lang/IllegalStateException") (by decide +kernel)⟩
          · exact Or.inr ⟨by decide, "java/lang/IllegalArgumentException", hts (.classLink RL 31 "java/lang/IllegalArgumentException") (by decide +kernel), hcxN.2 ("java/lang/IndexOutOfBoundsException", "java/lang/IllegalArgumentException") (by decide +kernel)⟩
          · exact Or.inr ⟨by decide, "java/util/NoSuchElementException", hts (.classLink RL 33 "java/util/NoSuchElementException") (by decide +kernel), hcxN.2 ("java/lang/IndexOutOfBoundsException", "java/util/NoSuchElementException") (by decide +kernel)⟩
          · exact Or.inr ⟨by decide, "java/lang/UnsupportedOperationException", hts (.classLink RL 15 "java/lang/UnsupportedOperationException") (by decide +kernel), hcxN.2 ("java/lang/IndexOutOfBoundsException", "java/lang/UnsupportedOperationException") (by decide +kernel)⟩) (by decide) (by decide) (hts (.classLink RL 47 "java/lang/IndexOutOfBoundsException") (by decide +kernel)) (hcx.dw _ (.castable "java/lang/IndexOutOfBoundsException" "java/lang/IndexOutOfBoundsException") (by decide +kernel)) hce hcv hcl ?_
      refine W.widen (k := 5) (n := 86) (Nat.le_of_ble_eq_true rfl) (Nat.le_of_ble_eq_true rfl) ?_
      refine W.eq (g2 := F0 m 31 ls [.ref q9]) rfl ?_
      refine lv_astore (lv' := [(5, .ref q9), (0, .ref r0), (1, .int a1), (2, .int a2), (3, .int a3), (4, .ref r4)]) hx hb dL_cut_31 hl (by decide) rfl (fun ls hl => ?_)
      refine lv_iconst (v := 5) hx hb dL_cut_33 (by decide) ?_
      refine W.iret (v := 5) hx hb hr (fun t ht hW => ⟨⟨some (.int 5), _, rfl, ?_, by rw [ht]; exact hm⟩, hS.F ht⟩) hS.2.2 dL_cut_34
      exact ⟨_, hT, hE, ⟨_, rfl⟩⟩
    · subst hE8
      refine tc_catch (E := "java/lang/IllegalStateException") (name := "java/lang/IllegalStateException") hown [] ⟨0, 12, 15, 13⟩ [⟨0, 12, 19, 31⟩, ⟨0, 12, 23, 33⟩, ⟨0, 12, 27, 15⟩, ⟨0, 12, 31, 47⟩] (by rw [htab]; rfl) (fun z9 hz9 => by simp at hz9) (by decide) (by decide) (hts (.classLink RL 13 "java/lang/IllegalStateException") (by decide +kernel)) (hcx.dw _ (.castable "java/lang/IllegalStateException" "java/lang/IllegalStateException") (by decide +kernel)) hce hcv hcl ?_
      refine W.widen (k := 5) (n := 86) (Nat.le_of_ble_eq_true rfl) (Nat.le_of_ble_eq_true rfl) ?_
      refine W.eq (g2 := F0 m 15 ls [.ref q9]) rfl ?_
      refine lv_astore (lv' := [(5, .ref q9), (0, .ref r0), (1, .int a1), (2, .int a2), (3, .int a3), (4, .ref r4)]) hx hb dL_cut_15 hl (by decide) rfl (fun ls hl => ?_)
      refine lv_iconst (v := 1) hx hb dL_cut_17 (by decide) ?_
      refine W.iret (v := 1) hx hb hr (fun t ht hW => ⟨⟨some (.int 1), _, rfl, ?_, by rw [ht]; exact hm⟩, hS.F ht⟩) hS.2.2 dL_cut_18
      exact ⟨_, hT, hE, ⟨_, rfl⟩⟩
    · subst hE8
      refine tc_catch (E := "java/util/NoSuchElementException") (name := "java/util/NoSuchElementException") hown [⟨0, 12, 15, 13⟩, ⟨0, 12, 19, 31⟩] ⟨0, 12, 23, 33⟩ [⟨0, 12, 27, 15⟩, ⟨0, 12, 31, 47⟩] (by rw [htab]; rfl) (fun z9 hz9 => by
          simp only [List.mem_cons, List.not_mem_nil, or_false] at hz9
          rcases hz9 with rfl | rfl
          · exact Or.inr ⟨by decide, "java/lang/IllegalStateException", hts (.classLink RL 13 "java/lang/IllegalStateException") (by decide +kernel), hcxN.2 ("java/util/NoSuchElementException", "java/lang/IllegalStateException") (by decide +kernel)⟩
          · exact Or.inr ⟨by decide, "java/lang/IllegalArgumentException", hts (.classLink RL 31 "java/lang/IllegalArgumentException") (by decide +kernel), hcxN.2 ("java/util/NoSuchElementException", "java/lang/IllegalArgumentException") (by decide +kernel)⟩) (by decide) (by decide) (hts (.classLink RL 33 "java/util/NoSuchElementException") (by decide +kernel)) (hcx.dw _ (.castable "java/util/NoSuchElementException" "java/util/NoSuchElementException") (by decide +kernel)) hce hcv hcl ?_
      refine W.widen (k := 5) (n := 86) (Nat.le_of_ble_eq_true rfl) (Nat.le_of_ble_eq_true rfl) ?_
      refine W.eq (g2 := F0 m 23 ls [.ref q9]) rfl ?_
      refine lv_astore (lv' := [(5, .ref q9), (0, .ref r0), (1, .int a1), (2, .int a2), (3, .int a3), (4, .ref r4)]) hx hb dL_cut_23 hl (by decide) rfl (fun ls hl => ?_)
      refine lv_iconst (v := 3) hx hb dL_cut_25 (by decide) ?_
      refine W.iret (v := 3) hx hb hr (fun t ht hW => ⟨⟨some (.int 3), _, rfl, ?_, by rw [ht]; exact hm⟩, hS.F ht⟩) hS.2.2 dL_cut_26
      exact ⟨_, hT, hE, ⟨_, rfl⟩⟩
    · subst hE8
      refine tc_catch (E := "java/lang/UnsupportedOperationException") (name := "java/lang/UnsupportedOperationException") hown [⟨0, 12, 15, 13⟩, ⟨0, 12, 19, 31⟩, ⟨0, 12, 23, 33⟩] ⟨0, 12, 27, 15⟩ [⟨0, 12, 31, 47⟩] (by rw [htab]; rfl) (fun z9 hz9 => by
          simp only [List.mem_cons, List.not_mem_nil, or_false] at hz9
          rcases hz9 with rfl | rfl | rfl
          · exact Or.inr ⟨by decide, "java/lang/IllegalStateException", hts (.classLink RL 13 "java/lang/IllegalStateException") (by decide +kernel), hcxN.2 ("java/lang/UnsupportedOperationException", "java/lang/IllegalStateException") (by decide +kernel)⟩
          · exact Or.inr ⟨by decide, "java/lang/IllegalArgumentException", hts (.classLink RL 31 "java/lang/IllegalArgumentException") (by decide +kernel), hcxN.2 ("java/lang/UnsupportedOperationException", "java/lang/IllegalArgumentException") (by decide +kernel)⟩
          · exact Or.inr ⟨by decide, "java/util/NoSuchElementException", hts (.classLink RL 33 "java/util/NoSuchElementException") (by decide +kernel), hcxN.2 ("java/lang/UnsupportedOperationException", "java/util/NoSuchElementException") (by decide +kernel)⟩) (by decide) (by decide) (hts (.classLink RL 15 "java/lang/UnsupportedOperationException") (by decide +kernel)) (hcx.dw _ (.castable "java/lang/UnsupportedOperationException" "java/lang/UnsupportedOperationException") (by decide +kernel)) hce hcv hcl ?_
      refine W.widen (k := 5) (n := 86) (Nat.le_of_ble_eq_true rfl) (Nat.le_of_ble_eq_true rfl) ?_
      refine W.eq (g2 := F0 m 27 ls [.ref q9]) rfl ?_
      refine lv_astore (lv' := [(5, .ref q9), (0, .ref r0), (1, .int a1), (2, .int a2), (3, .int a3), (4, .ref r4)]) hx hb dL_cut_27 hl (by decide) rfl (fun ls hl => ?_)
      refine lv_iconst (v := 4) hx hb dL_cut_29 (by decide) ?_
      refine W.iret (v := 4) hx hb hr (fun t ht hW => ⟨⟨some (.int 4), _, rfl, ?_, by rw [ht]; exact hm⟩, hS.F ht⟩) hS.2.2 dL_cut_30
      exact ⟨_, hT, hE, ⟨_, rfl⟩⟩
  obtain ⟨κ2, hT9, hE9, hv1⟩ := hv
  have hk_r0 := hE9.k hT hk_r0
  have hk_r4 := hE9.k hT hk_r4
  have hE := hE.trans hT0 hT hE9
  have hT := hT9
  obtain ⟨Mc2, hMx⟩ : ∃ x : mM, x = M1 := ⟨M1, rfl⟩
  subst hMx
  obtain ⟨w2, hv1⟩ := hv1
  subst hv1
  refine W.eq (g2 := F0 m 10 ls [.int w2, .int 0, .ref r4]) rfl ?_
  refine W.widen (k := 5) (n := 86) (Nat.le_of_ble_eq_true rfl) (Nat.le_of_ble_eq_true rfl) ?_
  have hm : mm D (AZ z) Mc2 H := hm
  refine lv_i2l (v := (w2).toInt64) hx hb dL_cut_10 rfl ?_
  obtain ⟨f_3, hM_r4_3⟩ := hT.outs hk_r4
  refine m_last hx hb hK hm hS 1 hM_r4_3 rfl (by unfold vp_in; decide) dL_cut_11 (fun H locs hm hS => ?_)
  have hm : mm D (AZ z) (mu Mc2 r4 (.inl (k 1, 1, .inr (.inl (vp_updL f_3 (0 : Int32).toNatClampNeg (w2).toInt64))))) H := hm
  have hT : TM k κ2 (mu Mc2 r4 (.inl (k 1, 1, .inr (.inl (vp_updL f_3 (0 : Int32).toNatClampNeg (w2).toInt64))))) := hT.put hk_r4 (show wf k κ2 .outs (.inl (k 1, 1, .inr (.inl (vp_updL f_3 (0 : Int32).toNatClampNeg (w2).toInt64)))) from ⟨(vp_updL f_3 (0 : Int32).toNatClampNeg (w2).toInt64), rfl⟩)
  have hE : kx κ M κ2 (mu Mc2 r4 (.inl (k 1, 1, .inr (.inl (vp_updL f_3 (0 : Int32).toNatClampNeg (w2).toInt64))))) := hE.put hk_r4
  generalize (mu Mc2 r4 (.inl (k 1, 1, .inr (.inl (vp_updL f_3 (0 : Int32).toNatClampNeg (w2).toInt64))))) = Mc3 at hm hT hE
  refine lv_goto (tgt := 35) hx hb dL_cut_12 (by decide) ?_
  refine lv_iconst (v := 0) hx hb dL_cut_35 (by decide) ?_
  refine W.iret (v := 0) hx hb hr (fun t ht hW => ⟨⟨some (.int 0), _, rfl, ?_, by rw [ht]; exact hm⟩, hS.F ht⟩) hS.2.2 dL_cut_36
  exact ⟨_, hT, hE, ⟨_, rfl⟩⟩

