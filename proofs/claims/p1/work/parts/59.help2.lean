set_option maxHeartbeats 4000000 in
set_option maxRecDepth 100000 in
theorem H_begin (l : Launch) (hlt : l.stackTraces = false) (D : va_G) (k : Nat → ClassId) (z : Nat) (M : mM) (o oa : Nat) (g9 : Nat → Int64) (hF : cFr k M o) (hoa : M oa = some (.inl (k 1, 1, .inr (.inl g9)))) : mKN l yL_begin wsL_begin ({ frames := 7, cells := 1, slots := 6, locals := 104 }) D k z [.ref o, .ref oa] M (fun v M' => v = some (.int 0) ∧ k2 M M' ∧ outIs k M' oa 0) := by
  refine tc_ofWH (cc := cL_begin) (maxL := 3) (ret := (some .int)) (hh := [(0, 8, 11, 13), (0, 8, 14, 15)]) (by decide) rfl ?_
  intro p e s m args below meth c s₁ B hml hv
  obtain ⟨rfl, hz, hcxN, hm⟩ := hv
  have hcx := hcxN.1
  have hx := B.exec
  have hb := B.bytes
  have hr := B.returns
  have hts := atoms_spec (ws := wsL_begin) B.pre
  have hown : s.vm.findClass RL = some m.cls := findClass_of_methodNamed B.named
  have hlocks := B.notSynchronized
  have hK := hcx.1
  have hS : va_S (AZ z) s.heap s.heap [] := va_S.rf
  have hA : ∀ q, s.heap.size ≤ q → AZ z q := fun q h => Nat.le_trans hz h
  have htab := vx_table (x := yL_begin) B (hts (.codeWith yL_begin cL_begin 3 (some .int) [(0, 8, 11, 13), (0, 8, 14, 15)]) List.mem_cons_self)
  have hl := lv_entry ([.ref o, .ref oa]) (n := 3) (Nat.le_of_ble_eq_true rfl)
  rw [lg_entry_eq]
  generalize (lg_sl ([.ref o, .ref oa]) ++ List.replicate (3 - (lg_sl ([.ref o, .ref oa])).length) Slot.unset).toArray = ls at hl ⊢
  have hl : lv_has ls 3 [(0, .ref o), (1, .ref oa)] := hl
  obtain ⟨tr, nx, mg, dk, ts, ou, tn, g0, gt, hO, hT, hD9, hTs, hXt, hOu⟩ := id hF
  refine lv_aload_n hx hb dL_begin_0 rfl (lv_at hl 1 rfl) ?_
  refine lv_iconst (v := 0) hx hb dL_begin_1 (by decide) ?_
  refine lv_aload_n hx hb dL_begin_2 rfl (lv_at hl 0 rfl) ?_
  refine m_cV (As := []) (rest := [.int 0, .ref oa]) (rm := { frames := 6, cells := 1, slots := 6, locals := 82 }) ⟨hx, hb, hml, hown, hts⟩ (F_begin l hlt D k z _ o hF) (cwV 0 hts gL_begin_X5_begin rfl rfl rfl (by decide +kernel) ⟨Nat.le_of_ble_eq_true rfl, Nat.le_of_ble_eq_true rfl⟩) (m_recv hK hm (q := (RX5, TX5, 11)) rfl hO) hz hcx hm hS rfl hl.1 rfl (Nat.le_of_ble_eq_true rfl) dL_begin_3 ⟨Nat.le_of_ble_eq_true rfl, Nat.le_of_ble_eq_true rfl⟩ (fun E ce q9 M1 H locs hv hm hS hce hcv hcl => ?_) (fun v M1 H locs hv hm hS => ?_)
  · exact hv.elim
  obtain ⟨hv1, hk9⟩ := hv
  subst hv1
  have hoa : M1 oa = some (.inl (k 1, 1, .inr (.inl g9))) := hk9 _ _ (show (1 : Nat) ≠ 60 by decide) hoa
  obtain ⟨Mc1, hMx⟩ : ∃ x : mM, x = M1 := ⟨M1, rfl⟩
  subst hMx
  refine W.eq (g2 := F0 m 6 ls [.int 0, .int 0, .ref oa]) rfl ?_
  refine W.widen (k := 1) (n := 6) (Nat.le_of_ble_eq_true rfl) (Nat.le_of_ble_eq_true rfl) ?_
  have hm : mm D (AZ z) Mc1 H := hm
  refine lv_i2l (v := (0).toInt64) hx hb dL_begin_6 rfl ?_
  refine m_last hx hb hK hm hS 1 hoa rfl (by unfold vp_in; decide) dL_begin_7 (fun H locs hm hS => ?_)
  have hm : mm D (AZ z) (mu Mc1 oa (.inl (k 1, 1, .inr (.inl (vp_updL g9 (0 : Int32).toNatClampNeg (0).toInt64))))) H := hm
  refine lv_goto (tgt := 17) hx hb dL_begin_8 (by decide) ?_
  refine lv_iconst (v := 0) hx hb dL_begin_17 (by decide) ?_
  refine W.iret (v := 0) hx hb hr (fun t ht hW => ⟨⟨some (.int 0), _, rfl, ?_, by rw [ht]; exact hm⟩, hS.F ht⟩) hS.2.2 dL_begin_18
  exact ⟨rfl, hk9.k2.long hoa, _, mu_self _ _ _, rfl⟩

set_option maxHeartbeats 4000000 in
set_option maxRecDepth 100000 in
theorem H_power (l : Launch) (hlt : l.stackTraces = false) (D : va_G) (k : Nat → ClassId) (z : Nat) (M : mM) (o oa : Nat) (g9 : Nat → Int64) (hF : cFr k M o) (hoa : M oa = some (.inl (k 1, 1, .inr (.inl g9)))) (n : Int32) : mKN l yL_power wsL_power ({ frames := 7, cells := 1, slots := 6, locals := 103 }) D k z [.ref o, .int n] M (fun v M' => (((n < -1 ∨ ¬ n ≤ 1000) ∧ v = some (.int 1)) ∨ ((¬ n < -1 ∧ n ≤ 1000) ∧ v = some (.int 0))) ∧ k2 M M') := by
  refine tc_ofWH (cc := cL_power) (maxL := 3) (ret := (some .int)) (hh := [(0, 5, 8, 31)]) (by decide) rfl ?_
  intro p e s m args below meth c s₁ B hml hv
  obtain ⟨rfl, hz, hcxN, hm⟩ := hv
  have hcx := hcxN.1
  have hx := B.exec
  have hb := B.bytes
  have hr := B.returns
  have hts := atoms_spec (ws := wsL_power) B.pre
  have hown : s.vm.findClass RL = some m.cls := findClass_of_methodNamed B.named
  have hlocks := B.notSynchronized
  have hK := hcx.1
  have hS : va_S (AZ z) s.heap s.heap [] := va_S.rf
  have hA : ∀ q, s.heap.size ≤ q → AZ z q := fun q h => Nat.le_trans hz h
  have htab := vx_table (x := yL_power) B (hts (.codeWith yL_power cL_power 3 (some .int) [(0, 5, 8, 31)]) List.mem_cons_self)
  have hl := lv_entry ([.ref o, .int n]) (n := 3) (Nat.le_of_ble_eq_true rfl)
  rw [lg_entry_eq]
  generalize (lg_sl ([.ref o, .int n]) ++ List.replicate (3 - (lg_sl ([.ref o, .int n])).length) Slot.unset).toArray = ls at hl ⊢
  have hl : lv_has ls 3 [(0, .ref o), (1, .int n)] := hl
  obtain ⟨tr, nx, mg, dk, ts, ou, tn, g0, gt, hO, hT, hD9, hTs, hXt, hOu⟩ := id hF
  refine lv_aload_n hx hb dL_power_0 rfl (lv_at hl 0 rfl) ?_
  refine lv_iload_n hx hb dL_power_1 rfl (lv_at hl 1 rfl) ?_
  refine m_cV (As := [.int n]) (rest := []) (rm := { frames := 6, cells := 1, slots := 6, locals := 82 }) ⟨hx, hb, hml, hown, hts⟩ (F_power l hlt D k z _ o hF n) (cwV 1 hts gL_power_X5_power rfl rfl rfl (by decide +kernel) ⟨Nat.le_of_ble_eq_true rfl, Nat.le_of_ble_eq_true rfl⟩) (m_recv hK hm (q := (RX5, TX5, 11)) rfl hO) hz hcx hm hS rfl hl.1 rfl (Nat.le_of_ble_eq_true rfl) dL_power_2 ⟨Nat.le_of_ble_eq_true rfl, Nat.le_of_ble_eq_true rfl⟩ (fun E ce q9 M1 H locs hv hm hS hce hcv hcl => ?_) (fun v M1 H locs hv hm hS => ?_)
  · obtain ⟨hc9, hE9, hM1⟩ := hv
    subst hE9
    rw [hM1] at hm
    refine tc_catch (E := "java/lang/IllegalArgumentException") (name := "java/lang/IllegalArgumentException") hown [] ⟨0, 5, 8, 31⟩ [] (by rw [htab]; rfl) (fun z9 hz9 => by simp at hz9) (by decide) (by decide) (hts (.classLink RL 31 "java/lang/IllegalArgumentException") (by decide +kernel)) (hcx.dw _ (.castable "java/lang/IllegalArgumentException" "java/lang/IllegalArgumentException") (by decide +kernel)) hce hcv hcl ?_
    refine W.widen (k := 1) (n := 6) (Nat.le_of_ble_eq_true rfl) (Nat.le_of_ble_eq_true rfl) ?_
    refine W.eq (g2 := F0 m 8 ls [.ref q9]) rfl ?_
    refine lv_astore_n (lv' := [(2, .ref q9), (0, .ref o), (1, .int n)]) hx hb dL_power_8 rfl hl (by decide) rfl (fun ls hl => ?_)
    refine lv_iconst (v := 1) hx hb dL_power_9 (by decide) ?_
    refine W.iret (v := 1) hx hb hr (fun t ht hW => ⟨⟨some (.int 1), _, rfl, ?_, by rw [ht]; exact hm⟩, hS.F ht⟩) hS.2.2 dL_power_10
    exact ⟨Or.inl ⟨hc9, rfl⟩, k2.refl _⟩
  obtain ⟨hc9, hv1, hk9⟩ := hv
  subst hv1
  obtain ⟨Mc1, hMx⟩ : ∃ x : mM, x = M1 := ⟨M1, rfl⟩
  subst hMx
  refine W.eq (g2 := F0 m 5 ls []) rfl ?_
  refine W.widen (k := 1) (n := 6) (Nat.le_of_ble_eq_true rfl) (Nat.le_of_ble_eq_true rfl) ?_
  have hm : mm D (AZ z) Mc1 H := hm
  refine lv_goto (tgt := 11) hx hb dL_power_5 (by decide) ?_
  refine lv_iconst (v := 0) hx hb dL_power_11 (by decide) ?_
  refine W.iret (v := 0) hx hb hr (fun t ht hW => ⟨⟨some (.int 0), _, rfl, ?_, by rw [ht]; exact hm⟩, hS.F ht⟩) hS.2.2 dL_power_12
  exact ⟨Or.inr ⟨hc9, rfl⟩, hk9.k2⟩

set_option maxHeartbeats 4000000 in
set_option maxRecDepth 100000 in
theorem H_count (l : Launch) (hlt : l.stackTraces = false) (D : va_G) (k : Nat → ClassId) (z : Nat) (M : mM) (o oa : Nat) (g9 : Nat → Int64) (hF : cFr k M o) (hoa : M oa = some (.inl (k 1, 1, .inr (.inl g9)))) (w : Int32) : mKN l yL_count wsL_count ({ frames := 7, cells := 1, slots := 6, locals := 103 }) D k z [.ref o, .int w, .ref oa] M (fun v M' => (((w < 0 ∨ ¬ w ≤ 5) ∧ v = some (.int 1)) ∨ ((¬ w < 0 ∧ w ≤ 5) ∧ v = some (.int 0) ∧ outIs k M' oa (cv w).toInt64)) ∧ k2 M M') := by
  refine tc_ofWH (cc := cL_count) (maxL := 4) (ret := (some .int)) (hh := [(0, 9, 12, 31)]) (by decide) rfl ?_
  intro p e s m args below meth c s₁ B hml hv
  obtain ⟨rfl, hz, hcxN, hm⟩ := hv
  have hcx := hcxN.1
  have hx := B.exec
  have hb := B.bytes
  have hr := B.returns
  have hts := atoms_spec (ws := wsL_count) B.pre
  have hown : s.vm.findClass RL = some m.cls := findClass_of_methodNamed B.named
  have hlocks := B.notSynchronized
  have hK := hcx.1
  have hS : va_S (AZ z) s.heap s.heap [] := va_S.rf
  have hA : ∀ q, s.heap.size ≤ q → AZ z q := fun q h => Nat.le_trans hz h
  have htab := vx_table (x := yL_count) B (hts (.codeWith yL_count cL_count 4 (some .int) [(0, 9, 12, 31)]) List.mem_cons_self)
  have hl := lv_entry ([.ref o, .int w, .ref oa]) (n := 4) (Nat.le_of_ble_eq_true rfl)
  rw [lg_entry_eq]
  generalize (lg_sl ([.ref o, .int w, .ref oa]) ++ List.replicate (4 - (lg_sl ([.ref o, .int w, .ref oa])).length) Slot.unset).toArray = ls at hl ⊢
  have hl : lv_has ls 4 [(0, .ref o), (1, .int w), (2, .ref oa)] := hl
  obtain ⟨tr, nx, mg, dk, ts, ou, tn, g0, gt, hO, hT, hD9, hTs, hXt, hOu⟩ := id hF
  refine lv_aload_n hx hb dL_count_0 rfl (lv_at hl 2 rfl) ?_
  refine lv_iconst (v := 0) hx hb dL_count_1 (by decide) ?_
  refine lv_aload_n hx hb dL_count_2 rfl (lv_at hl 0 rfl) ?_
  refine lv_iload_n hx hb dL_count_3 rfl (lv_at hl 1 rfl) ?_
  refine m_cV (As := [.int w]) (rest := [.int 0, .ref oa]) (rm := { frames := 6, cells := 1, slots := 6, locals := 82 }) ⟨hx, hb, hml, hown, hts⟩ (G_count l hlt D k z _ o hF w) (cwV 1 hts gL_count_X5_count rfl rfl rfl (by decide +kernel) ⟨Nat.le_of_ble_eq_true rfl, Nat.le_of_ble_eq_true rfl⟩) (m_recv hK hm (q := (RX5, TX5, 11)) rfl hO) hz hcx hm hS rfl hl.1 rfl (Nat.le_of_ble_eq_true rfl) dL_count_4 ⟨Nat.le_of_ble_eq_true rfl, Nat.le_of_ble_eq_true rfl⟩ (fun E ce q9 M1 H locs hv hm hS hce hcv hcl => ?_) (fun v M1 H locs hv hm hS => ?_)
  · obtain ⟨hc9, hE9, hM1⟩ := hv
    subst hE9
    rw [hM1] at hm
    refine tc_catch (E := "java/lang/IllegalArgumentException") (name := "java/lang/IllegalArgumentException") hown [] ⟨0, 9, 12, 31⟩ [] (by rw [htab]; rfl) (fun z9 hz9 => by simp at hz9) (by decide) (by decide) (hts (.classLink RL 31 "java/lang/IllegalArgumentException") (by decide +kernel)) (hcx.dw _ (.castable "java/lang/IllegalArgumentException" "java/lang/IllegalArgumentException") (by decide +kernel)) hce hcv hcl ?_
    refine W.widen (k := 1) (n := 6) (Nat.le_of_ble_eq_true rfl) (Nat.le_of_ble_eq_true rfl) ?_
    refine W.eq (g2 := F0 m 12 ls [.ref q9]) rfl ?_
    refine lv_astore_n (lv' := [(3, .ref q9), (0, .ref o), (1, .int w), (2, .ref oa)]) hx hb dL_count_12 rfl hl (by decide) rfl (fun ls hl => ?_)
    refine lv_iconst (v := 1) hx hb dL_count_13 (by decide) ?_
    refine W.iret (v := 1) hx hb hr (fun t ht hW => ⟨⟨some (.int 1), _, rfl, ?_, by rw [ht]; exact hm⟩, hS.F ht⟩) hS.2.2 dL_count_14
    exact ⟨Or.inl ⟨hc9, rfl⟩, k2.refl _⟩
  obtain ⟨hc9, hv1, hM1⟩ := hv
  subst hv1
  rw [hM1] at hm
  refine W.eq (g2 := F0 m 7 ls [.int (cv w), .int 0, .ref oa]) rfl ?_
  refine W.widen (k := 1) (n := 6) (Nat.le_of_ble_eq_true rfl) (Nat.le_of_ble_eq_true rfl) ?_
  have hm : mm D (AZ z) M H := hm
  refine lv_i2l (v := ((cv w)).toInt64) hx hb dL_count_7 rfl ?_
  refine m_last hx hb hK hm hS 1 hoa rfl (by unfold vp_in; decide) dL_count_8 (fun H locs hm hS => ?_)
  have hm : mm D (AZ z) (mu M oa (.inl (k 1, 1, .inr (.inl (vp_updL g9 (0 : Int32).toNatClampNeg ((cv w)).toInt64))))) H := hm
  refine lv_goto (tgt := 15) hx hb dL_count_9 (by decide) ?_
  refine lv_iconst (v := 0) hx hb dL_count_15 (by decide) ?_
  refine W.iret (v := 0) hx hb hr (fun t ht hW => ⟨⟨some (.int 0), _, rfl, ?_, by rw [ht]; exact hm⟩, hS.F ht⟩) hS.2.2 dL_count_16
  exact ⟨Or.inr ⟨hc9, rfl, _, mu_self _ _ _, rfl⟩, (k2.refl _).long hoa⟩

set_option maxHeartbeats 4000000 in
set_option maxRecDepth 100000 in
theorem H_read (l : Launch) (hlt : l.stackTraces = false) (D : va_G) (k : Nat → ClassId) (z : Nat) (M : mM) (o oa : Nat) (g9 : Nat → Int64) (hF : cFr k M o) (hoa : M oa = some (.inl (k 1, 1, .inr (.inl g9)))) (t path i : Int32) : mKN l yL_read wsL_read ({ frames := 9, cells := 3, slots := 18, locals := 150 }) D k z [.ref o, .int t, .int path, .int i, .ref oa] M (fun v M' => ((t ≠ -1 ∧ v = some (.int 1)) ∨ (t = -1 ∧ ((¬ isP path ∧ v = some (.int 2)) ∨ (isP path ∧ path ≠ 0 ∧ v = some (.int 3)) ∨ (isP path ∧ path = 0 ∧ v = some (.int 4))))) ∧ k2 M M') := by
  refine tc_ofWH (cc := cL_read) (maxL := 6) (ret := (some .int)) (hh := [(0, 12, 15, 13), (0, 12, 19, 31), (0, 12, 23, 33), (0, 12, 27, 15), (0, 12, 31, 47)]) (by decide) rfl ?_
  intro p e s m args below meth c s₁ B hml hv
  obtain ⟨rfl, hz, hcxN, hm⟩ := hv
  have hcx := hcxN.1
  have hx := B.exec
  have hb := B.bytes
  have hr := B.returns
  have hts := atoms_spec (ws := wsL_read) B.pre
  have hown : s.vm.findClass RL = some m.cls := findClass_of_methodNamed B.named
  have hlocks := B.notSynchronized
  have hK := hcx.1
  have hS : va_S (AZ z) s.heap s.heap [] := va_S.rf
  have hA : ∀ q, s.heap.size ≤ q → AZ z q := fun q h => Nat.le_trans hz h
  have htab := vx_table (x := yL_read) B (hts (.codeWith yL_read cL_read 6 (some .int) [(0, 12, 15, 13), (0, 12, 19, 31), (0, 12, 23, 33), (0, 12, 27, 15), (0, 12, 31, 47)]) List.mem_cons_self)
  have hl := lv_entry ([.ref o, .int t, .int path, .int i, .ref oa]) (n := 6) (Nat.le_of_ble_eq_true rfl)
  rw [lg_entry_eq]
  generalize (lg_sl ([.ref o, .int t, .int path, .int i, .ref oa]) ++ List.replicate (6 - (lg_sl ([.ref o, .int t, .int path, .int i, .ref oa])).length) Slot.unset).toArray = ls at hl ⊢
  have hl : lv_has ls 6 [(0, .ref o), (1, .int t), (2, .int path), (3, .int i), (4, .ref oa)] := hl
  obtain ⟨tr, nx, mg, dk, ts, ou, tn, g0, gt, hO, hT, hD9, hTs, hXt, hOu⟩ := id hF
  refine lv_aload hx hb dL_read_0 (lv_at hl 4 rfl) ?_
  refine lv_iconst (v := 0) hx hb dL_read_2 (by decide) ?_
  refine lv_aload_n hx hb dL_read_3 rfl (lv_at hl 0 rfl) ?_
  refine lv_iload_n hx hb dL_read_4 rfl (lv_at hl 1 rfl) ?_
  refine lv_iload_n hx hb dL_read_5 rfl (lv_at hl 2 rfl) ?_
  refine lv_iload_n hx hb dL_read_6 rfl (lv_at hl 3 rfl) ?_
  refine m_cV (As := [.int t, .int path, .int i]) (rest := [.int 0, .ref oa]) (rm := { frames := 8, cells := 3, slots := 18, locals := 125 }) ⟨hx, hb, hml, hown, hts⟩ (F_read l hlt D k z _ o hF t path i) (cwV 3 hts gL_read_X5_read rfl rfl rfl (by decide +kernel) ⟨Nat.le_of_ble_eq_true rfl, Nat.le_of_ble_eq_true rfl⟩) (m_recv hK hm (q := (RX5, TX5, 11)) rfl hO) hz hcx hm hS rfl hl.1 rfl (Nat.le_of_ble_eq_true rfl) dL_read_7 ⟨Nat.le_of_ble_eq_true rfl, Nat.le_of_ble_eq_true rfl⟩ (fun E ce q9 M1 H locs hv hm hS hce hcv hcl => ?_) (fun v M1 H locs hv hm hS => ?_)
  · obtain ⟨hE9, hM1⟩ := hv
    rw [hM1] at hm
    rcases hE9 with ⟨ht9, hE9⟩ | ⟨ht9, ⟨hp9, hE9⟩ | ⟨hp9, h09, hE9⟩ | ⟨hp9, h09, hE9⟩⟩
    · subst hE9
      refine tc_catch (E := "java/lang/IllegalStateException") (name := "java/lang/IllegalStateException") hown [] ⟨0, 12, 15, 13⟩ [⟨0, 12, 19, 31⟩, ⟨0, 12, 23, 33⟩, ⟨0, 12, 27, 15⟩, ⟨0, 12, 31, 47⟩] (by rw [htab]; rfl) (fun z9 hz9 => by simp at hz9) (by decide) (by decide) (hts (.classLink RL 13 "java/lang/IllegalStateException") (by decide +kernel)) (hcx.dw _ (.castable "java/lang/IllegalStateException" "java/lang/IllegalStateException") (by decide +kernel)) hce hcv hcl ?_
      refine W.widen (k := 3) (n := 18) (Nat.le_of_ble_eq_true rfl) (Nat.le_of_ble_eq_true rfl) ?_
      refine W.eq (g2 := F0 m 15 ls [.ref q9]) rfl ?_
      refine lv_astore (lv' := [(5, .ref q9), (0, .ref o), (1, .int t), (2, .int path), (3, .int i), (4, .ref oa)]) hx hb dL_read_15 hl (by decide) rfl (fun ls hl => ?_)
      refine lv_iconst (v := 1) hx hb dL_read_17 (by decide) ?_
      refine W.iret (v := 1) hx hb hr (fun t ht hW => ⟨⟨some (.int 1), _, rfl, ?_, by rw [ht]; exact hm⟩, hS.F ht⟩) hS.2.2 dL_read_18
      first
        | exact ⟨Or.inl ⟨ht9, rfl⟩, k2.refl _⟩
        | exact ⟨Or.inr ⟨ht9, Or.inl ⟨hp9, rfl⟩⟩, k2.refl _⟩
        | exact ⟨Or.inr ⟨ht9, Or.inr (Or.inl ⟨hp9, h09, rfl⟩)⟩, k2.refl _⟩
        | exact ⟨Or.inr ⟨ht9, Or.inr (Or.inr ⟨hp9, h09, rfl⟩)⟩, k2.refl _⟩
    · subst hE9
      refine tc_catch (E := "java/lang/IllegalArgumentException") (name := "java/lang/IllegalArgumentException") hown [⟨0, 12, 15, 13⟩] ⟨0, 12, 19, 31⟩ [⟨0, 12, 23, 33⟩, ⟨0, 12, 27, 15⟩, ⟨0, 12, 31, 47⟩] (by rw [htab]; rfl) (fun z9 hz9 => by
          simp only [List.mem_cons, List.not_mem_nil, or_false] at hz9
          rcases hz9 with rfl
          · exact Or.inr ⟨by decide, "java/lang/IllegalStateException", hts (.classLink RL 13 "java/lang/IllegalStateException") (by decide +kernel), hcxN.2 ("java/lang/IllegalArgumentException", "java/lang/IllegalStateException") (by decide +kernel)⟩) (by decide) (by decide) (hts (.classLink RL 31 "java/lang/IllegalArgumentException") (by decide +kernel)) (hcx.dw _ (.castable "java/lang/IllegalArgumentException" "java/lang/IllegalArgumentException") (by decide +kernel)) hce hcv hcl ?_
      refine W.widen (k := 3) (n := 18) (Nat.le_of_ble_eq_true rfl) (Nat.le_of_ble_eq_true rfl) ?_
      refine W.eq (g2 := F0 m 19 ls [.ref q9]) rfl ?_
      refine lv_astore (lv' := [(5, .ref q9), (0, .ref o), (1, .int t), (2, .int path), (3, .int i), (4, .ref oa)]) hx hb dL_read_19 hl (by decide) rfl (fun ls hl => ?_)
      refine lv_iconst (v := 2) hx hb dL_read_21 (by decide) ?_
      refine W.iret (v := 2) hx hb hr (fun t ht hW => ⟨⟨some (.int 2), _, rfl, ?_, by rw [ht]; exact hm⟩, hS.F ht⟩) hS.2.2 dL_read_22
      first
        | exact ⟨Or.inl ⟨ht9, rfl⟩, k2.refl _⟩
        | exact ⟨Or.inr ⟨ht9, Or.inl ⟨hp9, rfl⟩⟩, k2.refl _⟩
        | exact ⟨Or.inr ⟨ht9, Or.inr (Or.inl ⟨hp9, h09, rfl⟩)⟩, k2.refl _⟩
        | exact ⟨Or.inr ⟨ht9, Or.inr (Or.inr ⟨hp9, h09, rfl⟩)⟩, k2.refl _⟩
    · subst hE9
      refine tc_catch (E := "java/util/NoSuchElementException") (name := "java/util/NoSuchElementException") hown [⟨0, 12, 15, 13⟩, ⟨0, 12, 19, 31⟩] ⟨0, 12, 23, 33⟩ [⟨0, 12, 27, 15⟩, ⟨0, 12, 31, 47⟩] (by rw [htab]; rfl) (fun z9 hz9 => by
          simp only [List.mem_cons, List.not_mem_nil, or_false] at hz9
          rcases hz9 with rfl | rfl
          · exact Or.inr ⟨by decide, "java/lang/IllegalStateException", hts (.classLink RL 13 "java/lang/IllegalStateException") (by decide +kernel), hcxN.2 ("java/util/NoSuchElementException", "java/lang/IllegalStateException") (by decide +kernel)⟩
          · exact Or.inr ⟨by decide, "java/lang/IllegalArgumentException", hts (.classLink RL 31 "java/lang/IllegalArgumentException") (by decide +kernel), hcxN.2 ("java/util/NoSuchElementException", "java/lang/IllegalArgumentException") (by decide +kernel)⟩) (by decide) (by decide) (hts (.classLink RL 33 "java/util/NoSuchElementException") (by decide +kernel)) (hcx.dw _ (.castable "java/util/NoSuchElementException" "java/util/NoSuchElementException") (by decide +kernel)) hce hcv hcl ?_
      refine W.widen (k := 3) (n := 18) (Nat.le_of_ble_eq_true rfl) (Nat.le_of_ble_eq_true rfl) ?_
      refine W.eq (g2 := F0 m 23 ls [.ref q9]) rfl ?_
      refine lv_astore (lv' := [(5, .ref q9), (0, .ref o), (1, .int t), (2, .int path), (3, .int i), (4, .ref oa)]) hx hb dL_read_23 hl (by decide) rfl (fun ls hl => ?_)
      refine lv_iconst (v := 3) hx hb dL_read_25 (by decide) ?_
      refine W.iret (v := 3) hx hb hr (fun t ht hW => ⟨⟨some (.int 3), _, rfl, ?_, by rw [ht]; exact hm⟩, hS.F ht⟩) hS.2.2 dL_read_26
      first
        | exact ⟨Or.inl ⟨ht9, rfl⟩, k2.refl _⟩
        | exact ⟨Or.inr ⟨ht9, Or.inl ⟨hp9, rfl⟩⟩, k2.refl _⟩
        | exact ⟨Or.inr ⟨ht9, Or.inr (Or.inl ⟨hp9, h09, rfl⟩)⟩, k2.refl _⟩
        | exact ⟨Or.inr ⟨ht9, Or.inr (Or.inr ⟨hp9, h09, rfl⟩)⟩, k2.refl _⟩
    · subst hE9
      refine tc_catch (E := "java/lang/UnsupportedOperationException") (name := "java/lang/UnsupportedOperationException") hown [⟨0, 12, 15, 13⟩, ⟨0, 12, 19, 31⟩, ⟨0, 12, 23, 33⟩] ⟨0, 12, 27, 15⟩ [⟨0, 12, 31, 47⟩] (by rw [htab]; rfl) (fun z9 hz9 => by
          simp only [List.mem_cons, List.not_mem_nil, or_false] at hz9
          rcases hz9 with rfl | rfl | rfl
          · exact Or.inr ⟨by decide, "java/lang/IllegalStateException", hts (.classLink RL 13 "java/lang/IllegalStateException") (by decide +kernel), hcxN.2 ("java/lang/UnsupportedOperationException", "java/lang/IllegalStateException") (by decide +kernel)⟩
          · exact Or.inr ⟨by decide, "java/lang/IllegalArgumentException", hts (.classLink RL 31 "java/lang/IllegalArgumentException") (by decide +kernel), hcxN.2 ("java/lang/UnsupportedOperationException", "java/lang/IllegalArgumentException") (by decide +kernel)⟩
          · exact Or.inr ⟨by decide, "java/util/NoSuchElementException", hts (.classLink RL 33 "java/util/NoSuchElementException") (by decide +kernel), hcxN.2 ("java/lang/UnsupportedOperationException", "java/util/NoSuchElementException") (by decide +kernel)⟩) (by decide) (by decide) (hts (.classLink RL 15 "java/lang/UnsupportedOperationException") (by decide +kernel)) (hcx.dw _ (.castable "java/lang/UnsupportedOperationException" "java/lang/UnsupportedOperationException") (by decide +kernel)) hce hcv hcl ?_
      refine W.widen (k := 3) (n := 18) (Nat.le_of_ble_eq_true rfl) (Nat.le_of_ble_eq_true rfl) ?_
      refine W.eq (g2 := F0 m 27 ls [.ref q9]) rfl ?_
      refine lv_astore (lv' := [(5, .ref q9), (0, .ref o), (1, .int t), (2, .int path), (3, .int i), (4, .ref oa)]) hx hb dL_read_27 hl (by decide) rfl (fun ls hl => ?_)
      refine lv_iconst (v := 4) hx hb dL_read_29 (by decide) ?_
      refine W.iret (v := 4) hx hb hr (fun t ht hW => ⟨⟨some (.int 4), _, rfl, ?_, by rw [ht]; exact hm⟩, hS.F ht⟩) hS.2.2 dL_read_30
      first
        | exact ⟨Or.inl ⟨ht9, rfl⟩, k2.refl _⟩
        | exact ⟨Or.inr ⟨ht9, Or.inl ⟨hp9, rfl⟩⟩, k2.refl _⟩
        | exact ⟨Or.inr ⟨ht9, Or.inr (Or.inl ⟨hp9, h09, rfl⟩)⟩, k2.refl _⟩
        | exact ⟨Or.inr ⟨ht9, Or.inr (Or.inr ⟨hp9, h09, rfl⟩)⟩, k2.refl _⟩
  exact hv.elim

set_option maxHeartbeats 4000000 in
set_option maxRecDepth 100000 in
theorem H_length (l : Launch) (hlt : l.stackTraces = false) (D : va_G) (k : Nat → ClassId) (z : Nat) (M : mM) (o oa : Nat) (g9 : Nat → Int64) (hF : cFr k M o) (hoa : M oa = some (.inl (k 1, 1, .inr (.inl g9)))) (t path : Int32) : mKN l yL_length wsL_length ({ frames := 9, cells := 3, slots := 18, locals := 147 }) D k z [.ref o, .int t, .int path, .ref oa] M (fun v M' => ((t ≠ -1 ∧ v = some (.int 1)) ∨ (t = -1 ∧ ((¬ isP path ∧ v = some (.int 2)) ∨ (isP path ∧ path ≠ 0 ∧ v = some (.int 3)) ∨ (isP path ∧ path = 0 ∧ v = some (.int 4))))) ∧ k2 M M') := by
  refine tc_ofWH (cc := cL_length) (maxL := 5) (ret := (some .int)) (hh := [(0, 10, 13, 13), (0, 10, 17, 31), (0, 10, 21, 33), (0, 10, 25, 15)]) (by decide) rfl ?_
  intro p e s m args below meth c s₁ B hml hv
  obtain ⟨rfl, hz, hcxN, hm⟩ := hv
  have hcx := hcxN.1
  have hx := B.exec
  have hb := B.bytes
  have hr := B.returns
  have hts := atoms_spec (ws := wsL_length) B.pre
  have hown : s.vm.findClass RL = some m.cls := findClass_of_methodNamed B.named
  have hlocks := B.notSynchronized
  have hK := hcx.1
  have hS : va_S (AZ z) s.heap s.heap [] := va_S.rf
  have hA : ∀ q, s.heap.size ≤ q → AZ z q := fun q h => Nat.le_trans hz h
  have htab := vx_table (x := yL_length) B (hts (.codeWith yL_length cL_length 5 (some .int) [(0, 10, 13, 13), (0, 10, 17, 31), (0, 10, 21, 33), (0, 10, 25, 15)]) List.mem_cons_self)
  have hl := lv_entry ([.ref o, .int t, .int path, .ref oa]) (n := 5) (Nat.le_of_ble_eq_true rfl)
  rw [lg_entry_eq]
  generalize (lg_sl ([.ref o, .int t, .int path, .ref oa]) ++ List.replicate (5 - (lg_sl ([.ref o, .int t, .int path, .ref oa])).length) Slot.unset).toArray = ls at hl ⊢
  have hl : lv_has ls 5 [(0, .ref o), (1, .int t), (2, .int path), (3, .ref oa)] := hl
  obtain ⟨tr, nx, mg, dk, ts, ou, tn, g0, gt, hO, hT, hD9, hTs, hXt, hOu⟩ := id hF
  refine lv_aload_n hx hb dL_length_0 rfl (lv_at hl 3 rfl) ?_
  refine lv_iconst (v := 0) hx hb dL_length_1 (by decide) ?_
  refine lv_aload_n hx hb dL_length_2 rfl (lv_at hl 0 rfl) ?_
  refine lv_iload_n hx hb dL_length_3 rfl (lv_at hl 1 rfl) ?_
  refine lv_iload_n hx hb dL_length_4 rfl (lv_at hl 2 rfl) ?_
  refine m_cV (As := [.int t, .int path]) (rest := [.int 0, .ref oa]) (rm := { frames := 8, cells := 3, slots := 18, locals := 125 }) ⟨hx, hb, hml, hown, hts⟩ (F_length l hlt D k z _ o hF t path) (cwV 2 hts gL_length_X5_length rfl rfl rfl (by decide +kernel) ⟨Nat.le_of_ble_eq_true rfl, Nat.le_of_ble_eq_true rfl⟩) (m_recv hK hm (q := (RX5, TX5, 11)) rfl hO) hz hcx hm hS rfl hl.1 rfl (Nat.le_of_ble_eq_true rfl) dL_length_5 ⟨Nat.le_of_ble_eq_true rfl, Nat.le_of_ble_eq_true rfl⟩ (fun E ce q9 M1 H locs hv hm hS hce hcv hcl => ?_) (fun v M1 H locs hv hm hS => ?_)
  · obtain ⟨hE9, hM1⟩ := hv
    rw [hM1] at hm
    rcases hE9 with ⟨ht9, hE9⟩ | ⟨ht9, ⟨hp9, hE9⟩ | ⟨hp9, h09, hE9⟩ | ⟨hp9, h09, hE9⟩⟩
    · subst hE9
      refine tc_catch (E := "java/lang/IllegalStateException") (name := "java/lang/IllegalStateException") hown [] ⟨0, 10, 13, 13⟩ [⟨0, 10, 17, 31⟩, ⟨0, 10, 21, 33⟩, ⟨0, 10, 25, 15⟩] (by rw [htab]; rfl) (fun z9 hz9 => by simp at hz9) (by decide) (by decide) (hts (.classLink RL 13 "java/lang/IllegalStateException") (by decide +kernel)) (hcx.dw _ (.castable "java/lang/IllegalStateException" "java/lang/IllegalStateException") (by decide +kernel)) hce hcv hcl ?_
      refine W.widen (k := 3) (n := 18) (Nat.le_of_ble_eq_true rfl) (Nat.le_of_ble_eq_true rfl) ?_
      refine W.eq (g2 := F0 m 13 ls [.ref q9]) rfl ?_
      refine lv_astore (lv' := [(4, .ref q9), (0, .ref o), (1, .int t), (2, .int path), (3, .ref oa)]) hx hb dL_length_13 hl (by decide) rfl (fun ls hl => ?_)
      refine lv_iconst (v := 1) hx hb dL_length_15 (by decide) ?_
      refine W.iret (v := 1) hx hb hr (fun t ht hW => ⟨⟨some (.int 1), _, rfl, ?_, by rw [ht]; exact hm⟩, hS.F ht⟩) hS.2.2 dL_length_16
      first
        | exact ⟨Or.inl ⟨ht9, rfl⟩, k2.refl _⟩
        | exact ⟨Or.inr ⟨ht9, Or.inl ⟨hp9, rfl⟩⟩, k2.refl _⟩
        | exact ⟨Or.inr ⟨ht9, Or.inr (Or.inl ⟨hp9, h09, rfl⟩)⟩, k2.refl _⟩
        | exact ⟨Or.inr ⟨ht9, Or.inr (Or.inr ⟨hp9, h09, rfl⟩)⟩, k2.refl _⟩
    · subst hE9
      refine tc_catch (E := "java/lang/IllegalArgumentException") (name := "java/lang/IllegalArgumentException") hown [⟨0, 10, 13, 13⟩] ⟨0, 10, 17, 31⟩ [⟨0, 10, 21, 33⟩, ⟨0, 10, 25, 15⟩] (by rw [htab]; rfl) (fun z9 hz9 => by
          simp only [List.mem_cons, List.not_mem_nil, or_false] at hz9
          rcases hz9 with rfl
          · exact Or.inr ⟨by decide, "java/lang/IllegalStateException", hts (.classLink RL 13 "java/lang/IllegalStateException") (by decide +kernel), hcxN.2 ("java/lang/IllegalArgumentException", "java/lang/IllegalStateException") (by decide +kernel)⟩) (by decide) (by decide) (hts (.classLink RL 31 "java/lang/IllegalArgumentException") (by decide +kernel)) (hcx.dw _ (.castable "java/lang/IllegalArgumentException" "java/lang/IllegalArgumentException") (by decide +kernel)) hce hcv hcl ?_
      refine W.widen (k := 3) (n := 18) (Nat.le_of_ble_eq_true rfl) (Nat.le_of_ble_eq_true rfl) ?_
      refine W.eq (g2 := F0 m 17 ls [.ref q9]) rfl ?_
      refine lv_astore (lv' := [(4, .ref q9), (0, .ref o), (1, .int t), (2, .int path), (3, .ref oa)]) hx hb dL_length_17 hl (by decide) rfl (fun ls hl => ?_)
      refine lv_iconst (v := 2) hx hb dL_length_19 (by decide) ?_
      refine W.iret (v := 2) hx hb hr (fun t ht hW => ⟨⟨some (.int 2), _, rfl, ?_, by rw [ht]; exact hm⟩, hS.F ht⟩) hS.2.2 dL_length_20
      first
        | exact ⟨Or.inl ⟨ht9, rfl⟩, k2.refl _⟩
        | exact ⟨Or.inr ⟨ht9, Or.inl ⟨hp9, rfl⟩⟩, k2.refl _⟩
        | exact ⟨Or.inr ⟨ht9, Or.inr (Or.inl ⟨hp9, h09, rfl⟩)⟩, k2.refl _⟩
        | exact ⟨Or.inr ⟨ht9, Or.inr (Or.inr ⟨hp9, h09, rfl⟩)⟩, k2.refl _⟩
    · subst hE9
      refine tc_catch (E := "java/util/NoSuchElementException") (name := "java/util/NoSuchElementException") hown [⟨0, 10, 13, 13⟩, ⟨0, 10, 17, 31⟩] ⟨0, 10, 21, 33⟩ [⟨0, 10, 25, 15⟩] (by rw [htab]; rfl) (fun z9 hz9 => by
          simp only [List.mem_cons, List.not_mem_nil, or_false] at hz9
          rcases hz9 with rfl | rfl
          · exact Or.inr ⟨by decide, "java/lang/IllegalStateException", hts (.classLink RL 13 "java/lang/IllegalStateException") (by decide +kernel), hcxN.2 ("java/util/NoSuchElementException", "java/lang/IllegalStateException") (by decide +kernel)⟩
          · exact Or.inr ⟨by decide, "java/lang/IllegalArgumentException", hts (.classLink RL 31 "java/lang/IllegalArgumentException") (by decide +kernel), hcxN.2 ("java/util/NoSuchElementException", "java/lang/IllegalArgumentException") (by decide +kernel)⟩) (by decide) (by decide) (hts (.classLink RL 33 "java/util/NoSuchElementException") (by decide +kernel)) (hcx.dw _ (.castable "java/util/NoSuchElementException" "java/util/NoSuchElementException") (by decide +kernel)) hce hcv hcl ?_
      refine W.widen (k := 3) (n := 18) (Nat.le_of_ble_eq_true rfl) (Nat.le_of_ble_eq_true rfl) ?_
      refine W.eq (g2 := F0 m 21 ls [.ref q9]) rfl ?_
      refine lv_astore (lv' := [(4, .ref q9), (0, .ref o), (1, .int t), (2, .int path), (3, .ref oa)]) hx hb dL_length_21 hl (by decide) rfl (fun ls hl => ?_)
      refine lv_iconst (v := 3) hx hb dL_length_23 (by decide) ?_
      refine W.iret (v := 3) hx hb hr (fun t ht hW => ⟨⟨some (.int 3), _, rfl, ?_, by rw [ht]; exact hm⟩, hS.F ht⟩) hS.2.2 dL_length_24
      first
        | exact ⟨Or.inl ⟨ht9, rfl⟩, k2.refl _⟩
        | exact ⟨Or.inr ⟨ht9, Or.inl ⟨hp9, rfl⟩⟩, k2.refl _⟩
        | exact ⟨Or.inr ⟨ht9, Or.inr (Or.inl ⟨hp9, h09, rfl⟩)⟩, k2.refl _⟩
        | exact ⟨Or.inr ⟨ht9, Or.inr (Or.inr ⟨hp9, h09, rfl⟩)⟩, k2.refl _⟩
    · subst hE9
      refine tc_catch (E := "java/lang/UnsupportedOperationException") (name := "java/lang/UnsupportedOperationException") hown [⟨0, 10, 13, 13⟩, ⟨0, 10, 17, 31⟩, ⟨0, 10, 21, 33⟩] ⟨0, 10, 25, 15⟩ [] (by rw [htab]; rfl) (fun z9 hz9 => by
          simp only [List.mem_cons, List.not_mem_nil, or_false] at hz9
          rcases hz9 with rfl | rfl | rfl
          · exact Or.inr ⟨by decide, "java/lang/IllegalStateException", hts (.classLink RL 13 "java/lang/IllegalStateException") (by decide +kernel), hcxN.2 ("java/lang/UnsupportedOperationException", "java/lang/IllegalStateException") (by decide +kernel)⟩
          · exact Or.inr ⟨by decide, "java/lang/IllegalArgumentException", hts (.classLink RL 31 "java/lang/IllegalArgumentException") (by decide +kernel), hcxN.2 ("java/lang/UnsupportedOperationException", "java/lang/IllegalArgumentException") (by decide +kernel)⟩
          · exact Or.inr ⟨by decide, "java/util/NoSuchElementException", hts (.classLink RL 33 "java/util/NoSuchElementException") (by decide +kernel), hcxN.2 ("java/lang/UnsupportedOperationException", "java/util/NoSuchElementException") (by decide +kernel)⟩) (by decide) (by decide) (hts (.classLink RL 15 "java/lang/UnsupportedOperationException") (by decide +kernel)) (hcx.dw _ (.castable "java/lang/UnsupportedOperationException" "java/lang/UnsupportedOperationException") (by decide +kernel)) hce hcv hcl ?_
      refine W.widen (k := 3) (n := 18) (Nat.le_of_ble_eq_true rfl) (Nat.le_of_ble_eq_true rfl) ?_
      refine W.eq (g2 := F0 m 25 ls [.ref q9]) rfl ?_
      refine lv_astore (lv' := [(4, .ref q9), (0, .ref o), (1, .int t), (2, .int path), (3, .ref oa)]) hx hb dL_length_25 hl (by decide) rfl (fun ls hl => ?_)
      refine lv_iconst (v := 4) hx hb dL_length_27 (by decide) ?_
      refine W.iret (v := 4) hx hb hr (fun t ht hW => ⟨⟨some (.int 4), _, rfl, ?_, by rw [ht]; exact hm⟩, hS.F ht⟩) hS.2.2 dL_length_28
      first
        | exact ⟨Or.inl ⟨ht9, rfl⟩, k2.refl _⟩
        | exact ⟨Or.inr ⟨ht9, Or.inl ⟨hp9, rfl⟩⟩, k2.refl _⟩
        | exact ⟨Or.inr ⟨ht9, Or.inr (Or.inl ⟨hp9, h09, rfl⟩)⟩, k2.refl _⟩
        | exact ⟨Or.inr ⟨ht9, Or.inr (Or.inr ⟨hp9, h09, rfl⟩)⟩, k2.refl _⟩
  exact hv.elim

set_option maxHeartbeats 4000000 in
set_option maxRecDepth 100000 in
theorem H_kind (l : Launch) (hlt : l.stackTraces = false) (D : va_G) (k : Nat → ClassId) (z : Nat) (M : mM) (o oa : Nat) (g9 : Nat → Int64) (hF : cFr k M o) (hoa : M oa = some (.inl (k 1, 1, .inr (.inl g9)))) (t path : Int32) : mKN l yL_kind wsL_kind ({ frames := 9, cells := 2, slots := 12, locals := 149 }) D k z [.ref o, .int t, .int path, .ref oa] M (fun v M' => ((t ≠ -1 ∧ v = some (.int 1)) ∨ (t = -1 ∧ ((¬ isP path ∧ v = some (.int 2)) ∨ (isP path ∧ path = 0 ∧ v = some (.int 0) ∧ outIs k M' oa 1) ∨ (isP path ∧ path ≠ 0 ∧ v = some (.int 0) ∧ outIs k M' oa 0)))) ∧ k2 M M') := by
  refine tc_ofWH (cc := cL_kind) (maxL := 5) (ret := (some .int)) (hh := [(0, 10, 13, 13), (0, 10, 17, 31)]) (by decide) rfl ?_
  intro p e s m args below meth c s₁ B hml hv
  obtain ⟨rfl, hz, hcxN, hm⟩ := hv
  have hcx := hcxN.1
  have hx := B.exec
  have hb := B.bytes
  have hr := B.returns
  have hts := atoms_spec (ws := wsL_kind) B.pre
  have hown : s.vm.findClass RL = some m.cls := findClass_of_methodNamed B.named
  have hlocks := B.notSynchronized
  have hK := hcx.1
  have hS : va_S (AZ z) s.heap s.heap [] := va_S.rf
  have hA : ∀ q, s.heap.size ≤ q → AZ z q := fun q h => Nat.le_trans hz h
  have htab := vx_table (x := yL_kind) B (hts (.codeWith yL_kind cL_kind 5 (some .int) [(0, 10, 13, 13), (0, 10, 17, 31)]) List.mem_cons_self)
  have hl := lv_entry ([.ref o, .int t, .int path, .ref oa]) (n := 5) (Nat.le_of_ble_eq_true rfl)
  rw [lg_entry_eq]
  generalize (lg_sl ([.ref o, .int t, .int path, .ref oa]) ++ List.replicate (5 - (lg_sl ([.ref o, .int t, .int path, .ref oa])).length) Slot.unset).toArray = ls at hl ⊢
  have hl : lv_has ls 5 [(0, .ref o), (1, .int t), (2, .int path), (3, .ref oa)] := hl
  obtain ⟨tr, nx, mg, dk, ts, ou, tn, g0, gt, hO, hT, hD9, hTs, hXt, hOu⟩ := id hF
  refine lv_aload_n hx hb dL_kind_0 rfl (lv_at hl 3 rfl) ?_
  refine lv_iconst (v := 0) hx hb dL_kind_1 (by decide) ?_
  refine lv_aload_n hx hb dL_kind_2 rfl (lv_at hl 0 rfl) ?_
  refine lv_iload_n hx hb dL_kind_3 rfl (lv_at hl 1 rfl) ?_
  refine lv_iload_n hx hb dL_kind_4 rfl (lv_at hl 2 rfl) ?_
  refine m_cV (As := [.int t, .int path]) (rest := [.int 0, .ref oa]) (rm := { frames := 8, cells := 2, slots := 12, locals := 125 }) ⟨hx, hb, hml, hown, hts⟩ (F_kind l hlt D k z _ o hF t path) (cwV 2 hts gL_kind_X5_kind rfl rfl rfl (by decide +kernel) ⟨Nat.le_of_ble_eq_true rfl, Nat.le_of_ble_eq_true rfl⟩) (m_recv hK hm (q := (RX5, TX5, 11)) rfl hO) hz hcx hm hS rfl hl.1 rfl (Nat.le_of_ble_eq_true rfl) dL_kind_5 ⟨Nat.le_of_ble_eq_true rfl, Nat.le_of_ble_eq_true rfl⟩ (fun E ce q9 M1 H locs hv hm hS hce hcv hcl => ?_) (fun v M1 H locs hv hm hS => ?_)
  · obtain ⟨hE9, hM1⟩ := hv
    rw [hM1] at hm
    rcases hE9 with ⟨ht9, hE9⟩ | ⟨ht9, hp9, hE9⟩
    · subst hE9
      refine tc_catch (E := "java/lang/IllegalStateException") (name := "java/lang/IllegalStateException") hown [] ⟨0, 10, 13, 13⟩ [⟨0, 10, 17, 31⟩] (by rw [htab]; rfl) (fun z9 hz9 => by simp at hz9) (by decide) (by decide) (hts (.classLink RL 13 "java/lang/IllegalStateException") (by decide +kernel)) (hcx.dw _ (.castable "java/lang/IllegalStateException" "java/lang/IllegalStateException") (by decide +kernel)) hce hcv hcl ?_
      refine W.widen (k := 2) (n := 12) (Nat.le_of_ble_eq_true rfl) (Nat.le_of_ble_eq_true rfl) ?_
      refine W.eq (g2 := F0 m 13 ls [.ref q9]) rfl ?_
      refine lv_astore (lv' := [(4, .ref q9), (0, .ref o), (1, .int t), (2, .int path), (3, .ref oa)]) hx hb dL_kind_13 hl (by decide) rfl (fun ls hl => ?_)
      refine lv_iconst (v := 1) hx hb dL_kind_15 (by decide) ?_
      refine W.iret (v := 1) hx hb hr (fun t ht hW => ⟨⟨some (.int 1), _, rfl, ?_, by rw [ht]; exact hm⟩, hS.F ht⟩) hS.2.2 dL_kind_16
      first
        | exact ⟨Or.inl ⟨ht9, rfl⟩, k2.refl _⟩
        | exact ⟨Or.inr ⟨ht9, Or.inl ⟨hp9, rfl⟩⟩, k2.refl _⟩
        | exact ⟨Or.inr ⟨ht9, Or.inr (Or.inl ⟨hp9, h09, rfl⟩)⟩, k2.refl _⟩
        | exact ⟨Or.inr ⟨ht9, Or.inr (Or.inr ⟨hp9, h09, rfl⟩)⟩, k2.refl _⟩
    · subst hE9
      refine tc_catch (E := "java/lang/IllegalArgumentException") (name := "java/lang/IllegalArgumentException") hown [⟨0, 10, 13, 13⟩] ⟨0, 10, 17, 31⟩ [] (by rw [htab]; rfl) (fun z9 hz9 => by
          simp only [List.mem_cons, List.not_mem_nil, or_false] at hz9
          rcases hz9 with rfl
          · exact Or.inr ⟨by decide, "java/lang/IllegalStateException", hts (.classLink RL 13 "java/lang/IllegalStateException") (by decide +kernel), hcxN.2 ("java/lang/IllegalArgumentException", "java/lang/IllegalStateException") (by decide +kernel)⟩) (by decide) (by decide) (hts (.classLink RL 31 "java/lang/IllegalArgumentException") (by decide +kernel)) (hcx.dw _ (.castable "java/lang/IllegalArgumentException" "java/lang/IllegalArgumentException") (by decide +kernel)) hce hcv hcl ?_
      refine W.widen (k := 2) (n := 12) (Nat.le_of_ble_eq_true rfl) (Nat.le_of_ble_eq_true rfl) ?_
      refine W.eq (g2 := F0 m 17 ls [.ref q9]) rfl ?_
      refine lv_astore (lv' := [(4, .ref q9), (0, .ref o), (1, .int t), (2, .int path), (3, .ref oa)]) hx hb dL_kind_17 hl (by decide) rfl (fun ls hl => ?_)
      refine lv_iconst (v := 2) hx hb dL_kind_19 (by decide) ?_
      refine W.iret (v := 2) hx hb hr (fun t ht hW => ⟨⟨some (.int 2), _, rfl, ?_, by rw [ht]; exact hm⟩, hS.F ht⟩) hS.2.2 dL_kind_20
      first
        | exact ⟨Or.inl ⟨ht9, rfl⟩, k2.refl _⟩
        | exact ⟨Or.inr ⟨ht9, Or.inl ⟨hp9, rfl⟩⟩, k2.refl _⟩
        | exact ⟨Or.inr ⟨ht9, Or.inr (Or.inl ⟨hp9, h09, rfl⟩)⟩, k2.refl _⟩
        | exact ⟨Or.inr ⟨ht9, Or.inr (Or.inr ⟨hp9, h09, rfl⟩)⟩, k2.refl _⟩
  obtain ⟨⟨ht9, hp9, hv2⟩, hM1⟩ := hv
  rw [hM1] at hm
  rcases hv2 with ⟨h09, hv1⟩ | ⟨h09, hv1⟩
  · subst hv1
    refine W.eq (g2 := F0 m 8 ls [.int 1, .int 0, .ref oa]) rfl ?_
    refine W.widen (k := 2) (n := 12) (Nat.le_of_ble_eq_true rfl) (Nat.le_of_ble_eq_true rfl) ?_
    have hm : mm D (AZ z) M H := hm
    refine lv_i2l (v := (1).toInt64) hx hb dL_kind_8 rfl ?_
    refine m_last hx hb hK hm hS 1 hoa rfl (by unfold vp_in; decide) dL_kind_9 (fun H locs hm hS => ?_)
    have hm : mm D (AZ z) (mu M oa (.inl (k 1, 1, .inr (.inl (vp_updL g9 (0 : Int32).toNatClampNeg (1).toInt64))))) H := hm
    refine lv_goto (tgt := 21) hx hb dL_kind_10 (by decide) ?_
    refine lv_iconst (v := 0) hx hb dL_kind_21 (by decide) ?_
    refine W.iret (v := 0) hx hb hr (fun t ht hW => ⟨⟨some (.int 0), _, rfl, ?_, by rw [ht]; exact hm⟩, hS.F ht⟩) hS.2.2 dL_kind_22
    first
      | exact ⟨Or.inr ⟨ht9, Or.inr (Or.inl ⟨hp9, h09, rfl, _, mu_self _ _ _, rfl⟩)⟩, (k2.refl _).long hoa⟩
      | exact ⟨Or.inr ⟨ht9, Or.inr (Or.inr ⟨hp9, h09, rfl, _, mu_self _ _ _, rfl⟩)⟩, (k2.refl _).long hoa⟩
  · subst hv1
    refine W.eq (g2 := F0 m 8 ls [.int 0, .int 0, .ref oa]) rfl ?_
    refine W.widen (k := 2) (n := 12) (Nat.le_of_ble_eq_true rfl) (Nat.le_of_ble_eq_true rfl) ?_
    have hm : mm D (AZ z) M H := hm
    refine lv_i2l (v := (0).toInt64) hx hb dL_kind_8 rfl ?_
    refine m_last hx hb hK hm hS 1 hoa rfl (by unfold vp_in; decide) dL_kind_9 (fun H locs hm hS => ?_)
    have hm : mm D (AZ z) (mu M oa (.inl (k 1, 1, .inr (.inl (vp_updL g9 (0 : Int32).toNatClampNeg (0).toInt64))))) H := hm
    refine lv_goto (tgt := 21) hx hb dL_kind_10 (by decide) ?_
    refine lv_iconst (v := 0) hx hb dL_kind_21 (by decide) ?_
    refine W.iret (v := 0) hx hb hr (fun t ht hW => ⟨⟨some (.int 0), _, rfl, ?_, by rw [ht]; exact hm⟩, hS.F ht⟩) hS.2.2 dL_kind_22
    first
      | exact ⟨Or.inr ⟨ht9, Or.inr (Or.inl ⟨hp9, h09, rfl, _, mu_self _ _ _, rfl⟩)⟩, (k2.refl _).long hoa⟩
      | exact ⟨Or.inr ⟨ht9, Or.inr (Or.inr ⟨hp9, h09, rfl, _, mu_self _ _ _, rfl⟩)⟩, (k2.refl _).long hoa⟩

set_option maxHeartbeats 4000000 in
set_option maxRecDepth 100000 in
theorem H_list (l : Launch) (hlt : l.stackTraces = false) (D : va_G) (k : Nat → ClassId) (z : Nat) (M : mM) (o oa : Nat) (g9 : Nat → Int64) (hF : cFr k M o) (hoa : M oa = some (.inl (k 1, 1, .inr (.inl g9)))) (t path : Int32) : mKN l yL_list wsL_list ({ frames := 9, cells := 3, slots := 18, locals := 149 }) D k z [.ref o, .int t, .int path, .ref oa] M (fun v M' => ((t ≠ -1 ∧ v = some (.int 1)) ∨ (t = -1 ∧ ((¬ isP path ∧ v = some (.int 2)) ∨ (isP path ∧ path ≠ 0 ∧ v = some (.int 3)) ∨ (isP path ∧ path = 0 ∧ v = some (.int 0) ∧ outIs k M' oa 0)))) ∧ k2 M M') := by
  refine tc_ofWH (cc := cL_list) (maxL := 5) (ret := (some .int)) (hh := [(0, 10, 13, 13), (0, 10, 17, 31), (0, 10, 21, 33), (0, 10, 25, 15)]) (by decide) rfl ?_
  intro p e s m args below meth c s₁ B hml hv
  obtain ⟨rfl, hz, hcxN, hm⟩ := hv
  have hcx := hcxN.1
  have hx := B.exec
  have hb := B.bytes
  have hr := B.returns
  have hts := atoms_spec (ws := wsL_list) B.pre
  have hown : s.vm.findClass RL = some m.cls := findClass_of_methodNamed B.named
  have hlocks := B.notSynchronized
  have hK := hcx.1
  have hS : va_S (AZ z) s.heap s.heap [] := va_S.rf
  have hA : ∀ q, s.heap.size ≤ q → AZ z q := fun q h => Nat.le_trans hz h
  have htab := vx_table (x := yL_list) B (hts (.codeWith yL_list cL_list 5 (some .int) [(0, 10, 13, 13), (0, 10, 17, 31), (0, 10, 21, 33), (0, 10, 25, 15)]) List.mem_cons_self)
  have hl := lv_entry ([.ref o, .int t, .int path, .ref oa]) (n := 5) (Nat.le_of_ble_eq_true rfl)
  rw [lg_entry_eq]
  generalize (lg_sl ([.ref o, .int t, .int path, .ref oa]) ++ List.replicate (5 - (lg_sl ([.ref o, .int t, .int path, .ref oa])).length) Slot.unset).toArray = ls at hl ⊢
  have hl : lv_has ls 5 [(0, .ref o), (1, .int t), (2, .int path), (3, .ref oa)] := hl
  obtain ⟨tr, nx, mg, dk, ts, ou, tn, g0, gt, hO, hT, hD9, hTs, hXt, hOu⟩ := id hF
  refine lv_aload_n hx hb dL_list_0 rfl (lv_at hl 3 rfl) ?_
  refine lv_iconst (v := 0) hx hb dL_list_1 (by decide) ?_
  refine lv_aload_n hx hb dL_list_2 rfl (lv_at hl 0 rfl) ?_
  refine lv_iload_n hx hb dL_list_3 rfl (lv_at hl 1 rfl) ?_
  refine lv_iload_n hx hb dL_list_4 rfl (lv_at hl 2 rfl) ?_
  refine m_cV (As := [.int t, .int path]) (rest := [.int 0, .ref oa]) (rm := { frames := 8, cells := 3, slots := 18, locals := 125 }) ⟨hx, hb, hml, hown, hts⟩ (F_list l hlt D k z _ o hF t path) (cwV 2 hts gL_list_X5_list rfl rfl rfl (by decide +kernel) ⟨Nat.le_of_ble_eq_true rfl, Nat.le_of_ble_eq_true rfl⟩) (m_recv hK hm (q := (RX5, TX5, 11)) rfl hO) hz hcx hm hS rfl hl.1 rfl (Nat.le_of_ble_eq_true rfl) dL_list_5 ⟨Nat.le_of_ble_eq_true rfl, Nat.le_of_ble_eq_true rfl⟩ (fun E ce q9 M1 H locs hv hm hS hce hcv hcl => ?_) (fun v M1 H locs hv hm hS => ?_)
  · obtain ⟨hE9, hM1⟩ := hv
    rw [hM1] at hm
    rcases hE9 with ⟨ht9, hE9⟩ | ⟨ht9, ⟨hp9, hE9⟩ | ⟨hp9, h09, hE9⟩⟩
    · subst hE9
      refine tc_catch (E := "java/lang/IllegalStateException") (name := "java/lang/IllegalStateException") hown [] ⟨0, 10, 13, 13⟩ [⟨0, 10, 17, 31⟩, ⟨0, 10, 21, 33⟩, ⟨0, 10, 25, 15⟩] (by rw [htab]; rfl) (fun z9 hz9 => by simp at hz9) (by decide) (by decide) (hts (.classLink RL 13 "java/lang/IllegalStateException") (by decide +kernel)) (hcx.dw _ (.castable "java/lang/IllegalStateException" "java/lang/IllegalStateException") (by decide +kernel)) hce hcv hcl ?_
      refine W.widen (k := 3) (n := 18) (Nat.le_of_ble_eq_true rfl) (Nat.le_of_ble_eq_true rfl) ?_
      refine W.eq (g2 := F0 m 13 ls [.ref q9]) rfl ?_
      refine lv_astore (lv' := [(4, .ref q9), (0, .ref o), (1, .int t), (2, .int path), (3, .ref oa)]) hx hb dL_list_13 hl (by decide) rfl (fun ls hl => ?_)
      refine lv_iconst (v := 1) hx hb dL_list_15 (by decide) ?_
      refine W.iret (v := 1) hx hb hr (fun t ht hW => ⟨⟨some (.int 1), _, rfl, ?_, by rw [ht]; exact hm⟩, hS.F ht⟩) hS.2.2 dL_list_16
      first
        | exact ⟨Or.inl ⟨ht9, rfl⟩, k2.refl _⟩
        | exact ⟨Or.inr ⟨ht9, Or.inl ⟨hp9, rfl⟩⟩, k2.refl _⟩
        | exact ⟨Or.inr ⟨ht9, Or.inr (Or.inl ⟨hp9, h09, rfl⟩)⟩, k2.refl _⟩
        | exact ⟨Or.inr ⟨ht9, Or.inr (Or.inr ⟨hp9, h09, rfl⟩)⟩, k2.refl _⟩
    · subst hE9
      refine tc_catch (E := "java/lang/IllegalArgumentException") (name := "java/lang/IllegalArgumentException") hown [⟨0, 10, 13, 13⟩] ⟨0, 10, 17, 31⟩ [⟨0, 10, 21, 33⟩, ⟨0, 10, 25, 15⟩] (by rw [htab]; rfl) (fun z9 hz9 => by
          simp only [List.mem_cons, List.not_mem_nil, or_false] at hz9
          rcases hz9 with rfl
          · exact Or.inr ⟨by decide, "java/lang/IllegalStateException", hts (.classLink RL 13 "java/lang/IllegalStateException") (by decide +kernel), hcxN.2 ("java/lang/IllegalArgumentException", "java/lang/IllegalStateException") (by decide +kernel)⟩) (by decide) (by decide) (hts (.classLink RL 31 "java/lang/IllegalArgumentException") (by decide +kernel)) (hcx.dw _ (.castable "java/lang/IllegalArgumentException" "java/lang/IllegalArgumentException") (by decide +kernel)) hce hcv hcl ?_
      refine W.widen (k := 3) (n := 18) (Nat.le_of_ble_eq_true rfl) (Nat.le_of_ble_eq_true rfl) ?_
      refine W.eq (g2 := F0 m 17 ls [.ref q9]) rfl ?_
      refine lv_astore (lv' := [(4, .ref q9), (0, .ref o), (1, .int t), (2, .int path), (3, .ref oa)]) hx hb dL_list_17 hl (by decide) rfl (fun ls hl => ?_)
      refine lv_iconst (v := 2) hx hb dL_list_19 (by decide) ?_
      refine W.iret (v := 2) hx hb hr (fun t ht hW => ⟨⟨some (.int 2), _, rfl, ?_, by rw [ht]; exact hm⟩, hS.F ht⟩) hS.2.2 dL_list_20
      first
        | exact ⟨Or.inl ⟨ht9, rfl⟩, k2.refl _⟩
        | exact ⟨Or.inr ⟨ht9, Or.inl ⟨hp9, rfl⟩⟩, k2.refl _⟩
        | exact ⟨Or.inr ⟨ht9, Or.inr (Or.inl ⟨hp9, h09, rfl⟩)⟩, k2.refl _⟩
        | exact ⟨Or.inr ⟨ht9, Or.inr (Or.inr ⟨hp9, h09, rfl⟩)⟩, k2.refl _⟩
    · subst hE9
      refine tc_catch (E := "java/util/NoSuchElementException") (name := "java/util/NoSuchElementException") hown [⟨0, 10, 13, 13⟩, ⟨0, 10, 17, 31⟩] ⟨0, 10, 21, 33⟩ [⟨0, 10, 25, 15⟩] (by rw [htab]; rfl) (fun z9 hz9 => by
          simp only [List.mem_cons, List.not_mem_nil, or_false] at hz9
          rcases hz9 with rfl | rfl
          · exact Or.inr ⟨by decide, "java/lang/IllegalStateException", hts (.classLink RL 13 "java/lang/IllegalStateException") (by decide +kernel), hcxN.2 ("java/util/NoSuchElementException", "java/lang/IllegalStateException") (by decide +kernel)⟩
          · exact Or.inr ⟨by decide, "java/lang/IllegalArgumentException", hts (.classLink RL 31 "java/lang/IllegalArgumentException") (by decide +kernel), hcxN.2 ("java/util/NoSuchElementException", "java/lang/IllegalArgumentException") (by decide +kernel)⟩) (by decide) (by decide) (hts (.classLink RL 33 "java/util/NoSuchElementException") (by decide +kernel)) (hcx.dw _ (.castable "java/util/NoSuchElementException" "java/util/NoSuchElementException") (by decide +kernel)) hce hcv hcl ?_
      refine W.widen (k := 3) (n := 18) (Nat.le_of_ble_eq_true rfl) (Nat.le_of_ble_eq_true rfl) ?_
      refine W.eq (g2 := F0 m 21 ls [.ref q9]) rfl ?_
      refine lv_astore (lv' := [(4, .ref q9), (0, .ref o), (1, .int t), (2, .int path), (3, .ref oa)]) hx hb dL_list_21 hl (by decide) rfl (fun ls hl => ?_)
      refine lv_iconst (v := 3) hx hb dL_list_23 (by decide) ?_
      refine W.iret (v := 3) hx hb hr (fun t ht hW => ⟨⟨some (.int 3), _, rfl, ?_, by rw [ht]; exact hm⟩, hS.F ht⟩) hS.2.2 dL_list_24
      first
        | exact ⟨Or.inl ⟨ht9, rfl⟩, k2.refl _⟩
        | exact ⟨Or.inr ⟨ht9, Or.inl ⟨hp9, rfl⟩⟩, k2.refl _⟩
        | exact ⟨Or.inr ⟨ht9, Or.inr (Or.inl ⟨hp9, h09, rfl⟩)⟩, k2.refl _⟩
        | exact ⟨Or.inr ⟨ht9, Or.inr (Or.inr ⟨hp9, h09, rfl⟩)⟩, k2.refl _⟩
  obtain ⟨⟨ht9, hp9, h09, hv1⟩, hM1⟩ := hv
  rw [hM1] at hm
  subst hv1
  refine W.eq (g2 := F0 m 8 ls [.int 0, .int 0, .ref oa]) rfl ?_
  refine W.widen (k := 3) (n := 18) (Nat.le_of_ble_eq_true rfl) (Nat.le_of_ble_eq_true rfl) ?_
  have hm : mm D (AZ z) M H := hm
  refine lv_i2l (v := (0).toInt64) hx hb dL_list_8 rfl ?_
  refine m_last hx hb hK hm hS 1 hoa rfl (by unfold vp_in; decide) dL_list_9 (fun H locs hm hS => ?_)
  have hm : mm D (AZ z) (mu M oa (.inl (k 1, 1, .inr (.inl (vp_updL g9 (0 : Int32).toNatClampNeg (0).toInt64))))) H := hm
  refine lv_goto (tgt := 29) hx hb dL_list_10 (by decide) ?_
  refine lv_iconst (v := 0) hx hb dL_list_29 (by decide) ?_
  refine W.iret (v := 0) hx hb hr (fun t ht hW => ⟨⟨some (.int 0), _, rfl, ?_, by rw [ht]; exact hm⟩, hS.F ht⟩) hS.2.2 dL_list_30
  exact ⟨Or.inr ⟨ht9, Or.inr (Or.inr ⟨hp9, h09, rfl, _, mu_self _ _ _, rfl⟩)⟩, (k2.refl _).long hoa⟩
