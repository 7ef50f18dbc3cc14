/-- the one word of out -/
def outIs (k : Nat → ClassId) (M : mM) (oa : Nat) (x : Int64) : Prop := ∃ g, M oa = some (.inl (k 1, 1, .inr (.inl g))) ∧ g 0 = x
theorem G_count (l : Launch) (hlt : l.stackTraces = false) (D : va_G) (k : Nat → ClassId) (z : Nat) (M : mM) (o : Nat) (hF : cFr k M o) (w : Int32) : mC l yX5_count wsX5_count ({ frames := 6, cells := 1, slots := 6, locals := 82 }) D k z [.ref o, .int w] M (fun v M' => (¬ w < 0 ∧ w ≤ 5) ∧ v = some (.int (cv w)) ∧ M' = M) (fun E M' => (w < 0 ∨ ¬ w ≤ 5) ∧ E = eIA ∧ M' = M) := by
  have hi : ∀ n : Int32, w.toInt = n.toInt → w = n := fun n h => Int32.toInt_inj.mp h
  refine (F_count l hlt D k z M o hF w).imp ?_ ?_
  · rintro v M' ⟨h, hM⟩
    rcases h with ⟨h1, h2⟩ | ⟨h1, h2⟩ | ⟨h1, h2⟩ | ⟨h1, h2⟩ | ⟨h1, h2⟩ | ⟨h1, h2⟩
    · have := hi 0 h1; subst this; exact ⟨by decide, h2, hM⟩
    · have := hi 1 h1; subst this; exact ⟨by decide, h2, hM⟩
    · have := hi 2 h1; subst this; exact ⟨by decide, h2, hM⟩
    · have := hi 3 h1; subst this; exact ⟨by decide, h2, hM⟩
    · have := hi 4 h1; subst this; exact ⟨by decide, h2, hM⟩
    · have := hi 5 h1; subst this; exact ⟨by decide, h2, hM⟩
  · rintro E M' ⟨h, h2, hM⟩
    refine ⟨?_, h2, hM⟩
    rcases h with h | h
    · exact Or.inl (Int32.lt_iff_toInt_lt.mpr h)
    · exact Or.inr (fun q => absurd (Int32.le_iff_toInt_le.mp q) (Int.not_le.mpr h))

set_option maxHeartbeats 4000000 in
set_option maxRecDepth 100000 in
theorem H_drop (l : Launch) (hlt : l.stackTraces = false) (D : va_G) (k : Nat → ClassId) (z : Nat) (M : mM) (o oa : Nat) (g9 : Nat → Int64) (hF : cFr k M o) (hoa : M oa = some (.inl (k 1, 1, .inr (.inl g9)))) (t : Int32) : mKN l yL_drop wsL_drop ({ frames := 8, cells := 1, slots := 6, locals := 126 }) D k z [.ref o, .int t, .ref oa] M (fun v M' => v = some (.int 1) ∧ k2 M M') := by
  refine tc_ofWH (cc := cL_drop) (maxL := 4) (ret := (some .int)) (hh := [(0, 9, 12, 13)]) (by decide) rfl ?_
  intro p e s m args below meth c s₁ B hml hv
  obtain ⟨rfl, hz, hcxN, hm⟩ := hv
  have hcx := hcxN.1
  have hx := B.exec
  have hb := B.bytes
  have hr := B.returns
  have hts := atoms_spec (ws := wsL_drop) B.pre
  have hown : s.vm.findClass RL = some m.cls := findClass_of_methodNamed B.named
  have hlocks := B.notSynchronized
  have hK := hcx.1
  have hS : va_S (AZ z) s.heap s.heap [] := va_S.rf
  have hA : ∀ q, s.heap.size ≤ q → AZ z q := fun q h => Nat.le_trans hz h
  have htab := vx_table (x := yL_drop) B (hts (.codeWith yL_drop cL_drop 4 (some .int) [(0, 9, 12, 13)]) List.mem_cons_self)
  have hl := lv_entry ([.ref o, .int t, .ref oa]) (n := 4) (Nat.le_of_ble_eq_true rfl)
  rw [lg_entry_eq]
  generalize (lg_sl ([.ref o, .int t, .ref oa]) ++ List.replicate (4 - (lg_sl ([.ref o, .int t, .ref oa])).length) Slot.unset).toArray = ls at hl ⊢
  have hl : lv_has ls 4 [(0, .ref o), (1, .int t), (2, .ref oa)] := hl
  obtain ⟨tr, nx, mg, dk, ts, ou, tn, g0, gt, hO, hT, hD9, hTs, hXt, hOu⟩ := id hF
  refine lv_aload_n hx hb dL_drop_0 rfl (lv_at hl 2 rfl) ?_
  refine lv_iconst (v := 0) hx hb dL_drop_1 (by decide) ?_
  refine lv_aload_n hx hb dL_drop_2 rfl (lv_at hl 0 rfl) ?_
  refine lv_iload_n hx hb dL_drop_3 rfl (lv_at hl 1 rfl) ?_
  refine m_cV (As := [.int t]) (rest := [.int 0, .ref oa]) (rm := { frames := 7, cells := 1, slots := 6, locals := 104 }) ⟨hx, hb, hml, hown, hts⟩ (F_drop l hlt D k z _ o hF t) (cwV 1 hts gL_drop_X5_drop rfl rfl rfl (by decide +kernel) ⟨Nat.le_of_ble_eq_true rfl, Nat.le_of_ble_eq_true rfl⟩) (m_recv hK hm (q := (RX5, TX5, 11)) rfl hO) hz hcx hm hS rfl hl.1 rfl (Nat.le_of_ble_eq_true rfl) dL_drop_4 ⟨Nat.le_of_ble_eq_true rfl, Nat.le_of_ble_eq_true rfl⟩ (fun E ce q9 M1 H locs hv hm hS hce hcv hcl => ?_) (fun v M1 H locs hv hm hS => ?_)
  · obtain ⟨hE9, hM1⟩ := hv
    subst hE9
    rw [hM1] at hm
    refine tc_catch (E := "java/lang/IllegalStateException") (name := "java/lang/IllegalStateException") hown [] ⟨0, 9, 12, 13⟩ [] (by rw [htab]; rfl) (fun z9 hz9 => by simp at hz9) (by decide) (by decide) (hts (.classLink RL 13 "java/lang/IllegalStateException") (by decide +kernel)) (hcx.dw _ (.castable "java/lang/IllegalStateException" "java/lang/IllegalStateException") (by decide +kernel)) hce hcv hcl ?_
    refine W.widen (k := 1) (n := 6) (Nat.le_of_ble_eq_true rfl) (Nat.le_of_ble_eq_true rfl) ?_
    refine W.eq (g2 := F0 m 12 ls [.ref q9]) rfl ?_
    refine lv_astore_n (lv' := [(3, .ref q9), (0, .ref o), (1, .int t), (2, .ref oa)]) hx hb dL_drop_12 rfl hl (by decide) rfl (fun ls hl => ?_)
    refine lv_iconst (v := 1) hx hb dL_drop_13 (by decide) ?_
    refine W.iret (v := 1) hx hb hr (fun t ht hW => ⟨⟨some (.int 1), _, rfl, ?_, by rw [ht]; exact hm⟩, hS.F ht⟩) hS.2.2 dL_drop_14
    exact ⟨rfl, k2.refl _⟩
  exact hv.elim

set_option maxHeartbeats 4000000 in
set_option maxRecDepth 100000 in
theorem H_commit (l : Launch) (hlt : l.stackTraces = false) (D : va_G) (k : Nat → ClassId) (z : Nat) (M : mM) (o oa : Nat) (g9 : Nat → Int64) (hF : cFr k M o) (hoa : M oa = some (.inl (k 1, 1, .inr (.inl g9)))) (t : Int32) : mKN l yL_commit wsL_commit ({ frames := 8, cells := 1, slots := 6, locals := 127 }) D k z [.ref o, .int t, .ref oa] M (fun v M' => v = some (.int 1) ∧ k2 M M') := by
  refine tc_ofWH (cc := cL_commit) (maxL := 4) (ret := (some .int)) (hh := [(0, 9, 12, 13)]) (by decide) rfl ?_
  intro p e s m args below meth c s₁ B hml hv
  obtain ⟨rfl, hz, hcxN, hm⟩ := hv
  have hcx := hcxN.1
  have hx := B.exec
  have hb := B.bytes
  have hr := B.returns
  have hts := atoms_spec (ws := wsL_commit) B.pre
  have hown : s.vm.findClass RL = some m.cls := findClass_of_methodNamed B.named
  have hlocks := B.notSynchronized
  have hK := hcx.1
  have hS : va_S (AZ z) s.heap s.heap [] := va_S.rf
  have hA : ∀ q, s.heap.size ≤ q → AZ z q := fun q h => Nat.le_trans hz h
  have htab := vx_table (x := yL_commit) B (hts (.codeWith yL_commit cL_commit 4 (some .int) [(0, 9, 12, 13)]) List.mem_cons_self)
  have hl := lv_entry ([.ref o, .int t, .ref oa]) (n := 4) (Nat.le_of_ble_eq_true rfl)
  rw [lg_entry_eq]
  generalize (lg_sl ([.ref o, .int t, .ref oa]) ++ List.replicate (4 - (lg_sl ([.ref o, .int t, .ref oa])).length) Slot.unset).toArray = ls at hl ⊢
  have hl : lv_has ls 4 [(0, .ref o), (1, .int t), (2, .ref oa)] := hl
  obtain ⟨tr, nx, mg, dk, ts, ou, tn, g0, gt, hO, hT, hD9, hTs, hXt, hOu⟩ := id hF
  refine lv_aload_n hx hb dL_commit_0 rfl (lv_at hl 2 rfl) ?_
  refine lv_iconst (v := 0) hx hb dL_commit_1 (by decide) ?_
  refine lv_aload_n hx hb dL_commit_2 rfl (lv_at hl 0 rfl) ?_
  refine lv_iload_n hx hb dL_commit_3 rfl (lv_at hl 1 rfl) ?_
  refine m_cV (As := [.int t]) (rest := [.int 0, .ref oa]) (rm := { frames := 7, cells := 1, slots := 6, locals := 104 }) ⟨hx, hb, hml, hown, hts⟩ (F_commit l hlt D k z _ o hF t) (cwV 1 hts gL_commit_X5_commit rfl rfl rfl (by decide +kernel) ⟨Nat.le_of_ble_eq_true rfl, Nat.le_of_ble_eq_true rfl⟩) (m_recv hK hm (q := (RX5, TX5, 11)) rfl hO) hz hcx hm hS rfl hl.1 rfl (Nat.le_of_ble_eq_true rfl) dL_commit_4 ⟨Nat.le_of_ble_eq_true rfl, Nat.le_of_ble_eq_true rfl⟩ (fun E ce q9 M1 H locs hv hm hS hce hcv hcl => ?_) (fun v M1 H locs hv hm hS => ?_)
  · obtain ⟨hE9, hM1⟩ := hv
    subst hE9
    rw [hM1] at hm
    refine tc_catch (E := "java/lang/IllegalStateException") (name := "java/lang/IllegalStateException") hown [] ⟨0, 9, 12, 13⟩ [] (by rw [htab]; rfl) (fun z9 hz9 => by simp at hz9) (by decide) (by decide) (hts (.classLink RL 13 "java/lang/IllegalStateException") (by decide +kernel)) (hcx.dw _ (.castable "java/lang/IllegalStateException" "java/lang/IllegalStateException") (by decide +kernel)) hce hcv hcl ?_
    refine W.widen (k := 1) (n := 6) (Nat.le_of_ble_eq_true rfl) (Nat.le_of_ble_eq_true rfl) ?_
    refine W.eq (g2 := F0 m 12 ls [.ref q9]) rfl ?_
    refine lv_astore_n (lv' := [(3, .ref q9), (0, .ref o), (1, .int t), (2, .ref oa)]) hx hb dL_commit_12 rfl hl (by decide) rfl (fun ls hl => ?_)
    refine lv_iconst (v := 1) hx hb dL_commit_13 (by decide) ?_
    refine W.iret (v := 1) hx hb hr (fun t ht hW => ⟨⟨some (.int 1), _, rfl, ?_, by rw [ht]; exact hm⟩, hS.F ht⟩) hS.2.2 dL_commit_14
    exact ⟨rfl, k2.refl _⟩
  exact hv.elim

set_option maxHeartbeats 4000000 in
set_option maxRecDepth 100000 in
theorem H_check (l : Launch) (hlt : l.stackTraces = false) (D : va_G) (k : Nat → ClassId) (z : Nat) (M : mM) (o oa : Nat) (g9 : Nat → Int64) (hF : cFr k M o) (hoa : M oa = some (.inl (k 1, 1, .inr (.inl g9)))) (t : Int32) : mKN l yL_check wsL_check ({ frames := 8, cells := 1, slots := 6, locals := 125 }) D k z [.ref o, .int t, .ref oa] M (fun v M' => v = some (.int 1) ∧ k2 M M') := by
  refine tc_ofWH (cc := cL_check) (maxL := 4) (ret := (some .int)) (hh := [(0, 9, 12, 13)]) (by decide) rfl ?_
  intro p e s m args below meth c s₁ B hml hv
  obtain ⟨rfl, hz, hcxN, hm⟩ := hv
  have hcx := hcxN.1
  have hx := B.exec
  have hb := B.bytes
  have hr := B.returns
  have hts := atoms_spec (ws := wsL_check) B.pre
  have hown : s.vm.findClass RL = some m.cls := findClass_of_methodNamed B.named
  have hlocks := B.notSynchronized
  have hK := hcx.1
  have hS : va_S (AZ z) s.heap s.heap [] := va_S.rf
  have hA : ∀ q, s.heap.size ≤ q → AZ z q := fun q h => Nat.le_trans hz h
  have htab := vx_table (x := yL_check) B (hts (.codeWith yL_check cL_check 4 (some .int) [(0, 9, 12, 13)]) List.mem_cons_self)
  have hl := lv_entry ([.ref o, .int t, .ref oa]) (n := 4) (Nat.le_of_ble_eq_true rfl)
  rw [lg_entry_eq]
  generalize (lg_sl ([.ref o, .int t, .ref oa]) ++ List.replicate (4 - (lg_sl ([.ref o, .int t, .ref oa])).length) Slot.unset).toArray = ls at hl ⊢
  have hl : lv_has ls 4 [(0, .ref o), (1, .int t), (2, .ref oa)] := hl
  obtain ⟨tr, nx, mg, dk, ts, ou, tn, g0, gt, hO, hT, hD9, hTs, hXt, hOu⟩ := id hF
  refine lv_aload_n hx hb dL_check_0 rfl (lv_at hl 2 rfl) ?_
  refine lv_iconst (v := 0) hx hb dL_check_1 (by decide) ?_
  refine lv_aload_n hx hb dL_check_2 rfl (lv_at hl 0 rfl) ?_
  refine lv_iload_n hx hb dL_check_3 rfl (lv_at hl 1 rfl) ?_
  refine m_cV (As := [.int t]) (rest := [.int 0, .ref oa]) (rm := { frames := 7, cells := 1, slots := 6, locals := 104 }) ⟨hx, hb, hml, hown, hts⟩ (F_check l hlt D k z _ o hF t) (cwV 1 hts gL_check_X5_check rfl rfl rfl (by decide +kernel) ⟨Nat.le_of_ble_eq_true rfl, Nat.le_of_ble_eq_true rfl⟩) (m_recv hK hm (q := (RX5, TX5, 11)) rfl hO) hz hcx hm hS rfl hl.1 rfl (Nat.le_of_ble_eq_true rfl) dL_check_4 ⟨Nat.le_of_ble_eq_true rfl, Nat.le_of_ble_eq_true rfl⟩ (fun E ce q9 M1 H locs hv hm hS hce hcv hcl => ?_) (fun v M1 H locs hv hm hS => ?_)
  · obtain ⟨hE9, hM1⟩ := hv
    subst hE9
    rw [hM1] at hm
    refine tc_catch (E := "java/lang/IllegalStateException") (name := "java/lang/IllegalStateException") hown [] ⟨0, 9, 12, 13⟩ [] (by rw [htab]; rfl) (fun z9 hz9 => by simp at hz9) (by decide) (by decide) (hts (.classLink RL 13 "java/lang/IllegalStateException") (by decide +kernel)) (hcx.dw _ (.castable "java/lang/IllegalStateException" "java/lang/IllegalStateException") (by decide +kernel)) hce hcv hcl ?_
    refine W.widen (k := 1) (n := 6) (Nat.le_of_ble_eq_true rfl) (Nat.le_of_ble_eq_true rfl) ?_
    refine W.eq (g2 := F0 m 12 ls [.ref q9]) rfl ?_
    refine lv_astore_n (lv' := [(3, .ref q9), (0, .ref o), (1, .int t), (2, .ref oa)]) hx hb dL_check_12 rfl hl (by decide) rfl (fun ls hl => ?_)
    refine lv_iconst (v := 1) hx hb dL_check_13 (by decide) ?_
    refine W.iret (v := 1) hx hb hr (fun t ht hW => ⟨⟨some (.int 1), _, rfl, ?_, by rw [ht]; exact hm⟩, hS.F ht⟩) hS.2.2 dL_check_14
    exact ⟨rfl, k2.refl _⟩
  exact hv.elim

set_option maxHeartbeats 4000000 in
set_option maxRecDepth 100000 in
theorem H_make (l : Launch) (hlt : l.stackTraces = false) (D : va_G) (k : Nat → ClassId) (z : Nat) (M : mM) (o oa : Nat) (g9 : Nat → Int64) (hF : cFr k M o) (hoa : M oa = some (.inl (k 1, 1, .inr (.inl g9)))) (t path d9 : Int32) : mKN l yL_make wsL_make ({ frames := 8, cells := 1, slots := 6, locals := 129 }) D k z [.ref o, .int t, .int path, .int d9] M (fun v M' => v = some (.int 1) ∧ k2 M M') := by
  refine tc_ofWH (cc := cL_make) (maxL := 5) (ret := (some .int)) (hh := [(0, 7, 10, 13), (0, 7, 14, 31), (0, 7, 18, 33), (0, 7, 22, 15)]) (by decide) rfl ?_
  intro p e s m args below meth c s₁ B hml hv
  obtain ⟨rfl, hz, hcxN, hm⟩ := hv
  have hcx := hcxN.1
  have hx := B.exec
  have hb := B.bytes
  have hr := B.returns
  have hts := atoms_spec (ws := wsL_make) B.pre
  have hown : s.vm.findClass RL = some m.cls := findClass_of_methodNamed B.named
  have hlocks := B.notSynchronized
  have hK := hcx.1
  have hS : va_S (AZ z) s.heap s.heap [] := va_S.rf
  have hA : ∀ q, s.heap.size ≤ q → AZ z q := fun q h => Nat.le_trans hz h
  have htab := vx_table (x := yL_make) B (hts (.codeWith yL_make cL_make 5 (some .int) [(0, 7, 10, 13), (0, 7, 14, 31), (0, 7, 18, 33), (0, 7, 22, 15)]) List.mem_cons_self)
  have hl := lv_entry ([.ref o, .int t, .int path, .int d9]) (n := 5) (Nat.le_of_ble_eq_true rfl)
  rw [lg_entry_eq]
  generalize (lg_sl ([.ref o, .int t, .int path, .int d9]) ++ List.replicate (5 - (lg_sl ([.ref o, .int t, .int path, .int d9])).length) Slot.unset).toArray = ls at hl ⊢
  have hl : lv_has ls 5 [(0, .ref o), (1, .int t), (2, .int path), (3, .int d9)] := hl
  obtain ⟨tr, nx, mg, dk, ts, ou, tn, g0, gt, hO, hT, hD9, hTs, hXt, hOu⟩ := id hF
  refine lv_aload_n hx hb dL_make_0 rfl (lv_at hl 0 rfl) ?_
  refine lv_iload_n hx hb dL_make_1 rfl (lv_at hl 1 rfl) ?_
  refine lv_iload_n hx hb dL_make_2 rfl (lv_at hl 2 rfl) ?_
  refine lv_iload_n hx hb dL_make_3 rfl (lv_at hl 3 rfl) ?_
  refine m_cV (As := [.int t, .int path, .int d9]) (rest := []) (rm := { frames := 7, cells := 1, slots := 6, locals := 104 }) ⟨hx, hb, hml, hown, hts⟩ (F_make l hlt D k z _ o hF t path d9) (cwV 3 hts gL_make_X5_make rfl rfl rfl (by decide +kernel) ⟨Nat.le_of_ble_eq_true rfl, Nat.le_of_ble_eq_true rfl⟩) (m_recv hK hm (q := (RX5, TX5, 11)) rfl hO) hz hcx hm hS rfl hl.1 rfl (Nat.le_of_ble_eq_true rfl) dL_make_4 ⟨Nat.le_of_ble_eq_true rfl, Nat.le_of_ble_eq_true rfl⟩ (fun E ce q9 M1 H locs hv hm hS hce hcv hcl => ?_) (fun v M1 H locs hv hm hS => ?_)
  · obtain ⟨hE9, hM1⟩ := hv
    subst hE9
    rw [hM1] at hm
    refine tc_catch (E := "java/lang/IllegalStateException") (name := "java/lang/IllegalStateException") hown [] ⟨0, 7, 10, 13⟩ [⟨0, 7, 14, 31⟩, ⟨0, 7, 18, 33⟩, ⟨0, 7, 22, 15⟩] (by rw [htab]; rfl) (fun z9 hz9 => by simp at hz9) (by decide) (by decide) (hts (.classLink RL 13 "java/lang/IllegalStateException") (by decide +kernel)) (hcx.dw _ (.castable "java/lang/IllegalStateException" "java/lang/IllegalStateException") (by decide +kernel)) hce hcv hcl ?_
    refine W.widen (k := 1) (n := 6) (Nat.le_of_ble_eq_true rfl) (Nat.le_of_ble_eq_true rfl) ?_
    refine W.eq (g2 := F0 m 10 ls [.ref q9]) rfl ?_
    refine lv_astore (lv' := [(4, .ref q9), (0, .ref o), (1, .int t), (2, .int path), (3, .int d9)]) hx hb dL_make_10 hl (by decide) rfl (fun ls hl => ?_)
    refine lv_iconst (v := 1) hx hb dL_make_12 (by decide) ?_
    refine W.iret (v := 1) hx hb hr (fun t ht hW => ⟨⟨some (.int 1), _, rfl, ?_, by rw [ht]; exact hm⟩, hS.F ht⟩) hS.2.2 dL_make_13
    exact ⟨rfl, k2.refl _⟩
  exact hv.elim

set_option maxHeartbeats 4000000 in
set_option maxRecDepth 100000 in
theorem H_remove (l : Launch) (hlt : l.stackTraces = false) (D : va_G) (k : Nat → ClassId) (z : Nat) (M : mM) (o oa : Nat) (g9 : Nat → Int64) (hF : cFr k M o) (hoa : M oa = some (.inl (k 1, 1, .inr (.inl g9)))) (t path : Int32) : mKN l yL_remove wsL_remove ({ frames := 8, cells := 1, slots := 6, locals := 129 }) D k z [.ref o, .int t, .int path, .ref oa] M (fun v M' => v = some (.int 1) ∧ k2 M M') := by
  refine tc_ofWH (cc := cL_remove) (maxL := 5) (ret := (some .int)) (hh := [(0, 17, 20, 13), (0, 17, 24, 31), (0, 17, 28, 33), (0, 17, 32, 15)]) (by decide) rfl ?_
  intro p e s m args below meth c s₁ B hml hv
  obtain ⟨rfl, hz, hcxN, hm⟩ := hv
  have hcx := hcxN.1
  have hx := B.exec
  have hb := B.bytes
  have hr := B.returns
  have hts := atoms_spec (ws := wsL_remove) B.pre
  have hown : s.vm.findClass RL = some m.cls := findClass_of_methodNamed B.named
  have hlocks := B.notSynchronized
  have hK := hcx.1
  have hS : va_S (AZ z) s.heap s.heap [] := va_S.rf
  have hA : ∀ q, s.heap.size ≤ q → AZ z q := fun q h => Nat.le_trans hz h
  have htab := vx_table (x := yL_remove) B (hts (.codeWith yL_remove cL_remove 5 (some .int) [(0, 17, 20, 13), (0, 17, 24, 31), (0, 17, 28, 33), (0, 17, 32, 15)]) List.mem_cons_self)
  have hl := lv_entry ([.ref o, .int t, .int path, .ref oa]) (n := 5) (Nat.le_of_ble_eq_true rfl)
  rw [lg_entry_eq]
  generalize (lg_sl ([.ref o, .int t, .int path, .ref oa]) ++ List.replicate (5 - (lg_sl ([.ref o, .int t, .int path, .ref oa])).length) Slot.unset).toArray = ls at hl ⊢
  have hl : lv_has ls 5 [(0, .ref o), (1, .int t), (2, .int path), (3, .ref oa)] := hl
  obtain ⟨tr, nx, mg, dk, ts, ou, tn, g0, gt, hO, hT, hD9, hTs, hXt, hOu⟩ := id hF
  refine lv_aload_n hx hb dL_remove_0 rfl (lv_at hl 3 rfl) ?_
  refine lv_iconst (v := 0) hx hb dL_remove_1 (by decide) ?_
  refine lv_aload_n hx hb dL_remove_2 rfl (lv_at hl 0 rfl) ?_
  refine lv_iload_n hx hb dL_remove_3 rfl (lv_at hl 1 rfl) ?_
  refine lv_iload_n hx hb dL_remove_4 rfl (lv_at hl 2 rfl) ?_
  refine m_cV (As := [.int t, .int path]) (rest := [.int 0, .ref oa]) (rm := { frames := 7, cells := 1, slots := 6, locals := 104 }) ⟨hx, hb, hml, hown, hts⟩ (F_remove l hlt D k z _ o hF t path) (cwV 2 hts gL_remove_X5_remove rfl rfl rfl (by decide +kernel) ⟨Nat.le_of_ble_eq_true rfl, Nat.le_of_ble_eq_true rfl⟩) (m_recv hK hm (q := (RX5, TX5, 11)) rfl hO) hz hcx hm hS rfl hl.1 rfl (Nat.le_of_ble_eq_true rfl) dL_remove_5 ⟨Nat.le_of_ble_eq_true rfl, Nat.le_of_ble_eq_true rfl⟩ (fun E ce q9 M1 H locs hv hm hS hce hcv hcl => ?_) (fun v M1 H locs hv hm hS => ?_)
  · obtain ⟨hE9, hM1⟩ := hv
    subst hE9
    rw [hM1] at hm
    refine tc_catch (E := "java/lang/IllegalStateException") (name := "java/lang/IllegalStateException") hown [] ⟨0, 17, 20, 13⟩ [⟨0, 17, 24, 31⟩, ⟨0, 17, 28, 33⟩, ⟨0, 17, 32, 15⟩] (by rw [htab]; rfl) (fun z9 hz9 => by simp at hz9) (by decide) (by decide) (hts (.classLink RL 13 "java/lang/IllegalStateException") (by decide +kernel)) (hcx.dw _ (.castable "java/lang/IllegalStateException" "java/lang/IllegalStateException") (by decide +kernel)) hce hcv hcl ?_
    refine W.widen (k := 1) (n := 6) (Nat.le_of_ble_eq_true rfl) (Nat.le_of_ble_eq_true rfl) ?_
    refine W.eq (g2 := F0 m 20 ls [.ref q9]) rfl ?_
    refine lv_astore (lv' := [(4, .ref q9), (0, .ref o), (1, .int t), (2, .int path), (3, .ref oa)]) hx hb dL_remove_20 hl (by decide) rfl (fun ls hl => ?_)
    refine lv_iconst (v := 1) hx hb dL_remove_22 (by decide) ?_
    refine W.iret (v := 1) hx hb hr (fun t ht hW => ⟨⟨some (.int 1), _, rfl, ?_, by rw [ht]; exact hm⟩, hS.F ht⟩) hS.2.2 dL_remove_23
    exact ⟨rfl, k2.refl _⟩
  exact hv.elim

set_option maxHeartbeats 4000000 in
set_option maxRecDepth 100000 in
theorem H_move (l : Launch) (hlt : l.stackTraces = false) (D : va_G) (k : Nat → ClassId) (z : Nat) (M : mM) (o oa : Nat) (g9 : Nat → Int64) (hF : cFr k M o) (hoa : M oa = some (.inl (k 1, 1, .inr (.inl g9)))) (t pa pb : Int32) : mKN l yL_move wsL_move ({ frames := 8, cells := 1, slots := 6, locals := 131 }) D k z [.ref o, .int t, .int pa, .int pb, .ref oa] M (fun v M' => v = some (.int 1) ∧ k2 M M') := by
  refine tc_ofWH (cc := cL_move) (maxL := 6) (ret := (some .int)) (hh := [(0, 19, 22, 13), (0, 19, 26, 31), (0, 19, 30, 33), (0, 19, 34, 15)]) (by decide) rfl ?_
  intro p e s m args below meth c s₁ B hml hv
  obtain ⟨rfl, hz, hcxN, hm⟩ := hv
  have hcx := hcxN.1
  have hx := B.exec
  have hb := B.bytes
  have hr := B.returns
  have hts := atoms_spec (ws := wsL_move) B.pre
  have hown : s.vm.findClass RL = some m.cls := findClass_of_methodNamed B.named
  have hlocks := B.notSynchronized
  have hK := hcx.1
  have hS : va_S (AZ z) s.heap s.heap [] := va_S.rf
  have hA : ∀ q, s.heap.size ≤ q → AZ z q := fun q h => Nat.le_trans hz h
  have htab := vx_table (x := yL_move) B (hts (.codeWith yL_move cL_move 6 (some .int) [(0, 19, 22, 13), (0, 19, 26, 31), (0, 19, 30, 33), (0, 19, 34, 15)]) List.mem_cons_self)
  have hl := lv_entry ([.ref o, .int t, .int pa, .int pb, .ref oa]) (n := 6) (Nat.le_of_ble_eq_true rfl)
  rw [lg_entry_eq]
  generalize (lg_sl ([.ref o, .int t, .int pa, .int pb, .ref oa]) ++ List.replicate (6 - (lg_sl ([.ref o, .int t, .int pa, .int pb, .ref oa])).length) Slot.unset).toArray = ls at hl ⊢
  have hl : lv_has ls 6 [(0, .ref o), (1, .int t), (2, .int pa), (3, .int pb), (4, .ref oa)] := hl
  obtain ⟨tr, nx, mg, dk, ts, ou, tn, g0, gt, hO, hT, hD9, hTs, hXt, hOu⟩ := id hF
  refine lv_aload hx hb dL_move_0 (lv_at hl 4 rfl) ?_
  refine lv_iconst (v := 0) hx hb dL_move_2 (by decide) ?_
  refine lv_aload_n hx hb dL_move_3 rfl (lv_at hl 0 rfl) ?_
  refine lv_iload_n hx hb dL_move_4 rfl (lv_at hl 1 rfl) ?_
  refine lv_iload_n hx hb dL_move_5 rfl (lv_at hl 2 rfl) ?_
  refine lv_iload_n hx hb dL_move_6 rfl (lv_at hl 3 rfl) ?_
  refine m_cV (As := [.int t, .int pa, .int pb]) (rest := [.int 0, .ref oa]) (rm := { frames := 7, cells := 1, slots := 6, locals := 104 }) ⟨hx, hb, hml, hown, hts⟩ (F_move l hlt D k z _ o hF t pa pb) (cwV 3 hts gL_move_X5_move rfl rfl rfl (by decide +kernel) ⟨Nat.le_of_ble_eq_true rfl, Nat.le_of_ble_eq_true rfl⟩) (m_recv hK hm (q := (RX5, TX5, 11)) rfl hO) hz hcx hm hS rfl hl.1 rfl (Nat.le_of_ble_eq_true rfl) dL_move_7 ⟨Nat.le_of_ble_eq_true rfl, Nat.le_of_ble_eq_true rfl⟩ (fun E ce q9 M1 H locs hv hm hS hce hcv hcl => ?_) (fun v M1 H locs hv hm hS => ?_)
  · obtain ⟨hE9, hM1⟩ := hv
    subst hE9
    rw [hM1] at hm
    refine tc_catch (E := "java/lang/IllegalStateException") (name := "java/lang/IllegalStateException") hown [] ⟨0, 19, 22, 13⟩ [⟨0, 19, 26, 31⟩, ⟨0, 19, 30, 33⟩, ⟨0, 19, 34, 15⟩] (by rw [htab]; rfl) (fun z9 hz9 => by simp at hz9) (by decide) (by decide) (hts (.classLink RL 13 "java/lang/IllegalStateException") (by decide +kernel)) (hcx.dw _ (.castable "java/lang/IllegalStateException" "java/lang/IllegalStateException") (by decide +kernel)) hce hcv hcl ?_
    refine W.widen (k := 1) (n := 6) (Nat.le_of_ble_eq_true rfl) (Nat.le_of_ble_eq_true rfl) ?_
    refine W.eq (g2 := F0 m 22 ls [.ref q9]) rfl ?_
    refine lv_astore (lv' := [(5, .ref q9), (0, .ref o), (1, .int t), (2, .int pa), (3, .int pb), (4, .ref oa)]) hx hb dL_move_22 hl (by decide) rfl (fun ls hl => ?_)
    refine lv_iconst (v := 1) hx hb dL_move_24 (by decide) ?_
    refine W.iret (v := 1) hx hb hr (fun t ht hW => ⟨⟨some (.int 1), _, rfl, ?_, by rw [ht]; exact hm⟩, hS.F ht⟩) hS.2.2 dL_move_25
    exact ⟨rfl, k2.refl _⟩
  exact hv.elim

set_option maxHeartbeats 4000000 in
set_option maxRecDepth 100000 in
theorem H_write (l : Launch) (hlt : l.stackTraces = false) (D : va_G) (k : Nat → ClassId) (z : Nat) (M : mM) (o oa : Nat) (g9 : Nat → Int64) (hF : cFr k M o) (hoa : M oa = some (.inl (k 1, 1, .inr (.inl g9)))) (t path i w : Int32) : mKN l yL_write wsL_write ({ frames := 8, cells := 1, slots := 6, locals := 130 }) D k z [.ref o, .int t, .int path, .int i, .int w, .ref oa] M (fun v M' => v = some (.int 1) ∧ k2 M M') := by
  refine tc_ofWH (cc := cL_write) (maxL := 7) (ret := (some .int)) (hh := [(0, 14, 17, 13), (0, 14, 21, 31), (0, 14, 25, 33), (0, 14, 29, 15), (0, 14, 33, 47)]) (by decide) rfl ?_
  intro p e s m args below meth c s₁ B hml hv
  obtain ⟨rfl, hz, hcxN, hm⟩ := hv
  have hcx := hcxN.1
  have hx := B.exec
  have hb := B.bytes
  have hr := B.returns
  have hts := atoms_spec (ws := wsL_write) B.pre
  have hown : s.vm.findClass RL = some m.cls := findClass_of_methodNamed B.named
  have hlocks := B.notSynchronized
  have hK := hcx.1
  have hS : va_S (AZ z) s.heap s.heap [] := va_S.rf
  have hA : ∀ q, s.heap.size ≤ q → AZ z q := fun q h => Nat.le_trans hz h
  have htab := vx_table (x := yL_write) B (hts (.codeWith yL_write cL_write 7 (some .int) [(0, 14, 17, 13), (0, 14, 21, 31), (0, 14, 25, 33), (0, 14, 29, 15), (0, 14, 33, 47)]) List.mem_cons_self)
  have hl := lv_entry ([.ref o, .int t, .int path, .int i, .int w, .ref oa]) (n := 7) (Nat.le_of_ble_eq_true rfl)
  rw [lg_entry_eq]
  generalize (lg_sl ([.ref o, .int t, .int path, .int i, .int w, .ref oa]) ++ List.replicate (7 - (lg_sl ([.ref o, .int t, .int path, .int i, .int w, .ref oa])).length) Slot.unset).toArray = ls at hl ⊢
  have hl : lv_has ls 7 [(0, .ref o), (1, .int t), (2, .int path), (3, .int i), (4, .int w), (5, .ref oa)] := hl
  obtain ⟨tr, nx, mg, dk, ts, ou, tn, g0, gt, hO, hT, hD9, hTs, hXt, hOu⟩ := id hF
  refine lv_aload hx hb dL_write_0 (lv_at hl 5 rfl) ?_
  refine lv_iconst (v := 0) hx hb dL_write_2 (by decide) ?_
  refine lv_aload_n hx hb dL_write_3 rfl (lv_at hl 0 rfl) ?_
  refine lv_iload_n hx hb dL_write_4 rfl (lv_at hl 1 rfl) ?_
  refine lv_iload_n hx hb dL_write_5 rfl (lv_at hl 2 rfl) ?_
  refine lv_iload_n hx hb dL_write_6 rfl (lv_at hl 3 rfl) ?_
  refine lv_iload hx hb dL_write_7 (lv_at hl 4 rfl) ?_
  refine m_cV (As := [.int t, .int path, .int i, .int w]) (rest := [.int 0, .ref oa]) (rm := { frames := 7, cells := 1, slots := 6, locals := 104 }) ⟨hx, hb, hml, hown, hts⟩ (F_write l hlt D k z _ o hF t path i w) (cwV 4 hts gL_write_X5_write rfl rfl rfl (by decide +kernel) ⟨Nat.le_of_ble_eq_true rfl, Nat.le_of_ble_eq_true rfl⟩) (m_recv hK hm (q := (RX5, TX5, 11)) rfl hO) hz hcx hm hS rfl hl.1 rfl (Nat.le_of_ble_eq_true rfl) dL_write_9 ⟨Nat.le_of_ble_eq_true rfl, Nat.le_of_ble_eq_true rfl⟩ (fun E ce q9 M1 H locs hv hm hS hce hcv hcl => ?_) (fun v M1 H locs hv hm hS => ?_)
  · obtain ⟨hE9, hM1⟩ := hv
    subst hE9
    rw [hM1] at hm
    refine tc_catch (E := "java/lang/IllegalStateException") (name := "java/lang/IllegalStateException") hown [] ⟨0, 14, 17, 13⟩ [⟨0, 14, 21, 31⟩, ⟨0, 14, 25, 33⟩, ⟨0, 14, 29, 15⟩, ⟨0, 14, 33, 47⟩] (by rw [htab]; rfl) (fun z9 hz9 => by simp at hz9) (by decide) (by decide) (hts (.classLink RL 13 "java/lang/IllegalStateException") (by decide +kernel)) (hcx.dw _ (.castable "java/lang/IllegalStateException" "java/lang/IllegalStateException") (by decide +kernel)) hce hcv hcl ?_
    refine W.widen (k := 1) (n := 6) (Nat.le_of_ble_eq_true rfl) (Nat.le_of_ble_eq_true rfl) ?_
    refine W.eq (g2 := F0 m 17 ls [.ref q9]) rfl ?_
    refine lv_astore (lv' := [(6, .ref q9), (0, .ref o), (1, .int t), (2, .int path), (3, .int i), (4, .int w), (5, .ref oa)]) hx hb dL_write_17 hl (by decide) rfl (fun ls hl => ?_)
    refine lv_iconst (v := 1) hx hb dL_write_19 (by decide) ?_
    refine W.iret (v := 1) hx hb hr (fun t ht hW => ⟨⟨some (.int 1), _, rfl, ?_, by rw [ht]; exact hm⟩, hS.F ht⟩) hS.2.2 dL_write_20
    exact ⟨rfl, k2.refl _⟩
  exact hv.elim

set_option maxHeartbeats 4000000 in
set_option maxRecDepth 100000 in
theorem H_append (l : Launch) (hlt : l.stackTraces = false) (D : va_G) (k : Nat → ClassId) (z : Nat) (M : mM) (o oa : Nat) (g9 : Nat → Int64) (hF : cFr k M o) (hoa : M oa = some (.inl (k 1, 1, .inr (.inl g9)))) (t path w : Int32) : mKN l yL_append wsL_append ({ frames := 8, cells := 1, slots := 6, locals := 129 }) D k z [.ref o, .int t, .int path, .int w, .ref oa] M (fun v M' => v = some (.int 1) ∧ k2 M M') := by
  refine tc_ofWH (cc := cL_append) (maxL := 6) (ret := (some .int)) (hh := [(0, 12, 15, 13), (0, 12, 19, 31), (0, 12, 23, 33), (0, 12, 27, 15)]) (by decide) rfl ?_
  intro p e s m args below meth c s₁ B hml hv
  obtain ⟨rfl, hz, hcxN, hm⟩ := hv
  have hcx := hcxN.1
  have hx := B.exec
  have hb := B.bytes
  have hr := B.returns
  have hts := atoms_spec (ws := wsL_append) B.pre
  have hown : s.vm.findClass RL = some m.cls := findClass_of_methodNamed B.named
  have hlocks := B.notSynchronized
  have hK := hcx.1
  have hS : va_S (AZ z) s.heap s.heap [] := va_S.rf
  have hA : ∀ q, s.heap.size ≤ q → AZ z q := fun q h => Nat.le_trans hz h
  have htab := vx_table (x := yL_append) B (hts (.codeWith yL_append cL_append 6 (some .int) [(0, 12, 15, 13), (0, 12, 19, 31), (0, 12, 23, 33), (0, 12, 27, 15)]) List.mem_cons_self)
  have hl := lv_entry ([.ref o, .int t, .int path, .int w, .ref oa]) (n := 6) (Nat.le_of_ble_eq_true rfl)
  rw [lg_entry_eq]
  generalize (lg_sl ([.ref o, .int t, .int path, .int w, .ref oa]) ++ List.replicate (6 - (lg_sl ([.ref o, .int t, .int path, .int w, .ref oa])).length) Slot.unset).toArray = ls at hl ⊢
  have hl : lv_has ls 6 [(0, .ref o), (1, .int t), (2, .int path), (3, .int w), (4, .ref oa)] := hl
  obtain ⟨tr, nx, mg, dk, ts, ou, tn, g0, gt, hO, hT, hD9, hTs, hXt, hOu⟩ := id hF
  refine lv_aload hx hb dL_append_0 (lv_at hl 4 rfl) ?_
  refine lv_iconst (v := 0) hx hb dL_append_2 (by decide) ?_
  refine lv_aload_n hx hb dL_append_3 rfl (lv_at hl 0 rfl) ?_
  refine lv_iload_n hx hb dL_append_4 rfl (lv_at hl 1 rfl) ?_
  refine lv_iload_n hx hb dL_append_5 rfl (lv_at hl 2 rfl) ?_
  refine lv_iload_n hx hb dL_append_6 rfl (lv_at hl 3 rfl) ?_
  refine m_cV (As := [.int t, .int path, .int w]) (rest := [.int 0, .ref oa]) (rm := { frames := 7, cells := 1, slots := 6, locals := 104 }) ⟨hx, hb, hml, hown, hts⟩ (F_append l hlt D k z _ o hF t path w) (cwV 3 hts gL_append_X5_append rfl rfl rfl (by decide +kernel) ⟨Nat.le_of_ble_eq_true rfl, Nat.le_of_ble_eq_true rfl⟩) (m_recv hK hm (q := (RX5, TX5, 11)) rfl hO) hz hcx hm hS rfl hl.1 rfl (Nat.le_of_ble_eq_true rfl) dL_append_7 ⟨Nat.le_of_ble_eq_true rfl, Nat.le_of_ble_eq_true rfl⟩ (fun E ce q9 M1 H locs hv hm hS hce hcv hcl => ?_) (fun v M1 H locs hv hm hS => ?_)
  · obtain ⟨hE9, hM1⟩ := hv
    subst hE9
    rw [hM1] at hm
    refine tc_catch (E := "java/lang/IllegalStateException") (name := "java/lang/IllegalStateException") hown [] ⟨0, 12, 15, 13⟩ [⟨0, 12, 19, 31⟩, ⟨0, 12, 23, 33⟩, ⟨0, 12, 27, 15⟩] (by rw [htab]; rfl) (fun z9 hz9 => by simp at hz9) (by decide) (by decide) (hts (.classLink RL 13 "java/lang/IllegalStateException") (by decide +kernel)) (hcx.dw _ (.castable "java/lang/IllegalStateException" "java/lang/IllegalStateException") (by decide +kernel)) hce hcv hcl ?_
    refine W.widen (k := 1) (n := 6) (Nat.le_of_ble_eq_true rfl) (Nat.le_of_ble_eq_true rfl) ?_
    refine W.eq (g2 := F0 m 15 ls [.ref q9]) rfl ?_
    refine lv_astore (lv' := [(5, .ref q9), (0, .ref o), (1, .int t), (2, .int path), (3, .int w), (4, .ref oa)]) hx hb dL_append_15 hl (by decide) rfl (fun ls hl => ?_)
    refine lv_iconst (v := 1) hx hb dL_append_17 (by decide) ?_
    refine W.iret (v := 1) hx hb hr (fun t ht hW => ⟨⟨some (.int 1), _, rfl, ?_, by rw [ht]; exact hm⟩, hS.F ht⟩) hS.2.2 dL_append_18
    exact ⟨rfl, k2.refl _⟩
  exact hv.elim

set_option maxHeartbeats 4000000 in
set_option maxRecDepth 100000 in
theorem H_cut (l : Launch) (hlt : l.stackTraces = false) (D : va_G) (k : Nat → ClassId) (z : Nat) (M : mM) (o oa : Nat) (g9 : Nat → Int64) (hF : cFr k M o) (hoa : M oa = some (.inl (k 1, 1, .inr (.inl g9)))) (t path n : Int32) : mKN l yL_cut wsL_cut ({ frames := 8, cells := 1, slots := 6, locals := 129 }) D k z [.ref o, .int t, .int path, .int n, .ref oa] M (fun v M' => v = some (.int 1) ∧ k2 M M') := by
  refine tc_ofWH (cc := cL_cut) (maxL := 6) (ret := (some .int)) (hh := [(0, 12, 15, 13), (0, 12, 19, 31), (0, 12, 23, 33), (0, 12, 27, 15), (0, 12, 31, 47)]) (by decide) rfl ?_
  intro p e s m args below meth c s₁ B hml hv
  obtain ⟨rfl, hz, hcxN, hm⟩ := hv
  have hcx := hcxN.1
  have hx := B.exec
  have hb := B.bytes
  have hr := B.returns
  have hts := atoms_spec (ws := wsL_cut) B.pre
  have hown : s.vm.findClass RL = some m.cls := findClass_of_methodNamed B.named
  have hlocks := B.notSynchronized
  have hK := hcx.1
  have hS : va_S (AZ z) s.heap s.heap [] := va_S.rf
  have hA : ∀ q, s.heap.size ≤ q → AZ z q := fun q h => Nat.le_trans hz h
  have htab := vx_table (x := yL_cut) B (hts (.codeWith yL_cut cL_cut 6 (some .int) [(0, 12, 15, 13), (0, 12, 19, 31), (0, 12, 23, 33), (0, 12, 27, 15), (0, 12, 31, 47)]) List.mem_cons_self)
  have hl := lv_entry ([.ref o, .int t, .int path, .int n, .ref oa]) (n := 6) (Nat.le_of_ble_eq_true rfl)
  rw [lg_entry_eq]
  generalize (lg_sl ([.ref o, .int t, .int path, .int n, .ref oa]) ++ List.replicate (6 - (lg_sl ([.ref o, .int t, .int path, .int n, .ref oa])).length) Slot.unset).toArray = ls at hl ⊢
  have hl : lv_has ls 6 [(0, .ref o), (1, .int t), (2, .int path), (3, .int n), (4, .ref oa)] := hl
  obtain ⟨tr, nx, mg, dk, ts, ou, tn, g0, gt, hO, hT, hD9, hTs, hXt, hOu⟩ := id hF
  refine lv_aload hx hb dL_cut_0 (lv_at hl 4 rfl) ?_
  refine lv_iconst (v := 0) hx hb dL_cut_2 (by decide) ?_
  refine lv_aload_n hx hb dL_cut_3 rfl (lv_at hl 0 rfl) ?_
  refine lv_iload_n hx hb dL_cut_4 rfl (lv_at hl 1 rfl) ?_
  refine lv_iload_n hx hb dL_cut_5 rfl (lv_at hl 2 rfl) ?_
  refine lv_iload_n hx hb dL_cut_6 rfl (lv_at hl 3 rfl) ?_
  refine m_cV (As := [.int t, .int path, .int n]) (rest := [.int 0, .ref oa]) (rm := { frames := 7, cells := 1, slots := 6, locals := 104 }) ⟨hx, hb, hml, hown, hts⟩ (F_cut l hlt D k z _ o hF t path n) (cwV 3 hts gL_cut_X5_cut rfl rfl rfl (by decide +kernel) ⟨Nat.le_of_ble_eq_true rfl, Nat.le_of_ble_eq_true rfl⟩) (m_recv hK hm (q := (RX5, TX5, 11)) rfl hO) hz hcx hm hS rfl hl.1 rfl (Nat.le_of_ble_eq_true rfl) dL_cut_7 ⟨Nat.le_of_ble_eq_true rfl, Nat.le_of_ble_eq_true rfl⟩ (fun E ce q9 M1 H locs hv hm hS hce hcv hcl => ?_) (fun v M1 H locs hv hm hS => ?_)
  · obtain ⟨hE9, hM1⟩ := hv
    subst hE9
    rw [hM1] at hm
    refine tc_catch (E := "java/lang/IllegalStateException") (name := "java/lang/IllegalStateException") hown [] ⟨0, 12, 15, 13⟩ [⟨0, 12, 19, 31⟩, ⟨0, 12, 23, 33⟩, ⟨0, 12, 27, 15⟩, ⟨0, 12, 31, 47⟩] (by rw [htab]; rfl) (fun z9 hz9 => by simp at hz9) (by decide) (by decide) (hts (.classLink RL 13 "java/lang/IllegalStateException") (by decide +kernel)) (hcx.dw _ (.castable "java/lang/IllegalStateException" "java/lang/IllegalStateException") (by decide +kernel)) hce hcv hcl ?_
    refine W.widen (k := 1) (n := 6) (Nat.le_of_ble_eq_true rfl) (Nat.le_of_ble_eq_true rfl) ?_
    refine W.eq (g2 := F0 m 15 ls [.ref q9]) rfl ?_
    refine lv_astore (lv' := [(5, .ref q9), (0, .ref o), (1, .int t), (2, .int path), (3, .int n), (4, .ref oa)]) hx hb dL_cut_15 hl (by decide) rfl (fun ls hl => ?_)
    refine lv_iconst (v := 1) hx hb dL_cut_17 (by decide) ?_
    refine W.iret (v := 1) hx hb hr (fun t ht hW => ⟨⟨some (.int 1), _, rfl, ?_, by rw [ht]; exact hm⟩, hS.F ht⟩) hS.2.2 dL_cut_18
    exact ⟨rfl, k2.refl _⟩
  exact hv.elim

set_option maxHeartbeats 4000000 in
set_option maxRecDepth 100000 in
theorem H_mark (l : Launch) (hlt : l.stackTraces = false) (D : va_G) (k : Nat → ClassId) (z : Nat) (M : mM) (o oa : Nat) (g9 : Nat → Int64) (hF : cFr k M o) (hoa : M oa = some (.inl (k 1, 1, .inr (.inl g9)))) (t : Int32) : mKN l yL_mark wsL_mark ({ frames := 8, cells := 1, slots := 6, locals := 126 }) D k z [.ref o, .int t, .ref oa] M (fun v M' => v = some (.int 1) ∧ k2 M M') := by
  refine tc_ofWH (cc := cL_mark) (maxL := 4) (ret := (some .int)) (hh := [(0, 9, 12, 13), (0, 9, 15, 15)]) (by decide) rfl ?_
  intro p e s m args below meth c s₁ B hml hv
  obtain ⟨rfl, hz, hcxN, hm⟩ := hv
  have hcx := hcxN.1
  have hx := B.exec
  have hb := B.bytes
  have hr := B.returns
  have hts := atoms_spec (ws := wsL_mark) B.pre
  have hown : s.vm.findClass RL = some m.cls := findClass_of_methodNamed B.named
  have hlocks := B.notSynchronized
  have hK := hcx.1
  have hS : va_S (AZ z) s.heap s.heap [] := va_S.rf
  have hA : ∀ q, s.heap.size ≤ q → AZ z q := fun q h => Nat.le_trans hz h
  have htab := vx_table (x := yL_mark) B (hts (.codeWith yL_mark cL_mark 4 (some .int) [(0, 9, 12, 13), (0, 9, 15, 15)]) List.mem_cons_self)
  have hl := lv_entry ([.ref o, .int t, .ref oa]) (n := 4) (Nat.le_of_ble_eq_true rfl)
  rw [lg_entry_eq]
  generalize (lg_sl ([.ref o, .int t, .ref oa]) ++ List.replicate (4 - (lg_sl ([.ref o, .int t, .ref oa])).length) Slot.unset).toArray = ls at hl ⊢
  have hl : lv_has ls 4 [(0, .ref o), (1, .int t), (2, .ref oa)] := hl
  obtain ⟨tr, nx, mg, dk, ts, ou, tn, g0, gt, hO, hT, hD9, hTs, hXt, hOu⟩ := id hF
  refine lv_aload_n hx hb dL_mark_0 rfl (lv_at hl 2 rfl) ?_
  refine lv_iconst (v := 0) hx hb dL_mark_1 (by decide) ?_
  refine lv_aload_n hx hb dL_mark_2 rfl (lv_at hl 0 rfl) ?_
  refine lv_iload_n hx hb dL_mark_3 rfl (lv_at hl 1 rfl) ?_
  refine m_cV (As := [.int t]) (rest := [.int 0, .ref oa]) (rm := { frames := 7, cells := 1, slots := 6, locals := 104 }) ⟨hx, hb, hml, hown, hts⟩ (F_mark l hlt D k z _ o hF t) (cwV 1 hts gL_mark_X5_mark rfl rfl rfl (by decide +kernel) ⟨Nat.le_of_ble_eq_true rfl, Nat.le_of_ble_eq_true rfl⟩) (m_recv hK hm (q := (RX5, TX5, 11)) rfl hO) hz hcx hm hS rfl hl.1 rfl (Nat.le_of_ble_eq_true rfl) dL_mark_4 ⟨Nat.le_of_ble_eq_true rfl, Nat.le_of_ble_eq_true rfl⟩ (fun E ce q9 M1 H locs hv hm hS hce hcv hcl => ?_) (fun v M1 H locs hv hm hS => ?_)
  · obtain ⟨hE9, hM1⟩ := hv
    subst hE9
    rw [hM1] at hm
    refine tc_catch (E := "java/lang/IllegalStateException") (name := "java/lang/IllegalStateException") hown [] ⟨0, 9, 12, 13⟩ [⟨0, 9, 15, 15⟩] (by rw [htab]; rfl) (fun z9 hz9 => by simp at hz9) (by decide) (by decide) (hts (.classLink RL 13 "java/lang/IllegalStateException") (by decide +kernel)) (hcx.dw _ (.castable "java/lang/IllegalStateException" "java/lang/IllegalStateException") (by decide +kernel)) hce hcv hcl ?_
    refine W.widen (k := 1) (n := 6) (Nat.le_of_ble_eq_true rfl) (Nat.le_of_ble_eq_true rfl) ?_
    refine W.eq (g2 := F0 m 12 ls [.ref q9]) rfl ?_
    refine lv_astore_n (lv' := [(3, .ref q9), (0, .ref o), (1, .int t), (2, .ref oa)]) hx hb dL_mark_12 rfl hl (by decide) rfl (fun ls hl => ?_)
    refine lv_iconst (v := 1) hx hb dL_mark_13 (by decide) ?_
    refine W.iret (v := 1) hx hb hr (fun t ht hW => ⟨⟨some (.int 1), _, rfl, ?_, by rw [ht]; exact hm⟩, hS.F ht⟩) hS.2.2 dL_mark_14
    exact ⟨rfl, k2.refl _⟩
  exact hv.elim

set_option maxHeartbeats 4000000 in
set_option maxRecDepth 100000 in
theorem H_back (l : Launch) (hlt : l.stackTraces = false) (D : va_G) (k : Nat → ClassId) (z : Nat) (M : mM) (o oa : Nat) (g9 : Nat → Int64) (hF : cFr k M o) (hoa : M oa = some (.inl (k 1, 1, .inr (.inl g9)))) (t : Int32) : mKN l yL_back wsL_back ({ frames := 8, cells := 1, slots := 6, locals := 126 }) D k z [.ref o, .int t, .ref oa] M (fun v M' => v = some (.int 1) ∧ k2 M M') := by
  refine tc_ofWH (cc := cL_back) (maxL := 4) (ret := (some .int)) (hh := [(0, 9, 12, 13), (0, 9, 15, 15)]) (by decide) rfl ?_
  intro p e s m args below meth c s₁ B hml hv
  obtain ⟨rfl, hz, hcxN, hm⟩ := hv
  have hcx := hcxN.1
  have hx := B.exec
  have hb := B.bytes
  have hr := B.returns
  have hts := atoms_spec (ws := wsL_back) B.pre
  have hown : s.vm.findClass RL = some m.cls := findClass_of_methodNamed B.named
  have hlocks := B.notSynchronized
  have hK := hcx.1
  have hS : va_S (AZ z) s.heap s.heap [] := va_S.rf
  have hA : ∀ q, s.heap.size ≤ q → AZ z q := fun q h => Nat.le_trans hz h
  have htab := vx_table (x := yL_back) B (hts (.codeWith yL_back cL_back 4 (some .int) [(0, 9, 12, 13), (0, 9, 15, 15)]) List.mem_cons_self)
  have hl := lv_entry ([.ref o, .int t, .ref oa]) (n := 4) (Nat.le_of_ble_eq_true rfl)
  rw [lg_entry_eq]
  generalize (lg_sl ([.ref o, .int t, .ref oa]) ++ List.replicate (4 - (lg_sl ([.ref o, .int t, .ref oa])).length) Slot.unset).toArray = ls at hl ⊢
  have hl : lv_has ls 4 [(0, .ref o), (1, .int t), (2, .ref oa)] := hl
  obtain ⟨tr, nx, mg, dk, ts, ou, tn, g0, gt, hO, hT, hD9, hTs, hXt, hOu⟩ := id hF
  refine lv_aload_n hx hb dL_back_0 rfl (lv_at hl 2 rfl) ?_
  refine lv_iconst (v := 0) hx hb dL_back_1 (by decide) ?_
  refine lv_aload_n hx hb dL_back_2 rfl (lv_at hl 0 rfl) ?_
  refine lv_iload_n hx hb dL_back_3 rfl (lv_at hl 1 rfl) ?_
  refine m_cV (As := [.int t]) (rest := [.int 0, .ref oa]) (rm := { frames := 7, cells := 1, slots := 6, locals := 104 }) ⟨hx, hb, hml, hown, hts⟩ (F_back l hlt D k z _ o hF t) (cwV 1 hts gL_back_X5_back rfl rfl rfl (by decide +kernel) ⟨Nat.le_of_ble_eq_true rfl, Nat.le_of_ble_eq_true rfl⟩) (m_recv hK hm (q := (RX5, TX5, 11)) rfl hO) hz hcx hm hS rfl hl.1 rfl (Nat.le_of_ble_eq_true rfl) dL_back_4 ⟨Nat.le_of_ble_eq_true rfl, Nat.le_of_ble_eq_true rfl⟩ (fun E ce q9 M1 H locs hv hm hS hce hcv hcl => ?_) (fun v M1 H locs hv hm hS => ?_)
  · obtain ⟨hE9, hM1⟩ := hv
    subst hE9
    rw [hM1] at hm
    refine tc_catch (E := "java/lang/IllegalStateException") (name := "java/lang/IllegalStateException") hown [] ⟨0, 9, 12, 13⟩ [⟨0, 9, 15, 15⟩] (by rw [htab]; rfl) (fun z9 hz9 => by simp at hz9) (by decide) (by decide) (hts (.classLink RL 13 "java/lang/IllegalStateException") (by decide +kernel)) (hcx.dw _ (.castable "java/lang/IllegalStateException" "java/lang/IllegalStateException") (by decide +kernel)) hce hcv hcl ?_
    refine W.widen (k := 1) (n := 6) (Nat.le_of_ble_eq_true rfl) (Nat.le_of_ble_eq_true rfl) ?_
    refine W.eq (g2 := F0 m 12 ls [.ref q9]) rfl ?_
    refine lv_astore_n (lv' := [(3, .ref q9), (0, .ref o), (1, .int t), (2, .ref oa)]) hx hb dL_back_12 rfl hl (by decide) rfl (fun ls hl => ?_)
    refine lv_iconst (v := 1) hx hb dL_back_13 (by decide) ?_
    refine W.iret (v := 1) hx hb hr (fun t ht hW => ⟨⟨some (.int 1), _, rfl, ?_, by rw [ht]; exact hm⟩, hS.F ht⟩) hS.2.2 dL_back_14
    exact ⟨rfl, k2.refl _⟩
  exact hv.elim

set_option maxHeartbeats 4000000 in
set_option maxRecDepth 100000 in
theorem H_about (l : Launch) (hlt : l.stackTraces = false) (D : va_G) (k : Nat → ClassId) (z : Nat) (M : mM) (o oa : Nat) (g9 : Nat → Int64) (hF : cFr k M o) (hoa : M oa = some (.inl (k 1, 1, .inr (.inl g9)))) (t w : Int32) : mKN l yL_about wsL_about ({ frames := 8, cells := 1, slots := 6, locals := 127 }) D k z [.ref o, .int t, .int w, .ref oa] M (fun v M' => v = some (.int 1) ∧ k2 M M') := by
  refine tc_ofWH (cc := cL_about) (maxL := 5) (ret := (some .int)) (hh := [(0, 10, 13, 13), (0, 10, 17, 31)]) (by decide) rfl ?_
  intro p e s m args below meth c s₁ B hml hv
  obtain ⟨rfl, hz, hcxN, hm⟩ := hv
  have hcx := hcxN.1
  have hx := B.exec
  have hb := B.bytes
  have hr := B.returns
  have hts := atoms_spec (ws := wsL_about) B.pre
  have hown : s.vm.findClass RL = some m.cls := findClass_of_methodNamed B.named
  have hlocks := B.notSynchronized
  have hK := hcx.1
  have hS : va_S (AZ z) s.heap s.heap [] := va_S.rf
  have hA : ∀ q, s.heap.size ≤ q → AZ z q := fun q h => Nat.le_trans hz h
  have htab := vx_table (x := yL_about) B (hts (.codeWith yL_about cL_about 5 (some .int) [(0, 10, 13, 13), (0, 10, 17, 31)]) List.mem_cons_self)
  have hl := lv_entry ([.ref o, .int t, .int w, .ref oa]) (n := 5) (Nat.le_of_ble_eq_true rfl)
  rw [lg_entry_eq]
  generalize (lg_sl ([.ref o, .int t, .int w, .ref oa]) ++ List.replicate (5 - (lg_sl ([.ref o, .int t, .int w, .ref oa])).length) Slot.unset).toArray = ls at hl ⊢
  have hl : lv_has ls 5 [(0, .ref o), (1, .int t), (2, .int w), (3, .ref oa)] := hl
  obtain ⟨tr, nx, mg, dk, ts, ou, tn, g0, gt, hO, hT, hD9, hTs, hXt, hOu⟩ := id hF
  refine lv_aload_n hx hb dL_about_0 rfl (lv_at hl 3 rfl) ?_
  refine lv_iconst (v := 0) hx hb dL_about_1 (by decide) ?_
  refine lv_aload_n hx hb dL_about_2 rfl (lv_at hl 0 rfl) ?_
  refine lv_iload_n hx hb dL_about_3 rfl (lv_at hl 1 rfl) ?_
  refine lv_iload_n hx hb dL_about_4 rfl (lv_at hl 2 rfl) ?_
  refine m_cV (As := [.int t, .int w]) (rest := [.int 0, .ref oa]) (rm := { frames := 7, cells := 1, slots := 6, locals := 104 }) ⟨hx, hb, hml, hown, hts⟩ (F_about l hlt D k z _ o hF t w) (cwV 2 hts gL_about_X5_about rfl rfl rfl (by decide +kernel) ⟨Nat.le_of_ble_eq_true rfl, Nat.le_of_ble_eq_true rfl⟩) (m_recv hK hm (q := (RX5, TX5, 11)) rfl hO) hz hcx hm hS rfl hl.1 rfl (Nat.le_of_ble_eq_true rfl) dL_about_5 ⟨Nat.le_of_ble_eq_true rfl, Nat.le_of_ble_eq_true rfl⟩ (fun E ce q9 M1 H locs hv hm hS hce hcv hcl => ?_) (fun v M1 H locs hv hm hS => ?_)
  · obtain ⟨hE9, hM1⟩ := hv
    subst hE9
    rw [hM1] at hm
    refine tc_catch (E := "java/lang/IllegalStateException") (name := "java/lang/IllegalStateException") hown [] ⟨0, 10, 13, 13⟩ [⟨0, 10, 17, 31⟩] (by rw [htab]; rfl) (fun z9 hz9 => by simp at hz9) (by decide) (by decide) (hts (.classLink RL 13 "java/lang/IllegalStateException") (by decide +kernel)) (hcx.dw _ (.castable "java/lang/IllegalStateException" "java/lang/IllegalStateException") (by decide +kernel)) hce hcv hcl ?_
    refine W.widen (k := 1) (n := 6) (Nat.le_of_ble_eq_true rfl) (Nat.le_of_ble_eq_true rfl) ?_
    refine W.eq (g2 := F0 m 13 ls [.ref q9]) rfl ?_
    refine lv_astore (lv' := [(4, .ref q9), (0, .ref o), (1, .int t), (2, .int w), (3, .ref oa)]) hx hb dL_about_13 hl (by decide) rfl (fun ls hl => ?_)
    refine lv_iconst (v := 1) hx hb dL_about_15 (by decide) ?_
    refine W.iret (v := 1) hx hb hr (fun t ht hW => ⟨⟨some (.int 1), _, rfl, ?_, by rw [ht]; exact hm⟩, hS.F ht⟩) hS.2.2 dL_about_16
    exact ⟨rfl, k2.refl _⟩
  exact hv.elim

set_option maxHeartbeats 4000000 in
set_option maxRecDepth 100000 in
theorem H_recover (l : Launch) (hlt : l.stackTraces = false) (D : va_G) (k : Nat → ClassId) (z : Nat) (M : mM) (o oa : Nat) (g9 : Nat → Int64) (hF : cFr k M o) (hoa : M oa = some (.inl (k 1, 1, .inr (.inl g9)))) : mKN l yL_recover wsL_recover ({ frames := 7, cells := 1, slots := 6, locals := 102 }) D k z [.ref o, .ref oa] M (fun v M' => v = some (.int 1) ∧ k2 M M') := by
  refine tc_ofWH (cc := cL_recover) (maxL := 3) (ret := (some .int)) (hh := [(0, 8, 11, 13)]) (by decide) rfl ?_
  intro p e s m args below meth c s₁ B hml hv
  obtain ⟨rfl, hz, hcxN, hm⟩ := hv
  have hcx := hcxN.1
  have hx := B.exec
  have hb := B.bytes
  have hr := B.returns
  have hts := atoms_spec (ws := wsL_recover) B.pre
  have hown : s.vm.findClass RL = some m.cls := findClass_of_methodNamed B.named
  have hlocks := B.notSynchronized
  have hK := hcx.1
  have hS : va_S (AZ z) s.heap s.heap [] := va_S.rf
  have hA : ∀ q, s.heap.size ≤ q → AZ z q := fun q h => Nat.le_trans hz h
  have htab := vx_table (x := yL_recover) B (hts (.codeWith yL_recover cL_recover 3 (some .int) [(0, 8, 11, 13)]) List.mem_cons_self)
  have hl := lv_entry ([.ref o, .ref oa]) (n := 3) (Nat.le_of_ble_eq_true rfl)
  rw [lg_entry_eq]
  generalize (lg_sl ([.ref o, .ref oa]) ++ List.replicate (3 - (lg_sl ([.ref o, .ref oa])).length) Slot.unset).toArray = ls at hl ⊢
  have hl : lv_has ls 3 [(0, .ref o), (1, .ref oa)] := hl
  obtain ⟨tr, nx, mg, dk, ts, ou, tn, g0, gt, hO, hT, hD9, hTs, hXt, hOu⟩ := id hF
  refine lv_aload_n hx hb dL_recover_0 rfl (lv_at hl 1 rfl) ?_
  refine lv_iconst (v := 0) hx hb dL_recover_1 (by decide) ?_
  refine lv_aload_n hx hb dL_recover_2 rfl (lv_at hl 0 rfl) ?_
  refine m_cV (As := []) (rest := [.int 0, .ref oa]) (rm := { frames := 6, cells := 1, slots := 6, locals := 82 }) ⟨hx, hb, hml, hown, hts⟩ (F_recover l hlt D k z _ o hF) (cwV 0 hts gL_recover_X5_recover rfl rfl rfl (by decide +kernel) ⟨Nat.le_of_ble_eq_true rfl, Nat.le_of_ble_eq_true rfl⟩) (m_recv hK hm (q := (RX5, TX5, 11)) rfl hO) hz hcx hm hS rfl hl.1 rfl (Nat.le_of_ble_eq_true rfl) dL_recover_3 ⟨Nat.le_of_ble_eq_true rfl, Nat.le_of_ble_eq_true rfl⟩ (fun E ce q9 M1 H locs hv hm hS hce hcv hcl => ?_) (fun v M1 H locs hv hm hS => ?_)
  · obtain ⟨hE9, hM1⟩ := hv
    subst hE9
    rw [hM1] at hm
    refine tc_catch (E := "java/lang/IllegalStateException") (name := "java/lang/IllegalStateException") hown [] ⟨0, 8, 11, 13⟩ [] (by rw [htab]; rfl) (fun z9 hz9 => by simp at hz9) (by decide) (by decide) (hts (.classLink RL 13 "java/lang/IllegalStateException") (by decide +kernel)) (hcx.dw _ (.castable "java/lang/IllegalStateException" "java/lang/IllegalStateException") (by decide +kernel)) hce hcv hcl ?_
    refine W.widen (k := 1) (n := 6) (Nat.le_of_ble_eq_true rfl) (Nat.le_of_ble_eq_true rfl) ?_
    refine W.eq (g2 := F0 m 11 ls [.ref q9]) rfl ?_
    refine lv_astore_n (lv' := [(2, .ref q9), (0, .ref o), (1, .ref oa)]) hx hb dL_recover_11 rfl hl (by decide) rfl (fun ls hl => ?_)
    refine lv_iconst (v := 1) hx hb dL_recover_12 (by decide) ?_
    refine W.iret (v := 1) hx hb hr (fun t ht hW => ⟨⟨some (.int 1), _, rfl, ?_, by rw [ht]; exact hm⟩, hS.F ht⟩) hS.2.2 dL_recover_13
    exact ⟨rfl, k2.refl _⟩
  exact hv.elim
