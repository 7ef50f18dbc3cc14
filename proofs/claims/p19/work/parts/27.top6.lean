set_option maxHeartbeats 4000000 in
set_option maxRecDepth 100000 in
theorem c_X5_isOrGoesThrough (l : Launch) (D : va_G) (k : Nat → ClassId) (z : Nat) (M : mM) (path other : Int32) : mK l yX5_isOrGoesThrough wsX5_isOrGoesThrough ({ frames := 0, cells := 0, slots := 0, locals := 0 }) D k z [.int path, .int other] M (fun v M' => (((∃ n, n < 7 ∧ dgt path n = other) ∧ v = some (.int 1)) ∨ ((∀ n, n < 7 → dgt path n ≠ other) ∧ v = some (.int 0))) ∧ M' = M) := by
  refine Met.ofW (cc := cX5_isOrGoesThrough) (maxL := 3) (ret := (some .boolean)) (by decide) rfl ?_
  intro p e s m args below meth c s₁ B hml hv
  obtain ⟨rfl, hz, hcx, hm⟩ := hv
  have hx := B.exec
  have hb := B.bytes
  have hr := B.returns
  have hts := atoms_spec (ws := wsX5_isOrGoesThrough) B.pre
  have hown : s.vm.findClass RX5 = some m.cls := findClass_of_methodNamed B.named
  have hlocks := B.notSynchronized
  have hK := hcx.1
  have hS : va_S (AZ z) s.heap s.heap [] := va_S.rf
  have hA : ∀ q, s.heap.size ≤ q → AZ z q := fun q h => Nat.le_trans hz h
  have hl := lv_entry ([.int path, .int other]) (n := 3) (Nat.le_of_ble_eq_true rfl)
  rw [lg_entry_eq]
  generalize (lg_sl ([.int path, .int other]) ++ List.replicate (3 - (lg_sl ([.int path, .int other])).length) Slot.unset).toArray = ls at hl ⊢
  have hl : lv_has ls 3 [(0, .int path), (1, .int other)] := hl
  refine lv_iconst (v := 0) hx hb dX5_isOrGoesThrough_0 (by decide) ?_
  refine lv_istore_n (lv' := [(2, .int 0), (0, .int path), (1, .int other)]) hx hb dX5_isOrGoesThrough_1 rfl hl (by decide) rfl (fun ls hl => ?_)
  refine W_loop (σ := Nat) (fun i H locs ls => (i ≤ 7) ∧ (∀ n, n < i → dgt path n ≠ other) ∧ mm D (AZ z) M H ∧ va_S (AZ z) s.heap H locs ∧ lv_has ls 3 [(2, .int (nI (4 * i))), (0, .int path), (1, .int other)]) (fun i => 7 - i) (fun i => 0) (fun i => 0) ?_ 0 _ _ _ ⟨Nat.zero_le _, fun n h => absurd h (Nat.not_lt_zero _), hm, hS, lv_sub hl [0, 1, 2] rfl⟩
  intro i H locs ls hI ih2
  obtain ⟨hi, hok, hm, hS, hl⟩ := hI
  try dsimp only at hm hl ih2 ⊢
  refine lv_iload_n hx hb dX5_isOrGoesThrough_2 rfl (lv_at hl 0 rfl) ?_
  refine lv_bipush (v := 24) hx hb dX5_isOrGoesThrough_3 (by decide) ?_
  refine lv_icmp_gt (tgt := 23) hx hb dX5_isOrGoesThrough_5 (by decide) (fun c1 => ?_) (fun c1 => ?_)
  · refine lv_iconst (v := 0) hx hb dX5_isOrGoesThrough_23 (by decide) ?_
    refine W.zret hx hb hr rfl (fun t ht hW => ⟨⟨some (.int 0), _, rfl, ?_, by rw [ht]; exact hm⟩, hS.F ht⟩) hS.2.2 dX5_isOrGoesThrough_24
    have he : i = 7 := by
      rcases Nat.lt_or_ge i 7 with q | q
      · exact absurd c1 (nI_nlt (show 4 * i ≤ 24 by omega) (by decide))
      · omega
    subst he
    exact ⟨Or.inr ⟨hok, rfl⟩, rfl⟩
  · have hi7 : i < 7 := Nat.lt_of_not_le fun q => c1 (nI_lt (show 24 < 4 * i by omega) (by omega))
    refine lv_iload_n hx hb dX5_isOrGoesThrough_8 rfl (lv_at hl 1 rfl) ?_
    refine lv_iload_n hx hb dX5_isOrGoesThrough_9 rfl (lv_at hl 0 rfl) ?_
    refine lv_ishr hx hb dX5_isOrGoesThrough_10 ?_
    refine lv_iload_n hx hb dX5_isOrGoesThrough_11 rfl (lv_at hl 2 rfl) ?_
    refine lv_icmp_ne (tgt := 17) hx hb dX5_isOrGoesThrough_12 (by decide) (fun c2 => ?_) (fun c2 => ?_)
    · refine lv_iinc (v := ((nI (4 * i)) + 4)) (lv' := [(2, .int ((nI (4 * i)) + 4)), (0, .int path), (1, .int other)]) hx hb dX5_isOrGoesThrough_17 hl (k := 0) rfl rfl (by decide) rfl (fun ls hl => ?_)
      refine lv_goto (tgt := 2) hx hb dX5_isOrGoesThrough_20 (by decide) ?_
      rw [show nI (4 * i) + 4 = nI (4 * (i + 1)) from nI_add (4 * i) 4] at hl
      exact ih2 (i + 1) _ _ _ ⟨by omega, fun n hn => by
                rcases Nat.lt_succ_iff_lt_or_eq.mp hn with h | rfl
                · exact hok n h
                · exact c2, hm, hS, lv_sub hl [0, 1, 2] rfl⟩ (by omega)
    · refine lv_iconst (v := 1) hx hb dX5_isOrGoesThrough_15 (by decide) ?_
      refine W.zret hx hb hr rfl (fun t ht hW => ⟨⟨some (.int 1), _, rfl, ?_, by rw [ht]; exact hm⟩, hS.F ht⟩) hS.2.2 dX5_isOrGoesThrough_16
      exact ⟨Or.inl ⟨⟨i, hi7, c2⟩, rfl⟩, rfl⟩

set_option maxHeartbeats 4000000 in
set_option maxRecDepth 100000 in
theorem c_X3_markAt (l : Launch) (D : va_G) (k : Nat → ClassId) (z : Nat) (M : mM) (x bs vw mk cr fr : Nat) (gm : Nat → Option Nat) (op md i : Int32) (hX : M x = some (.inr (3, [.ref bs, .ref vw, .ref mk, .ref cr, .ref fr, .int op, .int md]))) (hMk : M mk = some (.inl (k 5, 3, .inr (.inr (.inr (.inr gm)))))) : mK l yX3_markAt wsX3_markAt ({ frames := 0, cells := 0, slots := 0, locals := 0 }) D k z [.ref x, .int i] M (fun v M' => v = some (va_rf (atA gm 3 i)) ∧ M' = M) := by
  refine Met.ofW (cc := cX3_markAt) (maxL := 2) (ret := (some (.object "CommitTree$Tree"))) (by decide) rfl ?_
  intro p e s m args below meth c s₁ B hml hv
  obtain ⟨rfl, hz, hcx, hm⟩ := hv
  have hx := B.exec
  have hb := B.bytes
  have hr := B.returns
  have hts := atoms_spec (ws := wsX3_markAt) B.pre
  have hown : s.vm.findClass RX3 = some m.cls := findClass_of_methodNamed B.named
  have hlocks := B.notSynchronized
  have hK := hcx.1
  have hS : va_S (AZ z) s.heap s.heap [] := va_S.rf
  have hA : ∀ q, s.heap.size ≤ q → AZ z q := fun q h => Nat.le_trans hz h
  have hl := lv_entry ([.ref x, .int i]) (n := 2) (Nat.le_of_ble_eq_true rfl)
  rw [lg_entry_eq]
  generalize (lg_sl ([.ref x, .int i]) ++ List.replicate (2 - (lg_sl ([.ref x, .int i])).length) Slot.unset).toArray = ls at hl ⊢
  have hl : lv_has ls 2 [(0, .ref x), (1, .int i)] := hl
  have f18 := hts (.fieldLink RX3 18 "CommitTree$Transaction" "marks" "[LCommitTree$Tree;") (by decide +kernel)
  have wX3 : ∀ w ∈ wsX30, w ∈ wsX3_markAt := by decide +kernel
  refine lv_iload_n hx hb dX3_markAt_0 rfl (lv_at hl 1 rfl) ?_
  refine lv_if_lt (tgt := 22) hx hb dX3_markAt_1 (by decide) (fun c1 => ?_) (fun c1 => ?_)
  · refine lv_null hx hb dX3_markAt_22 ?_
    refine W.aret (v := .null) hx hb hr (Or.inl ⟨_, rfl⟩) (Or.inl rfl) (fun t ht hW => ⟨⟨some (.null), _, rfl, ?_, by rw [ht]; exact hm⟩, hS.F ht⟩) hS.2.2 dX3_markAt_23
    exact ⟨by simp [atA, va_rf, c1], rfl⟩
  · refine lv_iload_n hx hb dX3_markAt_4 rfl (lv_at hl 1 rfl) ?_
    refine lv_aload_n hx hb dX3_markAt_5 rfl (lv_at hl 0 rfl) ?_
    refine m_get (T := TX3) (N := 7) (ci := 3) (v := .ref mk) hx hb hts wX3 hown hK hm hX rfl 2 (by decide) f18 (fun _ h9 => h9) rfl dX3_markAt_6 ?_
    refine m_alen hx hb hK hm 5 hMk rfl (v := nI 3) rfl dX3_markAt_9 ?_
    refine lv_icmp_ge (tgt := 22) hx hb dX3_markAt_10 (by decide) (fun c2 => ?_) (fun c2 => ?_)
    · refine lv_null hx hb dX3_markAt_22 ?_
      refine W.aret (v := .null) hx hb hr (Or.inl ⟨_, rfl⟩) (Or.inl rfl) (fun t ht hW => ⟨⟨some (.null), _, rfl, ?_, by rw [ht]; exact hm⟩, hS.F ht⟩) hS.2.2 dX3_markAt_23
      exact ⟨by simp [atA, va_rf, c1, c2], rfl⟩
    · refine lv_aload_n hx hb dX3_markAt_13 rfl (lv_at hl 0 rfl) ?_
      refine m_get (T := TX3) (N := 7) (ci := 3) (v := .ref mk) hx hb hts wX3 hown hK hm hX rfl 2 (by decide) f18 (fun _ h9 => h9) rfl dX3_markAt_14 ?_
      refine lv_iload_n hx hb dX3_markAt_17 rfl (lv_at hl 1 rfl) ?_
      refine m_aald hx hb hK hm 5 hMk rfl (in_of c1 c2 (by decide)) dX3_markAt_18 ?_
      refine lv_goto (tgt := 23) hx hb dX3_markAt_19 (by decide) ?_
      refine W.aret (v := va_rf (gm i.toNatClampNeg)) hx hb hr (Or.inl ⟨_, rfl⟩) (va_rf_or _) (fun t ht hW => ⟨⟨some (va_rf (gm i.toNatClampNeg)), _, rfl, ?_, by rw [ht]; exact hm⟩, hS.F ht⟩) hS.2.2 dX3_markAt_23
      exact ⟨by simp [atA, va_rf, c1, c2], rfl⟩

set_option maxHeartbeats 4000000 in
set_option maxRecDepth 100000 in
theorem c_X5_parentWithRoom (l : Launch) (hlt : l.stackTraces = false) (D : va_G) (k : Nat → ClassId) (z : Nat) (M : mM) (x bs vw mk cr fr bn vn : Nat) (gb gv : Nat → Option Nat) (Lb Lv : List NV) (fc ff : Nat → Int64) (op md : Int32) (hcf : fr ≠ cr) (hX : M x = some (.inr (3, [.ref bs, .ref vw, .ref mk, .ref cr, .ref fr, .int op, .int md]))) (hB : treeAt k M bs bn gb Lb) (hV : treeAt k M vw vn gv Lv) (hC : M cr = some (.inl (k 1, 60, .inr (.inl fc)))) (hF : M fr = some (.inl (k 1, 60, .inr (.inl ff)))) (path : Int32) : mC l yX5_parentWithRoom wsX5_parentWithRoom ({ frames := 6, cells := 1, slots := 6, locals := 99 }) D k z [.ref x, .int path] M (fun v M' => ∃ a w, (upP Lb Lv (path >>> (4 &&& 31)) fc).1 = some w ∧ w.2.1 ≠ 0 ∧ lookL (ndc w (path &&& 15)) Lv = none ∧ v = some (.ref a) ∧ M' = (crM k M cr (lookF (upP Lb Lv (path >>> (4 &&& 31)) fc).2 Lb w (path &&& 15))) ∧ nodeAt k M' a w) (fun E M' => ((upP Lb Lv (path >>> (4 &&& 31)) fc).1 = none ∧ E = "java/util/NoSuchElementException" ∧ M' = (crM k M cr (upP Lb Lv (path >>> (4 &&& 31)) fc).2)) ∨ (∃ w, (upP Lb Lv (path >>> (4 &&& 31)) fc).1 = some w ∧ w.2.1 = 0 ∧ E = "java/lang/UnsupportedOperationException" ∧ M' = (crM k M cr (upP Lb Lv (path >>> (4 &&& 31)) fc).2)) ∨ (∃ w u, (upP Lb Lv (path >>> (4 &&& 31)) fc).1 = some w ∧ w.2.1 ≠ 0 ∧ lookL (ndc w (path &&& 15)) Lv = some u ∧ E = "java/lang/UnsupportedOperationException" ∧ M' = (crM k M cr (lookF (upP Lb Lv (path >>> (4 &&& 31)) fc).2 Lb w (path &&& 15))))) := by
  refine vx_ofW (cc := cX5_parentWithRoom) (maxL := 3) (ret := (some (.object "CommitTree$Node"))) (by decide) rfl ?_
  intro p e s m args below meth c s₁ B hml hnt hv
  obtain ⟨rfl, hz, hcx, hm⟩ := hv
  have hx := B.exec
  have hb := B.bytes
  have hr := B.returns
  have hts := atoms_spec (ws := wsX5_parentWithRoom) B.pre
  have hown : s.vm.findClass RX5 = some m.cls := findClass_of_methodNamed B.named
  have hlocks := B.notSynchronized
  have hK := hcx.1
  have hS : va_S (AZ z) s.heap s.heap [] := va_S.rf
  have hA : ∀ q, s.heap.size ≤ q → AZ z q := fun q h => Nat.le_trans hz h
  have hl := lv_entry ([.ref x, .int path]) (n := 3) (Nat.le_of_ble_eq_true rfl)
  rw [lg_entry_eq]
  generalize (lg_sl ([.ref x, .int path]) ++ List.replicate (3 - (lg_sl ([.ref x, .int path])).length) Slot.unset).toArray = ls at hl ⊢
  have hl : lv_has ls 3 [(0, .ref x), (1, .int path)] := hl
  have f159 := hts (.fieldLink RX5 159 "CommitTree$Node" "directory" "Z") (by decide +kernel)
  have wX2 : ∀ w ∈ wsX20, w ∈ wsX5_parentWithRoom := by decide +kernel
  refine lv_aload_n hx hb dX5_parentWithRoom_0 rfl (lv_at hl 0 rfl) ?_
  refine lv_iload_n hx hb dX5_parentWithRoom_1 rfl (lv_at hl 1 rfl) ?_
  refine lv_iconst (v := 4) hx hb dX5_parentWithRoom_2 (by decide) ?_
  refine lv_ishr hx hb dX5_parentWithRoom_3 ?_
  refine m_kV (As := [.int (path >>> (4 &&& 31))]) (rest := []) (rm := { frames := 3, cells := 0, slots := 0, locals := 75 }) ⟨hx, hb, hml, hown, hts⟩ (c_X3_lookUp l D k z _ x bs vw mk cr fr bn vn gb gv Lb Lv fc op md hX hB hV hC (path >>> (4 &&& 31))) (cwV 1 hts gX5_parentWithRoom_X3_lookUp rfl rfl rfl (by decide +kernel) ⟨Nat.le_of_ble_eq_true rfl, Nat.le_of_ble_eq_true rfl⟩) (m_recv hK hm (q := (RX3, TX3, 7)) rfl hX) hz hcx hm hS rfl hl.1 rfl (Nat.le_of_ble_eq_true rfl) dX5_parentWithRoom_4 ⟨Nat.le_of_ble_eq_true rfl, Nat.le_of_ble_eq_true rfl⟩ (fun v M1 H locs hv hm hS => ?_)
  obtain ⟨r, rfl, hM1, hcu⟩ := hv
  rw [show (upV Lb Lv (path >>> (4 &&& 31)) 7 (lookL 1 Lv) fc) = upP Lb Lv (path >>> (4 &&& 31)) fc from rfl] at hM1 hcu
  rw [hM1] at hm hcu
  have hX1 := obj_cr (f' := (upP Lb Lv (path >>> (4 &&& 31)) fc).2) hX hC
  have hB1 := treeAt_cr (f' := (upP Lb Lv (path >>> (4 &&& 31)) fc).2) hB hC
  have hV1 := treeAt_cr (f' := (upP Lb Lv (path >>> (4 &&& 31)) fc).2) hV hC
  rcases hcu with ⟨rfl, hcn⟩ | ⟨a, w, rfl, hcn, hN1⟩
  · refine W.eq (g2 := F0 m 7 ls [.null]) rfl ?_
    refine W.widen (k := 0) (n := 0) (Nat.le_of_ble_eq_true rfl) (Nat.le_of_ble_eq_true rfl) ?_
    have hm : mm D (AZ z) (crM k M cr (upP Lb Lv (path >>> (4 &&& 31)) fc).2) H := hm
    refine lv_astore_nN (lv' := [(2, .null), (0, .ref x), (1, .int path)]) hx hb dX5_parentWithRoom_7 rfl hl (by decide) rfl (fun ls hl => ?_)
    refine lv_aload_nN hx hb dX5_parentWithRoom_8 rfl (lv_at hl 0 rfl) ?_
    refine lv_ifnonnullN hx hb dX5_parentWithRoom_9 ?_
    obtain ⟨sa, hsa⟩ := hcx.2.2.1 (269, "there is nothing at the path without its last name") (by decide)
    refine nx_throwSW (own := RX5) (cls := "java/util/NoSuchElementException") (Y := "java/lang/RuntimeException") (text := "there is nothing at the path without its last name") (names := ["java/lang/Exception"]) (ik := 154) (is := 269) (ic := 158) (i1 := 13) (b1 := prog_21_method_4_code) (A := AZ z) hx hb hlt hown (by decide) (by decide) (by decide) (by decide +kernel) (by decide +kernel) (by decide +kernel) (by decide +kernel) (hts (.classLink RX5 154 "java/util/NoSuchElementException") (by decide +kernel)) (hts (.initialized "java/util/NoSuchElementException") (by decide +kernel)) hsa (vx_hat (B := DW) (fun w h => hts w (List.mem_cons_of_mem _ (List.mem_append_left _ (List.mem_append_right _ h)))) (by decide +kernel) (hcx.dw _)) (by decide +kernel) hcx.2.1.1 hcx.2.1.2 hS (hl.1.trans hml.symm) dX5_parentWithRoom_12 dX5_parentWithRoom_15 dX5_parentWithRoom_16 dX5_parentWithRoom_19 dX5_parentWithRoom_22 (fun x hx => (hnt x hx).elim) (Nat.le_of_ble_eq_true rfl) (Nat.le_of_ble_eq_true rfl) (Nat.le_of_ble_eq_true rfl) (Nat.le_of_ble_eq_true rfl) hlocks (fun t hvm hz1 hq => ⟨⟨_, ?_, hm.kept hq⟩, ⟨Nat.le_trans hS.1 hz1, fun q h1 h2 => (hq q (Nat.lt_of_lt_of_le h1 hS.1)).trans (hS.2.1 q h1 h2)⟩⟩) hS.2.2 (Nat.le_of_ble_eq_true rfl) (Nat.le_of_ble_eq_true rfl)
    exact Or.inl ⟨hcn, rfl, rfl⟩
  · obtain ⟨hdr, ca, hna, hca⟩ := And.intro hN1.1 hN1.2
    refine W.eq (g2 := F0 m 7 ls [.ref a]) rfl ?_
    refine W.widen (k := 0) (n := 0) (Nat.le_of_ble_eq_true rfl) (Nat.le_of_ble_eq_true rfl) ?_
    have hm : mm D (AZ z) (crM k M cr (upP Lb Lv (path >>> (4 &&& 31)) fc).2) H := hm
    refine lv_astore_n (lv' := [(2, .ref a), (0, .ref x), (1, .int path)]) hx hb dX5_parentWithRoom_7 rfl hl (by decide) rfl (fun ls hl => ?_)
    refine lv_aload_n hx hb dX5_parentWithRoom_8 rfl (lv_at hl 0 rfl) ?_
    refine lv_ifnonnull (tgt := 23) hx hb dX5_parentWithRoom_9 (by decide) ?_
    refine lv_aload_n hx hb dX5_parentWithRoom_23 rfl (lv_at hl 0 rfl) ?_
    refine m_get (T := TX2) (N := 4) (ci := 2) (v := .int w.2.1) hx hb hts wX2 hown hK hm hna rfl 1 (by decide) f159 (fun _ h9 => h9) rfl dX5_parentWithRoom_24 ?_
    refine lv_if_ne (tgt := 41) hx hb dX5_parentWithRoom_27 (by decide) (fun c1 => ?_) (fun c1 => ?_)
    · refine lv_aload_n hx hb dX5_parentWithRoom_41 rfl (lv_at hl 1 rfl) ?_
      refine lv_aload_n hx hb dX5_parentWithRoom_42 rfl (lv_at hl 0 rfl) ?_
      refine lv_iload_n hx hb dX5_parentWithRoom_43 rfl (lv_at hl 2 rfl) ?_
      refine lv_bipush (v := 15) hx hb dX5_parentWithRoom_44 (by decide) ?_
      refine lv_iand hx hb dX5_parentWithRoom_46 ?_
      refine m_kV (As := [.ref a, .int (path &&& 15)]) (rest := []) (rm := { frames := 2, cells := 0, slots := 0, locals := 50 }) ⟨hx, hb, hml, hown, hts⟩ (c_X3_step l D k z _ x bs vw mk cr fr bn vn gb gv Lb Lv (upP Lb Lv (path >>> (4 &&& 31)) fc).2 op md hX1 hB1 hV1 crM_self a w (path &&& 15) hN1) (cwV 2 hts gX5_parentWithRoom_X3_step rfl rfl rfl (by decide +kernel) ⟨Nat.le_of_ble_eq_true rfl, Nat.le_of_ble_eq_true rfl⟩) (m_recv hK hm (q := (RX3, TX3, 7)) rfl hX1) hz hcx hm hS rfl hl.1 rfl (Nat.le_of_ble_eq_true rfl) dX5_parentWithRoom_47 ⟨Nat.le_of_ble_eq_true rfl, Nat.le_of_ble_eq_true rfl⟩ (fun v M1 H locs hv hm hS => ?_)
      have hv := hv.resolve_left (fun h => c1 h.1)
      obtain ⟨hw1, rfl, hM2⟩ := hv
      rw [crM_crM] at hM2
      rw [hM2] at hm
      have hN2 : nodeAt k (crM k M cr (lookF (upP Lb Lv (path >>> (4 &&& 31)) fc).2 Lb w (path &&& 15))) a w := crM_crM k M cr _ _ ▸ nodeAt_cr hN1 crM_self
      rcases findA_cases (ndc w (path &&& 15)) hV1 with ⟨hf, hlk, -⟩ | ⟨j9, v9, b, -, -, -, hlk, -, hf, -, hnd9⟩
      · rw [hf]
        refine W.eq (g2 := F0 m 50 ls [.null]) rfl ?_
        refine W.widen (k := 0) (n := 0) (Nat.le_of_ble_eq_true rfl) (Nat.le_of_ble_eq_true rfl) ?_
        have hm : mm D (AZ z) (crM k M cr (lookF (upP Lb Lv (path >>> (4 &&& 31)) fc).2 Lb w (path &&& 15))) H := hm
        refine lv_ifnullN (tgt := 64) hx hb dX5_parentWithRoom_50 (by decide) ?_
        refine lv_aload_n hx hb dX5_parentWithRoom_64 rfl (lv_at hl 0 rfl) ?_
        refine W.widen (k := 1) (n := 6) (by omega) (by omega) ?_
        refine vx_ret ?_
        refine W.aret (v := .ref a) hx hb hr (Or.inl ⟨_, rfl⟩) (Or.inr ⟨_, rfl⟩) (fun t ht hW => ⟨⟨some (.ref a), _, rfl, ?_, by rw [ht]; exact hm⟩, hS.F ht⟩) hS.2.2 dX5_parentWithRoom_65
        exact ⟨a, w, hcn, hw1, hlk, rfl, rfl, hN2⟩
      · rw [hf]
        refine W.eq (g2 := F0 m 50 ls [.ref b]) rfl ?_
        refine W.widen (k := 0) (n := 0) (Nat.le_of_ble_eq_true rfl) (Nat.le_of_ble_eq_true rfl) ?_
        have hm : mm D (AZ z) (crM k M cr (lookF (upP Lb Lv (path >>> (4 &&& 31)) fc).2 Lb w (path &&& 15))) H := hm
        refine lv_ifnull hx hb dX5_parentWithRoom_50 ?_
        obtain ⟨sa, hsa⟩ := hcx.2.2.1 (273, "there is something at the path") (by decide)
        refine vx_throwSW (own := RX5) (cls := "java/lang/UnsupportedOperationException") (text := "there is something at the path") (names := ["java/lang/RuntimeException", "java/lang/Exception"]) (ik := 86) (is := 273) (ic := 90) (A := AZ z) hx hb hlt hown (by decide) (by decide) (hts (.classLink RX5 86 "java/lang/UnsupportedOperationException") (by decide +kernel)) (hts (.initialized "java/lang/UnsupportedOperationException") (by decide +kernel)) hsa (vx_hat (B := DW) (fun w h => hts w (List.mem_cons_of_mem _ (List.mem_append_right _ h))) (by decide +kernel) (hcx.dw _)) (by decide +kernel) hcx.2.1.1 hcx.2.1.2 hS (hl.1.trans hml.symm) dX5_parentWithRoom_53 dX5_parentWithRoom_56 dX5_parentWithRoom_57 dX5_parentWithRoom_60 dX5_parentWithRoom_63 (fun x hx => (hnt x hx).elim) (Nat.le_of_ble_eq_true rfl) (Nat.le_of_ble_eq_true rfl) (Nat.le_of_ble_eq_true rfl) (Nat.le_of_ble_eq_true rfl) hlocks (fun t hvm hz1 hq => ⟨⟨_, ?_, hm.kept hq⟩, ⟨Nat.le_trans hS.1 hz1, fun q h1 h2 => (hq q (Nat.lt_of_lt_of_le h1 hS.1)).trans (hS.2.1 q h1 h2)⟩⟩) hS.2.2 (Nat.le_of_ble_eq_true rfl) (Nat.le_of_ble_eq_true rfl)
        exact Or.inr (Or.inr ⟨w, v9, hcn, hw1, hlk, rfl, rfl⟩)
    · obtain ⟨sa, hsa⟩ := hcx.2.2.1 (271, "the path without its last name is a file's") (by decide)
      refine vx_throwSW (own := RX5) (cls := "java/lang/UnsupportedOperationException") (text := "the path without its last name is a file's") (names := ["java/lang/RuntimeException", "java/lang/Exception"]) (ik := 86) (is := 271) (ic := 90) (A := AZ z) hx hb hlt hown (by decide) (by decide) (hts (.classLink RX5 86 "java/lang/UnsupportedOperationException") (by decide +kernel)) (hts (.initialized "java/lang/UnsupportedOperationException") (by decide +kernel)) hsa (vx_hat (B := DW) (fun w h => hts w (List.mem_cons_of_mem _ (List.mem_append_right _ h))) (by decide +kernel) (hcx.dw _)) (by decide +kernel) hcx.2.1.1 hcx.2.1.2 hS (hl.1.trans hml.symm) dX5_parentWithRoom_30 dX5_parentWithRoom_33 dX5_parentWithRoom_34 dX5_parentWithRoom_37 dX5_parentWithRoom_40 (fun x hx => (hnt x hx).elim) (Nat.le_of_ble_eq_true rfl) (Nat.le_of_ble_eq_true rfl) (Nat.le_of_ble_eq_true rfl) (Nat.le_of_ble_eq_true rfl) hlocks (fun t hvm hz1 hq => ⟨⟨_, ?_, hm.kept hq⟩, ⟨Nat.le_trans hS.1 hz1, fun q h1 h2 => (hq q (Nat.lt_of_lt_of_le h1 hS.1)).trans (hS.2.1 q h1 h2)⟩⟩) hS.2.2 (Nat.le_of_ble_eq_true rfl) (Nat.le_of_ble_eq_true rfl)
      exact Or.inr (Or.inl ⟨w, hcn, c1, rfl, rfl⟩)
