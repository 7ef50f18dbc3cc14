set_option maxRecDepth 100000 in
theorem nx_in : ∀ w ∈ (nx_atS RX5 158 "java/util/NoSuchElementException" 13 prog_21_method_4_code "java/lang/RuntimeException" ["java/lang/Exception"]).filter goodWord, w ∈ lw_tbl := by decide +kernel

/-- a path looked up in a view: the node there, and the bits of what is READ -/
def upP (Lb Lv : List NV) (path : Int32) (fc : Nat → Int64) : Option NV × (Nat → Int64) := upV Lb Lv path 7 (lookL 1 Lv) fc

set_option maxHeartbeats 4000000 in
set_option maxRecDepth 100000 in
theorem c_X5_measuredFile (l : Launch) (hlt : l.stackTraces = false) (D : va_G) (k : Nat → ClassId) (z : Nat) (M : mM) (x bs vw mk cr fr bn vn : Nat) (gb gv : Nat → Option Nat) (Lb Lv : List NV) (fc ff : Nat → Int64) (op md : Int32) (hcf : fr ≠ cr) (hX : M x = some (.inr (3, [.ref bs, .ref vw, .ref mk, .ref cr, .ref fr, .int op, .int md]))) (hB : treeAt k M bs bn gb Lb) (hV : treeAt k M vw vn gv Lv) (hC : M cr = some (.inl (k 1, 60, .inr (.inl fc)))) (hF : M fr = some (.inl (k 1, 60, .inr (.inl ff)))) (path : Int32) : mC l yX5_measuredFile wsX5_measuredFile ({ frames := 7, cells := 2, slots := 12, locals := 102 }) D k z [.ref x, .int path] M (fun v M' => isP path ∧ ∃ a w, (upP Lb Lv path fc).1 = some w ∧ w.2.1 = 0 ∧ v = some (.ref a) ∧ M' = crM k (crM k M cr (upP Lb Lv path fc).2) fr (lookFS ff Lb w) ∧ nodeAt k M' a w) (fun E M' => (¬ isP path ∧ E = "java/lang/IllegalArgumentException" ∧ M' = M) ∨ (isP path ∧ (upP Lb Lv path fc).1 = none ∧ E = "java/util/NoSuchElementException" ∧ M' = (crM k M cr (upP Lb Lv path fc).2)) ∨ (isP path ∧ ∃ w, (upP Lb Lv path fc).1 = some w ∧ w.2.1 ≠ 0 ∧ E = "java/lang/UnsupportedOperationException" ∧ M' = (crM k M cr (upP Lb Lv path fc).2))) := by
  refine vx_ofW (cc := cX5_measuredFile) (maxL := 3) (ret := (some (.object "CommitTree$Node"))) (by decide) rfl ?_
  intro p e s m args below meth c s₁ B hml hnt hv
  obtain ⟨rfl, hz, hcx, hm⟩ := hv
  have hx := B.exec
  have hb := B.bytes
  have hr := B.returns
  have hts := atoms_spec (ws := wsX5_measuredFile) B.pre
  have hown : s.vm.findClass RX5 = some m.cls := findClass_of_methodNamed B.named
  have hlocks := B.notSynchronized
  have hK := hcx.1
  have hS : va_S (AZ z) s.heap s.heap [] := va_S.rf
  have hA : ∀ q, s.heap.size ≤ q → AZ z q := fun q h => Nat.le_trans hz h
  have hl := lv_entry ([.ref x, .int path]) (n := 3) (Nat.le_of_ble_eq_true rfl)
  rw [lg_entry_eq]
  generalize (lg_sl ([.ref x, .int path]) ++ List.replicate (3 - (lg_sl ([.ref x, .int path])).length) Slot.unset).toArray = ls at hl ⊢
  have hl : lv_has ls 3 [(0, .ref x), (1, .int path)] := hl
  have f159 := hts (.fieldLink RX5 159 "CommitTree$Node" "directory" "Z") (by decide +kernel)
  have wX2 : ∀ w ∈ wsX20, w ∈ wsX5_measuredFile := by decide +kernel
  refine lv_iload_n hx hb dX5_measuredFile_0 rfl (lv_at hl 1 rfl) ?_
  refine m_cS (As := [.int path]) (rest := []) (rm := { frames := 6, cells := 1, slots := 6, locals := 82 }) ⟨hx, hb, hml, hown, hts⟩ (c_X5_needPath l hlt D k z _ path) (cwS 1 hts gX5_measuredFile_X5_needPath rfl rfl rfl (by decide +kernel) ⟨Nat.le_of_ble_eq_true rfl, Nat.le_of_ble_eq_true rfl⟩) hz hcx hm hS rfl hl.1 rfl (Nat.le_of_ble_eq_true rfl) dX5_measuredFile_1 ⟨Nat.le_of_ble_eq_true rfl, Nat.le_of_ble_eq_true rfl⟩ (fun E ce q9 M1 H locs hv hm hS hce hcv hcl => ?_) (fun v M1 H locs hv hm hS => ?_)
  · refine vx_out (fun x hx => (hnt x hx).elim) hlocks hce hcv hcl (fun t ht hvm => ⟨⟨_, ?_, by rw [ht]; exact hm⟩, hS.F ht⟩) hS.2.2 (Nat.le_of_ble_eq_true rfl) (Nat.le_of_ble_eq_true rfl)
    obtain ⟨hv1, rfl, hM1⟩ := hv
    exact Or.inl ⟨hv1, rfl, hM1⟩
  obtain ⟨hp, rfl, hM1⟩ := hv
  rw [hM1] at hm
  refine W.eq (g2 := F0 m 4 ls []) rfl ?_
  refine W.widen (k := 1) (n := 6) (Nat.le_of_ble_eq_true rfl) (Nat.le_of_ble_eq_true rfl) ?_
  have hm : mm D (AZ z) M H := hm
  refine lv_aload_n hx hb dX5_measuredFile_4 rfl (lv_at hl 0 rfl) ?_
  refine lv_iload_n hx hb dX5_measuredFile_5 rfl (lv_at hl 1 rfl) ?_
  refine m_kV (As := [.int path]) (rest := []) (rm := { frames := 3, cells := 0, slots := 0, locals := 75 }) ⟨hx, hb, hml, hown, hts⟩ (c_X3_lookUp l D k z _ x bs vw mk cr fr bn vn gb gv Lb Lv fc op md hX hB hV hC path) (cwV 1 hts gX5_measuredFile_X3_lookUp rfl rfl rfl (by decide +kernel) ⟨Nat.le_of_ble_eq_true rfl, Nat.le_of_ble_eq_true rfl⟩) (m_recv hK hm (q := (RX3, TX3, 7)) rfl hX) hz hcx hm hS rfl hl.1 rfl (Nat.le_of_ble_eq_true rfl) dX5_measuredFile_6 ⟨Nat.le_of_ble_eq_true rfl, Nat.le_of_ble_eq_true rfl⟩ (fun v M1 H locs hv hm hS => ?_)
  obtain ⟨r, rfl, hM1, hcu⟩ := hv
  rw [show (upV Lb Lv path 7 (lookL 1 Lv) fc) = upP Lb Lv path fc from rfl] at hM1 hcu
  rw [hM1] at hm hcu
  have hX1 := obj_cr (f' := (upP Lb Lv path fc).2) hX hC
  have hB1 := treeAt_cr (f' := (upP Lb Lv path fc).2) hB hC
  have hF1 : (crM k M cr (upP Lb Lv path fc).2) fr = some (.inl (k 1, 60, .inr (.inl ff))) := (mu_ne hcf).trans hF
  rcases hcu with ⟨rfl, hcn⟩ | ⟨a, w, rfl, hcn, hN1⟩
  · refine W.eq (g2 := F0 m 9 ls [.null]) rfl ?_
    refine W.widen (k := 1) (n := 6) (Nat.le_of_ble_eq_true rfl) (Nat.le_of_ble_eq_true rfl) ?_
    have hm : mm D (AZ z) (crM k M cr (upP Lb Lv path fc).2) H := hm
    refine lv_astore_nN (lv' := [(2, .null), (0, .ref x), (1, .int path)]) hx hb dX5_measuredFile_9 rfl hl (by decide) rfl (fun ls hl => ?_)
    refine lv_aload_nN hx hb dX5_measuredFile_10 rfl (lv_at hl 0 rfl) ?_
    refine lv_ifnonnullN hx hb dX5_measuredFile_11 ?_
    obtain ⟨sa, hsa⟩ := hcx.2.2.1 (156, "there is nothing at the path") (by decide)
    refine nx_throwS (own := RX5) (cls := "java/util/NoSuchElementException") (Y := "java/lang/RuntimeException") (text := "there is nothing at the path") (names := ["java/lang/Exception"]) (ik := 154) (is := 156) (ic := 158) (i1 := 13) (b1 := prog_21_method_4_code) (A := AZ z) hx hb hlt hown (by decide) (by decide) (by decide) (by decide +kernel) (by decide +kernel) (by decide +kernel) (by decide +kernel) (hts (.classLink RX5 154 "java/util/NoSuchElementException") (by decide +kernel)) (hts (.initialized "java/util/NoSuchElementException") (by decide +kernel)) hsa (vx_hat (B := DW) (fun w h => hts w (List.mem_cons_of_mem _ (List.mem_append_left _ (List.mem_append_left _ (List.mem_append_right _ h))))) (by decide +kernel) (hcx.dw _)) (by decide +kernel) hcx.2.1.1 hcx.2.1.2 hS (hl.1.trans hml.symm) dX5_measuredFile_14 dX5_measuredFile_17 dX5_measuredFile_18 dX5_measuredFile_20 dX5_measuredFile_23 (fun x hx => (hnt x hx).elim) (Nat.le_of_ble_eq_true rfl) (Nat.le_of_ble_eq_true rfl) (Nat.le_of_ble_eq_true rfl) (Nat.le_of_ble_eq_true rfl) hlocks (fun t hvm hz1 hq => ⟨⟨_, ?_, hm.kept hq⟩, ⟨Nat.le_trans hS.1 hz1, fun q h1 h2 => (hq q (Nat.lt_of_lt_of_le h1 hS.1)).trans (hS.2.1 q h1 h2)⟩⟩) hS.2.2 (Nat.le_of_ble_eq_true rfl) (Nat.le_of_ble_eq_true rfl)
    exact Or.inr (Or.inl ⟨hp, hcn, rfl, rfl⟩)
  · obtain ⟨hdr, ca, hna, hca⟩ := And.intro hN1.1 hN1.2
    refine W.eq (g2 := F0 m 9 ls [.ref a]) rfl ?_
    refine W.widen (k := 1) (n := 6) (Nat.le_of_ble_eq_true rfl) (Nat.le_of_ble_eq_true rfl) ?_
    have hm : mm D (AZ z) (crM k M cr (upP Lb Lv path fc).2) H := hm
    refine lv_astore_n (lv' := [(2, .ref a), (0, .ref x), (1, .int path)]) hx hb dX5_measuredFile_9 rfl hl (by decide) rfl (fun ls hl => ?_)
    refine lv_aload_n hx hb dX5_measuredFile_10 rfl (lv_at hl 0 rfl) ?_
    refine lv_ifnonnull (tgt := 24) hx hb dX5_measuredFile_11 (by decide) ?_
    refine lv_aload_n hx hb dX5_measuredFile_24 rfl (lv_at hl 0 rfl) ?_
    refine m_get (T := TX2) (N := 4) (ci := 2) (v := .int w.2.1) hx hb hts wX2 hown hK hm hna rfl 1 (by decide) f159 (fun _ h9 => h9) rfl dX5_measuredFile_25 ?_
    refine lv_if_eq (tgt := 42) hx hb dX5_measuredFile_28 (by decide) (fun c1 => ?_) (fun c1 => ?_)
    · refine lv_aload_n hx hb dX5_measuredFile_42 rfl (lv_at hl 1 rfl) ?_
      refine lv_aload_n hx hb dX5_measuredFile_43 rfl (lv_at hl 0 rfl) ?_
      refine m_kV (As := [.ref a]) (rest := []) (rm := { frames := 1, cells := 0, slots := 0, locals := 24 }) ⟨hx, hb, hml, hown, hts⟩ (c_X3_lookAtSize l D k z _ x bs vw mk cr fr bn a gb Lb fc ff op md w hX1 hB1 hN1 hF1) (cwV 1 hts gX5_measuredFile_X3_lookAtSize rfl rfl rfl (by decide +kernel) ⟨Nat.le_of_ble_eq_true rfl, Nat.le_of_ble_eq_true rfl⟩) (m_recv hK hm (q := (RX3, TX3, 7)) rfl hX1) hz hcx hm hS rfl hl.1 rfl (Nat.le_of_ble_eq_true rfl) dX5_measuredFile_44 ⟨Nat.le_of_ble_eq_true rfl, Nat.le_of_ble_eq_true rfl⟩ (fun v M1 H locs hv hm hS => ?_)
      obtain ⟨rfl, hM2⟩ := hv
      rw [lookS_eq hF1] at hM2
      rw [hM2] at hm
      have hN2 : nodeAt k (crM k (crM k M cr (upP Lb Lv path fc).2) fr (lookFS ff Lb w)) a w := nodeAt_cr hN1 hF1
      refine W.eq (g2 := F0 m 47 ls []) rfl ?_
      refine W.widen (k := 1) (n := 6) (Nat.le_of_ble_eq_true rfl) (Nat.le_of_ble_eq_true rfl) ?_
      have hm : mm D (AZ z) (crM k (crM k M cr (upP Lb Lv path fc).2) fr (lookFS ff Lb w)) H := hm
      refine lv_aload_n hx hb dX5_measuredFile_47 rfl (lv_at hl 0 rfl) ?_
      refine W.widen (k := 2) (n := 12) (by omega) (by omega) ?_
      refine vx_ret ?_
      refine W.aret (v := .ref a) hx hb hr (Or.inl ⟨_, rfl⟩) (Or.inr ⟨_, rfl⟩) (fun t ht hW => ⟨⟨some (.ref a), _, rfl, ?_, by rw [ht]; exact hm⟩, hS.F ht⟩) hS.2.2 dX5_measuredFile_48
      exact ⟨hp, a, w, hcn, c1, rfl, rfl, hN2⟩
    · obtain ⟨sa, hsa⟩ := hcx.2.2.1 (275, "it is a directory") (by decide)
      refine vx_throwSW (own := RX5) (cls := "java/lang/UnsupportedOperationException") (text := "it is a directory") (names := ["java/lang/RuntimeException", "java/lang/Exception"]) (ik := 86) (is := 275) (ic := 90) (A := AZ z) hx hb hlt hown (by decide) (by decide) (hts (.classLink RX5 86 "java/lang/UnsupportedOperationException") (by decide +kernel)) (hts (.initialized "java/lang/UnsupportedOperationException") (by decide +kernel)) hsa (vx_hat (B := DW) (fun w h => hts w (List.mem_cons_of_mem _ (List.mem_append_left _ (List.mem_append_right _ h)))) (by decide +kernel) (hcx.dw _)) (by decide +kernel) hcx.2.1.1 hcx.2.1.2 hS (hl.1.trans hml.symm) dX5_measuredFile_31 dX5_measuredFile_34 dX5_measuredFile_35 dX5_measuredFile_38 dX5_measuredFile_41 (fun x hx => (hnt x hx).elim) (Nat.le_of_ble_eq_true rfl) (Nat.le_of_ble_eq_true rfl) (Nat.le_of_ble_eq_true rfl) (Nat.le_of_ble_eq_true rfl) hlocks (fun t hvm hz1 hq => ⟨⟨_, ?_, hm.kept hq⟩, ⟨Nat.le_trans hS.1 hz1, fun q h1 h2 => (hq q (Nat.lt_of_lt_of_le h1 hS.1)).trans (hS.2.1 q h1 h2)⟩⟩) hS.2.2 (Nat.le_of_ble_eq_true rfl) (Nat.le_of_ble_eq_true rfl)
      exact Or.inr (Or.inr ⟨hp, w, hcn, c1, rfl, rfl⟩)
