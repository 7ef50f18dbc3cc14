set_option maxHeartbeats 4000000 in
set_option maxRecDepth 100000 in
theorem t_X1_weighNode_RRR1 (l : Launch) (D : va_G) (k : Nat → ClassId) (z : Nat) (M : mM) (κ : Nat → Option KD) (h0 : Nat) (r0 : Nat) (r1 : Nat) (r2 : Nat) (hk_h0 : κ h0 = some .merge) (hk_r0 : κ r0 = some .node) (hk_r1 : κ r1 = some .node) (hk_r2 : κ r2 = some .node) (hT : TM k κ M) : mK l yX1_weighNode wsX1_weighNode ({ frames := 2, cells := 0, slots := 0, locals := 49 }) D k z [.ref h0, .ref r0, .ref r1, .ref r2, .int 1] M (fun v M' => ∃ κ', TM k κ' M' ∧ kx κ M κ' M' ∧ v = none) := by
  refine Met.ofW (cc := cX1_weighNode) (maxL := 7) (ret := none) (by decide) rfl ?_
  intro p e s m args below meth c s₁ B hml hv
  obtain ⟨rfl, hz, hcx, hm⟩ := hv
  have hx := B.exec
  have hb := B.bytes
  have hr := B.returns
  have hts := atoms_spec (ws := wsX1_weighNode) B.pre
  have hown : s.vm.findClass RX1 = some m.cls := findClass_of_methodNamed B.named
  have hlocks := B.notSynchronized
  have hK := hcx.1
  have hS : va_S (AZ z) s.heap s.heap [] := va_S.rf
  have hA : ∀ q, s.heap.size ≤ q → AZ z q := fun q h => Nat.le_trans hz h
  have hl := lv_entry ([.ref h0, .ref r0, .ref r1, .ref r2, .int 1]) (n := 7) (Nat.le_of_ble_eq_true rfl)
  rw [lg_entry_eq]
  generalize (lg_sl ([.ref h0, .ref r0, .ref r1, .ref r2, .int 1]) ++ List.replicate (7 - (lg_sl ([.ref h0, .ref r0, .ref r1, .ref r2, .int 1])).length) Slot.unset).toArray = ls at hl ⊢
  have hl : lv_has ls 7 [(0, .ref h0), (1, .ref r0), (2, .ref r1), (3, .ref r2), (4, .int 1)] := hl
  have f9 := hts (.fieldLink RX1 9 "CommitTree$Merge" "items" "I") (by decide +kernel)
  have f15 := hts (.fieldLink RX1 15 "CommitTree$Merge" "nodes" "I") (by decide +kernel)
  have f18 := hts (.fieldLink RX1 18 "CommitTree$Merge" "blocks" "I") (by decide +kernel)
  have f21 := hts (.fieldLink RX1 21 "CommitTree$Merge" "home" "I") (by decide +kernel)
  have f64 := hts (.fieldLink RX1 64 "CommitTree$Node" "directory" "Z") (by decide +kernel)
  have f68 := hts (.fieldLink RX1 68 "CommitTree$Node" "cells" "[I") (by decide +kernel)
  have f80 := hts (.fieldLink RX1 80 "CommitTree$Node" "size" "I") (by decide +kernel)
  have wX1 : ∀ w ∈ wsX10, w ∈ wsX1_weighNode := by decide +kernel
  have wX2 : ∀ w ∈ wsX20, w ∈ wsX1_weighNode := by decide +kernel
  have hT0 := hT
  have hE : kx κ M κ M := kx.refl _ _
  refine lv_iconst (v := 0) hx hb dX1_weighNode_0 (by decide) ?_
  refine lv_istore (lv' := [(5, .int 0), (0, .ref h0), (1, .ref r0), (2, .ref r1), (3, .ref r2), (4, .int 1)]) hx hb dX1_weighNode_1 hl (by decide) rfl (fun ls hl => ?_)
  refine lv_iconst (v := 0) hx hb dX1_weighNode_3 (by decide) ?_
  refine lv_istore (lv' := [(6, .int 0), (5, .int 0), (0, .ref h0), (1, .ref r0), (2, .ref r1), (3, .ref r2), (4, .int 1)]) hx hb dX1_weighNode_4 hl (by decide) rfl (fun ls hl => ?_)
  refine W_loop (σ := Nat × Int32) (fun ⟨j1, y2⟩ H locs ls => (j1 < 2147483648) ∧ mm D (AZ z) M H ∧ va_S (AZ z) s.heap H locs ∧ lv_has ls 7 [(6, .int (nI j1)), (5, .int y2), (0, .ref h0), (1, .ref r0), (2, .ref r1), (3, .ref r2), (4, .int 1)]) (fun ⟨j1, y2⟩ => 2147483648 - j1) (fun ⟨j1, y2⟩ => 0) (fun ⟨j1, y2⟩ => 0) ?_ (0, 0) _ _ _ ⟨(by decide), hm, hS, lv_sub hl [0, 1, 2, 3, 4, 5, 6] rfl⟩
  intro ⟨j1, y2⟩ H locs ls hQ ih6
  obtain ⟨hbj1, hm, hS, hl⟩ := hQ
  try dsimp only at hm hl ih6 hbj1 ⊢
  refine lv_iload hx hb dX1_weighNode_6 (lv_at hl 0 rfl) ?_
  refine lv_aload_n hx hb dX1_weighNode_8 rfl (lv_at hl 4 rfl) ?_
  obtain ⟨v0_3, v1_3, v2_3, v3_3, hM_r1_3, hz_v1_3, hk_v3_3⟩ := hT.node hk_r1
  refine m_get (T := TX2) (N := 4) (ci := 2) (v := .ref v3_3) hx hb hts wX2 hown hK hm hM_r1_3 rfl 3 (by decide) f68 (fun _ h9 => h9) rfl dX1_weighNode_9 ?_
  obtain ⟨n_4, f_4, hM_v3_3_4, hn_4⟩ := hT.ints hk_v3_3
  refine m_alen hx hb hK hm 0 hM_v3_3_4 rfl (v := nI n_4) rfl dX1_weighNode_12 ?_
  refine lv_icmp_ge (tgt := 49) hx hb dX1_weighNode_13 (by decide) (fun c5 => ?_) (fun c5 => ?_)
  · refine lv_aload_n hx hb dX1_weighNode_49 rfl (lv_at hl 3 rfl) ?_
    obtain ⟨v0_6, v1_6, v2_6, v3_6, hM_r0_6, hz_v1_6, hk_v3_6⟩ := hT.node hk_r0
    refine m_get (T := TX2) (N := 4) (ci := 2) (v := .int v2_6) hx hb hts wX2 hown hK hm hM_r0_6 rfl 2 (by decide) f80 (fun _ h9 => h9) rfl dX1_weighNode_50 ?_
    refine lv_aload_n hx hb dX1_weighNode_53 rfl (lv_at hl 4 rfl) ?_
    refine m_get (T := TX2) (N := 4) (ci := 2) (v := .int v2_3) hx hb hts wX2 hown hK hm hM_r1_3 rfl 2 (by decide) f80 (fun _ h9 => h9) rfl dX1_weighNode_54 ?_
    refine lv_aload_n hx hb dX1_weighNode_57 rfl (lv_at hl 5 rfl) ?_
    obtain ⟨v0_7, v1_7, v2_7, v3_7, hM_r2_7, hz_v1_7, hk_v3_7⟩ := hT.node hk_r2
    refine m_get (T := TX2) (N := 4) (ci := 2) (v := .int v2_7) hx hb hts wX2 hown hK hm hM_r2_7 rfl 2 (by decide) f80 (fun _ h9 => h9) rfl dX1_weighNode_58 ?_
    refine m_kS (As := [.int v2_6, .int v2_3, .int v2_7]) (rest := []) (rm := { frames := 0, cells := 0, slots := 0, locals := 0 }) ⟨hx, hb, hml, hown, hts⟩ (t_X1_comes_III l D k z _ _ v2_6 v2_3 v2_7  hT) (cwS 3 hts gX1_weighNode_X1_comes rfl rfl rfl (by decide +kernel) ⟨Nat.le_of_ble_eq_true rfl, Nat.le_of_ble_eq_true rfl⟩) hz hcx hm hS rfl hl.1 rfl (Nat.le_of_ble_eq_true rfl) dX1_weighNode_61 ⟨Nat.le_of_ble_eq_true rfl, Nat.le_of_ble_eq_true rfl⟩ (fun v M1 H locs hv hm hS => ?_)
    obtain ⟨hv1, hM1⟩ := hv
    rw [hM1] at hm
    rcases hv1 with hv1 | hv1
    · subst hv1
      refine W.eq (g2 := F0 m 64 ls [.int 0]) rfl ?_
      refine W.widen (k := 0) (n := 0) (Nat.le_of_ble_eq_true rfl) (Nat.le_of_ble_eq_true rfl) ?_
      have hm : mm D (AZ z) M H := hm
      refine lv_istore (lv' := [(6, .int 0), (5, .int y2), (0, .ref h0), (1, .ref r0), (2, .ref r1), (3, .ref r2), (4, .int 1)]) hx hb dX1_weighNode_64 hl (by decide) rfl (fun ls hl => ?_)
      refine lv_aload_n hx hb dX1_weighNode_66 rfl (lv_at hl 2 rfl) ?_
      refine lv_dup hx hb dX1_weighNode_67 rfl ?_
      obtain ⟨v0_8, v1_8, v2_8, v3_8, v4_8, v5_8, hM_h0_8, hk_v4_8, hk_v5_8⟩ := hT.merge hk_h0
      refine m_get (T := TX1) (N := 6) (ci := 1) (v := .int v0_8) hx hb hts wX1 hown hK hm hM_h0_8 rfl 0 (by decide) f9 (fun _ h9 => h9) rfl dX1_weighNode_68 ?_
      refine lv_iload hx hb dX1_weighNode_71 (lv_at hl 1 rfl) ?_
      refine lv_iload hx hb dX1_weighNode_73 (lv_at hl 0 rfl) ?_
      refine lv_if_eq (tgt := 82) hx hb dX1_weighNode_75 (by decide) (fun c9 => ?_) (fun c9 => ?_)
      · refine lv_iconst (v := 0) hx hb dX1_weighNode_82 (by decide) ?_
        refine lv_iadd hx hb dX1_weighNode_83 ?_
        refine lv_iadd hx hb dX1_weighNode_84 ?_
        refine m_put (T := TX1) (N := 6) (ci := 1) (v := .int (v0_8 + (y2 + 0))) (ty := .int) hx hb hts wX1 tyX1 tyX1_ok nmX1 hown hK hm hS hM_h0_8 rfl 0 (by decide) f9 (fun _ h9 => h9) rfl (by decide +kernel) rfl rfl (Nat.le_of_ble_eq_true rfl) dX1_weighNode_85 (fun H locs hm hS => ?_)
        have hm : mm D (AZ z) (mu M h0 (.inr (1, [.int (v0_8 + (y2 + 0)), .int v1_8, .int v2_8, .int v3_8, .ref v4_8, .ref v5_8]))) H := hm
        have hR_10 : (mu M h0 (.inr (1, [.int (v0_8 + (y2 + 0)), .int v1_8, .int v2_8, .int v3_8, .ref v4_8, .ref v5_8]))) r1 = _ := (mu_ne (kd_ne hk_r1 hk_h0 (by decide))).trans hM_r1_3
        have hR_11 : (mu M h0 (.inr (1, [.int (v0_8 + (y2 + 0)), .int v1_8, .int v2_8, .int v3_8, .ref v4_8, .ref v5_8]))) v3_3 = _ := (mu_ne (kd_ne hk_v3_3 hk_h0 (by decide))).trans hM_v3_3_4
        have hR_12 : (mu M h0 (.inr (1, [.int (v0_8 + (y2 + 0)), .int v1_8, .int v2_8, .int v3_8, .ref v4_8, .ref v5_8]))) r0 = _ := (mu_ne (kd_ne hk_r0 hk_h0 (by decide))).trans hM_r0_6
        have hR_13 : (mu M h0 (.inr (1, [.int (v0_8 + (y2 + 0)), .int v1_8, .int v2_8, .int v3_8, .ref v4_8, .ref v5_8]))) r2 = _ := (mu_ne (kd_ne hk_r2 hk_h0 (by decide))).trans hM_r2_7
        have hT : TM k κ (mu M h0 (.inr (1, [.int (v0_8 + (y2 + 0)), .int v1_8, .int v2_8, .int v3_8, .ref v4_8, .ref v5_8]))) := hT.put hk_h0 (show wf k κ .merge (.inr (1, [.int (v0_8 + (y2 + 0)), .int v1_8, .int v2_8, .int v3_8, .ref v4_8, .ref v5_8])) from ⟨(v0_8 + (y2 + 0)), v1_8, v2_8, v3_8, v4_8, v5_8, rfl, hk_v4_8, hk_v5_8⟩)
        have hE : kx κ M κ (mu M h0 (.inr (1, [.int (v0_8 + (y2 + 0)), .int v1_8, .int v2_8, .int v3_8, .ref v4_8, .ref v5_8]))) := hE.put hk_h0
        generalize (mu M h0 (.inr (1, [.int (v0_8 + (y2 + 0)), .int v1_8, .int v2_8, .int v3_8, .ref v4_8, .ref v5_8]))) = Mc1 at hm hT hE hR_10 hR_11 hR_12 hR_13
        refine lv_aload_n hx hb dX1_weighNode_88 rfl (lv_at hl 2 rfl) ?_
        refine lv_dup hx hb dX1_weighNode_89 rfl ?_
        obtain ⟨v0_14, v1_14, v2_14, v3_14, v4_14, v5_14, hM_h0_14, hk_v4_14, hk_v5_14⟩ := hT.merge hk_h0
        refine m_get (T := TX1) (N := 6) (ci := 1) (v := .int v1_14) hx hb hts wX1 hown hK hm hM_h0_14 rfl 1 (by decide) f15 (fun _ h9 => h9) rfl dX1_weighNode_90 ?_
        refine lv_iconst (v := 1) hx hb dX1_weighNode_93 (by decide) ?_
        refine lv_iadd hx hb dX1_weighNode_94 ?_
        refine m_put (T := TX1) (N := 6) (ci := 1) (v := .int (v1_14 + 1)) (ty := .int) hx hb hts wX1 tyX1 tyX1_ok nmX1 hown hK hm hS hM_h0_14 rfl 1 (by decide) f15 (fun _ h9 => h9) rfl (by decide +kernel) rfl rfl (Nat.le_of_ble_eq_true rfl) dX1_weighNode_95 (fun H locs hm hS => ?_)
        have hm : mm D (AZ z) (mu Mc1 h0 (.inr (1, [.int v0_14, .int (v1_14 + 1), .int v2_14, .int v3_14, .ref v4_14, .ref v5_14]))) H := hm
        have hR_15 : (mu Mc1 h0 (.inr (1, [.int v0_14, .int (v1_14 + 1), .int v2_14, .int v3_14, .ref v4_14, .ref v5_14]))) r1 = _ := (mu_ne (kd_ne hk_r1 hk_h0 (by decide))).trans hR_10
        have hR_16 : (mu Mc1 h0 (.inr (1, [.int v0_14, .int (v1_14 + 1), .int v2_14, .int v3_14, .ref v4_14, .ref v5_14]))) v3_3 = _ := (mu_ne (kd_ne hk_v3_3 hk_h0 (by decide))).trans hR_11
        have hR_17 : (mu Mc1 h0 (.inr (1, [.int v0_14, .int (v1_14 + 1), .int v2_14, .int v3_14, .ref v4_14, .ref v5_14]))) r0 = _ := (mu_ne (kd_ne hk_r0 hk_h0 (by decide))).trans hR_12
        have hR_18 : (mu Mc1 h0 (.inr (1, [.int v0_14, .int (v1_14 + 1), .int v2_14, .int v3_14, .ref v4_14, .ref v5_14]))) r2 = _ := (mu_ne (kd_ne hk_r2 hk_h0 (by decide))).trans hR_13
        have hT : TM k κ (mu Mc1 h0 (.inr (1, [.int v0_14, .int (v1_14 + 1), .int v2_14, .int v3_14, .ref v4_14, .ref v5_14]))) := hT.put hk_h0 (show wf k κ .merge (.inr (1, [.int v0_14, .int (v1_14 + 1), .int v2_14, .int v3_14, .ref v4_14, .ref v5_14])) from ⟨v0_14, (v1_14 + 1), v2_14, v3_14, v4_14, v5_14, rfl, hk_v4_14, hk_v5_14⟩)
        have hE : kx κ M κ (mu Mc1 h0 (.inr (1, [.int v0_14, .int (v1_14 + 1), .int v2_14, .int v3_14, .ref v4_14, .ref v5_14]))) := hE.put hk_h0
        generalize (mu Mc1 h0 (.inr (1, [.int v0_14, .int (v1_14 + 1), .int v2_14, .int v3_14, .ref v4_14, .ref v5_14]))) = Mc2 at hm hT hE hR_15 hR_16 hR_17 hR_18
        refine lv_aload_n hx hb dX1_weighNode_98 rfl (lv_at hl 4 rfl) ?_
        rcases hz_v1_3 with h9 | h9
        · subst h9
          refine m_get (T := TX2) (N := 4) (ci := 2) (v := .int 0) hx hb hts wX2 hown hK hm hR_15 rfl 1 (by decide) f64 (fun _ h9 => h9) rfl dX1_weighNode_99 ?_
          refine lv_if_eq (tgt := 142) hx hb dX1_weighNode_102 (by decide) (fun c19 => ?_) (fun c19 => ?_)
          · refine lv_aload_n hx hb dX1_weighNode_142 rfl (lv_at hl 2 rfl) ?_
            refine lv_dup hx hb dX1_weighNode_143 rfl ?_
            obtain ⟨v0_20, v1_20, v2_20, v3_20, v4_20, v5_20, hM_h0_20, hk_v4_20, hk_v5_20⟩ := hT.merge hk_h0
            refine m_get (T := TX1) (N := 6) (ci := 1) (v := .int v2_20) hx hb hts wX1 hown hK hm hM_h0_20 rfl 2 (by decide) f18 (fun _ h9 => h9) rfl dX1_weighNode_144 ?_
            refine lv_iconst (v := 1) hx hb dX1_weighNode_147 (by decide) ?_
            refine lv_aload_n hx hb dX1_weighNode_148 rfl (lv_at hl 3 rfl) ?_
            refine m_get (T := TX2) (N := 4) (ci := 2) (v := .int v2_6) hx hb hts wX2 hown hK hm hR_17 rfl 2 (by decide) f80 (fun _ h9 => h9) rfl dX1_weighNode_149 ?_
            refine lv_aload_n hx hb dX1_weighNode_152 rfl (lv_at hl 4 rfl) ?_
            refine m_get (T := TX2) (N := 4) (ci := 2) (v := .int v2_3) hx hb hts wX2 hown hK hm hR_15 rfl 2 (by decide) f80 (fun _ h9 => h9) rfl dX1_weighNode_153 ?_
            refine lv_aload_n hx hb dX1_weighNode_156 rfl (lv_at hl 5 rfl) ?_
            refine m_get (T := TX2) (N := 4) (ci := 2) (v := .int v2_7) hx hb hts wX2 hown hK hm hR_18 rfl 2 (by decide) f80 (fun _ h9 => h9) rfl dX1_weighNode_157 ?_
            refine m_kS (As := [.int v2_6, .int v2_3, .int v2_7]) (rest := [.int 1, .int v2_20, .ref h0]) (rm := { frames := 0, cells := 0, slots := 0, locals := 0 }) ⟨hx, hb, hml, hown, hts⟩ (t_X1_merged_III l D k z _ _ v2_6 v2_3 v2_7  hT) (cwS 3 hts gX1_weighNode_X1_merged rfl rfl rfl (by decide +kernel) ⟨Nat.le_of_ble_eq_true rfl, Nat.le_of_ble_eq_true rfl⟩) hz hcx hm hS rfl hl.1 rfl (Nat.le_of_ble_eq_true rfl) dX1_weighNode_160 ⟨Nat.le_of_ble_eq_true rfl, Nat.le_of_ble_eq_true rfl⟩ (fun v M1 H locs hv hm hS => ?_)
            obtain ⟨hv1, hM1⟩ := hv
            rw [hM1] at hm
            obtain ⟨w21, hv1⟩ := hv1
            subst hv1
            refine W.eq (g2 := F0 m 163 ls [.int w21, .int 1, .int v2_20, .ref h0]) rfl ?_
            refine W.widen (k := 0) (n := 0) (Nat.le_of_ble_eq_true rfl) (Nat.le_of_ble_eq_true rfl) ?_
            have hm : mm D (AZ z) Mc2 H := hm
            refine m_kS (As := [.int w21]) (rest := [.int 1, .int v2_20, .ref h0]) (rm := { frames := 0, cells := 0, slots := 0, locals := 0 }) ⟨hx, hb, hml, hown, hts⟩ (t_X2_wordBlocks_I l D k z _ _ w21  hT) (va_cwS 1 hts gX1_weighNode_X2_wordBlocks rfl rfl rfl (by decide +kernel) ⟨Nat.le_of_ble_eq_true rfl, Nat.le_of_ble_eq_true rfl⟩) hz hcx hm hS rfl hl.1 rfl (Nat.le_of_ble_eq_true rfl) dX1_weighNode_163 ⟨Nat.le_of_ble_eq_true rfl, Nat.le_of_ble_eq_true rfl⟩ (fun v M1 H locs hv hm hS => ?_)
            obtain ⟨hv1, hM1⟩ := hv
            rw [hM1] at hm
            obtain ⟨w22, hv1⟩ := hv1
            subst hv1
            refine W.eq (g2 := F0 m 166 ls [.int w22, .int 1, .int v2_20, .ref h0]) rfl ?_
            refine W.widen (k := 0) (n := 0) (Nat.le_of_ble_eq_true rfl) (Nat.le_of_ble_eq_true rfl) ?_
            have hm : mm D (AZ z) Mc2 H := hm
            refine lv_iadd hx hb dX1_weighNode_166 ?_
            refine lv_iadd hx hb dX1_weighNode_167 ?_
            refine m_put (T := TX1) (N := 6) (ci := 1) (v := .int (v2_20 + (1 + w22))) (ty := .int) hx hb hts wX1 tyX1 tyX1_ok nmX1 hown hK hm hS hM_h0_20 rfl 2 (by decide) f18 (fun _ h9 => h9) rfl (by decide +kernel) rfl rfl (Nat.le_of_ble_eq_true rfl) dX1_weighNode_168 (fun H locs hm hS => ?_)
            have hm : mm D (AZ z) (mu Mc2 h0 (.inr (1, [.int v0_20, .int v1_20, .int (v2_20 + (1 + w22)), .int v3_20, .ref v4_20, .ref v5_20]))) H := hm
            have hR_23 : (mu Mc2 h0 (.inr (1, [.int v0_20, .int v1_20, .int (v2_20 + (1 + w22)), .int v3_20, .ref v4_20, .ref v5_20]))) r1 = _ := (mu_ne (kd_ne hk_r1 hk_h0 (by decide))).trans hR_15
            have hR_24 : (mu Mc2 h0 (.inr (1, [.int v0_20, .int v1_20, .int (v2_20 + (1 + w22)), .int v3_20, .ref v4_20, .ref v5_20]))) v3_3 = _ := (mu_ne (kd_ne hk_v3_3 hk_h0 (by decide))).trans hR_16
            have hR_25 : (mu Mc2 h0 (.inr (1, [.int v0_20, .int v1_20, .int (v2_20 + (1 + w22)), .int v3_20, .ref v4_20, .ref v5_20]))) r0 = _ := (mu_ne (kd_ne hk_r0 hk_h0 (by decide))).trans hR_17
            have hR_26 : (mu Mc2 h0 (.inr (1, [.int v0_20, .int v1_20, .int (v2_20 + (1 + w22)), .int v3_20, .ref v4_20, .ref v5_20]))) r2 = _ := (mu_ne (kd_ne hk_r2 hk_h0 (by decide))).trans hR_18
            have hT : TM k κ (mu Mc2 h0 (.inr (1, [.int v0_20, .int v1_20, .int (v2_20 + (1 + w22)), .int v3_20, .ref v4_20, .ref v5_20]))) := hT.put hk_h0 (show wf k κ .merge (.inr (1, [.int v0_20, .int v1_20, .int (v2_20 + (1 + w22)), .int v3_20, .ref v4_20, .ref v5_20])) from ⟨v0_20, v1_20, (v2_20 + (1 + w22)), v3_20, v4_20, v5_20, rfl, hk_v4_20, hk_v5_20⟩)
            have hE : kx κ M κ (mu Mc2 h0 (.inr (1, [.int v0_20, .int v1_20, .int (v2_20 + (1 + w22)), .int v3_20, .ref v4_20, .ref v5_20]))) := hE.put hk_h0
            generalize (mu Mc2 h0 (.inr (1, [.int v0_20, .int v1_20, .int (v2_20 + (1 + w22)), .int v3_20, .ref v4_20, .ref v5_20]))) = Mc3 at hm hT hE hR_23 hR_24 hR_25 hR_26
            refine lv_aload_n hx hb dX1_weighNode_171 rfl (lv_at hl 2 rfl) ?_
            refine lv_dup hx hb dX1_weighNode_172 rfl ?_
            obtain ⟨v0_27, v1_27, v2_27, v3_27, v4_27, v5_27, hM_h0_27, hk_v4_27, hk_v5_27⟩ := hT.merge hk_h0
            refine m_get (T := TX1) (N := 6) (ci := 1) (v := .int v3_27) hx hb hts wX1 hown hK hm hM_h0_27 rfl 3 (by decide) f21 (fun _ h9 => h9) rfl dX1_weighNode_173 ?_
            refine lv_iload hx hb dX1_weighNode_176 (lv_at hl 6 rfl) ?_
            refine lv_if_ne (tgt := 186) hx hb dX1_weighNode_178 (by decide) (fun c28 => ?_) (fun c28 => ?_)
            · refine lv_iconst (v := 1) hx hb dX1_weighNode_186 (by decide) ?_
              refine lv_goto (tgt := 191) hx hb dX1_weighNode_187 (by decide) ?_
              refine lv_iadd hx hb dX1_weighNode_191 ?_
              refine m_put (T := TX1) (N := 6) (ci := 1) (v := .int (v3_27 + 1)) (ty := .int) hx hb hts wX1 tyX1 tyX1_ok nmX1 hown hK hm hS hM_h0_27 rfl 3 (by decide) f21 (fun _ h9 => h9) rfl (by decide +kernel) rfl rfl (Nat.le_of_ble_eq_true rfl) dX1_weighNode_192 (fun H locs hm hS => ?_)
              have hm : mm D (AZ z) (mu Mc3 h0 (.inr (1, [.int v0_27, .int v1_27, .int v2_27, .int (v3_27 + 1), .ref v4_27, .ref v5_27]))) H := hm
              have hR_29 : (mu Mc3 h0 (.inr (1, [.int v0_27, .int v1_27, .int v2_27, .int (v3_27 + 1), .ref v4_27, .ref v5_27]))) r1 = _ := (mu_ne (kd_ne hk_r1 hk_h0 (by decide))).trans hR_23
              have hR_30 : (mu Mc3 h0 (.inr (1, [.int v0_27, .int v1_27, .int v2_27, .int (v3_27 + 1), .ref v4_27, .ref v5_27]))) v3_3 = _ := (mu_ne (kd_ne hk_v3_3 hk_h0 (by decide))).trans hR_24
              have hR_31 : (mu Mc3 h0 (.inr (1, [.int v0_27, .int v1_27, .int v2_27, .int (v3_27 + 1), .ref v4_27, .ref v5_27]))) r0 = _ := (mu_ne (kd_ne hk_r0 hk_h0 (by decide))).trans hR_25
              have hR_32 : (mu Mc3 h0 (.inr (1, [.int v0_27, .int v1_27, .int v2_27, .int (v3_27 + 1), .ref v4_27, .ref v5_27]))) r2 = _ := (mu_ne (kd_ne hk_r2 hk_h0 (by decide))).trans hR_26
              have hT : TM k κ (mu Mc3 h0 (.inr (1, [.int v0_27, .int v1_27, .int v2_27, .int (v3_27 + 1), .ref v4_27, .ref v5_27]))) := hT.put hk_h0 (show wf k κ .merge (.inr (1, [.int v0_27, .int v1_27, .int v2_27, .int (v3_27 + 1), .ref v4_27, .ref v5_27])) from ⟨v0_27, v1_27, v2_27, (v3_27 + 1), v4_27, v5_27, rfl, hk_v4_27, hk_v5_27⟩)
              have hE : kx κ M κ (mu Mc3 h0 (.inr (1, [.int v0_27, .int v1_27, .int v2_27, .int (v3_27 + 1), .ref v4_27, .ref v5_27]))) := hE.put hk_h0
              generalize (mu Mc3 h0 (.inr (1, [.int v0_27, .int v1_27, .int v2_27, .int (v3_27 + 1), .ref v4_27, .ref v5_27]))) = Mc4 at hm hT hE hR_29 hR_30 hR_31 hR_32
              refine lv_aload_n hx hb dX1_weighNode_195 rfl (lv_at hl 2 rfl) ?_
              refine lv_dup hx hb dX1_weighNode_196 rfl ?_
              obtain ⟨v0_33, v1_33, v2_33, v3_33, v4_33, v5_33, hM_h0_33, hk_v4_33, hk_v5_33⟩ := hT.merge hk_h0
              refine m_get (T := TX1) (N := 6) (ci := 1) (v := .int v3_33) hx hb hts wX1 hown hK hm hM_h0_33 rfl 3 (by decide) f21 (fun _ h9 => h9) rfl dX1_weighNode_197 ?_
              refine lv_aload_n hx hb dX1_weighNode_200 rfl (lv_at hl 3 rfl) ?_
              refine lv_aload_n hx hb dX1_weighNode_201 rfl (lv_at hl 4 rfl) ?_
              refine lv_aload_n hx hb dX1_weighNode_202 rfl (lv_at hl 5 rfl) ?_
              refine m_kS (As := [.ref r0, .ref r1, .ref r2]) (rest := [.int v3_33, .ref h0]) (rm := { frames := 1, cells := 0, slots := 0, locals := 22 }) ⟨hx, hb, hml, hown, hts⟩ (t_X1_wordBlocksComing_RRR l D k z _ _ r0 r1 r2 hk_r0 hk_r1 hk_r2 hT) (cwS 3 hts gX1_weighNode_X1_wordBlocksComing rfl rfl rfl (by decide +kernel) ⟨Nat.le_of_ble_eq_true rfl, Nat.le_of_ble_eq_true rfl⟩) hz hcx hm hS rfl hl.1 rfl (Nat.le_of_ble_eq_true rfl) dX1_weighNode_203 ⟨Nat.le_of_ble_eq_true rfl, Nat.le_of_ble_eq_true rfl⟩ (fun v M1 H locs hv hm hS => ?_)
              obtain ⟨hv1, hM1⟩ := hv
              rw [hM1] at hm
              obtain ⟨w34, hv1⟩ := hv1
              subst hv1
              refine W.eq (g2 := F0 m 206 ls [.int w34, .int v3_33, .ref h0]) rfl ?_
              refine W.widen (k := 0) (n := 0) (Nat.le_of_ble_eq_true rfl) (Nat.le_of_ble_eq_true rfl) ?_
              have hm : mm D (AZ z) Mc4 H := hm
              refine lv_iadd hx hb dX1_weighNode_206 ?_
              refine m_put (T := TX1) (N := 6) (ci := 1) (v := .int (v3_33 + w34)) (ty := .int) hx hb hts wX1 tyX1 tyX1_ok nmX1 hown hK hm hS hM_h0_33 rfl 3 (by decide) f21 (fun _ h9 => h9) rfl (by decide +kernel) rfl rfl (Nat.le_of_ble_eq_true rfl) dX1_weighNode_207 (fun H locs hm hS => ?_)
              have hm : mm D (AZ z) (mu Mc4 h0 (.inr (1, [.int v0_33, .int v1_33, .int v2_33, .int (v3_33 + w34), .ref v4_33, .ref v5_33]))) H := hm
              have hR_35 : (mu Mc4 h0 (.inr (1, [.int v0_33, .int v1_33, .int v2_33, .int (v3_33 + w34), .ref v4_33, .ref v5_33]))) r1 = _ := (mu_ne (kd_ne hk_r1 hk_h0 (by decide))).trans hR_29
              have hR_36 : (mu Mc4 h0 (.inr (1, [.int v0_33, .int v1_33, .int v2_33, .int (v3_33 + w34), .ref v4_33, .ref v5_33]))) v3_3 = _ := (mu_ne (kd_ne hk_v3_3 hk_h0 (by decide))).trans hR_30
              have hR_37 : (mu Mc4 h0 (.inr (1, [.int v0_33, .int v1_33, .int v2_33, .int (v3_33 + w34), .ref v4_33, .ref v5_33]))) r0 = _ := (mu_ne (kd_ne hk_r0 hk_h0 (by decide))).trans hR_31
              have hR_38 : (mu Mc4 h0 (.inr (1, [.int v0_33, .int v1_33, .int v2_33, .int (v3_33 + w34), .ref v4_33, .ref v5_33]))) r2 = _ := (mu_ne (kd_ne hk_r2 hk_h0 (by decide))).trans hR_32
              have hT : TM k κ (mu Mc4 h0 (.inr (1, [.int v0_33, .int v1_33, .int v2_33, .int (v3_33 + w34), .ref v4_33, .ref v5_33]))) := hT.put hk_h0 (show wf k κ .merge (.inr (1, [.int v0_33, .int v1_33, .int v2_33, .int (v3_33 + w34), .ref v4_33, .ref v5_33])) from ⟨v0_33, v1_33, v2_33, (v3_33 + w34), v4_33, v5_33, rfl, hk_v4_33, hk_v5_33⟩)
              have hE : kx κ M κ (mu Mc4 h0 (.inr (1, [.int v0_33, .int v1_33, .int v2_33, .int (v3_33 + w34), .ref v4_33, .ref v5_33]))) := hE.put hk_h0
              generalize (mu Mc4 h0 (.inr (1, [.int v0_33, .int v1_33, .int v2_33, .int (v3_33 + w34), .ref v4_33, .ref v5_33]))) = Mc5 at hm hT hE hR_35 hR_36 hR_37 hR_38
              refine W.vret hx hb hr (fun t ht hW => ⟨⟨none, _, rfl, ?_, by rw [ht]; exact hm⟩, hS.F ht⟩) hS.2.2 dX1_weighNode_210
              exact ⟨_, hT, hE, rfl⟩
            · first | exact absurd c28 (by decide) | exact absurd (by decide) c28
          · first | exact absurd c19 (by decide) | exact absurd (by decide) c19
        · subst h9
          refine m_get (T := TX2) (N := 4) (ci := 2) (v := .int 1) hx hb hts wX2 hown hK hm hR_15 rfl 1 (by decide) f64 (fun _ h9 => h9) rfl dX1_weighNode_99 ?_
          refine lv_if_eq (tgt := 142) hx hb dX1_weighNode_102 (by decide) (fun c39 => ?_) (fun c39 => ?_)
          · first | exact absurd c39 (by decide) | exact absurd (by decide) c39
          · refine lv_aload_n hx hb dX1_weighNode_105 rfl (lv_at hl 2 rfl) ?_
            refine lv_dup hx hb dX1_weighNode_106 rfl ?_
            obtain ⟨v0_40, v1_40, v2_40, v3_40, v4_40, v5_40, hM_h0_40, hk_v4_40, hk_v5_40⟩ := hT.merge hk_h0
            refine m_get (T := TX1) (N := 6) (ci := 1) (v := .int v2_40) hx hb hts wX1 hown hK hm hM_h0_40 rfl 2 (by decide) f18 (fun _ h9 => h9) rfl dX1_weighNode_107 ?_
            refine lv_iconst (v := 1) hx hb dX1_weighNode_110 (by decide) ?_
            refine lv_iadd hx hb dX1_weighNode_111 ?_
            refine m_put (T := TX1) (N := 6) (ci := 1) (v := .int (v2_40 + 1)) (ty := .int) hx hb hts wX1 tyX1 tyX1_ok nmX1 hown hK hm hS hM_h0_40 rfl 2 (by decide) f18 (fun _ h9 => h9) rfl (by decide +kernel) rfl rfl (Nat.le_of_ble_eq_true rfl) dX1_weighNode_112 (fun H locs hm hS => ?_)
            have hm : mm D (AZ z) (mu Mc2 h0 (.inr (1, [.int v0_40, .int v1_40, .int (v2_40 + 1), .int v3_40, .ref v4_40, .ref v5_40]))) H := hm
            have hR_41 : (mu Mc2 h0 (.inr (1, [.int v0_40, .int v1_40, .int (v2_40 + 1), .int v3_40, .ref v4_40, .ref v5_40]))) r1 = _ := (mu_ne (kd_ne hk_r1 hk_h0 (by decide))).trans hR_15
            have hR_42 : (mu Mc2 h0 (.inr (1, [.int v0_40, .int v1_40, .int (v2_40 + 1), .int v3_40, .ref v4_40, .ref v5_40]))) v3_3 = _ := (mu_ne (kd_ne hk_v3_3 hk_h0 (by decide))).trans hR_16
            have hR_43 : (mu Mc2 h0 (.inr (1, [.int v0_40, .int v1_40, .int (v2_40 + 1), .int v3_40, .ref v4_40, .ref v5_40]))) r0 = _ := (mu_ne (kd_ne hk_r0 hk_h0 (by decide))).trans hR_17
            have hR_44 : (mu Mc2 h0 (.inr (1, [.int v0_40, .int v1_40, .int (v2_40 + 1), .int v3_40, .ref v4_40, .ref v5_40]))) r2 = _ := (mu_ne (kd_ne hk_r2 hk_h0 (by decide))).trans hR_18
            have hT : TM k κ (mu Mc2 h0 (.inr (1, [.int v0_40, .int v1_40, .int (v2_40 + 1), .int v3_40, .ref v4_40, .ref v5_40]))) := hT.put hk_h0 (show wf k κ .merge (.inr (1, [.int v0_40, .int v1_40, .int (v2_40 + 1), .int v3_40, .ref v4_40, .ref v5_40])) from ⟨v0_40, v1_40, (v2_40 + 1), v3_40, v4_40, v5_40, rfl, hk_v4_40, hk_v5_40⟩)
            have hE : kx κ M κ (mu Mc2 h0 (.inr (1, [.int v0_40, .int v1_40, .int (v2_40 + 1), .int v3_40, .ref v4_40, .ref v5_40]))) := hE.put hk_h0
            generalize (mu Mc2 h0 (.inr (1, [.int v0_40, .int v1_40, .int (v2_40 + 1), .int v3_40, .ref v4_40, .ref v5_40]))) = Mc6 at hm hT hE hR_41 hR_42 hR_43 hR_44
            refine lv_aload_n hx hb dX1_weighNode_115 rfl (lv_at hl 2 rfl) ?_
            refine lv_dup hx hb dX1_weighNode_116 rfl ?_
            obtain ⟨v0_45, v1_45, v2_45, v3_45, v4_45, v5_45, hM_h0_45, hk_v4_45, hk_v5_45⟩ := hT.merge hk_h0
            refine m_get (T := TX1) (N := 6) (ci := 1) (v := .int v3_45) hx hb hts wX1 hown hK hm hM_h0_45 rfl 3 (by decide) f21 (fun _ h9 => h9) rfl dX1_weighNode_117 ?_
            refine lv_iload hx hb dX1_weighNode_120 (lv_at hl 6 rfl) ?_
            refine lv_if_ne (tgt := 130) hx hb dX1_weighNode_122 (by decide) (fun c46 => ?_) (fun c46 => ?_)
            · refine lv_iconst (v := 1) hx hb dX1_weighNode_130 (by decide) ?_
              refine lv_goto (tgt := 135) hx hb dX1_weighNode_131 (by decide) ?_
              refine lv_iadd hx hb dX1_weighNode_135 ?_
              refine m_put (T := TX1) (N := 6) (ci := 1) (v := .int (v3_45 + 1)) (ty := .int) hx hb hts wX1 tyX1 tyX1_ok nmX1 hown hK hm hS hM_h0_45 rfl 3 (by decide) f21 (fun _ h9 => h9) rfl (by decide +kernel) rfl rfl (Nat.le_of_ble_eq_true rfl) dX1_weighNode_136 (fun H locs hm hS => ?_)
              have hm : mm D (AZ z) (mu Mc6 h0 (.inr (1, [.int v0_45, .int v1_45, .int v2_45, .int (v3_45 + 1), .ref v4_45, .ref v5_45]))) H := hm
              have hR_47 : (mu Mc6 h0 (.inr (1, [.int v0_45, .int v1_45, .int v2_45, .int (v3_45 + 1), .ref v4_45, .ref v5_45]))) r1 = _ := (mu_ne (kd_ne hk_r1 hk_h0 (by decide))).trans hR_41
              have hR_48 : (mu Mc6 h0 (.inr (1, [.int v0_45, .int v1_45, .int v2_45, .int (v3_45 + 1), .ref v4_45, .ref v5_45]))) v3_3 = _ := (mu_ne (kd_ne hk_v3_3 hk_h0 (by decide))).trans hR_42
              have hR_49 : (mu Mc6 h0 (.inr (1, [.int v0_45, .int v1_45, .int v2_45, .int (v3_45 + 1), .ref v4_45, .ref v5_45]))) r0 = _ := (mu_ne (kd_ne hk_r0 hk_h0 (by decide))).trans hR_43
              have hR_50 : (mu Mc6 h0 (.inr (1, [.int v0_45, .int v1_45, .int v2_45, .int (v3_45 + 1), .ref v4_45, .ref v5_45]))) r2 = _ := (mu_ne (kd_ne hk_r2 hk_h0 (by decide))).trans hR_44
              have hT : TM k κ (mu Mc6 h0 (.inr (1, [.int v0_45, .int v1_45, .int v2_45, .int (v3_45 + 1), .ref v4_45, .ref v5_45]))) := hT.put hk_h0 (show wf k κ .merge (.inr (1, [.int v0_45, .int v1_45, .int v2_45, .int (v3_45 + 1), .ref v4_45, .ref v5_45])) from ⟨v0_45, v1_45, v2_45, (v3_45 + 1), v4_45, v5_45, rfl, hk_v4_45, hk_v5_45⟩)
              have hE : kx κ M κ (mu Mc6 h0 (.inr (1, [.int v0_45, .int v1_45, .int v2_45, .int (v3_45 + 1), .ref v4_45, .ref v5_45]))) := hE.put hk_h0
              generalize (mu Mc6 h0 (.inr (1, [.int v0_45, .int v1_45, .int v2_45, .int (v3_45 + 1), .ref v4_45, .ref v5_45]))) = Mc7 at hm hT hE hR_47 hR_48 hR_49 hR_50
              refine lv_goto (tgt := 210) hx hb dX1_weighNode_139 (by decide) ?_
              refine W.vret hx hb hr (fun t ht hW => ⟨⟨none, _, rfl, ?_, by rw [ht]; exact hm⟩, hS.F ht⟩) hS.2.2 dX1_weighNode_210
              exact ⟨_, hT, hE, rfl⟩
            · first | exact absurd c46 (by decide) | exact absurd (by decide) c46
      · first | exact absurd c9 (by decide) | exact absurd (by decide) c9
    · subst hv1
      refine W.eq (g2 := F0 m 64 ls [.int 1]) rfl ?_
      refine W.widen (k := 0) (n := 0) (Nat.le_of_ble_eq_true rfl) (Nat.le_of_ble_eq_true rfl) ?_
      have hm : mm D (AZ z) M H := hm
      refine lv_istore (lv' := [(6, .int 1), (5, .int y2), (0, .ref h0), (1, .ref r0), (2, .ref r1), (3, .ref r2), (4, .int 1)]) hx hb dX1_weighNode_64 hl (by decide) rfl (fun ls hl => ?_)
      refine lv_aload_n hx hb dX1_weighNode_66 rfl (lv_at hl 2 rfl) ?_
      refine lv_dup hx hb dX1_weighNode_67 rfl ?_
      obtain ⟨v0_51, v1_51, v2_51, v3_51, v4_51, v5_51, hM_h0_51, hk_v4_51, hk_v5_51⟩ := hT.merge hk_h0
      refine m_get (T := TX1) (N := 6) (ci := 1) (v := .int v0_51) hx hb hts wX1 hown hK hm hM_h0_51 rfl 0 (by decide) f9 (fun _ h9 => h9) rfl dX1_weighNode_68 ?_
      refine lv_iload hx hb dX1_weighNode_71 (lv_at hl 1 rfl) ?_
      refine lv_iload hx hb dX1_weighNode_73 (lv_at hl 0 rfl) ?_
      refine lv_if_eq (tgt := 82) hx hb dX1_weighNode_75 (by decide) (fun c52 => ?_) (fun c52 => ?_)
      · first | exact absurd c52 (by decide) | exact absurd (by decide) c52
      · refine lv_iconst (v := 1) hx hb dX1_weighNode_78 (by decide) ?_
        refine lv_goto (tgt := 83) hx hb dX1_weighNode_79 (by decide) ?_
        refine lv_iadd hx hb dX1_weighNode_83 ?_
        refine lv_iadd hx hb dX1_weighNode_84 ?_
        refine m_put (T := TX1) (N := 6) (ci := 1) (v := .int (v0_51 + (y2 + 1))) (ty := .int) hx hb hts wX1 tyX1 tyX1_ok nmX1 hown hK hm hS hM_h0_51 rfl 0 (by decide) f9 (fun _ h9 => h9) rfl (by decide +kernel) rfl rfl (Nat.le_of_ble_eq_true rfl) dX1_weighNode_85 (fun H locs hm hS => ?_)
        have hm : mm D (AZ z) (mu M h0 (.inr (1, [.int (v0_51 + (y2 + 1)), .int v1_51, .int v2_51, .int v3_51, .ref v4_51, .ref v5_51]))) H := hm
        have hR_53 : (mu M h0 (.inr (1, [.int (v0_51 + (y2 + 1)), .int v1_51, .int v2_51, .int v3_51, .ref v4_51, .ref v5_51]))) r1 = _ := (mu_ne (kd_ne hk_r1 hk_h0 (by decide))).trans hM_r1_3
        have hR_54 : (mu M h0 (.inr (1, [.int (v0_51 + (y2 + 1)), .int v1_51, .int v2_51, .int v3_51, .ref v4_51, .ref v5_51]))) v3_3 = _ := (mu_ne (kd_ne hk_v3_3 hk_h0 (by decide))).trans hM_v3_3_4
        have hR_55 : (mu M h0 (.inr (1, [.int (v0_51 + (y2 + 1)), .int v1_51, .int v2_51, .int v3_51, .ref v4_51, .ref v5_51]))) r0 = _ := (mu_ne (kd_ne hk_r0 hk_h0 (by decide))).trans hM_r0_6
        have hR_56 : (mu M h0 (.inr (1, [.int (v0_51 + (y2 + 1)), .int v1_51, .int v2_51, .int v3_51, .ref v4_51, .ref v5_51]))) r2 = _ := (mu_ne (kd_ne hk_r2 hk_h0 (by decide))).trans hM_r2_7
        have hT : TM k κ (mu M h0 (.inr (1, [.int (v0_51 + (y2 + 1)), .int v1_51, .int v2_51, .int v3_51, .ref v4_51, .ref v5_51]))) := hT.put hk_h0 (show wf k κ .merge (.inr (1, [.int (v0_51 + (y2 + 1)), .int v1_51, .int v2_51, .int v3_51, .ref v4_51, .ref v5_51])) from ⟨(v0_51 + (y2 + 1)), v1_51, v2_51, v3_51, v4_51, v5_51, rfl, hk_v4_51, hk_v5_51⟩)
        have hE : kx κ M κ (mu M h0 (.inr (1, [.int (v0_51 + (y2 + 1)), .int v1_51, .int v2_51, .int v3_51, .ref v4_51, .ref v5_51]))) := hE.put hk_h0
        generalize (mu M h0 (.inr (1, [.int (v0_51 + (y2 + 1)), .int v1_51, .int v2_51, .int v3_51, .ref v4_51, .ref v5_51]))) = Mc8 at hm hT hE hR_53 hR_54 hR_55 hR_56
        refine lv_aload_n hx hb dX1_weighNode_88 rfl (lv_at hl 2 rfl) ?_
        refine lv_dup hx hb dX1_weighNode_89 rfl ?_
        obtain ⟨v0_57, v1_57, v2_57, v3_57, v4_57, v5_57, hM_h0_57, hk_v4_57, hk_v5_57⟩ := hT.merge hk_h0
        refine m_get (T := TX1) (N := 6) (ci := 1) (v := .int v1_57) hx hb hts wX1 hown hK hm hM_h0_57 rfl 1 (by decide) f15 (fun _ h9 => h9) rfl dX1_weighNode_90 ?_
        refine lv_iconst (v := 1) hx hb dX1_weighNode_93 (by decide) ?_
        refine lv_iadd hx hb dX1_weighNode_94 ?_
        refine m_put (T := TX1) (N := 6) (ci := 1) (v := .int (v1_57 + 1)) (ty := .int) hx hb hts wX1 tyX1 tyX1_ok nmX1 hown hK hm hS hM_h0_57 rfl 1 (by decide) f15 (fun _ h9 => h9) rfl (by decide +kernel) rfl rfl (Nat.le_of_ble_eq_true rfl) dX1_weighNode_95 (fun H locs hm hS => ?_)
        have hm : mm D (AZ z) (mu Mc8 h0 (.inr (1, [.int v0_57, .int (v1_57 + 1), .int v2_57, .int v3_57, .ref v4_57, .ref v5_57]))) H := hm
        have hR_58 : (mu Mc8 h0 (.inr (1, [.int v0_57, .int (v1_57 + 1), .int v2_57, .int v3_57, .ref v4_57, .ref v5_57]))) r1 = _ := (mu_ne (kd_ne hk_r1 hk_h0 (by decide))).trans hR_53
        have hR_59 : (mu Mc8 h0 (.inr (1, [.int v0_57, .int (v1_57 + 1), .int v2_57, .int v3_57, .ref v4_57, .ref v5_57]))) v3_3 = _ := (mu_ne (kd_ne hk_v3_3 hk_h0 (by decide))).trans hR_54
        have hR_60 : (mu Mc8 h0 (.inr (1, [.int v0_57, .int (v1_57 + 1), .int v2_57, .int v3_57, .ref v4_57, .ref v5_57]))) r0 = _ := (mu_ne (kd_ne hk_r0 hk_h0 (by decide))).trans hR_55
        have hR_61 : (mu Mc8 h0 (.inr (1, [.int v0_57, .int (v1_57 + 1), .int v2_57, .int v3_57, .ref v4_57, .ref v5_57]))) r2 = _ := (mu_ne (kd_ne hk_r2 hk_h0 (by decide))).trans hR_56
        have hT : TM k κ (mu Mc8 h0 (.inr (1, [.int v0_57, .int (v1_57 + 1), .int v2_57, .int v3_57, .ref v4_57, .ref v5_57]))) := hT.put hk_h0 (show wf k κ .merge (.inr (1, [.int v0_57, .int (v1_57 + 1), .int v2_57, .int v3_57, .ref v4_57, .ref v5_57])) from ⟨v0_57, (v1_57 + 1), v2_57, v3_57, v4_57, v5_57, rfl, hk_v4_57, hk_v5_57⟩)
        have hE : kx κ M κ (mu Mc8 h0 (.inr (1, [.int v0_57, .int (v1_57 + 1), .int v2_57, .int v3_57, .ref v4_57, .ref v5_57]))) := hE.put hk_h0
        generalize (mu Mc8 h0 (.inr (1, [.int v0_57, .int (v1_57 + 1), .int v2_57, .int v3_57, .ref v4_57, .ref v5_57]))) = Mc9 at hm hT hE hR_58 hR_59 hR_60 hR_61
        refine lv_aload_n hx hb dX1_weighNode_98 rfl (lv_at hl 4 rfl) ?_
        rcases hz_v1_3 with h9 | h9
        · subst h9
          refine m_get (T := TX2) (N := 4) (ci := 2) (v := .int 0) hx hb hts wX2 hown hK hm hR_58 rfl 1 (by decide) f64 (fun _ h9 => h9) rfl dX1_weighNode_99 ?_
          refine lv_if_eq (tgt := 142) hx hb dX1_weighNode_102 (by decide) (fun c62 => ?_) (fun c62 => ?_)
          · refine lv_aload_n hx hb dX1_weighNode_142 rfl (lv_at hl 2 rfl) ?_
            refine lv_dup hx hb dX1_weighNode_143 rfl ?_
            obtain ⟨v0_63, v1_63, v2_63, v3_63, v4_63, v5_63, hM_h0_63, hk_v4_63, hk_v5_63⟩ := hT.merge hk_h0
            refine m_get (T := TX1) (N := 6) (ci := 1) (v := .int v2_63) hx hb hts wX1 hown hK hm hM_h0_63 rfl 2 (by decide) f18 (fun _ h9 => h9) rfl dX1_weighNode_144 ?_
            refine lv_iconst (v := 1) hx hb dX1_weighNode_147 (by decide) ?_
            refine lv_aload_n hx hb dX1_weighNode_148 rfl (lv_at hl 3 rfl) ?_
            refine m_get (T := TX2) (N := 4) (ci := 2) (v := .int v2_6) hx hb hts wX2 hown hK hm hR_60 rfl 2 (by decide) f80 (fun _ h9 => h9) rfl dX1_weighNode_149 ?_
            refine lv_aload_n hx hb dX1_weighNode_152 rfl (lv_at hl 4 rfl) ?_
            refine m_get (T := TX2) (N := 4) (ci := 2) (v := .int v2_3) hx hb hts wX2 hown hK hm hR_58 rfl 2 (by decide) f80 (fun _ h9 => h9) rfl dX1_weighNode_153 ?_
            refine lv_aload_n hx hb dX1_weighNode_156 rfl (lv_at hl 5 rfl) ?_
            refine m_get (T := TX2) (N := 4) (ci := 2) (v := .int v2_7) hx hb hts wX2 hown hK hm hR_61 rfl 2 (by decide) f80 (fun _ h9 => h9) rfl dX1_weighNode_157 ?_
            refine m_kS (As := [.int v2_6, .int v2_3, .int v2_7]) (rest := [.int 1, .int v2_63, .ref h0]) (rm := { frames := 0, cells := 0, slots := 0, locals := 0 }) ⟨hx, hb, hml, hown, hts⟩ (t_X1_merged_III l D k z _ _ v2_6 v2_3 v2_7  hT) (cwS 3 hts gX1_weighNode_X1_merged rfl rfl rfl (by decide +kernel) ⟨Nat.le_of_ble_eq_true rfl, Nat.le_of_ble_eq_true rfl⟩) hz hcx hm hS rfl hl.1 rfl (Nat.le_of_ble_eq_true rfl) dX1_weighNode_160 ⟨Nat.le_of_ble_eq_true rfl, Nat.le_of_ble_eq_true rfl⟩ (fun v M1 H locs hv hm hS => ?_)
            obtain ⟨hv1, hM1⟩ := hv
            rw [hM1] at hm
            obtain ⟨w64, hv1⟩ := hv1
            subst hv1
            refine W.eq (g2 := F0 m 163 ls [.int w64, .int 1, .int v2_63, .ref h0]) rfl ?_
            refine W.widen (k := 0) (n := 0) (Nat.le_of_ble_eq_true rfl) (Nat.le_of_ble_eq_true rfl) ?_
            have hm : mm D (AZ z) Mc9 H := hm
            refine m_kS (As := [.int w64]) (rest := [.int 1, .int v2_63, .ref h0]) (rm := { frames := 0, cells := 0, slots := 0, locals := 0 }) ⟨hx, hb, hml, hown, hts⟩ (t_X2_wordBlocks_I l D k z _ _ w64  hT) (va_cwS 1 hts gX1_weighNode_X2_wordBlocks rfl rfl rfl (by decide +kernel) ⟨Nat.le_of_ble_eq_true rfl, Nat.le_of_ble_eq_true rfl⟩) hz hcx hm hS rfl hl.1 rfl (Nat.le_of_ble_eq_true rfl) dX1_weighNode_163 ⟨Nat.le_of_ble_eq_true rfl, Nat.le_of_ble_eq_true rfl⟩ (fun v M1 H locs hv hm hS => ?_)
            obtain ⟨hv1, hM1⟩ := hv
            rw [hM1] at hm
            obtain ⟨w65, hv1⟩ := hv1
            subst hv1
            refine W.eq (g2 := F0 m 166 ls [.int w65, .int 1, .int v2_63, .ref h0]) rfl ?_
            refine W.widen (k := 0) (n := 0) (Nat.le_of_ble_eq_true rfl) (Nat.le_of_ble_eq_true rfl) ?_
            have hm : mm D (AZ z) Mc9 H := hm
            refine lv_iadd hx hb dX1_weighNode_166 ?_
            refine lv_iadd hx hb dX1_weighNode_167 ?_
            refine m_put (T := TX1) (N := 6) (ci := 1) (v := .int (v2_63 + (1 + w65))) (ty := .int) hx hb hts wX1 tyX1 tyX1_ok nmX1 hown hK hm hS hM_h0_63 rfl 2 (by decide) f18 (fun _ h9 => h9) rfl (by decide +kernel) rfl rfl (Nat.le_of_ble_eq_true rfl) dX1_weighNode_168 (fun H locs hm hS => ?_)
            have hm : mm D (AZ z) (mu Mc9 h0 (.inr (1, [.int v0_63, .int v1_63, .int (v2_63 + (1 + w65)), .int v3_63, .ref v4_63, .ref v5_63]))) H := hm
            have hR_66 : (mu Mc9 h0 (.inr (1, [.int v0_63, .int v1_63, .int (v2_63 + (1 + w65)), .int v3_63, .ref v4_63, .ref v5_63]))) r1 = _ := (mu_ne (kd_ne hk_r1 hk_h0 (by decide))).trans hR_58
            have hR_67 : (mu Mc9 h0 (.inr (1, [.int v0_63, .int v1_63, .int (v2_63 + (1 + w65)), .int v3_63, .ref v4_63, .ref v5_63]))) v3_3 = _ := (mu_ne (kd_ne hk_v3_3 hk_h0 (by decide))).trans hR_59
            have hR_68 : (mu Mc9 h0 (.inr (1, [.int v0_63, .int v1_63, .int (v2_63 + (1 + w65)), .int v3_63, .ref v4_63, .ref v5_63]))) r0 = _ := (mu_ne (kd_ne hk_r0 hk_h0 (by decide))).trans hR_60
            have hR_69 : (mu Mc9 h0 (.inr (1, [.int v0_63, .int v1_63, .int (v2_63 + (1 + w65)), .int v3_63, .ref v4_63, .ref v5_63]))) r2 = _ := (mu_ne (kd_ne hk_r2 hk_h0 (by decide))).trans hR_61
            have hT : TM k κ (mu Mc9 h0 (.inr (1, [.int v0_63, .int v1_63, .int (v2_63 + (1 + w65)), .int v3_63, .ref v4_63, .ref v5_63]))) := hT.put hk_h0 (show wf k κ .merge (.inr (1, [.int v0_63, .int v1_63, .int (v2_63 + (1 + w65)), .int v3_63, .ref v4_63, .ref v5_63])) from ⟨v0_63, v1_63, (v2_63 + (1 + w65)), v3_63, v4_63, v5_63, rfl, hk_v4_63, hk_v5_63⟩)
            have hE : kx κ M κ (mu Mc9 h0 (.inr (1, [.int v0_63, .int v1_63, .int (v2_63 + (1 + w65)), .int v3_63, .ref v4_63, .ref v5_63]))) := hE.put hk_h0
            generalize (mu Mc9 h0 (.inr (1, [.int v0_63, .int v1_63, .int (v2_63 + (1 + w65)), .int v3_63, .ref v4_63, .ref v5_63]))) = Mc10 at hm hT hE hR_66 hR_67 hR_68 hR_69
            refine lv_aload_n hx hb dX1_weighNode_171 rfl (lv_at hl 2 rfl) ?_
            refine lv_dup hx hb dX1_weighNode_172 rfl ?_
            obtain ⟨v0_70, v1_70, v2_70, v3_70, v4_70, v5_70, hM_h0_70, hk_v4_70, hk_v5_70⟩ := hT.merge hk_h0
            refine m_get (T := TX1) (N := 6) (ci := 1) (v := .int v3_70) hx hb hts wX1 hown hK hm hM_h0_70 rfl 3 (by decide) f21 (fun _ h9 => h9) rfl dX1_weighNode_173 ?_
            refine lv_iload hx hb dX1_weighNode_176 (lv_at hl 6 rfl) ?_
            refine lv_if_ne (tgt := 186) hx hb dX1_weighNode_178 (by decide) (fun c71 => ?_) (fun c71 => ?_)
            · refine lv_iconst (v := 1) hx hb dX1_weighNode_186 (by decide) ?_
              refine lv_goto (tgt := 191) hx hb dX1_weighNode_187 (by decide) ?_
              refine lv_iadd hx hb dX1_weighNode_191 ?_
              refine m_put (T := TX1) (N := 6) (ci := 1) (v := .int (v3_70 + 1)) (ty := .int) hx hb hts wX1 tyX1 tyX1_ok nmX1 hown hK hm hS hM_h0_70 rfl 3 (by decide) f21 (fun _ h9 => h9) rfl (by decide +kernel) rfl rfl (Nat.le_of_ble_eq_true rfl) dX1_weighNode_192 (fun H locs hm hS => ?_)
              have hm : mm D (AZ z) (mu Mc10 h0 (.inr (1, [.int v0_70, .int v1_70, .int v2_70, .int (v3_70 + 1), .ref v4_70, .ref v5_70]))) H := hm
              have hR_72 : (mu Mc10 h0 (.inr (1, [.int v0_70, .int v1_70, .int v2_70, .int (v3_70 + 1), .ref v4_70, .ref v5_70]))) r1 = _ := (mu_ne (kd_ne hk_r1 hk_h0 (by decide))).trans hR_66
              have hR_73 : (mu Mc10 h0 (.inr (1, [.int v0_70, .int v1_70, .int v2_70, .int (v3_70 + 1), .ref v4_70, .ref v5_70]))) v3_3 = _ := (mu_ne (kd_ne hk_v3_3 hk_h0 (by decide))).trans hR_67
              have hR_74 : (mu Mc10 h0 (.inr (1, [.int v0_70, .int v1_70, .int v2_70, .int (v3_70 + 1), .ref v4_70, .ref v5_70]))) r0 = _ := (mu_ne (kd_ne hk_r0 hk_h0 (by decide))).trans hR_68
              have hR_75 : (mu Mc10 h0 (.inr (1, [.int v0_70, .int v1_70, .int v2_70, .int (v3_70 + 1), .ref v4_70, .ref v5_70]))) r2 = _ := (mu_ne (kd_ne hk_r2 hk_h0 (by decide))).trans hR_69
              have hT : TM k κ (mu Mc10 h0 (.inr (1, [.int v0_70, .int v1_70, .int v2_70, .int (v3_70 + 1), .ref v4_70, .ref v5_70]))) := hT.put hk_h0 (show wf k κ .merge (.inr (1, [.int v0_70, .int v1_70, .int v2_70, .int (v3_70 + 1), .ref v4_70, .ref v5_70])) from ⟨v0_70, v1_70, v2_70, (v3_70 + 1), v4_70, v5_70, rfl, hk_v4_70, hk_v5_70⟩)
              have hE : kx κ M κ (mu Mc10 h0 (.inr (1, [.int v0_70, .int v1_70, .int v2_70, .int (v3_70 + 1), .ref v4_70, .ref v5_70]))) := hE.put hk_h0
              generalize (mu Mc10 h0 (.inr (1, [.int v0_70, .int v1_70, .int v2_70, .int (v3_70 + 1), .ref v4_70, .ref v5_70]))) = Mc11 at hm hT hE hR_72 hR_73 hR_74 hR_75
              refine lv_aload_n hx hb dX1_weighNode_195 rfl (lv_at hl 2 rfl) ?_
              refine lv_dup hx hb dX1_weighNode_196 rfl ?_
              obtain ⟨v0_76, v1_76, v2_76, v3_76, v4_76, v5_76, hM_h0_76, hk_v4_76, hk_v5_76⟩ := hT.merge hk_h0
              refine m_get (T := TX1) (N := 6) (ci := 1) (v := .int v3_76) hx hb hts wX1 hown hK hm hM_h0_76 rfl 3 (by decide) f21 (fun _ h9 => h9) rfl dX1_weighNode_197 ?_
              refine lv_aload_n hx hb dX1_weighNode_200 rfl (lv_at hl 3 rfl) ?_
              refine lv_aload_n hx hb dX1_weighNode_201 rfl (lv_at hl 4 rfl) ?_
              refine lv_aload_n hx hb dX1_weighNode_202 rfl (lv_at hl 5 rfl) ?_
              refine m_kS (As := [.ref r0, .ref r1, .ref r2]) (rest := [.int v3_76, .ref h0]) (rm := { frames := 1, cells := 0, slots := 0, locals := 22 }) ⟨hx, hb, hml, hown, hts⟩ (t_X1_wordBlocksComing_RRR l D k z _ _ r0 r1 r2 hk_r0 hk_r1 hk_r2 hT) (cwS 3 hts gX1_weighNode_X1_wordBlocksComing rfl rfl rfl (by decide +kernel) ⟨Nat.le_of_ble_eq_true rfl, Nat.le_of_ble_eq_true rfl⟩) hz hcx hm hS rfl hl.1 rfl (Nat.le_of_ble_eq_true rfl) dX1_weighNode_203 ⟨Nat.le_of_ble_eq_true rfl, Nat.le_of_ble_eq_true rfl⟩ (fun v M1 H locs hv hm hS => ?_)
              obtain ⟨hv1, hM1⟩ := hv
              rw [hM1] at hm
              obtain ⟨w77, hv1⟩ := hv1
              subst hv1
              refine W.eq (g2 := F0 m 206 ls [.int w77, .int v3_76, .ref h0]) rfl ?_
              refine W.widen (k := 0) (n := 0) (Nat.le_of_ble_eq_true rfl) (Nat.le_of_ble_eq_true rfl) ?_
              have hm : mm D (AZ z) Mc11 H := hm
              refine lv_iadd hx hb dX1_weighNode_206 ?_
              refine m_put (T := TX1) (N := 6) (ci := 1) (v := .int (v3_76 + w77)) (ty := .int) hx hb hts wX1 tyX1 tyX1_ok nmX1 hown hK hm hS hM_h0_76 rfl 3 (by decide) f21 (fun _ h9 => h9) rfl (by decide +kernel) rfl rfl (Nat.le_of_ble_eq_true rfl) dX1_weighNode_207 (fun H locs hm hS => ?_)
              have hm : mm D (AZ z) (mu Mc11 h0 (.inr (1, [.int v0_76, .int v1_76, .int v2_76, .int (v3_76 + w77), .ref v4_76, .ref v5_76]))) H := hm
              have hR_78 : (mu Mc11 h0 (.inr (1, [.int v0_76, .int v1_76, .int v2_76, .int (v3_76 + w77), .ref v4_76, .ref v5_76]))) r1 = _ := (mu_ne (kd_ne hk_r1 hk_h0 (by decide))).trans hR_72
              have hR_79 : (mu Mc11 h0 (.inr (1, [.int v0_76, .int v1_76, .int v2_76, .int (v3_76 + w77), .ref v4_76, .ref v5_76]))) v3_3 = _ := (mu_ne (kd_ne hk_v3_3 hk_h0 (by decide))).trans hR_73
              have hR_80 : (mu Mc11 h0 (.inr (1, [.int v0_76, .int v1_76, .int v2_76, .int (v3_76 + w77), .ref v4_76, .ref v5_76]))) r0 = _ := (mu_ne (kd_ne hk_r0 hk_h0 (by decide))).trans hR_74
              have hR_81 : (mu Mc11 h0 (.inr (1, [.int v0_76, .int v1_76, .int v2_76, .int (v3_76 + w77), .ref v4_76, .ref v5_76]))) r2 = _ := (mu_ne (kd_ne hk_r2 hk_h0 (by decide))).trans hR_75
              have hT : TM k κ (mu Mc11 h0 (.inr (1, [.int v0_76, .int v1_76, .int v2_76, .int (v3_76 + w77), .ref v4_76, .ref v5_76]))) := hT.put hk_h0 (show wf k κ .merge (.inr (1, [.int v0_76, .int v1_76, .int v2_76, .int (v3_76 + w77), .ref v4_76, .ref v5_76])) from ⟨v0_76, v1_76, v2_76, (v3_76 + w77), v4_76, v5_76, rfl, hk_v4_76, hk_v5_76⟩)
              have hE : kx κ M κ (mu Mc11 h0 (.inr (1, [.int v0_76, .int v1_76, .int v2_76, .int (v3_76 + w77), .ref v4_76, .ref v5_76]))) := hE.put hk_h0
              generalize (mu Mc11 h0 (.inr (1, [.int v0_76, .int v1_76, .int v2_76, .int (v3_76 + w77), .ref v4_76, .ref v5_76]))) = Mc12 at hm hT hE hR_78 hR_79 hR_80 hR_81
              refine W.vret hx hb hr (fun t ht hW => ⟨⟨none, _, rfl, ?_, by rw [ht]; exact hm⟩, hS.F ht⟩) hS.2.2 dX1_weighNode_210
              exact ⟨_, hT, hE, rfl⟩
            · first | exact absurd c71 (by decide) | exact absurd (by decide) c71
          · first | exact absurd c62 (by decide) | exact absurd (by decide) c62
        · subst h9
          refine m_get (T := TX2) (N := 4) (ci := 2) (v := .int 1) hx hb hts wX2 hown hK hm hR_58 rfl 1 (by decide) f64 (fun _ h9 => h9) rfl dX1_weighNode_99 ?_
          refine lv_if_eq (tgt := 142) hx hb dX1_weighNode_102 (by decide) (fun c82 => ?_) (fun c82 => ?_)
          · first | exact absurd c82 (by decide) | exact absurd (by decide) c82
          · refine lv_aload_n hx hb dX1_weighNode_105 rfl (lv_at hl 2 rfl) ?_
            refine lv_dup hx hb dX1_weighNode_106 rfl ?_
            obtain ⟨v0_83, v1_83, v2_83, v3_83, v4_83, v5_83, hM_h0_83, hk_v4_83, hk_v5_83⟩ := hT.merge hk_h0
            refine m_get (T := TX1) (N := 6) (ci := 1) (v := .int v2_83) hx hb hts wX1 hown hK hm hM_h0_83 rfl 2 (by decide) f18 (fun _ h9 => h9) rfl dX1_weighNode_107 ?_
            refine lv_iconst (v := 1) hx hb dX1_weighNode_110 (by decide) ?_
            refine lv_iadd hx hb dX1_weighNode_111 ?_
            refine m_put (T := TX1) (N := 6) (ci := 1) (v := .int (v2_83 + 1)) (ty := .int) hx hb hts wX1 tyX1 tyX1_ok nmX1 hown hK hm hS hM_h0_83 rfl 2 (by decide) f18 (fun _ h9 => h9) rfl (by decide +kernel) rfl rfl (Nat.le_of_ble_eq_true rfl) dX1_weighNode_112 (fun H locs hm hS => ?_)
            have hm : mm D (AZ z) (mu Mc9 h0 (.inr (1, [.int v0_83, .int v1_83, .int (v2_83 + 1), .int v3_83, .ref v4_83, .ref v5_83]))) H := hm
            have hR_84 : (mu Mc9 h0 (.inr (1, [.int v0_83, .int v1_83, .int (v2_83 + 1), .int v3_83, .ref v4_83, .ref v5_83]))) r1 = _ := (mu_ne (kd_ne hk_r1 hk_h0 (by decide))).trans hR_58
            have hR_85 : (mu Mc9 h0 (.inr (1, [.int v0_83, .int v1_83, .int (v2_83 + 1), .int v3_83, .ref v4_83, .ref v5_83]))) v3_3 = _ := (mu_ne (kd_ne hk_v3_3 hk_h0 (by decide))).trans hR_59
            have hR_86 : (mu Mc9 h0 (.inr (1, [.int v0_83, .int v1_83, .int (v2_83 + 1), .int v3_83, .ref v4_83, .ref v5_83]))) r0 = _ := (mu_ne (kd_ne hk_r0 hk_h0 (by decide))).trans hR_60
            have hR_87 : (mu Mc9 h0 (.inr (1, [.int v0_83, .int v1_83, .int (v2_83 + 1), .int v3_83, .ref v4_83, .ref v5_83]))) r2 = _ := (mu_ne (kd_ne hk_r2 hk_h0 (by decide))).trans hR_61
            have hT : TM k κ (mu Mc9 h0 (.inr (1, [.int v0_83, .int v1_83, .int (v2_83 + 1), .int v3_83, .ref v4_83, .ref v5_83]))) := hT.put hk_h0 (show wf k κ .merge (.inr (1, [.int v0_83, .int v1_83, .int (v2_83 + 1), .int v3_83, .ref v4_83, .ref v5_83])) from ⟨v0_83, v1_83, (v2_83 + 1), v3_83, v4_83, v5_83, rfl, hk_v4_83, hk_v5_83⟩)
            have hE : kx κ M κ (mu Mc9 h0 (.inr (1, [.int v0_83, .int v1_83, .int (v2_83 + 1), .int v3_83, .ref v4_83, .ref v5_83]))) := hE.put hk_h0
            generalize (mu Mc9 h0 (.inr (1, [.int v0_83, .int v1_83, .int (v2_83 + 1), .int v3_83, .ref v4_83, .ref v5_83]))) = Mc13 at hm hT hE hR_84 hR_85 hR_86 hR_87
            refine lv_aload_n hx hb dX1_weighNode_115 rfl (lv_at hl 2 rfl) ?_
            refine lv_dup hx hb dX1_weighNode_116 rfl ?_
            obtain ⟨v0_88, v1_88, v2_88, v3_88, v4_88, v5_88, hM_h0_88, hk_v4_88, hk_v5_88⟩ := hT.merge hk_h0
            refine m_get (T := TX1) (N := 6) (ci := 1) (v := .int v3_88) hx hb hts wX1 hown hK hm hM_h0_88 rfl 3 (by decide) f21 (fun _ h9 => h9) rfl dX1_weighNode_117 ?_
            refine lv_iload hx hb dX1_weighNode_120 (lv_at hl 6 rfl) ?_
            refine lv_if_ne (tgt := 130) hx hb dX1_weighNode_122 (by decide) (fun c89 => ?_) (fun c89 => ?_)
            · refine lv_iconst (v := 1) hx hb dX1_weighNode_130 (by decide) ?_
              refine lv_goto (tgt := 135) hx hb dX1_weighNode_131 (by decide) ?_
              refine lv_iadd hx hb dX1_weighNode_135 ?_
              refine m_put (T := TX1) (N := 6) (ci := 1) (v := .int (v3_88 + 1)) (ty := .int) hx hb hts wX1 tyX1 tyX1_ok nmX1 hown hK hm hS hM_h0_88 rfl 3 (by decide) f21 (fun _ h9 => h9) rfl (by decide +kernel) rfl rfl (Nat.le_of_ble_eq_true rfl) dX1_weighNode_136 (fun H locs hm hS => ?_)
              have hm : mm D (AZ z) (mu Mc13 h0 (.inr (1, [.int v0_88, .int v1_88, .int v2_88, .int (v3_88 + 1), .ref v4_88, .ref v5_88]))) H := hm
              have hR_90 : (mu Mc13 h0 (.inr (1, [.int v0_88, .int v1_88, .int v2_88, .int (v3_88 + 1), .ref v4_88, .ref v5_88]))) r1 = _ := (mu_ne (kd_ne hk_r1 hk_h0 (by decide))).trans hR_84
              have hR_91 : (mu Mc13 h0 (.inr (1, [.int v0_88, .int v1_88, .int v2_88, .int (v3_88 + 1), .ref v4_88, .ref v5_88]))) v3_3 = _ := (mu_ne (kd_ne hk_v3_3 hk_h0 (by decide))).trans hR_85
              have hR_92 : (mu Mc13 h0 (.inr (1, [.int v0_88, .int v1_88, .int v2_88, .int (v3_88 + 1), .ref v4_88, .ref v5_88]))) r0 = _ := (mu_ne (kd_ne hk_r0 hk_h0 (by decide))).trans hR_86
              have hR_93 : (mu Mc13 h0 (.inr (1, [.int v0_88, .int v1_88, .int v2_88, .int (v3_88 + 1), .ref v4_88, .ref v5_88]))) r2 = _ := (mu_ne (kd_ne hk_r2 hk_h0 (by decide))).trans hR_87
              have hT : TM k κ (mu Mc13 h0 (.inr (1, [.int v0_88, .int v1_88, .int v2_88, .int (v3_88 + 1), .ref v4_88, .ref v5_88]))) := hT.put hk_h0 (show wf k κ .merge (.inr (1, [.int v0_88, .int v1_88, .int v2_88, .int (v3_88 + 1), .ref v4_88, .ref v5_88])) from ⟨v0_88, v1_88, v2_88, (v3_88 + 1), v4_88, v5_88, rfl, hk_v4_88, hk_v5_88⟩)
              have hE : kx κ M κ (mu Mc13 h0 (.inr (1, [.int v0_88, .int v1_88, .int v2_88, .int (v3_88 + 1), .ref v4_88, .ref v5_88]))) := hE.put hk_h0
              generalize (mu Mc13 h0 (.inr (1, [.int v0_88, .int v1_88, .int v2_88, .int (v3_88 + 1), .ref v4_88, .ref v5_88]))) = Mc14 at hm hT hE hR_90 hR_91 hR_92 hR_93
              refine lv_goto (tgt := 210) hx hb dX1_weighNode_139 (by decide) ?_
              refine W.vret hx hb hr (fun t ht hW => ⟨⟨none, _, rfl, ?_, by rw [ht]; exact hm⟩, hS.F ht⟩) hS.2.2 dX1_weighNode_210
              exact ⟨_, hT, hE, rfl⟩
            · first | exact absurd c89 (by decide) | exact absurd (by decide) c89
  · refine lv_aload_n hx hb dX1_weighNode_16 rfl (lv_at hl 3 rfl) ?_
    refine lv_iload hx hb dX1_weighNode_17 (lv_at hl 0 rfl) ?_
    obtain ⟨v0_94, v1_94, v2_94, v3_94, hM_r0_94, hz_v1_94, hk_v3_94⟩ := hT.node hk_r0
    refine m_kV (As := [.int (nI j1)]) (rest := []) (rm := { frames := 0, cells := 0, slots := 0, locals := 0 }) ⟨hx, hb, hml, hown, hts⟩ (t_X2_cell_I l D k z _ _ r0 (nI j1) hk_r0 hT) (cwV 1 hts gX1_weighNode_X2_cell rfl rfl rfl (by decide +kernel) ⟨Nat.le_of_ble_eq_true rfl, Nat.le_of_ble_eq_true rfl⟩) (m_recv hK hm (q := (RX2, TX2, 4)) rfl hM_r0_94) hz hcx hm hS rfl hl.1 rfl (Nat.le_of_ble_eq_true rfl) dX1_weighNode_19 ⟨Nat.le_of_ble_eq_true rfl, Nat.le_of_ble_eq_true rfl⟩ (fun v M1 H locs hv hm hS => ?_)
    obtain ⟨hv1, hM1⟩ := hv
    rw [hM1] at hm
    obtain ⟨w95, hv1⟩ := hv1
    subst hv1
    refine W.eq (g2 := F0 m 22 ls [.int w95]) rfl ?_
    refine W.widen (k := 0) (n := 0) (Nat.le_of_ble_eq_true rfl) (Nat.le_of_ble_eq_true rfl) ?_
    have hm : mm D (AZ z) M H := hm
    refine lv_aload_n hx hb dX1_weighNode_22 rfl (lv_at hl 4 rfl) ?_
    refine lv_iload hx hb dX1_weighNode_23 (lv_at hl 0 rfl) ?_
    refine m_kV (As := [.int (nI j1)]) (rest := [.int w95]) (rm := { frames := 0, cells := 0, slots := 0, locals := 0 }) ⟨hx, hb, hml, hown, hts⟩ (t_X2_cell_I l D k z _ _ r1 (nI j1) hk_r1 hT) (cwV 1 hts gX1_weighNode_X2_cell rfl rfl rfl (by decide +kernel) ⟨Nat.le_of_ble_eq_true rfl, Nat.le_of_ble_eq_true rfl⟩) (m_recv hK hm (q := (RX2, TX2, 4)) rfl hM_r1_3) hz hcx hm hS rfl hl.1 rfl (Nat.le_of_ble_eq_true rfl) dX1_weighNode_25 ⟨Nat.le_of_ble_eq_true rfl, Nat.le_of_ble_eq_true rfl⟩ (fun v M1 H locs hv hm hS => ?_)
    obtain ⟨hv1, hM1⟩ := hv
    rw [hM1] at hm
    obtain ⟨w96, hv1⟩ := hv1
    subst hv1
    refine W.eq (g2 := F0 m 28 ls [.int w96, .int w95]) rfl ?_
    refine W.widen (k := 0) (n := 0) (Nat.le_of_ble_eq_true rfl) (Nat.le_of_ble_eq_true rfl) ?_
    have hm : mm D (AZ z) M H := hm
    refine lv_aload_n hx hb dX1_weighNode_28 rfl (lv_at hl 5 rfl) ?_
    refine lv_iload hx hb dX1_weighNode_29 (lv_at hl 0 rfl) ?_
    obtain ⟨v0_97, v1_97, v2_97, v3_97, hM_r2_97, hz_v1_97, hk_v3_97⟩ := hT.node hk_r2
    refine m_kV (As := [.int (nI j1)]) (rest := [.int w96, .int w95]) (rm := { frames := 0, cells := 0, slots := 0, locals := 0 }) ⟨hx, hb, hml, hown, hts⟩ (t_X2_cell_I l D k z _ _ r2 (nI j1) hk_r2 hT) (cwV 1 hts gX1_weighNode_X2_cell rfl rfl rfl (by decide +kernel) ⟨Nat.le_of_ble_eq_true rfl, Nat.le_of_ble_eq_true rfl⟩) (m_recv hK hm (q := (RX2, TX2, 4)) rfl hM_r2_97) hz hcx hm hS rfl hl.1 rfl (Nat.le_of_ble_eq_true rfl) dX1_weighNode_31 ⟨Nat.le_of_ble_eq_true rfl, Nat.le_of_ble_eq_true rfl⟩ (fun v M1 H locs hv hm hS => ?_)
    obtain ⟨hv1, hM1⟩ := hv
    rw [hM1] at hm
    obtain ⟨w98, hv1⟩ := hv1
    subst hv1
    refine W.eq (g2 := F0 m 34 ls [.int w98, .int w96, .int w95]) rfl ?_
    refine W.widen (k := 0) (n := 0) (Nat.le_of_ble_eq_true rfl) (Nat.le_of_ble_eq_true rfl) ?_
    have hm : mm D (AZ z) M H := hm
    refine m_kS (As := [.int w95, .int w96, .int w98]) (rest := []) (rm := { frames := 0, cells := 0, slots := 0, locals := 0 }) ⟨hx, hb, hml, hown, hts⟩ (t_X1_comes_III l D k z _ _ w95 w96 w98  hT) (cwS 3 hts gX1_weighNode_X1_comes rfl rfl rfl (by decide +kernel) ⟨Nat.le_of_ble_eq_true rfl, Nat.le_of_ble_eq_true rfl⟩) hz hcx hm hS rfl hl.1 rfl (Nat.le_of_ble_eq_true rfl) dX1_weighNode_34 ⟨Nat.le_of_ble_eq_true rfl, Nat.le_of_ble_eq_true rfl⟩ (fun v M1 H locs hv hm hS => ?_)
    obtain ⟨hv1, hM1⟩ := hv
    rw [hM1] at hm
    rcases hv1 with hv1 | hv1
    · subst hv1
      refine W.eq (g2 := F0 m 37 ls [.int 0]) rfl ?_
      refine W.widen (k := 0) (n := 0) (Nat.le_of_ble_eq_true rfl) (Nat.le_of_ble_eq_true rfl) ?_
      have hm : mm D (AZ z) M H := hm
      refine lv_if_eq (tgt := 43) hx hb dX1_weighNode_37 (by decide) (fun c99 => ?_) (fun c99 => ?_)
      · refine lv_iinc (v := ((nI j1) + 1)) (lv' := [(6, .int ((nI j1) + 1)), (5, .int y2), (0, .ref h0), (1, .ref r0), (2, .ref r1), (3, .ref r2), (4, .int 1)]) hx hb dX1_weighNode_43 hl (k := 0) rfl rfl (by decide) rfl (fun ls hl => ?_)
        refine lv_goto (tgt := 6) hx hb dX1_weighNode_46 (by decide) ?_
        rw [nI_1] at hl
        exact ih6 (j1 + 1, y2) _ _ _ ⟨(by first | exact nI_up hbj1 c5 | exact nI_up2 (by decide) hbj1 c5), hm, hS, lv_sub hl [0, 1, 2, 3, 4, 5, 6] rfl⟩ (by show 2147483648 - (j1 + 1) < 2147483648 - j1; omega)
      · first | exact absurd c99 (by decide) | exact absurd (by decide) c99
    · subst hv1
      refine W.eq (g2 := F0 m 37 ls [.int 1]) rfl ?_
      refine W.widen (k := 0) (n := 0) (Nat.le_of_ble_eq_true rfl) (Nat.le_of_ble_eq_true rfl) ?_
      have hm : mm D (AZ z) M H := hm
      refine lv_if_eq (tgt := 43) hx hb dX1_weighNode_37 (by decide) (fun c100 => ?_) (fun c100 => ?_)
      · first | exact absurd c100 (by decide) | exact absurd (by decide) c100
      · refine lv_iinc (v := (y2 + 1)) (lv' := [(5, .int (y2 + 1)), (6, .int (nI j1)), (0, .ref h0), (1, .ref r0), (2, .ref r1), (3, .ref r2), (4, .int 1)]) hx hb dX1_weighNode_40 hl (k := 1) rfl rfl (by decide) rfl (fun ls hl => ?_)
        refine lv_iinc (v := ((nI j1) + 1)) (lv' := [(6, .int ((nI j1) + 1)), (5, .int (y2 + 1)), (0, .ref h0), (1, .ref r0), (2, .ref r1), (3, .ref r2), (4, .int 1)]) hx hb dX1_weighNode_43 hl (k := 1) rfl rfl (by decide) rfl (fun ls hl => ?_)
        refine lv_goto (tgt := 6) hx hb dX1_weighNode_46 (by decide) ?_
        rw [nI_1] at hl
        exact ih6 (j1 + 1, (y2 + 1)) _ _ _ ⟨(by first | exact nI_up hbj1 c5 | exact nI_up2 (by decide) hbj1 c5), hm, hS, lv_sub hl [0, 1, 2, 3, 4, 5, 6] rfl⟩ (by show 2147483648 - (j1 + 1) < 2147483648 - j1; omega)

