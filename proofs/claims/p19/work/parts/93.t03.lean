set_option maxHeartbeats 4000000 in
set_option maxRecDepth 100000 in
theorem t_X1_wordBlocksComing_RRR (l : Launch) (D : va_G) (k : Nat → ClassId) (z : Nat) (M : mM) (κ : Nat → Option KD) (r0 : Nat) (r1 : Nat) (r2 : Nat) (hk_r0 : κ r0 = some .node) (hk_r1 : κ r1 = some .node) (hk_r2 : κ r2 = some .node) (hT : TM k κ M) : mK l yX1_wordBlocksComing wsX1_wordBlocksComing ({ frames := 1, cells := 0, slots := 0, locals := 22 }) D k z [.ref r0, .ref r1, .ref r2] M (fun v M' => (∃ x, v = some (.int x)) ∧ M' = M) := by
  refine Met.ofW (cc := cX1_wordBlocksComing) (maxL := 8) (ret := (some .int)) (by decide) rfl ?_
  intro p e s m args below meth c s₁ B hml hv
  obtain ⟨rfl, hz, hcx, hm⟩ := hv
  have hx := B.exec
  have hb := B.bytes
  have hr := B.returns
  have hts := atoms_spec (ws := wsX1_wordBlocksComing) B.pre
  have hown : s.vm.findClass RX1 = some m.cls := findClass_of_methodNamed B.named
  have hlocks := B.notSynchronized
  have hK := hcx.1
  have hS : va_S (AZ z) s.heap s.heap [] := va_S.rf
  have hA : ∀ q, s.heap.size ≤ q → AZ z q := fun q h => Nat.le_trans hz h
  have hl := lv_entry ([.ref r0, .ref r1, .ref r2]) (n := 8) (Nat.le_of_ble_eq_true rfl)
  rw [lg_entry_eq]
  generalize (lg_sl ([.ref r0, .ref r1, .ref r2]) ++ List.replicate (8 - (lg_sl ([.ref r0, .ref r1, .ref r2])).length) Slot.unset).toArray = ls at hl ⊢
  have hl : lv_has ls 8 [(0, .ref r0), (1, .ref r1), (2, .ref r2)] := hl
  have f80 := hts (.fieldLink RX1 80 "CommitTree$Node" "size" "I") (by decide +kernel)
  have wX2 : ∀ w ∈ wsX20, w ∈ wsX1_wordBlocksComing := by decide +kernel
  have hT0 := hT
  have hE : kx κ M κ M := kx.refl _ _
  refine lv_aload_n hx hb dX1_wordBlocksComing_0 rfl (lv_at hl 0 rfl) ?_
  obtain ⟨v0_1, v1_1, v2_1, v3_1, hM_r0_1, hz_v1_1, hk_v3_1⟩ := hT.node hk_r0
  refine m_get (T := TX2) (N := 4) (ci := 2) (v := .int v2_1) hx hb hts wX2 hown hK hm hM_r0_1 rfl 2 (by decide) f80 (fun _ h9 => h9) rfl dX1_wordBlocksComing_1 ?_
  refine lv_aload_n hx hb dX1_wordBlocksComing_4 rfl (lv_at hl 1 rfl) ?_
  obtain ⟨v0_2, v1_2, v2_2, v3_2, hM_r1_2, hz_v1_2, hk_v3_2⟩ := hT.node hk_r1
  refine m_get (T := TX2) (N := 4) (ci := 2) (v := .int v2_2) hx hb hts wX2 hown hK hm hM_r1_2 rfl 2 (by decide) f80 (fun _ h9 => h9) rfl dX1_wordBlocksComing_5 ?_
  refine lv_aload_n hx hb dX1_wordBlocksComing_8 rfl (lv_at hl 2 rfl) ?_
  obtain ⟨v0_3, v1_3, v2_3, v3_3, hM_r2_3, hz_v1_3, hk_v3_3⟩ := hT.node hk_r2
  refine m_get (T := TX2) (N := 4) (ci := 2) (v := .int v2_3) hx hb hts wX2 hown hK hm hM_r2_3 rfl 2 (by decide) f80 (fun _ h9 => h9) rfl dX1_wordBlocksComing_9 ?_
  refine m_kS (As := [.int v2_1, .int v2_2, .int v2_3]) (rest := []) (rm := { frames := 0, cells := 0, slots := 0, locals := 0 }) ⟨hx, hb, hml, hown, hts⟩ (t_X1_merged_III l D k z _ _ v2_1 v2_2 v2_3  hT) (cwS 3 hts gX1_wordBlocksComing_X1_merged rfl rfl rfl (by decide +kernel) ⟨Nat.le_of_ble_eq_true rfl, Nat.le_of_ble_eq_true rfl⟩) hz hcx hm hS rfl hl.1 rfl (Nat.le_of_ble_eq_true rfl) dX1_wordBlocksComing_12 ⟨Nat.le_of_ble_eq_true rfl, Nat.le_of_ble_eq_true rfl⟩ (fun v M1 H locs hv hm hS => ?_)
  obtain ⟨hv1, hM1⟩ := hv
  rw [hM1] at hm
  obtain ⟨w4, hv1⟩ := hv1
  subst hv1
  refine W.eq (g2 := F0 m 15 ls [.int w4]) rfl ?_
  refine W.widen (k := 0) (n := 0) (Nat.le_of_ble_eq_true rfl) (Nat.le_of_ble_eq_true rfl) ?_
  have hm : mm D (AZ z) M H := hm
  refine lv_istore_n (lv' := [(3, .int w4), (0, .ref r0), (1, .ref r1), (2, .ref r2)]) hx hb dX1_wordBlocksComing_15 rfl hl (by decide) rfl (fun ls hl => ?_)
  refine lv_iconst (v := (-1)) hx hb dX1_wordBlocksComing_16 (by decide) ?_
  refine lv_istore (lv' := [(4, .int (-1)), (3, .int w4), (0, .ref r0), (1, .ref r1), (2, .ref r2)]) hx hb dX1_wordBlocksComing_17 hl (by decide) rfl (fun ls hl => ?_)
  refine lv_iconst (v := 0) hx hb dX1_wordBlocksComing_19 (by decide) ?_
  refine lv_istore (lv' := [(5, .int 0), (4, .int (-1)), (3, .int w4), (0, .ref r0), (1, .ref r1), (2, .ref r2)]) hx hb dX1_wordBlocksComing_20 hl (by decide) rfl (fun ls hl => ?_)
  refine lv_iconst (v := 0) hx hb dX1_wordBlocksComing_22 (by decide) ?_
  refine lv_istore (lv' := [(6, .int 0), (5, .int 0), (4, .int (-1)), (3, .int w4), (0, .ref r0), (1, .ref r1), (2, .ref r2)]) hx hb dX1_wordBlocksComing_23 hl (by decide) rfl (fun ls hl => ?_)
  refine W_loop (σ := Nat × Int32 × Int32) (fun ⟨j5, y6, y7⟩ H locs ls => (j5 < 2147483648) ∧ mm D (AZ z) M H ∧ va_S (AZ z) s.heap H locs ∧ lv_has ls 8 [(6, .int (nI j5)), (5, .int y6), (4, .int y7), (3, .int w4), (0, .ref r0), (1, .ref r1), (2, .ref r2)]) (fun ⟨j5, y6, y7⟩ => 2147483648 - j5) (fun ⟨j5, y6, y7⟩ => 0) (fun ⟨j5, y6, y7⟩ => 0) ?_ (0, 0, (-1)) _ _ _ ⟨(by decide), hm, hS, lv_sub hl [0, 1, 2, 3, 4, 5, 6] rfl⟩
  intro ⟨j5, y6, y7⟩ H locs ls hQ ih25
  obtain ⟨hbj5, hm, hS, hl⟩ := hQ
  try dsimp only at hm hl ih25 hbj5 ⊢
  refine lv_iload hx hb dX1_wordBlocksComing_25 (lv_at hl 0 rfl) ?_
  refine lv_iload_n hx hb dX1_wordBlocksComing_27 rfl (lv_at hl 3 rfl) ?_
  refine lv_icmp_ge (tgt := 91) hx hb dX1_wordBlocksComing_28 (by decide) (fun c8 => ?_) (fun c8 => ?_)
  · refine lv_iload hx hb dX1_wordBlocksComing_91 (lv_at hl 1 rfl) ?_
    refine W.iret (v := y6) hx hb hr (fun t ht hW => ⟨⟨some (.int y6), _, rfl, ?_, by rw [ht]; exact hm⟩, hS.F ht⟩) hS.2.2 dX1_wordBlocksComing_93
    exact ⟨⟨_, rfl⟩, rfl⟩
  · refine lv_iload hx hb dX1_wordBlocksComing_31 (lv_at hl 0 rfl) ?_
    refine lv_bipush (v := 8) hx hb dX1_wordBlocksComing_33 (by decide) ?_
    refine lv_idiv hx hb dX1_wordBlocksComing_35 (by decide) ?_
    refine lv_istore (lv' := [(7, .int ((nI j5) / 8)), (6, .int (nI j5)), (5, .int y6), (4, .int y7), (3, .int w4), (0, .ref r0), (1, .ref r1), (2, .ref r2)]) hx hb dX1_wordBlocksComing_36 hl (by decide) rfl (fun ls hl => ?_)
    refine lv_iload hx hb dX1_wordBlocksComing_38 (lv_at hl 0 rfl) ?_
    refine lv_iload hx hb dX1_wordBlocksComing_40 (lv_at hl 3 rfl) ?_
    refine lv_icmp_eq (tgt := 85) hx hb dX1_wordBlocksComing_42 (by decide) (fun c9 => ?_) (fun c9 => ?_)
    · refine lv_iinc (v := ((nI j5) + 1)) (lv' := [(6, .int ((nI j5) + 1)), (7, .int ((nI j5) / 8)), (5, .int y6), (4, .int y7), (3, .int w4), (0, .ref r0), (1, .ref r1), (2, .ref r2)]) hx hb dX1_wordBlocksComing_85 hl (k := 1) rfl rfl (by decide) rfl (fun ls hl => ?_)
      refine lv_goto (tgt := 25) hx hb dX1_wordBlocksComing_88 (by decide) ?_
      rw [nI_1] at hl
      exact ih25 (j5 + 1, y6, y7) _ _ _ ⟨(by first | exact nI_up hbj5 c8 | exact nI_up2 (by decide) hbj5 c8), hm, hS, lv_sub hl [0, 2, 3, 4, 5, 6, 7] rfl⟩ (by show 2147483648 - (j5 + 1) < 2147483648 - j5; omega)
    · refine lv_iload hx hb dX1_wordBlocksComing_45 (lv_at hl 1 rfl) ?_
      refine lv_aload_n hx hb dX1_wordBlocksComing_47 rfl (lv_at hl 7 rfl) ?_
      refine m_get (T := TX2) (N := 4) (ci := 2) (v := .int v2_3) hx hb hts wX2 hown hK hm hM_r2_3 rfl 2 (by decide) f80 (fun _ h9 => h9) rfl dX1_wordBlocksComing_48 ?_
      refine lv_icmp_ge (tgt := 78) hx hb dX1_wordBlocksComing_51 (by decide) (fun c10 => ?_) (fun c10 => ?_)
      · refine lv_iload hx hb dX1_wordBlocksComing_78 (lv_at hl 0 rfl) ?_
        refine lv_istore (lv' := [(4, .int ((nI j5) / 8)), (7, .int ((nI j5) / 8)), (6, .int (nI j5)), (5, .int y6), (3, .int w4), (0, .ref r0), (1, .ref r1), (2, .ref r2)]) hx hb dX1_wordBlocksComing_80 hl (by decide) rfl (fun ls hl => ?_)
        refine lv_iinc (v := (y6 + 1)) (lv' := [(5, .int (y6 + 1)), (4, .int ((nI j5) / 8)), (7, .int ((nI j5) / 8)), (6, .int (nI j5)), (3, .int w4), (0, .ref r0), (1, .ref r1), (2, .ref r2)]) hx hb dX1_wordBlocksComing_82 hl (k := 3) rfl rfl (by decide) rfl (fun ls hl => ?_)
        refine lv_iinc (v := ((nI j5) + 1)) (lv' := [(6, .int ((nI j5) + 1)), (5, .int (y6 + 1)), (4, .int ((nI j5) / 8)), (7, .int ((nI j5) / 8)), (3, .int w4), (0, .ref r0), (1, .ref r1), (2, .ref r2)]) hx hb dX1_wordBlocksComing_85 hl (k := 3) rfl rfl (by decide) rfl (fun ls hl => ?_)
        refine lv_goto (tgt := 25) hx hb dX1_wordBlocksComing_88 (by decide) ?_
        rw [nI_1] at hl
        exact ih25 (j5 + 1, (y6 + 1), ((nI j5) / 8)) _ _ _ ⟨(by first | exact nI_up hbj5 c8 | exact nI_up2 (by decide) hbj5 c8), hm, hS, lv_sub hl [0, 1, 2, 4, 5, 6, 7] rfl⟩ (by show 2147483648 - (j5 + 1) < 2147483648 - j5; omega)
      · refine lv_aload_n hx hb dX1_wordBlocksComing_54 rfl (lv_at hl 5 rfl) ?_
        refine lv_iload hx hb dX1_wordBlocksComing_55 (lv_at hl 1 rfl) ?_
        refine m_kV (As := [.int (nI j5)]) (rest := []) (rm := { frames := 0, cells := 0, slots := 0, locals := 0 }) ⟨hx, hb, hml, hown, hts⟩ (t_X2_cell_I l D k z _ _ r0 (nI j5) hk_r0 hT) (cwV 1 hts gX1_wordBlocksComing_X2_cell rfl rfl rfl (by decide +kernel) ⟨Nat.le_of_ble_eq_true rfl, Nat.le_of_ble_eq_true rfl⟩) (m_recv hK hm (q := (RX2, TX2, 4)) rfl hM_r0_1) hz hcx hm hS rfl hl.1 rfl (Nat.le_of_ble_eq_true rfl) dX1_wordBlocksComing_57 ⟨Nat.le_of_ble_eq_true rfl, Nat.le_of_ble_eq_true rfl⟩ (fun v M1 H locs hv hm hS => ?_)
        obtain ⟨hv1, hM1⟩ := hv
        rw [hM1] at hm
        obtain ⟨w11, hv1⟩ := hv1
        subst hv1
        refine W.eq (g2 := F0 m 60 ls [.int w11]) rfl ?_
        refine W.widen (k := 0) (n := 0) (Nat.le_of_ble_eq_true rfl) (Nat.le_of_ble_eq_true rfl) ?_
        have hm : mm D (AZ z) M H := hm
        refine lv_aload_n hx hb dX1_wordBlocksComing_60 rfl (lv_at hl 6 rfl) ?_
        refine lv_iload hx hb dX1_wordBlocksComing_61 (lv_at hl 1 rfl) ?_
        refine m_kV (As := [.int (nI j5)]) (rest := [.int w11]) (rm := { frames := 0, cells := 0, slots := 0, locals := 0 }) ⟨hx, hb, hml, hown, hts⟩ (t_X2_cell_I l D k z _ _ r1 (nI j5) hk_r1 hT) (cwV 1 hts gX1_wordBlocksComing_X2_cell rfl rfl rfl (by decide +kernel) ⟨Nat.le_of_ble_eq_true rfl, Nat.le_of_ble_eq_true rfl⟩) (m_recv hK hm (q := (RX2, TX2, 4)) rfl hM_r1_2) hz hcx hm hS rfl hl.1 rfl (Nat.le_of_ble_eq_true rfl) dX1_wordBlocksComing_63 ⟨Nat.le_of_ble_eq_true rfl, Nat.le_of_ble_eq_true rfl⟩ (fun v M1 H locs hv hm hS => ?_)
        obtain ⟨hv1, hM1⟩ := hv
        rw [hM1] at hm
        obtain ⟨w12, hv1⟩ := hv1
        subst hv1
        refine W.eq (g2 := F0 m 66 ls [.int w12, .int w11]) rfl ?_
        refine W.widen (k := 0) (n := 0) (Nat.le_of_ble_eq_true rfl) (Nat.le_of_ble_eq_true rfl) ?_
        have hm : mm D (AZ z) M H := hm
        refine lv_aload_n hx hb dX1_wordBlocksComing_66 rfl (lv_at hl 7 rfl) ?_
        refine lv_iload hx hb dX1_wordBlocksComing_67 (lv_at hl 1 rfl) ?_
        refine m_kV (As := [.int (nI j5)]) (rest := [.int w12, .int w11]) (rm := { frames := 0, cells := 0, slots := 0, locals := 0 }) ⟨hx, hb, hml, hown, hts⟩ (t_X2_cell_I l D k z _ _ r2 (nI j5) hk_r2 hT) (cwV 1 hts gX1_wordBlocksComing_X2_cell rfl rfl rfl (by decide +kernel) ⟨Nat.le_of_ble_eq_true rfl, Nat.le_of_ble_eq_true rfl⟩) (m_recv hK hm (q := (RX2, TX2, 4)) rfl hM_r2_3) hz hcx hm hS rfl hl.1 rfl (Nat.le_of_ble_eq_true rfl) dX1_wordBlocksComing_69 ⟨Nat.le_of_ble_eq_true rfl, Nat.le_of_ble_eq_true rfl⟩ (fun v M1 H locs hv hm hS => ?_)
        obtain ⟨hv1, hM1⟩ := hv
        rw [hM1] at hm
        obtain ⟨w13, hv1⟩ := hv1
        subst hv1
        refine W.eq (g2 := F0 m 72 ls [.int w13, .int w12, .int w11]) rfl ?_
        refine W.widen (k := 0) (n := 0) (Nat.le_of_ble_eq_true rfl) (Nat.le_of_ble_eq_true rfl) ?_
        have hm : mm D (AZ z) M H := hm
        refine m_kS (As := [.int w11, .int w12, .int w13]) (rest := []) (rm := { frames := 0, cells := 0, slots := 0, locals := 0 }) ⟨hx, hb, hml, hown, hts⟩ (t_X1_comes_III l D k z _ _ w11 w12 w13  hT) (cwS 3 hts gX1_wordBlocksComing_X1_comes rfl rfl rfl (by decide +kernel) ⟨Nat.le_of_ble_eq_true rfl, Nat.le_of_ble_eq_true rfl⟩) hz hcx hm hS rfl hl.1 rfl (Nat.le_of_ble_eq_true rfl) dX1_wordBlocksComing_72 ⟨Nat.le_of_ble_eq_true rfl, Nat.le_of_ble_eq_true rfl⟩ (fun v M1 H locs hv hm hS => ?_)
        obtain ⟨hv1, hM1⟩ := hv
        rw [hM1] at hm
        rcases hv1 with hv1 | hv1
        · subst hv1
          refine W.eq (g2 := F0 m 75 ls [.int 0]) rfl ?_
          refine W.widen (k := 0) (n := 0) (Nat.le_of_ble_eq_true rfl) (Nat.le_of_ble_eq_true rfl) ?_
          have hm : mm D (AZ z) M H := hm
          refine lv_if_eq (tgt := 85) hx hb dX1_wordBlocksComing_75 (by decide) (fun c14 => ?_) (fun c14 => ?_)
          · refine lv_iinc (v := ((nI j5) + 1)) (lv' := [(6, .int ((nI j5) + 1)), (7, .int ((nI j5) / 8)), (5, .int y6), (4, .int y7), (3, .int w4), (0, .ref r0), (1, .ref r1), (2, .ref r2)]) hx hb dX1_wordBlocksComing_85 hl (k := 1) rfl rfl (by decide) rfl (fun ls hl => ?_)
            refine lv_goto (tgt := 25) hx hb dX1_wordBlocksComing_88 (by decide) ?_
            rw [nI_1] at hl
            exact ih25 (j5 + 1, y6, y7) _ _ _ ⟨(by first | exact nI_up hbj5 c8 | exact nI_up2 (by decide) hbj5 c8), hm, hS, lv_sub hl [0, 2, 3, 4, 5, 6, 7] rfl⟩ (by show 2147483648 - (j5 + 1) < 2147483648 - j5; omega)
          · first | exact absurd c14 (by decide) | exact absurd (by decide) c14
        · subst hv1
          refine W.eq (g2 := F0 m 75 ls [.int 1]) rfl ?_
          refine W.widen (k := 0) (n := 0) (Nat.le_of_ble_eq_true rfl) (Nat.le_of_ble_eq_true rfl) ?_
          have hm : mm D (AZ z) M H := hm
          refine lv_if_eq (tgt := 85) hx hb dX1_wordBlocksComing_75 (by decide) (fun c15 => ?_) (fun c15 => ?_)
          · first | exact absurd c15 (by decide) | exact absurd (by decide) c15
          · refine lv_iload hx hb dX1_wordBlocksComing_78 (lv_at hl 0 rfl) ?_
            refine lv_istore (lv' := [(4, .int ((nI j5) / 8)), (7, .int ((nI j5) / 8)), (6, .int (nI j5)), (5, .int y6), (3, .int w4), (0, .ref r0), (1, .ref r1), (2, .ref r2)]) hx hb dX1_wordBlocksComing_80 hl (by decide) rfl (fun ls hl => ?_)
            refine lv_iinc (v := (y6 + 1)) (lv' := [(5, .int (y6 + 1)), (4, .int ((nI j5) / 8)), (7, .int ((nI j5) / 8)), (6, .int (nI j5)), (3, .int w4), (0, .ref r0), (1, .ref r1), (2, .ref r2)]) hx hb dX1_wordBlocksComing_82 hl (k := 3) rfl rfl (by decide) rfl (fun ls hl => ?_)
            refine lv_iinc (v := ((nI j5) + 1)) (lv' := [(6, .int ((nI j5) + 1)), (5, .int (y6 + 1)), (4, .int ((nI j5) / 8)), (7, .int ((nI j5) / 8)), (3, .int w4), (0, .ref r0), (1, .ref r1), (2, .ref r2)]) hx hb dX1_wordBlocksComing_85 hl (k := 3) rfl rfl (by decide) rfl (fun ls hl => ?_)
            refine lv_goto (tgt := 25) hx hb dX1_wordBlocksComing_88 (by decide) ?_
            rw [nI_1] at hl
            exact ih25 (j5 + 1, (y6 + 1), ((nI j5) / 8)) _ _ _ ⟨(by first | exact nI_up hbj5 c8 | exact nI_up2 (by decide) hbj5 c8), hm, hS, lv_sub hl [0, 1, 2, 4, 5, 6, 7] rfl⟩ (by show 2147483648 - (j5 + 1) < 2147483648 - j5; omega)

