set_option maxHeartbeats 4000000 in
set_option maxRecDepth 100000 in
theorem t_X3_differs_RRJJ (l : Launch) (D : va_G) (k : Nat → ClassId) (z : Nat) (M : mM) (κ : Nat → Option KD) (r0 : Nat) (r1 : Nat) (j2 : Int64) (j3 : Int64) (hk_r0 : κ r0 = some .node) (hk_r1 : κ r1 = some .node) (hT : TM k κ M) : mK l yX3_differs wsX3_differs ({ frames := 1, cells := 0, slots := 0, locals := 21 }) D k z [.ref r0, .ref r1, .long j2, .long j3] M (fun v M' => ((v = some (.int 0) ∨ v = some (.int 1))) ∧ M' = M) := by
  refine Met.ofW (cc := cX3_differs) (maxL := 9) (ret := (some .boolean)) (by decide) rfl ?_
  intro p e s m args below meth c s₁ B hml hv
  obtain ⟨rfl, hz, hcx, hm⟩ := hv
  have hx := B.exec
  have hb := B.bytes
  have hr := B.returns
  have hts := atoms_spec (ws := wsX3_differs) B.pre
  have hown : s.vm.findClass RX3 = some m.cls := findClass_of_methodNamed B.named
  have hlocks := B.notSynchronized
  have hK := hcx.1
  have hS : va_S (AZ z) s.heap s.heap [] := va_S.rf
  have hA : ∀ q, s.heap.size ≤ q → AZ z q := fun q h => Nat.le_trans hz h
  have hl := lv_entry ([.ref r0, .ref r1, .long j2, .long j3]) (n := 9) (Nat.le_of_ble_eq_true rfl)
  rw [lg_entry_eq]
  generalize (lg_sl ([.ref r0, .ref r1, .long j2, .long j3]) ++ List.replicate (9 - (lg_sl ([.ref r0, .ref r1, .long j2, .long j3])).length) Slot.unset).toArray = ls at hl ⊢
  have hl : lv_has ls 9 [(0, .ref r0), (1, .ref r1), (2, .long j2), (4, .long j3)] := hl
  have f58 := hts (.fieldLink RX3 58 "CommitTree$Node" "directory" "Z") (by decide +kernel)
  have f84 := hts (.fieldLink RX3 84 "CommitTree$Node" "size" "I") (by decide +kernel)
  have f98 := hts (.fieldLink RX3 98 "CommitTree$Node" "cells" "[I") (by decide +kernel)
  have wX2 : ∀ w ∈ wsX20, w ∈ wsX3_differs := by decide +kernel
  have hT0 := hT
  have hE : kx κ M κ M := kx.refl _ _
  refine lv_aload_n hx hb dX3_differs_0 rfl (lv_at hl 1 rfl) ?_
  refine lv_ifnonnull (tgt := 6) hx hb dX3_differs_1 (by decide) ?_
  refine lv_aload_n hx hb dX3_differs_6 rfl (lv_at hl 0 rfl) ?_
  obtain ⟨v0_1, v1_1, v2_1, v3_1, hM_r0_1, hz_v1_1, hk_v3_1⟩ := hT.node hk_r0
  rcases hz_v1_1 with h9 | h9
  · subst h9
    refine m_get (T := TX2) (N := 4) (ci := 2) (v := .int 0) hx hb hts wX2 hown hK hm hM_r0_1 rfl 1 (by decide) f58 (fun _ h9 => h9) rfl dX3_differs_7 ?_
    refine lv_if_ne (tgt := 33) hx hb dX3_differs_10 (by decide) (fun c2 => ?_) (fun c2 => ?_)
    · first | exact absurd c2 (by decide) | exact absurd (by decide) c2
    · refine lv_lload hx hb dX3_differs_13 (lv_at hl 3 rfl) ?_
      refine lv_lconst (v := 0) hx hb dX3_differs_15 (by decide) ?_
      refine W.lcmp hx hb dX3_differs_16 ?_
      refine lv_if_eq (tgt := 33) hx hb dX3_differs_17 (by decide) (fun c3 => ?_) (fun c3 => ?_)
      · refine lv_iconst (v := 0) hx hb dX3_differs_33 (by decide) ?_
        refine lv_istore (lv' := [(6, .int 0), (0, .ref r0), (1, .ref r1), (2, .long j2), (4, .long j3)]) hx hb dX3_differs_34 hl (by decide) rfl (fun ls hl => ?_)
        refine W_loop (σ := Nat) (fun j4 H locs ls => (j4 < 2147483648) ∧ mm D (AZ z) M H ∧ va_S (AZ z) s.heap H locs ∧ lv_has ls 9 [(6, .int (nI j4)), (0, .ref r0), (1, .ref r1), (2, .long j2), (4, .long j3)]) (fun j4 => 2147483648 - j4) (fun j4 => 0) (fun j4 => 0) ?_ 0 _ _ _ ⟨(by decide), hm, hS, lv_sub hl [0, 1, 2, 3, 4] rfl⟩
        intro j4 H locs ls hQ ih36
        obtain ⟨hbj4, hm, hS, hl⟩ := hQ
        try dsimp only at hm hl ih36 hbj4 ⊢
        refine lv_iload hx hb dX3_differs_36 (lv_at hl 0 rfl) ?_
        refine lv_aload_n hx hb dX3_differs_38 rfl (lv_at hl 1 rfl) ?_
        refine m_get (T := TX2) (N := 4) (ci := 2) (v := .ref v3_1) hx hb hts wX2 hown hK hm hM_r0_1 rfl 3 (by decide) f98 (fun _ h9 => h9) rfl dX3_differs_39 ?_
        obtain ⟨n_5, f_5, hM_v3_1_5, hn_5⟩ := hT.ints hk_v3_1
        refine m_alen hx hb hK hm 0 hM_v3_1_5 rfl (v := nI n_5) rfl dX3_differs_42 ?_
        refine lv_icmp_ge (tgt := 132) hx hb dX3_differs_43 (by decide) (fun c6 => ?_) (fun c6 => ?_)
        · refine lv_iconst (v := 0) hx hb dX3_differs_132 (by decide) ?_
          refine W.zret hx hb hr rfl (fun t ht hW => ⟨⟨some (.int 0), _, rfl, ?_, by rw [ht]; exact hm⟩, hS.F ht⟩) hS.2.2 dX3_differs_133
          exact ⟨Or.inl rfl, rfl⟩
        · refine lv_aload_n hx hb dX3_differs_46 rfl (lv_at hl 1 rfl) ?_
          refine lv_iload hx hb dX3_differs_47 (lv_at hl 0 rfl) ?_
          refine m_kV (As := [.int (nI j4)]) (rest := []) (rm := { frames := 0, cells := 0, slots := 0, locals := 0 }) ⟨hx, hb, hml, hown, hts⟩ (t_X2_cell_I l D k z _ _ r0 (nI j4) hk_r0 hT) (cwV 1 hts gX3_differs_X2_cell rfl rfl rfl (by decide +kernel) ⟨Nat.le_of_ble_eq_true rfl, Nat.le_of_ble_eq_true rfl⟩) (m_recv hK hm (q := (RX2, TX2, 4)) rfl hM_r0_1) hz hcx hm hS rfl hl.1 rfl (Nat.le_of_ble_eq_true rfl) dX3_differs_49 ⟨Nat.le_of_ble_eq_true rfl, Nat.le_of_ble_eq_true rfl⟩ (fun v M1 H locs hv hm hS => ?_)
          obtain ⟨hv1, hM1⟩ := hv
          rw [hM1] at hm
          obtain ⟨w7, hv1⟩ := hv1
          subst hv1
          refine W.eq (g2 := F0 m 52 ls [.int w7]) rfl ?_
          refine W.widen (k := 0) (n := 0) (Nat.le_of_ble_eq_true rfl) (Nat.le_of_ble_eq_true rfl) ?_
          have hm : mm D (AZ z) M H := hm
          refine lv_istore (lv' := [(7, .int w7), (6, .int (nI j4)), (0, .ref r0), (1, .ref r1), (2, .long j2), (4, .long j3)]) hx hb dX3_differs_52 hl (by decide) rfl (fun ls hl => ?_)
          refine lv_aload_n hx hb dX3_differs_54 rfl (lv_at hl 3 rfl) ?_
          refine lv_iload hx hb dX3_differs_55 (lv_at hl 1 rfl) ?_
          obtain ⟨v0_8, v1_8, v2_8, v3_8, hM_r1_8, hz_v1_8, hk_v3_8⟩ := hT.node hk_r1
          refine m_kV (As := [.int (nI j4)]) (rest := []) (rm := { frames := 0, cells := 0, slots := 0, locals := 0 }) ⟨hx, hb, hml, hown, hts⟩ (t_X2_cell_I l D k z _ _ r1 (nI j4) hk_r1 hT) (cwV 1 hts gX3_differs_X2_cell rfl rfl rfl (by decide +kernel) ⟨Nat.le_of_ble_eq_true rfl, Nat.le_of_ble_eq_true rfl⟩) (m_recv hK hm (q := (RX2, TX2, 4)) rfl hM_r1_8) hz hcx hm hS rfl hl.1 rfl (Nat.le_of_ble_eq_true rfl) dX3_differs_57 ⟨Nat.le_of_ble_eq_true rfl, Nat.le_of_ble_eq_true rfl⟩ (fun v M1 H locs hv hm hS => ?_)
          obtain ⟨hv1, hM1⟩ := hv
          rw [hM1] at hm
          obtain ⟨w9, hv1⟩ := hv1
          subst hv1
          refine W.eq (g2 := F0 m 60 ls [.int w9]) rfl ?_
          refine W.widen (k := 0) (n := 0) (Nat.le_of_ble_eq_true rfl) (Nat.le_of_ble_eq_true rfl) ?_
          have hm : mm D (AZ z) M H := hm
          refine lv_istore (lv' := [(8, .int w9), (7, .int w7), (6, .int (nI j4)), (0, .ref r0), (1, .ref r1), (2, .long j2), (4, .long j3)]) hx hb dX3_differs_60 hl (by decide) rfl (fun ls hl => ?_)
          refine lv_lload_n hx hb dX3_differs_62 rfl (lv_at hl 5 rfl) ?_
          refine lv_iload hx hb dX3_differs_63 (lv_at hl 2 rfl) ?_
          refine lv_lshr (v := (j2 >>> ((nI j4).toInt64 &&& 63))) hx hb dX3_differs_65 rfl ?_
          refine lv_lconst (v := 1) hx hb dX3_differs_66 (by decide) ?_
          refine lv_land hx hb dX3_differs_67 ?_
          refine lv_lconst (v := 0) hx hb dX3_differs_68 (by decide) ?_
          refine W.lcmp hx hb dX3_differs_69 ?_
          refine lv_if_eq (tgt := 82) hx hb dX3_differs_70 (by decide) (fun c10 => ?_) (fun c10 => ?_)
          · refine lv_aload_n hx hb dX3_differs_82 rfl (lv_at hl 3 rfl) ?_
            refine m_get (T := TX2) (N := 4) (ci := 2) (v := .int 0) hx hb hts wX2 hown hK hm hM_r0_1 rfl 1 (by decide) f58 (fun _ h9 => h9) rfl dX3_differs_83 ?_
            refine lv_if_eq (tgt := 126) hx hb dX3_differs_86 (by decide) (fun c11 => ?_) (fun c11 => ?_)
            · refine lv_iinc (v := ((nI j4) + 1)) (lv' := [(6, .int ((nI j4) + 1)), (8, .int w9), (7, .int w7), (0, .ref r0), (1, .ref r1), (2, .long j2), (4, .long j3)]) hx hb dX3_differs_126 hl (k := 2) rfl rfl (by decide) rfl (fun ls hl => ?_)
              refine lv_goto (tgt := 36) hx hb dX3_differs_129 (by decide) ?_
              rw [nI_1] at hl
              exact ih36 (j4 + 1) _ _ _ ⟨(by first | exact nI_up hbj4 c6 | exact nI_up2 (by decide) hbj4 c6), hm, hS, lv_sub hl [0, 3, 4, 5, 6] rfl⟩ (by show 2147483648 - (j4 + 1) < 2147483648 - j4; omega)
            · first | exact absurd c11 (by decide) | exact absurd (by decide) c11
          · refine lv_iload hx hb dX3_differs_73 (lv_at hl 1 rfl) ?_
            refine lv_iload hx hb dX3_differs_75 (lv_at hl 0 rfl) ?_
            refine lv_icmp_eq (tgt := 82) hx hb dX3_differs_77 (by decide) (fun c12 => ?_) (fun c12 => ?_)
            · refine lv_aload_n hx hb dX3_differs_82 rfl (lv_at hl 3 rfl) ?_
              refine m_get (T := TX2) (N := 4) (ci := 2) (v := .int 0) hx hb hts wX2 hown hK hm hM_r0_1 rfl 1 (by decide) f58 (fun _ h9 => h9) rfl dX3_differs_83 ?_
              refine lv_if_eq (tgt := 126) hx hb dX3_differs_86 (by decide) (fun c13 => ?_) (fun c13 => ?_)
              · refine lv_iinc (v := ((nI j4) + 1)) (lv' := [(6, .int ((nI j4) + 1)), (8, .int w9), (7, .int w7), (0, .ref r0), (1, .ref r1), (2, .long j2), (4, .long j3)]) hx hb dX3_differs_126 hl (k := 2) rfl rfl (by decide) rfl (fun ls hl => ?_)
                refine lv_goto (tgt := 36) hx hb dX3_differs_129 (by decide) ?_
                rw [nI_1] at hl
                exact ih36 (j4 + 1) _ _ _ ⟨(by first | exact nI_up hbj4 c6 | exact nI_up2 (by decide) hbj4 c6), hm, hS, lv_sub hl [0, 3, 4, 5, 6] rfl⟩ (by show 2147483648 - (j4 + 1) < 2147483648 - j4; omega)
              · first | exact absurd c13 (by decide) | exact absurd (by decide) c13
            · refine lv_iconst (v := 1) hx hb dX3_differs_80 (by decide) ?_
              refine W.zret hx hb hr rfl (fun t ht hW => ⟨⟨some (.int 1), _, rfl, ?_, by rw [ht]; exact hm⟩, hS.F ht⟩) hS.2.2 dX3_differs_81
              exact ⟨Or.inr rfl, rfl⟩
      · refine lv_aload_n hx hb dX3_differs_20 rfl (lv_at hl 0 rfl) ?_
        refine m_get (T := TX2) (N := 4) (ci := 2) (v := .int v2_1) hx hb hts wX2 hown hK hm hM_r0_1 rfl 2 (by decide) f84 (fun _ h9 => h9) rfl dX3_differs_21 ?_
        refine lv_aload_n hx hb dX3_differs_24 rfl (lv_at hl 1 rfl) ?_
        obtain ⟨v0_14, v1_14, v2_14, v3_14, hM_r1_14, hz_v1_14, hk_v3_14⟩ := hT.node hk_r1
        refine m_get (T := TX2) (N := 4) (ci := 2) (v := .int v2_14) hx hb hts wX2 hown hK hm hM_r1_14 rfl 2 (by decide) f84 (fun _ h9 => h9) rfl dX3_differs_25 ?_
        refine lv_icmp_eq (tgt := 33) hx hb dX3_differs_28 (by decide) (fun c15 => ?_) (fun c15 => ?_)
        · refine lv_iconst (v := 0) hx hb dX3_differs_33 (by decide) ?_
          refine lv_istore (lv' := [(6, .int 0), (0, .ref r0), (1, .ref r1), (2, .long j2), (4, .long j3)]) hx hb dX3_differs_34 hl (by decide) rfl (fun ls hl => ?_)
          refine W_loop (σ := Nat) (fun j16 H locs ls => (j16 < 2147483648) ∧ mm D (AZ z) M H ∧ va_S (AZ z) s.heap H locs ∧ lv_has ls 9 [(6, .int (nI j16)), (0, .ref r0), (1, .ref r1), (2, .long j2), (4, .long j3)]) (fun j16 => 2147483648 - j16) (fun j16 => 0) (fun j16 => 0) ?_ 0 _ _ _ ⟨(by decide), hm, hS, lv_sub hl [0, 1, 2, 3, 4] rfl⟩
          intro j16 H locs ls hQ ih36
          obtain ⟨hbj16, hm, hS, hl⟩ := hQ
          try dsimp only at hm hl ih36 hbj16 ⊢
          refine lv_iload hx hb dX3_differs_36 (lv_at hl 0 rfl) ?_
          refine lv_aload_n hx hb dX3_differs_38 rfl (lv_at hl 1 rfl) ?_
          refine m_get (T := TX2) (N := 4) (ci := 2) (v := .ref v3_1) hx hb hts wX2 hown hK hm hM_r0_1 rfl 3 (by decide) f98 (fun _ h9 => h9) rfl dX3_differs_39 ?_
          obtain ⟨n_17, f_17, hM_v3_1_17, hn_17⟩ := hT.ints hk_v3_1
          refine m_alen hx hb hK hm 0 hM_v3_1_17 rfl (v := nI n_17) rfl dX3_differs_42 ?_
          refine lv_icmp_ge (tgt := 132) hx hb dX3_differs_43 (by decide) (fun c18 => ?_) (fun c18 => ?_)
          · refine lv_iconst (v := 0) hx hb dX3_differs_132 (by decide) ?_
            refine W.zret hx hb hr rfl (fun t ht hW => ⟨⟨some (.int 0), _, rfl, ?_, by rw [ht]; exact hm⟩, hS.F ht⟩) hS.2.2 dX3_differs_133
            exact ⟨Or.inl rfl, rfl⟩
          · refine lv_aload_n hx hb dX3_differs_46 rfl (lv_at hl 1 rfl) ?_
            refine lv_iload hx hb dX3_differs_47 (lv_at hl 0 rfl) ?_
            refine m_kV (As := [.int (nI j16)]) (rest := []) (rm := { frames := 0, cells := 0, slots := 0, locals := 0 }) ⟨hx, hb, hml, hown, hts⟩ (t_X2_cell_I l D k z _ _ r0 (nI j16) hk_r0 hT) (cwV 1 hts gX3_differs_X2_cell rfl rfl rfl (by decide +kernel) ⟨Nat.le_of_ble_eq_true rfl, Nat.le_of_ble_eq_true rfl⟩) (m_recv hK hm (q := (RX2, TX2, 4)) rfl hM_r0_1) hz hcx hm hS rfl hl.1 rfl (Nat.le_of_ble_eq_true rfl) dX3_differs_49 ⟨Nat.le_of_ble_eq_true rfl, Nat.le_of_ble_eq_true rfl⟩ (fun v M1 H locs hv hm hS => ?_)
            obtain ⟨hv1, hM1⟩ := hv
            rw [hM1] at hm
            obtain ⟨w19, hv1⟩ := hv1
            subst hv1
            refine W.eq (g2 := F0 m 52 ls [.int w19]) rfl ?_
            refine W.widen (k := 0) (n := 0) (Nat.le_of_ble_eq_true rfl) (Nat.le_of_ble_eq_true rfl) ?_
            have hm : mm D (AZ z) M H := hm
            refine lv_istore (lv' := [(7, .int w19), (6, .int (nI j16)), (0, .ref r0), (1, .ref r1), (2, .long j2), (4, .long j3)]) hx hb dX3_differs_52 hl (by decide) rfl (fun ls hl => ?_)
            refine lv_aload_n hx hb dX3_differs_54 rfl (lv_at hl 3 rfl) ?_
            refine lv_iload hx hb dX3_differs_55 (lv_at hl 1 rfl) ?_
            refine m_kV (As := [.int (nI j16)]) (rest := []) (rm := { frames := 0, cells := 0, slots := 0, locals := 0 }) ⟨hx, hb, hml, hown, hts⟩ (t_X2_cell_I l D k z _ _ r1 (nI j16) hk_r1 hT) (cwV 1 hts gX3_differs_X2_cell rfl rfl rfl (by decide +kernel) ⟨Nat.le_of_ble_eq_true rfl, Nat.le_of_ble_eq_true rfl⟩) (m_recv hK hm (q := (RX2, TX2, 4)) rfl hM_r1_14) hz hcx hm hS rfl hl.1 rfl (Nat.le_of_ble_eq_true rfl) dX3_differs_57 ⟨Nat.le_of_ble_eq_true rfl, Nat.le_of_ble_eq_true rfl⟩ (fun v M1 H locs hv hm hS => ?_)
            obtain ⟨hv1, hM1⟩ := hv
            rw [hM1] at hm
            obtain ⟨w20, hv1⟩ := hv1
            subst hv1
            refine W.eq (g2 := F0 m 60 ls [.int w20]) rfl ?_
            refine W.widen (k := 0) (n := 0) (Nat.le_of_ble_eq_true rfl) (Nat.le_of_ble_eq_true rfl) ?_
            have hm : mm D (AZ z) M H := hm
            refine lv_istore (lv' := [(8, .int w20), (7, .int w19), (6, .int (nI j16)), (0, .ref r0), (1, .ref r1), (2, .long j2), (4, .long j3)]) hx hb dX3_differs_60 hl (by decide) rfl (fun ls hl => ?_)
            refine lv_lload_n hx hb dX3_differs_62 rfl (lv_at hl 5 rfl) ?_
            refine lv_iload hx hb dX3_differs_63 (lv_at hl 2 rfl) ?_
            refine lv_lshr (v := (j2 >>> ((nI j16).toInt64 &&& 63))) hx hb dX3_differs_65 rfl ?_
            refine lv_lconst (v := 1) hx hb dX3_differs_66 (by decide) ?_
            refine lv_land hx hb dX3_differs_67 ?_
            refine lv_lconst (v := 0) hx hb dX3_differs_68 (by decide) ?_
            refine W.lcmp hx hb dX3_differs_69 ?_
            refine lv_if_eq (tgt := 82) hx hb dX3_differs_70 (by decide) (fun c21 => ?_) (fun c21 => ?_)
            · refine lv_aload_n hx hb dX3_differs_82 rfl (lv_at hl 3 rfl) ?_
              refine m_get (T := TX2) (N := 4) (ci := 2) (v := .int 0) hx hb hts wX2 hown hK hm hM_r0_1 rfl 1 (by decide) f58 (fun _ h9 => h9) rfl dX3_differs_83 ?_
              refine lv_if_eq (tgt := 126) hx hb dX3_differs_86 (by decide) (fun c22 => ?_) (fun c22 => ?_)
              · refine lv_iinc (v := ((nI j16) + 1)) (lv' := [(6, .int ((nI j16) + 1)), (8, .int w20), (7, .int w19), (0, .ref r0), (1, .ref r1), (2, .long j2), (4, .long j3)]) hx hb dX3_differs_126 hl (k := 2) rfl rfl (by decide) rfl (fun ls hl => ?_)
                refine lv_goto (tgt := 36) hx hb dX3_differs_129 (by decide) ?_
                rw [nI_1] at hl
                exact ih36 (j16 + 1) _ _ _ ⟨(by first | exact nI_up hbj16 c18 | exact nI_up2 (by decide) hbj16 c18), hm, hS, lv_sub hl [0, 3, 4, 5, 6] rfl⟩ (by show 2147483648 - (j16 + 1) < 2147483648 - j16; omega)
              · first | exact absurd c22 (by decide) | exact absurd (by decide) c22
            · refine lv_iload hx hb dX3_differs_73 (lv_at hl 1 rfl) ?_
              refine lv_iload hx hb dX3_differs_75 (lv_at hl 0 rfl) ?_
              refine lv_icmp_eq (tgt := 82) hx hb dX3_differs_77 (by decide) (fun c23 => ?_) (fun c23 => ?_)
              · refine lv_aload_n hx hb dX3_differs_82 rfl (lv_at hl 3 rfl) ?_
                refine m_get (T := TX2) (N := 4) (ci := 2) (v := .int 0) hx hb hts wX2 hown hK hm hM_r0_1 rfl 1 (by decide) f58 (fun _ h9 => h9) rfl dX3_differs_83 ?_
                refine lv_if_eq (tgt := 126) hx hb dX3_differs_86 (by decide) (fun c24 => ?_) (fun c24 => ?_)
                · refine lv_iinc (v := ((nI j16) + 1)) (lv' := [(6, .int ((nI j16) + 1)), (8, .int w20), (7, .int w19), (0, .ref r0), (1, .ref r1), (2, .long j2), (4, .long j3)]) hx hb dX3_differs_126 hl (k := 2) rfl rfl (by decide) rfl (fun ls hl => ?_)
                  refine lv_goto (tgt := 36) hx hb dX3_differs_129 (by decide) ?_
                  rw [nI_1] at hl
                  exact ih36 (j16 + 1) _ _ _ ⟨(by first | exact nI_up hbj16 c18 | exact nI_up2 (by decide) hbj16 c18), hm, hS, lv_sub hl [0, 3, 4, 5, 6] rfl⟩ (by show 2147483648 - (j16 + 1) < 2147483648 - j16; omega)
                · first | exact absurd c24 (by decide) | exact absurd (by decide) c24
              · refine lv_iconst (v := 1) hx hb dX3_differs_80 (by decide) ?_
                refine W.zret hx hb hr rfl (fun t ht hW => ⟨⟨some (.int 1), _, rfl, ?_, by rw [ht]; exact hm⟩, hS.F ht⟩) hS.2.2 dX3_differs_81
                exact ⟨Or.inr rfl, rfl⟩
        · refine lv_iconst (v := 1) hx hb dX3_differs_31 (by decide) ?_
          refine W.zret hx hb hr rfl (fun t ht hW => ⟨⟨some (.int 1), _, rfl, ?_, by rw [ht]; exact hm⟩, hS.F ht⟩) hS.2.2 dX3_differs_32
          exact ⟨Or.inr rfl, rfl⟩
  · subst h9
    refine m_get (T := TX2) (N := 4) (ci := 2) (v := .int 1) hx hb hts wX2 hown hK hm hM_r0_1 rfl 1 (by decide) f58 (fun _ h9 => h9) rfl dX3_differs_7 ?_
    refine lv_if_ne (tgt := 33) hx hb dX3_differs_10 (by decide) (fun c25 => ?_) (fun c25 => ?_)
    · refine lv_iconst (v := 0) hx hb dX3_differs_33 (by decide) ?_
      refine lv_istore (lv' := [(6, .int 0), (0, .ref r0), (1, .ref r1), (2, .long j2), (4, .long j3)]) hx hb dX3_differs_34 hl (by decide) rfl (fun ls hl => ?_)
      refine W_loop (σ := Nat) (fun j26 H locs ls => (j26 < 2147483648) ∧ mm D (AZ z) M H ∧ va_S (AZ z) s.heap H locs ∧ lv_has ls 9 [(6, .int (nI j26)), (0, .ref r0), (1, .ref r1), (2, .long j2), (4, .long j3)]) (fun j26 => 2147483648 - j26) (fun j26 => 0) (fun j26 => 0) ?_ 0 _ _ _ ⟨(by decide), hm, hS, lv_sub hl [0, 1, 2, 3, 4] rfl⟩
      intro j26 H locs ls hQ ih36
      obtain ⟨hbj26, hm, hS, hl⟩ := hQ
      try dsimp only at hm hl ih36 hbj26 ⊢
      refine lv_iload hx hb dX3_differs_36 (lv_at hl 0 rfl) ?_
      refine lv_aload_n hx hb dX3_differs_38 rfl (lv_at hl 1 rfl) ?_
      refine m_get (T := TX2) (N := 4) (ci := 2) (v := .ref v3_1) hx hb hts wX2 hown hK hm hM_r0_1 rfl 3 (by decide) f98 (fun _ h9 => h9) rfl dX3_differs_39 ?_
      obtain ⟨n_27, f_27, hM_v3_1_27, hn_27⟩ := hT.ints hk_v3_1
      refine m_alen hx hb hK hm 0 hM_v3_1_27 rfl (v := nI n_27) rfl dX3_differs_42 ?_
      refine lv_icmp_ge (tgt := 132) hx hb dX3_differs_43 (by decide) (fun c28 => ?_) (fun c28 => ?_)
      · refine lv_iconst (v := 0) hx hb dX3_differs_132 (by decide) ?_
        refine W.zret hx hb hr rfl (fun t ht hW => ⟨⟨some (.int 0), _, rfl, ?_, by rw [ht]; exact hm⟩, hS.F ht⟩) hS.2.2 dX3_differs_133
        exact ⟨Or.inl rfl, rfl⟩
      · refine lv_aload_n hx hb dX3_differs_46 rfl (lv_at hl 1 rfl) ?_
        refine lv_iload hx hb dX3_differs_47 (lv_at hl 0 rfl) ?_
        refine m_kV (As := [.int (nI j26)]) (rest := []) (rm := { frames := 0, cells := 0, slots := 0, locals := 0 }) ⟨hx, hb, hml, hown, hts⟩ (t_X2_cell_I l D k z _ _ r0 (nI j26) hk_r0 hT) (cwV 1 hts gX3_differs_X2_cell rfl rfl rfl (by decide +kernel) ⟨Nat.le_of_ble_eq_true rfl, Nat.le_of_ble_eq_true rfl⟩) (m_recv hK hm (q := (RX2, TX2, 4)) rfl hM_r0_1) hz hcx hm hS rfl hl.1 rfl (Nat.le_of_ble_eq_true rfl) dX3_differs_49 ⟨Nat.le_of_ble_eq_true rfl, Nat.le_of_ble_eq_true rfl⟩ (fun v M1 H locs hv hm hS => ?_)
        obtain ⟨hv1, hM1⟩ := hv
        rw [hM1] at hm
        obtain ⟨w29, hv1⟩ := hv1
        subst hv1
        refine W.eq (g2 := F0 m 52 ls [.int w29]) rfl ?_
        refine W.widen (k := 0) (n := 0) (Nat.le_of_ble_eq_true rfl) (Nat.le_of_ble_eq_true rfl) ?_
        have hm : mm D (AZ z) M H := hm
        refine lv_istore (lv' := [(7, .int w29), (6, .int (nI j26)), (0, .ref r0), (1, .ref r1), (2, .long j2), (4, .long j3)]) hx hb dX3_differs_52 hl (by decide) rfl (fun ls hl => ?_)
        refine lv_aload_n hx hb dX3_differs_54 rfl (lv_at hl 3 rfl) ?_
        refine lv_iload hx hb dX3_differs_55 (lv_at hl 1 rfl) ?_
        obtain ⟨v0_30, v1_30, v2_30, v3_30, hM_r1_30, hz_v1_30, hk_v3_30⟩ := hT.node hk_r1
        refine m_kV (As := [.int (nI j26)]) (rest := []) (rm := { frames := 0, cells := 0, slots := 0, locals := 0 }) ⟨hx, hb, hml, hown, hts⟩ (t_X2_cell_I l D k z _ _ r1 (nI j26) hk_r1 hT) (cwV 1 hts gX3_differs_X2_cell rfl rfl rfl (by decide +kernel) ⟨Nat.le_of_ble_eq_true rfl, Nat.le_of_ble_eq_true rfl⟩) (m_recv hK hm (q := (RX2, TX2, 4)) rfl hM_r1_30) hz hcx hm hS rfl hl.1 rfl (Nat.le_of_ble_eq_true rfl) dX3_differs_57 ⟨Nat.le_of_ble_eq_true rfl, Nat.le_of_ble_eq_true rfl⟩ (fun v M1 H locs hv hm hS => ?_)
        obtain ⟨hv1, hM1⟩ := hv
        rw [hM1] at hm
        obtain ⟨w31, hv1⟩ := hv1
        subst hv1
        refine W.eq (g2 := F0 m 60 ls [.int w31]) rfl ?_
        refine W.widen (k := 0) (n := 0) (Nat.le_of_ble_eq_true rfl) (Nat.le_of_ble_eq_true rfl) ?_
        have hm : mm D (AZ z) M H := hm
        refine lv_istore (lv' := [(8, .int w31), (7, .int w29), (6, .int (nI j26)), (0, .ref r0), (1, .ref r1), (2, .long j2), (4, .long j3)]) hx hb dX3_differs_60 hl (by decide) rfl (fun ls hl => ?_)
        refine lv_lload_n hx hb dX3_differs_62 rfl (lv_at hl 5 rfl) ?_
        refine lv_iload hx hb dX3_differs_63 (lv_at hl 2 rfl) ?_
        refine lv_lshr (v := (j2 >>> ((nI j26).toInt64 &&& 63))) hx hb dX3_differs_65 rfl ?_
        refine lv_lconst (v := 1) hx hb dX3_differs_66 (by decide) ?_
        refine lv_land hx hb dX3_differs_67 ?_
        refine lv_lconst (v := 0) hx hb dX3_differs_68 (by decide) ?_
        refine W.lcmp hx hb dX3_differs_69 ?_
        refine lv_if_eq (tgt := 82) hx hb dX3_differs_70 (by decide) (fun c32 => ?_) (fun c32 => ?_)
        · refine lv_aload_n hx hb dX3_differs_82 rfl (lv_at hl 3 rfl) ?_
          refine m_get (T := TX2) (N := 4) (ci := 2) (v := .int 1) hx hb hts wX2 hown hK hm hM_r0_1 rfl 1 (by decide) f58 (fun _ h9 => h9) rfl dX3_differs_83 ?_
          refine lv_if_eq (tgt := 126) hx hb dX3_differs_86 (by decide) (fun c33 => ?_) (fun c33 => ?_)
          · first | exact absurd c33 (by decide) | exact absurd (by decide) c33
          · refine lv_lload hx hb dX3_differs_89 (lv_at hl 6 rfl) ?_
            refine lv_iload hx hb dX3_differs_91 (lv_at hl 2 rfl) ?_
            refine lv_lshr (v := (j3 >>> ((nI j26).toInt64 &&& 63))) hx hb dX3_differs_93 rfl ?_
            refine lv_lconst (v := 1) hx hb dX3_differs_94 (by decide) ?_
            refine lv_land hx hb dX3_differs_95 ?_
            refine lv_lconst (v := 0) hx hb dX3_differs_96 (by decide) ?_
            refine W.lcmp hx hb dX3_differs_97 ?_
            refine lv_if_eq (tgt := 126) hx hb dX3_differs_98 (by decide) (fun c34 => ?_) (fun c34 => ?_)
            · refine lv_iinc (v := ((nI j26) + 1)) (lv' := [(6, .int ((nI j26) + 1)), (8, .int w31), (7, .int w29), (0, .ref r0), (1, .ref r1), (2, .long j2), (4, .long j3)]) hx hb dX3_differs_126 hl (k := 2) rfl rfl (by decide) rfl (fun ls hl => ?_)
              refine lv_goto (tgt := 36) hx hb dX3_differs_129 (by decide) ?_
              rw [nI_1] at hl
              exact ih36 (j26 + 1) _ _ _ ⟨(by first | exact nI_up hbj26 c28 | exact nI_up2 (by decide) hbj26 c28), hm, hS, lv_sub hl [0, 3, 4, 5, 6] rfl⟩ (by show 2147483648 - (j26 + 1) < 2147483648 - j26; omega)
            · refine lv_iload hx hb dX3_differs_101 (lv_at hl 1 rfl) ?_
              refine lv_if_eq (tgt := 110) hx hb dX3_differs_103 (by decide) (fun c35 => ?_) (fun c35 => ?_)
              · refine lv_iconst (v := 0) hx hb dX3_differs_110 (by decide) ?_
                refine lv_iload hx hb dX3_differs_111 (lv_at hl 0 rfl) ?_
                refine lv_if_eq (tgt := 120) hx hb dX3_differs_113 (by decide) (fun c36 => ?_) (fun c36 => ?_)
                · refine lv_iconst (v := 0) hx hb dX3_differs_120 (by decide) ?_
                  refine lv_icmp_eq (tgt := 126) hx hb dX3_differs_121 (by decide) (fun c37 => ?_) (fun c37 => ?_)
                  · refine lv_iinc (v := ((nI j26) + 1)) (lv' := [(6, .int ((nI j26) + 1)), (8, .int w31), (7, .int w29), (0, .ref r0), (1, .ref r1), (2, .long j2), (4, .long j3)]) hx hb dX3_differs_126 hl (k := 2) rfl rfl (by decide) rfl (fun ls hl => ?_)
                    refine lv_goto (tgt := 36) hx hb dX3_differs_129 (by decide) ?_
                    rw [nI_1] at hl
                    exact ih36 (j26 + 1) _ _ _ ⟨(by first | exact nI_up hbj26 c28 | exact nI_up2 (by decide) hbj26 c28), hm, hS, lv_sub hl [0, 3, 4, 5, 6] rfl⟩ (by show 2147483648 - (j26 + 1) < 2147483648 - j26; omega)
                  · first | exact absurd c37 (by decide) | exact absurd (by decide) c37
                · refine lv_iconst (v := 1) hx hb dX3_differs_116 (by decide) ?_
                  refine lv_goto (tgt := 121) hx hb dX3_differs_117 (by decide) ?_
                  refine lv_icmp_eq (tgt := 126) hx hb dX3_differs_121 (by decide) (fun c38 => ?_) (fun c38 => ?_)
                  · first | exact absurd c38 (by decide) | exact absurd (by decide) c38
                  · refine lv_iconst (v := 1) hx hb dX3_differs_124 (by decide) ?_
                    refine W.zret hx hb hr rfl (fun t ht hW => ⟨⟨some (.int 1), _, rfl, ?_, by rw [ht]; exact hm⟩, hS.F ht⟩) hS.2.2 dX3_differs_125
                    exact ⟨Or.inr rfl, rfl⟩
              · refine lv_iconst (v := 1) hx hb dX3_differs_106 (by decide) ?_
                refine lv_goto (tgt := 111) hx hb dX3_differs_107 (by decide) ?_
                refine lv_iload hx hb dX3_differs_111 (lv_at hl 0 rfl) ?_
                refine lv_if_eq (tgt := 120) hx hb dX3_differs_113 (by decide) (fun c39 => ?_) (fun c39 => ?_)
                · refine lv_iconst (v := 0) hx hb dX3_differs_120 (by decide) ?_
                  refine lv_icmp_eq (tgt := 126) hx hb dX3_differs_121 (by decide) (fun c40 => ?_) (fun c40 => ?_)
                  · first | exact absurd c40 (by decide) | exact absurd (by decide) c40
                  · refine lv_iconst (v := 1) hx hb dX3_differs_124 (by decide) ?_
                    refine W.zret hx hb hr rfl (fun t ht hW => ⟨⟨some (.int 1), _, rfl, ?_, by rw [ht]; exact hm⟩, hS.F ht⟩) hS.2.2 dX3_differs_125
                    exact ⟨Or.inr rfl, rfl⟩
                · refine lv_iconst (v := 1) hx hb dX3_differs_116 (by decide) ?_
                  refine lv_goto (tgt := 121) hx hb dX3_differs_117 (by decide) ?_
                  refine lv_icmp_eq (tgt := 126) hx hb dX3_differs_121 (by decide) (fun c41 => ?_) (fun c41 => ?_)
                  · refine lv_iinc (v := ((nI j26) + 1)) (lv' := [(6, .int ((nI j26) + 1)), (8, .int w31), (7, .int w29), (0, .ref r0), (1, .ref r1), (2, .long j2), (4, .long j3)]) hx hb dX3_differs_126 hl (k := 2) rfl rfl (by decide) rfl (fun ls hl => ?_)
                    refine lv_goto (tgt := 36) hx hb dX3_differs_129 (by decide) ?_
                    rw [nI_1] at hl
                    exact ih36 (j26 + 1) _ _ _ ⟨(by first | exact nI_up hbj26 c28 | exact nI_up2 (by decide) hbj26 c28), hm, hS, lv_sub hl [0, 3, 4, 5, 6] rfl⟩ (by show 2147483648 - (j26 + 1) < 2147483648 - j26; omega)
                  · first | exact absurd c41 (by decide) | exact absurd (by decide) c41
        · refine lv_iload hx hb dX3_differs_73 (lv_at hl 1 rfl) ?_
          refine lv_iload hx hb dX3_differs_75 (lv_at hl 0 rfl) ?_
          refine lv_icmp_eq (tgt := 82) hx hb dX3_differs_77 (by decide) (fun c42 => ?_) (fun c42 => ?_)
          · refine lv_aload_n hx hb dX3_differs_82 rfl (lv_at hl 3 rfl) ?_
            refine m_get (T := TX2) (N := 4) (ci := 2) (v := .int 1) hx hb hts wX2 hown hK hm hM_r0_1 rfl 1 (by decide) f58 (fun _ h9 => h9) rfl dX3_differs_83 ?_
            refine lv_if_eq (tgt := 126) hx hb dX3_differs_86 (by decide) (fun c43 => ?_) (fun c43 => ?_)
            · first | exact absurd c43 (by decide) | exact absurd (by decide) c43
            · refine lv_lload hx hb dX3_differs_89 (lv_at hl 6 rfl) ?_
              refine lv_iload hx hb dX3_differs_91 (lv_at hl 2 rfl) ?_
              refine lv_lshr (v := (j3 >>> ((nI j26).toInt64 &&& 63))) hx hb dX3_differs_93 rfl ?_
              refine lv_lconst (v := 1) hx hb dX3_differs_94 (by decide) ?_
              refine lv_land hx hb dX3_differs_95 ?_
              refine lv_lconst (v := 0) hx hb dX3_differs_96 (by decide) ?_
              refine W.lcmp hx hb dX3_differs_97 ?_
              refine lv_if_eq (tgt := 126) hx hb dX3_differs_98 (by decide) (fun c44 => ?_) (fun c44 => ?_)
              · refine lv_iinc (v := ((nI j26) + 1)) (lv' := [(6, .int ((nI j26) + 1)), (8, .int w31), (7, .int w29), (0, .ref r0), (1, .ref r1), (2, .long j2), (4, .long j3)]) hx hb dX3_differs_126 hl (k := 2) rfl rfl (by decide) rfl (fun ls hl => ?_)
                refine lv_goto (tgt := 36) hx hb dX3_differs_129 (by decide) ?_
                rw [nI_1] at hl
                exact ih36 (j26 + 1) _ _ _ ⟨(by first | exact nI_up hbj26 c28 | exact nI_up2 (by decide) hbj26 c28), hm, hS, lv_sub hl [0, 3, 4, 5, 6] rfl⟩ (by show 2147483648 - (j26 + 1) < 2147483648 - j26; omega)
              · refine lv_iload hx hb dX3_differs_101 (lv_at hl 1 rfl) ?_
                refine lv_if_eq (tgt := 110) hx hb dX3_differs_103 (by decide) (fun c45 => ?_) (fun c45 => ?_)
                · refine lv_iconst (v := 0) hx hb dX3_differs_110 (by decide) ?_
                  refine lv_iload hx hb dX3_differs_111 (lv_at hl 0 rfl) ?_
                  refine lv_if_eq (tgt := 120) hx hb dX3_differs_113 (by decide) (fun c46 => ?_) (fun c46 => ?_)
                  · refine lv_iconst (v := 0) hx hb dX3_differs_120 (by decide) ?_
                    refine lv_icmp_eq (tgt := 126) hx hb dX3_differs_121 (by decide) (fun c47 => ?_) (fun c47 => ?_)
                    · refine lv_iinc (v := ((nI j26) + 1)) (lv' := [(6, .int ((nI j26) + 1)), (8, .int w31), (7, .int w29), (0, .ref r0), (1, .ref r1), (2, .long j2), (4, .long j3)]) hx hb dX3_differs_126 hl (k := 2) rfl rfl (by decide) rfl (fun ls hl => ?_)
                      refine lv_goto (tgt := 36) hx hb dX3_differs_129 (by decide) ?_
                      rw [nI_1] at hl
                      exact ih36 (j26 + 1) _ _ _ ⟨(by first | exact nI_up hbj26 c28 | exact nI_up2 (by decide) hbj26 c28), hm, hS, lv_sub hl [0, 3, 4, 5, 6] rfl⟩ (by show 2147483648 - (j26 + 1) < 2147483648 - j26; omega)
                    · first | exact absurd c47 (by decide) | exact absurd (by decide) c47
                  · refine lv_iconst (v := 1) hx hb dX3_differs_116 (by decide) ?_
                    refine lv_goto (tgt := 121) hx hb dX3_differs_117 (by decide) ?_
                    refine lv_icmp_eq (tgt := 126) hx hb dX3_differs_121 (by decide) (fun c48 => ?_) (fun c48 => ?_)
                    · first | exact absurd c48 (by decide) | exact absurd (by decide) c48
                    · refine lv_iconst (v := 1) hx hb dX3_differs_124 (by decide) ?_
                      refine W.zret hx hb hr rfl (fun t ht hW => ⟨⟨some (.int 1), _, rfl, ?_, by rw [ht]; exact hm⟩, hS.F ht⟩) hS.2.2 dX3_differs_125
                      exact ⟨Or.inr rfl, rfl⟩
                · refine lv_iconst (v := 1) hx hb dX3_differs_106 (by decide) ?_
                  refine lv_goto (tgt := 111) hx hb dX3_differs_107 (by decide) ?_
                  refine lv_iload hx hb dX3_differs_111 (lv_at hl 0 rfl) ?_
                  refine lv_if_eq (tgt := 120) hx hb dX3_differs_113 (by decide) (fun c49 => ?_) (fun c49 => ?_)
                  · refine lv_iconst (v := 0) hx hb dX3_differs_120 (by decide) ?_
                    refine lv_icmp_eq (tgt := 126) hx hb dX3_differs_121 (by decide) (fun c50 => ?_) (fun c50 => ?_)
                    · first | exact absurd c50 (by decide) | exact absurd (by decide) c50
                    · refine lv_iconst (v := 1) hx hb dX3_differs_124 (by decide) ?_
                      refine W.zret hx hb hr rfl (fun t ht hW => ⟨⟨some (.int 1), _, rfl, ?_, by rw [ht]; exact hm⟩, hS.F ht⟩) hS.2.2 dX3_differs_125
                      exact ⟨Or.inr rfl, rfl⟩
                  · refine lv_iconst (v := 1) hx hb dX3_differs_116 (by decide) ?_
                    refine lv_goto (tgt := 121) hx hb dX3_differs_117 (by decide) ?_
                    refine lv_icmp_eq (tgt := 126) hx hb dX3_differs_121 (by decide) (fun c51 => ?_) (fun c51 => ?_)
                    · refine lv_iinc (v := ((nI j26) + 1)) (lv' := [(6, .int ((nI j26) + 1)), (8, .int w31), (7, .int w29), (0, .ref r0), (1, .ref r1), (2, .long j2), (4, .long j3)]) hx hb dX3_differs_126 hl (k := 2) rfl rfl (by decide) rfl (fun ls hl => ?_)
                      refine lv_goto (tgt := 36) hx hb dX3_differs_129 (by decide) ?_
                      rw [nI_1] at hl
                      exact ih36 (j26 + 1) _ _ _ ⟨(by first | exact nI_up hbj26 c28 | exact nI_up2 (by decide) hbj26 c28), hm, hS, lv_sub hl [0, 3, 4, 5, 6] rfl⟩ (by show 2147483648 - (j26 + 1) < 2147483648 - j26; omega)
                    · first | exact absurd c51 (by decide) | exact absurd (by decide) c51
          · refine lv_iconst (v := 1) hx hb dX3_differs_80 (by decide) ?_
            refine W.zret hx hb hr rfl (fun t ht hW => ⟨⟨some (.int 1), _, rfl, ?_, by rw [ht]; exact hm⟩, hS.F ht⟩) hS.2.2 dX3_differs_81
            exact ⟨Or.inr rfl, rfl⟩
    · first | exact absurd c25 (by decide) | exact absurd (by decide) c25

set_option maxHeartbeats 4000000 in
set_option maxRecDepth 100000 in
theorem t_X3_isStale_R (l : Launch) (D : va_G) (k : Nat → ClassId) (z : Nat) (M : mM) (κ : Nat → Option KD) (h0 : Nat) (r0 : Nat) (hk_h0 : κ h0 = some .txn) (hk_r0 : κ r0 = some .tree) (hT : TM k κ M) : mK l yX3_isStale wsX3_isStale ({ frames := 2, cells := 0, slots := 0, locals := 49 }) D k z [.ref h0, .ref r0] M (fun v M' => ((v = some (.int 0) ∨ v = some (.int 1))) ∧ M' = M) := by
  refine Met.ofW (cc := cX3_isStale) (maxL := 8) (ret := (some .boolean)) (by decide) rfl ?_
  intro p e s m args below meth c s₁ B hml hv
  obtain ⟨rfl, hz, hcx, hm⟩ := hv
  have hx := B.exec
  have hb := B.bytes
  have hr := B.returns
  have hts := atoms_spec (ws := wsX3_isStale) B.pre
  have hown : s.vm.findClass RX3 = some m.cls := findClass_of_methodNamed B.named
  have hlocks := B.notSynchronized
  have hK := hcx.1
  have hS : va_S (AZ z) s.heap s.heap [] := va_S.rf
  have hA : ∀ q, s.heap.size ≤ q → AZ z q := fun q h => Nat.le_trans hz h
  have hl := lv_entry ([.ref h0, .ref r0]) (n := 8) (Nat.le_of_ble_eq_true rfl)
  rw [lg_entry_eq]
  generalize (lg_sl ([.ref h0, .ref r0]) ++ List.replicate (8 - (lg_sl ([.ref h0, .ref r0])).length) Slot.unset).toArray = ls at hl ⊢
  have hl : lv_has ls 8 [(0, .ref h0), (1, .ref r0)] := hl
  have f12 := hts (.fieldLink RX3 12 "CommitTree$Transaction" "base" "LCommitTree$Tree;") (by decide +kernel)
  have f22 := hts (.fieldLink RX3 22 "CommitTree$Transaction" "cellsRead" "[J") (by decide +kernel)
  have f26 := hts (.fieldLink RX3 26 "CommitTree$Transaction" "factsRead" "[J") (by decide +kernel)
  have f71 := hts (.fieldLink RX3 71 "CommitTree$Node" "id" "I") (by decide +kernel)
  have f87 := hts (.fieldLink RX3 87 "CommitTree$Tree" "size" "I") (by decide +kernel)
  have wX2 : ∀ w ∈ wsX20, w ∈ wsX3_isStale := by decide +kernel
  have wX3 : ∀ w ∈ wsX30, w ∈ wsX3_isStale := by decide +kernel
  have wX4 : ∀ w ∈ wsX40, w ∈ wsX3_isStale := by decide +kernel
  have hT0 := hT
  have hE : kx κ M κ M := kx.refl _ _
  refine lv_iconst (v := 0) hx hb dX3_isStale_0 (by decide) ?_
  refine lv_istore_n (lv' := [(2, .int 0), (0, .ref h0), (1, .ref r0)]) hx hb dX3_isStale_1 rfl hl (by decide) rfl (fun ls hl => ?_)
  refine W_loop (σ := Nat) (fun j1 H locs ls => (j1 < 2147483648) ∧ mm D (AZ z) M H ∧ va_S (AZ z) s.heap H locs ∧ lv_has ls 8 [(2, .int (nI j1)), (0, .ref h0), (1, .ref r0)]) (fun j1 => 2147483648 - j1) (fun j1 => 0) (fun j1 => 0) ?_ 0 _ _ _ ⟨(by decide), hm, hS, lv_sub hl [0, 1, 2] rfl⟩
  intro j1 H locs ls hQ ih2
  obtain ⟨hbj1, hm, hS, hl⟩ := hQ
  try dsimp only at hm hl ih2 hbj1 ⊢
  refine lv_iload_n hx hb dX3_isStale_2 rfl (lv_at hl 0 rfl) ?_
  refine lv_aload_n hx hb dX3_isStale_3 rfl (lv_at hl 1 rfl) ?_
  obtain ⟨v0_2, v1_2, v2_2, v3_2, v4_2, v5_2, v6_2, hM_h0_2, hk_v0_2, hk_v1_2, hk_v2_2, hk_v3_2, hk_v4_2, hz_v5_2⟩ := hT.txn hk_h0
  refine m_get (T := TX3) (N := 7) (ci := 3) (v := .ref v0_2) hx hb hts wX3 hown hK hm hM_h0_2 rfl 0 (by decide) f12 (fun _ h9 => h9) rfl dX3_isStale_4 ?_
  obtain ⟨v0_3, v1_3, hM_v0_2_3, hk_v0_3, hn_v1_3⟩ := hT.tree hk_v0_2
  refine m_get (T := TX4) (N := 2) (ci := 4) (v := .int (nI v1_3)) hx hb hts wX4 hown hK hm hM_v0_2_3 rfl 1 (by decide) f87 (fun _ h9 => h9) rfl dX3_isStale_7 ?_
  refine lv_icmp_ge (tgt := 97) hx hb dX3_isStale_10 (by decide) (fun c4 => ?_) (fun c4 => ?_)
  · refine lv_iconst (v := 0) hx hb dX3_isStale_97 (by decide) ?_
    refine W.zret hx hb hr rfl (fun t ht hW => ⟨⟨some (.int 0), _, rfl, ?_, by rw [ht]; exact hm⟩, hS.F ht⟩) hS.2.2 dX3_isStale_98
    exact ⟨Or.inl rfl, rfl⟩
  · refine lv_iload_n hx hb dX3_isStale_13 rfl (lv_at hl 0 rfl) ?_
    refine lv_aload_n hx hb dX3_isStale_14 rfl (lv_at hl 1 rfl) ?_
    refine m_get (T := TX3) (N := 7) (ci := 3) (v := .ref v3_2) hx hb hts wX3 hown hK hm hM_h0_2 rfl 3 (by decide) f22 (fun _ h9 => h9) rfl dX3_isStale_15 ?_
    obtain ⟨f_5, hM_v3_2_5⟩ := hT.longs hk_v3_2
    refine m_alen hx hb hK hm 1 hM_v3_2_5 rfl (v := nI 60) rfl dX3_isStale_18 ?_
    refine lv_icmp_ge (tgt := 97) hx hb dX3_isStale_19 (by decide) (fun c6 => ?_) (fun c6 => ?_)
    · refine lv_iconst (v := 0) hx hb dX3_isStale_97 (by decide) ?_
      refine W.zret hx hb hr rfl (fun t ht hW => ⟨⟨some (.int 0), _, rfl, ?_, by rw [ht]; exact hm⟩, hS.F ht⟩) hS.2.2 dX3_isStale_98
      exact ⟨Or.inl rfl, rfl⟩
    · refine lv_iload_n hx hb dX3_isStale_22 rfl (lv_at hl 0 rfl) ?_
      refine lv_aload_n hx hb dX3_isStale_23 rfl (lv_at hl 1 rfl) ?_
      refine m_get (T := TX3) (N := 7) (ci := 3) (v := .ref v4_2) hx hb hts wX3 hown hK hm hM_h0_2 rfl 4 (by decide) f26 (fun _ h9 => h9) rfl dX3_isStale_24 ?_
      obtain ⟨f_7, hM_v4_2_7⟩ := hT.longs hk_v4_2
      refine m_alen hx hb hK hm 1 hM_v4_2_7 rfl (v := nI 60) rfl dX3_isStale_27 ?_
      refine lv_icmp_ge (tgt := 97) hx hb dX3_isStale_28 (by decide) (fun c8 => ?_) (fun c8 => ?_)
      · refine lv_iconst (v := 0) hx hb dX3_isStale_97 (by decide) ?_
        refine W.zret hx hb hr rfl (fun t ht hW => ⟨⟨some (.int 0), _, rfl, ?_, by rw [ht]; exact hm⟩, hS.F ht⟩) hS.2.2 dX3_isStale_98
        exact ⟨Or.inl rfl, rfl⟩
      · refine lv_aload_n hx hb dX3_isStale_31 rfl (lv_at hl 1 rfl) ?_
        refine m_get (T := TX3) (N := 7) (ci := 3) (v := .ref v0_2) hx hb hts wX3 hown hK hm hM_h0_2 rfl 0 (by decide) f12 (fun _ h9 => h9) rfl dX3_isStale_32 ?_
        refine lv_iload_n hx hb dX3_isStale_35 rfl (lv_at hl 0 rfl) ?_
        refine m_kV (As := [.int (nI j1)]) (rest := []) (rm := { frames := 0, cells := 0, slots := 0, locals := 0 }) ⟨hx, hb, hml, hown, hts⟩ (t_X4_at_I l D k z _ _ v0_2 (nI j1) hk_v0_2 hT) (cwV 1 hts gX3_isStale_X4_at rfl rfl rfl (by decide +kernel) ⟨Nat.le_of_ble_eq_true rfl, Nat.le_of_ble_eq_true rfl⟩) (m_recv hK hm (q := (RX4, TX4, 2)) rfl hM_v0_2_3) hz hcx hm hS rfl hl.1 rfl (Nat.le_of_ble_eq_true rfl) dX3_isStale_36 ⟨Nat.le_of_ble_eq_true rfl, Nat.le_of_ble_eq_true rfl⟩ (fun v M1 H locs hv hm hS => ?_)
        obtain ⟨hv1, hM1⟩ := hv
        rw [hM1] at hm
        rcases hv1 with hv1 | ⟨x9, hv1, hk_x9, hx9⟩
        · subst hv1
          refine W.eq (g2 := F0 m 39 ls [.null]) rfl ?_
          refine W.widen (k := 0) (n := 0) (Nat.le_of_ble_eq_true rfl) (Nat.le_of_ble_eq_true rfl) ?_
          have hm : mm D (AZ z) M H := hm
          refine lv_astore_nN (lv' := [(3, .null), (2, .int (nI j1)), (0, .ref h0), (1, .ref r0)]) hx hb dX3_isStale_39 rfl hl (by decide) rfl (fun ls hl => ?_)
          refine lv_aload_n hx hb dX3_isStale_40 rfl (lv_at hl 2 rfl) ?_
          refine m_get (T := TX3) (N := 7) (ci := 3) (v := .ref v3_2) hx hb hts wX3 hown hK hm hM_h0_2 rfl 3 (by decide) f22 (fun _ h9 => h9) rfl dX3_isStale_41 ?_
          refine lv_iload_n hx hb dX3_isStale_44 rfl (lv_at hl 1 rfl) ?_
          refine m_lald hx hb hK hm 1 hM_v3_2_5 rfl (in_of (i := (nI j1)) (n := 60) (by first | assumption | exact nI_pos (by omega)) (by assumption) (by first | decide | omega)) dX3_isStale_45 ?_
          refine lv_lstore (lv' := [(4, .long (f_5 ((nI j1)).toNatClampNeg)), (3, .null), (2, .int (nI j1)), (0, .ref h0), (1, .ref r0)]) hx hb dX3_isStale_46 hl (by decide) rfl (fun ls hl => ?_)
          refine lv_aload_n hx hb dX3_isStale_48 rfl (lv_at hl 3 rfl) ?_
          refine m_get (T := TX3) (N := 7) (ci := 3) (v := .ref v4_2) hx hb hts wX3 hown hK hm hM_h0_2 rfl 4 (by decide) f26 (fun _ h9 => h9) rfl dX3_isStale_49 ?_
          refine lv_iload_n hx hb dX3_isStale_52 rfl (lv_at hl 2 rfl) ?_
          refine m_lald hx hb hK hm 1 hM_v4_2_7 rfl (in_of (i := (nI j1)) (n := 60) (by first | assumption | exact nI_pos (by omega)) (by assumption) (by first | decide | omega)) dX3_isStale_53 ?_
          refine lv_lstore (lv' := [(6, .long (f_7 ((nI j1)).toNatClampNeg)), (4, .long (f_5 ((nI j1)).toNatClampNeg)), (3, .null), (2, .int (nI j1)), (0, .ref h0), (1, .ref r0)]) hx hb dX3_isStale_54 hl (by decide) rfl (fun ls hl => ?_)
          refine lv_aload_nN hx hb dX3_isStale_56 rfl (lv_at hl 2 rfl) ?_
          refine lv_ifnullN (tgt := 91) hx hb dX3_isStale_57 (by decide) ?_
          refine lv_iinc (v := ((nI j1) + 1)) (lv' := [(2, .int ((nI j1) + 1)), (6, .long (f_7 ((nI j1)).toNatClampNeg)), (4, .long (f_5 ((nI j1)).toNatClampNeg)), (3, .null), (0, .ref h0), (1, .ref r0)]) hx hb dX3_isStale_91 hl (k := 3) rfl rfl (by decide) rfl (fun ls hl => ?_)
          refine lv_goto (tgt := 2) hx hb dX3_isStale_94 (by decide) ?_
          rw [nI_1] at hl
          exact ih2 (j1 + 1) _ _ _ ⟨(by first | exact nI_up hbj1 c4 | exact nI_up2 (by decide) hbj1 c4), hm, hS, lv_sub hl [0, 4, 5] rfl⟩ (by show 2147483648 - (j1 + 1) < 2147483648 - j1; omega)
        · subst hv1
          refine W.eq (g2 := F0 m 39 ls [.ref x9]) rfl ?_
          refine W.widen (k := 0) (n := 0) (Nat.le_of_ble_eq_true rfl) (Nat.le_of_ble_eq_true rfl) ?_
          have hm : mm D (AZ z) M H := hm
          refine lv_astore_n (lv' := [(3, .ref x9), (2, .int (nI j1)), (0, .ref h0), (1, .ref r0)]) hx hb dX3_isStale_39 rfl hl (by decide) rfl (fun ls hl => ?_)
          refine lv_aload_n hx hb dX3_isStale_40 rfl (lv_at hl 2 rfl) ?_
          refine m_get (T := TX3) (N := 7) (ci := 3) (v := .ref v3_2) hx hb hts wX3 hown hK hm hM_h0_2 rfl 3 (by decide) f22 (fun _ h9 => h9) rfl dX3_isStale_41 ?_
          refine lv_iload_n hx hb dX3_isStale_44 rfl (lv_at hl 1 rfl) ?_
          refine m_lald hx hb hK hm 1 hM_v3_2_5 rfl (in_of (i := (nI j1)) (n := 60) (by first | assumption | exact nI_pos (by omega)) (by assumption) (by first | decide | omega)) dX3_isStale_45 ?_
          refine lv_lstore (lv' := [(4, .long (f_5 ((nI j1)).toNatClampNeg)), (3, .ref x9), (2, .int (nI j1)), (0, .ref h0), (1, .ref r0)]) hx hb dX3_isStale_46 hl (by decide) rfl (fun ls hl => ?_)
          refine lv_aload_n hx hb dX3_isStale_48 rfl (lv_at hl 3 rfl) ?_
          refine m_get (T := TX3) (N := 7) (ci := 3) (v := .ref v4_2) hx hb hts wX3 hown hK hm hM_h0_2 rfl 4 (by decide) f26 (fun _ h9 => h9) rfl dX3_isStale_49 ?_
          refine lv_iload_n hx hb dX3_isStale_52 rfl (lv_at hl 2 rfl) ?_
          refine m_lald hx hb hK hm 1 hM_v4_2_7 rfl (in_of (i := (nI j1)) (n := 60) (by first | assumption | exact nI_pos (by omega)) (by assumption) (by first | decide | omega)) dX3_isStale_53 ?_
          refine lv_lstore (lv' := [(6, .long (f_7 ((nI j1)).toNatClampNeg)), (4, .long (f_5 ((nI j1)).toNatClampNeg)), (3, .ref x9), (2, .int (nI j1)), (0, .ref h0), (1, .ref r0)]) hx hb dX3_isStale_54 hl (by decide) rfl (fun ls hl => ?_)
          refine lv_aload_n hx hb dX3_isStale_56 rfl (lv_at hl 2 rfl) ?_
          refine lv_ifnull hx hb dX3_isStale_57 ?_
          refine lv_lload hx hb dX3_isStale_60 (lv_at hl 1 rfl) ?_
          refine lv_lload hx hb dX3_isStale_62 (lv_at hl 0 rfl) ?_
          refine lv_lor hx hb dX3_isStale_64 ?_
          refine lv_lconst (v := 0) hx hb dX3_isStale_65 (by decide) ?_
          refine W.lcmp hx hb dX3_isStale_66 ?_
          refine lv_if_eq (tgt := 91) hx hb dX3_isStale_67 (by decide) (fun c10 => ?_) (fun c10 => ?_)
          · refine lv_iinc (v := ((nI j1) + 1)) (lv' := [(2, .int ((nI j1) + 1)), (6, .long (f_7 ((nI j1)).toNatClampNeg)), (4, .long (f_5 ((nI j1)).toNatClampNeg)), (3, .ref x9), (0, .ref h0), (1, .ref r0)]) hx hb dX3_isStale_91 hl (k := 3) rfl rfl (by decide) rfl (fun ls hl => ?_)
            refine lv_goto (tgt := 2) hx hb dX3_isStale_94 (by decide) ?_
            rw [nI_1] at hl
            exact ih2 (j1 + 1) _ _ _ ⟨(by first | exact nI_up hbj1 c4 | exact nI_up2 (by decide) hbj1 c4), hm, hS, lv_sub hl [0, 4, 5] rfl⟩ (by show 2147483648 - (j1 + 1) < 2147483648 - j1; omega)
          · refine lv_aload_n hx hb dX3_isStale_70 rfl (lv_at hl 2 rfl) ?_
            refine lv_aload_n hx hb dX3_isStale_71 rfl (lv_at hl 5 rfl) ?_
            refine lv_aload_n hx hb dX3_isStale_72 rfl (lv_at hl 2 rfl) ?_
            obtain ⟨v0_11, v1_11, v2_11, v3_11, hM_x9_11, hz_v1_11, hk_v3_11⟩ := hT.node hk_x9
            refine m_get (T := TX2) (N := 4) (ci := 2) (v := .int v0_11) hx hb hts wX2 hown hK hm hM_x9_11 rfl 0 (by decide) f71 (fun _ h9 => h9) rfl dX3_isStale_73 ?_
            obtain ⟨v0_12, v1_12, hM_r0_12, hk_v0_12, hn_v1_12⟩ := hT.tree hk_r0
            refine m_kV (As := [.int v0_11]) (rest := [.ref x9]) (rm := { frames := 1, cells := 0, slots := 0, locals := 23 }) ⟨hx, hb, hml, hown, hts⟩ (t_X4_find_I l D k z _ _ r0 v0_11 hk_r0 hT) (cwV 1 hts gX3_isStale_X4_find rfl rfl rfl (by decide +kernel) ⟨Nat.le_of_ble_eq_true rfl, Nat.le_of_ble_eq_true rfl⟩) (m_recv hK hm (q := (RX4, TX4, 2)) rfl hM_r0_12) hz hcx hm hS rfl hl.1 rfl (Nat.le_of_ble_eq_true rfl) dX3_isStale_76 ⟨Nat.le_of_ble_eq_true rfl, Nat.le_of_ble_eq_true rfl⟩ (fun v M1 H locs hv hm hS => ?_)
            obtain ⟨hv1, hM1⟩ := hv
            rw [hM1] at hm
            rcases hv1 with hv1 | ⟨x13, hv1, hk_x13⟩
            · subst hv1
              refine W.eq (g2 := F0 m 79 ls [.null, .ref x9]) rfl ?_
              refine W.widen (k := 0) (n := 0) (Nat.le_of_ble_eq_true rfl) (Nat.le_of_ble_eq_true rfl) ?_
              have hm : mm D (AZ z) M H := hm
              refine lv_lload hx hb dX3_isStale_79 (lv_at hl 1 rfl) ?_
              refine lv_lload hx hb dX3_isStale_81 (lv_at hl 0 rfl) ?_
              refine m_kS (As := [.ref x9, .null, .long (f_5 ((nI j1)).toNatClampNeg), .long (f_7 ((nI j1)).toNatClampNeg)]) (rest := []) (rm := { frames := 0, cells := 0, slots := 0, locals := 0 }) ⟨hx, hb, hml, hown, hts⟩ (t_X3_differs_RNJJ l D k z _ _ x9 ((f_5 ((nI j1)).toNatClampNeg)) ((f_7 ((nI j1)).toNatClampNeg)) hk_x9 hT) (cwS 4 hts gX3_isStale_X3_differs rfl rfl rfl (by decide +kernel) ⟨Nat.le_of_ble_eq_true rfl, Nat.le_of_ble_eq_true rfl⟩) hz hcx hm hS rfl hl.1 rfl (Nat.le_of_ble_eq_true rfl) dX3_isStale_83 ⟨Nat.le_of_ble_eq_true rfl, Nat.le_of_ble_eq_true rfl⟩ (fun v M1 H locs hv hm hS => ?_)
              obtain ⟨hv1, hM1⟩ := hv
              rw [hM1] at hm
              rcases hv1 with hv1 | hv1
              · subst hv1
                refine W.eq (g2 := F0 m 86 ls [.int 0]) rfl ?_
                refine W.widen (k := 0) (n := 0) (Nat.le_of_ble_eq_true rfl) (Nat.le_of_ble_eq_true rfl) ?_
                have hm : mm D (AZ z) M H := hm
                refine lv_if_eq (tgt := 91) hx hb dX3_isStale_86 (by decide) (fun c14 => ?_) (fun c14 => ?_)
                · refine lv_iinc (v := ((nI j1) + 1)) (lv' := [(2, .int ((nI j1) + 1)), (6, .long (f_7 ((nI j1)).toNatClampNeg)), (4, .long (f_5 ((nI j1)).toNatClampNeg)), (3, .ref x9), (0, .ref h0), (1, .ref r0)]) hx hb dX3_isStale_91 hl (k := 3) rfl rfl (by decide) rfl (fun ls hl => ?_)
                  refine lv_goto (tgt := 2) hx hb dX3_isStale_94 (by decide) ?_
                  rw [nI_1] at hl
                  exact ih2 (j1 + 1) _ _ _ ⟨(by first | exact nI_up hbj1 c4 | exact nI_up2 (by decide) hbj1 c4), hm, hS, lv_sub hl [0, 4, 5] rfl⟩ (by show 2147483648 - (j1 + 1) < 2147483648 - j1; omega)
                · first | exact absurd c14 (by decide) | exact absurd (by decide) c14
              · subst hv1
                refine W.eq (g2 := F0 m 86 ls [.int 1]) rfl ?_
                refine W.widen (k := 0) (n := 0) (Nat.le_of_ble_eq_true rfl) (Nat.le_of_ble_eq_true rfl) ?_
                have hm : mm D (AZ z) M H := hm
                refine lv_if_eq (tgt := 91) hx hb dX3_isStale_86 (by decide) (fun c15 => ?_) (fun c15 => ?_)
                · first | exact absurd c15 (by decide) | exact absurd (by decide) c15
                · refine lv_iconst (v := 1) hx hb dX3_isStale_89 (by decide) ?_
                  refine W.zret hx hb hr rfl (fun t ht hW => ⟨⟨some (.int 1), _, rfl, ?_, by rw [ht]; exact hm⟩, hS.F ht⟩) hS.2.2 dX3_isStale_90
                  exact ⟨Or.inr rfl, rfl⟩
            · subst hv1
              refine W.eq (g2 := F0 m 79 ls [.ref x13, .ref x9]) rfl ?_
              refine W.widen (k := 0) (n := 0) (Nat.le_of_ble_eq_true rfl) (Nat.le_of_ble_eq_true rfl) ?_
              have hm : mm D (AZ z) M H := hm
              refine lv_lload hx hb dX3_isStale_79 (lv_at hl 1 rfl) ?_
              refine lv_lload hx hb dX3_isStale_81 (lv_at hl 0 rfl) ?_
              refine m_kS (As := [.ref x9, .ref x13, .long (f_5 ((nI j1)).toNatClampNeg), .long (f_7 ((nI j1)).toNatClampNeg)]) (rest := []) (rm := { frames := 1, cells := 0, slots := 0, locals := 21 }) ⟨hx, hb, hml, hown, hts⟩ (t_X3_differs_RRJJ l D k z _ _ x9 x13 ((f_5 ((nI j1)).toNatClampNeg)) ((f_7 ((nI j1)).toNatClampNeg)) hk_x9 hk_x13 hT) (cwS 4 hts gX3_isStale_X3_differs rfl rfl rfl (by decide +kernel) ⟨Nat.le_of_ble_eq_true rfl, Nat.le_of_ble_eq_true rfl⟩) hz hcx hm hS rfl hl.1 rfl (Nat.le_of_ble_eq_true rfl) dX3_isStale_83 ⟨Nat.le_of_ble_eq_true rfl, Nat.le_of_ble_eq_true rfl⟩ (fun v M1 H locs hv hm hS => ?_)
              obtain ⟨hv1, hM1⟩ := hv
              rw [hM1] at hm
              rcases hv1 with hv1 | hv1
              · subst hv1
                refine W.eq (g2 := F0 m 86 ls [.int 0]) rfl ?_
                refine W.widen (k := 0) (n := 0) (Nat.le_of_ble_eq_true rfl) (Nat.le_of_ble_eq_true rfl) ?_
                have hm : mm D (AZ z) M H := hm
                refine lv_if_eq (tgt := 91) hx hb dX3_isStale_86 (by decide) (fun c16 => ?_) (fun c16 => ?_)
                · refine lv_iinc (v := ((nI j1) + 1)) (lv' := [(2, .int ((nI j1) + 1)), (6, .long (f_7 ((nI j1)).toNatClampNeg)), (4, .long (f_5 ((nI j1)).toNatClampNeg)), (3, .ref x9), (0, .ref h0), (1, .ref r0)]) hx hb dX3_isStale_91 hl (k := 3) rfl rfl (by decide) rfl (fun ls hl => ?_)
                  refine lv_goto (tgt := 2) hx hb dX3_isStale_94 (by decide) ?_
                  rw [nI_1] at hl
                  exact ih2 (j1 + 1) _ _ _ ⟨(by first | exact nI_up hbj1 c4 | exact nI_up2 (by decide) hbj1 c4), hm, hS, lv_sub hl [0, 4, 5] rfl⟩ (by show 2147483648 - (j1 + 1) < 2147483648 - j1; omega)
                · first | exact absurd c16 (by decide) | exact absurd (by decide) c16
              · subst hv1
                refine W.eq (g2 := F0 m 86 ls [.int 1]) rfl ?_
                refine W.widen (k := 0) (n := 0) (Nat.le_of_ble_eq_true rfl) (Nat.le_of_ble_eq_true rfl) ?_
                have hm : mm D (AZ z) M H := hm
                refine lv_if_eq (tgt := 91) hx hb dX3_isStale_86 (by decide) (fun c17 => ?_) (fun c17 => ?_)
                · first | exact absurd c17 (by decide) | exact absurd (by decide) c17
                · refine lv_iconst (v := 1) hx hb dX3_isStale_89 (by decide) ?_
                  refine W.zret hx hb hr rfl (fun t ht hW => ⟨⟨some (.int 1), _, rfl, ?_, by rw [ht]; exact hm⟩, hS.F ht⟩) hS.2.2 dX3_isStale_90
                  exact ⟨Or.inr rfl, rfl⟩

set_option maxHeartbeats 4000000 in
set_option maxRecDepth 100000 in
theorem t_X1_comes_III (l : Launch) (D : va_G) (k : Nat → ClassId) (z : Nat) (M : mM) (κ : Nat → Option KD) (a0 : Int32) (a1 : Int32) (a2 : Int32)  (hT : TM k κ M) : mK l yX1_comes wsX1_comes ({ frames := 0, cells := 0, slots := 0, locals := 0 }) D k z [.int a0, .int a1, .int a2] M (fun v M' => ((v = some (.int 0) ∨ v = some (.int 1))) ∧ M' = M) := by
  refine Met.ofW (cc := cX1_comes) (maxL := 3) (ret := (some .boolean)) (by decide) rfl ?_
  intro p e s m args below meth c s₁ B hml hv
  obtain ⟨rfl, hz, hcx, hm⟩ := hv
  have hx := B.exec
  have hb := B.bytes
  have hr := B.returns
  have hts := atoms_spec (ws := wsX1_comes) B.pre
  have hown : s.vm.findClass RX1 = some m.cls := findClass_of_methodNamed B.named
  have hlocks := B.notSynchronized
  have hK := hcx.1
  have hS : va_S (AZ z) s.heap s.heap [] := va_S.rf
  have hA : ∀ q, s.heap.size ≤ q → AZ z q := fun q h => Nat.le_trans hz h
  have hl := lv_entry ([.int a0, .int a1, .int a2]) (n := 3) (Nat.le_of_ble_eq_true rfl)
  rw [lg_entry_eq]
  generalize (lg_sl ([.int a0, .int a1, .int a2]) ++ List.replicate (3 - (lg_sl ([.int a0, .int a1, .int a2])).length) Slot.unset).toArray = ls at hl ⊢
  have hl : lv_has ls 3 [(0, .int a0), (1, .int a1), (2, .int a2)] := hl
  have hT0 := hT
  have hE : kx κ M κ M := kx.refl _ _
  refine lv_iload_n hx hb dX1_comes_0 rfl (lv_at hl 1 rfl) ?_
  refine lv_iload_n hx hb dX1_comes_1 rfl (lv_at hl 0 rfl) ?_
  refine lv_icmp_eq (tgt := 14) hx hb dX1_comes_2 (by decide) (fun c1 => ?_) (fun c1 => ?_)
  · refine lv_iconst (v := 0) hx hb dX1_comes_14 (by decide) ?_
    refine W.zret hx hb hr rfl (fun t ht hW => ⟨⟨some (.int 0), _, rfl, ?_, by rw [ht]; exact hm⟩, hS.F ht⟩) hS.2.2 dX1_comes_15
    exact ⟨Or.inl rfl, rfl⟩
  · refine lv_iload_n hx hb dX1_comes_5 rfl (lv_at hl 1 rfl) ?_
    refine lv_iload_n hx hb dX1_comes_6 rfl (lv_at hl 2 rfl) ?_
    refine lv_icmp_eq (tgt := 14) hx hb dX1_comes_7 (by decide) (fun c2 => ?_) (fun c2 => ?_)
    · refine lv_iconst (v := 0) hx hb dX1_comes_14 (by decide) ?_
      refine W.zret hx hb hr rfl (fun t ht hW => ⟨⟨some (.int 0), _, rfl, ?_, by rw [ht]; exact hm⟩, hS.F ht⟩) hS.2.2 dX1_comes_15
      exact ⟨Or.inl rfl, rfl⟩
    · refine lv_iconst (v := 1) hx hb dX1_comes_10 (by decide) ?_
      refine lv_goto (tgt := 15) hx hb dX1_comes_11 (by decide) ?_
      refine W.zret hx hb hr rfl (fun t ht hW => ⟨⟨some (.int 1), _, rfl, ?_, by rw [ht]; exact hm⟩, hS.F ht⟩) hS.2.2 dX1_comes_15
      exact ⟨Or.inr rfl, rfl⟩

set_option maxHeartbeats 4000000 in
set_option maxRecDepth 100000 in
theorem t_X1_merged_III (l : Launch) (D : va_G) (k : Nat → ClassId) (z : Nat) (M : mM) (κ : Nat → Option KD) (a0 : Int32) (a1 : Int32) (a2 : Int32)  (hT : TM k κ M) : mK l yX1_merged wsX1_merged ({ frames := 0, cells := 0, slots := 0, locals := 0 }) D k z [.int a0, .int a1, .int a2] M (fun v M' => (∃ x, v = some (.int x)) ∧ M' = M) := by
  refine Met.ofW (cc := cX1_merged) (maxL := 3) (ret := (some .int)) (by decide) rfl ?_
  intro p e s m args below meth c s₁ B hml hv
  obtain ⟨rfl, hz, hcx, hm⟩ := hv
  have hx := B.exec
  have hb := B.bytes
  have hr := B.returns
  have hts := atoms_spec (ws := wsX1_merged) B.pre
  have hown : s.vm.findClass RX1 = some m.cls := findClass_of_methodNamed B.named
  have hlocks := B.notSynchronized
  have hK := hcx.1
  have hS : va_S (AZ z) s.heap s.heap [] := va_S.rf
  have hA : ∀ q, s.heap.size ≤ q → AZ z q := fun q h => Nat.le_trans hz h
  have hl := lv_entry ([.int a0, .int a1, .int a2]) (n := 3) (Nat.le_of_ble_eq_true rfl)
  rw [lg_entry_eq]
  generalize (lg_sl ([.int a0, .int a1, .int a2]) ++ List.replicate (3 - (lg_sl ([.int a0, .int a1, .int a2])).length) Slot.unset).toArray = ls at hl ⊢
  have hl : lv_has ls 3 [(0, .int a0), (1, .int a1), (2, .int a2)] := hl
  have hT0 := hT
  have hE : kx κ M κ M := kx.refl _ _
  refine lv_iload_n hx hb dX1_merged_0 rfl (lv_at hl 1 rfl) ?_
  refine lv_iload_n hx hb dX1_merged_1 rfl (lv_at hl 0 rfl) ?_
  refine lv_icmp_eq (tgt := 9) hx hb dX1_merged_2 (by decide) (fun c1 => ?_) (fun c1 => ?_)
  · refine lv_iload_n hx hb dX1_merged_9 rfl (lv_at hl 2 rfl) ?_
    refine W.iret (v := a2) hx hb hr (fun t ht hW => ⟨⟨some (.int a2), _, rfl, ?_, by rw [ht]; exact hm⟩, hS.F ht⟩) hS.2.2 dX1_merged_10
    exact ⟨⟨_, rfl⟩, rfl⟩
  · refine lv_iload_n hx hb dX1_merged_5 rfl (lv_at hl 1 rfl) ?_
    refine lv_goto (tgt := 10) hx hb dX1_merged_6 (by decide) ?_
    refine W.iret (v := a1) hx hb hr (fun t ht hW => ⟨⟨some (.int a1), _, rfl, ?_, by rw [ht]; exact hm⟩, hS.F ht⟩) hS.2.2 dX1_merged_10
    exact ⟨⟨_, rfl⟩, rfl⟩

set_option maxHeartbeats 4000000 in
set_option maxRecDepth 100000 in
theorem t_X2_wordBlocks_I (l : Launch) (D : va_G) (k : Nat → ClassId) (z : Nat) (M : mM) (κ : Nat → Option KD) (a0 : Int32)  (hT : TM k κ M) : mK l yX2_wordBlocks wsX2_wordBlocks ({ frames := 0, cells := 0, slots := 0, locals := 0 }) D k z [.int a0] M (fun v M' => (∃ x, v = some (.int x)) ∧ M' = M) := by
  refine Met.ofW (cc := cX2_wordBlocks) (maxL := 1) (ret := (some .int)) (by decide) rfl ?_
  intro p e s m args below meth c s₁ B hml hv
  obtain ⟨rfl, hz, hcx, hm⟩ := hv
  have hx := B.exec
  have hb := B.bytes
  have hr := B.returns
  have hts := atoms_spec (ws := wsX2_wordBlocks) B.pre
  have hown : s.vm.findClass RX2 = some m.cls := findClass_of_methodNamed B.named
  have hlocks := B.notSynchronized
  have hK := hcx.1
  have hS : va_S (AZ z) s.heap s.heap [] := va_S.rf
  have hA : ∀ q, s.heap.size ≤ q → AZ z q := fun q h => Nat.le_trans hz h
  have hl := lv_entry ([.int a0]) (n := 1) (Nat.le_of_ble_eq_true rfl)
  rw [lg_entry_eq]
  generalize (lg_sl ([.int a0]) ++ List.replicate (1 - (lg_sl ([.int a0])).length) Slot.unset).toArray = ls at hl ⊢
  have hl : lv_has ls 1 [(0, .int a0)] := hl
  have hT0 := hT
  have hE : kx κ M κ M := kx.refl _ _
  refine lv_iload_n hx hb dX2_wordBlocks_0 rfl (lv_at hl 0 rfl) ?_
  refine lv_bipush (v := 8) hx hb dX2_wordBlocks_1 (by decide) ?_
  refine lv_iadd hx hb dX2_wordBlocks_3 ?_
  refine lv_iconst (v := 1) hx hb dX2_wordBlocks_4 (by decide) ?_
  refine lv_isub hx hb dX2_wordBlocks_5 ?_
  refine lv_bipush (v := 8) hx hb dX2_wordBlocks_6 (by decide) ?_
  refine lv_idiv hx hb dX2_wordBlocks_8 (by decide) ?_
  refine W.iret (v := (((a0 + 8) - 1) / 8)) hx hb hr (fun t ht hW => ⟨⟨some (.int (((a0 + 8) - 1) / 8)), _, rfl, ?_, by rw [ht]; exact hm⟩, hS.F ht⟩) hS.2.2 dX2_wordBlocks_9
  exact ⟨⟨_, rfl⟩, rfl⟩

