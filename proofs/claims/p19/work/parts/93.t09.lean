set_option maxHeartbeats 4000000 in
set_option maxRecDepth 100000 in
theorem t_X1_build_RRRR (l : Launch) (D : va_G) (k : Nat → ClassId) (z : Nat) (M : mM) (κ : Nat → Option KD) (h0 : Nat) (r0 : Nat) (r1 : Nat) (r2 : Nat) (r3 : Nat) (hk_h0 : κ h0 = some .merge) (hk_r0 : κ r0 = some .tree) (hk_r1 : κ r1 = some .tree) (hk_r2 : κ r2 = some .tree) (hk_r3 : κ r3 = some .tree) (hT : TM k κ M) : mK l yX1_build wsX1_build ({ frames := 4, cells := 120, slots := 4080, locals := 89 }) D k z [.ref h0, .ref r0, .ref r1, .ref r2, .ref r3] M (fun v M' => ∃ κ', TM k κ' M' ∧ kx κ M κ' M' ∧ v = none) := by
  refine Met.ofW (cc := cX1_build) (maxL := 7) (ret := none) (by decide) rfl ?_
  intro p e s m args below meth c s₁ B hml hv
  obtain ⟨rfl, hz, hcx, hm⟩ := hv
  have hx := B.exec
  have hb := B.bytes
  have hr := B.returns
  have hts := atoms_spec (ws := wsX1_build) B.pre
  have hown : s.vm.findClass RX1 = some m.cls := findClass_of_methodNamed B.named
  have hlocks := B.notSynchronized
  have hK := hcx.1
  have hS : va_S (AZ z) s.heap s.heap [] := va_S.rf
  have hA : ∀ q, s.heap.size ≤ q → AZ z q := fun q h => Nat.le_trans hz h
  have hl := lv_entry ([.ref h0, .ref r0, .ref r1, .ref r2, .ref r3]) (n := 7) (Nat.le_of_ble_eq_true rfl)
  rw [lg_entry_eq]
  generalize (lg_sl ([.ref h0, .ref r0, .ref r1, .ref r2, .ref r3]) ++ List.replicate (7 - (lg_sl ([.ref h0, .ref r0, .ref r1, .ref r2, .ref r3])).length) Slot.unset).toArray = ls at hl ⊢
  have hl : lv_has ls 7 [(0, .ref h0), (1, .ref r0), (2, .ref r1), (3, .ref r2), (4, .ref r3)] := hl
  have f37 := hts (.fieldLink RX1 37 "CommitTree$Tree" "size" "I") (by decide +kernel)
  have f46 := hts (.fieldLink RX1 46 "CommitTree$Node" "id" "I") (by decide +kernel)
  have wX2 : ∀ w ∈ wsX20, w ∈ wsX1_build := by decide +kernel
  have wX4 : ∀ w ∈ wsX40, w ∈ wsX1_build := by decide +kernel
  have hT0 := hT
  have hE : kx κ M κ M := kx.refl _ _
  refine lv_aload hx hb dX1_build_0 (lv_at hl 4 rfl) ?_
  refine lv_iconst (v := 0) hx hb dX1_build_2 (by decide) ?_
  obtain ⟨v0_1, v1_1, hM_r3_1, hk_v0_1, hn_v1_1⟩ := hT.tree hk_r3
  refine m_put (T := TX4) (N := 2) (ci := 4) (v := .int 0) (ty := .int) hx hb hts wX4 tyX4 tyX4_ok nmX4 hown hK hm hS hM_r3_1 rfl 1 (by decide) f37 (fun _ h9 => h9) rfl (by decide +kernel) rfl rfl (Nat.le_of_ble_eq_true rfl) dX1_build_3 (fun H locs hm hS => ?_)
  have hm : mm D (AZ z) (mu M r3 (.inr (4, [.ref v0_1, .int 0]))) H := hm
  have hT : TM k κ (mu M r3 (.inr (4, [.ref v0_1, .int 0]))) := hT.put hk_r3 (show wf k κ .tree (.inr (4, [.ref v0_1, .int 0])) from ⟨v0_1, 0, rfl, hk_v0_1, (by decide)⟩)
  have hE : kx κ M κ (mu M r3 (.inr (4, [.ref v0_1, .int 0]))) := hE.put hk_r3
  generalize (mu M r3 (.inr (4, [.ref v0_1, .int 0]))) = Mc1 at hm hT hE
  refine lv_iconst (v := 0) hx hb dX1_build_6 (by decide) ?_
  refine lv_istore (lv' := [(5, .int 0), (0, .ref h0), (1, .ref r0), (2, .ref r1), (3, .ref r2), (4, .ref r3)]) hx hb dX1_build_7 hl (by decide) rfl (fun ls hl => ?_)
  refine W_loop (σ := Nat × (Nat → Option KD) × mM) (fun ⟨j2, K9, M9⟩ H locs ls => (j2 ≤ 60) ∧ (TM k K9 M9) ∧ (kx κ M K9 M9) ∧ (K9 h0 = some .merge) ∧ (K9 r0 = some .tree) ∧ (K9 r1 = some .tree) ∧ (K9 r2 = some .tree) ∧ (K9 r3 = some .tree) ∧ mm D (AZ z) M9 H ∧ va_S (AZ z) s.heap H locs ∧ lv_has ls 7 [(5, .int (nI j2)), (0, .ref h0), (1, .ref r0), (2, .ref r1), (3, .ref r2), (4, .ref r3)]) (fun ⟨j2, K9, M9⟩ => 2147483648 - j2) (fun ⟨j2, K9, M9⟩ => 0 + j2 * 2) (fun ⟨j2, K9, M9⟩ => 0 + j2 * 68) ?_ (0, κ, Mc1) _ _ _ ⟨(by decide), hT, hE, hk_h0, hk_r0, hk_r1, hk_r2, hk_r3, hm, hS, lv_sub hl [0, 1, 2, 3, 4, 5] rfl⟩
  intro ⟨j2, K9, M9⟩ H locs ls hQ ih9
  obtain ⟨hbj2, hT, hE, hk_h0, hk_r0, hk_r1, hk_r2, hk_r3, hm, hS, hl⟩ := hQ
  try dsimp only at hm hl ih9 hbj2 hT hE hk_h0 hk_r0 hk_r1 hk_r2 hk_r3 ⊢
  refine lv_iload hx hb dX1_build_9 (lv_at hl 0 rfl) ?_
  refine lv_aload_n hx hb dX1_build_11 rfl (lv_at hl 4 rfl) ?_
  obtain ⟨v0_3, v1_3, hM_r2_3, hk_v0_3, hn_v1_3⟩ := hT.tree hk_r2
  refine m_get (T := TX4) (N := 2) (ci := 4) (v := .int (nI v1_3)) hx hb hts wX4 hown hK hm hM_r2_3 rfl 1 (by decide) f37 (fun _ h9 => h9) rfl dX1_build_12 ?_
  refine lv_icmp_ge (tgt := 62) hx hb dX1_build_15 (by decide) (fun c4 => ?_) (fun c4 => ?_)
  · refine W.widen (k := 120) (n := 4080) (by omega) (by omega) ?_
    refine lv_iconst (v := 0) hx hb dX1_build_62 (by decide) ?_
    refine lv_istore (lv' := [(5, .int 0), (0, .ref h0), (1, .ref r0), (2, .ref r1), (3, .ref r2), (4, .ref r3)]) hx hb dX1_build_63 hl (by decide) rfl (fun ls hl => ?_)
    refine W_loop (σ := Nat × (Nat → Option KD) × mM) (fun ⟨j5, K65, M65⟩ H locs ls => (j5 < 2147483648) ∧ (TM k K65 M65) ∧ (kx κ M K65 M65) ∧ (K65 h0 = some .merge) ∧ (K65 r0 = some .tree) ∧ (K65 r1 = some .tree) ∧ (K65 r2 = some .tree) ∧ (K65 r3 = some .tree) ∧ mm D (AZ z) M65 H ∧ va_S (AZ z) s.heap H locs ∧ lv_has ls 7 [(5, .int (nI j5)), (0, .ref h0), (1, .ref r0), (2, .ref r1), (3, .ref r2), (4, .ref r3)]) (fun ⟨j5, K65, M65⟩ => 2147483648 - j5) (fun ⟨j5, K65, M65⟩ => 120) (fun ⟨j5, K65, M65⟩ => 4080) ?_ (0, K9, M9) _ _ _ ⟨(by decide), hT, hE, hk_h0, hk_r0, hk_r1, hk_r2, hk_r3, hm, hS, lv_sub hl [0, 1, 2, 3, 4, 5] rfl⟩
    intro ⟨j5, K65, M65⟩ H locs ls hQ ih65
    obtain ⟨hbj5, hT, hE, hk_h0, hk_r0, hk_r1, hk_r2, hk_r3, hm, hS, hl⟩ := hQ
    try dsimp only at hm hl ih65 hbj5 hT hE hk_h0 hk_r0 hk_r1 hk_r2 hk_r3 ⊢
    refine lv_iload hx hb dX1_build_65 (lv_at hl 0 rfl) ?_
    refine lv_aload_n hx hb dX1_build_67 rfl (lv_at hl 3 rfl) ?_
    obtain ⟨v0_6, v1_6, hM_r1_6, hk_v0_6, hn_v1_6⟩ := hT.tree hk_r1
    refine m_get (T := TX4) (N := 2) (ci := 4) (v := .int (nI v1_6)) hx hb hts wX4 hown hK hm hM_r1_6 rfl 1 (by decide) f37 (fun _ h9 => h9) rfl dX1_build_68 ?_
    refine lv_icmp_ge (tgt := 112) hx hb dX1_build_71 (by decide) (fun c7 => ?_) (fun c7 => ?_)
    · refine W.vret hx hb hr (fun t ht hW => ⟨⟨none, _, rfl, ?_, by rw [ht]; exact hm⟩, hS.F ht⟩) hS.2.2 dX1_build_112
      exact ⟨_, hT, hE, rfl⟩
    · refine lv_aload_n hx hb dX1_build_74 rfl (lv_at hl 3 rfl) ?_
      refine lv_iload hx hb dX1_build_75 (lv_at hl 0 rfl) ?_
      refine m_kV (As := [.int (nI j5)]) (rest := []) (rm := { frames := 0, cells := 0, slots := 0, locals := 0 }) ⟨hx, hb, hml, hown, hts⟩ (t_X4_at_I l D k z _ _ r1 (nI j5) hk_r1 hT) (cwV 1 hts gX1_build_X4_at rfl rfl rfl (by decide +kernel) ⟨Nat.le_of_ble_eq_true rfl, Nat.le_of_ble_eq_true rfl⟩) (m_recv hK hm (q := (RX4, TX4, 2)) rfl hM_r1_6) hz hcx hm hS rfl hl.1 rfl (Nat.le_of_ble_eq_true rfl) dX1_build_77 ⟨Nat.le_of_ble_eq_true rfl, Nat.le_of_ble_eq_true rfl⟩ (fun v M1 H locs hv hm hS => ?_)
      obtain ⟨hv1, hM1⟩ := hv
      rw [hM1] at hm
      rcases hv1 with hv1 | ⟨x8, hv1, hk_x8, hx9⟩
      · subst hv1
        refine W.eq (g2 := F0 m 80 ls [.null]) rfl ?_
        refine W.widen (k := 120) (n := 4080) (Nat.le_of_ble_eq_true rfl) (Nat.le_of_ble_eq_true rfl) ?_
        have hm : mm D (AZ z) M65 H := hm
        refine lv_astoreN (lv' := [(6, .null), (5, .int (nI j5)), (0, .ref h0), (1, .ref r0), (2, .ref r1), (3, .ref r2), (4, .ref r3)]) hx hb dX1_build_80 hl (by decide) rfl (fun ls hl => ?_)
        refine lv_aloadN hx hb dX1_build_82 (lv_at hl 0 rfl) ?_
        refine lv_ifnullN (tgt := 106) hx hb dX1_build_84 (by decide) ?_
        refine lv_iinc (v := ((nI j5) + 1)) (lv' := [(5, .int ((nI j5) + 1)), (6, .null), (0, .ref h0), (1, .ref r0), (2, .ref r1), (3, .ref r2), (4, .ref r3)]) hx hb dX1_build_106 hl (k := 1) rfl rfl (by decide) rfl (fun ls hl => ?_)
        refine lv_goto (tgt := 65) hx hb dX1_build_109 (by decide) ?_
        rw [nI_1] at hl
        exact ih65 (j5 + 1, K65, M65) _ _ _ ⟨(by first | exact nI_up hbj5 c7 | exact nI_up2 (by decide) hbj5 c7), hT, hE, hk_h0, hk_r0, hk_r1, hk_r2, hk_r3, hm, hS, lv_sub hl [0, 2, 3, 4, 5, 6] rfl⟩ (by show 2147483648 - (j5 + 1) < 2147483648 - j5; omega)
      · subst hv1
        refine W.eq (g2 := F0 m 80 ls [.ref x8]) rfl ?_
        refine W.widen (k := 120) (n := 4080) (Nat.le_of_ble_eq_true rfl) (Nat.le_of_ble_eq_true rfl) ?_
        have hm : mm D (AZ z) M65 H := hm
        refine lv_astore (lv' := [(6, .ref x8), (5, .int (nI j5)), (0, .ref h0), (1, .ref r0), (2, .ref r1), (3, .ref r2), (4, .ref r3)]) hx hb dX1_build_80 hl (by decide) rfl (fun ls hl => ?_)
        refine lv_aload hx hb dX1_build_82 (lv_at hl 0 rfl) ?_
        refine lv_ifnull hx hb dX1_build_84 ?_
        refine lv_aload_n hx hb dX1_build_87 rfl (lv_at hl 3 rfl) ?_
        refine lv_aload hx hb dX1_build_88 (lv_at hl 0 rfl) ?_
        obtain ⟨v0_9, v1_9, v2_9, v3_9, hM_x8_9, hz_v1_9, hk_v3_9⟩ := hT.node hk_x8
        refine m_get (T := TX2) (N := 4) (ci := 2) (v := .int v0_9) hx hb hts wX2 hown hK hm hM_x8_9 rfl 0 (by decide) f46 (fun _ h9 => h9) rfl dX1_build_90 ?_
        obtain ⟨v0_10, v1_10, hM_r0_10, hk_v0_10, hn_v1_10⟩ := hT.tree hk_r0
        refine m_kV (As := [.int v0_9]) (rest := []) (rm := { frames := 1, cells := 0, slots := 0, locals := 23 }) ⟨hx, hb, hml, hown, hts⟩ (t_X4_find_I l D k z _ _ r0 v0_9 hk_r0 hT) (cwV 1 hts gX1_build_X4_find rfl rfl rfl (by decide +kernel) ⟨Nat.le_of_ble_eq_true rfl, Nat.le_of_ble_eq_true rfl⟩) (m_recv hK hm (q := (RX4, TX4, 2)) rfl hM_r0_10) hz hcx hm hS rfl hl.1 rfl (Nat.le_of_ble_eq_true rfl) dX1_build_93 ⟨Nat.le_of_ble_eq_true rfl, Nat.le_of_ble_eq_true rfl⟩ (fun v M1 H locs hv hm hS => ?_)
        obtain ⟨hv1, hM1⟩ := hv
        rw [hM1] at hm
        rcases hv1 with hv1 | ⟨x11, hv1, hk_x11⟩
        · subst hv1
          refine W.eq (g2 := F0 m 96 ls [.null]) rfl ?_
          refine W.widen (k := 120) (n := 4080) (Nat.le_of_ble_eq_true rfl) (Nat.le_of_ble_eq_true rfl) ?_
          have hm : mm D (AZ z) M65 H := hm
          refine lv_ifnonnullN hx hb dX1_build_96 ?_
          refine lv_aload hx hb dX1_build_99 (lv_at hl 6 rfl) ?_
          refine lv_aload hx hb dX1_build_101 (lv_at hl 0 rfl) ?_
          obtain ⟨v0_12, v1_12, hM_r3_12, hk_v0_12, hn_v1_12⟩ := hT.tree hk_r3
          refine m_kV (As := [.ref x8]) (rest := []) (rm := { frames := 0, cells := 0, slots := 0, locals := 0 }) ⟨hx, hb, hml, hown, hts⟩ (t_X4_add_R l D k z _ _ r3 x8 hk_r3 hk_x8 hT) (cwV 1 hts gX1_build_X4_add rfl rfl rfl (by decide +kernel) ⟨Nat.le_of_ble_eq_true rfl, Nat.le_of_ble_eq_true rfl⟩) (m_recv hK hm (q := (RX4, TX4, 2)) rfl hM_r3_12) hz hcx hm hS rfl hl.1 rfl (Nat.le_of_ble_eq_true rfl) dX1_build_103 ⟨Nat.le_of_ble_eq_true rfl, Nat.le_of_ble_eq_true rfl⟩ (fun v M1 H locs hv hm hS => ?_)
          obtain ⟨κ2, hT9, hE9, hv1⟩ := hv
          have hk_h0 := hE9.k hT hk_h0
          have hk_r0 := hE9.k hT hk_r0
          have hk_r1 := hE9.k hT hk_r1
          have hk_r2 := hE9.k hT hk_r2
          have hk_r3 := hE9.k hT hk_r3
          have hk_x8 := hE9.k hT hk_x8
          have hE := hE.trans hT0 hT hE9
          have hT := hT9
          obtain ⟨Mc2, hMx⟩ : ∃ x : mM, x = M1 := ⟨M1, rfl⟩
          subst hMx
          subst hv1
          refine W.eq (g2 := F0 m 106 ls []) rfl ?_
          refine W.widen (k := 120) (n := 4080) (Nat.le_of_ble_eq_true rfl) (Nat.le_of_ble_eq_true rfl) ?_
          have hm : mm D (AZ z) Mc2 H := hm
          refine lv_iinc (v := ((nI j5) + 1)) (lv' := [(5, .int ((nI j5) + 1)), (6, .ref x8), (0, .ref h0), (1, .ref r0), (2, .ref r1), (3, .ref r2), (4, .ref r3)]) hx hb dX1_build_106 hl (k := 1) rfl rfl (by decide) rfl (fun ls hl => ?_)
          refine lv_goto (tgt := 65) hx hb dX1_build_109 (by decide) ?_
          rw [nI_1] at hl
          exact ih65 (j5 + 1, κ2, Mc2) _ _ _ ⟨(by first | exact nI_up hbj5 c7 | exact nI_up2 (by decide) hbj5 c7), hT, hE, hk_h0, hk_r0, hk_r1, hk_r2, hk_r3, hm, hS, lv_sub hl [0, 2, 3, 4, 5, 6] rfl⟩ (by show 2147483648 - (j5 + 1) < 2147483648 - j5; omega)
        · subst hv1
          refine W.eq (g2 := F0 m 96 ls [.ref x11]) rfl ?_
          refine W.widen (k := 120) (n := 4080) (Nat.le_of_ble_eq_true rfl) (Nat.le_of_ble_eq_true rfl) ?_
          have hm : mm D (AZ z) M65 H := hm
          refine lv_ifnonnull (tgt := 106) hx hb dX1_build_96 (by decide) ?_
          refine lv_iinc (v := ((nI j5) + 1)) (lv' := [(5, .int ((nI j5) + 1)), (6, .ref x8), (0, .ref h0), (1, .ref r0), (2, .ref r1), (3, .ref r2), (4, .ref r3)]) hx hb dX1_build_106 hl (k := 1) rfl rfl (by decide) rfl (fun ls hl => ?_)
          refine lv_goto (tgt := 65) hx hb dX1_build_109 (by decide) ?_
          rw [nI_1] at hl
          exact ih65 (j5 + 1, K65, M65) _ _ _ ⟨(by first | exact nI_up hbj5 c7 | exact nI_up2 (by decide) hbj5 c7), hT, hE, hk_h0, hk_r0, hk_r1, hk_r2, hk_r3, hm, hS, lv_sub hl [0, 2, 3, 4, 5, 6] rfl⟩ (by show 2147483648 - (j5 + 1) < 2147483648 - j5; omega)
  · have hlt9 := nI_ltn (by omega) (by omega) c4
    refine lv_aload_n hx hb dX1_build_18 rfl (lv_at hl 4 rfl) ?_
    refine lv_iload hx hb dX1_build_19 (lv_at hl 0 rfl) ?_
    refine m_kV (As := [.int (nI j2)]) (rest := []) (rm := { frames := 0, cells := 0, slots := 0, locals := 0 }) ⟨hx, hb, hml, hown, hts⟩ (t_X4_at_I l D k z _ _ r2 (nI j2) hk_r2 hT) (cwV 1 hts gX1_build_X4_at rfl rfl rfl (by decide +kernel) ⟨Nat.le_of_ble_eq_true rfl, Nat.le_of_ble_eq_true rfl⟩) (m_recv hK hm (q := (RX4, TX4, 2)) rfl hM_r2_3) hz hcx hm hS rfl hl.1 rfl (Nat.le_of_ble_eq_true rfl) dX1_build_21 ⟨(show 0 + j2 * 2 + 0 ≤ 120 by omega), (show 0 + j2 * 68 + 0 ≤ 4080 by omega)⟩ (fun v M1 H locs hv hm hS => ?_)
    obtain ⟨hv1, hM1⟩ := hv
    rw [hM1] at hm
    rcases hv1 with hv1 | ⟨x13, hv1, hk_x13, hx9⟩
    · subst hv1
      refine W.eq (g2 := F0 m 24 ls [.null]) rfl ?_
      refine W.widen (k := 0 + j2 * 2) (n := 0 + j2 * 68) (Nat.le_refl _) (Nat.le_refl _) ?_
      have hm : mm D (AZ z) M9 H := hm
      refine lv_astoreN (lv' := [(6, .null), (5, .int (nI j2)), (0, .ref h0), (1, .ref r0), (2, .ref r1), (3, .ref r2), (4, .ref r3)]) hx hb dX1_build_24 hl (by decide) rfl (fun ls hl => ?_)
      refine lv_aloadN hx hb dX1_build_26 (lv_at hl 0 rfl) ?_
      refine lv_ifnullN (tgt := 56) hx hb dX1_build_28 (by decide) ?_
      refine lv_iinc (v := ((nI j2) + 1)) (lv' := [(5, .int ((nI j2) + 1)), (6, .null), (0, .ref h0), (1, .ref r0), (2, .ref r1), (3, .ref r2), (4, .ref r3)]) hx hb dX1_build_56 hl (k := 1) rfl rfl (by decide) rfl (fun ls hl => ?_)
      refine lv_goto (tgt := 9) hx hb dX1_build_59 (by decide) ?_
      rw [nI_1] at hl
      refine W.widen (k := 0 + (j2 + 1) * 2) (n := 0 + (j2 + 1) * 68) (by omega) (by omega) ?_
      exact ih9 (j2 + 1, K9, M9) _ _ _ ⟨(by omega), hT, hE, hk_h0, hk_r0, hk_r1, hk_r2, hk_r3, hm, hS, lv_sub hl [0, 2, 3, 4, 5, 6] rfl⟩ (by show 2147483648 - (j2 + 1) < 2147483648 - j2; omega)
    · subst hv1
      refine W.eq (g2 := F0 m 24 ls [.ref x13]) rfl ?_
      refine W.widen (k := 0 + j2 * 2) (n := 0 + j2 * 68) (Nat.le_refl _) (Nat.le_refl _) ?_
      have hm : mm D (AZ z) M9 H := hm
      refine lv_astore (lv' := [(6, .ref x13), (5, .int (nI j2)), (0, .ref h0), (1, .ref r0), (2, .ref r1), (3, .ref r2), (4, .ref r3)]) hx hb dX1_build_24 hl (by decide) rfl (fun ls hl => ?_)
      refine lv_aload hx hb dX1_build_26 (lv_at hl 0 rfl) ?_
      refine lv_ifnull hx hb dX1_build_28 ?_
      refine lv_aload_n hx hb dX1_build_31 rfl (lv_at hl 3 rfl) ?_
      refine lv_aload hx hb dX1_build_32 (lv_at hl 0 rfl) ?_
      obtain ⟨v0_14, v1_14, v2_14, v3_14, hM_x13_14, hz_v1_14, hk_v3_14⟩ := hT.node hk_x13
      refine m_get (T := TX2) (N := 4) (ci := 2) (v := .int v0_14) hx hb hts wX2 hown hK hm hM_x13_14 rfl 0 (by decide) f46 (fun _ h9 => h9) rfl dX1_build_34 ?_
      obtain ⟨v0_15, v1_15, hM_r0_15, hk_v0_15, hn_v1_15⟩ := hT.tree hk_r0
      refine m_kV (As := [.int v0_14]) (rest := []) (rm := { frames := 1, cells := 0, slots := 0, locals := 23 }) ⟨hx, hb, hml, hown, hts⟩ (t_X4_find_I l D k z _ _ r0 v0_14 hk_r0 hT) (cwV 1 hts gX1_build_X4_find rfl rfl rfl (by decide +kernel) ⟨Nat.le_of_ble_eq_true rfl, Nat.le_of_ble_eq_true rfl⟩) (m_recv hK hm (q := (RX4, TX4, 2)) rfl hM_r0_15) hz hcx hm hS rfl hl.1 rfl (Nat.le_of_ble_eq_true rfl) dX1_build_37 ⟨(show 0 + j2 * 2 + 0 ≤ 120 by omega), (show 0 + j2 * 68 + 0 ≤ 4080 by omega)⟩ (fun v M1 H locs hv hm hS => ?_)
      obtain ⟨hv1, hM1⟩ := hv
      rw [hM1] at hm
      rcases hv1 with hv1 | ⟨x16, hv1, hk_x16⟩
      · subst hv1
        refine W.eq (g2 := F0 m 40 ls [.null]) rfl ?_
        refine W.widen (k := 0 + j2 * 2) (n := 0 + j2 * 68) (Nat.le_refl _) (Nat.le_refl _) ?_
        have hm : mm D (AZ z) M9 H := hm
        refine lv_aload_n hx hb dX1_build_40 rfl (lv_at hl 4 rfl) ?_
        refine lv_aload hx hb dX1_build_41 (lv_at hl 0 rfl) ?_
        refine m_get (T := TX2) (N := 4) (ci := 2) (v := .int v0_14) hx hb hts wX2 hown hK hm hM_x13_14 rfl 0 (by decide) f46 (fun _ h9 => h9) rfl dX1_build_43 ?_
        obtain ⟨v0_17, v1_17, hM_r1_17, hk_v0_17, hn_v1_17⟩ := hT.tree hk_r1
        refine m_kV (As := [.int v0_14]) (rest := [.null]) (rm := { frames := 1, cells := 0, slots := 0, locals := 23 }) ⟨hx, hb, hml, hown, hts⟩ (t_X4_find_I l D k z _ _ r1 v0_14 hk_r1 hT) (cwV 1 hts gX1_build_X4_find rfl rfl rfl (by decide +kernel) ⟨Nat.le_of_ble_eq_true rfl, Nat.le_of_ble_eq_true rfl⟩) (m_recv hK hm (q := (RX4, TX4, 2)) rfl hM_r1_17) hz hcx hm hS rfl hl.1 rfl (Nat.le_of_ble_eq_true rfl) dX1_build_46 ⟨(show 0 + j2 * 2 + 0 ≤ 120 by omega), (show 0 + j2 * 68 + 0 ≤ 4080 by omega)⟩ (fun v M1 H locs hv hm hS => ?_)
        obtain ⟨hv1, hM1⟩ := hv
        rw [hM1] at hm
        rcases hv1 with hv1 | ⟨x18, hv1, hk_x18⟩
        · subst hv1
          refine W.eq (g2 := F0 m 49 ls [.null, .null]) rfl ?_
          refine W.widen (k := 0 + j2 * 2) (n := 0 + j2 * 68) (Nat.le_refl _) (Nat.le_refl _) ?_
          have hm : mm D (AZ z) M9 H := hm
          refine lv_aload hx hb dX1_build_49 (lv_at hl 0 rfl) ?_
          refine lv_aload hx hb dX1_build_51 (lv_at hl 6 rfl) ?_
          refine m_kS (As := [.null, .null, .ref x13, .ref r3]) (rest := []) (rm := { frames := 1, cells := 0, slots := 0, locals := 21 }) ⟨hx, hb, hml, hown, hts⟩ (t_X1_addKept_NNRR l D k z _ _ x13 r3 hk_x13 hk_r3 hT) (cwS 4 hts gX1_build_X1_addKept rfl rfl rfl (by decide +kernel) ⟨Nat.le_of_ble_eq_true rfl, Nat.le_of_ble_eq_true rfl⟩) hz hcx hm hS rfl hl.1 rfl (Nat.le_of_ble_eq_true rfl) dX1_build_53 ⟨(show 0 + j2 * 2 + 0 ≤ 120 by omega), (show 0 + j2 * 68 + 0 ≤ 4080 by omega)⟩ (fun v M1 H locs hv hm hS => ?_)
          obtain ⟨κ3, hT9, hE9, hv1⟩ := hv
          have hk_h0 := hE9.k hT hk_h0
          have hk_r0 := hE9.k hT hk_r0
          have hk_r1 := hE9.k hT hk_r1
          have hk_r2 := hE9.k hT hk_r2
          have hk_r3 := hE9.k hT hk_r3
          have hk_x13 := hE9.k hT hk_x13
          have hE := hE.trans hT0 hT hE9
          have hT := hT9
          obtain ⟨Mc3, hMx⟩ : ∃ x : mM, x = M1 := ⟨M1, rfl⟩
          subst hMx
          subst hv1
          refine W.eq (g2 := F0 m 56 ls []) rfl ?_
          refine W.widen (k := 0 + j2 * 2) (n := 0 + j2 * 68) (Nat.le_refl _) (Nat.le_refl _) ?_
          have hm : mm D (AZ z) Mc3 H := hm
          refine lv_iinc (v := ((nI j2) + 1)) (lv' := [(5, .int ((nI j2) + 1)), (6, .ref x13), (0, .ref h0), (1, .ref r0), (2, .ref r1), (3, .ref r2), (4, .ref r3)]) hx hb dX1_build_56 hl (k := 1) rfl rfl (by decide) rfl (fun ls hl => ?_)
          refine lv_goto (tgt := 9) hx hb dX1_build_59 (by decide) ?_
          rw [nI_1] at hl
          refine W.widen (k := 0 + (j2 + 1) * 2) (n := 0 + (j2 + 1) * 68) (by omega) (by omega) ?_
          exact ih9 (j2 + 1, κ3, Mc3) _ _ _ ⟨(by omega), hT, hE, hk_h0, hk_r0, hk_r1, hk_r2, hk_r3, hm, hS, lv_sub hl [0, 2, 3, 4, 5, 6] rfl⟩ (by show 2147483648 - (j2 + 1) < 2147483648 - j2; omega)
        · subst hv1
          refine W.eq (g2 := F0 m 49 ls [.ref x18, .null]) rfl ?_
          refine W.widen (k := 0 + j2 * 2) (n := 0 + j2 * 68) (Nat.le_refl _) (Nat.le_refl _) ?_
          have hm : mm D (AZ z) M9 H := hm
          refine lv_aload hx hb dX1_build_49 (lv_at hl 0 rfl) ?_
          refine lv_aload hx hb dX1_build_51 (lv_at hl 6 rfl) ?_
          refine m_kS (As := [.null, .ref x18, .ref x13, .ref r3]) (rest := []) (rm := { frames := 1, cells := 0, slots := 0, locals := 21 }) ⟨hx, hb, hml, hown, hts⟩ (t_X1_addKept_NRRR l D k z _ _ x18 x13 r3 hk_x18 hk_x13 hk_r3 hT) (cwS 4 hts gX1_build_X1_addKept rfl rfl rfl (by decide +kernel) ⟨Nat.le_of_ble_eq_true rfl, Nat.le_of_ble_eq_true rfl⟩) hz hcx hm hS rfl hl.1 rfl (Nat.le_of_ble_eq_true rfl) dX1_build_53 ⟨(show 0 + j2 * 2 + 0 ≤ 120 by omega), (show 0 + j2 * 68 + 0 ≤ 4080 by omega)⟩ (fun v M1 H locs hv hm hS => ?_)
          obtain ⟨κ4, hT9, hE9, hv1⟩ := hv
          have hk_h0 := hE9.k hT hk_h0
          have hk_r0 := hE9.k hT hk_r0
          have hk_r1 := hE9.k hT hk_r1
          have hk_r2 := hE9.k hT hk_r2
          have hk_r3 := hE9.k hT hk_r3
          have hk_x13 := hE9.k hT hk_x13
          have hE := hE.trans hT0 hT hE9
          have hT := hT9
          obtain ⟨Mc4, hMx⟩ : ∃ x : mM, x = M1 := ⟨M1, rfl⟩
          subst hMx
          subst hv1
          refine W.eq (g2 := F0 m 56 ls []) rfl ?_
          refine W.widen (k := 0 + j2 * 2) (n := 0 + j2 * 68) (Nat.le_refl _) (Nat.le_refl _) ?_
          have hm : mm D (AZ z) Mc4 H := hm
          refine lv_iinc (v := ((nI j2) + 1)) (lv' := [(5, .int ((nI j2) + 1)), (6, .ref x13), (0, .ref h0), (1, .ref r0), (2, .ref r1), (3, .ref r2), (4, .ref r3)]) hx hb dX1_build_56 hl (k := 1) rfl rfl (by decide) rfl (fun ls hl => ?_)
          refine lv_goto (tgt := 9) hx hb dX1_build_59 (by decide) ?_
          rw [nI_1] at hl
          refine W.widen (k := 0 + (j2 + 1) * 2) (n := 0 + (j2 + 1) * 68) (by omega) (by omega) ?_
          exact ih9 (j2 + 1, κ4, Mc4) _ _ _ ⟨(by omega), hT, hE, hk_h0, hk_r0, hk_r1, hk_r2, hk_r3, hm, hS, lv_sub hl [0, 2, 3, 4, 5, 6] rfl⟩ (by show 2147483648 - (j2 + 1) < 2147483648 - j2; omega)
      · subst hv1
        refine W.eq (g2 := F0 m 40 ls [.ref x16]) rfl ?_
        refine W.widen (k := 0 + j2 * 2) (n := 0 + j2 * 68) (Nat.le_refl _) (Nat.le_refl _) ?_
        have hm : mm D (AZ z) M9 H := hm
        refine lv_aload_n hx hb dX1_build_40 rfl (lv_at hl 4 rfl) ?_
        refine lv_aload hx hb dX1_build_41 (lv_at hl 0 rfl) ?_
        refine m_get (T := TX2) (N := 4) (ci := 2) (v := .int v0_14) hx hb hts wX2 hown hK hm hM_x13_14 rfl 0 (by decide) f46 (fun _ h9 => h9) rfl dX1_build_43 ?_
        obtain ⟨v0_19, v1_19, hM_r1_19, hk_v0_19, hn_v1_19⟩ := hT.tree hk_r1
        refine m_kV (As := [.int v0_14]) (rest := [.ref x16]) (rm := { frames := 1, cells := 0, slots := 0, locals := 23 }) ⟨hx, hb, hml, hown, hts⟩ (t_X4_find_I l D k z _ _ r1 v0_14 hk_r1 hT) (cwV 1 hts gX1_build_X4_find rfl rfl rfl (by decide +kernel) ⟨Nat.le_of_ble_eq_true rfl, Nat.le_of_ble_eq_true rfl⟩) (m_recv hK hm (q := (RX4, TX4, 2)) rfl hM_r1_19) hz hcx hm hS rfl hl.1 rfl (Nat.le_of_ble_eq_true rfl) dX1_build_46 ⟨(show 0 + j2 * 2 + 0 ≤ 120 by omega), (show 0 + j2 * 68 + 0 ≤ 4080 by omega)⟩ (fun v M1 H locs hv hm hS => ?_)
        obtain ⟨hv1, hM1⟩ := hv
        rw [hM1] at hm
        rcases hv1 with hv1 | ⟨x20, hv1, hk_x20⟩
        · subst hv1
          refine W.eq (g2 := F0 m 49 ls [.null, .ref x16]) rfl ?_
          refine W.widen (k := 0 + j2 * 2) (n := 0 + j2 * 68) (Nat.le_refl _) (Nat.le_refl _) ?_
          have hm : mm D (AZ z) M9 H := hm
          refine lv_aload hx hb dX1_build_49 (lv_at hl 0 rfl) ?_
          refine lv_aload hx hb dX1_build_51 (lv_at hl 6 rfl) ?_
          refine m_kS (As := [.ref x16, .null, .ref x13, .ref r3]) (rest := []) (rm := { frames := 0, cells := 0, slots := 0, locals := 0 }) ⟨hx, hb, hml, hown, hts⟩ (t_X1_addKept_RNRR l D k z _ _ x16 x13 r3 hk_x16 hk_x13 hk_r3 hT) (cwS 4 hts gX1_build_X1_addKept rfl rfl rfl (by decide +kernel) ⟨Nat.le_of_ble_eq_true rfl, Nat.le_of_ble_eq_true rfl⟩) hz hcx hm hS rfl hl.1 rfl (Nat.le_of_ble_eq_true rfl) dX1_build_53 ⟨(show 0 + j2 * 2 + 0 ≤ 120 by omega), (show 0 + j2 * 68 + 0 ≤ 4080 by omega)⟩ (fun v M1 H locs hv hm hS => ?_)
          obtain ⟨κ5, hT9, hE9, hv1⟩ := hv
          have hk_h0 := hE9.k hT hk_h0
          have hk_r0 := hE9.k hT hk_r0
          have hk_r1 := hE9.k hT hk_r1
          have hk_r2 := hE9.k hT hk_r2
          have hk_r3 := hE9.k hT hk_r3
          have hk_x13 := hE9.k hT hk_x13
          have hE := hE.trans hT0 hT hE9
          have hT := hT9
          obtain ⟨Mc5, hMx⟩ : ∃ x : mM, x = M1 := ⟨M1, rfl⟩
          subst hMx
          subst hv1
          refine W.eq (g2 := F0 m 56 ls []) rfl ?_
          refine W.widen (k := 0 + j2 * 2) (n := 0 + j2 * 68) (Nat.le_refl _) (Nat.le_refl _) ?_
          have hm : mm D (AZ z) Mc5 H := hm
          refine lv_iinc (v := ((nI j2) + 1)) (lv' := [(5, .int ((nI j2) + 1)), (6, .ref x13), (0, .ref h0), (1, .ref r0), (2, .ref r1), (3, .ref r2), (4, .ref r3)]) hx hb dX1_build_56 hl (k := 1) rfl rfl (by decide) rfl (fun ls hl => ?_)
          refine lv_goto (tgt := 9) hx hb dX1_build_59 (by decide) ?_
          rw [nI_1] at hl
          refine W.widen (k := 0 + (j2 + 1) * 2) (n := 0 + (j2 + 1) * 68) (by omega) (by omega) ?_
          exact ih9 (j2 + 1, κ5, Mc5) _ _ _ ⟨(by omega), hT, hE, hk_h0, hk_r0, hk_r1, hk_r2, hk_r3, hm, hS, lv_sub hl [0, 2, 3, 4, 5, 6] rfl⟩ (by show 2147483648 - (j2 + 1) < 2147483648 - j2; omega)
        · subst hv1
          refine W.eq (g2 := F0 m 49 ls [.ref x20, .ref x16]) rfl ?_
          refine W.widen (k := 0 + j2 * 2) (n := 0 + j2 * 68) (Nat.le_refl _) (Nat.le_refl _) ?_
          have hm : mm D (AZ z) M9 H := hm
          refine lv_aload hx hb dX1_build_49 (lv_at hl 0 rfl) ?_
          refine lv_aload hx hb dX1_build_51 (lv_at hl 6 rfl) ?_
          refine m_kS (As := [.ref x16, .ref x20, .ref x13, .ref r3]) (rest := []) (rm := { frames := 3, cells := 2, slots := 68, locals := 66 }) ⟨hx, hb, hml, hown, hts⟩ (t_X1_addKept_RRRR l D k z _ _ x16 x20 x13 r3 hk_x16 hk_x20 hk_x13 hk_r3 hT) (cwS 4 hts gX1_build_X1_addKept rfl rfl rfl (by decide +kernel) ⟨Nat.le_of_ble_eq_true rfl, Nat.le_of_ble_eq_true rfl⟩) hz hcx hm hS rfl hl.1 rfl (Nat.le_of_ble_eq_true rfl) dX1_build_53 ⟨(show 0 + j2 * 2 + 2 ≤ 120 by omega), (show 0 + j2 * 68 + 68 ≤ 4080 by omega)⟩ (fun v M1 H locs hv hm hS => ?_)
          obtain ⟨κ6, hT9, hE9, hv1⟩ := hv
          have hk_h0 := hE9.k hT hk_h0
          have hk_r0 := hE9.k hT hk_r0
          have hk_r1 := hE9.k hT hk_r1
          have hk_r2 := hE9.k hT hk_r2
          have hk_r3 := hE9.k hT hk_r3
          have hk_x13 := hE9.k hT hk_x13
          have hE := hE.trans hT0 hT hE9
          have hT := hT9
          obtain ⟨Mc6, hMx⟩ : ∃ x : mM, x = M1 := ⟨M1, rfl⟩
          subst hMx
          subst hv1
          refine W.eq (g2 := F0 m 56 ls []) rfl ?_
          refine W.widen (k := 0 + j2 * 2 + 2) (n := 0 + j2 * 68 + 68) (Nat.le_refl _) (Nat.le_refl _) ?_
          have hm : mm D (AZ z) Mc6 H := hm
          refine lv_iinc (v := ((nI j2) + 1)) (lv' := [(5, .int ((nI j2) + 1)), (6, .ref x13), (0, .ref h0), (1, .ref r0), (2, .ref r1), (3, .ref r2), (4, .ref r3)]) hx hb dX1_build_56 hl (k := 1) rfl rfl (by decide) rfl (fun ls hl => ?_)
          refine lv_goto (tgt := 9) hx hb dX1_build_59 (by decide) ?_
          rw [nI_1] at hl
          refine W.widen (k := 0 + (j2 + 1) * 2) (n := 0 + (j2 + 1) * 68) (by omega) (by omega) ?_
          exact ih9 (j2 + 1, κ6, Mc6) _ _ _ ⟨(by omega), hT, hE, hk_h0, hk_r0, hk_r1, hk_r2, hk_r3, hm, hS, lv_sub hl [0, 2, 3, 4, 5, 6] rfl⟩ (by show 2147483648 - (j2 + 1) < 2147483648 - j2; omega)

set_option maxHeartbeats 4000000 in
set_option maxRecDepth 100000 in
theorem t_X0_put_I (l : Launch) (D : va_G) (k : Nat → ClassId) (z : Nat) (M : mM) (κ : Nat → Option KD) (h0 : Nat) (a0 : Int32) (hk_h0 : κ h0 = some .disk) (hT : TM k κ M) : mK l yX0_put wsX0_put ({ frames := 0, cells := 0, slots := 0, locals := 0 }) D k z [.ref h0, .int a0] M (fun v M' => ∃ κ', TM k κ' M' ∧ kx κ M κ' M' ∧ (v = some (.int 0) ∨ v = some (.int 1))) := by
  refine Met.ofW (cc := cX0_put) (maxL := 2) (ret := (some .boolean)) (by decide) rfl ?_
  intro p e s m args below meth c s₁ B hml hv
  obtain ⟨rfl, hz, hcx, hm⟩ := hv
  have hx := B.exec
  have hb := B.bytes
  have hr := B.returns
  have hts := atoms_spec (ws := wsX0_put) B.pre
  have hown : s.vm.findClass RX0 = some m.cls := findClass_of_methodNamed B.named
  have hlocks := B.notSynchronized
  have hK := hcx.1
  have hS : va_S (AZ z) s.heap s.heap [] := va_S.rf
  have hA : ∀ q, s.heap.size ≤ q → AZ z q := fun q h => Nat.le_trans hz h
  have hl := lv_entry ([.ref h0, .int a0]) (n := 2) (Nat.le_of_ble_eq_true rfl)
  rw [lg_entry_eq]
  generalize (lg_sl ([.ref h0, .int a0]) ++ List.replicate (2 - (lg_sl ([.ref h0, .int a0])).length) Slot.unset).toArray = ls at hl ⊢
  have hl : lv_has ls 2 [(0, .ref h0), (1, .int a0)] := hl
  have f9 := hts (.fieldLink RX0 9 "CommitTree$Disk" "written" "I") (by decide +kernel)
  have f15 := hts (.fieldLink RX0 15 "CommitTree$Disk" "left" "I") (by decide +kernel)
  have wX0 : ∀ w ∈ wsX00, w ∈ wsX0_put := by decide +kernel
  have hT0 := hT
  have hE : kx κ M κ M := kx.refl _ _
  refine lv_aload_n hx hb dX0_put_0 rfl (lv_at hl 0 rfl) ?_
  obtain ⟨v0_1, v1_1, hM_h0_1⟩ := hT.disk hk_h0
  refine m_get (T := TX0) (N := 2) (ci := 0) (v := .int v1_1) hx hb hts wX0 hown hK hm hM_h0_1 rfl 1 (by decide) f15 (fun _ h9 => h9) rfl dX0_put_1 ?_
  refine lv_iconst (v := (-1)) hx hb dX0_put_4 (by decide) ?_
  refine lv_icmp_ne (tgt := 20) hx hb dX0_put_5 (by decide) (fun c2 => ?_) (fun c2 => ?_)
  · refine lv_aload_n hx hb dX0_put_20 rfl (lv_at hl 0 rfl) ?_
    refine m_get (T := TX0) (N := 2) (ci := 0) (v := .int v1_1) hx hb hts wX0 hown hK hm hM_h0_1 rfl 1 (by decide) f15 (fun _ h9 => h9) rfl dX0_put_21 ?_
    refine lv_iload_n hx hb dX0_put_24 rfl (lv_at hl 1 rfl) ?_
    refine lv_icmp_lt (tgt := 50) hx hb dX0_put_25 (by decide) (fun c3 => ?_) (fun c3 => ?_)
    · refine lv_aload_n hx hb dX0_put_50 rfl (lv_at hl 0 rfl) ?_
      refine lv_dup hx hb dX0_put_51 rfl ?_
      refine m_get (T := TX0) (N := 2) (ci := 0) (v := .int v0_1) hx hb hts wX0 hown hK hm hM_h0_1 rfl 0 (by decide) f9 (fun _ h9 => h9) rfl dX0_put_52 ?_
      refine lv_aload_n hx hb dX0_put_55 rfl (lv_at hl 0 rfl) ?_
      refine m_get (T := TX0) (N := 2) (ci := 0) (v := .int v1_1) hx hb hts wX0 hown hK hm hM_h0_1 rfl 1 (by decide) f15 (fun _ h9 => h9) rfl dX0_put_56 ?_
      refine lv_iadd hx hb dX0_put_59 ?_
      refine m_put (T := TX0) (N := 2) (ci := 0) (v := .int (v0_1 + v1_1)) (ty := .int) hx hb hts wX0 tyX0 tyX0_ok nmX0 hown hK hm hS hM_h0_1 rfl 0 (by decide) f9 (fun _ h9 => h9) rfl (by decide +kernel) rfl rfl (Nat.le_of_ble_eq_true rfl) dX0_put_60 (fun H locs hm hS => ?_)
      have hm : mm D (AZ z) (mu M h0 (.inr (0, [.int (v0_1 + v1_1), .int v1_1]))) H := hm
      have hT : TM k κ (mu M h0 (.inr (0, [.int (v0_1 + v1_1), .int v1_1]))) := hT.put hk_h0 (show wf k κ .disk (.inr (0, [.int (v0_1 + v1_1), .int v1_1])) from ⟨(v0_1 + v1_1), v1_1, rfl⟩)
      have hE : kx κ M κ (mu M h0 (.inr (0, [.int (v0_1 + v1_1), .int v1_1]))) := hE.put hk_h0
      generalize (mu M h0 (.inr (0, [.int (v0_1 + v1_1), .int v1_1]))) = Mc1 at hm hT hE
      refine lv_aload_n hx hb dX0_put_63 rfl (lv_at hl 0 rfl) ?_
      refine lv_iconst (v := (-1)) hx hb dX0_put_64 (by decide) ?_
      obtain ⟨v0_4, v1_4, hM_h0_4⟩ := hT.disk hk_h0
      refine m_put (T := TX0) (N := 2) (ci := 0) (v := .int (-1)) (ty := .int) hx hb hts wX0 tyX0 tyX0_ok nmX0 hown hK hm hS hM_h0_4 rfl 1 (by decide) f15 (fun _ h9 => h9) rfl (by decide +kernel) rfl rfl (Nat.le_of_ble_eq_true rfl) dX0_put_65 (fun H locs hm hS => ?_)
      have hm : mm D (AZ z) (mu Mc1 h0 (.inr (0, [.int v0_4, .int (-1)]))) H := hm
      have hT : TM k κ (mu Mc1 h0 (.inr (0, [.int v0_4, .int (-1)]))) := hT.put hk_h0 (show wf k κ .disk (.inr (0, [.int v0_4, .int (-1)])) from ⟨v0_4, (-1), rfl⟩)
      have hE : kx κ M κ (mu Mc1 h0 (.inr (0, [.int v0_4, .int (-1)]))) := hE.put hk_h0
      generalize (mu Mc1 h0 (.inr (0, [.int v0_4, .int (-1)]))) = Mc2 at hm hT hE
      refine lv_iconst (v := 0) hx hb dX0_put_68 (by decide) ?_
      refine W.zret hx hb hr rfl (fun t ht hW => ⟨⟨some (.int 0), _, rfl, ?_, by rw [ht]; exact hm⟩, hS.F ht⟩) hS.2.2 dX0_put_69
      exact ⟨_, hT, hE, Or.inl rfl⟩
    · refine lv_aload_n hx hb dX0_put_28 rfl (lv_at hl 0 rfl) ?_
      refine lv_dup hx hb dX0_put_29 rfl ?_
      refine m_get (T := TX0) (N := 2) (ci := 0) (v := .int v0_1) hx hb hts wX0 hown hK hm hM_h0_1 rfl 0 (by decide) f9 (fun _ h9 => h9) rfl dX0_put_30 ?_
      refine lv_iload_n hx hb dX0_put_33 rfl (lv_at hl 1 rfl) ?_
      refine lv_iadd hx hb dX0_put_34 ?_
      refine m_put (T := TX0) (N := 2) (ci := 0) (v := .int (v0_1 + a0)) (ty := .int) hx hb hts wX0 tyX0 tyX0_ok nmX0 hown hK hm hS hM_h0_1 rfl 0 (by decide) f9 (fun _ h9 => h9) rfl (by decide +kernel) rfl rfl (Nat.le_of_ble_eq_true rfl) dX0_put_35 (fun H locs hm hS => ?_)
      have hm : mm D (AZ z) (mu M h0 (.inr (0, [.int (v0_1 + a0), .int v1_1]))) H := hm
      have hT : TM k κ (mu M h0 (.inr (0, [.int (v0_1 + a0), .int v1_1]))) := hT.put hk_h0 (show wf k κ .disk (.inr (0, [.int (v0_1 + a0), .int v1_1])) from ⟨(v0_1 + a0), v1_1, rfl⟩)
      have hE : kx κ M κ (mu M h0 (.inr (0, [.int (v0_1 + a0), .int v1_1]))) := hE.put hk_h0
      generalize (mu M h0 (.inr (0, [.int (v0_1 + a0), .int v1_1]))) = Mc3 at hm hT hE
      refine lv_aload_n hx hb dX0_put_38 rfl (lv_at hl 0 rfl) ?_
      refine lv_dup hx hb dX0_put_39 rfl ?_
      obtain ⟨v0_5, v1_5, hM_h0_5⟩ := hT.disk hk_h0
      refine m_get (T := TX0) (N := 2) (ci := 0) (v := .int v1_5) hx hb hts wX0 hown hK hm hM_h0_5 rfl 1 (by decide) f15 (fun _ h9 => h9) rfl dX0_put_40 ?_
      refine lv_iload_n hx hb dX0_put_43 rfl (lv_at hl 1 rfl) ?_
      refine lv_isub hx hb dX0_put_44 ?_
      refine m_put (T := TX0) (N := 2) (ci := 0) (v := .int (v1_5 - a0)) (ty := .int) hx hb hts wX0 tyX0 tyX0_ok nmX0 hown hK hm hS hM_h0_5 rfl 1 (by decide) f15 (fun _ h9 => h9) rfl (by decide +kernel) rfl rfl (Nat.le_of_ble_eq_true rfl) dX0_put_45 (fun H locs hm hS => ?_)
      have hm : mm D (AZ z) (mu Mc3 h0 (.inr (0, [.int v0_5, .int (v1_5 - a0)]))) H := hm
      have hT : TM k κ (mu Mc3 h0 (.inr (0, [.int v0_5, .int (v1_5 - a0)]))) := hT.put hk_h0 (show wf k κ .disk (.inr (0, [.int v0_5, .int (v1_5 - a0)])) from ⟨v0_5, (v1_5 - a0), rfl⟩)
      have hE : kx κ M κ (mu Mc3 h0 (.inr (0, [.int v0_5, .int (v1_5 - a0)]))) := hE.put hk_h0
      generalize (mu Mc3 h0 (.inr (0, [.int v0_5, .int (v1_5 - a0)]))) = Mc4 at hm hT hE
      refine lv_iconst (v := 1) hx hb dX0_put_48 (by decide) ?_
      refine W.zret hx hb hr rfl (fun t ht hW => ⟨⟨some (.int 1), _, rfl, ?_, by rw [ht]; exact hm⟩, hS.F ht⟩) hS.2.2 dX0_put_49
      exact ⟨_, hT, hE, Or.inr rfl⟩
  · refine lv_aload_n hx hb dX0_put_8 rfl (lv_at hl 0 rfl) ?_
    refine lv_dup hx hb dX0_put_9 rfl ?_
    refine m_get (T := TX0) (N := 2) (ci := 0) (v := .int v0_1) hx hb hts wX0 hown hK hm hM_h0_1 rfl 0 (by decide) f9 (fun _ h9 => h9) rfl dX0_put_10 ?_
    refine lv_iload_n hx hb dX0_put_13 rfl (lv_at hl 1 rfl) ?_
    refine lv_iadd hx hb dX0_put_14 ?_
    refine m_put (T := TX0) (N := 2) (ci := 0) (v := .int (v0_1 + a0)) (ty := .int) hx hb hts wX0 tyX0 tyX0_ok nmX0 hown hK hm hS hM_h0_1 rfl 0 (by decide) f9 (fun _ h9 => h9) rfl (by decide +kernel) rfl rfl (Nat.le_of_ble_eq_true rfl) dX0_put_15 (fun H locs hm hS => ?_)
    have hm : mm D (AZ z) (mu M h0 (.inr (0, [.int (v0_1 + a0), .int v1_1]))) H := hm
    have hT : TM k κ (mu M h0 (.inr (0, [.int (v0_1 + a0), .int v1_1]))) := hT.put hk_h0 (show wf k κ .disk (.inr (0, [.int (v0_1 + a0), .int v1_1])) from ⟨(v0_1 + a0), v1_1, rfl⟩)
    have hE : kx κ M κ (mu M h0 (.inr (0, [.int (v0_1 + a0), .int v1_1]))) := hE.put hk_h0
    generalize (mu M h0 (.inr (0, [.int (v0_1 + a0), .int v1_1]))) = Mc5 at hm hT hE
    refine lv_iconst (v := 1) hx hb dX0_put_18 (by decide) ?_
    refine W.zret hx hb hr rfl (fun t ht hW => ⟨⟨some (.int 1), _, rfl, ?_, by rw [ht]; exact hm⟩, hS.F ht⟩) hS.2.2 dX0_put_19
    exact ⟨_, hT, hE, Or.inr rfl⟩

set_option maxHeartbeats 4000000 in
set_option maxRecDepth 100000 in
theorem t_X5_goDown (l : Launch) (D : va_G) (k : Nat → ClassId) (z : Nat) (M : mM) (κ : Nat → Option KD) (h0 : Nat) (hk_h0 : κ h0 = some .top) (hT : TM k κ M) : mK l yX5_goDown wsX5_goDown ({ frames := 0, cells := 0, slots := 0, locals := 0 }) D k z [.ref h0] M (fun v M' => ∃ κ', TM k κ' M' ∧ kx κ M κ' M' ∧ v = none) := by
  refine Met.ofW (cc := cX5_goDown) (maxL := 3) (ret := none) (by decide) rfl ?_
  intro p e s m args below meth c s₁ B hml hv
  obtain ⟨rfl, hz, hcx, hm⟩ := hv
  have hx := B.exec
  have hb := B.bytes
  have hr := B.returns
  have hts := atoms_spec (ws := wsX5_goDown) B.pre
  have hown : s.vm.findClass RX5 = some m.cls := findClass_of_methodNamed B.named
  have hlocks := B.notSynchronized
  have hK := hcx.1
  have hS : va_S (AZ z) s.heap s.heap [] := va_S.rf
  have hA : ∀ q, s.heap.size ≤ q → AZ z q := fun q h => Nat.le_trans hz h
  have hl := lv_entry ([.ref h0]) (n := 3) (Nat.le_of_ble_eq_true rfl)
  rw [lg_entry_eq]
  generalize (lg_sl ([.ref h0]) ++ List.replicate (3 - (lg_sl ([.ref h0])).length) Slot.unset).toArray = ls at hl ⊢
  have hl : lv_has ls 3 [(0, .ref h0)] := hl
  have f45 := hts (.fieldLink RX5 45 "CommitTree" "transactions" "[LCommitTree$Transaction;") (by decide +kernel)
  have f66 := hts (.fieldLink RX5 66 "CommitTree" "down" "Z") (by decide +kernel)
  have f80 := hts (.fieldLink RX5 80 "CommitTree$Transaction" "open" "Z") (by decide +kernel)
  have wX3 : ∀ w ∈ wsX30, w ∈ wsX5_goDown := by decide +kernel
  have wX5 : ∀ w ∈ wsX50, w ∈ wsX5_goDown := by decide +kernel
  have hT0 := hT
  have hE : kx κ M κ M := kx.refl _ _
  refine lv_aload_n hx hb dX5_goDown_0 rfl (lv_at hl 0 rfl) ?_
  refine lv_iconst (v := 1) hx hb dX5_goDown_1 (by decide) ?_
  obtain ⟨v0_1, v1_1, v2_1, v3_1, v4_1, v5_1, v6_1, v7_1, v8_1, v9_1, v10_1, hM_h0_1, hk_v0_1, hk_v1_1, hk_v2_1, hk_v3_1, hk_v4_1, hk_v5_1, hz_v9_1, hz_v10_1⟩ := hT.top hk_h0
  refine m_put (T := TX5) (N := 11) (ci := 5) (v := .int 1) (ty := .boolean) hx hb hts wX5 tyX5 tyX5_ok nmX5 hown hK hm hS hM_h0_1 rfl 9 (by decide) f66 (fun _ h9 => h9) rfl (by decide +kernel) rfl rfl (Nat.le_of_ble_eq_true rfl) dX5_goDown_2 (fun H locs hm hS => ?_)
  have hm : mm D (AZ z) (mu M h0 (.inr (5, [.ref v0_1, .ref v1_1, .ref v2_1, .ref v3_1, .ref v4_1, .ref v5_1, .int v6_1, .int v7_1, .int v8_1, .int 1, .int v10_1]))) H := hm
  have hT : TM k κ (mu M h0 (.inr (5, [.ref v0_1, .ref v1_1, .ref v2_1, .ref v3_1, .ref v4_1, .ref v5_1, .int v6_1, .int v7_1, .int v8_1, .int 1, .int v10_1]))) := hT.put hk_h0 (show wf k κ .top (.inr (5, [.ref v0_1, .ref v1_1, .ref v2_1, .ref v3_1, .ref v4_1, .ref v5_1, .int v6_1, .int v7_1, .int v8_1, .int 1, .int v10_1])) from ⟨v0_1, v1_1, v2_1, v3_1, v4_1, v5_1, v6_1, v7_1, v8_1, 1, v10_1, rfl, hk_v0_1, hk_v1_1, hk_v2_1, hk_v3_1, hk_v4_1, hk_v5_1, (Or.inr rfl), hz_v10_1⟩)
  have hE : kx κ M κ (mu M h0 (.inr (5, [.ref v0_1, .ref v1_1, .ref v2_1, .ref v3_1, .ref v4_1, .ref v5_1, .int v6_1, .int v7_1, .int v8_1, .int 1, .int v10_1]))) := hE.put hk_h0
  generalize (mu M h0 (.inr (5, [.ref v0_1, .ref v1_1, .ref v2_1, .ref v3_1, .ref v4_1, .ref v5_1, .int v6_1, .int v7_1, .int v8_1, .int 1, .int v10_1]))) = Mc1 at hm hT hE
  refine lv_iconst (v := 0) hx hb dX5_goDown_5 (by decide) ?_
  refine lv_istore_n (lv' := [(1, .int 0), (0, .ref h0)]) hx hb dX5_goDown_6 rfl hl (by decide) rfl (fun ls hl => ?_)
  refine W_loop (σ := Nat × (Nat → Option KD) × mM) (fun ⟨j2, K7, M7⟩ H locs ls => (j2 < 2147483648) ∧ (TM k K7 M7) ∧ (kx κ M K7 M7) ∧ (K7 h0 = some .top) ∧ mm D (AZ z) M7 H ∧ va_S (AZ z) s.heap H locs ∧ lv_has ls 3 [(1, .int (nI j2)), (0, .ref h0)]) (fun ⟨j2, K7, M7⟩ => 2147483648 - j2) (fun ⟨j2, K7, M7⟩ => 0) (fun ⟨j2, K7, M7⟩ => 0) ?_ (0, κ, Mc1) _ _ _ ⟨(by decide), hT, hE, hk_h0, hm, hS, lv_sub hl [0, 1] rfl⟩
  intro ⟨j2, K7, M7⟩ H locs ls hQ ih7
  obtain ⟨hbj2, hT, hE, hk_h0, hm, hS, hl⟩ := hQ
  try dsimp only at hm hl ih7 hbj2 hT hE hk_h0 ⊢
  refine lv_iload_n hx hb dX5_goDown_7 rfl (lv_at hl 0 rfl) ?_
  refine lv_aload_n hx hb dX5_goDown_8 rfl (lv_at hl 1 rfl) ?_
  obtain ⟨v0_3, v1_3, v2_3, v3_3, v4_3, v5_3, v6_3, v7_3, v8_3, v9_3, v10_3, hM_h0_3, hk_v0_3, hk_v1_3, hk_v2_3, hk_v3_3, hk_v4_3, hk_v5_3, hz_v9_3, hz_v10_3⟩ := hT.top hk_h0
  refine m_get (T := TX5) (N := 11) (ci := 5) (v := .ref v4_3) hx hb hts wX5 hown hK hm hM_h0_3 rfl 4 (by decide) f45 (fun _ h9 => h9) rfl dX5_goDown_9 ?_
  obtain ⟨g_4, hM_v4_3_4, hg_4⟩ := hT.txns hk_v4_3
  refine m_alen hx hb hK hm 4 hM_v4_3_4 rfl (v := nI 6) rfl dX5_goDown_12 ?_
  refine lv_icmp_ge (tgt := 38) hx hb dX5_goDown_13 (by decide) (fun c5 => ?_) (fun c5 => ?_)
  · refine W.vret hx hb hr (fun t ht hW => ⟨⟨none, _, rfl, ?_, by rw [ht]; exact hm⟩, hS.F ht⟩) hS.2.2 dX5_goDown_38
    exact ⟨_, hT, hE, rfl⟩
  · refine lv_aload_n hx hb dX5_goDown_16 rfl (lv_at hl 1 rfl) ?_
    refine m_get (T := TX5) (N := 11) (ci := 5) (v := .ref v4_3) hx hb hts wX5 hown hK hm hM_h0_3 rfl 4 (by decide) f45 (fun _ h9 => h9) rfl dX5_goDown_17 ?_
    refine lv_iload_n hx hb dX5_goDown_20 rfl (lv_at hl 0 rfl) ?_
    refine m_aald hx hb hK hm 4 hM_v4_3_4 rfl (in_of (i := (nI j2)) (n := 6) (by first | assumption | exact nI_pos (by omega)) (by assumption) (by first | decide | omega)) dX5_goDown_21 ?_
    obtain ⟨o6, ho6⟩ : ∃ o9, g_4 ((nI j2)).toNatClampNeg = o9 := ⟨_, rfl⟩
    refine W.eq (g2 := F0 m 22 ls [va_rf o6]) (by rw [ho6]) ?_
    rcases o6 with _ | x7
    · refine W.eq (g2 := F0 m 22 ls [.null]) rfl ?_
      refine lv_astore_nN (lv' := [(2, .null), (1, .int (nI j2)), (0, .ref h0)]) hx hb dX5_goDown_22 rfl hl (by decide) rfl (fun ls hl => ?_)
      refine lv_aload_nN hx hb dX5_goDown_23 rfl (lv_at hl 0 rfl) ?_
      refine lv_ifnullN (tgt := 32) hx hb dX5_goDown_24 (by decide) ?_
      refine lv_iinc (v := ((nI j2) + 1)) (lv' := [(1, .int ((nI j2) + 1)), (2, .null), (0, .ref h0)]) hx hb dX5_goDown_32 hl (k := 1) rfl rfl (by decide) rfl (fun ls hl => ?_)
      refine lv_goto (tgt := 7) hx hb dX5_goDown_35 (by decide) ?_
      rw [nI_1] at hl
      exact ih7 (j2 + 1, K7, M7) _ _ _ ⟨(by first | exact nI_up hbj2 c5 | exact nI_up2 (by decide) hbj2 c5), hT, hE, hk_h0, hm, hS, lv_sub hl [0, 2] rfl⟩ (by show 2147483648 - (j2 + 1) < 2147483648 - j2; omega)
    · have hk_x7 := hg_4 _ _ ho6
      refine W.eq (g2 := F0 m 22 ls [.ref x7]) rfl ?_
      refine lv_astore_n (lv' := [(2, .ref x7), (1, .int (nI j2)), (0, .ref h0)]) hx hb dX5_goDown_22 rfl hl (by decide) rfl (fun ls hl => ?_)
      refine lv_aload_n hx hb dX5_goDown_23 rfl (lv_at hl 0 rfl) ?_
      refine lv_ifnull hx hb dX5_goDown_24 ?_
      refine lv_aload_n hx hb dX5_goDown_27 rfl (lv_at hl 0 rfl) ?_
      refine lv_iconst (v := 0) hx hb dX5_goDown_28 (by decide) ?_
      obtain ⟨v0_8, v1_8, v2_8, v3_8, v4_8, v5_8, v6_8, hM_x7_8, hk_v0_8, hk_v1_8, hk_v2_8, hk_v3_8, hk_v4_8, hz_v5_8⟩ := hT.txn hk_x7
      refine m_put (T := TX3) (N := 7) (ci := 3) (v := .int 0) (ty := .boolean) hx hb hts wX3 tyX3 tyX3_ok nmX3 hown hK hm hS hM_x7_8 rfl 5 (by decide) f80 (fun _ h9 => h9) rfl (by decide +kernel) rfl rfl (Nat.le_of_ble_eq_true rfl) dX5_goDown_29 (fun H locs hm hS => ?_)
      have hm : mm D (AZ z) (mu M7 x7 (.inr (3, [.ref v0_8, .ref v1_8, .ref v2_8, .ref v3_8, .ref v4_8, .int 0, .int v6_8]))) H := hm
      have hR_9 : (mu M7 x7 (.inr (3, [.ref v0_8, .ref v1_8, .ref v2_8, .ref v3_8, .ref v4_8, .int 0, .int v6_8]))) h0 = _ := (mu_ne (kd_ne hk_h0 hk_x7 (by decide))).trans hM_h0_3
      have hR_10 : (mu M7 x7 (.inr (3, [.ref v0_8, .ref v1_8, .ref v2_8, .ref v3_8, .ref v4_8, .int 0, .int v6_8]))) v4_3 = _ := (mu_ne (kd_ne hk_v4_3 hk_x7 (by decide))).trans hM_v4_3_4
      have hT : TM k K7 (mu M7 x7 (.inr (3, [.ref v0_8, .ref v1_8, .ref v2_8, .ref v3_8, .ref v4_8, .int 0, .int v6_8]))) := hT.put hk_x7 (show wf k K7 .txn (.inr (3, [.ref v0_8, .ref v1_8, .ref v2_8, .ref v3_8, .ref v4_8, .int 0, .int v6_8])) from ⟨v0_8, v1_8, v2_8, v3_8, v4_8, 0, v6_8, rfl, hk_v0_8, hk_v1_8, hk_v2_8, hk_v3_8, hk_v4_8, (Or.inl rfl)⟩)
      have hE : kx κ M K7 (mu M7 x7 (.inr (3, [.ref v0_8, .ref v1_8, .ref v2_8, .ref v3_8, .ref v4_8, .int 0, .int v6_8]))) := hE.put hk_x7
      generalize (mu M7 x7 (.inr (3, [.ref v0_8, .ref v1_8, .ref v2_8, .ref v3_8, .ref v4_8, .int 0, .int v6_8]))) = Mc2 at hm hT hE hR_9 hR_10
      refine lv_iinc (v := ((nI j2) + 1)) (lv' := [(1, .int ((nI j2) + 1)), (2, .ref x7), (0, .ref h0)]) hx hb dX5_goDown_32 hl (k := 1) rfl rfl (by decide) rfl (fun ls hl => ?_)
      refine lv_goto (tgt := 7) hx hb dX5_goDown_35 (by decide) ?_
      rw [nI_1] at hl
      exact ih7 (j2 + 1, K7, Mc2) _ _ _ ⟨(by first | exact nI_up hbj2 c5 | exact nI_up2 (by decide) hbj2 c5), hT, hE, hk_h0, hm, hS, lv_sub hl [0, 2] rfl⟩ (by show 2147483648 - (j2 + 1) < 2147483648 - j2; omega)

set_option maxHeartbeats 4000000 in
set_option maxRecDepth 100000 in
theorem t_X5_broughtHome (l : Launch) (D : va_G) (k : Nat → ClassId) (z : Nat) (M : mM) (κ : Nat → Option KD) (h0 : Nat) (hk_h0 : κ h0 = some .top) (hT : TM k κ M) : mK l yX5_broughtHome wsX5_broughtHome ({ frames := 2, cells := 0, slots := 0, locals := 44 }) D k z [.ref h0] M (fun v M' => ∃ κ', TM k κ' M' ∧ kx κ M κ' M' ∧ (v = some (.int 0) ∨ v = some (.int 1))) := by
  refine Met.ofW (cc := cX5_broughtHome) (maxL := 1) (ret := (some .boolean)) (by decide) rfl ?_
  intro p e s m args below meth c s₁ B hml hv
  obtain ⟨rfl, hz, hcx, hm⟩ := hv
  have hx := B.exec
  have hb := B.bytes
  have hr := B.returns
  have hts := atoms_spec (ws := wsX5_broughtHome) B.pre
  have hown : s.vm.findClass RX5 = some m.cls := findClass_of_methodNamed B.named
  have hlocks := B.notSynchronized
  have hK := hcx.1
  have hS : va_S (AZ z) s.heap s.heap [] := va_S.rf
  have hA : ∀ q, s.heap.size ≤ q → AZ z q := fun q h => Nat.le_trans hz h
  have hl := lv_entry ([.ref h0]) (n := 1) (Nat.le_of_ble_eq_true rfl)
  rw [lg_entry_eq]
  generalize (lg_sl ([.ref h0]) ++ List.replicate (1 - (lg_sl ([.ref h0])).length) Slot.unset).toArray = ls at hl ⊢
  have hl : lv_has ls 1 [(0, .ref h0)] := hl
  have f10 := hts (.fieldLink RX5 10 "CommitTree" "tree" "LCommitTree$Tree;") (by decide +kernel)
  have f26 := hts (.fieldLink RX5 26 "CommitTree" "next" "LCommitTree$Tree;") (by decide +kernel)
  have f39 := hts (.fieldLink RX5 39 "CommitTree" "disk" "LCommitTree$Disk;") (by decide +kernel)
  have f63 := hts (.fieldLink RX5 63 "CommitTree" "homeBlocks" "I") (by decide +kernel)
  have f70 := hts (.fieldLink RX5 70 "CommitTree" "recordCounts" "Z") (by decide +kernel)
  have wX5 : ∀ w ∈ wsX50, w ∈ wsX5_broughtHome := by decide +kernel
  have hT0 := hT
  have hE : kx κ M κ M := kx.refl _ _
  refine lv_aload_n hx hb dX5_broughtHome_0 rfl (lv_at hl 0 rfl) ?_
  obtain ⟨v0_1, v1_1, v2_1, v3_1, v4_1, v5_1, v6_1, v7_1, v8_1, v9_1, v10_1, hM_h0_1, hk_v0_1, hk_v1_1, hk_v2_1, hk_v3_1, hk_v4_1, hk_v5_1, hz_v9_1, hz_v10_1⟩ := hT.top hk_h0
  refine m_get (T := TX5) (N := 11) (ci := 5) (v := .ref v3_1) hx hb hts wX5 hown hK hm hM_h0_1 rfl 3 (by decide) f39 (fun _ h9 => h9) rfl dX5_broughtHome_1 ?_
  refine lv_aload_n hx hb dX5_broughtHome_4 rfl (lv_at hl 0 rfl) ?_
  refine m_get (T := TX5) (N := 11) (ci := 5) (v := .int v8_1) hx hb hts wX5 hown hK hm hM_h0_1 rfl 8 (by decide) f63 (fun _ h9 => h9) rfl dX5_broughtHome_5 ?_
  refine lv_iconst (v := 1) hx hb dX5_broughtHome_8 (by decide) ?_
  refine lv_iadd hx hb dX5_broughtHome_9 ?_
  obtain ⟨v0_2, v1_2, hM_v3_1_2⟩ := hT.disk hk_v3_1
  refine m_kV (As := [.int (v8_1 + 1)]) (rest := []) (rm := { frames := 0, cells := 0, slots := 0, locals := 0 }) ⟨hx, hb, hml, hown, hts⟩ (t_X0_put_I l D k z _ _ v3_1 (v8_1 + 1) hk_v3_1 hT) (cwV 1 hts gX5_broughtHome_X0_put rfl rfl rfl (by decide +kernel) ⟨Nat.le_of_ble_eq_true rfl, Nat.le_of_ble_eq_true rfl⟩) (m_recv hK hm (q := (RX0, TX0, 2)) rfl hM_v3_1_2) hz hcx hm hS rfl hl.1 rfl (Nat.le_of_ble_eq_true rfl) dX5_broughtHome_10 ⟨Nat.le_of_ble_eq_true rfl, Nat.le_of_ble_eq_true rfl⟩ (fun v M1 H locs hv hm hS => ?_)
  obtain ⟨κ1, hT9, hE9, hv1⟩ := hv
  have hk_h0 := hE9.k hT hk_h0
  have hk_v3_1 := hE9.k hT hk_v3_1
  have hE := hE.trans hT0 hT hE9
  have hT := hT9
  obtain ⟨Mc1, hMx⟩ : ∃ x : mM, x = M1 := ⟨M1, rfl⟩
  subst hMx
  rcases hv1 with hv1 | hv1
  · subst hv1
    refine W.eq (g2 := F0 m 13 ls [.int 0]) rfl ?_
    refine W.widen (k := 0) (n := 0) (Nat.le_of_ble_eq_true rfl) (Nat.le_of_ble_eq_true rfl) ?_
    have hm : mm D (AZ z) Mc1 H := hm
    refine lv_if_ne (tgt := 18) hx hb dX5_broughtHome_13 (by decide) (fun c3 => ?_) (fun c3 => ?_)
    · first | exact absurd c3 (by decide) | exact absurd (by decide) c3
    · refine lv_iconst (v := 0) hx hb dX5_broughtHome_16 (by decide) ?_
      refine W.zret hx hb hr rfl (fun t ht hW => ⟨⟨some (.int 0), _, rfl, ?_, by rw [ht]; exact hm⟩, hS.F ht⟩) hS.2.2 dX5_broughtHome_17
      exact ⟨_, hT, hE, Or.inl rfl⟩
  · subst hv1
    refine W.eq (g2 := F0 m 13 ls [.int 1]) rfl ?_
    refine W.widen (k := 0) (n := 0) (Nat.le_of_ble_eq_true rfl) (Nat.le_of_ble_eq_true rfl) ?_
    have hm : mm D (AZ z) Mc1 H := hm
    refine lv_if_ne (tgt := 18) hx hb dX5_broughtHome_13 (by decide) (fun c4 => ?_) (fun c4 => ?_)
    · refine lv_aload_n hx hb dX5_broughtHome_18 rfl (lv_at hl 0 rfl) ?_
      obtain ⟨v0_5, v1_5, v2_5, v3_5, v4_5, v5_5, v6_5, v7_5, v8_5, v9_5, v10_5, hM_h0_5, hk_v0_5, hk_v1_5, hk_v2_5, hk_v3_5, hk_v4_5, hk_v5_5, hz_v9_5, hz_v10_5⟩ := hT.top hk_h0
      refine m_get (T := TX5) (N := 11) (ci := 5) (v := .ref v0_5) hx hb hts wX5 hown hK hm hM_h0_5 rfl 0 (by decide) f10 (fun _ h9 => h9) rfl dX5_broughtHome_19 ?_
      refine lv_aload_n hx hb dX5_broughtHome_22 rfl (lv_at hl 0 rfl) ?_
      refine m_get (T := TX5) (N := 11) (ci := 5) (v := .ref v1_5) hx hb hts wX5 hown hK hm hM_h0_5 rfl 1 (by decide) f26 (fun _ h9 => h9) rfl dX5_broughtHome_23 ?_
      obtain ⟨v0_6, v1_6, hM_v0_5_6, hk_v0_6, hn_v1_6⟩ := hT.tree hk_v0_5
      refine m_kV (As := [.ref v1_5]) (rest := []) (rm := { frames := 1, cells := 0, slots := 0, locals := 21 }) ⟨hx, hb, hml, hown, hts⟩ (t_X4_copyFrom_R l D k z _ _ v0_5 v1_5 hk_v0_5 hk_v1_5 hT) (cwV 1 hts gX5_broughtHome_X4_copyFrom rfl rfl rfl (by decide +kernel) ⟨Nat.le_of_ble_eq_true rfl, Nat.le_of_ble_eq_true rfl⟩) (m_recv hK hm (q := (RX4, TX4, 2)) rfl hM_v0_5_6) hz hcx hm hS rfl hl.1 rfl (Nat.le_of_ble_eq_true rfl) dX5_broughtHome_26 ⟨Nat.le_of_ble_eq_true rfl, Nat.le_of_ble_eq_true rfl⟩ (fun v M1 H locs hv hm hS => ?_)
      obtain ⟨κ2, hT9, hE9, hv1⟩ := hv
      have hk_h0 := hE9.k hT hk_h0
      have hk_v0_5 := hE9.k hT hk_v0_5
      have hE := hE.trans hT0 hT hE9
      have hT := hT9
      obtain ⟨Mc2, hMx⟩ : ∃ x : mM, x = M1 := ⟨M1, rfl⟩
      subst hMx
      subst hv1
      refine W.eq (g2 := F0 m 29 ls []) rfl ?_
      refine W.widen (k := 0) (n := 0) (Nat.le_of_ble_eq_true rfl) (Nat.le_of_ble_eq_true rfl) ?_
      have hm : mm D (AZ z) Mc2 H := hm
      refine lv_aload_n hx hb dX5_broughtHome_29 rfl (lv_at hl 0 rfl) ?_
      refine lv_iconst (v := 0) hx hb dX5_broughtHome_30 (by decide) ?_
      obtain ⟨v0_7, v1_7, v2_7, v3_7, v4_7, v5_7, v6_7, v7_7, v8_7, v9_7, v10_7, hM_h0_7, hk_v0_7, hk_v1_7, hk_v2_7, hk_v3_7, hk_v4_7, hk_v5_7, hz_v9_7, hz_v10_7⟩ := hT.top hk_h0
      refine m_put (T := TX5) (N := 11) (ci := 5) (v := .int 0) (ty := .boolean) hx hb hts wX5 tyX5 tyX5_ok nmX5 hown hK hm hS hM_h0_7 rfl 10 (by decide) f70 (fun _ h9 => h9) rfl (by decide +kernel) rfl rfl (Nat.le_of_ble_eq_true rfl) dX5_broughtHome_31 (fun H locs hm hS => ?_)
      have hm : mm D (AZ z) (mu Mc2 h0 (.inr (5, [.ref v0_7, .ref v1_7, .ref v2_7, .ref v3_7, .ref v4_7, .ref v5_7, .int v6_7, .int v7_7, .int v8_7, .int v9_7, .int 0]))) H := hm
      have hT : TM k κ2 (mu Mc2 h0 (.inr (5, [.ref v0_7, .ref v1_7, .ref v2_7, .ref v3_7, .ref v4_7, .ref v5_7, .int v6_7, .int v7_7, .int v8_7, .int v9_7, .int 0]))) := hT.put hk_h0 (show wf k κ2 .top (.inr (5, [.ref v0_7, .ref v1_7, .ref v2_7, .ref v3_7, .ref v4_7, .ref v5_7, .int v6_7, .int v7_7, .int v8_7, .int v9_7, .int 0])) from ⟨v0_7, v1_7, v2_7, v3_7, v4_7, v5_7, v6_7, v7_7, v8_7, v9_7, 0, rfl, hk_v0_7, hk_v1_7, hk_v2_7, hk_v3_7, hk_v4_7, hk_v5_7, hz_v9_7, (Or.inl rfl)⟩)
      have hE : kx κ M κ2 (mu Mc2 h0 (.inr (5, [.ref v0_7, .ref v1_7, .ref v2_7, .ref v3_7, .ref v4_7, .ref v5_7, .int v6_7, .int v7_7, .int v8_7, .int v9_7, .int 0]))) := hE.put hk_h0
      generalize (mu Mc2 h0 (.inr (5, [.ref v0_7, .ref v1_7, .ref v2_7, .ref v3_7, .ref v4_7, .ref v5_7, .int v6_7, .int v7_7, .int v8_7, .int v9_7, .int 0]))) = Mc3 at hm hT hE
      refine lv_iconst (v := 1) hx hb dX5_broughtHome_34 (by decide) ?_
      refine W.zret hx hb hr rfl (fun t ht hW => ⟨⟨some (.int 1), _, rfl, ?_, by rw [ht]; exact hm⟩, hS.F ht⟩) hS.2.2 dX5_broughtHome_35
      exact ⟨_, hT, hE, Or.inr rfl⟩
    · first | exact absurd c4 (by decide) | exact absurd (by decide) c4

