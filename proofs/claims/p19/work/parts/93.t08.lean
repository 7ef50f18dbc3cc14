set_option maxHeartbeats 4000000 in
set_option maxRecDepth 100000 in
theorem t_X1_addKept_NRRR (l : Launch) (D : va_G) (k : Nat → ClassId) (z : Nat) (M : mM) (κ : Nat → Option KD) (r1 : Nat) (r2 : Nat) (r3 : Nat) (hk_r1 : κ r1 = some .node) (hk_r2 : κ r2 = some .node) (hk_r3 : κ r3 = some .tree) (hT : TM k κ M) : mK l yX1_addKept wsX1_addKept ({ frames := 1, cells := 0, slots := 0, locals := 21 }) D k z [.null, .ref r1, .ref r2, .ref r3] M (fun v M' => ∃ κ', TM k κ' M' ∧ kx κ M κ' M' ∧ v = none) := by
  refine Met.ofW (cc := cX1_addKept) (maxL := 4) (ret := none) (by decide) rfl ?_
  intro p e s m args below meth c s₁ B hml hv
  obtain ⟨rfl, hz, hcx, hm⟩ := hv
  have hx := B.exec
  have hb := B.bytes
  have hr := B.returns
  have hts := atoms_spec (ws := wsX1_addKept) B.pre
  have hown : s.vm.findClass RX1 = some m.cls := findClass_of_methodNamed B.named
  have hlocks := B.notSynchronized
  have hK := hcx.1
  have hS : va_S (AZ z) s.heap s.heap [] := va_S.rf
  have hA : ∀ q, s.heap.size ≤ q → AZ z q := fun q h => Nat.le_trans hz h
  have hl := lv_entry ([.null, .ref r1, .ref r2, .ref r3]) (n := 4) (Nat.le_of_ble_eq_true rfl)
  rw [lg_entry_eq]
  generalize (lg_sl ([.null, .ref r1, .ref r2, .ref r3]) ++ List.replicate (4 - (lg_sl ([.null, .ref r1, .ref r2, .ref r3])).length) Slot.unset).toArray = ls at hl ⊢
  have hl : lv_has ls 4 [(0, .null), (1, .ref r1), (2, .ref r2), (3, .ref r3)] := hl
  have hT0 := hT
  have hE : kx κ M κ M := kx.refl _ _
  refine lv_aload_nN hx hb dX1_addKept_0 rfl (lv_at hl 0 rfl) ?_
  refine lv_ifnonnullN hx hb dX1_addKept_1 ?_
  refine lv_aload_n hx hb dX1_addKept_4 rfl (lv_at hl 3 rfl) ?_
  refine lv_aload_n hx hb dX1_addKept_5 rfl (lv_at hl 2 rfl) ?_
  obtain ⟨v0_1, v1_1, hM_r3_1, hk_v0_1, hn_v1_1⟩ := hT.tree hk_r3
  refine m_kV (As := [.ref r2]) (rest := []) (rm := { frames := 0, cells := 0, slots := 0, locals := 0 }) ⟨hx, hb, hml, hown, hts⟩ (t_X4_add_R l D k z _ _ r3 r2 hk_r3 hk_r2 hT) (cwV 1 hts gX1_addKept_X4_add rfl rfl rfl (by decide +kernel) ⟨Nat.le_of_ble_eq_true rfl, Nat.le_of_ble_eq_true rfl⟩) (m_recv hK hm (q := (RX4, TX4, 2)) rfl hM_r3_1) hz hcx hm hS rfl hl.1 rfl (Nat.le_of_ble_eq_true rfl) dX1_addKept_6 ⟨Nat.le_of_ble_eq_true rfl, Nat.le_of_ble_eq_true rfl⟩ (fun v M1 H locs hv hm hS => ?_)
  obtain ⟨κ1, hT9, hE9, hv1⟩ := hv
  have hk_r1 := hE9.k hT hk_r1
  have hk_r2 := hE9.k hT hk_r2
  have hk_r3 := hE9.k hT hk_r3
  have hE := hE.trans hT0 hT hE9
  have hT := hT9
  obtain ⟨Mc1, hMx⟩ : ∃ x : mM, x = M1 := ⟨M1, rfl⟩
  subst hMx
  subst hv1
  refine W.eq (g2 := F0 m 9 ls []) rfl ?_
  refine W.widen (k := 0) (n := 0) (Nat.le_of_ble_eq_true rfl) (Nat.le_of_ble_eq_true rfl) ?_
  have hm : mm D (AZ z) Mc1 H := hm
  refine lv_goto (tgt := 26) hx hb dX1_addKept_9 (by decide) ?_
  refine W.vret hx hb hr (fun t ht hW => ⟨⟨none, _, rfl, ?_, by rw [ht]; exact hm⟩, hS.F ht⟩) hS.2.2 dX1_addKept_26
  exact ⟨_, hT, hE, rfl⟩

set_option maxHeartbeats 4000000 in
set_option maxRecDepth 100000 in
theorem t_X1_addKept_RNRR (l : Launch) (D : va_G) (k : Nat → ClassId) (z : Nat) (M : mM) (κ : Nat → Option KD) (r0 : Nat) (r2 : Nat) (r3 : Nat) (hk_r0 : κ r0 = some .node) (hk_r2 : κ r2 = some .node) (hk_r3 : κ r3 = some .tree) (hT : TM k κ M) : mK l yX1_addKept wsX1_addKept ({ frames := 0, cells := 0, slots := 0, locals := 0 }) D k z [.ref r0, .null, .ref r2, .ref r3] M (fun v M' => ∃ κ', TM k κ' M' ∧ kx κ M κ' M' ∧ v = none) := by
  refine Met.ofW (cc := cX1_addKept) (maxL := 4) (ret := none) (by decide) rfl ?_
  intro p e s m args below meth c s₁ B hml hv
  obtain ⟨rfl, hz, hcx, hm⟩ := hv
  have hx := B.exec
  have hb := B.bytes
  have hr := B.returns
  have hts := atoms_spec (ws := wsX1_addKept) B.pre
  have hown : s.vm.findClass RX1 = some m.cls := findClass_of_methodNamed B.named
  have hlocks := B.notSynchronized
  have hK := hcx.1
  have hS : va_S (AZ z) s.heap s.heap [] := va_S.rf
  have hA : ∀ q, s.heap.size ≤ q → AZ z q := fun q h => Nat.le_trans hz h
  have hl := lv_entry ([.ref r0, .null, .ref r2, .ref r3]) (n := 4) (Nat.le_of_ble_eq_true rfl)
  rw [lg_entry_eq]
  generalize (lg_sl ([.ref r0, .null, .ref r2, .ref r3]) ++ List.replicate (4 - (lg_sl ([.ref r0, .null, .ref r2, .ref r3])).length) Slot.unset).toArray = ls at hl ⊢
  have hl : lv_has ls 4 [(0, .ref r0), (1, .null), (2, .ref r2), (3, .ref r3)] := hl
  have hT0 := hT
  have hE : kx κ M κ M := kx.refl _ _
  refine lv_aload_n hx hb dX1_addKept_0 rfl (lv_at hl 0 rfl) ?_
  refine lv_ifnonnull (tgt := 12) hx hb dX1_addKept_1 (by decide) ?_
  refine lv_aload_nN hx hb dX1_addKept_12 rfl (lv_at hl 1 rfl) ?_
  refine lv_ifnullN (tgt := 26) hx hb dX1_addKept_13 (by decide) ?_
  refine W.vret hx hb hr (fun t ht hW => ⟨⟨none, _, rfl, ?_, by rw [ht]; exact hm⟩, hS.F ht⟩) hS.2.2 dX1_addKept_26
  exact ⟨_, hT, hE, rfl⟩

set_option maxHeartbeats 4000000 in
set_option maxRecDepth 100000 in
theorem t_X1_mergedNode_RRR (l : Launch) (D : va_G) (k : Nat → ClassId) (z : Nat) (M : mM) (κ : Nat → Option KD) (r0 : Nat) (r1 : Nat) (r2 : Nat) (hk_r0 : κ r0 = some .node) (hk_r1 : κ r1 = some .node) (hk_r2 : κ r2 = some .node) (hT : TM k κ M) : mK l yX1_mergedNode wsX1_mergedNode ({ frames := 2, cells := 2, slots := 68, locals := 40 }) D k z [.ref r0, .ref r1, .ref r2] M (fun v M' => ∃ κ', TM k κ' M' ∧ kx κ M κ' M' ∧ ∃ a, v = some (.ref a) ∧ κ' a = some .node) := by
  refine Met.ofW (cc := cX1_mergedNode) (maxL := 7) (ret := (some (.object "CommitTree$Node"))) (by decide) rfl ?_
  intro p e s m args below meth c s₁ B hml hv
  obtain ⟨rfl, hz, hcx, hm⟩ := hv
  have hx := B.exec
  have hb := B.bytes
  have hr := B.returns
  have hts := atoms_spec (ws := wsX1_mergedNode) B.pre
  have hown : s.vm.findClass RX1 = some m.cls := findClass_of_methodNamed B.named
  have hlocks := B.notSynchronized
  have hK := hcx.1
  have hS : va_S (AZ z) s.heap s.heap [] := va_S.rf
  have hA : ∀ q, s.heap.size ≤ q → AZ z q := fun q h => Nat.le_trans hz h
  have hl := lv_entry ([.ref r0, .ref r1, .ref r2]) (n := 7) (Nat.le_of_ble_eq_true rfl)
  rw [lg_entry_eq]
  generalize (lg_sl ([.ref r0, .ref r1, .ref r2]) ++ List.replicate (7 - (lg_sl ([.ref r0, .ref r1, .ref r2])).length) Slot.unset).toArray = ls at hl ⊢
  have hl : lv_has ls 7 [(0, .ref r0), (1, .ref r1), (2, .ref r2)] := hl
  have f46 := hts (.fieldLink RX1 46 "CommitTree$Node" "id" "I") (by decide +kernel)
  have f64 := hts (.fieldLink RX1 64 "CommitTree$Node" "directory" "Z") (by decide +kernel)
  have f68 := hts (.fieldLink RX1 68 "CommitTree$Node" "cells" "[I") (by decide +kernel)
  have f80 := hts (.fieldLink RX1 80 "CommitTree$Node" "size" "I") (by decide +kernel)
  have wX2 : ∀ w ∈ wsX20, w ∈ wsX1_mergedNode := by decide +kernel
  have hT0 := hT
  have hE : kx κ M κ M := kx.refl _ _
  refine lv_aload_n hx hb dX1_mergedNode_0 rfl (lv_at hl 1 rfl) ?_
  refine lv_aload_n hx hb dX1_mergedNode_1 rfl (lv_at hl 0 rfl) ?_
  refine lv_acmp_ne (rx := some r1) (ry := some r0) (tgt := 7) hx hb dX1_mergedNode_2 (by decide) (fun c1 => ?_) (fun c1 => ?_)
  · refine lv_aload_n hx hb dX1_mergedNode_7 rfl (lv_at hl 0 rfl) ?_
    obtain ⟨v0_2, v1_2, v2_2, v3_2, hM_r0_2, hz_v1_2, hk_v3_2⟩ := hT.node hk_r0
    refine m_get (T := TX2) (N := 4) (ci := 2) (v := .int v2_2) hx hb hts wX2 hown hK hm hM_r0_2 rfl 2 (by decide) f80 (fun _ h9 => h9) rfl dX1_mergedNode_8 ?_
    refine lv_aload_n hx hb dX1_mergedNode_11 rfl (lv_at hl 1 rfl) ?_
    obtain ⟨v0_3, v1_3, v2_3, v3_3, hM_r1_3, hz_v1_3, hk_v3_3⟩ := hT.node hk_r1
    refine m_get (T := TX2) (N := 4) (ci := 2) (v := .int v2_3) hx hb hts wX2 hown hK hm hM_r1_3 rfl 2 (by decide) f80 (fun _ h9 => h9) rfl dX1_mergedNode_12 ?_
    refine lv_aload_n hx hb dX1_mergedNode_15 rfl (lv_at hl 2 rfl) ?_
    obtain ⟨v0_4, v1_4, v2_4, v3_4, hM_r2_4, hz_v1_4, hk_v3_4⟩ := hT.node hk_r2
    refine m_get (T := TX2) (N := 4) (ci := 2) (v := .int v2_4) hx hb hts wX2 hown hK hm hM_r2_4 rfl 2 (by decide) f80 (fun _ h9 => h9) rfl dX1_mergedNode_16 ?_
    refine m_kS (As := [.int v2_2, .int v2_3, .int v2_4]) (rest := []) (rm := { frames := 0, cells := 0, slots := 0, locals := 0 }) ⟨hx, hb, hml, hown, hts⟩ (t_X1_merged_III l D k z _ _ v2_2 v2_3 v2_4  hT) (cwS 3 hts gX1_mergedNode_X1_merged rfl rfl rfl (by decide +kernel) ⟨Nat.le_of_ble_eq_true rfl, Nat.le_of_ble_eq_true rfl⟩) hz hcx hm hS rfl hl.1 rfl (Nat.le_of_ble_eq_true rfl) dX1_mergedNode_19 ⟨Nat.le_of_ble_eq_true rfl, Nat.le_of_ble_eq_true rfl⟩ (fun v M1 H locs hv hm hS => ?_)
    obtain ⟨hv1, hM1⟩ := hv
    rw [hM1] at hm
    obtain ⟨w5, hv1⟩ := hv1
    subst hv1
    refine W.eq (g2 := F0 m 22 ls [.int w5]) rfl ?_
    refine W.widen (k := 0) (n := 0) (Nat.le_of_ble_eq_true rfl) (Nat.le_of_ble_eq_true rfl) ?_
    have hm : mm D (AZ z) M H := hm
    refine lv_istore_n (lv' := [(3, .int w5), (0, .ref r0), (1, .ref r1), (2, .ref r2)]) hx hb dX1_mergedNode_22 rfl hl (by decide) rfl (fun ls hl => ?_)
    refine lv_aload_n hx hb dX1_mergedNode_23 rfl (lv_at hl 3 rfl) ?_
    refine m_get (T := TX2) (N := 4) (ci := 2) (v := .ref v3_4) hx hb hts wX2 hown hK hm hM_r2_4 rfl 3 (by decide) f68 (fun _ h9 => h9) rfl dX1_mergedNode_24 ?_
    obtain ⟨n_6, f_6, hM_v3_4_6, hn_6⟩ := hT.ints hk_v3_4
    refine m_alen hx hb hK hm 0 hM_v3_4_6 rfl (v := nI n_6) rfl dX1_mergedNode_27 ?_
    refine m_newa (atype := .int) hx hb (hts (.arrayClass .int) (by decide +kernel)) (ty := .int) rfl (fun C h => by cases h) hK 0 rfl hm hS hA (N' := n_6) (a0 := (n_6, .inl (fun _ => 0))) (fun cA => vp_cell_i cA _ _) (nI_pos (by omega)) (nI_clamp (by omega)) (show n_6 * 4 ≤ 536870912 by omega) (Nat.le_of_ble_eq_true rfl) (show 0 + n_6 ≤ 68 by omega) dX1_mergedNode_28 (fun q7 H hq7 hm hS => ?_)
    refine W.widen (k := 1) (n := 64) (Nat.le_of_ble_eq_true rfl) (show 0 + n_6 ≤ 64 by omega) ?_
    have hm : mm D (AZ z) (mu M q7 (.inl (k 0, n_6, .inl (fun _ => 0)))) H := hm
    have hz0_q7 := hE.no hT0 hT hq7
    have hk0_q7 := hT.no hq7
    have hR_8 : (mu M q7 (.inl (k 0, n_6, .inl (fun _ => 0)))) r0 = _ := (mu_ne (m_fr hq7 hM_r0_2)).trans hM_r0_2
    have hR_9 : (mu M q7 (.inl (k 0, n_6, .inl (fun _ => 0)))) r1 = _ := (mu_ne (m_fr hq7 hM_r1_3)).trans hM_r1_3
    have hR_10 : (mu M q7 (.inl (k 0, n_6, .inl (fun _ => 0)))) r2 = _ := (mu_ne (m_fr hq7 hM_r2_4)).trans hM_r2_4
    have hR_11 : (mu M q7 (.inl (k 0, n_6, .inl (fun _ => 0)))) v3_4 = _ := (mu_ne (m_fr hq7 hM_v3_4_6)).trans hM_v3_4_6
    have hM_q7 : (mu M q7 (.inl (k 0, n_6, .inl (fun _ => 0)))) q7 = _ := mu_self _ _ _
    have hT : TM k κ (mu M q7 (.inl (k 0, n_6, .inl (fun _ => 0)))) := hT.new0 hq7
    have hE : kx κ M κ (mu M q7 (.inl (k 0, n_6, .inl (fun _ => 0)))) := hE.new0 hq7
    generalize (mu M q7 (.inl (k 0, n_6, .inl (fun _ => 0)))) = Mc1 at hm hT hE hR_8 hR_9 hR_10 hR_11 hM_q7
    have hT9 : TM k (kup κ q7 .ints) Mc1 := hT.adopt hk0_q7 hM_q7 (show wf k (kup κ q7 .ints) .ints _ from ⟨n_6, (fun _ => 0), rfl, hn_6⟩)
    have hE : kx κ M (kup κ q7 .ints) Mc1 := hE.adopt hz0_q7
    have hT := hT9
    have hk_r0 := kup_old (d := .ints) hk0_q7 hk_r0
    have hk_r1 := kup_old (d := .ints) hk0_q7 hk_r1
    have hk_r2 := kup_old (d := .ints) hk0_q7 hk_r2
    have hk_v3_2 := kup_old (d := .ints) hk0_q7 hk_v3_2
    have hk_v3_3 := kup_old (d := .ints) hk0_q7 hk_v3_3
    have hk_v3_4 := kup_old (d := .ints) hk0_q7 hk_v3_4
    have hk_q7 : kup κ q7 .ints q7 = some .ints := kup_self _ _ _
    generalize kup κ q7 .ints = κ2 at hT hE hk_r0 hk_r1 hk_r2 hk_v3_2 hk_v3_3 hk_v3_4 hk_q7
    refine lv_astore (lv' := [(4, .ref q7), (3, .int w5), (0, .ref r0), (1, .ref r1), (2, .ref r2)]) hx hb dX1_mergedNode_30 hl (by decide) rfl (fun ls hl => ?_)
    refine lv_iconst (v := 0) hx hb dX1_mergedNode_32 (by decide) ?_
    refine lv_istore (lv' := [(5, .int 0), (4, .ref q7), (3, .int w5), (0, .ref r0), (1, .ref r1), (2, .ref r2)]) hx hb dX1_mergedNode_33 hl (by decide) rfl (fun ls hl => ?_)
    refine W_loop (σ := Nat × (Nat → Option KD) × mM) (fun ⟨j12, K35, M35⟩ H locs ls => (j12 < 2147483648) ∧ (TM k K35 M35) ∧ (kx κ M K35 M35) ∧ (K35 q7 = some .ints) ∧ (K35 r0 = some .node) ∧ (K35 r1 = some .node) ∧ (K35 r2 = some .node) ∧ mm D (AZ z) M35 H ∧ va_S (AZ z) s.heap H locs ∧ lv_has ls 7 [(5, .int (nI j12)), (4, .ref q7), (3, .int w5), (0, .ref r0), (1, .ref r1), (2, .ref r2)]) (fun ⟨j12, K35, M35⟩ => 2147483648 - j12) (fun ⟨j12, K35, M35⟩ => 1) (fun ⟨j12, K35, M35⟩ => 64) ?_ (0, κ2, Mc1) _ _ _ ⟨(by decide), hT, hE, hk_q7, hk_r0, hk_r1, hk_r2, hm, hS, lv_sub hl [0, 1, 2, 3, 4, 5] rfl⟩
    intro ⟨j12, K35, M35⟩ H locs ls hQ ih35
    obtain ⟨hbj12, hT, hE, hk_q7, hk_r0, hk_r1, hk_r2, hm, hS, hl⟩ := hQ
    try dsimp only at hm hl ih35 hbj12 hT hE hk_q7 hk_r0 hk_r1 hk_r2 ⊢
    refine lv_iload hx hb dX1_mergedNode_35 (lv_at hl 0 rfl) ?_
    refine lv_aload hx hb dX1_mergedNode_37 (lv_at hl 1 rfl) ?_
    obtain ⟨n_13, f_13, hM_q7_13, hn_13⟩ := hT.ints hk_q7
    refine m_alen hx hb hK hm 0 hM_q7_13 rfl (v := nI n_13) rfl dX1_mergedNode_39 ?_
    refine lv_icmp_ge (tgt := 104) hx hb dX1_mergedNode_40 (by decide) (fun c14 => ?_) (fun c14 => ?_)
    · refine m_new (T := TX2) (N := 4) (ci := 2) (fs := [.int 0, .int 0, .int 0, .null]) hx hb hts wX2 tyX2 tyX2_ok hown (hts (.classLink RX1 25 RX2) (by decide +kernel)) (hts (.instantiable RX2 4) (by decide +kernel)) (hts (.initialized RX2) (by decide +kernel)) hK hm hS hA rfl (fun j hj => by rcases (show j = 0 ∨ j = 1 ∨ j = 2 ∨ j = 3 by omega) with rfl | rfl | rfl | rfl <;> rfl) (Nat.le_of_ble_eq_true rfl) (Nat.le_of_ble_eq_true rfl) dX1_mergedNode_104 (fun q15 H hq15 hm hS => ?_)
      refine W.widen (k := 2) (n := 68) (Nat.le_of_ble_eq_true rfl) (Nat.le_of_ble_eq_true rfl) ?_
      have hm : mm D (AZ z) (mu M35 q15 (.inr (2, [.int 0, .int 0, .int 0, .null]))) H := hm
      have hz0_q15 := hE.no hT0 hT hq15
      have hk0_q15 := hT.no hq15
      have hR_16 : (mu M35 q15 (.inr (2, [.int 0, .int 0, .int 0, .null]))) q7 = _ := (mu_ne (m_fr hq15 hM_q7_13)).trans hM_q7_13
      have hM_q15 : (mu M35 q15 (.inr (2, [.int 0, .int 0, .int 0, .null]))) q15 = _ := mu_self _ _ _
      have hT : TM k K35 (mu M35 q15 (.inr (2, [.int 0, .int 0, .int 0, .null]))) := hT.new0 hq15
      have hE : kx κ M K35 (mu M35 q15 (.inr (2, [.int 0, .int 0, .int 0, .null]))) := hE.new0 hq15
      generalize (mu M35 q15 (.inr (2, [.int 0, .int 0, .int 0, .null]))) = Mc3 at hm hT hE hR_16 hM_q15
      refine lv_dup hx hb dX1_mergedNode_107 rfl ?_
      refine lv_aload_n hx hb dX1_mergedNode_108 rfl (lv_at hl 5 rfl) ?_
      obtain ⟨v0_17, v1_17, v2_17, v3_17, hM_r2_17, hz_v1_17, hk_v3_17⟩ := hT.node hk_r2
      refine m_get (T := TX2) (N := 4) (ci := 2) (v := .int v0_17) hx hb hts wX2 hown hK hm hM_r2_17 rfl 0 (by decide) f46 (fun _ h9 => h9) rfl dX1_mergedNode_109 ?_
      refine lv_aload_n hx hb dX1_mergedNode_112 rfl (lv_at hl 5 rfl) ?_
      rcases hz_v1_17 with h9 | h9
      · subst h9
        refine m_get (T := TX2) (N := 4) (ci := 2) (v := .int 0) hx hb hts wX2 hown hK hm hM_r2_17 rfl 1 (by decide) f64 (fun _ h9 => h9) rfl dX1_mergedNode_113 ?_
        refine lv_iload_n hx hb dX1_mergedNode_116 rfl (lv_at hl 2 rfl) ?_
        refine lv_aload hx hb dX1_mergedNode_117 (lv_at hl 1 rfl) ?_
        refine m_kI (As := [.int v0_17, .int 0, .int w5, .ref q7]) (rest := [.ref q15]) (rm := { frames := 1, cells := 0, slots := 0, locals := 12 }) ⟨hx, hb, hml, hown, hts⟩ (c_X2_init l D k z _ q15 q7 v0_17 0 w5 (by decide) hM_q15) (cwI 4 hts gX1_mergedNode_X2_init rfl rfl rfl (hts (.initialized RX2) (by decide +kernel)) (hts (.methodLink RX1 103 yX2_init) (by decide +kernel)) (hts (.instanceMethod yX2_init) (by decide +kernel)) rfl (by decide +kernel) ⟨Nat.le_of_ble_eq_true rfl, Nat.le_of_ble_eq_true rfl⟩) hz hcx hm hS rfl hl.1 rfl (Nat.le_of_ble_eq_true rfl) dX1_mergedNode_119 ⟨Nat.le_of_ble_eq_true rfl, Nat.le_of_ble_eq_true rfl⟩ (fun v M1 H locs hv hm hS => ?_)
        obtain ⟨hv1, hM1⟩ := hv
        subst hv1
        rw [hM1] at hm
        have hR_18 : (mu Mc3 q15 (.inr (2, [.int v0_17, .int 0, .int w5, .ref q7]))) q7 = _ := (mu_ne (fun q9 => by rw [q9, hk0_q15] at hk_q7; cases hk_q7)).trans hR_16
        have hR_19 : (mu Mc3 q15 (.inr (2, [.int v0_17, .int 0, .int w5, .ref q7]))) r2 = _ := (mu_ne (fun q9 => by rw [q9, hk0_q15] at hk_r2; cases hk_r2)).trans hM_r2_17
        have hT : TM k K35 (mu Mc3 q15 (.inr (2, [.int v0_17, .int 0, .int w5, .ref q7]))) := fun b9 d9 hb9 => by
          obtain ⟨e9, h9, h8⟩ := hT b9 d9 hb9
          exact ⟨e9, (mu_ne (fun q9 => by rw [q9, hk0_q15] at hb9; cases hb9)).trans h9, h8⟩
        have hE : kx κ M K35 (mu Mc3 q15 (.inr (2, [.int v0_17, .int 0, .int w5, .ref q7]))) := ⟨hE.1, fun b9 e9 hb9 hn9 => (mu_ne (m_fr hz0_q15 hb9)).trans (hE.2 b9 e9 hb9 hn9)⟩
        have hM_q15 : (mu Mc3 q15 (.inr (2, [.int v0_17, .int 0, .int w5, .ref q7]))) q15 = _ := mu_self _ _ _
        generalize (mu Mc3 q15 (.inr (2, [.int v0_17, .int 0, .int w5, .ref q7]))) = Mc4 at hm hT hE hR_18 hR_19 hM_q15
        have hk_old := hk0_q15
        have hk_q7 := kup_old (d := .node) hk0_q15 hk_q7
        have hk_r0 := kup_old (d := .node) hk0_q15 hk_r0
        have hk_r1 := kup_old (d := .node) hk0_q15 hk_r1
        have hk_r2 := kup_old (d := .node) hk0_q15 hk_r2
        have hk_v3_17 := kup_old (d := .node) hk0_q15 hk_v3_17
        have hT : TM k (kup K35 q15 .node) Mc4 := hT.adopt hk0_q15 hM_q15 (show wf k (kup K35 q15 .node) .node _ from ⟨v0_17, 0, w5, q7, rfl, (Or.inl rfl), hk_q7⟩)
        have hE : kx κ M (kup K35 q15 .node) Mc4 := hE.adopt hz0_q15
        have hk_q15 : kup K35 q15 .node q15 = some .node := kup_self _ _ _
        generalize kup K35 q15 .node = κ5 at hT hE hk_q7 hk_r0 hk_r1 hk_r2 hk_v3_17 hk_q15
        refine W.eq (g2 := F0 m 122 ls [.ref q15]) rfl ?_
        refine W.widen (k := 2) (n := 68) (Nat.le_of_ble_eq_true rfl) (Nat.le_of_ble_eq_true rfl) ?_
        have hm : mm D (AZ z) Mc4 H := hm
        refine W.aret (v := .ref q15) hx hb hr (Or.inl ⟨_, rfl⟩) (Or.inr ⟨_, rfl⟩) (fun t ht hW => ⟨⟨some (.ref q15), _, rfl, ?_, by rw [ht]; exact hm⟩, hS.F ht⟩) hS.2.2 dX1_mergedNode_122
        exact ⟨_, hT, hE, ⟨_, rfl, hk_q15⟩⟩
      · subst h9
        refine m_get (T := TX2) (N := 4) (ci := 2) (v := .int 1) hx hb hts wX2 hown hK hm hM_r2_17 rfl 1 (by decide) f64 (fun _ h9 => h9) rfl dX1_mergedNode_113 ?_
        refine lv_iload_n hx hb dX1_mergedNode_116 rfl (lv_at hl 2 rfl) ?_
        refine lv_aload hx hb dX1_mergedNode_117 (lv_at hl 1 rfl) ?_
        refine m_kI (As := [.int v0_17, .int 1, .int w5, .ref q7]) (rest := [.ref q15]) (rm := { frames := 1, cells := 0, slots := 0, locals := 12 }) ⟨hx, hb, hml, hown, hts⟩ (c_X2_init l D k z _ q15 q7 v0_17 1 w5 (by decide) hM_q15) (cwI 4 hts gX1_mergedNode_X2_init rfl rfl rfl (hts (.initialized RX2) (by decide +kernel)) (hts (.methodLink RX1 103 yX2_init) (by decide +kernel)) (hts (.instanceMethod yX2_init) (by decide +kernel)) rfl (by decide +kernel) ⟨Nat.le_of_ble_eq_true rfl, Nat.le_of_ble_eq_true rfl⟩) hz hcx hm hS rfl hl.1 rfl (Nat.le_of_ble_eq_true rfl) dX1_mergedNode_119 ⟨Nat.le_of_ble_eq_true rfl, Nat.le_of_ble_eq_true rfl⟩ (fun v M1 H locs hv hm hS => ?_)
        obtain ⟨hv1, hM1⟩ := hv
        subst hv1
        rw [hM1] at hm
        have hR_20 : (mu Mc3 q15 (.inr (2, [.int v0_17, .int 1, .int w5, .ref q7]))) q7 = _ := (mu_ne (fun q9 => by rw [q9, hk0_q15] at hk_q7; cases hk_q7)).trans hR_16
        have hR_21 : (mu Mc3 q15 (.inr (2, [.int v0_17, .int 1, .int w5, .ref q7]))) r2 = _ := (mu_ne (fun q9 => by rw [q9, hk0_q15] at hk_r2; cases hk_r2)).trans hM_r2_17
        have hT : TM k K35 (mu Mc3 q15 (.inr (2, [.int v0_17, .int 1, .int w5, .ref q7]))) := fun b9 d9 hb9 => by
          obtain ⟨e9, h9, h8⟩ := hT b9 d9 hb9
          exact ⟨e9, (mu_ne (fun q9 => by rw [q9, hk0_q15] at hb9; cases hb9)).trans h9, h8⟩
        have hE : kx κ M K35 (mu Mc3 q15 (.inr (2, [.int v0_17, .int 1, .int w5, .ref q7]))) := ⟨hE.1, fun b9 e9 hb9 hn9 => (mu_ne (m_fr hz0_q15 hb9)).trans (hE.2 b9 e9 hb9 hn9)⟩
        have hM_q15 : (mu Mc3 q15 (.inr (2, [.int v0_17, .int 1, .int w5, .ref q7]))) q15 = _ := mu_self _ _ _
        generalize (mu Mc3 q15 (.inr (2, [.int v0_17, .int 1, .int w5, .ref q7]))) = Mc6 at hm hT hE hR_20 hR_21 hM_q15
        have hk_old := hk0_q15
        have hk_q7 := kup_old (d := .node) hk0_q15 hk_q7
        have hk_r0 := kup_old (d := .node) hk0_q15 hk_r0
        have hk_r1 := kup_old (d := .node) hk0_q15 hk_r1
        have hk_r2 := kup_old (d := .node) hk0_q15 hk_r2
        have hk_v3_17 := kup_old (d := .node) hk0_q15 hk_v3_17
        have hT : TM k (kup K35 q15 .node) Mc6 := hT.adopt hk0_q15 hM_q15 (show wf k (kup K35 q15 .node) .node _ from ⟨v0_17, 1, w5, q7, rfl, (Or.inr rfl), hk_q7⟩)
        have hE : kx κ M (kup K35 q15 .node) Mc6 := hE.adopt hz0_q15
        have hk_q15 : kup K35 q15 .node q15 = some .node := kup_self _ _ _
        generalize kup K35 q15 .node = κ7 at hT hE hk_q7 hk_r0 hk_r1 hk_r2 hk_v3_17 hk_q15
        refine W.eq (g2 := F0 m 122 ls [.ref q15]) rfl ?_
        refine W.widen (k := 2) (n := 68) (Nat.le_of_ble_eq_true rfl) (Nat.le_of_ble_eq_true rfl) ?_
        have hm : mm D (AZ z) Mc6 H := hm
        refine W.aret (v := .ref q15) hx hb hr (Or.inl ⟨_, rfl⟩) (Or.inr ⟨_, rfl⟩) (fun t ht hW => ⟨⟨some (.ref q15), _, rfl, ?_, by rw [ht]; exact hm⟩, hS.F ht⟩) hS.2.2 dX1_mergedNode_122
        exact ⟨_, hT, hE, ⟨_, rfl, hk_q15⟩⟩
    · refine lv_aload_n hx hb dX1_mergedNode_43 rfl (lv_at hl 5 rfl) ?_
      obtain ⟨v0_22, v1_22, v2_22, v3_22, hM_r2_22, hz_v1_22, hk_v3_22⟩ := hT.node hk_r2
      rcases hz_v1_22 with h9 | h9
      · subst h9
        refine m_get (T := TX2) (N := 4) (ci := 2) (v := .int 0) hx hb hts wX2 hown hK hm hM_r2_22 rfl 1 (by decide) f64 (fun _ h9 => h9) rfl dX1_mergedNode_44 ?_
        refine lv_if_ne (tgt := 60) hx hb dX1_mergedNode_47 (by decide) (fun c23 => ?_) (fun c23 => ?_)
        · first | exact absurd c23 (by decide) | exact absurd (by decide) c23
        · refine lv_iload hx hb dX1_mergedNode_50 (lv_at hl 0 rfl) ?_
          refine lv_iload_n hx hb dX1_mergedNode_52 rfl (lv_at hl 2 rfl) ?_
          refine lv_icmp_lt (tgt := 60) hx hb dX1_mergedNode_53 (by decide) (fun c24 => ?_) (fun c24 => ?_)
          · refine lv_iconst (v := 0) hx hb dX1_mergedNode_60 (by decide) ?_
            refine lv_istore (lv' := [(6, .int 0), (5, .int (nI j12)), (4, .ref q7), (3, .int w5), (0, .ref r0), (1, .ref r1), (2, .ref r2)]) hx hb dX1_mergedNode_61 hl (by decide) rfl (fun ls hl => ?_)
            refine lv_aload hx hb dX1_mergedNode_63 (lv_at hl 2 rfl) ?_
            refine lv_iload hx hb dX1_mergedNode_65 (lv_at hl 1 rfl) ?_
            refine lv_iload hx hb dX1_mergedNode_67 (lv_at hl 0 rfl) ?_
            refine lv_if_eq (tgt := 76) hx hb dX1_mergedNode_69 (by decide) (fun c25 => ?_) (fun c25 => ?_)
            · refine lv_aload_n hx hb dX1_mergedNode_76 rfl (lv_at hl 4 rfl) ?_
              refine lv_iload hx hb dX1_mergedNode_77 (lv_at hl 1 rfl) ?_
              obtain ⟨v0_26, v1_26, v2_26, v3_26, hM_r0_26, hz_v1_26, hk_v3_26⟩ := hT.node hk_r0
              refine m_kV (As := [.int (nI j12)]) (rest := [.int (nI j12), .ref q7]) (rm := { frames := 0, cells := 0, slots := 0, locals := 0 }) ⟨hx, hb, hml, hown, hts⟩ (t_X2_cell_I l D k z _ _ r0 (nI j12) hk_r0 hT) (cwV 1 hts gX1_mergedNode_X2_cell rfl rfl rfl (by decide +kernel) ⟨Nat.le_of_ble_eq_true rfl, Nat.le_of_ble_eq_true rfl⟩) (m_recv hK hm (q := (RX2, TX2, 4)) rfl hM_r0_26) hz hcx hm hS rfl hl.1 rfl (Nat.le_of_ble_eq_true rfl) dX1_mergedNode_79 ⟨Nat.le_of_ble_eq_true rfl, Nat.le_of_ble_eq_true rfl⟩ (fun v M1 H locs hv hm hS => ?_)
              obtain ⟨hv1, hM1⟩ := hv
              rw [hM1] at hm
              obtain ⟨w27, hv1⟩ := hv1
              subst hv1
              refine W.eq (g2 := F0 m 82 ls [.int w27, .int (nI j12), .ref q7]) rfl ?_
              refine W.widen (k := 1) (n := 64) (Nat.le_of_ble_eq_true rfl) (Nat.le_of_ble_eq_true rfl) ?_
              have hm : mm D (AZ z) M35 H := hm
              refine lv_aload_n hx hb dX1_mergedNode_82 rfl (lv_at hl 5 rfl) ?_
              refine lv_iload hx hb dX1_mergedNode_83 (lv_at hl 1 rfl) ?_
              obtain ⟨v0_28, v1_28, v2_28, v3_28, hM_r1_28, hz_v1_28, hk_v3_28⟩ := hT.node hk_r1
              refine m_kV (As := [.int (nI j12)]) (rest := [.int w27, .int (nI j12), .ref q7]) (rm := { frames := 0, cells := 0, slots := 0, locals := 0 }) ⟨hx, hb, hml, hown, hts⟩ (t_X2_cell_I l D k z _ _ r1 (nI j12) hk_r1 hT) (cwV 1 hts gX1_mergedNode_X2_cell rfl rfl rfl (by decide +kernel) ⟨Nat.le_of_ble_eq_true rfl, Nat.le_of_ble_eq_true rfl⟩) (m_recv hK hm (q := (RX2, TX2, 4)) rfl hM_r1_28) hz hcx hm hS rfl hl.1 rfl (Nat.le_of_ble_eq_true rfl) dX1_mergedNode_85 ⟨Nat.le_of_ble_eq_true rfl, Nat.le_of_ble_eq_true rfl⟩ (fun v M1 H locs hv hm hS => ?_)
              obtain ⟨hv1, hM1⟩ := hv
              rw [hM1] at hm
              obtain ⟨w29, hv1⟩ := hv1
              subst hv1
              refine W.eq (g2 := F0 m 88 ls [.int w29, .int w27, .int (nI j12), .ref q7]) rfl ?_
              refine W.widen (k := 1) (n := 64) (Nat.le_of_ble_eq_true rfl) (Nat.le_of_ble_eq_true rfl) ?_
              have hm : mm D (AZ z) M35 H := hm
              refine lv_aload_n hx hb dX1_mergedNode_88 rfl (lv_at hl 6 rfl) ?_
              refine lv_iload hx hb dX1_mergedNode_89 (lv_at hl 1 rfl) ?_
              refine m_kV (As := [.int (nI j12)]) (rest := [.int w29, .int w27, .int (nI j12), .ref q7]) (rm := { frames := 0, cells := 0, slots := 0, locals := 0 }) ⟨hx, hb, hml, hown, hts⟩ (t_X2_cell_I l D k z _ _ r2 (nI j12) hk_r2 hT) (cwV 1 hts gX1_mergedNode_X2_cell rfl rfl rfl (by decide +kernel) ⟨Nat.le_of_ble_eq_true rfl, Nat.le_of_ble_eq_true rfl⟩) (m_recv hK hm (q := (RX2, TX2, 4)) rfl hM_r2_22) hz hcx hm hS rfl hl.1 rfl (Nat.le_of_ble_eq_true rfl) dX1_mergedNode_91 ⟨Nat.le_of_ble_eq_true rfl, Nat.le_of_ble_eq_true rfl⟩ (fun v M1 H locs hv hm hS => ?_)
              obtain ⟨hv1, hM1⟩ := hv
              rw [hM1] at hm
              obtain ⟨w30, hv1⟩ := hv1
              subst hv1
              refine W.eq (g2 := F0 m 94 ls [.int w30, .int w29, .int w27, .int (nI j12), .ref q7]) rfl ?_
              refine W.widen (k := 1) (n := 64) (Nat.le_of_ble_eq_true rfl) (Nat.le_of_ble_eq_true rfl) ?_
              have hm : mm D (AZ z) M35 H := hm
              refine m_kS (As := [.int w27, .int w29, .int w30]) (rest := [.int (nI j12), .ref q7]) (rm := { frames := 0, cells := 0, slots := 0, locals := 0 }) ⟨hx, hb, hml, hown, hts⟩ (t_X1_merged_III l D k z _ _ w27 w29 w30  hT) (cwS 3 hts gX1_mergedNode_X1_merged rfl rfl rfl (by decide +kernel) ⟨Nat.le_of_ble_eq_true rfl, Nat.le_of_ble_eq_true rfl⟩) hz hcx hm hS rfl hl.1 rfl (Nat.le_of_ble_eq_true rfl) dX1_mergedNode_94 ⟨Nat.le_of_ble_eq_true rfl, Nat.le_of_ble_eq_true rfl⟩ (fun v M1 H locs hv hm hS => ?_)
              obtain ⟨hv1, hM1⟩ := hv
              rw [hM1] at hm
              obtain ⟨w31, hv1⟩ := hv1
              subst hv1
              refine W.eq (g2 := F0 m 97 ls [.int w31, .int (nI j12), .ref q7]) rfl ?_
              refine W.widen (k := 1) (n := 64) (Nat.le_of_ble_eq_true rfl) (Nat.le_of_ble_eq_true rfl) ?_
              have hm : mm D (AZ z) M35 H := hm
              refine m_iast hx hb hK hm hS 0 hM_q7_13 rfl (in_of (i := (nI j12)) (n := n_13) (by first | assumption | exact nI_pos (by omega)) (by assumption) (by first | decide | omega)) dX1_mergedNode_97 (fun H locs hm hS => ?_)
              have hm : mm D (AZ z) (mu M35 q7 (.inl (k 0, n_13, .inl (upd f_13 ((nI j12)).toNatClampNeg w31)))) H := hm
              have hR_32 : (mu M35 q7 (.inl (k 0, n_13, .inl (upd f_13 ((nI j12)).toNatClampNeg w31)))) r2 = _ := (mu_ne (kd_ne hk_r2 hk_q7 (by decide))).trans hM_r2_22
              have hR_33 : (mu M35 q7 (.inl (k 0, n_13, .inl (upd f_13 ((nI j12)).toNatClampNeg w31)))) r0 = _ := (mu_ne (kd_ne hk_r0 hk_q7 (by decide))).trans hM_r0_26
              have hR_34 : (mu M35 q7 (.inl (k 0, n_13, .inl (upd f_13 ((nI j12)).toNatClampNeg w31)))) r1 = _ := (mu_ne (kd_ne hk_r1 hk_q7 (by decide))).trans hM_r1_28
              have hT : TM k K35 (mu M35 q7 (.inl (k 0, n_13, .inl (upd f_13 ((nI j12)).toNatClampNeg w31)))) := hT.put hk_q7 (show wf k K35 .ints (.inl (k 0, n_13, .inl (upd f_13 ((nI j12)).toNatClampNeg w31))) from ⟨n_13, (upd f_13 ((nI j12)).toNatClampNeg w31), rfl, hn_13⟩)
              have hE : kx κ M K35 (mu M35 q7 (.inl (k 0, n_13, .inl (upd f_13 ((nI j12)).toNatClampNeg w31)))) := hE.put hk_q7
              generalize (mu M35 q7 (.inl (k 0, n_13, .inl (upd f_13 ((nI j12)).toNatClampNeg w31)))) = Mc8 at hm hT hE hR_32 hR_33 hR_34
              refine lv_iinc (v := ((nI j12) + 1)) (lv' := [(5, .int ((nI j12) + 1)), (6, .int 0), (4, .ref q7), (3, .int w5), (0, .ref r0), (1, .ref r1), (2, .ref r2)]) hx hb dX1_mergedNode_98 hl (k := 1) rfl rfl (by decide) rfl (fun ls hl => ?_)
              refine lv_goto (tgt := 35) hx hb dX1_mergedNode_101 (by decide) ?_
              rw [nI_1] at hl
              exact ih35 (j12 + 1, K35, Mc8) _ _ _ ⟨(by first | exact nI_up hbj12 c14 | exact nI_up2 (by decide) hbj12 c14), hT, hE, hk_q7, hk_r0, hk_r1, hk_r2, hm, hS, lv_sub hl [0, 2, 3, 4, 5, 6] rfl⟩ (by show 2147483648 - (j12 + 1) < 2147483648 - j12; omega)
            · first | exact absurd c25 (by decide) | exact absurd (by decide) c25
          · refine lv_iconst (v := 1) hx hb dX1_mergedNode_56 (by decide) ?_
            refine lv_goto (tgt := 61) hx hb dX1_mergedNode_57 (by decide) ?_
            refine lv_istore (lv' := [(6, .int 1), (5, .int (nI j12)), (4, .ref q7), (3, .int w5), (0, .ref r0), (1, .ref r1), (2, .ref r2)]) hx hb dX1_mergedNode_61 hl (by decide) rfl (fun ls hl => ?_)
            refine lv_aload hx hb dX1_mergedNode_63 (lv_at hl 2 rfl) ?_
            refine lv_iload hx hb dX1_mergedNode_65 (lv_at hl 1 rfl) ?_
            refine lv_iload hx hb dX1_mergedNode_67 (lv_at hl 0 rfl) ?_
            refine lv_if_eq (tgt := 76) hx hb dX1_mergedNode_69 (by decide) (fun c35 => ?_) (fun c35 => ?_)
            · first | exact absurd c35 (by decide) | exact absurd (by decide) c35
            · refine lv_iconst (v := 0) hx hb dX1_mergedNode_72 (by decide) ?_
              refine lv_goto (tgt := 97) hx hb dX1_mergedNode_73 (by decide) ?_
              refine m_iast hx hb hK hm hS 0 hM_q7_13 rfl (in_of (i := (nI j12)) (n := n_13) (by first | assumption | exact nI_pos (by omega)) (by assumption) (by first | decide | omega)) dX1_mergedNode_97 (fun H locs hm hS => ?_)
              have hm : mm D (AZ z) (mu M35 q7 (.inl (k 0, n_13, .inl (upd f_13 ((nI j12)).toNatClampNeg 0)))) H := hm
              have hR_36 : (mu M35 q7 (.inl (k 0, n_13, .inl (upd f_13 ((nI j12)).toNatClampNeg 0)))) r2 = _ := (mu_ne (kd_ne hk_r2 hk_q7 (by decide))).trans hM_r2_22
              have hT : TM k K35 (mu M35 q7 (.inl (k 0, n_13, .inl (upd f_13 ((nI j12)).toNatClampNeg 0)))) := hT.put hk_q7 (show wf k K35 .ints (.inl (k 0, n_13, .inl (upd f_13 ((nI j12)).toNatClampNeg 0))) from ⟨n_13, (upd f_13 ((nI j12)).toNatClampNeg 0), rfl, hn_13⟩)
              have hE : kx κ M K35 (mu M35 q7 (.inl (k 0, n_13, .inl (upd f_13 ((nI j12)).toNatClampNeg 0)))) := hE.put hk_q7
              generalize (mu M35 q7 (.inl (k 0, n_13, .inl (upd f_13 ((nI j12)).toNatClampNeg 0)))) = Mc9 at hm hT hE hR_36
              refine lv_iinc (v := ((nI j12) + 1)) (lv' := [(5, .int ((nI j12) + 1)), (6, .int 1), (4, .ref q7), (3, .int w5), (0, .ref r0), (1, .ref r1), (2, .ref r2)]) hx hb dX1_mergedNode_98 hl (k := 1) rfl rfl (by decide) rfl (fun ls hl => ?_)
              refine lv_goto (tgt := 35) hx hb dX1_mergedNode_101 (by decide) ?_
              rw [nI_1] at hl
              exact ih35 (j12 + 1, K35, Mc9) _ _ _ ⟨(by first | exact nI_up hbj12 c14 | exact nI_up2 (by decide) hbj12 c14), hT, hE, hk_q7, hk_r0, hk_r1, hk_r2, hm, hS, lv_sub hl [0, 2, 3, 4, 5, 6] rfl⟩ (by show 2147483648 - (j12 + 1) < 2147483648 - j12; omega)
      · subst h9
        refine m_get (T := TX2) (N := 4) (ci := 2) (v := .int 1) hx hb hts wX2 hown hK hm hM_r2_22 rfl 1 (by decide) f64 (fun _ h9 => h9) rfl dX1_mergedNode_44 ?_
        refine lv_if_ne (tgt := 60) hx hb dX1_mergedNode_47 (by decide) (fun c37 => ?_) (fun c37 => ?_)
        · refine lv_iconst (v := 0) hx hb dX1_mergedNode_60 (by decide) ?_
          refine lv_istore (lv' := [(6, .int 0), (5, .int (nI j12)), (4, .ref q7), (3, .int w5), (0, .ref r0), (1, .ref r1), (2, .ref r2)]) hx hb dX1_mergedNode_61 hl (by decide) rfl (fun ls hl => ?_)
          refine lv_aload hx hb dX1_mergedNode_63 (lv_at hl 2 rfl) ?_
          refine lv_iload hx hb dX1_mergedNode_65 (lv_at hl 1 rfl) ?_
          refine lv_iload hx hb dX1_mergedNode_67 (lv_at hl 0 rfl) ?_
          refine lv_if_eq (tgt := 76) hx hb dX1_mergedNode_69 (by decide) (fun c38 => ?_) (fun c38 => ?_)
          · refine lv_aload_n hx hb dX1_mergedNode_76 rfl (lv_at hl 4 rfl) ?_
            refine lv_iload hx hb dX1_mergedNode_77 (lv_at hl 1 rfl) ?_
            obtain ⟨v0_39, v1_39, v2_39, v3_39, hM_r0_39, hz_v1_39, hk_v3_39⟩ := hT.node hk_r0
            refine m_kV (As := [.int (nI j12)]) (rest := [.int (nI j12), .ref q7]) (rm := { frames := 0, cells := 0, slots := 0, locals := 0 }) ⟨hx, hb, hml, hown, hts⟩ (t_X2_cell_I l D k z _ _ r0 (nI j12) hk_r0 hT) (cwV 1 hts gX1_mergedNode_X2_cell rfl rfl rfl (by decide +kernel) ⟨Nat.le_of_ble_eq_true rfl, Nat.le_of_ble_eq_true rfl⟩) (m_recv hK hm (q := (RX2, TX2, 4)) rfl hM_r0_39) hz hcx hm hS rfl hl.1 rfl (Nat.le_of_ble_eq_true rfl) dX1_mergedNode_79 ⟨Nat.le_of_ble_eq_true rfl, Nat.le_of_ble_eq_true rfl⟩ (fun v M1 H locs hv hm hS => ?_)
            obtain ⟨hv1, hM1⟩ := hv
            rw [hM1] at hm
            obtain ⟨w40, hv1⟩ := hv1
            subst hv1
            refine W.eq (g2 := F0 m 82 ls [.int w40, .int (nI j12), .ref q7]) rfl ?_
            refine W.widen (k := 1) (n := 64) (Nat.le_of_ble_eq_true rfl) (Nat.le_of_ble_eq_true rfl) ?_
            have hm : mm D (AZ z) M35 H := hm
            refine lv_aload_n hx hb dX1_mergedNode_82 rfl (lv_at hl 5 rfl) ?_
            refine lv_iload hx hb dX1_mergedNode_83 (lv_at hl 1 rfl) ?_
            obtain ⟨v0_41, v1_41, v2_41, v3_41, hM_r1_41, hz_v1_41, hk_v3_41⟩ := hT.node hk_r1
            refine m_kV (As := [.int (nI j12)]) (rest := [.int w40, .int (nI j12), .ref q7]) (rm := { frames := 0, cells := 0, slots := 0, locals := 0 }) ⟨hx, hb, hml, hown, hts⟩ (t_X2_cell_I l D k z _ _ r1 (nI j12) hk_r1 hT) (cwV 1 hts gX1_mergedNode_X2_cell rfl rfl rfl (by decide +kernel) ⟨Nat.le_of_ble_eq_true rfl, Nat.le_of_ble_eq_true rfl⟩) (m_recv hK hm (q := (RX2, TX2, 4)) rfl hM_r1_41) hz hcx hm hS rfl hl.1 rfl (Nat.le_of_ble_eq_true rfl) dX1_mergedNode_85 ⟨Nat.le_of_ble_eq_true rfl, Nat.le_of_ble_eq_true rfl⟩ (fun v M1 H locs hv hm hS => ?_)
            obtain ⟨hv1, hM1⟩ := hv
            rw [hM1] at hm
            obtain ⟨w42, hv1⟩ := hv1
            subst hv1
            refine W.eq (g2 := F0 m 88 ls [.int w42, .int w40, .int (nI j12), .ref q7]) rfl ?_
            refine W.widen (k := 1) (n := 64) (Nat.le_of_ble_eq_true rfl) (Nat.le_of_ble_eq_true rfl) ?_
            have hm : mm D (AZ z) M35 H := hm
            refine lv_aload_n hx hb dX1_mergedNode_88 rfl (lv_at hl 6 rfl) ?_
            refine lv_iload hx hb dX1_mergedNode_89 (lv_at hl 1 rfl) ?_
            refine m_kV (As := [.int (nI j12)]) (rest := [.int w42, .int w40, .int (nI j12), .ref q7]) (rm := { frames := 0, cells := 0, slots := 0, locals := 0 }) ⟨hx, hb, hml, hown, hts⟩ (t_X2_cell_I l D k z _ _ r2 (nI j12) hk_r2 hT) (cwV 1 hts gX1_mergedNode_X2_cell rfl rfl rfl (by decide +kernel) ⟨Nat.le_of_ble_eq_true rfl, Nat.le_of_ble_eq_true rfl⟩) (m_recv hK hm (q := (RX2, TX2, 4)) rfl hM_r2_22) hz hcx hm hS rfl hl.1 rfl (Nat.le_of_ble_eq_true rfl) dX1_mergedNode_91 ⟨Nat.le_of_ble_eq_true rfl, Nat.le_of_ble_eq_true rfl⟩ (fun v M1 H locs hv hm hS => ?_)
            obtain ⟨hv1, hM1⟩ := hv
            rw [hM1] at hm
            obtain ⟨w43, hv1⟩ := hv1
            subst hv1
            refine W.eq (g2 := F0 m 94 ls [.int w43, .int w42, .int w40, .int (nI j12), .ref q7]) rfl ?_
            refine W.widen (k := 1) (n := 64) (Nat.le_of_ble_eq_true rfl) (Nat.le_of_ble_eq_true rfl) ?_
            have hm : mm D (AZ z) M35 H := hm
            refine m_kS (As := [.int w40, .int w42, .int w43]) (rest := [.int (nI j12), .ref q7]) (rm := { frames := 0, cells := 0, slots := 0, locals := 0 }) ⟨hx, hb, hml, hown, hts⟩ (t_X1_merged_III l D k z _ _ w40 w42 w43  hT) (cwS 3 hts gX1_mergedNode_X1_merged rfl rfl rfl (by decide +kernel) ⟨Nat.le_of_ble_eq_true rfl, Nat.le_of_ble_eq_true rfl⟩) hz hcx hm hS rfl hl.1 rfl (Nat.le_of_ble_eq_true rfl) dX1_mergedNode_94 ⟨Nat.le_of_ble_eq_true rfl, Nat.le_of_ble_eq_true rfl⟩ (fun v M1 H locs hv hm hS => ?_)
            obtain ⟨hv1, hM1⟩ := hv
            rw [hM1] at hm
            obtain ⟨w44, hv1⟩ := hv1
            subst hv1
            refine W.eq (g2 := F0 m 97 ls [.int w44, .int (nI j12), .ref q7]) rfl ?_
            refine W.widen (k := 1) (n := 64) (Nat.le_of_ble_eq_true rfl) (Nat.le_of_ble_eq_true rfl) ?_
            have hm : mm D (AZ z) M35 H := hm
            refine m_iast hx hb hK hm hS 0 hM_q7_13 rfl (in_of (i := (nI j12)) (n := n_13) (by first | assumption | exact nI_pos (by omega)) (by assumption) (by first | decide | omega)) dX1_mergedNode_97 (fun H locs hm hS => ?_)
            have hm : mm D (AZ z) (mu M35 q7 (.inl (k 0, n_13, .inl (upd f_13 ((nI j12)).toNatClampNeg w44)))) H := hm
            have hR_45 : (mu M35 q7 (.inl (k 0, n_13, .inl (upd f_13 ((nI j12)).toNatClampNeg w44)))) r2 = _ := (mu_ne (kd_ne hk_r2 hk_q7 (by decide))).trans hM_r2_22
            have hR_46 : (mu M35 q7 (.inl (k 0, n_13, .inl (upd f_13 ((nI j12)).toNatClampNeg w44)))) r0 = _ := (mu_ne (kd_ne hk_r0 hk_q7 (by decide))).trans hM_r0_39
            have hR_47 : (mu M35 q7 (.inl (k 0, n_13, .inl (upd f_13 ((nI j12)).toNatClampNeg w44)))) r1 = _ := (mu_ne (kd_ne hk_r1 hk_q7 (by decide))).trans hM_r1_41
            have hT : TM k K35 (mu M35 q7 (.inl (k 0, n_13, .inl (upd f_13 ((nI j12)).toNatClampNeg w44)))) := hT.put hk_q7 (show wf k K35 .ints (.inl (k 0, n_13, .inl (upd f_13 ((nI j12)).toNatClampNeg w44))) from ⟨n_13, (upd f_13 ((nI j12)).toNatClampNeg w44), rfl, hn_13⟩)
            have hE : kx κ M K35 (mu M35 q7 (.inl (k 0, n_13, .inl (upd f_13 ((nI j12)).toNatClampNeg w44)))) := hE.put hk_q7
            generalize (mu M35 q7 (.inl (k 0, n_13, .inl (upd f_13 ((nI j12)).toNatClampNeg w44)))) = Mc10 at hm hT hE hR_45 hR_46 hR_47
            refine lv_iinc (v := ((nI j12) + 1)) (lv' := [(5, .int ((nI j12) + 1)), (6, .int 0), (4, .ref q7), (3, .int w5), (0, .ref r0), (1, .ref r1), (2, .ref r2)]) hx hb dX1_mergedNode_98 hl (k := 1) rfl rfl (by decide) rfl (fun ls hl => ?_)
            refine lv_goto (tgt := 35) hx hb dX1_mergedNode_101 (by decide) ?_
            rw [nI_1] at hl
            exact ih35 (j12 + 1, K35, Mc10) _ _ _ ⟨(by first | exact nI_up hbj12 c14 | exact nI_up2 (by decide) hbj12 c14), hT, hE, hk_q7, hk_r0, hk_r1, hk_r2, hm, hS, lv_sub hl [0, 2, 3, 4, 5, 6] rfl⟩ (by show 2147483648 - (j12 + 1) < 2147483648 - j12; omega)
          · first | exact absurd c38 (by decide) | exact absurd (by decide) c38
        · first | exact absurd c37 (by decide) | exact absurd (by decide) c37
  · refine lv_aload_n hx hb dX1_mergedNode_5 rfl (lv_at hl 2 rfl) ?_
    refine W.widen (k := 2) (n := 68) (by omega) (by omega) ?_
    refine W.aret (v := .ref r2) hx hb hr (Or.inl ⟨_, rfl⟩) (Or.inr ⟨_, rfl⟩) (fun t ht hW => ⟨⟨some (.ref r2), _, rfl, ?_, by rw [ht]; exact hm⟩, hS.F ht⟩) hS.2.2 dX1_mergedNode_6
    exact ⟨_, hT, hE, ⟨_, rfl, hk_r2⟩⟩

set_option maxHeartbeats 4000000 in
set_option maxRecDepth 100000 in
theorem t_X1_addKept_RRRR (l : Launch) (D : va_G) (k : Nat → ClassId) (z : Nat) (M : mM) (κ : Nat → Option KD) (r0 : Nat) (r1 : Nat) (r2 : Nat) (r3 : Nat) (hk_r0 : κ r0 = some .node) (hk_r1 : κ r1 = some .node) (hk_r2 : κ r2 = some .node) (hk_r3 : κ r3 = some .tree) (hT : TM k κ M) : mK l yX1_addKept wsX1_addKept ({ frames := 3, cells := 2, slots := 68, locals := 66 }) D k z [.ref r0, .ref r1, .ref r2, .ref r3] M (fun v M' => ∃ κ', TM k κ' M' ∧ kx κ M κ' M' ∧ v = none) := by
  refine Met.ofW (cc := cX1_addKept) (maxL := 4) (ret := none) (by decide) rfl ?_
  intro p e s m args below meth c s₁ B hml hv
  obtain ⟨rfl, hz, hcx, hm⟩ := hv
  have hx := B.exec
  have hb := B.bytes
  have hr := B.returns
  have hts := atoms_spec (ws := wsX1_addKept) B.pre
  have hown : s.vm.findClass RX1 = some m.cls := findClass_of_methodNamed B.named
  have hlocks := B.notSynchronized
  have hK := hcx.1
  have hS : va_S (AZ z) s.heap s.heap [] := va_S.rf
  have hA : ∀ q, s.heap.size ≤ q → AZ z q := fun q h => Nat.le_trans hz h
  have hl := lv_entry ([.ref r0, .ref r1, .ref r2, .ref r3]) (n := 4) (Nat.le_of_ble_eq_true rfl)
  rw [lg_entry_eq]
  generalize (lg_sl ([.ref r0, .ref r1, .ref r2, .ref r3]) ++ List.replicate (4 - (lg_sl ([.ref r0, .ref r1, .ref r2, .ref r3])).length) Slot.unset).toArray = ls at hl ⊢
  have hl : lv_has ls 4 [(0, .ref r0), (1, .ref r1), (2, .ref r2), (3, .ref r3)] := hl
  have hT0 := hT
  have hE : kx κ M κ M := kx.refl _ _
  refine lv_aload_n hx hb dX1_addKept_0 rfl (lv_at hl 0 rfl) ?_
  refine lv_ifnonnull (tgt := 12) hx hb dX1_addKept_1 (by decide) ?_
  refine lv_aload_n hx hb dX1_addKept_12 rfl (lv_at hl 1 rfl) ?_
  refine lv_ifnull hx hb dX1_addKept_13 ?_
  refine lv_aload_n hx hb dX1_addKept_16 rfl (lv_at hl 3 rfl) ?_
  refine lv_aload_n hx hb dX1_addKept_17 rfl (lv_at hl 0 rfl) ?_
  refine lv_aload_n hx hb dX1_addKept_18 rfl (lv_at hl 1 rfl) ?_
  refine lv_aload_n hx hb dX1_addKept_19 rfl (lv_at hl 2 rfl) ?_
  refine m_kS (As := [.ref r0, .ref r1, .ref r2]) (rest := [.ref r3]) (rm := { frames := 2, cells := 2, slots := 68, locals := 40 }) ⟨hx, hb, hml, hown, hts⟩ (t_X1_mergedNode_RRR l D k z _ _ r0 r1 r2 hk_r0 hk_r1 hk_r2 hT) (cwS 3 hts gX1_addKept_X1_mergedNode rfl rfl rfl (by decide +kernel) ⟨Nat.le_of_ble_eq_true rfl, Nat.le_of_ble_eq_true rfl⟩) hz hcx hm hS rfl hl.1 rfl (Nat.le_of_ble_eq_true rfl) dX1_addKept_20 ⟨Nat.le_of_ble_eq_true rfl, Nat.le_of_ble_eq_true rfl⟩ (fun v M1 H locs hv hm hS => ?_)
  obtain ⟨κ1, hT9, hE9, hv1⟩ := hv
  have hk_r0 := hE9.k hT hk_r0
  have hk_r1 := hE9.k hT hk_r1
  have hk_r2 := hE9.k hT hk_r2
  have hk_r3 := hE9.k hT hk_r3
  have hE := hE.trans hT0 hT hE9
  have hT := hT9
  obtain ⟨Mc1, hMx⟩ : ∃ x : mM, x = M1 := ⟨M1, rfl⟩
  subst hMx
  obtain ⟨x1, hv1, hk_x1⟩ := hv1
  subst hv1
  refine W.eq (g2 := F0 m 23 ls [.ref x1, .ref r3]) rfl ?_
  refine W.widen (k := 2) (n := 68) (Nat.le_of_ble_eq_true rfl) (Nat.le_of_ble_eq_true rfl) ?_
  have hm : mm D (AZ z) Mc1 H := hm
  obtain ⟨v0_2, v1_2, hM_r3_2, hk_v0_2, hn_v1_2⟩ := hT.tree hk_r3
  refine m_kV (As := [.ref x1]) (rest := []) (rm := { frames := 0, cells := 0, slots := 0, locals := 0 }) ⟨hx, hb, hml, hown, hts⟩ (t_X4_add_R l D k z _ _ r3 x1 hk_r3 hk_x1 hT) (cwV 1 hts gX1_addKept_X4_add rfl rfl rfl (by decide +kernel) ⟨Nat.le_of_ble_eq_true rfl, Nat.le_of_ble_eq_true rfl⟩) (m_recv hK hm (q := (RX4, TX4, 2)) rfl hM_r3_2) hz hcx hm hS rfl hl.1 rfl (Nat.le_of_ble_eq_true rfl) dX1_addKept_23 ⟨Nat.le_of_ble_eq_true rfl, Nat.le_of_ble_eq_true rfl⟩ (fun v M1 H locs hv hm hS => ?_)
  obtain ⟨κ2, hT9, hE9, hv1⟩ := hv
  have hk_r0 := hE9.k hT hk_r0
  have hk_r1 := hE9.k hT hk_r1
  have hk_r2 := hE9.k hT hk_r2
  have hk_r3 := hE9.k hT hk_r3
  have hE := hE.trans hT0 hT hE9
  have hT := hT9
  obtain ⟨Mc2, hMx⟩ : ∃ x : mM, x = M1 := ⟨M1, rfl⟩
  subst hMx
  subst hv1
  refine W.eq (g2 := F0 m 26 ls []) rfl ?_
  refine W.widen (k := 2) (n := 68) (Nat.le_of_ble_eq_true rfl) (Nat.le_of_ble_eq_true rfl) ?_
  have hm : mm D (AZ z) Mc2 H := hm
  refine W.vret hx hb hr (fun t ht hW => ⟨⟨none, _, rfl, ?_, by rw [ht]; exact hm⟩, hS.F ht⟩) hS.2.2 dX1_addKept_26
  exact ⟨_, hT, hE, rfl⟩

