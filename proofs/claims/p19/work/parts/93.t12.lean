set_option maxHeartbeats 4000000 in
set_option maxRecDepth 100000 in
theorem t_X2_withCell_III (l : Launch) (D : va_G) (k : Nat → ClassId) (z : Nat) (M : mM) (κ : Nat → Option KD) (h0 : Nat) (a0 : Int32) (a1 : Int32) (a2 : Int32) (hk_h0 : κ h0 = some .node) (hT : TM k κ M) : mK l yX2_withCell wsX2_withCell ({ frames := 2, cells := 2, slots := 68, locals := 40 }) D k z [.ref h0, .int a0, .int a1, .int a2] M (fun v M' => ∃ κ', TM k κ' M' ∧ kx κ M κ' M' ∧ ∃ a, v = some (.ref a) ∧ κ' a = some .node) := by
  refine Met.ofW (cc := cX2_withCell) (maxL := 5) (ret := (some (.object "CommitTree$Node"))) (by decide) rfl ?_
  intro p e s m args below meth c s₁ B hml hv
  obtain ⟨rfl, hz, hcx, hm⟩ := hv
  have hx := B.exec
  have hb := B.bytes
  have hr := B.returns
  have hts := atoms_spec (ws := wsX2_withCell) B.pre
  have hown : s.vm.findClass RX2 = some m.cls := findClass_of_methodNamed B.named
  have hlocks := B.notSynchronized
  have hK := hcx.1
  have hS : va_S (AZ z) s.heap s.heap [] := va_S.rf
  have hA : ∀ q, s.heap.size ≤ q → AZ z q := fun q h => Nat.le_trans hz h
  have hl := lv_entry ([.ref h0, .int a0, .int a1, .int a2]) (n := 5) (Nat.le_of_ble_eq_true rfl)
  rw [lg_entry_eq]
  generalize (lg_sl ([.ref h0, .int a0, .int a1, .int a2]) ++ List.replicate (5 - (lg_sl ([.ref h0, .int a0, .int a1, .int a2])).length) Slot.unset).toArray = ls at hl ⊢
  have hl : lv_has ls 5 [(0, .ref h0), (1, .int a0), (2, .int a1), (3, .int a2)] := hl
  have f9 := hts (.fieldLink RX2 9 "CommitTree$Node" "id" "I") (by decide +kernel)
  have f15 := hts (.fieldLink RX2 15 "CommitTree$Node" "directory" "Z") (by decide +kernel)
  have f22 := hts (.fieldLink RX2 22 "CommitTree$Node" "cells" "[I") (by decide +kernel)
  have wX2 : ∀ w ∈ wsX20, w ∈ wsX2_withCell := by decide +kernel
  have hT0 := hT
  have hE : kx κ M κ M := kx.refl _ _
  refine lv_aload_n hx hb dX2_withCell_0 rfl (lv_at hl 0 rfl) ?_
  obtain ⟨v0_1, v1_1, v2_1, v3_1, hM_h0_1, hz_v1_1, hk_v3_1⟩ := hT.node hk_h0
  refine m_get (T := TX2) (N := 4) (ci := 2) (v := .ref v3_1) hx hb hts wX2 hown hK hm hM_h0_1 rfl 3 (by decide) f22 (fun _ h9 => h9) rfl dX2_withCell_1 ?_
  obtain ⟨n_3, f_3, hM_v3_1_3, hn_3⟩ := hT.ints hk_v3_1
  refine m_clone hx hb (hml.trans hl.1.symm) (ad := "[I") hown (hts (.methodLink RX2 29 ⟨"[I", "clone", "()Ljava/lang/Object;"⟩) (by decide +kernel)) (hts (.sameMethod "[I" "java/lang/Object" "clone" "()Ljava/lang/Object;") (by decide +kernel)) (hts (.native ⟨"java/lang/Object", "clone", "()Ljava/lang/Object;"⟩) (by decide +kernel)) (hts (.instanceMethod ⟨"java/lang/Object", "clone", "()Ljava/lang/Object;"⟩) (by decide +kernel)) (hts (.selects "[I" ⟨"[I", "clone", "()Ljava/lang/Object;"⟩ ⟨"java/lang/Object", "clone", "()Ljava/lang/Object;"⟩) (by decide +kernel)) hcx.2.2.2.1.2 hK hm hS hA 0 (x := (n_3, .inl f_3)) (ty := .int) hM_v3_1_3 rfl (va_nm_int (hK.2 0 _ rfl).2) (fun i v hv => va_fit (ty := .int) (F := fun j => .int (f_3 j)) (fun i _ => rfl) i v hv) (Nat.le_of_ble_eq_true rfl) (Nat.le_of_ble_eq_true rfl) (Nat.le_of_ble_eq_true rfl) (show 0 + n_3 ≤ 68 by omega) dX2_withCell_4 (fun q2 H hq2 hm hS => ?_)
  refine W.widen (k := 1) (n := 64) (Nat.le_of_ble_eq_true rfl) (show 0 + n_3 ≤ 64 by omega) ?_
  have hm : mm D (AZ z) (mu M q2 (.inl (k 0, n_3, .inl f_3))) H := hm
  have hz0_q2 := hE.no hT0 hT hq2
  have hk0_q2 := hT.no hq2
  have hR_4 : (mu M q2 (.inl (k 0, n_3, .inl f_3))) h0 = _ := (mu_ne (m_fr hq2 hM_h0_1)).trans hM_h0_1
  have hR_5 : (mu M q2 (.inl (k 0, n_3, .inl f_3))) v3_1 = _ := (mu_ne (m_fr hq2 hM_v3_1_3)).trans hM_v3_1_3
  have hM_q2 : (mu M q2 (.inl (k 0, n_3, .inl f_3))) q2 = _ := mu_self _ _ _
  have hT : TM k κ (mu M q2 (.inl (k 0, n_3, .inl f_3))) := hT.new0 hq2
  have hE : kx κ M κ (mu M q2 (.inl (k 0, n_3, .inl f_3))) := hE.new0 hq2
  generalize (mu M q2 (.inl (k 0, n_3, .inl f_3))) = Mc1 at hm hT hE hR_4 hR_5 hM_q2
  have hT9 : TM k (kup κ q2 .ints) Mc1 := hT.adopt hk0_q2 hM_q2 (show wf k (kup κ q2 .ints) .ints _ from ⟨n_3, f_3, rfl, hn_3⟩)
  have hE : kx κ M (kup κ q2 .ints) Mc1 := hE.adopt hz0_q2
  have hT := hT9
  have hk_h0 := kup_old (d := .ints) hk0_q2 hk_h0
  have hk_v3_1 := kup_old (d := .ints) hk0_q2 hk_v3_1
  have hk_q2 : kup κ q2 .ints q2 = some .ints := kup_self _ _ _
  generalize kup κ q2 .ints = κ2 at hT hE hk_h0 hk_v3_1 hk_q2
  refine m_castA hx hb hown (hts (.classLink RX2 30 "[I") (by decide +kernel)) hm hM_q2 (va_nm_int (hK.2 0 _ rfl).2) dX2_withCell_7 ?_
  refine lv_astore (lv' := [(4, .ref q2), (0, .ref h0), (1, .int a0), (2, .int a1), (3, .int a2)]) hx hb dX2_withCell_10 hl (by decide) rfl (fun ls hl => ?_)
  refine lv_iload_n hx hb dX2_withCell_12 rfl (lv_at hl 2 rfl) ?_
  refine lv_if_lt (tgt := 28) hx hb dX2_withCell_13 (by decide) (fun c6 => ?_) (fun c6 => ?_)
  · refine m_new (T := TX2) (N := 4) (ci := 2) (fs := [.int 0, .int 0, .int 0, .null]) hx hb hts wX2 tyX2 tyX2_ok hown (hts (.classLink RX2 10 RX2) (by decide +kernel)) (hts (.instantiable RX2 4) (by decide +kernel)) (hts (.initialized RX2) (by decide +kernel)) hK hm hS hA rfl (fun j hj => by rcases (show j = 0 ∨ j = 1 ∨ j = 2 ∨ j = 3 by omega) with rfl | rfl | rfl | rfl <;> rfl) (Nat.le_of_ble_eq_true rfl) (Nat.le_of_ble_eq_true rfl) dX2_withCell_28 (fun q7 H hq7 hm hS => ?_)
    refine W.widen (k := 2) (n := 68) (Nat.le_of_ble_eq_true rfl) (Nat.le_of_ble_eq_true rfl) ?_
    have hm : mm D (AZ z) (mu Mc1 q7 (.inr (2, [.int 0, .int 0, .int 0, .null]))) H := hm
    have hz0_q7 := hE.no hT0 hT hq7
    have hk0_q7 := hT.no hq7
    have hR_8 : (mu Mc1 q7 (.inr (2, [.int 0, .int 0, .int 0, .null]))) h0 = _ := (mu_ne (m_fr hq7 hR_4)).trans hR_4
    have hR_9 : (mu Mc1 q7 (.inr (2, [.int 0, .int 0, .int 0, .null]))) v3_1 = _ := (mu_ne (m_fr hq7 hR_5)).trans hR_5
    have hR_10 : (mu Mc1 q7 (.inr (2, [.int 0, .int 0, .int 0, .null]))) q2 = _ := (mu_ne (m_fr hq7 hM_q2)).trans hM_q2
    have hM_q7 : (mu Mc1 q7 (.inr (2, [.int 0, .int 0, .int 0, .null]))) q7 = _ := mu_self _ _ _
    have hT : TM k κ2 (mu Mc1 q7 (.inr (2, [.int 0, .int 0, .int 0, .null]))) := hT.new0 hq7
    have hE : kx κ M κ2 (mu Mc1 q7 (.inr (2, [.int 0, .int 0, .int 0, .null]))) := hE.new0 hq7
    generalize (mu Mc1 q7 (.inr (2, [.int 0, .int 0, .int 0, .null]))) = Mc3 at hm hT hE hR_8 hR_9 hR_10 hM_q7
    refine lv_dup hx hb dX2_withCell_31 rfl ?_
    refine lv_aload_n hx hb dX2_withCell_32 rfl (lv_at hl 1 rfl) ?_
    refine m_get (T := TX2) (N := 4) (ci := 2) (v := .int v0_1) hx hb hts wX2 hown hK hm hR_8 rfl 0 (by decide) f9 (fun _ h9 => h9) rfl dX2_withCell_33 ?_
    refine lv_aload_n hx hb dX2_withCell_36 rfl (lv_at hl 1 rfl) ?_
    rcases hz_v1_1 with h9 | h9
    · subst h9
      refine m_get (T := TX2) (N := 4) (ci := 2) (v := .int 0) hx hb hts wX2 hown hK hm hR_8 rfl 1 (by decide) f15 (fun _ h9 => h9) rfl dX2_withCell_37 ?_
      refine lv_iload_n hx hb dX2_withCell_40 rfl (lv_at hl 4 rfl) ?_
      refine lv_aload hx hb dX2_withCell_41 (lv_at hl 0 rfl) ?_
      refine m_kI (As := [.int v0_1, .int 0, .int a2, .ref q2]) (rest := [.ref q7]) (rm := { frames := 1, cells := 0, slots := 0, locals := 12 }) ⟨hx, hb, hml, hown, hts⟩ (c_X2_init l D k z _ q7 q2 v0_1 0 a2 (by decide) hM_q7) (cwI 4 hts gX2_withCell_X2_init rfl rfl rfl (hts (.initialized RX2) (by decide +kernel)) (hts (.methodLink RX2 26 yX2_init) (by decide +kernel)) (hts (.instanceMethod yX2_init) (by decide +kernel)) rfl (by decide +kernel) ⟨Nat.le_of_ble_eq_true rfl, Nat.le_of_ble_eq_true rfl⟩) hz hcx hm hS rfl hl.1 rfl (Nat.le_of_ble_eq_true rfl) dX2_withCell_43 ⟨Nat.le_of_ble_eq_true rfl, Nat.le_of_ble_eq_true rfl⟩ (fun v M1 H locs hv hm hS => ?_)
      obtain ⟨hv1, hM1⟩ := hv
      subst hv1
      rw [hM1] at hm
      have hR_11 : (mu Mc3 q7 (.inr (2, [.int v0_1, .int 0, .int a2, .ref q2]))) h0 = _ := (mu_ne (fun q9 => by rw [q9, hk0_q7] at hk_h0; cases hk_h0)).trans hR_8
      have hR_12 : (mu Mc3 q7 (.inr (2, [.int v0_1, .int 0, .int a2, .ref q2]))) v3_1 = _ := (mu_ne (fun q9 => by rw [q9, hk0_q7] at hk_v3_1; cases hk_v3_1)).trans hR_9
      have hR_13 : (mu Mc3 q7 (.inr (2, [.int v0_1, .int 0, .int a2, .ref q2]))) q2 = _ := (mu_ne (fun q9 => by rw [q9, hk0_q7] at hk_q2; cases hk_q2)).trans hR_10
      have hT : TM k κ2 (mu Mc3 q7 (.inr (2, [.int v0_1, .int 0, .int a2, .ref q2]))) := fun b9 d9 hb9 => by
        obtain ⟨e9, h9, h8⟩ := hT b9 d9 hb9
        exact ⟨e9, (mu_ne (fun q9 => by rw [q9, hk0_q7] at hb9; cases hb9)).trans h9, h8⟩
      have hE : kx κ M κ2 (mu Mc3 q7 (.inr (2, [.int v0_1, .int 0, .int a2, .ref q2]))) := ⟨hE.1, fun b9 e9 hb9 hn9 => (mu_ne (m_fr hz0_q7 hb9)).trans (hE.2 b9 e9 hb9 hn9)⟩
      have hM_q7 : (mu Mc3 q7 (.inr (2, [.int v0_1, .int 0, .int a2, .ref q2]))) q7 = _ := mu_self _ _ _
      generalize (mu Mc3 q7 (.inr (2, [.int v0_1, .int 0, .int a2, .ref q2]))) = Mc4 at hm hT hE hR_11 hR_12 hR_13 hM_q7
      have hk_old := hk0_q7
      have hk_h0 := kup_old (d := .node) hk0_q7 hk_h0
      have hk_v3_1 := kup_old (d := .node) hk0_q7 hk_v3_1
      have hk_q2 := kup_old (d := .node) hk0_q7 hk_q2
      have hT : TM k (kup κ2 q7 .node) Mc4 := hT.adopt hk0_q7 hM_q7 (show wf k (kup κ2 q7 .node) .node _ from ⟨v0_1, 0, a2, q2, rfl, (Or.inl rfl), hk_q2⟩)
      have hE : kx κ M (kup κ2 q7 .node) Mc4 := hE.adopt hz0_q7
      have hk_q7 : kup κ2 q7 .node q7 = some .node := kup_self _ _ _
      generalize kup κ2 q7 .node = κ5 at hT hE hk_h0 hk_v3_1 hk_q2 hk_q7
      refine W.eq (g2 := F0 m 46 ls [.ref q7]) rfl ?_
      refine W.widen (k := 2) (n := 68) (Nat.le_of_ble_eq_true rfl) (Nat.le_of_ble_eq_true rfl) ?_
      have hm : mm D (AZ z) Mc4 H := hm
      refine W.aret (v := .ref q7) hx hb hr (Or.inl ⟨_, rfl⟩) (Or.inr ⟨_, rfl⟩) (fun t ht hW => ⟨⟨some (.ref q7), _, rfl, ?_, by rw [ht]; exact hm⟩, hS.F ht⟩) hS.2.2 dX2_withCell_46
      exact ⟨_, hT, hE, ⟨_, rfl, hk_q7⟩⟩
    · subst h9
      refine m_get (T := TX2) (N := 4) (ci := 2) (v := .int 1) hx hb hts wX2 hown hK hm hR_8 rfl 1 (by decide) f15 (fun _ h9 => h9) rfl dX2_withCell_37 ?_
      refine lv_iload_n hx hb dX2_withCell_40 rfl (lv_at hl 4 rfl) ?_
      refine lv_aload hx hb dX2_withCell_41 (lv_at hl 0 rfl) ?_
      refine m_kI (As := [.int v0_1, .int 1, .int a2, .ref q2]) (rest := [.ref q7]) (rm := { frames := 1, cells := 0, slots := 0, locals := 12 }) ⟨hx, hb, hml, hown, hts⟩ (c_X2_init l D k z _ q7 q2 v0_1 1 a2 (by decide) hM_q7) (cwI 4 hts gX2_withCell_X2_init rfl rfl rfl (hts (.initialized RX2) (by decide +kernel)) (hts (.methodLink RX2 26 yX2_init) (by decide +kernel)) (hts (.instanceMethod yX2_init) (by decide +kernel)) rfl (by decide +kernel) ⟨Nat.le_of_ble_eq_true rfl, Nat.le_of_ble_eq_true rfl⟩) hz hcx hm hS rfl hl.1 rfl (Nat.le_of_ble_eq_true rfl) dX2_withCell_43 ⟨Nat.le_of_ble_eq_true rfl, Nat.le_of_ble_eq_true rfl⟩ (fun v M1 H locs hv hm hS => ?_)
      obtain ⟨hv1, hM1⟩ := hv
      subst hv1
      rw [hM1] at hm
      have hR_14 : (mu Mc3 q7 (.inr (2, [.int v0_1, .int 1, .int a2, .ref q2]))) h0 = _ := (mu_ne (fun q9 => by rw [q9, hk0_q7] at hk_h0; cases hk_h0)).trans hR_8
      have hR_15 : (mu Mc3 q7 (.inr (2, [.int v0_1, .int 1, .int a2, .ref q2]))) v3_1 = _ := (mu_ne (fun q9 => by rw [q9, hk0_q7] at hk_v3_1; cases hk_v3_1)).trans hR_9
      have hR_16 : (mu Mc3 q7 (.inr (2, [.int v0_1, .int 1, .int a2, .ref q2]))) q2 = _ := (mu_ne (fun q9 => by rw [q9, hk0_q7] at hk_q2; cases hk_q2)).trans hR_10
      have hT : TM k κ2 (mu Mc3 q7 (.inr (2, [.int v0_1, .int 1, .int a2, .ref q2]))) := fun b9 d9 hb9 => by
        obtain ⟨e9, h9, h8⟩ := hT b9 d9 hb9
        exact ⟨e9, (mu_ne (fun q9 => by rw [q9, hk0_q7] at hb9; cases hb9)).trans h9, h8⟩
      have hE : kx κ M κ2 (mu Mc3 q7 (.inr (2, [.int v0_1, .int 1, .int a2, .ref q2]))) := ⟨hE.1, fun b9 e9 hb9 hn9 => (mu_ne (m_fr hz0_q7 hb9)).trans (hE.2 b9 e9 hb9 hn9)⟩
      have hM_q7 : (mu Mc3 q7 (.inr (2, [.int v0_1, .int 1, .int a2, .ref q2]))) q7 = _ := mu_self _ _ _
      generalize (mu Mc3 q7 (.inr (2, [.int v0_1, .int 1, .int a2, .ref q2]))) = Mc6 at hm hT hE hR_14 hR_15 hR_16 hM_q7
      have hk_old := hk0_q7
      have hk_h0 := kup_old (d := .node) hk0_q7 hk_h0
      have hk_v3_1 := kup_old (d := .node) hk0_q7 hk_v3_1
      have hk_q2 := kup_old (d := .node) hk0_q7 hk_q2
      have hT : TM k (kup κ2 q7 .node) Mc6 := hT.adopt hk0_q7 hM_q7 (show wf k (kup κ2 q7 .node) .node _ from ⟨v0_1, 1, a2, q2, rfl, (Or.inr rfl), hk_q2⟩)
      have hE : kx κ M (kup κ2 q7 .node) Mc6 := hE.adopt hz0_q7
      have hk_q7 : kup κ2 q7 .node q7 = some .node := kup_self _ _ _
      generalize kup κ2 q7 .node = κ7 at hT hE hk_h0 hk_v3_1 hk_q2 hk_q7
      refine W.eq (g2 := F0 m 46 ls [.ref q7]) rfl ?_
      refine W.widen (k := 2) (n := 68) (Nat.le_of_ble_eq_true rfl) (Nat.le_of_ble_eq_true rfl) ?_
      have hm : mm D (AZ z) Mc6 H := hm
      refine W.aret (v := .ref q7) hx hb hr (Or.inl ⟨_, rfl⟩) (Or.inr ⟨_, rfl⟩) (fun t ht hW => ⟨⟨some (.ref q7), _, rfl, ?_, by rw [ht]; exact hm⟩, hS.F ht⟩) hS.2.2 dX2_withCell_46
      exact ⟨_, hT, hE, ⟨_, rfl, hk_q7⟩⟩
  · refine lv_iload_n hx hb dX2_withCell_16 rfl (lv_at hl 2 rfl) ?_
    refine lv_aload hx hb dX2_withCell_17 (lv_at hl 0 rfl) ?_
    refine m_alen hx hb hK hm 0 hM_q2 rfl (v := nI n_3) rfl dX2_withCell_19 ?_
    refine lv_icmp_ge (tgt := 28) hx hb dX2_withCell_20 (by decide) (fun c17 => ?_) (fun c17 => ?_)
    · refine m_new (T := TX2) (N := 4) (ci := 2) (fs := [.int 0, .int 0, .int 0, .null]) hx hb hts wX2 tyX2 tyX2_ok hown (hts (.classLink RX2 10 RX2) (by decide +kernel)) (hts (.instantiable RX2 4) (by decide +kernel)) (hts (.initialized RX2) (by decide +kernel)) hK hm hS hA rfl (fun j hj => by rcases (show j = 0 ∨ j = 1 ∨ j = 2 ∨ j = 3 by omega) with rfl | rfl | rfl | rfl <;> rfl) (Nat.le_of_ble_eq_true rfl) (Nat.le_of_ble_eq_true rfl) dX2_withCell_28 (fun q18 H hq18 hm hS => ?_)
      refine W.widen (k := 2) (n := 68) (Nat.le_of_ble_eq_true rfl) (Nat.le_of_ble_eq_true rfl) ?_
      have hm : mm D (AZ z) (mu Mc1 q18 (.inr (2, [.int 0, .int 0, .int 0, .null]))) H := hm
      have hz0_q18 := hE.no hT0 hT hq18
      have hk0_q18 := hT.no hq18
      have hR_19 : (mu Mc1 q18 (.inr (2, [.int 0, .int 0, .int 0, .null]))) h0 = _ := (mu_ne (m_fr hq18 hR_4)).trans hR_4
      have hR_20 : (mu Mc1 q18 (.inr (2, [.int 0, .int 0, .int 0, .null]))) v3_1 = _ := (mu_ne (m_fr hq18 hR_5)).trans hR_5
      have hR_21 : (mu Mc1 q18 (.inr (2, [.int 0, .int 0, .int 0, .null]))) q2 = _ := (mu_ne (m_fr hq18 hM_q2)).trans hM_q2
      have hM_q18 : (mu Mc1 q18 (.inr (2, [.int 0, .int 0, .int 0, .null]))) q18 = _ := mu_self _ _ _
      have hT : TM k κ2 (mu Mc1 q18 (.inr (2, [.int 0, .int 0, .int 0, .null]))) := hT.new0 hq18
      have hE : kx κ M κ2 (mu Mc1 q18 (.inr (2, [.int 0, .int 0, .int 0, .null]))) := hE.new0 hq18
      generalize (mu Mc1 q18 (.inr (2, [.int 0, .int 0, .int 0, .null]))) = Mc8 at hm hT hE hR_19 hR_20 hR_21 hM_q18
      refine lv_dup hx hb dX2_withCell_31 rfl ?_
      refine lv_aload_n hx hb dX2_withCell_32 rfl (lv_at hl 1 rfl) ?_
      refine m_get (T := TX2) (N := 4) (ci := 2) (v := .int v0_1) hx hb hts wX2 hown hK hm hR_19 rfl 0 (by decide) f9 (fun _ h9 => h9) rfl dX2_withCell_33 ?_
      refine lv_aload_n hx hb dX2_withCell_36 rfl (lv_at hl 1 rfl) ?_
      rcases hz_v1_1 with h9 | h9
      · subst h9
        refine m_get (T := TX2) (N := 4) (ci := 2) (v := .int 0) hx hb hts wX2 hown hK hm hR_19 rfl 1 (by decide) f15 (fun _ h9 => h9) rfl dX2_withCell_37 ?_
        refine lv_iload_n hx hb dX2_withCell_40 rfl (lv_at hl 4 rfl) ?_
        refine lv_aload hx hb dX2_withCell_41 (lv_at hl 0 rfl) ?_
        refine m_kI (As := [.int v0_1, .int 0, .int a2, .ref q2]) (rest := [.ref q18]) (rm := { frames := 1, cells := 0, slots := 0, locals := 12 }) ⟨hx, hb, hml, hown, hts⟩ (c_X2_init l D k z _ q18 q2 v0_1 0 a2 (by decide) hM_q18) (cwI 4 hts gX2_withCell_X2_init rfl rfl rfl (hts (.initialized RX2) (by decide +kernel)) (hts (.methodLink RX2 26 yX2_init) (by decide +kernel)) (hts (.instanceMethod yX2_init) (by decide +kernel)) rfl (by decide +kernel) ⟨Nat.le_of_ble_eq_true rfl, Nat.le_of_ble_eq_true rfl⟩) hz hcx hm hS rfl hl.1 rfl (Nat.le_of_ble_eq_true rfl) dX2_withCell_43 ⟨Nat.le_of_ble_eq_true rfl, Nat.le_of_ble_eq_true rfl⟩ (fun v M1 H locs hv hm hS => ?_)
        obtain ⟨hv1, hM1⟩ := hv
        subst hv1
        rw [hM1] at hm
        have hR_22 : (mu Mc8 q18 (.inr (2, [.int v0_1, .int 0, .int a2, .ref q2]))) h0 = _ := (mu_ne (fun q9 => by rw [q9, hk0_q18] at hk_h0; cases hk_h0)).trans hR_19
        have hR_23 : (mu Mc8 q18 (.inr (2, [.int v0_1, .int 0, .int a2, .ref q2]))) v3_1 = _ := (mu_ne (fun q9 => by rw [q9, hk0_q18] at hk_v3_1; cases hk_v3_1)).trans hR_20
        have hR_24 : (mu Mc8 q18 (.inr (2, [.int v0_1, .int 0, .int a2, .ref q2]))) q2 = _ := (mu_ne (fun q9 => by rw [q9, hk0_q18] at hk_q2; cases hk_q2)).trans hR_21
        have hT : TM k κ2 (mu Mc8 q18 (.inr (2, [.int v0_1, .int 0, .int a2, .ref q2]))) := fun b9 d9 hb9 => by
          obtain ⟨e9, h9, h8⟩ := hT b9 d9 hb9
          exact ⟨e9, (mu_ne (fun q9 => by rw [q9, hk0_q18] at hb9; cases hb9)).trans h9, h8⟩
        have hE : kx κ M κ2 (mu Mc8 q18 (.inr (2, [.int v0_1, .int 0, .int a2, .ref q2]))) := ⟨hE.1, fun b9 e9 hb9 hn9 => (mu_ne (m_fr hz0_q18 hb9)).trans (hE.2 b9 e9 hb9 hn9)⟩
        have hM_q18 : (mu Mc8 q18 (.inr (2, [.int v0_1, .int 0, .int a2, .ref q2]))) q18 = _ := mu_self _ _ _
        generalize (mu Mc8 q18 (.inr (2, [.int v0_1, .int 0, .int a2, .ref q2]))) = Mc9 at hm hT hE hR_22 hR_23 hR_24 hM_q18
        have hk_old := hk0_q18
        have hk_h0 := kup_old (d := .node) hk0_q18 hk_h0
        have hk_v3_1 := kup_old (d := .node) hk0_q18 hk_v3_1
        have hk_q2 := kup_old (d := .node) hk0_q18 hk_q2
        have hT : TM k (kup κ2 q18 .node) Mc9 := hT.adopt hk0_q18 hM_q18 (show wf k (kup κ2 q18 .node) .node _ from ⟨v0_1, 0, a2, q2, rfl, (Or.inl rfl), hk_q2⟩)
        have hE : kx κ M (kup κ2 q18 .node) Mc9 := hE.adopt hz0_q18
        have hk_q18 : kup κ2 q18 .node q18 = some .node := kup_self _ _ _
        generalize kup κ2 q18 .node = κ10 at hT hE hk_h0 hk_v3_1 hk_q2 hk_q18
        refine W.eq (g2 := F0 m 46 ls [.ref q18]) rfl ?_
        refine W.widen (k := 2) (n := 68) (Nat.le_of_ble_eq_true rfl) (Nat.le_of_ble_eq_true rfl) ?_
        have hm : mm D (AZ z) Mc9 H := hm
        refine W.aret (v := .ref q18) hx hb hr (Or.inl ⟨_, rfl⟩) (Or.inr ⟨_, rfl⟩) (fun t ht hW => ⟨⟨some (.ref q18), _, rfl, ?_, by rw [ht]; exact hm⟩, hS.F ht⟩) hS.2.2 dX2_withCell_46
        exact ⟨_, hT, hE, ⟨_, rfl, hk_q18⟩⟩
      · subst h9
        refine m_get (T := TX2) (N := 4) (ci := 2) (v := .int 1) hx hb hts wX2 hown hK hm hR_19 rfl 1 (by decide) f15 (fun _ h9 => h9) rfl dX2_withCell_37 ?_
        refine lv_iload_n hx hb dX2_withCell_40 rfl (lv_at hl 4 rfl) ?_
        refine lv_aload hx hb dX2_withCell_41 (lv_at hl 0 rfl) ?_
        refine m_kI (As := [.int v0_1, .int 1, .int a2, .ref q2]) (rest := [.ref q18]) (rm := { frames := 1, cells := 0, slots := 0, locals := 12 }) ⟨hx, hb, hml, hown, hts⟩ (c_X2_init l D k z _ q18 q2 v0_1 1 a2 (by decide) hM_q18) (cwI 4 hts gX2_withCell_X2_init rfl rfl rfl (hts (.initialized RX2) (by decide +kernel)) (hts (.methodLink RX2 26 yX2_init) (by decide +kernel)) (hts (.instanceMethod yX2_init) (by decide +kernel)) rfl (by decide +kernel) ⟨Nat.le_of_ble_eq_true rfl, Nat.le_of_ble_eq_true rfl⟩) hz hcx hm hS rfl hl.1 rfl (Nat.le_of_ble_eq_true rfl) dX2_withCell_43 ⟨Nat.le_of_ble_eq_true rfl, Nat.le_of_ble_eq_true rfl⟩ (fun v M1 H locs hv hm hS => ?_)
        obtain ⟨hv1, hM1⟩ := hv
        subst hv1
        rw [hM1] at hm
        have hR_25 : (mu Mc8 q18 (.inr (2, [.int v0_1, .int 1, .int a2, .ref q2]))) h0 = _ := (mu_ne (fun q9 => by rw [q9, hk0_q18] at hk_h0; cases hk_h0)).trans hR_19
        have hR_26 : (mu Mc8 q18 (.inr (2, [.int v0_1, .int 1, .int a2, .ref q2]))) v3_1 = _ := (mu_ne (fun q9 => by rw [q9, hk0_q18] at hk_v3_1; cases hk_v3_1)).trans hR_20
        have hR_27 : (mu Mc8 q18 (.inr (2, [.int v0_1, .int 1, .int a2, .ref q2]))) q2 = _ := (mu_ne (fun q9 => by rw [q9, hk0_q18] at hk_q2; cases hk_q2)).trans hR_21
        have hT : TM k κ2 (mu Mc8 q18 (.inr (2, [.int v0_1, .int 1, .int a2, .ref q2]))) := fun b9 d9 hb9 => by
          obtain ⟨e9, h9, h8⟩ := hT b9 d9 hb9
          exact ⟨e9, (mu_ne (fun q9 => by rw [q9, hk0_q18] at hb9; cases hb9)).trans h9, h8⟩
        have hE : kx κ M κ2 (mu Mc8 q18 (.inr (2, [.int v0_1, .int 1, .int a2, .ref q2]))) := ⟨hE.1, fun b9 e9 hb9 hn9 => (mu_ne (m_fr hz0_q18 hb9)).trans (hE.2 b9 e9 hb9 hn9)⟩
        have hM_q18 : (mu Mc8 q18 (.inr (2, [.int v0_1, .int 1, .int a2, .ref q2]))) q18 = _ := mu_self _ _ _
        generalize (mu Mc8 q18 (.inr (2, [.int v0_1, .int 1, .int a2, .ref q2]))) = Mc11 at hm hT hE hR_25 hR_26 hR_27 hM_q18
        have hk_old := hk0_q18
        have hk_h0 := kup_old (d := .node) hk0_q18 hk_h0
        have hk_v3_1 := kup_old (d := .node) hk0_q18 hk_v3_1
        have hk_q2 := kup_old (d := .node) hk0_q18 hk_q2
        have hT : TM k (kup κ2 q18 .node) Mc11 := hT.adopt hk0_q18 hM_q18 (show wf k (kup κ2 q18 .node) .node _ from ⟨v0_1, 1, a2, q2, rfl, (Or.inr rfl), hk_q2⟩)
        have hE : kx κ M (kup κ2 q18 .node) Mc11 := hE.adopt hz0_q18
        have hk_q18 : kup κ2 q18 .node q18 = some .node := kup_self _ _ _
        generalize kup κ2 q18 .node = κ12 at hT hE hk_h0 hk_v3_1 hk_q2 hk_q18
        refine W.eq (g2 := F0 m 46 ls [.ref q18]) rfl ?_
        refine W.widen (k := 2) (n := 68) (Nat.le_of_ble_eq_true rfl) (Nat.le_of_ble_eq_true rfl) ?_
        have hm : mm D (AZ z) Mc11 H := hm
        refine W.aret (v := .ref q18) hx hb hr (Or.inl ⟨_, rfl⟩) (Or.inr ⟨_, rfl⟩) (fun t ht hW => ⟨⟨some (.ref q18), _, rfl, ?_, by rw [ht]; exact hm⟩, hS.F ht⟩) hS.2.2 dX2_withCell_46
        exact ⟨_, hT, hE, ⟨_, rfl, hk_q18⟩⟩
    · refine lv_aload hx hb dX2_withCell_23 (lv_at hl 0 rfl) ?_
      refine lv_iload_n hx hb dX2_withCell_25 rfl (lv_at hl 2 rfl) ?_
      refine lv_iload_n hx hb dX2_withCell_26 rfl (lv_at hl 3 rfl) ?_
      refine m_iast hx hb hK hm hS 0 hM_q2 rfl (in_of (i := a0) (n := n_3) (by first | assumption | exact nI_pos (by omega)) (by assumption) (by first | decide | omega)) dX2_withCell_27 (fun H locs hm hS => ?_)
      have hm : mm D (AZ z) (mu Mc1 q2 (.inl (k 0, n_3, .inl (upd f_3 a0.toNatClampNeg a1)))) H := hm
      have hR_28 : (mu Mc1 q2 (.inl (k 0, n_3, .inl (upd f_3 a0.toNatClampNeg a1)))) h0 = _ := (mu_ne (kd_ne hk_h0 hk_q2 (by decide))).trans hR_4
      have hT : TM k κ2 (mu Mc1 q2 (.inl (k 0, n_3, .inl (upd f_3 a0.toNatClampNeg a1)))) := hT.put hk_q2 (show wf k κ2 .ints (.inl (k 0, n_3, .inl (upd f_3 a0.toNatClampNeg a1))) from ⟨n_3, (upd f_3 a0.toNatClampNeg a1), rfl, hn_3⟩)
      have hE : kx κ M κ2 (mu Mc1 q2 (.inl (k 0, n_3, .inl (upd f_3 a0.toNatClampNeg a1)))) := hE.put hk_q2
      generalize (mu Mc1 q2 (.inl (k 0, n_3, .inl (upd f_3 a0.toNatClampNeg a1)))) = Mc13 at hm hT hE hR_28
      refine m_new (T := TX2) (N := 4) (ci := 2) (fs := [.int 0, .int 0, .int 0, .null]) hx hb hts wX2 tyX2 tyX2_ok hown (hts (.classLink RX2 10 RX2) (by decide +kernel)) (hts (.instantiable RX2 4) (by decide +kernel)) (hts (.initialized RX2) (by decide +kernel)) hK hm hS hA rfl (fun j hj => by rcases (show j = 0 ∨ j = 1 ∨ j = 2 ∨ j = 3 by omega) with rfl | rfl | rfl | rfl <;> rfl) (Nat.le_of_ble_eq_true rfl) (Nat.le_of_ble_eq_true rfl) dX2_withCell_28 (fun q29 H hq29 hm hS => ?_)
      refine W.widen (k := 2) (n := 68) (Nat.le_of_ble_eq_true rfl) (Nat.le_of_ble_eq_true rfl) ?_
      have hm : mm D (AZ z) (mu Mc13 q29 (.inr (2, [.int 0, .int 0, .int 0, .null]))) H := hm
      have hz0_q29 := hE.no hT0 hT hq29
      have hk0_q29 := hT.no hq29
      have hR_30 : (mu Mc13 q29 (.inr (2, [.int 0, .int 0, .int 0, .null]))) h0 = _ := (mu_ne (m_fr hq29 hR_28)).trans hR_28
      have hM_q29 : (mu Mc13 q29 (.inr (2, [.int 0, .int 0, .int 0, .null]))) q29 = _ := mu_self _ _ _
      have hT : TM k κ2 (mu Mc13 q29 (.inr (2, [.int 0, .int 0, .int 0, .null]))) := hT.new0 hq29
      have hE : kx κ M κ2 (mu Mc13 q29 (.inr (2, [.int 0, .int 0, .int 0, .null]))) := hE.new0 hq29
      generalize (mu Mc13 q29 (.inr (2, [.int 0, .int 0, .int 0, .null]))) = Mc14 at hm hT hE hR_30 hM_q29
      refine lv_dup hx hb dX2_withCell_31 rfl ?_
      refine lv_aload_n hx hb dX2_withCell_32 rfl (lv_at hl 1 rfl) ?_
      refine m_get (T := TX2) (N := 4) (ci := 2) (v := .int v0_1) hx hb hts wX2 hown hK hm hR_30 rfl 0 (by decide) f9 (fun _ h9 => h9) rfl dX2_withCell_33 ?_
      refine lv_aload_n hx hb dX2_withCell_36 rfl (lv_at hl 1 rfl) ?_
      rcases hz_v1_1 with h9 | h9
      · subst h9
        refine m_get (T := TX2) (N := 4) (ci := 2) (v := .int 0) hx hb hts wX2 hown hK hm hR_30 rfl 1 (by decide) f15 (fun _ h9 => h9) rfl dX2_withCell_37 ?_
        refine lv_iload_n hx hb dX2_withCell_40 rfl (lv_at hl 4 rfl) ?_
        refine lv_aload hx hb dX2_withCell_41 (lv_at hl 0 rfl) ?_
        refine m_kI (As := [.int v0_1, .int 0, .int a2, .ref q2]) (rest := [.ref q29]) (rm := { frames := 1, cells := 0, slots := 0, locals := 12 }) ⟨hx, hb, hml, hown, hts⟩ (c_X2_init l D k z _ q29 q2 v0_1 0 a2 (by decide) hM_q29) (cwI 4 hts gX2_withCell_X2_init rfl rfl rfl (hts (.initialized RX2) (by decide +kernel)) (hts (.methodLink RX2 26 yX2_init) (by decide +kernel)) (hts (.instanceMethod yX2_init) (by decide +kernel)) rfl (by decide +kernel) ⟨Nat.le_of_ble_eq_true rfl, Nat.le_of_ble_eq_true rfl⟩) hz hcx hm hS rfl hl.1 rfl (Nat.le_of_ble_eq_true rfl) dX2_withCell_43 ⟨Nat.le_of_ble_eq_true rfl, Nat.le_of_ble_eq_true rfl⟩ (fun v M1 H locs hv hm hS => ?_)
        obtain ⟨hv1, hM1⟩ := hv
        subst hv1
        rw [hM1] at hm
        have hR_31 : (mu Mc14 q29 (.inr (2, [.int v0_1, .int 0, .int a2, .ref q2]))) h0 = _ := (mu_ne (fun q9 => by rw [q9, hk0_q29] at hk_h0; cases hk_h0)).trans hR_30
        have hT : TM k κ2 (mu Mc14 q29 (.inr (2, [.int v0_1, .int 0, .int a2, .ref q2]))) := fun b9 d9 hb9 => by
          obtain ⟨e9, h9, h8⟩ := hT b9 d9 hb9
          exact ⟨e9, (mu_ne (fun q9 => by rw [q9, hk0_q29] at hb9; cases hb9)).trans h9, h8⟩
        have hE : kx κ M κ2 (mu Mc14 q29 (.inr (2, [.int v0_1, .int 0, .int a2, .ref q2]))) := ⟨hE.1, fun b9 e9 hb9 hn9 => (mu_ne (m_fr hz0_q29 hb9)).trans (hE.2 b9 e9 hb9 hn9)⟩
        have hM_q29 : (mu Mc14 q29 (.inr (2, [.int v0_1, .int 0, .int a2, .ref q2]))) q29 = _ := mu_self _ _ _
        generalize (mu Mc14 q29 (.inr (2, [.int v0_1, .int 0, .int a2, .ref q2]))) = Mc15 at hm hT hE hR_31 hM_q29
        have hk_old := hk0_q29
        have hk_h0 := kup_old (d := .node) hk0_q29 hk_h0
        have hk_v3_1 := kup_old (d := .node) hk0_q29 hk_v3_1
        have hk_q2 := kup_old (d := .node) hk0_q29 hk_q2
        have hT : TM k (kup κ2 q29 .node) Mc15 := hT.adopt hk0_q29 hM_q29 (show wf k (kup κ2 q29 .node) .node _ from ⟨v0_1, 0, a2, q2, rfl, (Or.inl rfl), hk_q2⟩)
        have hE : kx κ M (kup κ2 q29 .node) Mc15 := hE.adopt hz0_q29
        have hk_q29 : kup κ2 q29 .node q29 = some .node := kup_self _ _ _
        generalize kup κ2 q29 .node = κ16 at hT hE hk_h0 hk_v3_1 hk_q2 hk_q29
        refine W.eq (g2 := F0 m 46 ls [.ref q29]) rfl ?_
        refine W.widen (k := 2) (n := 68) (Nat.le_of_ble_eq_true rfl) (Nat.le_of_ble_eq_true rfl) ?_
        have hm : mm D (AZ z) Mc15 H := hm
        refine W.aret (v := .ref q29) hx hb hr (Or.inl ⟨_, rfl⟩) (Or.inr ⟨_, rfl⟩) (fun t ht hW => ⟨⟨some (.ref q29), _, rfl, ?_, by rw [ht]; exact hm⟩, hS.F ht⟩) hS.2.2 dX2_withCell_46
        exact ⟨_, hT, hE, ⟨_, rfl, hk_q29⟩⟩
      · subst h9
        refine m_get (T := TX2) (N := 4) (ci := 2) (v := .int 1) hx hb hts wX2 hown hK hm hR_30 rfl 1 (by decide) f15 (fun _ h9 => h9) rfl dX2_withCell_37 ?_
        refine lv_iload_n hx hb dX2_withCell_40 rfl (lv_at hl 4 rfl) ?_
        refine lv_aload hx hb dX2_withCell_41 (lv_at hl 0 rfl) ?_
        refine m_kI (As := [.int v0_1, .int 1, .int a2, .ref q2]) (rest := [.ref q29]) (rm := { frames := 1, cells := 0, slots := 0, locals := 12 }) ⟨hx, hb, hml, hown, hts⟩ (c_X2_init l D k z _ q29 q2 v0_1 1 a2 (by decide) hM_q29) (cwI 4 hts gX2_withCell_X2_init rfl rfl rfl (hts (.initialized RX2) (by decide +kernel)) (hts (.methodLink RX2 26 yX2_init) (by decide +kernel)) (hts (.instanceMethod yX2_init) (by decide +kernel)) rfl (by decide +kernel) ⟨Nat.le_of_ble_eq_true rfl, Nat.le_of_ble_eq_true rfl⟩) hz hcx hm hS rfl hl.1 rfl (Nat.le_of_ble_eq_true rfl) dX2_withCell_43 ⟨Nat.le_of_ble_eq_true rfl, Nat.le_of_ble_eq_true rfl⟩ (fun v M1 H locs hv hm hS => ?_)
        obtain ⟨hv1, hM1⟩ := hv
        subst hv1
        rw [hM1] at hm
        have hR_32 : (mu Mc14 q29 (.inr (2, [.int v0_1, .int 1, .int a2, .ref q2]))) h0 = _ := (mu_ne (fun q9 => by rw [q9, hk0_q29] at hk_h0; cases hk_h0)).trans hR_30
        have hT : TM k κ2 (mu Mc14 q29 (.inr (2, [.int v0_1, .int 1, .int a2, .ref q2]))) := fun b9 d9 hb9 => by
          obtain ⟨e9, h9, h8⟩ := hT b9 d9 hb9
          exact ⟨e9, (mu_ne (fun q9 => by rw [q9, hk0_q29] at hb9; cases hb9)).trans h9, h8⟩
        have hE : kx κ M κ2 (mu Mc14 q29 (.inr (2, [.int v0_1, .int 1, .int a2, .ref q2]))) := ⟨hE.1, fun b9 e9 hb9 hn9 => (mu_ne (m_fr hz0_q29 hb9)).trans (hE.2 b9 e9 hb9 hn9)⟩
        have hM_q29 : (mu Mc14 q29 (.inr (2, [.int v0_1, .int 1, .int a2, .ref q2]))) q29 = _ := mu_self _ _ _
        generalize (mu Mc14 q29 (.inr (2, [.int v0_1, .int 1, .int a2, .ref q2]))) = Mc17 at hm hT hE hR_32 hM_q29
        have hk_old := hk0_q29
        have hk_h0 := kup_old (d := .node) hk0_q29 hk_h0
        have hk_v3_1 := kup_old (d := .node) hk0_q29 hk_v3_1
        have hk_q2 := kup_old (d := .node) hk0_q29 hk_q2
        have hT : TM k (kup κ2 q29 .node) Mc17 := hT.adopt hk0_q29 hM_q29 (show wf k (kup κ2 q29 .node) .node _ from ⟨v0_1, 1, a2, q2, rfl, (Or.inr rfl), hk_q2⟩)
        have hE : kx κ M (kup κ2 q29 .node) Mc17 := hE.adopt hz0_q29
        have hk_q29 : kup κ2 q29 .node q29 = some .node := kup_self _ _ _
        generalize kup κ2 q29 .node = κ18 at hT hE hk_h0 hk_v3_1 hk_q2 hk_q29
        refine W.eq (g2 := F0 m 46 ls [.ref q29]) rfl ?_
        refine W.widen (k := 2) (n := 68) (Nat.le_of_ble_eq_true rfl) (Nat.le_of_ble_eq_true rfl) ?_
        have hm : mm D (AZ z) Mc17 H := hm
        refine W.aret (v := .ref q29) hx hb hr (Or.inl ⟨_, rfl⟩) (Or.inr ⟨_, rfl⟩) (fun t ht hW => ⟨⟨some (.ref q29), _, rfl, ?_, by rw [ht]; exact hm⟩, hS.F ht⟩) hS.2.2 dX2_withCell_46
        exact ⟨_, hT, hE, ⟨_, rfl, hk_q29⟩⟩

set_option maxHeartbeats 4000000 in
set_option maxRecDepth 100000 in
theorem t_X4_setEntry_III (l : Launch) (D : va_G) (k : Nat → ClassId) (z : Nat) (M : mM) (κ : Nat → Option KD) (h0 : Nat) (a0 : Int32) (a1 : Int32) (a2 : Int32) (hk_h0 : κ h0 = some .tree) (hT : TM k κ M) : mK l yX4_setEntry wsX4_setEntry ({ frames := 3, cells := 2, slots := 68, locals := 64 }) D k z [.ref h0, .int a0, .int a1, .int a2] M (fun v M' => ∃ κ', TM k κ' M' ∧ kx κ M κ' M' ∧ v = none) := by
  refine Met.ofW (cc := cX4_setEntry) (maxL := 5) (ret := none) (by decide) rfl ?_
  intro p e s m args below meth c s₁ B hml hv
  obtain ⟨rfl, hz, hcx, hm⟩ := hv
  have hx := B.exec
  have hb := B.bytes
  have hr := B.returns
  have hts := atoms_spec (ws := wsX4_setEntry) B.pre
  have hown : s.vm.findClass RX4 = some m.cls := findClass_of_methodNamed B.named
  have hlocks := B.notSynchronized
  have hK := hcx.1
  have hS : va_S (AZ z) s.heap s.heap [] := va_S.rf
  have hA : ∀ q, s.heap.size ≤ q → AZ z q := fun q h => Nat.le_trans hz h
  have hl := lv_entry ([.ref h0, .int a0, .int a1, .int a2]) (n := 5) (Nat.le_of_ble_eq_true rfl)
  rw [lg_entry_eq]
  generalize (lg_sl ([.ref h0, .int a0, .int a1, .int a2]) ++ List.replicate (5 - (lg_sl ([.ref h0, .int a0, .int a1, .int a2])).length) Slot.unset).toArray = ls at hl ⊢
  have hl : lv_has ls 5 [(0, .ref h0), (1, .int a0), (2, .int a1), (3, .int a2)] := hl
  have f39 := hts (.fieldLink RX4 39 "CommitTree$Node" "size" "I") (by decide +kernel)
  have wX2 : ∀ w ∈ wsX20, w ∈ wsX4_setEntry := by decide +kernel
  have hT0 := hT
  have hE : kx κ M κ M := kx.refl _ _
  refine lv_aload_n hx hb dX4_setEntry_0 rfl (lv_at hl 0 rfl) ?_
  refine lv_iload_n hx hb dX4_setEntry_1 rfl (lv_at hl 1 rfl) ?_
  obtain ⟨v0_1, v1_1, hM_h0_1, hk_v0_1, hn_v1_1⟩ := hT.tree hk_h0
  refine m_kV (As := [.int a0]) (rest := []) (rm := { frames := 1, cells := 0, slots := 0, locals := 23 }) ⟨hx, hb, hml, hown, hts⟩ (t_X4_find_I l D k z _ _ h0 a0 hk_h0 hT) (cwV 1 hts gX4_setEntry_X4_find rfl rfl rfl (by decide +kernel) ⟨Nat.le_of_ble_eq_true rfl, Nat.le_of_ble_eq_true rfl⟩) (m_recv hK hm (q := (RX4, TX4, 2)) rfl hM_h0_1) hz hcx hm hS rfl hl.1 rfl (Nat.le_of_ble_eq_true rfl) dX4_setEntry_2 ⟨Nat.le_of_ble_eq_true rfl, Nat.le_of_ble_eq_true rfl⟩ (fun v M1 H locs hv hm hS => ?_)
  obtain ⟨hv1, hM1⟩ := hv
  rw [hM1] at hm
  rcases hv1 with hv1 | ⟨x2, hv1, hk_x2⟩
  · subst hv1
    refine W.eq (g2 := F0 m 5 ls [.null]) rfl ?_
    refine W.widen (k := 0) (n := 0) (Nat.le_of_ble_eq_true rfl) (Nat.le_of_ble_eq_true rfl) ?_
    have hm : mm D (AZ z) M H := hm
    refine lv_astoreN (lv' := [(4, .null), (0, .ref h0), (1, .int a0), (2, .int a1), (3, .int a2)]) hx hb dX4_setEntry_5 hl (by decide) rfl (fun ls hl => ?_)
    refine lv_aloadN hx hb dX4_setEntry_7 (lv_at hl 0 rfl) ?_
    refine lv_ifnullN (tgt := 28) hx hb dX4_setEntry_9 (by decide) ?_
    refine W.widen (k := 2) (n := 68) (by omega) (by omega) ?_
    refine W.vret hx hb hr (fun t ht hW => ⟨⟨none, _, rfl, ?_, by rw [ht]; exact hm⟩, hS.F ht⟩) hS.2.2 dX4_setEntry_28
    exact ⟨_, hT, hE, rfl⟩
  · subst hv1
    refine W.eq (g2 := F0 m 5 ls [.ref x2]) rfl ?_
    refine W.widen (k := 0) (n := 0) (Nat.le_of_ble_eq_true rfl) (Nat.le_of_ble_eq_true rfl) ?_
    have hm : mm D (AZ z) M H := hm
    refine lv_astore (lv' := [(4, .ref x2), (0, .ref h0), (1, .int a0), (2, .int a1), (3, .int a2)]) hx hb dX4_setEntry_5 hl (by decide) rfl (fun ls hl => ?_)
    refine lv_aload hx hb dX4_setEntry_7 (lv_at hl 0 rfl) ?_
    refine lv_ifnull hx hb dX4_setEntry_9 ?_
    refine lv_aload_n hx hb dX4_setEntry_12 rfl (lv_at hl 1 rfl) ?_
    refine lv_aload hx hb dX4_setEntry_13 (lv_at hl 0 rfl) ?_
    refine lv_iload_n hx hb dX4_setEntry_15 rfl (lv_at hl 3 rfl) ?_
    refine lv_iload_n hx hb dX4_setEntry_16 rfl (lv_at hl 4 rfl) ?_
    refine lv_aload hx hb dX4_setEntry_17 (lv_at hl 0 rfl) ?_
    obtain ⟨v0_3, v1_3, v2_3, v3_3, hM_x2_3, hz_v1_3, hk_v3_3⟩ := hT.node hk_x2
    refine m_get (T := TX2) (N := 4) (ci := 2) (v := .int v2_3) hx hb hts wX2 hown hK hm hM_x2_3 rfl 2 (by decide) f39 (fun _ h9 => h9) rfl dX4_setEntry_19 ?_
    refine m_kV (As := [.int a1, .int a2, .int v2_3]) (rest := [.ref h0]) (rm := { frames := 2, cells := 2, slots := 68, locals := 40 }) ⟨hx, hb, hml, hown, hts⟩ (t_X2_withCell_III l D k z _ _ x2 a1 a2 v2_3 hk_x2 hT) (cwV 3 hts gX4_setEntry_X2_withCell rfl rfl rfl (by decide +kernel) ⟨Nat.le_of_ble_eq_true rfl, Nat.le_of_ble_eq_true rfl⟩) (m_recv hK hm (q := (RX2, TX2, 4)) rfl hM_x2_3) hz hcx hm hS rfl hl.1 rfl (Nat.le_of_ble_eq_true rfl) dX4_setEntry_22 ⟨Nat.le_of_ble_eq_true rfl, Nat.le_of_ble_eq_true rfl⟩ (fun v M1 H locs hv hm hS => ?_)
    obtain ⟨κ1, hT9, hE9, hv1⟩ := hv
    have hk_h0 := hE9.k hT hk_h0
    have hk_x2 := hE9.k hT hk_x2
    have hE := hE.trans hT0 hT hE9
    have hT := hT9
    obtain ⟨Mc1, hMx⟩ : ∃ x : mM, x = M1 := ⟨M1, rfl⟩
    subst hMx
    obtain ⟨x4, hv1, hk_x4⟩ := hv1
    subst hv1
    refine W.eq (g2 := F0 m 25 ls [.ref x4, .ref h0]) rfl ?_
    refine W.widen (k := 2) (n := 68) (Nat.le_of_ble_eq_true rfl) (Nat.le_of_ble_eq_true rfl) ?_
    have hm : mm D (AZ z) Mc1 H := hm
    obtain ⟨v0_5, v1_5, hM_h0_5, hk_v0_5, hn_v1_5⟩ := hT.tree hk_h0
    refine m_kV (As := [.ref x4]) (rest := []) (rm := { frames := 1, cells := 0, slots := 0, locals := 23 }) ⟨hx, hb, hml, hown, hts⟩ (t_X4_put_R l D k z _ _ h0 x4 hk_h0 hk_x4 hT) (cwV 1 hts gX4_setEntry_X4_put rfl rfl rfl (by decide +kernel) ⟨Nat.le_of_ble_eq_true rfl, Nat.le_of_ble_eq_true rfl⟩) (m_recv hK hm (q := (RX4, TX4, 2)) rfl hM_h0_5) hz hcx hm hS rfl hl.1 rfl (Nat.le_of_ble_eq_true rfl) dX4_setEntry_25 ⟨Nat.le_of_ble_eq_true rfl, Nat.le_of_ble_eq_true rfl⟩ (fun v M1 H locs hv hm hS => ?_)
    obtain ⟨κ2, hT9, hE9, hv1⟩ := hv
    have hk_h0 := hE9.k hT hk_h0
    have hk_x2 := hE9.k hT hk_x2
    have hE := hE.trans hT0 hT hE9
    have hT := hT9
    obtain ⟨Mc2, hMx⟩ : ∃ x : mM, x = M1 := ⟨M1, rfl⟩
    subst hMx
    subst hv1
    refine W.eq (g2 := F0 m 28 ls []) rfl ?_
    refine W.widen (k := 2) (n := 68) (Nat.le_of_ble_eq_true rfl) (Nat.le_of_ble_eq_true rfl) ?_
    have hm : mm D (AZ z) Mc2 H := hm
    refine W.vret hx hb hr (fun t ht hW => ⟨⟨none, _, rfl, ?_, by rw [ht]; exact hm⟩, hS.F ht⟩) hS.2.2 dX4_setEntry_28
    exact ⟨_, hT, hE, rfl⟩

set_option maxHeartbeats 4000000 in
set_option maxRecDepth 100000 in
theorem t_X5_make_II0 (l : Launch) (hlt : l.stackTraces = false) (D : va_G) (k : Nat → ClassId) (z : Nat) (M : mM) (κ : Nat → Option KD) (h0 : Nat) (a0 : Int32) (a1 : Int32) (hk_h0 : κ h0 = some .top) (hT : TM k κ M) : mC l yX5_make wsX5_make ({ frames := 7, cells := 7, slots := 154, locals := 115 }) D k z [.ref h0, .int a0, .int a1, .int 0] M (fun v M' => ∃ κ', TM k κ' M' ∧ kx κ M κ' M' ∧ v = none) (fun E M' => E ∈ (["java/lang/UnsupportedOperationException", "java/lang/IllegalStateException", "java/lang/IllegalArgumentException", "java/util/NoSuchElementException"] : List String) ∧ ∃ κ', TM k κ' M' ∧ kx κ M κ' M') := by
  refine vx_ofW (cc := cX5_make) (maxL := 6) (ret := none) (by decide) rfl ?_
  intro p e s m args below meth c s₁ B hml hnt hv
  obtain ⟨rfl, hz, hcx, hm⟩ := hv
  have hx := B.exec
  have hb := B.bytes
  have hr := B.returns
  have hts := atoms_spec (ws := wsX5_make) B.pre
  have hown : s.vm.findClass RX5 = some m.cls := findClass_of_methodNamed B.named
  have hlocks := B.notSynchronized
  have hK := hcx.1
  have hS : va_S (AZ z) s.heap s.heap [] := va_S.rf
  have hA : ∀ q, s.heap.size ≤ q → AZ z q := fun q h => Nat.le_trans hz h
  have hl := lv_entry ([.ref h0, .int a0, .int a1, .int 0]) (n := 6) (Nat.le_of_ble_eq_true rfl)
  rw [lg_entry_eq]
  generalize (lg_sl ([.ref h0, .int a0, .int a1, .int 0]) ++ List.replicate (6 - (lg_sl ([.ref h0, .int a0, .int a1, .int 0])).length) Slot.unset).toArray = ls at hl ⊢
  have hl : lv_has ls 6 [(0, .ref h0), (1, .int a0), (2, .int a1), (3, .int 0)] := hl
  have f56 := hts (.fieldLink RX5 56 "CommitTree" "newestNode" "I") (by decide +kernel)
  have f109 := hts (.fieldLink RX5 109 "CommitTree$Transaction" "view" "LCommitTree$Tree;") (by decide +kernel)
  have f131 := hts (.fieldLink RX5 131 "CommitTree$Tree" "size" "I") (by decide +kernel)
  have f139 := hts (.fieldLink RX5 139 "CommitTree$Node" "id" "I") (by decide +kernel)
  have wX2 : ∀ w ∈ wsX20, w ∈ wsX5_make := by decide +kernel
  have wX3 : ∀ w ∈ wsX30, w ∈ wsX5_make := by decide +kernel
  have wX4 : ∀ w ∈ wsX40, w ∈ wsX5_make := by decide +kernel
  have wX5 : ∀ w ∈ wsX50, w ∈ wsX5_make := by decide +kernel
  have hT0 := hT
  have hE : kx κ M κ M := kx.refl _ _
  refine lv_aload_n hx hb dX5_make_0 rfl (lv_at hl 0 rfl) ?_
  refine lv_iload_n hx hb dX5_make_1 rfl (lv_at hl 1 rfl) ?_
  obtain ⟨v0_1, v1_1, v2_1, v3_1, v4_1, v5_1, v6_1, v7_1, v8_1, v9_1, v10_1, hM_h0_1, hk_v0_1, hk_v1_1, hk_v2_1, hk_v3_1, hk_v4_1, hk_v5_1, hz_v9_1, hz_v10_1⟩ := hT.top hk_h0
  refine m_cV (As := [.int a0]) (rest := []) (rm := { frames := 6, cells := 1, slots := 6, locals := 82 }) ⟨hx, hb, hml, hown, hts⟩ (t_X5_opened_I l hlt D k z _ _ h0 a0 hk_h0 hT) (cwV 1 hts gX5_make_X5_opened rfl rfl rfl (by decide +kernel) ⟨Nat.le_of_ble_eq_true rfl, Nat.le_of_ble_eq_true rfl⟩) (m_recv hK hm (q := (RX5, TX5, 11)) rfl hM_h0_1) hz hcx hm hS rfl hl.1 rfl (Nat.le_of_ble_eq_true rfl) dX5_make_2 ⟨Nat.le_of_ble_eq_true rfl, Nat.le_of_ble_eq_true rfl⟩ (fun E ce q9 M1 H locs hv hm hS hce hcv hcl => ?_) (fun v M1 H locs hv hm hS => ?_)
  · refine vx_out (fun x hx => (hnt x hx).elim) hlocks hce hcv hcl (fun t ht hvm => ⟨⟨_, ?_, by rw [ht]; exact hm⟩, hS.F ht⟩) hS.2.2 (Nat.le_of_ble_eq_true rfl) (Nat.le_of_ble_eq_true rfl)
    obtain ⟨hE8, κ8, hT8, hx8⟩ := hv
    exact ⟨by simp only [List.mem_cons, List.not_mem_nil, or_false] at hE8 ⊢; first | exact hE8 | simp [hE8], κ8, hT8, hE.trans hT0 hT hx8⟩
  obtain ⟨hv1, hM1⟩ := hv
  rw [hM1] at hm
  obtain ⟨x2, hv1, hk_x2⟩ := hv1
  subst hv1
  refine W.eq (g2 := F0 m 5 ls [.ref x2]) rfl ?_
  refine W.widen (k := 1) (n := 6) (Nat.le_of_ble_eq_true rfl) (Nat.le_of_ble_eq_true rfl) ?_
  have hm : mm D (AZ z) M H := hm
  refine lv_astore (lv' := [(4, .ref x2), (0, .ref h0), (1, .int a0), (2, .int a1), (3, .int 0)]) hx hb dX5_make_5 hl (by decide) rfl (fun ls hl => ?_)
  refine lv_iload_n hx hb dX5_make_7 rfl (lv_at hl 3 rfl) ?_
  refine m_cS (As := [.int a1]) (rest := []) (rm := { frames := 6, cells := 1, slots := 6, locals := 82 }) ⟨hx, hb, hml, hown, hts⟩ (c_X5_needPathBelowRoot l hlt D k z _ a1) (cwS 1 hts gX5_make_X5_needPathBelowRoot rfl rfl rfl (by decide +kernel) ⟨Nat.le_of_ble_eq_true rfl, Nat.le_of_ble_eq_true rfl⟩) hz hcx hm hS rfl hl.1 rfl (Nat.le_of_ble_eq_true rfl) dX5_make_8 ⟨Nat.le_of_ble_eq_true rfl, Nat.le_of_ble_eq_true rfl⟩ (fun E ce q9 M1 H locs hv hm hS hce hcv hcl => ?_) (fun v M1 H locs hv hm hS => ?_)
  · refine vx_out (fun x hx => (hnt x hx).elim) hlocks hce hcv hcl (fun t ht hvm => ⟨⟨_, ?_, by rw [ht]; exact hm⟩, hS.F ht⟩) hS.2.2 (Nat.le_of_ble_eq_true rfl) (Nat.le_of_ble_eq_true rfl)
    obtain ⟨-, hE8, hM8⟩ := hv
    rw [hM8]
    exact ⟨by rw [hE8]; simp, _, hT, hE⟩
  obtain ⟨-, hv1, hM1⟩ := hv
  rw [hM1] at hm
  subst hv1
  refine W.eq (g2 := F0 m 11 ls []) rfl ?_
  refine W.widen (k := 2) (n := 12) (Nat.le_of_ble_eq_true rfl) (Nat.le_of_ble_eq_true rfl) ?_
  have hm : mm D (AZ z) M H := hm
  refine lv_aload hx hb dX5_make_11 (lv_at hl 0 rfl) ?_
  refine lv_iload_n hx hb dX5_make_13 rfl (lv_at hl 3 rfl) ?_
  refine m_cS (As := [.ref x2, .int a1]) (rest := []) (rm := { frames := 6, cells := 1, slots := 6, locals := 93 }) ⟨hx, hb, hml, hown, hts⟩ (t_X5_parentWithRoom_RI l hlt D k z _ _ x2 a1 hk_x2 hT) (cwS 2 hts gX5_make_X5_parentWithRoom rfl rfl rfl (by decide +kernel) ⟨Nat.le_of_ble_eq_true rfl, Nat.le_of_ble_eq_true rfl⟩) hz hcx hm hS rfl hl.1 rfl (Nat.le_of_ble_eq_true rfl) dX5_make_14 ⟨Nat.le_of_ble_eq_true rfl, Nat.le_of_ble_eq_true rfl⟩ (fun E ce q9 M1 H locs hv hm hS hce hcv hcl => ?_) (fun v M1 H locs hv hm hS => ?_)
  · refine vx_out (fun x hx => (hnt x hx).elim) hlocks hce hcv hcl (fun t ht hvm => ⟨⟨_, ?_, by rw [ht]; exact hm⟩, hS.F ht⟩) hS.2.2 (Nat.le_of_ble_eq_true rfl) (Nat.le_of_ble_eq_true rfl)
    obtain ⟨hE8, κ8, hT8, hx8⟩ := hv
    exact ⟨by simp only [List.mem_cons, List.not_mem_nil, or_false] at hE8 ⊢; first | exact hE8 | (rcases hE8 with q8 | q8 <;> simp [q8]), κ8, hT8, hE.trans hT0 hT hx8⟩
  obtain ⟨κ1, hT9, hE9, hv1⟩ := hv
  have hk_h0 := hE9.k hT hk_h0
  have hk_x2 := hE9.k hT hk_x2
  have hE := hE.trans hT0 hT hE9
  have hT := hT9
  obtain ⟨Mc1, hMx⟩ : ∃ x : mM, x = M1 := ⟨M1, rfl⟩
  subst hMx
  obtain ⟨x3, hv1, hk_x3⟩ := hv1
  subst hv1
  refine W.eq (g2 := F0 m 17 ls [.ref x3]) rfl ?_
  refine W.widen (k := 3) (n := 18) (Nat.le_of_ble_eq_true rfl) (Nat.le_of_ble_eq_true rfl) ?_
  have hm : mm D (AZ z) Mc1 H := hm
  refine lv_astore (lv' := [(5, .ref x3), (4, .ref x2), (0, .ref h0), (1, .int a0), (2, .int a1), (3, .int 0)]) hx hb dX5_make_17 hl (by decide) rfl (fun ls hl => ?_)
  refine lv_aload hx hb dX5_make_19 (lv_at hl 1 rfl) ?_
  obtain ⟨v0_4, v1_4, v2_4, v3_4, v4_4, v5_4, v6_4, hM_x2_4, hk_v0_4, hk_v1_4, hk_v2_4, hk_v3_4, hk_v4_4, hz_v5_4⟩ := hT.txn hk_x2
  refine m_get (T := TX3) (N := 7) (ci := 3) (v := .ref v1_4) hx hb hts wX3 hown hK hm hM_x2_4 rfl 1 (by decide) f109 (fun _ h9 => h9) rfl dX5_make_21 ?_
  obtain ⟨v0_5, v1_5, hM_v1_4_5, hk_v0_5, hn_v1_5⟩ := hT.tree hk_v1_4
  refine m_get (T := TX4) (N := 2) (ci := 4) (v := .int (nI v1_5)) hx hb hts wX4 hown hK hm hM_v1_4_5 rfl 1 (by decide) f131 (fun _ h9 => h9) rfl dX5_make_24 ?_
  refine lv_bipush (v := 60) hx hb dX5_make_27 (by decide) ?_
  refine lv_icmp_lt (tgt := 42) hx hb dX5_make_29 (by decide) (fun c6 => ?_) (fun c6 => ?_)
  · refine lv_aload_n hx hb dX5_make_42 rfl (lv_at hl 2 rfl) ?_
    refine lv_dup hx hb dX5_make_43 rfl ?_
    obtain ⟨v0_7, v1_7, v2_7, v3_7, v4_7, v5_7, v6_7, v7_7, v8_7, v9_7, v10_7, hM_h0_7, hk_v0_7, hk_v1_7, hk_v2_7, hk_v3_7, hk_v4_7, hk_v5_7, hz_v9_7, hz_v10_7⟩ := hT.top hk_h0
    refine m_get (T := TX5) (N := 11) (ci := 5) (v := .int v6_7) hx hb hts wX5 hown hK hm hM_h0_7 rfl 6 (by decide) f56 (fun _ h9 => h9) rfl dX5_make_44 ?_
    refine lv_iconst (v := 1) hx hb dX5_make_47 (by decide) ?_
    refine lv_iadd hx hb dX5_make_48 ?_
    refine m_put (T := TX5) (N := 11) (ci := 5) (v := .int (v6_7 + 1)) (ty := .int) hx hb hts wX5 tyX5 tyX5_ok nmX5 hown hK hm hS hM_h0_7 rfl 6 (by decide) f56 (fun _ h9 => h9) rfl (by decide +kernel) rfl rfl (Nat.le_of_ble_eq_true rfl) dX5_make_49 (fun H locs hm hS => ?_)
    have hm : mm D (AZ z) (mu Mc1 h0 (.inr (5, [.ref v0_7, .ref v1_7, .ref v2_7, .ref v3_7, .ref v4_7, .ref v5_7, .int (v6_7 + 1), .int v7_7, .int v8_7, .int v9_7, .int v10_7]))) H := hm
    have hR_8 : (mu Mc1 h0 (.inr (5, [.ref v0_7, .ref v1_7, .ref v2_7, .ref v3_7, .ref v4_7, .ref v5_7, .int (v6_7 + 1), .int v7_7, .int v8_7, .int v9_7, .int v10_7]))) x2 = _ := (mu_ne (kd_ne hk_x2 hk_h0 (by decide))).trans hM_x2_4
    have hR_9 : (mu Mc1 h0 (.inr (5, [.ref v0_7, .ref v1_7, .ref v2_7, .ref v3_7, .ref v4_7, .ref v5_7, .int (v6_7 + 1), .int v7_7, .int v8_7, .int v9_7, .int v10_7]))) v1_4 = _ := (mu_ne (kd_ne hk_v1_4 hk_h0 (by decide))).trans hM_v1_4_5
    have hT : TM k κ1 (mu Mc1 h0 (.inr (5, [.ref v0_7, .ref v1_7, .ref v2_7, .ref v3_7, .ref v4_7, .ref v5_7, .int (v6_7 + 1), .int v7_7, .int v8_7, .int v9_7, .int v10_7]))) := hT.put hk_h0 (show wf k κ1 .top (.inr (5, [.ref v0_7, .ref v1_7, .ref v2_7, .ref v3_7, .ref v4_7, .ref v5_7, .int (v6_7 + 1), .int v7_7, .int v8_7, .int v9_7, .int v10_7])) from ⟨v0_7, v1_7, v2_7, v3_7, v4_7, v5_7, (v6_7 + 1), v7_7, v8_7, v9_7, v10_7, rfl, hk_v0_7, hk_v1_7, hk_v2_7, hk_v3_7, hk_v4_7, hk_v5_7, hz_v9_7, hz_v10_7⟩)
    have hE : kx κ M κ1 (mu Mc1 h0 (.inr (5, [.ref v0_7, .ref v1_7, .ref v2_7, .ref v3_7, .ref v4_7, .ref v5_7, .int (v6_7 + 1), .int v7_7, .int v8_7, .int v9_7, .int v10_7]))) := hE.put hk_h0
    generalize (mu Mc1 h0 (.inr (5, [.ref v0_7, .ref v1_7, .ref v2_7, .ref v3_7, .ref v4_7, .ref v5_7, .int (v6_7 + 1), .int v7_7, .int v8_7, .int v9_7, .int v10_7]))) = Mc2 at hm hT hE hR_8 hR_9
    refine lv_aload hx hb dX5_make_52 (lv_at hl 1 rfl) ?_
    refine m_get (T := TX3) (N := 7) (ci := 3) (v := .ref v1_4) hx hb hts wX3 hown hK hm hR_8 rfl 1 (by decide) f109 (fun _ h9 => h9) rfl dX5_make_54 ?_
    refine lv_aload_n hx hb dX5_make_57 rfl (lv_at hl 2 rfl) ?_
    obtain ⟨v0_10, v1_10, v2_10, v3_10, v4_10, v5_10, v6_10, v7_10, v8_10, v9_10, v10_10, hM_h0_10, hk_v0_10, hk_v1_10, hk_v2_10, hk_v3_10, hk_v4_10, hk_v5_10, hz_v9_10, hz_v10_10⟩ := hT.top hk_h0
    refine m_get (T := TX5) (N := 11) (ci := 5) (v := .int v6_10) hx hb hts wX5 hown hK hm hM_h0_10 rfl 6 (by decide) f56 (fun _ h9 => h9) rfl dX5_make_58 ?_
    refine lv_iload_n hx hb dX5_make_61 rfl (lv_at hl 5 rfl) ?_
    refine m_kS (As := [.int v6_10, .int 0]) (rest := [.ref v1_4]) (rm := { frames := 2, cells := 2, slots := 68, locals := 40 }) ⟨hx, hb, hml, hown, hts⟩ (t_X2_blank_I0 l D k z _ _ v6_10  hT) (va_cwS 2 hts gX5_make_X2_blank rfl rfl rfl (by decide +kernel) ⟨Nat.le_of_ble_eq_true rfl, Nat.le_of_ble_eq_true rfl⟩) hz hcx hm hS rfl hl.1 rfl (Nat.le_of_ble_eq_true rfl) dX5_make_62 ⟨Nat.le_of_ble_eq_true rfl, Nat.le_of_ble_eq_true rfl⟩ (fun v M1 H locs hv hm hS => ?_)
    obtain ⟨κ3, hT9, hE9, hv1⟩ := hv
    have hk_h0 := hE9.k hT hk_h0
    have hk_x2 := hE9.k hT hk_x2
    have hk_x3 := hE9.k hT hk_x3
    have hk_v1_4 := hE9.k hT hk_v1_4
    have hE := hE.trans hT0 hT hE9
    have hT := hT9
    obtain ⟨Mc3, hMx⟩ : ∃ x : mM, x = M1 := ⟨M1, rfl⟩
    subst hMx
    obtain ⟨x11, hv1, hk_x11⟩ := hv1
    subst hv1
    refine W.eq (g2 := F0 m 65 ls [.ref x11, .ref v1_4]) rfl ?_
    refine W.widen (k := 5) (n := 86) (Nat.le_of_ble_eq_true rfl) (Nat.le_of_ble_eq_true rfl) ?_
    have hm : mm D (AZ z) Mc3 H := hm
    obtain ⟨v0_12, v1_12, hM_v1_4_12, hk_v0_12, hn_v1_12⟩ := hT.tree hk_v1_4
    refine m_kV (As := [.ref x11]) (rest := []) (rm := { frames := 1, cells := 0, slots := 0, locals := 23 }) ⟨hx, hb, hml, hown, hts⟩ (t_X4_put_R l D k z _ _ v1_4 x11 hk_v1_4 hk_x11 hT) (cwV 1 hts gX5_make_X4_put rfl rfl rfl (by decide +kernel) ⟨Nat.le_of_ble_eq_true rfl, Nat.le_of_ble_eq_true rfl⟩) (m_recv hK hm (q := (RX4, TX4, 2)) rfl hM_v1_4_12) hz hcx hm hS rfl hl.1 rfl (Nat.le_of_ble_eq_true rfl) dX5_make_65 ⟨Nat.le_of_ble_eq_true rfl, Nat.le_of_ble_eq_true rfl⟩ (fun v M1 H locs hv hm hS => ?_)
    obtain ⟨κ4, hT9, hE9, hv1⟩ := hv
    have hk_h0 := hE9.k hT hk_h0
    have hk_x2 := hE9.k hT hk_x2
    have hk_x3 := hE9.k hT hk_x3
    have hk_v1_4 := hE9.k hT hk_v1_4
    have hE := hE.trans hT0 hT hE9
    have hT := hT9
    obtain ⟨Mc4, hMx⟩ : ∃ x : mM, x = M1 := ⟨M1, rfl⟩
    subst hMx
    subst hv1
    refine W.eq (g2 := F0 m 68 ls []) rfl ?_
    refine W.widen (k := 5) (n := 86) (Nat.le_of_ble_eq_true rfl) (Nat.le_of_ble_eq_true rfl) ?_
    have hm : mm D (AZ z) Mc4 H := hm
    refine lv_aload hx hb dX5_make_68 (lv_at hl 1 rfl) ?_
    obtain ⟨v0_13, v1_13, v2_13, v3_13, v4_13, v5_13, v6_13, hM_x2_13, hk_v0_13, hk_v1_13, hk_v2_13, hk_v3_13, hk_v4_13, hz_v5_13⟩ := hT.txn hk_x2
    refine m_get (T := TX3) (N := 7) (ci := 3) (v := .ref v1_13) hx hb hts wX3 hown hK hm hM_x2_13 rfl 1 (by decide) f109 (fun _ h9 => h9) rfl dX5_make_70 ?_
    refine lv_aload hx hb dX5_make_73 (lv_at hl 0 rfl) ?_
    obtain ⟨v0_14, v1_14, v2_14, v3_14, hM_x3_14, hz_v1_14, hk_v3_14⟩ := hT.node hk_x3
    refine m_get (T := TX2) (N := 4) (ci := 2) (v := .int v0_14) hx hb hts wX2 hown hK hm hM_x3_14 rfl 0 (by decide) f139 (fun _ h9 => h9) rfl dX5_make_75 ?_
    refine lv_iload_n hx hb dX5_make_78 rfl (lv_at hl 4 rfl) ?_
    refine lv_bipush (v := 15) hx hb dX5_make_79 (by decide) ?_
    refine lv_iand hx hb dX5_make_81 ?_
    refine lv_aload_n hx hb dX5_make_82 rfl (lv_at hl 2 rfl) ?_
    obtain ⟨v0_15, v1_15, v2_15, v3_15, v4_15, v5_15, v6_15, v7_15, v8_15, v9_15, v10_15, hM_h0_15, hk_v0_15, hk_v1_15, hk_v2_15, hk_v3_15, hk_v4_15, hk_v5_15, hz_v9_15, hz_v10_15⟩ := hT.top hk_h0
    refine m_get (T := TX5) (N := 11) (ci := 5) (v := .int v6_15) hx hb hts wX5 hown hK hm hM_h0_15 rfl 6 (by decide) f56 (fun _ h9 => h9) rfl dX5_make_83 ?_
    obtain ⟨v0_16, v1_16, hM_v1_13_16, hk_v0_16, hn_v1_16⟩ := hT.tree hk_v1_13
    refine m_kV (As := [.int v0_14, .int (a1 &&& 15), .int v6_15]) (rest := []) (rm := { frames := 3, cells := 2, slots := 68, locals := 64 }) ⟨hx, hb, hml, hown, hts⟩ (t_X4_setEntry_III l D k z _ _ v1_13 v0_14 (a1 &&& 15) v6_15 hk_v1_13 hT) (cwV 3 hts gX5_make_X4_setEntry rfl rfl rfl (by decide +kernel) ⟨Nat.le_of_ble_eq_true rfl, Nat.le_of_ble_eq_true rfl⟩) (m_recv hK hm (q := (RX4, TX4, 2)) rfl hM_v1_13_16) hz hcx hm hS rfl hl.1 rfl (Nat.le_of_ble_eq_true rfl) dX5_make_86 ⟨Nat.le_of_ble_eq_true rfl, Nat.le_of_ble_eq_true rfl⟩ (fun v M1 H locs hv hm hS => ?_)
    obtain ⟨κ5, hT9, hE9, hv1⟩ := hv
    have hk_h0 := hE9.k hT hk_h0
    have hk_x2 := hE9.k hT hk_x2
    have hk_x3 := hE9.k hT hk_x3
    have hk_v1_13 := hE9.k hT hk_v1_13
    have hE := hE.trans hT0 hT hE9
    have hT := hT9
    obtain ⟨Mc5, hMx⟩ : ∃ x : mM, x = M1 := ⟨M1, rfl⟩
    subst hMx
    subst hv1
    refine W.eq (g2 := F0 m 89 ls []) rfl ?_
    refine W.widen (k := 7) (n := 154) (Nat.le_of_ble_eq_true rfl) (Nat.le_of_ble_eq_true rfl) ?_
    have hm : mm D (AZ z) Mc5 H := hm
    refine vx_ret ?_
    refine W.vret hx hb hr (fun t ht hW => ⟨⟨none, _, rfl, ?_, by rw [ht]; exact hm⟩, hS.F ht⟩) hS.2.2 dX5_make_89
    exact ⟨_, hT, hE, rfl⟩
  · obtain ⟨sa, hsa⟩ := hcx.2.2.1 (134, "the view has 60 nodes") (by decide)
    refine vx_throwS (own := RX5) (cls := "java/lang/UnsupportedOperationException") (text := "the view has 60 nodes") (names := ["java/lang/RuntimeException", "java/lang/Exception"]) (ik := 86) (is := 134) (ic := 90) (A := AZ z) hx hb hlt hown (by decide) (by decide) (hts (.classLink RX5 86 "java/lang/UnsupportedOperationException") (by decide +kernel)) (hts (.initialized "java/lang/UnsupportedOperationException") (by decide +kernel)) hsa (vx_hat (B := DW) (fun w h => hts w (List.mem_cons_of_mem _ (List.mem_append_left _ (List.mem_append_left _ (List.mem_append_left _ (List.mem_append_right _ h)))))) (by decide +kernel) (hcx.dw _)) (by decide +kernel) hcx.2.1.1 hcx.2.1.2 hS (hl.1.trans hml.symm) dX5_make_32 dX5_make_35 dX5_make_36 dX5_make_38 dX5_make_41 (fun x hx => (hnt x hx).elim) (Nat.le_of_ble_eq_true rfl) (Nat.le_of_ble_eq_true rfl) (Nat.le_of_ble_eq_true rfl) (Nat.le_of_ble_eq_true rfl) hlocks (fun t hvm hz1 hq => ⟨⟨_, ?_, hm.kept hq⟩, ⟨Nat.le_trans hS.1 hz1, fun q h1 h2 => (hq q (Nat.lt_of_lt_of_le h1 hS.1)).trans (hS.2.1 q h1 h2)⟩⟩) hS.2.2 (Nat.le_of_ble_eq_true rfl) (Nat.le_of_ble_eq_true rfl)
    exact ⟨by simp, _, hT, hE⟩

set_option maxHeartbeats 4000000 in
set_option maxRecDepth 100000 in
theorem t_X2_blank_I1 (l : Launch) (D : va_G) (k : Nat → ClassId) (z : Nat) (M : mM) (κ : Nat → Option KD) (a0 : Int32)  (hT : TM k κ M) : mK l yX2_blank wsX2_blank ({ frames := 2, cells := 2, slots := 20, locals := 40 }) D k z [.int a0, .int 1] M (fun v M' => ∃ κ', TM k κ' M' ∧ kx κ M κ' M' ∧ ∃ a, v = some (.ref a) ∧ κ' a = some .node) := by
  refine Met.ofW (cc := cX2_blank) (maxL := 2) (ret := (some (.object "CommitTree$Node"))) (by decide) rfl ?_
  intro p e s m args below meth c s₁ B hml hv
  obtain ⟨rfl, hz, hcx, hm⟩ := hv
  have hx := B.exec
  have hb := B.bytes
  have hr := B.returns
  have hts := atoms_spec (ws := wsX2_blank) B.pre
  have hown : s.vm.findClass RX2 = some m.cls := findClass_of_methodNamed B.named
  have hlocks := B.notSynchronized
  have hK := hcx.1
  have hS : va_S (AZ z) s.heap s.heap [] := va_S.rf
  have hA : ∀ q, s.heap.size ≤ q → AZ z q := fun q h => Nat.le_trans hz h
  have hl := lv_entry ([.int a0, .int 1]) (n := 2) (Nat.le_of_ble_eq_true rfl)
  rw [lg_entry_eq]
  generalize (lg_sl ([.int a0, .int 1]) ++ List.replicate (2 - (lg_sl ([.int a0, .int 1])).length) Slot.unset).toArray = ls at hl ⊢
  have hl : lv_has ls 2 [(0, .int a0), (1, .int 1)] := hl
  have wX2 : ∀ w ∈ wsX20, w ∈ wsX2_blank := by decide +kernel
  have hT0 := hT
  have hE : kx κ M κ M := kx.refl _ _
  refine m_new (T := TX2) (N := 4) (ci := 2) (fs := [.int 0, .int 0, .int 0, .null]) hx hb hts wX2 tyX2 tyX2_ok hown (hts (.classLink RX2 10 RX2) (by decide +kernel)) (hts (.instantiable RX2 4) (by decide +kernel)) (hts (.initialized RX2) (by decide +kernel)) hK hm hS hA rfl (fun j hj => by rcases (show j = 0 ∨ j = 1 ∨ j = 2 ∨ j = 3 by omega) with rfl | rfl | rfl | rfl <;> rfl) (Nat.le_of_ble_eq_true rfl) (Nat.le_of_ble_eq_true rfl) dX2_blank_0 (fun q1 H hq1 hm hS => ?_)
  refine W.widen (k := 1) (n := 4) (Nat.le_of_ble_eq_true rfl) (Nat.le_of_ble_eq_true rfl) ?_
  have hm : mm D (AZ z) (mu M q1 (.inr (2, [.int 0, .int 0, .int 0, .null]))) H := hm
  have hz0_q1 := hE.no hT0 hT hq1
  have hk0_q1 := hT.no hq1
  have hM_q1 : (mu M q1 (.inr (2, [.int 0, .int 0, .int 0, .null]))) q1 = _ := mu_self _ _ _
  have hT : TM k κ (mu M q1 (.inr (2, [.int 0, .int 0, .int 0, .null]))) := hT.new0 hq1
  have hE : kx κ M κ (mu M q1 (.inr (2, [.int 0, .int 0, .int 0, .null]))) := hE.new0 hq1
  generalize (mu M q1 (.inr (2, [.int 0, .int 0, .int 0, .null]))) = Mc1 at hm hT hE hM_q1
  refine lv_dup hx hb dX2_blank_3 rfl ?_
  refine lv_iload_n hx hb dX2_blank_4 rfl (lv_at hl 0 rfl) ?_
  refine lv_iload_n hx hb dX2_blank_5 rfl (lv_at hl 1 rfl) ?_
  refine lv_iconst (v := 0) hx hb dX2_blank_6 (by decide) ?_
  refine lv_iload_n hx hb dX2_blank_7 rfl (lv_at hl 1 rfl) ?_
  refine lv_if_eq (tgt := 16) hx hb dX2_blank_8 (by decide) (fun c2 => ?_) (fun c2 => ?_)
  · first | exact absurd c2 (by decide) | exact absurd (by decide) c2
  · refine lv_bipush (v := 16) hx hb dX2_blank_11 (by decide) ?_
    refine lv_goto (tgt := 18) hx hb dX2_blank_13 (by decide) ?_
    refine m_newa (atype := .int) hx hb (hts (.arrayClass .int) (by decide +kernel)) (ty := .int) rfl (fun C h => by cases h) hK 0 rfl hm hS hA (N' := 16) (a0 := (16, .inl (fun _ => 0))) (fun cA => vp_cell_i cA _ _) (by decide) rfl (by decide) (Nat.le_of_ble_eq_true rfl) (Nat.le_of_ble_eq_true rfl) dX2_blank_18 (fun q3 H hq3 hm hS => ?_)
    refine W.widen (k := 2) (n := 20) (Nat.le_of_ble_eq_true rfl) (Nat.le_of_ble_eq_true rfl) ?_
    have ne_q1_q3 : q1 ≠ q3 := m_fr hq3 hM_q1
    have hm : mm D (AZ z) (mu Mc1 q3 (.inl (k 0, 16, .inl (fun _ => 0)))) H := hm
    have hz0_q3 := hE.no hT0 hT hq3
    have hk0_q3 := hT.no hq3
    have hR_4 : (mu Mc1 q3 (.inl (k 0, 16, .inl (fun _ => 0)))) q1 = _ := (mu_ne (m_fr hq3 hM_q1)).trans hM_q1
    have hM_q3 : (mu Mc1 q3 (.inl (k 0, 16, .inl (fun _ => 0)))) q3 = _ := mu_self _ _ _
    have hT : TM k κ (mu Mc1 q3 (.inl (k 0, 16, .inl (fun _ => 0)))) := hT.new0 hq3
    have hE : kx κ M κ (mu Mc1 q3 (.inl (k 0, 16, .inl (fun _ => 0)))) := hE.new0 hq3
    generalize (mu Mc1 q3 (.inl (k 0, 16, .inl (fun _ => 0)))) = Mc2 at hm hT hE hR_4 hM_q3
    have hT9 : TM k (kup κ q3 .ints) Mc2 := hT.adopt hk0_q3 hM_q3 (show wf k (kup κ q3 .ints) .ints _ from ⟨16, (fun _ => 0), rfl, (by decide)⟩)
    have hE : kx κ M (kup κ q3 .ints) Mc2 := hE.adopt hz0_q3
    have hT := hT9
    have hk_q3 : kup κ q3 .ints q3 = some .ints := kup_self _ _ _
    have hk0_q1 : kup κ q3 .ints q1 = none := (if_neg ne_q1_q3).trans hk0_q1
    generalize kup κ q3 .ints = κ3 at hT hE hk_q3 hk0_q1
    refine m_kI (As := [.int a0, .int 1, .int 0, .ref q3]) (rest := [.ref q1]) (rm := { frames := 1, cells := 0, slots := 0, locals := 12 }) ⟨hx, hb, hml, hown, hts⟩ (c_X2_init l D k z _ q1 q3 a0 1 0 (by decide) hR_4) (cwI 4 hts gX2_blank_X2_init rfl rfl rfl (hts (.initialized RX2) (by decide +kernel)) (hts (.methodLink RX2 26 yX2_init) (by decide +kernel)) (hts (.instanceMethod yX2_init) (by decide +kernel)) rfl (by decide +kernel) ⟨Nat.le_of_ble_eq_true rfl, Nat.le_of_ble_eq_true rfl⟩) hz hcx hm hS rfl hl.1 rfl (Nat.le_of_ble_eq_true rfl) dX2_blank_20 ⟨Nat.le_of_ble_eq_true rfl, Nat.le_of_ble_eq_true rfl⟩ (fun v M1 H locs hv hm hS => ?_)
    obtain ⟨hv1, hM1⟩ := hv
    subst hv1
    rw [hM1] at hm
    have hR_5 : (mu Mc2 q1 (.inr (2, [.int a0, .int 1, .int 0, .ref q3]))) q3 = _ := (mu_ne (fun q9 => by rw [q9, hk0_q1] at hk_q3; cases hk_q3)).trans hM_q3
    have hT : TM k κ3 (mu Mc2 q1 (.inr (2, [.int a0, .int 1, .int 0, .ref q3]))) := fun b9 d9 hb9 => by
      obtain ⟨e9, h9, h8⟩ := hT b9 d9 hb9
      exact ⟨e9, (mu_ne (fun q9 => by rw [q9, hk0_q1] at hb9; cases hb9)).trans h9, h8⟩
    have hE : kx κ M κ3 (mu Mc2 q1 (.inr (2, [.int a0, .int 1, .int 0, .ref q3]))) := ⟨hE.1, fun b9 e9 hb9 hn9 => (mu_ne (m_fr hz0_q1 hb9)).trans (hE.2 b9 e9 hb9 hn9)⟩
    have hM_q1 : (mu Mc2 q1 (.inr (2, [.int a0, .int 1, .int 0, .ref q3]))) q1 = _ := mu_self _ _ _
    generalize (mu Mc2 q1 (.inr (2, [.int a0, .int 1, .int 0, .ref q3]))) = Mc4 at hm hT hE hR_5 hM_q1
    have hk_old := hk0_q1
    have hk_q3 := kup_old (d := .node) hk0_q1 hk_q3
    have hT : TM k (kup κ3 q1 .node) Mc4 := hT.adopt hk0_q1 hM_q1 (show wf k (kup κ3 q1 .node) .node _ from ⟨a0, 1, 0, q3, rfl, (Or.inr rfl), hk_q3⟩)
    have hE : kx κ M (kup κ3 q1 .node) Mc4 := hE.adopt hz0_q1
    have hk_q1 : kup κ3 q1 .node q1 = some .node := kup_self _ _ _
    generalize kup κ3 q1 .node = κ5 at hT hE hk_q3 hk_q1
    refine W.eq (g2 := F0 m 23 ls [.ref q1]) rfl ?_
    refine W.widen (k := 2) (n := 20) (Nat.le_of_ble_eq_true rfl) (Nat.le_of_ble_eq_true rfl) ?_
    have hm : mm D (AZ z) Mc4 H := hm
    refine W.aret (v := .ref q1) hx hb hr (Or.inl ⟨_, rfl⟩) (Or.inr ⟨_, rfl⟩) (fun t ht hW => ⟨⟨some (.ref q1), _, rfl, ?_, by rw [ht]; exact hm⟩, hS.F ht⟩) hS.2.2 dX2_blank_23
    exact ⟨_, hT, hE, ⟨_, rfl, hk_q1⟩⟩

