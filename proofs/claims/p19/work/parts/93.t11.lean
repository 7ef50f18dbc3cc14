set_option maxHeartbeats 4000000 in
set_option maxRecDepth 100000 in
theorem t_X3_lookUp_I (l : Launch) (D : va_G) (k : Nat → ClassId) (z : Nat) (M : mM) (κ : Nat → Option KD) (h0 : Nat) (a0 : Int32) (hk_h0 : κ h0 = some .txn) (hT : TM k κ M) : mK l yX3_lookUp wsX3_lookUp ({ frames := 3, cells := 0, slots := 0, locals := 69 }) D k z [.ref h0, .int a0] M (fun v M' => ∃ κ', TM k κ' M' ∧ kx κ M κ' M' ∧ (v = some .null ∨ ∃ a, v = some (.ref a) ∧ κ' a = some .node)) := by
  refine Met.ofW (cc := cX3_lookUp) (maxL := 5) (ret := (some (.object "CommitTree$Node"))) (by decide) rfl ?_
  intro p e s m args below meth c s₁ B hml hv
  obtain ⟨rfl, hz, hcx, hm⟩ := hv
  have hx := B.exec
  have hb := B.bytes
  have hr := B.returns
  have hts := atoms_spec (ws := wsX3_lookUp) B.pre
  have hown : s.vm.findClass RX3 = some m.cls := findClass_of_methodNamed B.named
  have hlocks := B.notSynchronized
  have hK := hcx.1
  have hS : va_S (AZ z) s.heap s.heap [] := va_S.rf
  have hA : ∀ q, s.heap.size ≤ q → AZ z q := fun q h => Nat.le_trans hz h
  have hl := lv_entry ([.ref h0, .int a0]) (n := 5) (Nat.le_of_ble_eq_true rfl)
  rw [lg_entry_eq]
  generalize (lg_sl ([.ref h0, .int a0]) ++ List.replicate (5 - (lg_sl ([.ref h0, .int a0])).length) Slot.unset).toArray = ls at hl ⊢
  have hl : lv_has ls 5 [(0, .ref h0), (1, .int a0)] := hl
  have f37 := hts (.fieldLink RX3 37 "CommitTree$Transaction" "view" "LCommitTree$Tree;") (by decide +kernel)
  have wX3 : ∀ w ∈ wsX30, w ∈ wsX3_lookUp := by decide +kernel
  have hT0 := hT
  have hE : kx κ M κ M := kx.refl _ _
  refine lv_aload_n hx hb dX3_lookUp_0 rfl (lv_at hl 0 rfl) ?_
  obtain ⟨v0_1, v1_1, v2_1, v3_1, v4_1, v5_1, v6_1, hM_h0_1, hk_v0_1, hk_v1_1, hk_v2_1, hk_v3_1, hk_v4_1, hz_v5_1⟩ := hT.txn hk_h0
  refine m_get (T := TX3) (N := 7) (ci := 3) (v := .ref v1_1) hx hb hts wX3 hown hK hm hM_h0_1 rfl 1 (by decide) f37 (fun _ h9 => h9) rfl dX3_lookUp_1 ?_
  refine lv_iconst (v := 1) hx hb dX3_lookUp_4 (by decide) ?_
  obtain ⟨v0_2, v1_2, hM_v1_1_2, hk_v0_2, hn_v1_2⟩ := hT.tree hk_v1_1
  refine m_kV (As := [.int 1]) (rest := []) (rm := { frames := 1, cells := 0, slots := 0, locals := 23 }) ⟨hx, hb, hml, hown, hts⟩ (t_X4_find_I l D k z _ _ v1_1 1 hk_v1_1 hT) (cwV 1 hts gX3_lookUp_X4_find rfl rfl rfl (by decide +kernel) ⟨Nat.le_of_ble_eq_true rfl, Nat.le_of_ble_eq_true rfl⟩) (m_recv hK hm (q := (RX4, TX4, 2)) rfl hM_v1_1_2) hz hcx hm hS rfl hl.1 rfl (Nat.le_of_ble_eq_true rfl) dX3_lookUp_5 ⟨Nat.le_of_ble_eq_true rfl, Nat.le_of_ble_eq_true rfl⟩ (fun v M1 H locs hv hm hS => ?_)
  obtain ⟨hv1, hM1⟩ := hv
  rw [hM1] at hm
  rcases hv1 with hv1 | ⟨x3, hv1, hk_x3⟩
  · subst hv1
    refine W.eq (g2 := F0 m 8 ls [.null]) rfl ?_
    refine W.widen (k := 0) (n := 0) (Nat.le_of_ble_eq_true rfl) (Nat.le_of_ble_eq_true rfl) ?_
    have hm : mm D (AZ z) M H := hm
    refine lv_astore_nN (lv' := [(2, .null), (0, .ref h0), (1, .int a0)]) hx hb dX3_lookUp_8 rfl hl (by decide) rfl (fun ls hl => ?_)
    refine lv_bipush (v := 24) hx hb dX3_lookUp_9 (by decide) ?_
    refine lv_istore_n (lv' := [(3, .int 24), (2, .null), (0, .ref h0), (1, .int a0)]) hx hb dX3_lookUp_11 rfl hl (by decide) rfl (fun ls hl => ?_)
    refine W_loop (σ := Nat × (Option Nat) × (Nat → Option KD) × mM) (fun ⟨j4, o5, K12, M12⟩ H locs ls => (j4 ≤ 7) ∧ (TM k K12 M12) ∧ (kx κ M K12 M12) ∧ (K12 h0 = some .txn) ∧ (∀ a, o5 = some a → K12 a = some .node) ∧ mm D (AZ z) M12 H ∧ va_S (AZ z) s.heap H locs ∧ lv_has ls 5 [(3, .int (nI (4 * j4) - 4)), (2, va_rf o5), (0, .ref h0), (1, .int a0)]) (fun ⟨j4, o5, K12, M12⟩ => j4) (fun ⟨j4, o5, K12, M12⟩ => 0) (fun ⟨j4, o5, K12, M12⟩ => 0) ?_ (7, none, κ, M) _ _ _ ⟨(by decide), hT, hE, hk_h0, (fun _ h9 => by cases h9), hm, hS, lv_sub hl [0, 1, 2, 3] rfl⟩
    intro ⟨j4, o5, K12, M12⟩ H locs ls hQ ih12
    obtain ⟨hbj4, hT, hE, hk_h0, hoo5, hm, hS, hl⟩ := hQ
    try dsimp only at hm hl ih12 hbj4 hT hE hk_h0 hoo5 ⊢
    rcases o5 with _ | x6
    · refine lv_iload_n hx hb dX3_lookUp_12 rfl (lv_at hl 0 rfl) ?_
      refine lv_if_lt (tgt := 43) hx hb dX3_lookUp_13 (by decide) (fun c7 => ?_) (fun c7 => ?_)
      · refine lv_aload_nN hx hb dX3_lookUp_43 rfl (lv_at hl 1 rfl) ?_
        refine W.aret (v := .null) hx hb hr (Or.inl ⟨_, rfl⟩) (Or.inl rfl) (fun t ht hW => ⟨⟨some (.null), _, rfl, ?_, by rw [ht]; exact hm⟩, hS.F ht⟩) hS.2.2 dX3_lookUp_44
        exact ⟨_, hT, hE, Or.inl rfl⟩
      · obtain ⟨i4, rfl⟩ : ∃ i, j4 = i + 1 := by
          cases j4 with
          | zero => exact absurd (by decide) c7
          | succ i => exact ⟨i, rfl⟩
        have hk9 : nI (4 * (i4 + 1)) - 4 = nI (4 * i4) := by rw [show (4 : Int32) = nI 4 from rfl, pk_sub (by omega)]; congr 1
        rw [hk9] at hl
        refine lv_iload_n hx hb dX3_lookUp_16 rfl (lv_at hl 3 rfl) ?_
        refine lv_iload_n hx hb dX3_lookUp_17 rfl (lv_at hl 0 rfl) ?_
        refine lv_ishr hx hb dX3_lookUp_18 ?_
        refine lv_bipush (v := 15) hx hb dX3_lookUp_19 (by decide) ?_
        refine lv_iand hx hb dX3_lookUp_21 ?_
        refine lv_istore (lv' := [(4, .int ((a0 >>> ((nI (4 * i4)) &&& 31)) &&& 15)), (3, .int (nI (4 * i4))), (2, .null), (0, .ref h0), (1, .int a0)]) hx hb dX3_lookUp_22 hl (by decide) rfl (fun ls hl => ?_)
        refine lv_iload hx hb dX3_lookUp_24 (lv_at hl 0 rfl) ?_
        refine lv_if_eq (tgt := 37) hx hb dX3_lookUp_26 (by decide) (fun c8 => ?_) (fun c8 => ?_)
        · refine lv_iinc (v := ((nI (4 * i4)) + (-4))) (lv' := [(3, .int ((nI (4 * i4)) + (-4))), (4, .int ((a0 >>> ((nI (4 * i4)) &&& 31)) &&& 15)), (2, .null), (0, .ref h0), (1, .int a0)]) hx hb dX3_lookUp_37 hl (k := 1) rfl rfl (by decide) rfl (fun ls hl => ?_)
          refine lv_goto (tgt := 12) hx hb dX3_lookUp_40 (by decide) ?_
          rw [show nI (4 * i4) + (-4) = nI (4 * i4) - 4 from (Int32.sub_eq_add_neg _ _).symm] at hl
          exact ih12 (i4, none, K12, M12) _ _ _ ⟨(by omega), hT, hE, hk_h0, (fun _ h9 => by cases h9), hm, hS, lv_sub hl [0, 2, 3, 4] rfl⟩ (by show i4 < i4 + 1; omega)
        · refine lv_aload_n hx hb dX3_lookUp_29 rfl (lv_at hl 3 rfl) ?_
          refine lv_aload_nN hx hb dX3_lookUp_30 rfl (lv_at hl 2 rfl) ?_
          refine lv_iload hx hb dX3_lookUp_31 (lv_at hl 0 rfl) ?_
          obtain ⟨v0_9, v1_9, v2_9, v3_9, v4_9, v5_9, v6_9, hM_h0_9, hk_v0_9, hk_v1_9, hk_v2_9, hk_v3_9, hk_v4_9, hz_v5_9⟩ := hT.txn hk_h0
          refine m_kV (As := [.null, .int ((a0 >>> ((nI (4 * i4)) &&& 31)) &&& 15)]) (rest := []) (rm := { frames := 0, cells := 0, slots := 0, locals := 0 }) ⟨hx, hb, hml, hown, hts⟩ (t_X3_step_NI l D k z _ _ h0 ((a0 >>> ((nI (4 * i4)) &&& 31)) &&& 15) hk_h0 hT) (cwV 2 hts gX3_lookUp_X3_step rfl rfl rfl (by decide +kernel) ⟨Nat.le_of_ble_eq_true rfl, Nat.le_of_ble_eq_true rfl⟩) (m_recv hK hm (q := (RX3, TX3, 7)) rfl hM_h0_9) hz hcx hm hS rfl hl.1 rfl (Nat.le_of_ble_eq_true rfl) dX3_lookUp_33 ⟨Nat.le_of_ble_eq_true rfl, Nat.le_of_ble_eq_true rfl⟩ (fun v M1 H locs hv hm hS => ?_)
          obtain ⟨κ1, hT9, hE9, hv1⟩ := hv
          have hk_h0 := hE9.k hT hk_h0
          have hE := hE.trans hT0 hT hE9
          have hT := hT9
          obtain ⟨Mc1, hMx⟩ : ∃ x : mM, x = M1 := ⟨M1, rfl⟩
          subst hMx
          subst hv1
          refine W.eq (g2 := F0 m 36 ls [.null]) rfl ?_
          refine W.widen (k := 0) (n := 0) (Nat.le_of_ble_eq_true rfl) (Nat.le_of_ble_eq_true rfl) ?_
          have hm : mm D (AZ z) Mc1 H := hm
          refine lv_astore_nN (lv' := [(2, .null), (4, .int ((a0 >>> ((nI (4 * i4)) &&& 31)) &&& 15)), (3, .int (nI (4 * i4))), (0, .ref h0), (1, .int a0)]) hx hb dX3_lookUp_36 rfl hl (by decide) rfl (fun ls hl => ?_)
          refine lv_iinc (v := ((nI (4 * i4)) + (-4))) (lv' := [(3, .int ((nI (4 * i4)) + (-4))), (2, .null), (4, .int ((a0 >>> ((nI (4 * i4)) &&& 31)) &&& 15)), (0, .ref h0), (1, .int a0)]) hx hb dX3_lookUp_37 hl (k := 2) rfl rfl (by decide) rfl (fun ls hl => ?_)
          refine lv_goto (tgt := 12) hx hb dX3_lookUp_40 (by decide) ?_
          rw [show nI (4 * i4) + (-4) = nI (4 * i4) - 4 from (Int32.sub_eq_add_neg _ _).symm] at hl
          exact ih12 (i4, none, κ1, Mc1) _ _ _ ⟨(by omega), hT, hE, hk_h0, (fun _ h9 => by cases h9), hm, hS, lv_sub hl [0, 1, 3, 4] rfl⟩ (by show i4 < i4 + 1; omega)
    · have hk_x6 := hoo5 _ rfl
      refine lv_iload_n hx hb dX3_lookUp_12 rfl (lv_at hl 0 rfl) ?_
      refine lv_if_lt (tgt := 43) hx hb dX3_lookUp_13 (by decide) (fun c11 => ?_) (fun c11 => ?_)
      · refine lv_aload_n hx hb dX3_lookUp_43 rfl (lv_at hl 1 rfl) ?_
        refine W.aret (v := .ref x6) hx hb hr (Or.inl ⟨_, rfl⟩) (Or.inr ⟨_, rfl⟩) (fun t ht hW => ⟨⟨some (.ref x6), _, rfl, ?_, by rw [ht]; exact hm⟩, hS.F ht⟩) hS.2.2 dX3_lookUp_44
        exact ⟨_, hT, hE, Or.inr ⟨_, rfl, hk_x6⟩⟩
      · obtain ⟨i4, rfl⟩ : ∃ i, j4 = i + 1 := by
          cases j4 with
          | zero => exact absurd (by decide) c11
          | succ i => exact ⟨i, rfl⟩
        have hk9 : nI (4 * (i4 + 1)) - 4 = nI (4 * i4) := by rw [show (4 : Int32) = nI 4 from rfl, pk_sub (by omega)]; congr 1
        rw [hk9] at hl
        refine lv_iload_n hx hb dX3_lookUp_16 rfl (lv_at hl 3 rfl) ?_
        refine lv_iload_n hx hb dX3_lookUp_17 rfl (lv_at hl 0 rfl) ?_
        refine lv_ishr hx hb dX3_lookUp_18 ?_
        refine lv_bipush (v := 15) hx hb dX3_lookUp_19 (by decide) ?_
        refine lv_iand hx hb dX3_lookUp_21 ?_
        refine lv_istore (lv' := [(4, .int ((a0 >>> ((nI (4 * i4)) &&& 31)) &&& 15)), (3, .int (nI (4 * i4))), (2, .ref x6), (0, .ref h0), (1, .int a0)]) hx hb dX3_lookUp_22 hl (by decide) rfl (fun ls hl => ?_)
        refine lv_iload hx hb dX3_lookUp_24 (lv_at hl 0 rfl) ?_
        refine lv_if_eq (tgt := 37) hx hb dX3_lookUp_26 (by decide) (fun c12 => ?_) (fun c12 => ?_)
        · refine lv_iinc (v := ((nI (4 * i4)) + (-4))) (lv' := [(3, .int ((nI (4 * i4)) + (-4))), (4, .int ((a0 >>> ((nI (4 * i4)) &&& 31)) &&& 15)), (2, .ref x6), (0, .ref h0), (1, .int a0)]) hx hb dX3_lookUp_37 hl (k := 1) rfl rfl (by decide) rfl (fun ls hl => ?_)
          refine lv_goto (tgt := 12) hx hb dX3_lookUp_40 (by decide) ?_
          rw [show nI (4 * i4) + (-4) = nI (4 * i4) - 4 from (Int32.sub_eq_add_neg _ _).symm] at hl
          exact ih12 (i4, (some x6), K12, M12) _ _ _ ⟨(by omega), hT, hE, hk_h0, (fun _ h9 => by cases h9; exact hk_x6), hm, hS, lv_sub hl [0, 2, 3, 4] rfl⟩ (by show i4 < i4 + 1; omega)
        · refine lv_aload_n hx hb dX3_lookUp_29 rfl (lv_at hl 3 rfl) ?_
          refine lv_aload_n hx hb dX3_lookUp_30 rfl (lv_at hl 2 rfl) ?_
          refine lv_iload hx hb dX3_lookUp_31 (lv_at hl 0 rfl) ?_
          obtain ⟨v0_13, v1_13, v2_13, v3_13, v4_13, v5_13, v6_13, hM_h0_13, hk_v0_13, hk_v1_13, hk_v2_13, hk_v3_13, hk_v4_13, hz_v5_13⟩ := hT.txn hk_h0
          refine m_kV (As := [.ref x6, .int ((a0 >>> ((nI (4 * i4)) &&& 31)) &&& 15)]) (rest := []) (rm := { frames := 2, cells := 0, slots := 0, locals := 47 }) ⟨hx, hb, hml, hown, hts⟩ (t_X3_step_RI l D k z _ _ h0 x6 ((a0 >>> ((nI (4 * i4)) &&& 31)) &&& 15) hk_h0 hk_x6 hT) (cwV 2 hts gX3_lookUp_X3_step rfl rfl rfl (by decide +kernel) ⟨Nat.le_of_ble_eq_true rfl, Nat.le_of_ble_eq_true rfl⟩) (m_recv hK hm (q := (RX3, TX3, 7)) rfl hM_h0_13) hz hcx hm hS rfl hl.1 rfl (Nat.le_of_ble_eq_true rfl) dX3_lookUp_33 ⟨Nat.le_of_ble_eq_true rfl, Nat.le_of_ble_eq_true rfl⟩ (fun v M1 H locs hv hm hS => ?_)
          obtain ⟨κ2, hT9, hE9, hv1⟩ := hv
          have hk_h0 := hE9.k hT hk_h0
          have hk_x6 := hE9.k hT hk_x6
          have hE := hE.trans hT0 hT hE9
          have hT := hT9
          obtain ⟨Mc2, hMx⟩ : ∃ x : mM, x = M1 := ⟨M1, rfl⟩
          subst hMx
          rcases hv1 with hv1 | ⟨x14, hv1, hk_x14⟩
          · subst hv1
            refine W.eq (g2 := F0 m 36 ls [.null]) rfl ?_
            refine W.widen (k := 0) (n := 0) (Nat.le_of_ble_eq_true rfl) (Nat.le_of_ble_eq_true rfl) ?_
            have hm : mm D (AZ z) Mc2 H := hm
            refine lv_astore_nN (lv' := [(2, .null), (4, .int ((a0 >>> ((nI (4 * i4)) &&& 31)) &&& 15)), (3, .int (nI (4 * i4))), (0, .ref h0), (1, .int a0)]) hx hb dX3_lookUp_36 rfl hl (by decide) rfl (fun ls hl => ?_)
            refine lv_iinc (v := ((nI (4 * i4)) + (-4))) (lv' := [(3, .int ((nI (4 * i4)) + (-4))), (2, .null), (4, .int ((a0 >>> ((nI (4 * i4)) &&& 31)) &&& 15)), (0, .ref h0), (1, .int a0)]) hx hb dX3_lookUp_37 hl (k := 2) rfl rfl (by decide) rfl (fun ls hl => ?_)
            refine lv_goto (tgt := 12) hx hb dX3_lookUp_40 (by decide) ?_
            rw [show nI (4 * i4) + (-4) = nI (4 * i4) - 4 from (Int32.sub_eq_add_neg _ _).symm] at hl
            exact ih12 (i4, none, κ2, Mc2) _ _ _ ⟨(by omega), hT, hE, hk_h0, (fun _ h9 => by cases h9), hm, hS, lv_sub hl [0, 1, 3, 4] rfl⟩ (by show i4 < i4 + 1; omega)
          · subst hv1
            refine W.eq (g2 := F0 m 36 ls [.ref x14]) rfl ?_
            refine W.widen (k := 0) (n := 0) (Nat.le_of_ble_eq_true rfl) (Nat.le_of_ble_eq_true rfl) ?_
            have hm : mm D (AZ z) Mc2 H := hm
            refine lv_astore_n (lv' := [(2, .ref x14), (4, .int ((a0 >>> ((nI (4 * i4)) &&& 31)) &&& 15)), (3, .int (nI (4 * i4))), (0, .ref h0), (1, .int a0)]) hx hb dX3_lookUp_36 rfl hl (by decide) rfl (fun ls hl => ?_)
            refine lv_iinc (v := ((nI (4 * i4)) + (-4))) (lv' := [(3, .int ((nI (4 * i4)) + (-4))), (2, .ref x14), (4, .int ((a0 >>> ((nI (4 * i4)) &&& 31)) &&& 15)), (0, .ref h0), (1, .int a0)]) hx hb dX3_lookUp_37 hl (k := 2) rfl rfl (by decide) rfl (fun ls hl => ?_)
            refine lv_goto (tgt := 12) hx hb dX3_lookUp_40 (by decide) ?_
            rw [show nI (4 * i4) + (-4) = nI (4 * i4) - 4 from (Int32.sub_eq_add_neg _ _).symm] at hl
            exact ih12 (i4, (some x14), κ2, Mc2) _ _ _ ⟨(by omega), hT, hE, hk_h0, (fun _ h9 => by cases h9; exact hk_x14), hm, hS, lv_sub hl [0, 1, 3, 4] rfl⟩ (by show i4 < i4 + 1; omega)
  · subst hv1
    refine W.eq (g2 := F0 m 8 ls [.ref x3]) rfl ?_
    refine W.widen (k := 0) (n := 0) (Nat.le_of_ble_eq_true rfl) (Nat.le_of_ble_eq_true rfl) ?_
    have hm : mm D (AZ z) M H := hm
    refine lv_astore_n (lv' := [(2, .ref x3), (0, .ref h0), (1, .int a0)]) hx hb dX3_lookUp_8 rfl hl (by decide) rfl (fun ls hl => ?_)
    refine lv_bipush (v := 24) hx hb dX3_lookUp_9 (by decide) ?_
    refine lv_istore_n (lv' := [(3, .int 24), (2, .ref x3), (0, .ref h0), (1, .int a0)]) hx hb dX3_lookUp_11 rfl hl (by decide) rfl (fun ls hl => ?_)
    refine W_loop (σ := Nat × (Option Nat) × (Nat → Option KD) × mM) (fun ⟨j15, o16, K12, M12⟩ H locs ls => (j15 ≤ 7) ∧ (TM k K12 M12) ∧ (kx κ M K12 M12) ∧ (K12 h0 = some .txn) ∧ (∀ a, o16 = some a → K12 a = some .node) ∧ mm D (AZ z) M12 H ∧ va_S (AZ z) s.heap H locs ∧ lv_has ls 5 [(3, .int (nI (4 * j15) - 4)), (2, va_rf o16), (0, .ref h0), (1, .int a0)]) (fun ⟨j15, o16, K12, M12⟩ => j15) (fun ⟨j15, o16, K12, M12⟩ => 0) (fun ⟨j15, o16, K12, M12⟩ => 0) ?_ (7, (some x3), κ, M) _ _ _ ⟨(by decide), hT, hE, hk_h0, (fun _ h9 => by cases h9; exact hk_x3), hm, hS, lv_sub hl [0, 1, 2, 3] rfl⟩
    intro ⟨j15, o16, K12, M12⟩ H locs ls hQ ih12
    obtain ⟨hbj15, hT, hE, hk_h0, hoo16, hm, hS, hl⟩ := hQ
    try dsimp only at hm hl ih12 hbj15 hT hE hk_h0 hoo16 ⊢
    rcases o16 with _ | x17
    · refine lv_iload_n hx hb dX3_lookUp_12 rfl (lv_at hl 0 rfl) ?_
      refine lv_if_lt (tgt := 43) hx hb dX3_lookUp_13 (by decide) (fun c18 => ?_) (fun c18 => ?_)
      · refine lv_aload_nN hx hb dX3_lookUp_43 rfl (lv_at hl 1 rfl) ?_
        refine W.aret (v := .null) hx hb hr (Or.inl ⟨_, rfl⟩) (Or.inl rfl) (fun t ht hW => ⟨⟨some (.null), _, rfl, ?_, by rw [ht]; exact hm⟩, hS.F ht⟩) hS.2.2 dX3_lookUp_44
        exact ⟨_, hT, hE, Or.inl rfl⟩
      · obtain ⟨i4, rfl⟩ : ∃ i, j15 = i + 1 := by
          cases j15 with
          | zero => exact absurd (by decide) c18
          | succ i => exact ⟨i, rfl⟩
        have hk9 : nI (4 * (i4 + 1)) - 4 = nI (4 * i4) := by rw [show (4 : Int32) = nI 4 from rfl, pk_sub (by omega)]; congr 1
        rw [hk9] at hl
        refine lv_iload_n hx hb dX3_lookUp_16 rfl (lv_at hl 3 rfl) ?_
        refine lv_iload_n hx hb dX3_lookUp_17 rfl (lv_at hl 0 rfl) ?_
        refine lv_ishr hx hb dX3_lookUp_18 ?_
        refine lv_bipush (v := 15) hx hb dX3_lookUp_19 (by decide) ?_
        refine lv_iand hx hb dX3_lookUp_21 ?_
        refine lv_istore (lv' := [(4, .int ((a0 >>> ((nI (4 * i4)) &&& 31)) &&& 15)), (3, .int (nI (4 * i4))), (2, .null), (0, .ref h0), (1, .int a0)]) hx hb dX3_lookUp_22 hl (by decide) rfl (fun ls hl => ?_)
        refine lv_iload hx hb dX3_lookUp_24 (lv_at hl 0 rfl) ?_
        refine lv_if_eq (tgt := 37) hx hb dX3_lookUp_26 (by decide) (fun c19 => ?_) (fun c19 => ?_)
        · refine lv_iinc (v := ((nI (4 * i4)) + (-4))) (lv' := [(3, .int ((nI (4 * i4)) + (-4))), (4, .int ((a0 >>> ((nI (4 * i4)) &&& 31)) &&& 15)), (2, .null), (0, .ref h0), (1, .int a0)]) hx hb dX3_lookUp_37 hl (k := 1) rfl rfl (by decide) rfl (fun ls hl => ?_)
          refine lv_goto (tgt := 12) hx hb dX3_lookUp_40 (by decide) ?_
          rw [show nI (4 * i4) + (-4) = nI (4 * i4) - 4 from (Int32.sub_eq_add_neg _ _).symm] at hl
          exact ih12 (i4, none, K12, M12) _ _ _ ⟨(by omega), hT, hE, hk_h0, (fun _ h9 => by cases h9), hm, hS, lv_sub hl [0, 2, 3, 4] rfl⟩ (by show i4 < i4 + 1; omega)
        · refine lv_aload_n hx hb dX3_lookUp_29 rfl (lv_at hl 3 rfl) ?_
          refine lv_aload_nN hx hb dX3_lookUp_30 rfl (lv_at hl 2 rfl) ?_
          refine lv_iload hx hb dX3_lookUp_31 (lv_at hl 0 rfl) ?_
          obtain ⟨v0_20, v1_20, v2_20, v3_20, v4_20, v5_20, v6_20, hM_h0_20, hk_v0_20, hk_v1_20, hk_v2_20, hk_v3_20, hk_v4_20, hz_v5_20⟩ := hT.txn hk_h0
          refine m_kV (As := [.null, .int ((a0 >>> ((nI (4 * i4)) &&& 31)) &&& 15)]) (rest := []) (rm := { frames := 0, cells := 0, slots := 0, locals := 0 }) ⟨hx, hb, hml, hown, hts⟩ (t_X3_step_NI l D k z _ _ h0 ((a0 >>> ((nI (4 * i4)) &&& 31)) &&& 15) hk_h0 hT) (cwV 2 hts gX3_lookUp_X3_step rfl rfl rfl (by decide +kernel) ⟨Nat.le_of_ble_eq_true rfl, Nat.le_of_ble_eq_true rfl⟩) (m_recv hK hm (q := (RX3, TX3, 7)) rfl hM_h0_20) hz hcx hm hS rfl hl.1 rfl (Nat.le_of_ble_eq_true rfl) dX3_lookUp_33 ⟨Nat.le_of_ble_eq_true rfl, Nat.le_of_ble_eq_true rfl⟩ (fun v M1 H locs hv hm hS => ?_)
          obtain ⟨κ3, hT9, hE9, hv1⟩ := hv
          have hk_h0 := hE9.k hT hk_h0
          have hE := hE.trans hT0 hT hE9
          have hT := hT9
          obtain ⟨Mc3, hMx⟩ : ∃ x : mM, x = M1 := ⟨M1, rfl⟩
          subst hMx
          subst hv1
          refine W.eq (g2 := F0 m 36 ls [.null]) rfl ?_
          refine W.widen (k := 0) (n := 0) (Nat.le_of_ble_eq_true rfl) (Nat.le_of_ble_eq_true rfl) ?_
          have hm : mm D (AZ z) Mc3 H := hm
          refine lv_astore_nN (lv' := [(2, .null), (4, .int ((a0 >>> ((nI (4 * i4)) &&& 31)) &&& 15)), (3, .int (nI (4 * i4))), (0, .ref h0), (1, .int a0)]) hx hb dX3_lookUp_36 rfl hl (by decide) rfl (fun ls hl => ?_)
          refine lv_iinc (v := ((nI (4 * i4)) + (-4))) (lv' := [(3, .int ((nI (4 * i4)) + (-4))), (2, .null), (4, .int ((a0 >>> ((nI (4 * i4)) &&& 31)) &&& 15)), (0, .ref h0), (1, .int a0)]) hx hb dX3_lookUp_37 hl (k := 2) rfl rfl (by decide) rfl (fun ls hl => ?_)
          refine lv_goto (tgt := 12) hx hb dX3_lookUp_40 (by decide) ?_
          rw [show nI (4 * i4) + (-4) = nI (4 * i4) - 4 from (Int32.sub_eq_add_neg _ _).symm] at hl
          exact ih12 (i4, none, κ3, Mc3) _ _ _ ⟨(by omega), hT, hE, hk_h0, (fun _ h9 => by cases h9), hm, hS, lv_sub hl [0, 1, 3, 4] rfl⟩ (by show i4 < i4 + 1; omega)
    · have hk_x17 := hoo16 _ rfl
      refine lv_iload_n hx hb dX3_lookUp_12 rfl (lv_at hl 0 rfl) ?_
      refine lv_if_lt (tgt := 43) hx hb dX3_lookUp_13 (by decide) (fun c22 => ?_) (fun c22 => ?_)
      · refine lv_aload_n hx hb dX3_lookUp_43 rfl (lv_at hl 1 rfl) ?_
        refine W.aret (v := .ref x17) hx hb hr (Or.inl ⟨_, rfl⟩) (Or.inr ⟨_, rfl⟩) (fun t ht hW => ⟨⟨some (.ref x17), _, rfl, ?_, by rw [ht]; exact hm⟩, hS.F ht⟩) hS.2.2 dX3_lookUp_44
        exact ⟨_, hT, hE, Or.inr ⟨_, rfl, hk_x17⟩⟩
      · obtain ⟨i4, rfl⟩ : ∃ i, j15 = i + 1 := by
          cases j15 with
          | zero => exact absurd (by decide) c22
          | succ i => exact ⟨i, rfl⟩
        have hk9 : nI (4 * (i4 + 1)) - 4 = nI (4 * i4) := by rw [show (4 : Int32) = nI 4 from rfl, pk_sub (by omega)]; congr 1
        rw [hk9] at hl
        refine lv_iload_n hx hb dX3_lookUp_16 rfl (lv_at hl 3 rfl) ?_
        refine lv_iload_n hx hb dX3_lookUp_17 rfl (lv_at hl 0 rfl) ?_
        refine lv_ishr hx hb dX3_lookUp_18 ?_
        refine lv_bipush (v := 15) hx hb dX3_lookUp_19 (by decide) ?_
        refine lv_iand hx hb dX3_lookUp_21 ?_
        refine lv_istore (lv' := [(4, .int ((a0 >>> ((nI (4 * i4)) &&& 31)) &&& 15)), (3, .int (nI (4 * i4))), (2, .ref x17), (0, .ref h0), (1, .int a0)]) hx hb dX3_lookUp_22 hl (by decide) rfl (fun ls hl => ?_)
        refine lv_iload hx hb dX3_lookUp_24 (lv_at hl 0 rfl) ?_
        refine lv_if_eq (tgt := 37) hx hb dX3_lookUp_26 (by decide) (fun c23 => ?_) (fun c23 => ?_)
        · refine lv_iinc (v := ((nI (4 * i4)) + (-4))) (lv' := [(3, .int ((nI (4 * i4)) + (-4))), (4, .int ((a0 >>> ((nI (4 * i4)) &&& 31)) &&& 15)), (2, .ref x17), (0, .ref h0), (1, .int a0)]) hx hb dX3_lookUp_37 hl (k := 1) rfl rfl (by decide) rfl (fun ls hl => ?_)
          refine lv_goto (tgt := 12) hx hb dX3_lookUp_40 (by decide) ?_
          rw [show nI (4 * i4) + (-4) = nI (4 * i4) - 4 from (Int32.sub_eq_add_neg _ _).symm] at hl
          exact ih12 (i4, (some x17), K12, M12) _ _ _ ⟨(by omega), hT, hE, hk_h0, (fun _ h9 => by cases h9; exact hk_x17), hm, hS, lv_sub hl [0, 2, 3, 4] rfl⟩ (by show i4 < i4 + 1; omega)
        · refine lv_aload_n hx hb dX3_lookUp_29 rfl (lv_at hl 3 rfl) ?_
          refine lv_aload_n hx hb dX3_lookUp_30 rfl (lv_at hl 2 rfl) ?_
          refine lv_iload hx hb dX3_lookUp_31 (lv_at hl 0 rfl) ?_
          obtain ⟨v0_24, v1_24, v2_24, v3_24, v4_24, v5_24, v6_24, hM_h0_24, hk_v0_24, hk_v1_24, hk_v2_24, hk_v3_24, hk_v4_24, hz_v5_24⟩ := hT.txn hk_h0
          refine m_kV (As := [.ref x17, .int ((a0 >>> ((nI (4 * i4)) &&& 31)) &&& 15)]) (rest := []) (rm := { frames := 2, cells := 0, slots := 0, locals := 47 }) ⟨hx, hb, hml, hown, hts⟩ (t_X3_step_RI l D k z _ _ h0 x17 ((a0 >>> ((nI (4 * i4)) &&& 31)) &&& 15) hk_h0 hk_x17 hT) (cwV 2 hts gX3_lookUp_X3_step rfl rfl rfl (by decide +kernel) ⟨Nat.le_of_ble_eq_true rfl, Nat.le_of_ble_eq_true rfl⟩) (m_recv hK hm (q := (RX3, TX3, 7)) rfl hM_h0_24) hz hcx hm hS rfl hl.1 rfl (Nat.le_of_ble_eq_true rfl) dX3_lookUp_33 ⟨Nat.le_of_ble_eq_true rfl, Nat.le_of_ble_eq_true rfl⟩ (fun v M1 H locs hv hm hS => ?_)
          obtain ⟨κ4, hT9, hE9, hv1⟩ := hv
          have hk_h0 := hE9.k hT hk_h0
          have hk_x17 := hE9.k hT hk_x17
          have hE := hE.trans hT0 hT hE9
          have hT := hT9
          obtain ⟨Mc4, hMx⟩ : ∃ x : mM, x = M1 := ⟨M1, rfl⟩
          subst hMx
          rcases hv1 with hv1 | ⟨x25, hv1, hk_x25⟩
          · subst hv1
            refine W.eq (g2 := F0 m 36 ls [.null]) rfl ?_
            refine W.widen (k := 0) (n := 0) (Nat.le_of_ble_eq_true rfl) (Nat.le_of_ble_eq_true rfl) ?_
            have hm : mm D (AZ z) Mc4 H := hm
            refine lv_astore_nN (lv' := [(2, .null), (4, .int ((a0 >>> ((nI (4 * i4)) &&& 31)) &&& 15)), (3, .int (nI (4 * i4))), (0, .ref h0), (1, .int a0)]) hx hb dX3_lookUp_36 rfl hl (by decide) rfl (fun ls hl => ?_)
            refine lv_iinc (v := ((nI (4 * i4)) + (-4))) (lv' := [(3, .int ((nI (4 * i4)) + (-4))), (2, .null), (4, .int ((a0 >>> ((nI (4 * i4)) &&& 31)) &&& 15)), (0, .ref h0), (1, .int a0)]) hx hb dX3_lookUp_37 hl (k := 2) rfl rfl (by decide) rfl (fun ls hl => ?_)
            refine lv_goto (tgt := 12) hx hb dX3_lookUp_40 (by decide) ?_
            rw [show nI (4 * i4) + (-4) = nI (4 * i4) - 4 from (Int32.sub_eq_add_neg _ _).symm] at hl
            exact ih12 (i4, none, κ4, Mc4) _ _ _ ⟨(by omega), hT, hE, hk_h0, (fun _ h9 => by cases h9), hm, hS, lv_sub hl [0, 1, 3, 4] rfl⟩ (by show i4 < i4 + 1; omega)
          · subst hv1
            refine W.eq (g2 := F0 m 36 ls [.ref x25]) rfl ?_
            refine W.widen (k := 0) (n := 0) (Nat.le_of_ble_eq_true rfl) (Nat.le_of_ble_eq_true rfl) ?_
            have hm : mm D (AZ z) Mc4 H := hm
            refine lv_astore_n (lv' := [(2, .ref x25), (4, .int ((a0 >>> ((nI (4 * i4)) &&& 31)) &&& 15)), (3, .int (nI (4 * i4))), (0, .ref h0), (1, .int a0)]) hx hb dX3_lookUp_36 rfl hl (by decide) rfl (fun ls hl => ?_)
            refine lv_iinc (v := ((nI (4 * i4)) + (-4))) (lv' := [(3, .int ((nI (4 * i4)) + (-4))), (2, .ref x25), (4, .int ((a0 >>> ((nI (4 * i4)) &&& 31)) &&& 15)), (0, .ref h0), (1, .int a0)]) hx hb dX3_lookUp_37 hl (k := 2) rfl rfl (by decide) rfl (fun ls hl => ?_)
            refine lv_goto (tgt := 12) hx hb dX3_lookUp_40 (by decide) ?_
            rw [show nI (4 * i4) + (-4) = nI (4 * i4) - 4 from (Int32.sub_eq_add_neg _ _).symm] at hl
            exact ih12 (i4, (some x25), κ4, Mc4) _ _ _ ⟨(by omega), hT, hE, hk_h0, (fun _ h9 => by cases h9; exact hk_x25), hm, hS, lv_sub hl [0, 1, 3, 4] rfl⟩ (by show i4 < i4 + 1; omega)

set_option maxHeartbeats 4000000 in
set_option maxRecDepth 100000 in
theorem t_X5_parentWithRoom_RI (l : Launch) (hlt : l.stackTraces = false) (D : va_G) (k : Nat → ClassId) (z : Nat) (M : mM) (κ : Nat → Option KD) (r0 : Nat) (a1 : Int32) (hk_r0 : κ r0 = some .txn) (hT : TM k κ M) : mC l yX5_parentWithRoom wsX5_parentWithRoom ({ frames := 6, cells := 1, slots := 6, locals := 93 }) D k z [.ref r0, .int a1] M (fun v M' => ∃ κ', TM k κ' M' ∧ kx κ M κ' M' ∧ ∃ a, v = some (.ref a) ∧ κ' a = some .node) (fun E M' => E ∈ (["java/util/NoSuchElementException", "java/lang/UnsupportedOperationException"] : List String) ∧ ∃ κ', TM k κ' M' ∧ kx κ M κ' M') := by
  refine vx_ofW (cc := cX5_parentWithRoom) (maxL := 3) (ret := (some (.object "CommitTree$Node"))) (by decide) rfl ?_
  intro p e s m args below meth c s₁ B hml hnt hv
  obtain ⟨rfl, hz, hcx, hm⟩ := hv
  have hx := B.exec
  have hb := B.bytes
  have hr := B.returns
  have hts := atoms_spec (ws := wsX5_parentWithRoom) B.pre
  have hown : s.vm.findClass RX5 = some m.cls := findClass_of_methodNamed B.named
  have hlocks := B.notSynchronized
  have hK := hcx.1
  have hS : va_S (AZ z) s.heap s.heap [] := va_S.rf
  have hA : ∀ q, s.heap.size ≤ q → AZ z q := fun q h => Nat.le_trans hz h
  have hl := lv_entry ([.ref r0, .int a1]) (n := 3) (Nat.le_of_ble_eq_true rfl)
  rw [lg_entry_eq]
  generalize (lg_sl ([.ref r0, .int a1]) ++ List.replicate (3 - (lg_sl ([.ref r0, .int a1])).length) Slot.unset).toArray = ls at hl ⊢
  have hl : lv_has ls 3 [(0, .ref r0), (1, .int a1)] := hl
  have f159 := hts (.fieldLink RX5 159 "CommitTree$Node" "directory" "Z") (by decide +kernel)
  have wX2 : ∀ w ∈ wsX20, w ∈ wsX5_parentWithRoom := by decide +kernel
  have hT0 := hT
  have hE : kx κ M κ M := kx.refl _ _
  refine lv_aload_n hx hb dX5_parentWithRoom_0 rfl (lv_at hl 0 rfl) ?_
  refine lv_iload_n hx hb dX5_parentWithRoom_1 rfl (lv_at hl 1 rfl) ?_
  refine lv_iconst (v := 4) hx hb dX5_parentWithRoom_2 (by decide) ?_
  refine lv_ishr hx hb dX5_parentWithRoom_3 ?_
  obtain ⟨v0_1, v1_1, v2_1, v3_1, v4_1, v5_1, v6_1, hM_r0_1, hk_v0_1, hk_v1_1, hk_v2_1, hk_v3_1, hk_v4_1, hz_v5_1⟩ := hT.txn hk_r0
  refine m_kV (As := [.int (a1 >>> (4 &&& 31))]) (rest := []) (rm := { frames := 3, cells := 0, slots := 0, locals := 69 }) ⟨hx, hb, hml, hown, hts⟩ (t_X3_lookUp_I l D k z _ _ r0 (a1 >>> (4 &&& 31)) hk_r0 hT) (cwV 1 hts gX5_parentWithRoom_X3_lookUp rfl rfl rfl (by decide +kernel) ⟨Nat.le_of_ble_eq_true rfl, Nat.le_of_ble_eq_true rfl⟩) (m_recv hK hm (q := (RX3, TX3, 7)) rfl hM_r0_1) hz hcx hm hS rfl hl.1 rfl (Nat.le_of_ble_eq_true rfl) dX5_parentWithRoom_4 ⟨Nat.le_of_ble_eq_true rfl, Nat.le_of_ble_eq_true rfl⟩ (fun v M1 H locs hv hm hS => ?_)
  obtain ⟨κ1, hT9, hE9, hv1⟩ := hv
  have hk_r0 := hE9.k hT hk_r0
  have hE := hE.trans hT0 hT hE9
  have hT := hT9
  obtain ⟨Mc1, hMx⟩ : ∃ x : mM, x = M1 := ⟨M1, rfl⟩
  subst hMx
  rcases hv1 with hv1 | ⟨x2, hv1, hk_x2⟩
  · subst hv1
    refine W.eq (g2 := F0 m 7 ls [.null]) rfl ?_
    refine W.widen (k := 0) (n := 0) (Nat.le_of_ble_eq_true rfl) (Nat.le_of_ble_eq_true rfl) ?_
    have hm : mm D (AZ z) Mc1 H := hm
    refine lv_astore_nN (lv' := [(2, .null), (0, .ref r0), (1, .int a1)]) hx hb dX5_parentWithRoom_7 rfl hl (by decide) rfl (fun ls hl => ?_)
    refine lv_aload_nN hx hb dX5_parentWithRoom_8 rfl (lv_at hl 0 rfl) ?_
    refine lv_ifnonnullN hx hb dX5_parentWithRoom_9 ?_
    obtain ⟨sa, hsa⟩ := hcx.2.2.1 (269, "there is nothing at the path without its last name") (by decide)
    refine nx_throwSW (own := RX5) (cls := "java/util/NoSuchElementException") (Y := "java/lang/RuntimeException") (text := "there is nothing at the path without its last name") (names := ["java/lang/Exception"]) (ik := 154) (is := 269) (ic := 158) (i1 := 13) (b1 := prog_21_method_4_code) (A := AZ z) hx hb hlt hown (by decide) (by decide) (by decide) (by decide +kernel) (by decide +kernel) (by decide +kernel) (by decide +kernel) (hts (.classLink RX5 154 "java/util/NoSuchElementException") (by decide +kernel)) (hts (.initialized "java/util/NoSuchElementException") (by decide +kernel)) hsa (vx_hat (B := DW) (fun w h => hts w (List.mem_cons_of_mem _ (List.mem_append_left _ (List.mem_append_right _ h)))) (by decide +kernel) (hcx.dw _)) (by decide +kernel) hcx.2.1.1 hcx.2.1.2 hS (hl.1.trans hml.symm) dX5_parentWithRoom_12 dX5_parentWithRoom_15 dX5_parentWithRoom_16 dX5_parentWithRoom_19 dX5_parentWithRoom_22 (fun x hx => (hnt x hx).elim) (Nat.le_of_ble_eq_true rfl) (Nat.le_of_ble_eq_true rfl) (Nat.le_of_ble_eq_true rfl) (Nat.le_of_ble_eq_true rfl) hlocks (fun t hvm hz1 hq => ⟨⟨_, ?_, hm.kept hq⟩, ⟨Nat.le_trans hS.1 hz1, fun q h1 h2 => (hq q (Nat.lt_of_lt_of_le h1 hS.1)).trans (hS.2.1 q h1 h2)⟩⟩) hS.2.2 (Nat.le_of_ble_eq_true rfl) (Nat.le_of_ble_eq_true rfl)
    exact ⟨by simp, _, hT, hE⟩
  · subst hv1
    refine W.eq (g2 := F0 m 7 ls [.ref x2]) rfl ?_
    refine W.widen (k := 0) (n := 0) (Nat.le_of_ble_eq_true rfl) (Nat.le_of_ble_eq_true rfl) ?_
    have hm : mm D (AZ z) Mc1 H := hm
    refine lv_astore_n (lv' := [(2, .ref x2), (0, .ref r0), (1, .int a1)]) hx hb dX5_parentWithRoom_7 rfl hl (by decide) rfl (fun ls hl => ?_)
    refine lv_aload_n hx hb dX5_parentWithRoom_8 rfl (lv_at hl 0 rfl) ?_
    refine lv_ifnonnull (tgt := 23) hx hb dX5_parentWithRoom_9 (by decide) ?_
    refine lv_aload_n hx hb dX5_parentWithRoom_23 rfl (lv_at hl 0 rfl) ?_
    obtain ⟨v0_3, v1_3, v2_3, v3_3, hM_x2_3, hz_v1_3, hk_v3_3⟩ := hT.node hk_x2
    rcases hz_v1_3 with h9 | h9
    · subst h9
      refine m_get (T := TX2) (N := 4) (ci := 2) (v := .int 0) hx hb hts wX2 hown hK hm hM_x2_3 rfl 1 (by decide) f159 (fun _ h9 => h9) rfl dX5_parentWithRoom_24 ?_
      refine lv_if_ne (tgt := 41) hx hb dX5_parentWithRoom_27 (by decide) (fun c4 => ?_) (fun c4 => ?_)
      · first | exact absurd c4 (by decide) | exact absurd (by decide) c4
      · obtain ⟨sa, hsa⟩ := hcx.2.2.1 (271, "the path without its last name is a file's") (by decide)
        refine vx_throwSW (own := RX5) (cls := "java/lang/UnsupportedOperationException") (text := "the path without its last name is a file's") (names := ["java/lang/RuntimeException", "java/lang/Exception"]) (ik := 86) (is := 271) (ic := 90) (A := AZ z) hx hb hlt hown (by decide) (by decide) (hts (.classLink RX5 86 "java/lang/UnsupportedOperationException") (by decide +kernel)) (hts (.initialized "java/lang/UnsupportedOperationException") (by decide +kernel)) hsa (vx_hat (B := DW) (fun w h => hts w (List.mem_cons_of_mem _ (List.mem_append_right _ h))) (by decide +kernel) (hcx.dw _)) (by decide +kernel) hcx.2.1.1 hcx.2.1.2 hS (hl.1.trans hml.symm) dX5_parentWithRoom_30 dX5_parentWithRoom_33 dX5_parentWithRoom_34 dX5_parentWithRoom_37 dX5_parentWithRoom_40 (fun x hx => (hnt x hx).elim) (Nat.le_of_ble_eq_true rfl) (Nat.le_of_ble_eq_true rfl) (Nat.le_of_ble_eq_true rfl) (Nat.le_of_ble_eq_true rfl) hlocks (fun t hvm hz1 hq => ⟨⟨_, ?_, hm.kept hq⟩, ⟨Nat.le_trans hS.1 hz1, fun q h1 h2 => (hq q (Nat.lt_of_lt_of_le h1 hS.1)).trans (hS.2.1 q h1 h2)⟩⟩) hS.2.2 (Nat.le_of_ble_eq_true rfl) (Nat.le_of_ble_eq_true rfl)
        exact ⟨by simp, _, hT, hE⟩
    · subst h9
      refine m_get (T := TX2) (N := 4) (ci := 2) (v := .int 1) hx hb hts wX2 hown hK hm hM_x2_3 rfl 1 (by decide) f159 (fun _ h9 => h9) rfl dX5_parentWithRoom_24 ?_
      refine lv_if_ne (tgt := 41) hx hb dX5_parentWithRoom_27 (by decide) (fun c5 => ?_) (fun c5 => ?_)
      · refine lv_aload_n hx hb dX5_parentWithRoom_41 rfl (lv_at hl 1 rfl) ?_
        refine lv_aload_n hx hb dX5_parentWithRoom_42 rfl (lv_at hl 0 rfl) ?_
        refine lv_iload_n hx hb dX5_parentWithRoom_43 rfl (lv_at hl 2 rfl) ?_
        refine lv_bipush (v := 15) hx hb dX5_parentWithRoom_44 (by decide) ?_
        refine lv_iand hx hb dX5_parentWithRoom_46 ?_
        obtain ⟨v0_6, v1_6, v2_6, v3_6, v4_6, v5_6, v6_6, hM_r0_6, hk_v0_6, hk_v1_6, hk_v2_6, hk_v3_6, hk_v4_6, hz_v5_6⟩ := hT.txn hk_r0
        refine m_kV (As := [.ref x2, .int (a1 &&& 15)]) (rest := []) (rm := { frames := 2, cells := 0, slots := 0, locals := 47 }) ⟨hx, hb, hml, hown, hts⟩ (t_X3_step_RI l D k z _ _ r0 x2 (a1 &&& 15) hk_r0 hk_x2 hT) (cwV 2 hts gX5_parentWithRoom_X3_step rfl rfl rfl (by decide +kernel) ⟨Nat.le_of_ble_eq_true rfl, Nat.le_of_ble_eq_true rfl⟩) (m_recv hK hm (q := (RX3, TX3, 7)) rfl hM_r0_6) hz hcx hm hS rfl hl.1 rfl (Nat.le_of_ble_eq_true rfl) dX5_parentWithRoom_47 ⟨Nat.le_of_ble_eq_true rfl, Nat.le_of_ble_eq_true rfl⟩ (fun v M1 H locs hv hm hS => ?_)
        obtain ⟨κ2, hT9, hE9, hv1⟩ := hv
        have hk_r0 := hE9.k hT hk_r0
        have hk_x2 := hE9.k hT hk_x2
        have hE := hE.trans hT0 hT hE9
        have hT := hT9
        obtain ⟨Mc2, hMx⟩ : ∃ x : mM, x = M1 := ⟨M1, rfl⟩
        subst hMx
        rcases hv1 with hv1 | ⟨x7, hv1, hk_x7⟩
        · subst hv1
          refine W.eq (g2 := F0 m 50 ls [.null]) rfl ?_
          refine W.widen (k := 0) (n := 0) (Nat.le_of_ble_eq_true rfl) (Nat.le_of_ble_eq_true rfl) ?_
          have hm : mm D (AZ z) Mc2 H := hm
          refine lv_ifnullN (tgt := 64) hx hb dX5_parentWithRoom_50 (by decide) ?_
          refine lv_aload_n hx hb dX5_parentWithRoom_64 rfl (lv_at hl 0 rfl) ?_
          refine W.widen (k := 1) (n := 6) (by omega) (by omega) ?_
          refine vx_ret ?_
          refine W.aret (v := .ref x2) hx hb hr (Or.inl ⟨_, rfl⟩) (Or.inr ⟨_, rfl⟩) (fun t ht hW => ⟨⟨some (.ref x2), _, rfl, ?_, by rw [ht]; exact hm⟩, hS.F ht⟩) hS.2.2 dX5_parentWithRoom_65
          exact ⟨_, hT, hE, ⟨_, rfl, hk_x2⟩⟩
        · subst hv1
          refine W.eq (g2 := F0 m 50 ls [.ref x7]) rfl ?_
          refine W.widen (k := 0) (n := 0) (Nat.le_of_ble_eq_true rfl) (Nat.le_of_ble_eq_true rfl) ?_
          have hm : mm D (AZ z) Mc2 H := hm
          refine lv_ifnull hx hb dX5_parentWithRoom_50 ?_
          obtain ⟨sa, hsa⟩ := hcx.2.2.1 (273, "there is something at the path") (by decide)
          refine vx_throwSW (own := RX5) (cls := "java/lang/UnsupportedOperationException") (text := "there is something at the path") (names := ["java/lang/RuntimeException", "java/lang/Exception"]) (ik := 86) (is := 273) (ic := 90) (A := AZ z) hx hb hlt hown (by decide) (by decide) (hts (.classLink RX5 86 "java/lang/UnsupportedOperationException") (by decide +kernel)) (hts (.initialized "java/lang/UnsupportedOperationException") (by decide +kernel)) hsa (vx_hat (B := DW) (fun w h => hts w (List.mem_cons_of_mem _ (List.mem_append_right _ h))) (by decide +kernel) (hcx.dw _)) (by decide +kernel) hcx.2.1.1 hcx.2.1.2 hS (hl.1.trans hml.symm) dX5_parentWithRoom_53 dX5_parentWithRoom_56 dX5_parentWithRoom_57 dX5_parentWithRoom_60 dX5_parentWithRoom_63 (fun x hx => (hnt x hx).elim) (Nat.le_of_ble_eq_true rfl) (Nat.le_of_ble_eq_true rfl) (Nat.le_of_ble_eq_true rfl) (Nat.le_of_ble_eq_true rfl) hlocks (fun t hvm hz1 hq => ⟨⟨_, ?_, hm.kept hq⟩, ⟨Nat.le_trans hS.1 hz1, fun q h1 h2 => (hq q (Nat.lt_of_lt_of_le h1 hS.1)).trans (hS.2.1 q h1 h2)⟩⟩) hS.2.2 (Nat.le_of_ble_eq_true rfl) (Nat.le_of_ble_eq_true rfl)
          exact ⟨by simp, _, hT, hE⟩
      · first | exact absurd c5 (by decide) | exact absurd (by decide) c5

set_option maxHeartbeats 4000000 in
set_option maxRecDepth 100000 in
theorem t_X2_blank_I0 (l : Launch) (D : va_G) (k : Nat → ClassId) (z : Nat) (M : mM) (κ : Nat → Option KD) (a0 : Int32)  (hT : TM k κ M) : mK l yX2_blank wsX2_blank ({ frames := 2, cells := 2, slots := 68, locals := 40 }) D k z [.int a0, .int 0] M (fun v M' => ∃ κ', TM k κ' M' ∧ kx κ M κ' M' ∧ ∃ a, v = some (.ref a) ∧ κ' a = some .node) := by
  refine Met.ofW (cc := cX2_blank) (maxL := 2) (ret := (some (.object "CommitTree$Node"))) (by decide) rfl ?_
  intro p e s m args below meth c s₁ B hml hv
  obtain ⟨rfl, hz, hcx, hm⟩ := hv
  have hx := B.exec
  have hb := B.bytes
  have hr := B.returns
  have hts := atoms_spec (ws := wsX2_blank) B.pre
  have hown : s.vm.findClass RX2 = some m.cls := findClass_of_methodNamed B.named
  have hlocks := B.notSynchronized
  have hK := hcx.1
  have hS : va_S (AZ z) s.heap s.heap [] := va_S.rf
  have hA : ∀ q, s.heap.size ≤ q → AZ z q := fun q h => Nat.le_trans hz h
  have hl := lv_entry ([.int a0, .int 0]) (n := 2) (Nat.le_of_ble_eq_true rfl)
  rw [lg_entry_eq]
  generalize (lg_sl ([.int a0, .int 0]) ++ List.replicate (2 - (lg_sl ([.int a0, .int 0])).length) Slot.unset).toArray = ls at hl ⊢
  have hl : lv_has ls 2 [(0, .int a0), (1, .int 0)] := hl
  have wX2 : ∀ w ∈ wsX20, w ∈ wsX2_blank := by decide +kernel
  have hT0 := hT
  have hE : kx κ M κ M := kx.refl _ _
  refine m_new (T := TX2) (N := 4) (ci := 2) (fs := [.int 0, .int 0, .int 0, .null]) hx hb hts wX2 tyX2 tyX2_ok hown (hts (.classLink RX2 10 RX2) (by decide +kernel)) (hts (.instantiable RX2 4) (by decide +kernel)) (hts (.initialized RX2) (by decide +kernel)) hK hm hS hA rfl (fun j hj => by rcases (show j = 0 ∨ j = 1 ∨ j = 2 ∨ j = 3 by omega) with rfl | rfl | rfl | rfl <;> rfl) (Nat.le_of_ble_eq_true rfl) (Nat.le_of_ble_eq_true rfl) dX2_blank_0 (fun q1 H hq1 hm hS => ?_)
  refine W.widen (k := 1) (n := 4) (Nat.le_of_ble_eq_true rfl) (Nat.le_of_ble_eq_true rfl) ?_
  have hm : mm D (AZ z) (mu M q1 (.inr (2, [.int 0, .int 0, .int 0, .null]))) H := hm
  have hz0_q1 := hE.no hT0 hT hq1
  have hk0_q1 := hT.no hq1
  have hM_q1 : (mu M q1 (.inr (2, [.int 0, .int 0, .int 0, .null]))) q1 = _ := mu_self _ _ _
  have hT : TM k κ (mu M q1 (.inr (2, [.int 0, .int 0, .int 0, .null]))) := hT.new0 hq1
  have hE : kx κ M κ (mu M q1 (.inr (2, [.int 0, .int 0, .int 0, .null]))) := hE.new0 hq1
  generalize (mu M q1 (.inr (2, [.int 0, .int 0, .int 0, .null]))) = Mc1 at hm hT hE hM_q1
  refine lv_dup hx hb dX2_blank_3 rfl ?_
  refine lv_iload_n hx hb dX2_blank_4 rfl (lv_at hl 0 rfl) ?_
  refine lv_iload_n hx hb dX2_blank_5 rfl (lv_at hl 1 rfl) ?_
  refine lv_iconst (v := 0) hx hb dX2_blank_6 (by decide) ?_
  refine lv_iload_n hx hb dX2_blank_7 rfl (lv_at hl 1 rfl) ?_
  refine lv_if_eq (tgt := 16) hx hb dX2_blank_8 (by decide) (fun c2 => ?_) (fun c2 => ?_)
  · refine lv_bipush (v := 64) hx hb dX2_blank_16 (by decide) ?_
    refine m_newa (atype := .int) hx hb (hts (.arrayClass .int) (by decide +kernel)) (ty := .int) rfl (fun C h => by cases h) hK 0 rfl hm hS hA (N' := 64) (a0 := (64, .inl (fun _ => 0))) (fun cA => vp_cell_i cA _ _) (by decide) rfl (by decide) (Nat.le_of_ble_eq_true rfl) (Nat.le_of_ble_eq_true rfl) dX2_blank_18 (fun q3 H hq3 hm hS => ?_)
    refine W.widen (k := 2) (n := 68) (Nat.le_of_ble_eq_true rfl) (Nat.le_of_ble_eq_true rfl) ?_
    have ne_q1_q3 : q1 ≠ q3 := m_fr hq3 hM_q1
    have hm : mm D (AZ z) (mu Mc1 q3 (.inl (k 0, 64, .inl (fun _ => 0)))) H := hm
    have hz0_q3 := hE.no hT0 hT hq3
    have hk0_q3 := hT.no hq3
    have hR_4 : (mu Mc1 q3 (.inl (k 0, 64, .inl (fun _ => 0)))) q1 = _ := (mu_ne (m_fr hq3 hM_q1)).trans hM_q1
    have hM_q3 : (mu Mc1 q3 (.inl (k 0, 64, .inl (fun _ => 0)))) q3 = _ := mu_self _ _ _
    have hT : TM k κ (mu Mc1 q3 (.inl (k 0, 64, .inl (fun _ => 0)))) := hT.new0 hq3
    have hE : kx κ M κ (mu Mc1 q3 (.inl (k 0, 64, .inl (fun _ => 0)))) := hE.new0 hq3
    generalize (mu Mc1 q3 (.inl (k 0, 64, .inl (fun _ => 0)))) = Mc2 at hm hT hE hR_4 hM_q3
    have hT9 : TM k (kup κ q3 .ints) Mc2 := hT.adopt hk0_q3 hM_q3 (show wf k (kup κ q3 .ints) .ints _ from ⟨64, (fun _ => 0), rfl, (by decide)⟩)
    have hE : kx κ M (kup κ q3 .ints) Mc2 := hE.adopt hz0_q3
    have hT := hT9
    have hk_q3 : kup κ q3 .ints q3 = some .ints := kup_self _ _ _
    have hk0_q1 : kup κ q3 .ints q1 = none := (if_neg ne_q1_q3).trans hk0_q1
    generalize kup κ q3 .ints = κ3 at hT hE hk_q3 hk0_q1
    refine m_kI (As := [.int a0, .int 0, .int 0, .ref q3]) (rest := [.ref q1]) (rm := { frames := 1, cells := 0, slots := 0, locals := 12 }) ⟨hx, hb, hml, hown, hts⟩ (c_X2_init l D k z _ q1 q3 a0 0 0 (by decide) hR_4) (cwI 4 hts gX2_blank_X2_init rfl rfl rfl (hts (.initialized RX2) (by decide +kernel)) (hts (.methodLink RX2 26 yX2_init) (by decide +kernel)) (hts (.instanceMethod yX2_init) (by decide +kernel)) rfl (by decide +kernel) ⟨Nat.le_of_ble_eq_true rfl, Nat.le_of_ble_eq_true rfl⟩) hz hcx hm hS rfl hl.1 rfl (Nat.le_of_ble_eq_true rfl) dX2_blank_20 ⟨Nat.le_of_ble_eq_true rfl, Nat.le_of_ble_eq_true rfl⟩ (fun v M1 H locs hv hm hS => ?_)
    obtain ⟨hv1, hM1⟩ := hv
    subst hv1
    rw [hM1] at hm
    have hR_5 : (mu Mc2 q1 (.inr (2, [.int a0, .int 0, .int 0, .ref q3]))) q3 = _ := (mu_ne (fun q9 => by rw [q9, hk0_q1] at hk_q3; cases hk_q3)).trans hM_q3
    have hT : TM k κ3 (mu Mc2 q1 (.inr (2, [.int a0, .int 0, .int 0, .ref q3]))) := fun b9 d9 hb9 => by
      obtain ⟨e9, h9, h8⟩ := hT b9 d9 hb9
      exact ⟨e9, (mu_ne (fun q9 => by rw [q9, hk0_q1] at hb9; cases hb9)).trans h9, h8⟩
    have hE : kx κ M κ3 (mu Mc2 q1 (.inr (2, [.int a0, .int 0, .int 0, .ref q3]))) := ⟨hE.1, fun b9 e9 hb9 hn9 => (mu_ne (m_fr hz0_q1 hb9)).trans (hE.2 b9 e9 hb9 hn9)⟩
    have hM_q1 : (mu Mc2 q1 (.inr (2, [.int a0, .int 0, .int 0, .ref q3]))) q1 = _ := mu_self _ _ _
    generalize (mu Mc2 q1 (.inr (2, [.int a0, .int 0, .int 0, .ref q3]))) = Mc4 at hm hT hE hR_5 hM_q1
    have hk_old := hk0_q1
    have hk_q3 := kup_old (d := .node) hk0_q1 hk_q3
    have hT : TM k (kup κ3 q1 .node) Mc4 := hT.adopt hk0_q1 hM_q1 (show wf k (kup κ3 q1 .node) .node _ from ⟨a0, 0, 0, q3, rfl, (Or.inl rfl), hk_q3⟩)
    have hE : kx κ M (kup κ3 q1 .node) Mc4 := hE.adopt hz0_q1
    have hk_q1 : kup κ3 q1 .node q1 = some .node := kup_self _ _ _
    generalize kup κ3 q1 .node = κ5 at hT hE hk_q3 hk_q1
    refine W.eq (g2 := F0 m 23 ls [.ref q1]) rfl ?_
    refine W.widen (k := 2) (n := 68) (Nat.le_of_ble_eq_true rfl) (Nat.le_of_ble_eq_true rfl) ?_
    have hm : mm D (AZ z) Mc4 H := hm
    refine W.aret (v := .ref q1) hx hb hr (Or.inl ⟨_, rfl⟩) (Or.inr ⟨_, rfl⟩) (fun t ht hW => ⟨⟨some (.ref q1), _, rfl, ?_, by rw [ht]; exact hm⟩, hS.F ht⟩) hS.2.2 dX2_blank_23
    exact ⟨_, hT, hE, ⟨_, rfl, hk_q1⟩⟩
  · first | exact absurd c2 (by decide) | exact absurd (by decide) c2

set_option maxHeartbeats 4000000 in
set_option maxRecDepth 100000 in
theorem t_X4_put_R (l : Launch) (D : va_G) (k : Nat → ClassId) (z : Nat) (M : mM) (κ : Nat → Option KD) (h0 : Nat) (r0 : Nat) (hk_h0 : κ h0 = some .tree) (hk_r0 : κ r0 = some .node) (hT : TM k κ M) : mK l yX4_put wsX4_put ({ frames := 1, cells := 0, slots := 0, locals := 23 }) D k z [.ref h0, .ref r0] M (fun v M' => ∃ κ', TM k κ' M' ∧ kx κ M κ' M' ∧ v = none) := by
  refine Met.ofW (cc := cX4_put) (maxL := 3) (ret := none) (by decide) rfl ?_
  intro p e s m args below meth c s₁ B hml hv
  obtain ⟨rfl, hz, hcx, hm⟩ := hv
  have hx := B.exec
  have hb := B.bytes
  have hr := B.returns
  have hts := atoms_spec (ws := wsX4_put) B.pre
  have hown : s.vm.findClass RX4 = some m.cls := findClass_of_methodNamed B.named
  have hlocks := B.notSynchronized
  have hK := hcx.1
  have hS : va_S (AZ z) s.heap s.heap [] := va_S.rf
  have hA : ∀ q, s.heap.size ≤ q → AZ z q := fun q h => Nat.le_trans hz h
  have hl := lv_entry ([.ref h0, .ref r0]) (n := 3) (Nat.le_of_ble_eq_true rfl)
  rw [lg_entry_eq]
  generalize (lg_sl ([.ref h0, .ref r0]) ++ List.replicate (3 - (lg_sl ([.ref h0, .ref r0])).length) Slot.unset).toArray = ls at hl ⊢
  have hl : lv_has ls 3 [(0, .ref h0), (1, .ref r0)] := hl
  have f11 := hts (.fieldLink RX4 11 "CommitTree$Tree" "nodes" "[LCommitTree$Node;") (by decide +kernel)
  have f21 := hts (.fieldLink RX4 21 "CommitTree$Node" "id" "I") (by decide +kernel)
  have wX2 : ∀ w ∈ wsX20, w ∈ wsX4_put := by decide +kernel
  have wX4 : ∀ w ∈ wsX40, w ∈ wsX4_put := by decide +kernel
  have hT0 := hT
  have hE : kx κ M κ M := kx.refl _ _
  refine lv_aload_n hx hb dX4_put_0 rfl (lv_at hl 0 rfl) ?_
  refine lv_aload_n hx hb dX4_put_1 rfl (lv_at hl 1 rfl) ?_
  obtain ⟨v0_1, v1_1, v2_1, v3_1, hM_r0_1, hz_v1_1, hk_v3_1⟩ := hT.node hk_r0
  refine m_get (T := TX2) (N := 4) (ci := 2) (v := .int v0_1) hx hb hts wX2 hown hK hm hM_r0_1 rfl 0 (by decide) f21 (fun _ h9 => h9) rfl dX4_put_2 ?_
  obtain ⟨v0_2, v1_2, hM_h0_2, hk_v0_2, hn_v1_2⟩ := hT.tree hk_h0
  refine m_kV (As := [.int v0_1]) (rest := []) (rm := { frames := 0, cells := 0, slots := 0, locals := 0 }) ⟨hx, hb, hml, hown, hts⟩ (t_X4_placeOf_I l D k z _ _ h0 v0_1 hk_h0 hT) (cwV 1 hts gX4_put_X4_placeOf rfl rfl rfl (by decide +kernel) ⟨Nat.le_of_ble_eq_true rfl, Nat.le_of_ble_eq_true rfl⟩) (m_recv hK hm (q := (RX4, TX4, 2)) rfl hM_h0_2) hz hcx hm hS rfl hl.1 rfl (Nat.le_of_ble_eq_true rfl) dX4_put_5 ⟨Nat.le_of_ble_eq_true rfl, Nat.le_of_ble_eq_true rfl⟩ (fun v M1 H locs hv hm hS => ?_)
  obtain ⟨hv1, hM1⟩ := hv
  rw [hM1] at hm
  obtain ⟨w3, hv1⟩ := hv1
  subst hv1
  refine W.eq (g2 := F0 m 8 ls [.int w3]) rfl ?_
  refine W.widen (k := 0) (n := 0) (Nat.le_of_ble_eq_true rfl) (Nat.le_of_ble_eq_true rfl) ?_
  have hm : mm D (AZ z) M H := hm
  refine lv_istore_n (lv' := [(2, .int w3), (0, .ref h0), (1, .ref r0)]) hx hb dX4_put_8 rfl hl (by decide) rfl (fun ls hl => ?_)
  refine lv_iload_n hx hb dX4_put_9 rfl (lv_at hl 0 rfl) ?_
  refine lv_if_lt (tgt := 32) hx hb dX4_put_10 (by decide) (fun c4 => ?_) (fun c4 => ?_)
  · refine lv_aload_n hx hb dX4_put_32 rfl (lv_at hl 1 rfl) ?_
    refine lv_aload_n hx hb dX4_put_33 rfl (lv_at hl 2 rfl) ?_
    refine m_kV (As := [.ref r0]) (rest := []) (rm := { frames := 0, cells := 0, slots := 0, locals := 0 }) ⟨hx, hb, hml, hown, hts⟩ (t_X4_add_R l D k z _ _ h0 r0 hk_h0 hk_r0 hT) (cwV 1 hts gX4_put_X4_add rfl rfl rfl (by decide +kernel) ⟨Nat.le_of_ble_eq_true rfl, Nat.le_of_ble_eq_true rfl⟩) (m_recv hK hm (q := (RX4, TX4, 2)) rfl hM_h0_2) hz hcx hm hS rfl hl.1 rfl (Nat.le_of_ble_eq_true rfl) dX4_put_34 ⟨Nat.le_of_ble_eq_true rfl, Nat.le_of_ble_eq_true rfl⟩ (fun v M1 H locs hv hm hS => ?_)
    obtain ⟨κ1, hT9, hE9, hv1⟩ := hv
    have hk_h0 := hE9.k hT hk_h0
    have hk_r0 := hE9.k hT hk_r0
    have hE := hE.trans hT0 hT hE9
    have hT := hT9
    obtain ⟨Mc1, hMx⟩ : ∃ x : mM, x = M1 := ⟨M1, rfl⟩
    subst hMx
    subst hv1
    refine W.eq (g2 := F0 m 37 ls []) rfl ?_
    refine W.widen (k := 0) (n := 0) (Nat.le_of_ble_eq_true rfl) (Nat.le_of_ble_eq_true rfl) ?_
    have hm : mm D (AZ z) Mc1 H := hm
    refine W.vret hx hb hr (fun t ht hW => ⟨⟨none, _, rfl, ?_, by rw [ht]; exact hm⟩, hS.F ht⟩) hS.2.2 dX4_put_37
    exact ⟨_, hT, hE, rfl⟩
  · refine lv_iload_n hx hb dX4_put_13 rfl (lv_at hl 0 rfl) ?_
    refine lv_aload_n hx hb dX4_put_14 rfl (lv_at hl 1 rfl) ?_
    refine m_get (T := TX4) (N := 2) (ci := 4) (v := .ref v0_2) hx hb hts wX4 hown hK hm hM_h0_2 rfl 0 (by decide) f11 (fun _ h9 => h9) rfl dX4_put_15 ?_
    obtain ⟨g_5, hM_v0_2_5, hg_5⟩ := hT.rows hk_v0_2
    refine m_alen hx hb hK hm 3 hM_v0_2_5 rfl (v := nI 60) rfl dX4_put_18 ?_
    refine lv_icmp_ge (tgt := 32) hx hb dX4_put_19 (by decide) (fun c6 => ?_) (fun c6 => ?_)
    · refine lv_aload_n hx hb dX4_put_32 rfl (lv_at hl 1 rfl) ?_
      refine lv_aload_n hx hb dX4_put_33 rfl (lv_at hl 2 rfl) ?_
      refine m_kV (As := [.ref r0]) (rest := []) (rm := { frames := 0, cells := 0, slots := 0, locals := 0 }) ⟨hx, hb, hml, hown, hts⟩ (t_X4_add_R l D k z _ _ h0 r0 hk_h0 hk_r0 hT) (cwV 1 hts gX4_put_X4_add rfl rfl rfl (by decide +kernel) ⟨Nat.le_of_ble_eq_true rfl, Nat.le_of_ble_eq_true rfl⟩) (m_recv hK hm (q := (RX4, TX4, 2)) rfl hM_h0_2) hz hcx hm hS rfl hl.1 rfl (Nat.le_of_ble_eq_true rfl) dX4_put_34 ⟨Nat.le_of_ble_eq_true rfl, Nat.le_of_ble_eq_true rfl⟩ (fun v M1 H locs hv hm hS => ?_)
      obtain ⟨κ2, hT9, hE9, hv1⟩ := hv
      have hk_h0 := hE9.k hT hk_h0
      have hk_r0 := hE9.k hT hk_r0
      have hE := hE.trans hT0 hT hE9
      have hT := hT9
      obtain ⟨Mc2, hMx⟩ : ∃ x : mM, x = M1 := ⟨M1, rfl⟩
      subst hMx
      subst hv1
      refine W.eq (g2 := F0 m 37 ls []) rfl ?_
      refine W.widen (k := 0) (n := 0) (Nat.le_of_ble_eq_true rfl) (Nat.le_of_ble_eq_true rfl) ?_
      have hm : mm D (AZ z) Mc2 H := hm
      refine W.vret hx hb hr (fun t ht hW => ⟨⟨none, _, rfl, ?_, by rw [ht]; exact hm⟩, hS.F ht⟩) hS.2.2 dX4_put_37
      exact ⟨_, hT, hE, rfl⟩
    · refine lv_aload_n hx hb dX4_put_22 rfl (lv_at hl 1 rfl) ?_
      refine m_get (T := TX4) (N := 2) (ci := 4) (v := .ref v0_2) hx hb hts wX4 hown hK hm hM_h0_2 rfl 0 (by decide) f11 (fun _ h9 => h9) rfl dX4_put_23 ?_
      refine lv_iload_n hx hb dX4_put_26 rfl (lv_at hl 0 rfl) ?_
      refine lv_aload_n hx hb dX4_put_27 rfl (lv_at hl 2 rfl) ?_
      refine m_aast (r := (RX2, TX2, 4)) hx hb hK hm hS 3 2 hM_v0_2_5 rfl hM_r0_1 rfl (in_of (i := w3) (n := 60) (by first | assumption | exact nI_pos (by omega)) (by assumption) (by first | decide | omega)) dX4_put_28 (fun H locs hm hS => ?_)
      have hm : mm D (AZ z) (mu M v0_2 (.inl (k 3, 60, .inr (.inr (.inr (.inr (va_up g_5 w3.toNatClampNeg (some r0)))))))) H := hm
      have hR_7 : (mu M v0_2 (.inl (k 3, 60, .inr (.inr (.inr (.inr (va_up g_5 w3.toNatClampNeg (some r0)))))))) r0 = _ := (mu_ne (kd_ne hk_r0 hk_v0_2 (by decide))).trans hM_r0_1
      have hR_8 : (mu M v0_2 (.inl (k 3, 60, .inr (.inr (.inr (.inr (va_up g_5 w3.toNatClampNeg (some r0)))))))) h0 = _ := (mu_ne (kd_ne hk_h0 hk_v0_2 (by decide))).trans hM_h0_2
      have hT : TM k κ (mu M v0_2 (.inl (k 3, 60, .inr (.inr (.inr (.inr (va_up g_5 w3.toNatClampNeg (some r0)))))))) := hT.put hk_v0_2 (show wf k κ .rows (.inl (k 3, 60, .inr (.inr (.inr (.inr (va_up g_5 w3.toNatClampNeg (some r0))))))) from ⟨(va_up g_5 w3.toNatClampNeg (some r0)), rfl, fun j9 a9 h9 => by
        by_cases hj9 : j9 = w3.toNatClampNeg
        · rw [hj9, va_up_self] at h9; cases h9; exact hk_r0
        · rw [va_up_ne _ _ hj9] at h9; exact hg_5 _ _ h9⟩)
      have hE : kx κ M κ (mu M v0_2 (.inl (k 3, 60, .inr (.inr (.inr (.inr (va_up g_5 w3.toNatClampNeg (some r0)))))))) := hE.put hk_v0_2
      generalize (mu M v0_2 (.inl (k 3, 60, .inr (.inr (.inr (.inr (va_up g_5 w3.toNatClampNeg (some r0)))))))) = Mc3 at hm hT hE hR_7 hR_8
      refine lv_goto (tgt := 37) hx hb dX4_put_29 (by decide) ?_
      refine W.vret hx hb hr (fun t ht hW => ⟨⟨none, _, rfl, ?_, by rw [ht]; exact hm⟩, hS.F ht⟩) hS.2.2 dX4_put_37
      exact ⟨_, hT, hE, rfl⟩

