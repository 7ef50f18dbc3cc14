set_option maxHeartbeats 4000000 in
set_option maxRecDepth 100000 in
theorem t_X5_opened_I (l : Launch) (hlt : l.stackTraces = false) (D : va_G) (k : Nat → ClassId) (z : Nat) (M : mM) (κ : Nat → Option KD) (h0 : Nat) (a0 : Int32) (hk_h0 : κ h0 = some .top) (hT : TM k κ M) : mC l yX5_opened wsX5_opened ({ frames := 6, cells := 1, slots := 6, locals := 82 }) D k z [.ref h0, .int a0] M (fun v M' => (∃ a, v = some (.ref a) ∧ κ a = some .txn) ∧ M' = M) (fun E M' => E ∈ (["java/lang/IllegalStateException"] : List String) ∧ ∃ κ', TM k κ' M' ∧ kx κ M κ' M') := by
  refine vx_ofW (cc := cX5_opened) (maxL := 3) (ret := (some (.object "CommitTree$Transaction"))) (by decide) rfl ?_
  intro p e s m args below meth c s₁ B hml hnt hv
  obtain ⟨rfl, hz, hcx, hm⟩ := hv
  have hx := B.exec
  have hb := B.bytes
  have hr := B.returns
  have hts := atoms_spec (ws := wsX5_opened) B.pre
  have hown : s.vm.findClass RX5 = some m.cls := findClass_of_methodNamed B.named
  have hlocks := B.notSynchronized
  have hK := hcx.1
  have hS : va_S (AZ z) s.heap s.heap [] := va_S.rf
  have hA : ∀ q, s.heap.size ≤ q → AZ z q := fun q h => Nat.le_trans hz h
  have hl := lv_entry ([.ref h0, .int a0]) (n := 3) (Nat.le_of_ble_eq_true rfl)
  rw [lg_entry_eq]
  generalize (lg_sl ([.ref h0, .int a0]) ++ List.replicate (3 - (lg_sl ([.ref h0, .int a0])).length) Slot.unset).toArray = ls at hl ⊢
  have hl : lv_has ls 3 [(0, .ref h0), (1, .int a0)] := hl
  have f45 := hts (.fieldLink RX5 45 "CommitTree" "transactions" "[LCommitTree$Transaction;") (by decide +kernel)
  have f66 := hts (.fieldLink RX5 66 "CommitTree" "down" "Z") (by decide +kernel)
  have f80 := hts (.fieldLink RX5 80 "CommitTree$Transaction" "open" "Z") (by decide +kernel)
  have wX3 : ∀ w ∈ wsX30, w ∈ wsX5_opened := by decide +kernel
  have wX5 : ∀ w ∈ wsX50, w ∈ wsX5_opened := by decide +kernel
  have hT0 := hT
  have hE : kx κ M κ M := kx.refl _ _
  refine lv_iload_n hx hb dX5_opened_0 rfl (lv_at hl 1 rfl) ?_
  refine lv_if_lt (tgt := 22) hx hb dX5_opened_1 (by decide) (fun c1 => ?_) (fun c1 => ?_)
  · refine lv_null hx hb dX5_opened_22 ?_
    refine lv_astore_nN (lv' := [(2, .null), (0, .ref h0), (1, .int a0)]) hx hb dX5_opened_23 rfl hl (by decide) rfl (fun ls hl => ?_)
    refine lv_aload_n hx hb dX5_opened_24 rfl (lv_at hl 1 rfl) ?_
    obtain ⟨v0_2, v1_2, v2_2, v3_2, v4_2, v5_2, v6_2, v7_2, v8_2, v9_2, v10_2, hM_h0_2, hk_v0_2, hk_v1_2, hk_v2_2, hk_v3_2, hk_v4_2, hk_v5_2, hz_v9_2, hz_v10_2⟩ := hT.top hk_h0
    rcases hz_v9_2 with h9 | h9
    · subst h9
      refine m_get (T := TX5) (N := 11) (ci := 5) (v := .int 0) hx hb hts wX5 hown hK hm hM_h0_2 rfl 9 (by decide) f66 (fun _ h9 => h9) rfl dX5_opened_25 ?_
      refine lv_if_ne (tgt := 42) hx hb dX5_opened_28 (by decide) (fun c3 => ?_) (fun c3 => ?_)
      · first | exact absurd c3 (by decide) | exact absurd (by decide) c3
      · refine lv_aload_nN hx hb dX5_opened_31 rfl (lv_at hl 0 rfl) ?_
        refine lv_ifnullN (tgt := 42) hx hb dX5_opened_32 (by decide) ?_
        obtain ⟨sa, hsa⟩ := hcx.2.2.1 (259, "all is down, or there is no such transaction") (by decide)
        refine vx_throwSW (own := RX5) (cls := "java/lang/IllegalStateException") (text := "all is down, or there is no such transaction") (names := ["java/lang/RuntimeException", "java/lang/Exception"]) (ik := 73) (is := 259) (ic := 77) (A := AZ z) hx hb hlt hown (by decide) (by decide) (hts (.classLink RX5 73 "java/lang/IllegalStateException") (by decide +kernel)) (hts (.initialized "java/lang/IllegalStateException") (by decide +kernel)) hsa (vx_hat (B := DW) (fun w h => hts w (List.mem_cons_of_mem _ (List.mem_append_right _ h))) (by decide +kernel) (hcx.dw _)) (by decide +kernel) hcx.2.1.1 hcx.2.1.2 hS (hl.1.trans hml.symm) dX5_opened_42 dX5_opened_45 dX5_opened_46 dX5_opened_49 dX5_opened_52 (fun x hx => (hnt x hx).elim) (Nat.le_of_ble_eq_true rfl) (Nat.le_of_ble_eq_true rfl) (Nat.le_of_ble_eq_true rfl) (Nat.le_of_ble_eq_true rfl) hlocks (fun t hvm hz1 hq => ⟨⟨_, ?_, hm.kept hq⟩, ⟨Nat.le_trans hS.1 hz1, fun q h1 h2 => (hq q (Nat.lt_of_lt_of_le h1 hS.1)).trans (hS.2.1 q h1 h2)⟩⟩) hS.2.2 (Nat.le_of_ble_eq_true rfl) (Nat.le_of_ble_eq_true rfl)
        exact ⟨by simp, _, hT, hE⟩
    · subst h9
      refine m_get (T := TX5) (N := 11) (ci := 5) (v := .int 1) hx hb hts wX5 hown hK hm hM_h0_2 rfl 9 (by decide) f66 (fun _ h9 => h9) rfl dX5_opened_25 ?_
      refine lv_if_ne (tgt := 42) hx hb dX5_opened_28 (by decide) (fun c4 => ?_) (fun c4 => ?_)
      · obtain ⟨sa, hsa⟩ := hcx.2.2.1 (259, "all is down, or there is no such transaction") (by decide)
        refine vx_throwSW (own := RX5) (cls := "java/lang/IllegalStateException") (text := "all is down, or there is no such transaction") (names := ["java/lang/RuntimeException", "java/lang/Exception"]) (ik := 73) (is := 259) (ic := 77) (A := AZ z) hx hb hlt hown (by decide) (by decide) (hts (.classLink RX5 73 "java/lang/IllegalStateException") (by decide +kernel)) (hts (.initialized "java/lang/IllegalStateException") (by decide +kernel)) hsa (vx_hat (B := DW) (fun w h => hts w (List.mem_cons_of_mem _ (List.mem_append_right _ h))) (by decide +kernel) (hcx.dw _)) (by decide +kernel) hcx.2.1.1 hcx.2.1.2 hS (hl.1.trans hml.symm) dX5_opened_42 dX5_opened_45 dX5_opened_46 dX5_opened_49 dX5_opened_52 (fun x hx => (hnt x hx).elim) (Nat.le_of_ble_eq_true rfl) (Nat.le_of_ble_eq_true rfl) (Nat.le_of_ble_eq_true rfl) (Nat.le_of_ble_eq_true rfl) hlocks (fun t hvm hz1 hq => ⟨⟨_, ?_, hm.kept hq⟩, ⟨Nat.le_trans hS.1 hz1, fun q h1 h2 => (hq q (Nat.lt_of_lt_of_le h1 hS.1)).trans (hS.2.1 q h1 h2)⟩⟩) hS.2.2 (Nat.le_of_ble_eq_true rfl) (Nat.le_of_ble_eq_true rfl)
        exact ⟨by simp, _, hT, hE⟩
      · first | exact absurd c4 (by decide) | exact absurd (by decide) c4
  · refine lv_iload_n hx hb dX5_opened_4 rfl (lv_at hl 1 rfl) ?_
    refine lv_aload_n hx hb dX5_opened_5 rfl (lv_at hl 0 rfl) ?_
    obtain ⟨v0_5, v1_5, v2_5, v3_5, v4_5, v5_5, v6_5, v7_5, v8_5, v9_5, v10_5, hM_h0_5, hk_v0_5, hk_v1_5, hk_v2_5, hk_v3_5, hk_v4_5, hk_v5_5, hz_v9_5, hz_v10_5⟩ := hT.top hk_h0
    refine m_get (T := TX5) (N := 11) (ci := 5) (v := .ref v4_5) hx hb hts wX5 hown hK hm hM_h0_5 rfl 4 (by decide) f45 (fun _ h9 => h9) rfl dX5_opened_6 ?_
    obtain ⟨g_6, hM_v4_5_6, hg_6⟩ := hT.txns hk_v4_5
    refine m_alen hx hb hK hm 4 hM_v4_5_6 rfl (v := nI 6) rfl dX5_opened_9 ?_
    refine lv_icmp_ge (tgt := 22) hx hb dX5_opened_10 (by decide) (fun c7 => ?_) (fun c7 => ?_)
    · refine lv_null hx hb dX5_opened_22 ?_
      refine lv_astore_nN (lv' := [(2, .null), (0, .ref h0), (1, .int a0)]) hx hb dX5_opened_23 rfl hl (by decide) rfl (fun ls hl => ?_)
      refine lv_aload_n hx hb dX5_opened_24 rfl (lv_at hl 1 rfl) ?_
      rcases hz_v9_5 with h9 | h9
      · subst h9
        refine m_get (T := TX5) (N := 11) (ci := 5) (v := .int 0) hx hb hts wX5 hown hK hm hM_h0_5 rfl 9 (by decide) f66 (fun _ h9 => h9) rfl dX5_opened_25 ?_
        refine lv_if_ne (tgt := 42) hx hb dX5_opened_28 (by decide) (fun c8 => ?_) (fun c8 => ?_)
        · first | exact absurd c8 (by decide) | exact absurd (by decide) c8
        · refine lv_aload_nN hx hb dX5_opened_31 rfl (lv_at hl 0 rfl) ?_
          refine lv_ifnullN (tgt := 42) hx hb dX5_opened_32 (by decide) ?_
          obtain ⟨sa, hsa⟩ := hcx.2.2.1 (259, "all is down, or there is no such transaction") (by decide)
          refine vx_throwSW (own := RX5) (cls := "java/lang/IllegalStateException") (text := "all is down, or there is no such transaction") (names := ["java/lang/RuntimeException", "java/lang/Exception"]) (ik := 73) (is := 259) (ic := 77) (A := AZ z) hx hb hlt hown (by decide) (by decide) (hts (.classLink RX5 73 "java/lang/IllegalStateException") (by decide +kernel)) (hts (.initialized "java/lang/IllegalStateException") (by decide +kernel)) hsa (vx_hat (B := DW) (fun w h => hts w (List.mem_cons_of_mem _ (List.mem_append_right _ h))) (by decide +kernel) (hcx.dw _)) (by decide +kernel) hcx.2.1.1 hcx.2.1.2 hS (hl.1.trans hml.symm) dX5_opened_42 dX5_opened_45 dX5_opened_46 dX5_opened_49 dX5_opened_52 (fun x hx => (hnt x hx).elim) (Nat.le_of_ble_eq_true rfl) (Nat.le_of_ble_eq_true rfl) (Nat.le_of_ble_eq_true rfl) (Nat.le_of_ble_eq_true rfl) hlocks (fun t hvm hz1 hq => ⟨⟨_, ?_, hm.kept hq⟩, ⟨Nat.le_trans hS.1 hz1, fun q h1 h2 => (hq q (Nat.lt_of_lt_of_le h1 hS.1)).trans (hS.2.1 q h1 h2)⟩⟩) hS.2.2 (Nat.le_of_ble_eq_true rfl) (Nat.le_of_ble_eq_true rfl)
          exact ⟨by simp, _, hT, hE⟩
      · subst h9
        refine m_get (T := TX5) (N := 11) (ci := 5) (v := .int 1) hx hb hts wX5 hown hK hm hM_h0_5 rfl 9 (by decide) f66 (fun _ h9 => h9) rfl dX5_opened_25 ?_
        refine lv_if_ne (tgt := 42) hx hb dX5_opened_28 (by decide) (fun c9 => ?_) (fun c9 => ?_)
        · obtain ⟨sa, hsa⟩ := hcx.2.2.1 (259, "all is down, or there is no such transaction") (by decide)
          refine vx_throwSW (own := RX5) (cls := "java/lang/IllegalStateException") (text := "all is down, or there is no such transaction") (names := ["java/lang/RuntimeException", "java/lang/Exception"]) (ik := 73) (is := 259) (ic := 77) (A := AZ z) hx hb hlt hown (by decide) (by decide) (hts (.classLink RX5 73 "java/lang/IllegalStateException") (by decide +kernel)) (hts (.initialized "java/lang/IllegalStateException") (by decide +kernel)) hsa (vx_hat (B := DW) (fun w h => hts w (List.mem_cons_of_mem _ (List.mem_append_right _ h))) (by decide +kernel) (hcx.dw _)) (by decide +kernel) hcx.2.1.1 hcx.2.1.2 hS (hl.1.trans hml.symm) dX5_opened_42 dX5_opened_45 dX5_opened_46 dX5_opened_49 dX5_opened_52 (fun x hx => (hnt x hx).elim) (Nat.le_of_ble_eq_true rfl) (Nat.le_of_ble_eq_true rfl) (Nat.le_of_ble_eq_true rfl) (Nat.le_of_ble_eq_true rfl) hlocks (fun t hvm hz1 hq => ⟨⟨_, ?_, hm.kept hq⟩, ⟨Nat.le_trans hS.1 hz1, fun q h1 h2 => (hq q (Nat.lt_of_lt_of_le h1 hS.1)).trans (hS.2.1 q h1 h2)⟩⟩) hS.2.2 (Nat.le_of_ble_eq_true rfl) (Nat.le_of_ble_eq_true rfl)
          exact ⟨by simp, _, hT, hE⟩
        · first | exact absurd c9 (by decide) | exact absurd (by decide) c9
    · refine lv_aload_n hx hb dX5_opened_13 rfl (lv_at hl 0 rfl) ?_
      refine m_get (T := TX5) (N := 11) (ci := 5) (v := .ref v4_5) hx hb hts wX5 hown hK hm hM_h0_5 rfl 4 (by decide) f45 (fun _ h9 => h9) rfl dX5_opened_14 ?_
      refine lv_iload_n hx hb dX5_opened_17 rfl (lv_at hl 1 rfl) ?_
      refine m_aald hx hb hK hm 4 hM_v4_5_6 rfl (in_of (i := a0) (n := 6) (by first | assumption | exact nI_pos (by omega)) (by assumption) (by first | decide | omega)) dX5_opened_18 ?_
      obtain ⟨o10, ho10⟩ : ∃ o9, g_6 a0.toNatClampNeg = o9 := ⟨_, rfl⟩
      refine W.eq (g2 := F0 m 19 ls [va_rf o10]) (by rw [ho10]) ?_
      rcases o10 with _ | x11
      · refine W.eq (g2 := F0 m 19 ls [.null]) rfl ?_
        refine lv_goto (tgt := 23) hx hb dX5_opened_19 (by decide) ?_
        refine lv_astore_nN (lv' := [(2, .null), (0, .ref h0), (1, .int a0)]) hx hb dX5_opened_23 rfl hl (by decide) rfl (fun ls hl => ?_)
        refine lv_aload_n hx hb dX5_opened_24 rfl (lv_at hl 1 rfl) ?_
        rcases hz_v9_5 with h9 | h9
        · subst h9
          refine m_get (T := TX5) (N := 11) (ci := 5) (v := .int 0) hx hb hts wX5 hown hK hm hM_h0_5 rfl 9 (by decide) f66 (fun _ h9 => h9) rfl dX5_opened_25 ?_
          refine lv_if_ne (tgt := 42) hx hb dX5_opened_28 (by decide) (fun c12 => ?_) (fun c12 => ?_)
          · first | exact absurd c12 (by decide) | exact absurd (by decide) c12
          · refine lv_aload_nN hx hb dX5_opened_31 rfl (lv_at hl 0 rfl) ?_
            refine lv_ifnullN (tgt := 42) hx hb dX5_opened_32 (by decide) ?_
            obtain ⟨sa, hsa⟩ := hcx.2.2.1 (259, "all is down, or there is no such transaction") (by decide)
            refine vx_throwSW (own := RX5) (cls := "java/lang/IllegalStateException") (text := "all is down, or there is no such transaction") (names := ["java/lang/RuntimeException", "java/lang/Exception"]) (ik := 73) (is := 259) (ic := 77) (A := AZ z) hx hb hlt hown (by decide) (by decide) (hts (.classLink RX5 73 "java/lang/IllegalStateException") (by decide +kernel)) (hts (.initialized "java/lang/IllegalStateException") (by decide +kernel)) hsa (vx_hat (B := DW) (fun w h => hts w (List.mem_cons_of_mem _ (List.mem_append_right _ h))) (by decide +kernel) (hcx.dw _)) (by decide +kernel) hcx.2.1.1 hcx.2.1.2 hS (hl.1.trans hml.symm) dX5_opened_42 dX5_opened_45 dX5_opened_46 dX5_opened_49 dX5_opened_52 (fun x hx => (hnt x hx).elim) (Nat.le_of_ble_eq_true rfl) (Nat.le_of_ble_eq_true rfl) (Nat.le_of_ble_eq_true rfl) (Nat.le_of_ble_eq_true rfl) hlocks (fun t hvm hz1 hq => ⟨⟨_, ?_, hm.kept hq⟩, ⟨Nat.le_trans hS.1 hz1, fun q h1 h2 => (hq q (Nat.lt_of_lt_of_le h1 hS.1)).trans (hS.2.1 q h1 h2)⟩⟩) hS.2.2 (Nat.le_of_ble_eq_true rfl) (Nat.le_of_ble_eq_true rfl)
            exact ⟨by simp, _, hT, hE⟩
        · subst h9
          refine m_get (T := TX5) (N := 11) (ci := 5) (v := .int 1) hx hb hts wX5 hown hK hm hM_h0_5 rfl 9 (by decide) f66 (fun _ h9 => h9) rfl dX5_opened_25 ?_
          refine lv_if_ne (tgt := 42) hx hb dX5_opened_28 (by decide) (fun c13 => ?_) (fun c13 => ?_)
          · obtain ⟨sa, hsa⟩ := hcx.2.2.1 (259, "all is down, or there is no such transaction") (by decide)
            refine vx_throwSW (own := RX5) (cls := "java/lang/IllegalStateException") (text := "all is down, or there is no such transaction") (names := ["java/lang/RuntimeException", "java/lang/Exception"]) (ik := 73) (is := 259) (ic := 77) (A := AZ z) hx hb hlt hown (by decide) (by decide) (hts (.classLink RX5 73 "java/lang/IllegalStateException") (by decide +kernel)) (hts (.initialized "java/lang/IllegalStateException") (by decide +kernel)) hsa (vx_hat (B := DW) (fun w h => hts w (List.mem_cons_of_mem _ (List.mem_append_right _ h))) (by decide +kernel) (hcx.dw _)) (by decide +kernel) hcx.2.1.1 hcx.2.1.2 hS (hl.1.trans hml.symm) dX5_opened_42 dX5_opened_45 dX5_opened_46 dX5_opened_49 dX5_opened_52 (fun x hx => (hnt x hx).elim) (Nat.le_of_ble_eq_true rfl) (Nat.le_of_ble_eq_true rfl) (Nat.le_of_ble_eq_true rfl) (Nat.le_of_ble_eq_true rfl) hlocks (fun t hvm hz1 hq => ⟨⟨_, ?_, hm.kept hq⟩, ⟨Nat.le_trans hS.1 hz1, fun q h1 h2 => (hq q (Nat.lt_of_lt_of_le h1 hS.1)).trans (hS.2.1 q h1 h2)⟩⟩) hS.2.2 (Nat.le_of_ble_eq_true rfl) (Nat.le_of_ble_eq_true rfl)
            exact ⟨by simp, _, hT, hE⟩
          · first | exact absurd c13 (by decide) | exact absurd (by decide) c13
      · have hk_x11 := hg_6 _ _ ho10
        refine W.eq (g2 := F0 m 19 ls [.ref x11]) rfl ?_
        refine lv_goto (tgt := 23) hx hb dX5_opened_19 (by decide) ?_
        refine lv_astore_n (lv' := [(2, .ref x11), (0, .ref h0), (1, .int a0)]) hx hb dX5_opened_23 rfl hl (by decide) rfl (fun ls hl => ?_)
        refine lv_aload_n hx hb dX5_opened_24 rfl (lv_at hl 1 rfl) ?_
        rcases hz_v9_5 with h9 | h9
        · subst h9
          refine m_get (T := TX5) (N := 11) (ci := 5) (v := .int 0) hx hb hts wX5 hown hK hm hM_h0_5 rfl 9 (by decide) f66 (fun _ h9 => h9) rfl dX5_opened_25 ?_
          refine lv_if_ne (tgt := 42) hx hb dX5_opened_28 (by decide) (fun c14 => ?_) (fun c14 => ?_)
          · first | exact absurd c14 (by decide) | exact absurd (by decide) c14
          · refine lv_aload_n hx hb dX5_opened_31 rfl (lv_at hl 0 rfl) ?_
            refine lv_ifnull hx hb dX5_opened_32 ?_
            refine lv_aload_n hx hb dX5_opened_35 rfl (lv_at hl 0 rfl) ?_
            obtain ⟨v0_15, v1_15, v2_15, v3_15, v4_15, v5_15, v6_15, hM_x11_15, hk_v0_15, hk_v1_15, hk_v2_15, hk_v3_15, hk_v4_15, hz_v5_15⟩ := hT.txn hk_x11
            rcases hz_v5_15 with h9 | h9
            · subst h9
              refine m_get (T := TX3) (N := 7) (ci := 3) (v := .int 0) hx hb hts wX3 hown hK hm hM_x11_15 rfl 5 (by decide) f80 (fun _ h9 => h9) rfl dX5_opened_36 ?_
              refine lv_if_ne (tgt := 53) hx hb dX5_opened_39 (by decide) (fun c16 => ?_) (fun c16 => ?_)
              · first | exact absurd c16 (by decide) | exact absurd (by decide) c16
              · obtain ⟨sa, hsa⟩ := hcx.2.2.1 (259, "all is down, or there is no such transaction") (by decide)
                refine vx_throwSW (own := RX5) (cls := "java/lang/IllegalStateException") (text := "all is down, or there is no such transaction") (names := ["java/lang/RuntimeException", "java/lang/Exception"]) (ik := 73) (is := 259) (ic := 77) (A := AZ z) hx hb hlt hown (by decide) (by decide) (hts (.classLink RX5 73 "java/lang/IllegalStateException") (by decide +kernel)) (hts (.initialized "java/lang/IllegalStateException") (by decide +kernel)) hsa (vx_hat (B := DW) (fun w h => hts w (List.mem_cons_of_mem _ (List.mem_append_right _ h))) (by decide +kernel) (hcx.dw _)) (by decide +kernel) hcx.2.1.1 hcx.2.1.2 hS (hl.1.trans hml.symm) dX5_opened_42 dX5_opened_45 dX5_opened_46 dX5_opened_49 dX5_opened_52 (fun x hx => (hnt x hx).elim) (Nat.le_of_ble_eq_true rfl) (Nat.le_of_ble_eq_true rfl) (Nat.le_of_ble_eq_true rfl) (Nat.le_of_ble_eq_true rfl) hlocks (fun t hvm hz1 hq => ⟨⟨_, ?_, hm.kept hq⟩, ⟨Nat.le_trans hS.1 hz1, fun q h1 h2 => (hq q (Nat.lt_of_lt_of_le h1 hS.1)).trans (hS.2.1 q h1 h2)⟩⟩) hS.2.2 (Nat.le_of_ble_eq_true rfl) (Nat.le_of_ble_eq_true rfl)
                exact ⟨by simp, _, hT, hE⟩
            · subst h9
              refine m_get (T := TX3) (N := 7) (ci := 3) (v := .int 1) hx hb hts wX3 hown hK hm hM_x11_15 rfl 5 (by decide) f80 (fun _ h9 => h9) rfl dX5_opened_36 ?_
              refine lv_if_ne (tgt := 53) hx hb dX5_opened_39 (by decide) (fun c17 => ?_) (fun c17 => ?_)
              · refine lv_aload_n hx hb dX5_opened_53 rfl (lv_at hl 0 rfl) ?_
                refine W.widen (k := 1) (n := 6) (by omega) (by omega) ?_
                refine vx_ret ?_
                refine W.aret (v := .ref x11) hx hb hr (Or.inl ⟨_, rfl⟩) (Or.inr ⟨_, rfl⟩) (fun t ht hW => ⟨⟨some (.ref x11), _, rfl, ?_, by rw [ht]; exact hm⟩, hS.F ht⟩) hS.2.2 dX5_opened_54
                exact ⟨⟨_, rfl, hk_x11⟩, rfl⟩
              · first | exact absurd c17 (by decide) | exact absurd (by decide) c17
        · subst h9
          refine m_get (T := TX5) (N := 11) (ci := 5) (v := .int 1) hx hb hts wX5 hown hK hm hM_h0_5 rfl 9 (by decide) f66 (fun _ h9 => h9) rfl dX5_opened_25 ?_
          refine lv_if_ne (tgt := 42) hx hb dX5_opened_28 (by decide) (fun c18 => ?_) (fun c18 => ?_)
          · obtain ⟨sa, hsa⟩ := hcx.2.2.1 (259, "all is down, or there is no such transaction") (by decide)
            refine vx_throwSW (own := RX5) (cls := "java/lang/IllegalStateException") (text := "all is down, or there is no such transaction") (names := ["java/lang/RuntimeException", "java/lang/Exception"]) (ik := 73) (is := 259) (ic := 77) (A := AZ z) hx hb hlt hown (by decide) (by decide) (hts (.classLink RX5 73 "java/lang/IllegalStateException") (by decide +kernel)) (hts (.initialized "java/lang/IllegalStateException") (by decide +kernel)) hsa (vx_hat (B := DW) (fun w h => hts w (List.mem_cons_of_mem _ (List.mem_append_right _ h))) (by decide +kernel) (hcx.dw _)) (by decide +kernel) hcx.2.1.1 hcx.2.1.2 hS (hl.1.trans hml.symm) dX5_opened_42 dX5_opened_45 dX5_opened_46 dX5_opened_49 dX5_opened_52 (fun x hx => (hnt x hx).elim) (Nat.le_of_ble_eq_true rfl) (Nat.le_of_ble_eq_true rfl) (Nat.le_of_ble_eq_true rfl) (Nat.le_of_ble_eq_true rfl) hlocks (fun t hvm hz1 hq => ⟨⟨_, ?_, hm.kept hq⟩, ⟨Nat.le_trans hS.1 hz1, fun q h1 h2 => (hq q (Nat.lt_of_lt_of_le h1 hS.1)).trans (hS.2.1 q h1 h2)⟩⟩) hS.2.2 (Nat.le_of_ble_eq_true rfl) (Nat.le_of_ble_eq_true rfl)
            exact ⟨by simp, _, hT, hE⟩
          · first | exact absurd c18 (by decide) | exact absurd (by decide) c18

set_option maxHeartbeats 4000000 in
set_option maxRecDepth 100000 in
theorem t_X3_itemsRead (l : Launch) (D : va_G) (k : Nat → ClassId) (z : Nat) (M : mM) (κ : Nat → Option KD) (h0 : Nat) (hk_h0 : κ h0 = some .txn) (hT : TM k κ M) : mK l yX3_itemsRead wsX3_itemsRead ({ frames := 1, cells := 0, slots := 0, locals := 21 }) D k z [.ref h0] M (fun v M' => (∃ x, v = some (.int x)) ∧ M' = M) := by
  refine Met.ofW (cc := cX3_itemsRead) (maxL := 3) (ret := (some .int)) (by decide) rfl ?_
  intro p e s m args below meth c s₁ B hml hv
  obtain ⟨rfl, hz, hcx, hm⟩ := hv
  have hx := B.exec
  have hb := B.bytes
  have hr := B.returns
  have hts := atoms_spec (ws := wsX3_itemsRead) B.pre
  have hown : s.vm.findClass RX3 = some m.cls := findClass_of_methodNamed B.named
  have hlocks := B.notSynchronized
  have hK := hcx.1
  have hS : va_S (AZ z) s.heap s.heap [] := va_S.rf
  have hA : ∀ q, s.heap.size ≤ q → AZ z q := fun q h => Nat.le_trans hz h
  have hl := lv_entry ([.ref h0]) (n := 3) (Nat.le_of_ble_eq_true rfl)
  rw [lg_entry_eq]
  generalize (lg_sl ([.ref h0]) ++ List.replicate (3 - (lg_sl ([.ref h0])).length) Slot.unset).toArray = ls at hl ⊢
  have hl : lv_has ls 3 [(0, .ref h0)] := hl
  have f12 := hts (.fieldLink RX3 12 "CommitTree$Transaction" "base" "LCommitTree$Tree;") (by decide +kernel)
  have f22 := hts (.fieldLink RX3 22 "CommitTree$Transaction" "cellsRead" "[J") (by decide +kernel)
  have f26 := hts (.fieldLink RX3 26 "CommitTree$Transaction" "factsRead" "[J") (by decide +kernel)
  have f87 := hts (.fieldLink RX3 87 "CommitTree$Tree" "size" "I") (by decide +kernel)
  have wX3 : ∀ w ∈ wsX30, w ∈ wsX3_itemsRead := by decide +kernel
  have wX4 : ∀ w ∈ wsX40, w ∈ wsX3_itemsRead := by decide +kernel
  have hT0 := hT
  have hE : kx κ M κ M := kx.refl _ _
  refine lv_iconst (v := 0) hx hb dX3_itemsRead_0 (by decide) ?_
  refine lv_istore_n (lv' := [(1, .int 0), (0, .ref h0)]) hx hb dX3_itemsRead_1 rfl hl (by decide) rfl (fun ls hl => ?_)
  refine lv_iconst (v := 0) hx hb dX3_itemsRead_2 (by decide) ?_
  refine lv_istore_n (lv' := [(2, .int 0), (1, .int 0), (0, .ref h0)]) hx hb dX3_itemsRead_3 rfl hl (by decide) rfl (fun ls hl => ?_)
  refine W_loop (σ := Nat × Int32) (fun ⟨j1, y2⟩ H locs ls => (j1 < 2147483648) ∧ mm D (AZ z) M H ∧ va_S (AZ z) s.heap H locs ∧ lv_has ls 3 [(2, .int (nI j1)), (1, .int y2), (0, .ref h0)]) (fun ⟨j1, y2⟩ => 2147483648 - j1) (fun ⟨j1, y2⟩ => 0) (fun ⟨j1, y2⟩ => 0) ?_ (0, 0) _ _ _ ⟨(by decide), hm, hS, lv_sub hl [0, 1, 2] rfl⟩
  intro ⟨j1, y2⟩ H locs ls hQ ih4
  obtain ⟨hbj1, hm, hS, hl⟩ := hQ
  try dsimp only at hm hl ih4 hbj1 ⊢
  refine lv_iload_n hx hb dX3_itemsRead_4 rfl (lv_at hl 0 rfl) ?_
  refine lv_aload_n hx hb dX3_itemsRead_5 rfl (lv_at hl 2 rfl) ?_
  obtain ⟨v0_3, v1_3, v2_3, v3_3, v4_3, v5_3, v6_3, hM_h0_3, hk_v0_3, hk_v1_3, hk_v2_3, hk_v3_3, hk_v4_3, hz_v5_3⟩ := hT.txn hk_h0
  refine m_get (T := TX3) (N := 7) (ci := 3) (v := .ref v0_3) hx hb hts wX3 hown hK hm hM_h0_3 rfl 0 (by decide) f12 (fun _ h9 => h9) rfl dX3_itemsRead_6 ?_
  obtain ⟨v0_4, v1_4, hM_v0_3_4, hk_v0_4, hn_v1_4⟩ := hT.tree hk_v0_3
  refine m_get (T := TX4) (N := 2) (ci := 4) (v := .int (nI v1_4)) hx hb hts wX4 hown hK hm hM_v0_3_4 rfl 1 (by decide) f87 (fun _ h9 => h9) rfl dX3_itemsRead_9 ?_
  refine lv_icmp_ge (tgt := 61) hx hb dX3_itemsRead_12 (by decide) (fun c5 => ?_) (fun c5 => ?_)
  · refine lv_iload_n hx hb dX3_itemsRead_61 rfl (lv_at hl 1 rfl) ?_
    refine W.iret (v := y2) hx hb hr (fun t ht hW => ⟨⟨some (.int y2), _, rfl, ?_, by rw [ht]; exact hm⟩, hS.F ht⟩) hS.2.2 dX3_itemsRead_62
    exact ⟨⟨_, rfl⟩, rfl⟩
  · refine lv_iload_n hx hb dX3_itemsRead_15 rfl (lv_at hl 0 rfl) ?_
    refine lv_aload_n hx hb dX3_itemsRead_16 rfl (lv_at hl 2 rfl) ?_
    refine m_get (T := TX3) (N := 7) (ci := 3) (v := .ref v3_3) hx hb hts wX3 hown hK hm hM_h0_3 rfl 3 (by decide) f22 (fun _ h9 => h9) rfl dX3_itemsRead_17 ?_
    obtain ⟨f_6, hM_v3_3_6⟩ := hT.longs hk_v3_3
    refine m_alen hx hb hK hm 1 hM_v3_3_6 rfl (v := nI 60) rfl dX3_itemsRead_20 ?_
    refine lv_icmp_ge (tgt := 61) hx hb dX3_itemsRead_21 (by decide) (fun c7 => ?_) (fun c7 => ?_)
    · refine lv_iload_n hx hb dX3_itemsRead_61 rfl (lv_at hl 1 rfl) ?_
      refine W.iret (v := y2) hx hb hr (fun t ht hW => ⟨⟨some (.int y2), _, rfl, ?_, by rw [ht]; exact hm⟩, hS.F ht⟩) hS.2.2 dX3_itemsRead_62
      exact ⟨⟨_, rfl⟩, rfl⟩
    · refine lv_iload_n hx hb dX3_itemsRead_24 rfl (lv_at hl 0 rfl) ?_
      refine lv_aload_n hx hb dX3_itemsRead_25 rfl (lv_at hl 2 rfl) ?_
      refine m_get (T := TX3) (N := 7) (ci := 3) (v := .ref v4_3) hx hb hts wX3 hown hK hm hM_h0_3 rfl 4 (by decide) f26 (fun _ h9 => h9) rfl dX3_itemsRead_26 ?_
      obtain ⟨f_8, hM_v4_3_8⟩ := hT.longs hk_v4_3
      refine m_alen hx hb hK hm 1 hM_v4_3_8 rfl (v := nI 60) rfl dX3_itemsRead_29 ?_
      refine lv_icmp_ge (tgt := 61) hx hb dX3_itemsRead_30 (by decide) (fun c9 => ?_) (fun c9 => ?_)
      · refine lv_iload_n hx hb dX3_itemsRead_61 rfl (lv_at hl 1 rfl) ?_
        refine W.iret (v := y2) hx hb hr (fun t ht hW => ⟨⟨some (.int y2), _, rfl, ?_, by rw [ht]; exact hm⟩, hS.F ht⟩) hS.2.2 dX3_itemsRead_62
        exact ⟨⟨_, rfl⟩, rfl⟩
      · refine lv_iload_n hx hb dX3_itemsRead_33 rfl (lv_at hl 1 rfl) ?_
        refine lv_aload_n hx hb dX3_itemsRead_34 rfl (lv_at hl 2 rfl) ?_
        refine m_get (T := TX3) (N := 7) (ci := 3) (v := .ref v3_3) hx hb hts wX3 hown hK hm hM_h0_3 rfl 3 (by decide) f22 (fun _ h9 => h9) rfl dX3_itemsRead_35 ?_
        refine lv_iload_n hx hb dX3_itemsRead_38 rfl (lv_at hl 0 rfl) ?_
        refine m_lald hx hb hK hm 1 hM_v3_3_6 rfl (in_of (i := (nI j1)) (n := 60) (by first | assumption | exact nI_pos (by omega)) (by assumption) (by first | decide | omega)) dX3_itemsRead_39 ?_
        refine m_kS (As := [.long (f_6 ((nI j1)).toNatClampNeg)]) (rest := [.int y2]) (rm := { frames := 0, cells := 0, slots := 0, locals := 0 }) ⟨hx, hb, hml, hown, hts⟩ (c_J13_bitCount_95d88 l D k z _ ((f_6 ((nI j1)).toNatClampNeg))) (va_cwS 1 hts gX3_itemsRead_J13_bitCount_95d88 rfl rfl rfl (by decide +kernel) ⟨Nat.le_of_ble_eq_true rfl, Nat.le_of_ble_eq_true rfl⟩) hz hcx hm hS rfl hl.1 rfl (Nat.le_of_ble_eq_true rfl) dX3_itemsRead_40 ⟨Nat.le_of_ble_eq_true rfl, Nat.le_of_ble_eq_true rfl⟩ (fun v M1 H locs hv hm hS => ?_)
        obtain ⟨hv1, hM1⟩ := hv
        have hv1 : ∃ x, v = some (.int x) := ⟨_, hv1⟩
        rw [hM1] at hm
        obtain ⟨w10, hv1⟩ := hv1
        subst hv1
        refine W.eq (g2 := F0 m 43 ls [.int w10, .int y2]) rfl ?_
        refine W.widen (k := 0) (n := 0) (Nat.le_of_ble_eq_true rfl) (Nat.le_of_ble_eq_true rfl) ?_
        have hm : mm D (AZ z) M H := hm
        refine lv_aload_n hx hb dX3_itemsRead_43 rfl (lv_at hl 2 rfl) ?_
        refine m_get (T := TX3) (N := 7) (ci := 3) (v := .ref v4_3) hx hb hts wX3 hown hK hm hM_h0_3 rfl 4 (by decide) f26 (fun _ h9 => h9) rfl dX3_itemsRead_44 ?_
        refine lv_iload_n hx hb dX3_itemsRead_47 rfl (lv_at hl 0 rfl) ?_
        refine m_lald hx hb hK hm 1 hM_v4_3_8 rfl (in_of (i := (nI j1)) (n := 60) (by first | assumption | exact nI_pos (by omega)) (by assumption) (by first | decide | omega)) dX3_itemsRead_48 ?_
        refine m_kS (As := [.long (f_8 ((nI j1)).toNatClampNeg)]) (rest := [.int w10, .int y2]) (rm := { frames := 0, cells := 0, slots := 0, locals := 0 }) ⟨hx, hb, hml, hown, hts⟩ (c_J13_bitCount_95d88 l D k z _ ((f_8 ((nI j1)).toNatClampNeg))) (va_cwS 1 hts gX3_itemsRead_J13_bitCount_95d88 rfl rfl rfl (by decide +kernel) ⟨Nat.le_of_ble_eq_true rfl, Nat.le_of_ble_eq_true rfl⟩) hz hcx hm hS rfl hl.1 rfl (Nat.le_of_ble_eq_true rfl) dX3_itemsRead_49 ⟨Nat.le_of_ble_eq_true rfl, Nat.le_of_ble_eq_true rfl⟩ (fun v M1 H locs hv hm hS => ?_)
        obtain ⟨hv1, hM1⟩ := hv
        have hv1 : ∃ x, v = some (.int x) := ⟨_, hv1⟩
        rw [hM1] at hm
        obtain ⟨w11, hv1⟩ := hv1
        subst hv1
        refine W.eq (g2 := F0 m 52 ls [.int w11, .int w10, .int y2]) rfl ?_
        refine W.widen (k := 0) (n := 0) (Nat.le_of_ble_eq_true rfl) (Nat.le_of_ble_eq_true rfl) ?_
        have hm : mm D (AZ z) M H := hm
        refine lv_iadd hx hb dX3_itemsRead_52 ?_
        refine lv_iadd hx hb dX3_itemsRead_53 ?_
        refine lv_istore_n (lv' := [(1, .int (y2 + (w10 + w11))), (2, .int (nI j1)), (0, .ref h0)]) hx hb dX3_itemsRead_54 rfl hl (by decide) rfl (fun ls hl => ?_)
        refine lv_iinc (v := ((nI j1) + 1)) (lv' := [(2, .int ((nI j1) + 1)), (1, .int (y2 + (w10 + w11))), (0, .ref h0)]) hx hb dX3_itemsRead_55 hl (k := 1) rfl rfl (by decide) rfl (fun ls hl => ?_)
        refine lv_goto (tgt := 4) hx hb dX3_itemsRead_58 (by decide) ?_
        rw [nI_1] at hl
        exact ih4 (j1 + 1, (y2 + (w10 + w11))) _ _ _ ⟨(by first | exact nI_up hbj1 c5 | exact nI_up2 (by decide) hbj1 c5), hm, hS, lv_sub hl [0, 1, 2] rfl⟩ (by show 2147483648 - (j1 + 1) < 2147483648 - j1; omega)

set_option maxHeartbeats 4000000 in
set_option maxRecDepth 100000 in
theorem t_X5_drop_I (l : Launch) (hlt : l.stackTraces = false) (D : va_G) (k : Nat → ClassId) (z : Nat) (M : mM) (κ : Nat → Option KD) (h0 : Nat) (a0 : Int32) (hk_h0 : κ h0 = some .top) (hT : TM k κ M) : mC l yX5_drop wsX5_drop ({ frames := 7, cells := 1, slots := 6, locals := 104 }) D k z [.ref h0, .int a0] M (fun v M' => ∃ κ', TM k κ' M' ∧ kx κ M κ' M' ∧ ∃ x, v = some (.int x)) (fun E M' => E ∈ (["java/lang/IllegalStateException"] : List String) ∧ ∃ κ', TM k κ' M' ∧ kx κ M κ' M') := by
  refine vx_ofW (cc := cX5_drop) (maxL := 3) (ret := (some .int)) (by decide) rfl ?_
  intro p e s m args below meth c s₁ B hml hnt hv
  obtain ⟨rfl, hz, hcx, hm⟩ := hv
  have hx := B.exec
  have hb := B.bytes
  have hr := B.returns
  have hts := atoms_spec (ws := wsX5_drop) B.pre
  have hown : s.vm.findClass RX5 = some m.cls := findClass_of_methodNamed B.named
  have hlocks := B.notSynchronized
  have hK := hcx.1
  have hS : va_S (AZ z) s.heap s.heap [] := va_S.rf
  have hA : ∀ q, s.heap.size ≤ q → AZ z q := fun q h => Nat.le_trans hz h
  have hl := lv_entry ([.ref h0, .int a0]) (n := 3) (Nat.le_of_ble_eq_true rfl)
  rw [lg_entry_eq]
  generalize (lg_sl ([.ref h0, .int a0]) ++ List.replicate (3 - (lg_sl ([.ref h0, .int a0])).length) Slot.unset).toArray = ls at hl ⊢
  have hl : lv_has ls 3 [(0, .ref h0), (1, .int a0)] := hl
  have f80 := hts (.fieldLink RX5 80 "CommitTree$Transaction" "open" "Z") (by decide +kernel)
  have wX3 : ∀ w ∈ wsX30, w ∈ wsX5_drop := by decide +kernel
  have hT0 := hT
  have hE : kx κ M κ M := kx.refl _ _
  refine lv_aload_n hx hb dX5_drop_0 rfl (lv_at hl 0 rfl) ?_
  refine lv_iload_n hx hb dX5_drop_1 rfl (lv_at hl 1 rfl) ?_
  obtain ⟨v0_1, v1_1, v2_1, v3_1, v4_1, v5_1, v6_1, v7_1, v8_1, v9_1, v10_1, hM_h0_1, hk_v0_1, hk_v1_1, hk_v2_1, hk_v3_1, hk_v4_1, hk_v5_1, hz_v9_1, hz_v10_1⟩ := hT.top hk_h0
  refine m_cV (As := [.int a0]) (rest := []) (rm := { frames := 6, cells := 1, slots := 6, locals := 82 }) ⟨hx, hb, hml, hown, hts⟩ (t_X5_opened_I l hlt D k z _ _ h0 a0 hk_h0 hT) (cwV 1 hts gX5_drop_X5_opened rfl rfl rfl (by decide +kernel) ⟨Nat.le_of_ble_eq_true rfl, Nat.le_of_ble_eq_true rfl⟩) (m_recv hK hm (q := (RX5, TX5, 11)) rfl hM_h0_1) hz hcx hm hS rfl hl.1 rfl (Nat.le_of_ble_eq_true rfl) dX5_drop_2 ⟨Nat.le_of_ble_eq_true rfl, Nat.le_of_ble_eq_true rfl⟩ (fun E ce q9 M1 H locs hv hm hS hce hcv hcl => ?_) (fun v M1 H locs hv hm hS => ?_)
  · refine vx_out (fun x hx => (hnt x hx).elim) hlocks hce hcv hcl (fun t ht hvm => ⟨⟨_, ?_, by rw [ht]; exact hm⟩, hS.F ht⟩) hS.2.2 (Nat.le_of_ble_eq_true rfl) (Nat.le_of_ble_eq_true rfl)
    obtain ⟨hE8, κ8, hT8, hx8⟩ := hv
    exact ⟨by simp only [List.mem_cons, List.not_mem_nil, or_false] at hE8 ⊢; first | exact hE8 | simp [hE8], κ8, hT8, hE.trans hT0 hT hx8⟩
  obtain ⟨hv1, hM1⟩ := hv
  rw [hM1] at hm
  obtain ⟨x2, hv1, hk_x2⟩ := hv1
  subst hv1
  refine W.eq (g2 := F0 m 5 ls [.ref x2]) rfl ?_
  refine W.widen (k := 1) (n := 6) (Nat.le_of_ble_eq_true rfl) (Nat.le_of_ble_eq_true rfl) ?_
  have hm : mm D (AZ z) M H := hm
  refine lv_astore_n (lv' := [(2, .ref x2), (0, .ref h0), (1, .int a0)]) hx hb dX5_drop_5 rfl hl (by decide) rfl (fun ls hl => ?_)
  refine lv_aload_n hx hb dX5_drop_6 rfl (lv_at hl 0 rfl) ?_
  refine lv_iconst (v := 0) hx hb dX5_drop_7 (by decide) ?_
  obtain ⟨v0_3, v1_3, v2_3, v3_3, v4_3, v5_3, v6_3, hM_x2_3, hk_v0_3, hk_v1_3, hk_v2_3, hk_v3_3, hk_v4_3, hz_v5_3⟩ := hT.txn hk_x2
  refine m_put (T := TX3) (N := 7) (ci := 3) (v := .int 0) (ty := .boolean) hx hb hts wX3 tyX3 tyX3_ok nmX3 hown hK hm hS hM_x2_3 rfl 5 (by decide) f80 (fun _ h9 => h9) rfl (by decide +kernel) rfl rfl (Nat.le_of_ble_eq_true rfl) dX5_drop_8 (fun H locs hm hS => ?_)
  have hm : mm D (AZ z) (mu M x2 (.inr (3, [.ref v0_3, .ref v1_3, .ref v2_3, .ref v3_3, .ref v4_3, .int 0, .int v6_3]))) H := hm
  have hR_4 : (mu M x2 (.inr (3, [.ref v0_3, .ref v1_3, .ref v2_3, .ref v3_3, .ref v4_3, .int 0, .int v6_3]))) h0 = _ := (mu_ne (kd_ne hk_h0 hk_x2 (by decide))).trans hM_h0_1
  have hT : TM k κ (mu M x2 (.inr (3, [.ref v0_3, .ref v1_3, .ref v2_3, .ref v3_3, .ref v4_3, .int 0, .int v6_3]))) := hT.put hk_x2 (show wf k κ .txn (.inr (3, [.ref v0_3, .ref v1_3, .ref v2_3, .ref v3_3, .ref v4_3, .int 0, .int v6_3])) from ⟨v0_3, v1_3, v2_3, v3_3, v4_3, 0, v6_3, rfl, hk_v0_3, hk_v1_3, hk_v2_3, hk_v3_3, hk_v4_3, (Or.inl rfl)⟩)
  have hE : kx κ M κ (mu M x2 (.inr (3, [.ref v0_3, .ref v1_3, .ref v2_3, .ref v3_3, .ref v4_3, .int 0, .int v6_3]))) := hE.put hk_x2
  generalize (mu M x2 (.inr (3, [.ref v0_3, .ref v1_3, .ref v2_3, .ref v3_3, .ref v4_3, .int 0, .int v6_3]))) = Mc1 at hm hT hE hR_4
  refine lv_aload_n hx hb dX5_drop_11 rfl (lv_at hl 0 rfl) ?_
  obtain ⟨v0_5, v1_5, v2_5, v3_5, v4_5, v5_5, v6_5, hM_x2_5, hk_v0_5, hk_v1_5, hk_v2_5, hk_v3_5, hk_v4_5, hz_v5_5⟩ := hT.txn hk_x2
  refine m_kV (As := []) (rest := []) (rm := { frames := 1, cells := 0, slots := 0, locals := 21 }) ⟨hx, hb, hml, hown, hts⟩ (t_X3_itemsRead l D k z _ _ x2 hk_x2 hT) (cwV 0 hts gX5_drop_X3_itemsRead rfl rfl rfl (by decide +kernel) ⟨Nat.le_of_ble_eq_true rfl, Nat.le_of_ble_eq_true rfl⟩) (m_recv hK hm (q := (RX3, TX3, 7)) rfl hM_x2_5) hz hcx hm hS rfl hl.1 rfl (Nat.le_of_ble_eq_true rfl) dX5_drop_12 ⟨Nat.le_of_ble_eq_true rfl, Nat.le_of_ble_eq_true rfl⟩ (fun v M1 H locs hv hm hS => ?_)
  obtain ⟨hv1, hM1⟩ := hv
  rw [hM1] at hm
  obtain ⟨w6, hv1⟩ := hv1
  subst hv1
  refine W.eq (g2 := F0 m 15 ls [.int w6]) rfl ?_
  refine W.widen (k := 1) (n := 6) (Nat.le_of_ble_eq_true rfl) (Nat.le_of_ble_eq_true rfl) ?_
  have hm : mm D (AZ z) Mc1 H := hm
  refine vx_ret ?_
  refine W.iret (v := w6) hx hb hr (fun t ht hW => ⟨⟨some (.int w6), _, rfl, ?_, by rw [ht]; exact hm⟩, hS.F ht⟩) hS.2.2 dX5_drop_15
  exact ⟨_, hT, hE, ⟨_, rfl⟩⟩

set_option maxHeartbeats 4000000 in
set_option maxRecDepth 100000 in
theorem t_X4_placeOf_I (l : Launch) (D : va_G) (k : Nat → ClassId) (z : Nat) (M : mM) (κ : Nat → Option KD) (h0 : Nat) (a0 : Int32) (hk_h0 : κ h0 = some .tree) (hT : TM k κ M) : mK l yX4_placeOf wsX4_placeOf ({ frames := 0, cells := 0, slots := 0, locals := 0 }) D k z [.ref h0, .int a0] M (fun v M' => (∃ x, v = some (.int x)) ∧ M' = M) := by
  refine Met.ofW (cc := cX4_placeOf) (maxL := 4) (ret := (some .int)) (by decide) rfl ?_
  intro p e s m args below meth c s₁ B hml hv
  obtain ⟨rfl, hz, hcx, hm⟩ := hv
  have hx := B.exec
  have hb := B.bytes
  have hr := B.returns
  have hts := atoms_spec (ws := wsX4_placeOf) B.pre
  have hown : s.vm.findClass RX4 = some m.cls := findClass_of_methodNamed B.named
  have hlocks := B.notSynchronized
  have hK := hcx.1
  have hS : va_S (AZ z) s.heap s.heap [] := va_S.rf
  have hA : ∀ q, s.heap.size ≤ q → AZ z q := fun q h => Nat.le_trans hz h
  have hl := lv_entry ([.ref h0, .int a0]) (n := 4) (Nat.le_of_ble_eq_true rfl)
  rw [lg_entry_eq]
  generalize (lg_sl ([.ref h0, .int a0]) ++ List.replicate (4 - (lg_sl ([.ref h0, .int a0])).length) Slot.unset).toArray = ls at hl ⊢
  have hl : lv_has ls 4 [(0, .ref h0), (1, .int a0)] := hl
  have f11 := hts (.fieldLink RX4 11 "CommitTree$Tree" "nodes" "[LCommitTree$Node;") (by decide +kernel)
  have f17 := hts (.fieldLink RX4 17 "CommitTree$Tree" "size" "I") (by decide +kernel)
  have f21 := hts (.fieldLink RX4 21 "CommitTree$Node" "id" "I") (by decide +kernel)
  have wX2 : ∀ w ∈ wsX20, w ∈ wsX4_placeOf := by decide +kernel
  have wX4 : ∀ w ∈ wsX40, w ∈ wsX4_placeOf := by decide +kernel
  have hT0 := hT
  have hE : kx κ M κ M := kx.refl _ _
  refine lv_iconst (v := 0) hx hb dX4_placeOf_0 (by decide) ?_
  refine lv_istore_n (lv' := [(2, .int 0), (0, .ref h0), (1, .int a0)]) hx hb dX4_placeOf_1 rfl hl (by decide) rfl (fun ls hl => ?_)
  refine W_loop (σ := Nat) (fun j1 H locs ls => (j1 < 2147483648) ∧ mm D (AZ z) M H ∧ va_S (AZ z) s.heap H locs ∧ lv_has ls 4 [(2, .int (nI j1)), (0, .ref h0), (1, .int a0)]) (fun j1 => 2147483648 - j1) (fun j1 => 0) (fun j1 => 0) ?_ 0 _ _ _ ⟨(by decide), hm, hS, lv_sub hl [0, 1, 2] rfl⟩
  intro j1 H locs ls hQ ih2
  obtain ⟨hbj1, hm, hS, hl⟩ := hQ
  try dsimp only at hm hl ih2 hbj1 ⊢
  refine lv_iload_n hx hb dX4_placeOf_2 rfl (lv_at hl 0 rfl) ?_
  refine lv_aload_n hx hb dX4_placeOf_3 rfl (lv_at hl 1 rfl) ?_
  obtain ⟨v0_2, v1_2, hM_h0_2, hk_v0_2, hn_v1_2⟩ := hT.tree hk_h0
  refine m_get (T := TX4) (N := 2) (ci := 4) (v := .int (nI v1_2)) hx hb hts wX4 hown hK hm hM_h0_2 rfl 1 (by decide) f17 (fun _ h9 => h9) rfl dX4_placeOf_4 ?_
  refine lv_icmp_ge (tgt := 46) hx hb dX4_placeOf_7 (by decide) (fun c3 => ?_) (fun c3 => ?_)
  · refine lv_iconst (v := (-1)) hx hb dX4_placeOf_46 (by decide) ?_
    refine W.iret (v := (-1)) hx hb hr (fun t ht hW => ⟨⟨some (.int (-1)), _, rfl, ?_, by rw [ht]; exact hm⟩, hS.F ht⟩) hS.2.2 dX4_placeOf_47
    exact ⟨⟨_, rfl⟩, rfl⟩
  · refine lv_iload_n hx hb dX4_placeOf_10 rfl (lv_at hl 0 rfl) ?_
    refine lv_aload_n hx hb dX4_placeOf_11 rfl (lv_at hl 1 rfl) ?_
    refine m_get (T := TX4) (N := 2) (ci := 4) (v := .ref v0_2) hx hb hts wX4 hown hK hm hM_h0_2 rfl 0 (by decide) f11 (fun _ h9 => h9) rfl dX4_placeOf_12 ?_
    obtain ⟨g_4, hM_v0_2_4, hg_4⟩ := hT.rows hk_v0_2
    refine m_alen hx hb hK hm 3 hM_v0_2_4 rfl (v := nI 60) rfl dX4_placeOf_15 ?_
    refine lv_icmp_ge (tgt := 46) hx hb dX4_placeOf_16 (by decide) (fun c5 => ?_) (fun c5 => ?_)
    · refine lv_iconst (v := (-1)) hx hb dX4_placeOf_46 (by decide) ?_
      refine W.iret (v := (-1)) hx hb hr (fun t ht hW => ⟨⟨some (.int (-1)), _, rfl, ?_, by rw [ht]; exact hm⟩, hS.F ht⟩) hS.2.2 dX4_placeOf_47
      exact ⟨⟨_, rfl⟩, rfl⟩
    · refine lv_aload_n hx hb dX4_placeOf_19 rfl (lv_at hl 1 rfl) ?_
      refine m_get (T := TX4) (N := 2) (ci := 4) (v := .ref v0_2) hx hb hts wX4 hown hK hm hM_h0_2 rfl 0 (by decide) f11 (fun _ h9 => h9) rfl dX4_placeOf_20 ?_
      refine lv_iload_n hx hb dX4_placeOf_23 rfl (lv_at hl 0 rfl) ?_
      refine m_aald hx hb hK hm 3 hM_v0_2_4 rfl (in_of (i := (nI j1)) (n := 60) (by first | assumption | exact nI_pos (by omega)) (by assumption) (by first | decide | omega)) dX4_placeOf_24 ?_
      obtain ⟨o6, ho6⟩ : ∃ o9, g_4 ((nI j1)).toNatClampNeg = o9 := ⟨_, rfl⟩
      refine W.eq (g2 := F0 m 25 ls [va_rf o6]) (by rw [ho6]) ?_
      rcases o6 with _ | x7
      · refine W.eq (g2 := F0 m 25 ls [.null]) rfl ?_
        refine lv_astore_nN (lv' := [(3, .null), (2, .int (nI j1)), (0, .ref h0), (1, .int a0)]) hx hb dX4_placeOf_25 rfl hl (by decide) rfl (fun ls hl => ?_)
        refine lv_aload_nN hx hb dX4_placeOf_26 rfl (lv_at hl 0 rfl) ?_
        refine lv_ifnullN (tgt := 40) hx hb dX4_placeOf_27 (by decide) ?_
        refine lv_iinc (v := ((nI j1) + 1)) (lv' := [(2, .int ((nI j1) + 1)), (3, .null), (0, .ref h0), (1, .int a0)]) hx hb dX4_placeOf_40 hl (k := 1) rfl rfl (by decide) rfl (fun ls hl => ?_)
        refine lv_goto (tgt := 2) hx hb dX4_placeOf_43 (by decide) ?_
        rw [nI_1] at hl
        exact ih2 (j1 + 1) _ _ _ ⟨(by first | exact nI_up hbj1 c3 | exact nI_up2 (by decide) hbj1 c3), hm, hS, lv_sub hl [0, 2, 3] rfl⟩ (by show 2147483648 - (j1 + 1) < 2147483648 - j1; omega)
      · have hk_x7 := hg_4 _ _ ho6
        refine W.eq (g2 := F0 m 25 ls [.ref x7]) rfl ?_
        refine lv_astore_n (lv' := [(3, .ref x7), (2, .int (nI j1)), (0, .ref h0), (1, .int a0)]) hx hb dX4_placeOf_25 rfl hl (by decide) rfl (fun ls hl => ?_)
        refine lv_aload_n hx hb dX4_placeOf_26 rfl (lv_at hl 0 rfl) ?_
        refine lv_ifnull hx hb dX4_placeOf_27 ?_
        refine lv_aload_n hx hb dX4_placeOf_30 rfl (lv_at hl 0 rfl) ?_
        obtain ⟨v0_8, v1_8, v2_8, v3_8, hM_x7_8, hz_v1_8, hk_v3_8⟩ := hT.node hk_x7
        refine m_get (T := TX2) (N := 4) (ci := 2) (v := .int v0_8) hx hb hts wX2 hown hK hm hM_x7_8 rfl 0 (by decide) f21 (fun _ h9 => h9) rfl dX4_placeOf_31 ?_
        refine lv_iload_n hx hb dX4_placeOf_34 rfl (lv_at hl 3 rfl) ?_
        refine lv_icmp_ne (tgt := 40) hx hb dX4_placeOf_35 (by decide) (fun c9 => ?_) (fun c9 => ?_)
        · refine lv_iinc (v := ((nI j1) + 1)) (lv' := [(2, .int ((nI j1) + 1)), (3, .ref x7), (0, .ref h0), (1, .int a0)]) hx hb dX4_placeOf_40 hl (k := 1) rfl rfl (by decide) rfl (fun ls hl => ?_)
          refine lv_goto (tgt := 2) hx hb dX4_placeOf_43 (by decide) ?_
          rw [nI_1] at hl
          exact ih2 (j1 + 1) _ _ _ ⟨(by first | exact nI_up hbj1 c3 | exact nI_up2 (by decide) hbj1 c3), hm, hS, lv_sub hl [0, 2, 3] rfl⟩ (by show 2147483648 - (j1 + 1) < 2147483648 - j1; omega)
        · refine lv_iload_n hx hb dX4_placeOf_38 rfl (lv_at hl 1 rfl) ?_
          refine W.iret (v := (nI j1)) hx hb hr (fun t ht hW => ⟨⟨some (.int (nI j1)), _, rfl, ?_, by rw [ht]; exact hm⟩, hS.F ht⟩) hS.2.2 dX4_placeOf_39
          exact ⟨⟨_, rfl⟩, rfl⟩

set_option maxHeartbeats 4000000 in
set_option maxRecDepth 100000 in
theorem t_X4_find_I (l : Launch) (D : va_G) (k : Nat → ClassId) (z : Nat) (M : mM) (κ : Nat → Option KD) (h0 : Nat) (a0 : Int32) (hk_h0 : κ h0 = some .tree) (hT : TM k κ M) : mK l yX4_find wsX4_find ({ frames := 1, cells := 0, slots := 0, locals := 23 }) D k z [.ref h0, .int a0] M (fun v M' => ((v = some .null ∨ ∃ a, v = some (.ref a) ∧ κ a = some .node)) ∧ M' = M) := by
  refine Met.ofW (cc := cX4_find) (maxL := 2) (ret := (some (.object "CommitTree$Node"))) (by decide) rfl ?_
  intro p e s m args below meth c s₁ B hml hv
  obtain ⟨rfl, hz, hcx, hm⟩ := hv
  have hx := B.exec
  have hb := B.bytes
  have hr := B.returns
  have hts := atoms_spec (ws := wsX4_find) B.pre
  have hown : s.vm.findClass RX4 = some m.cls := findClass_of_methodNamed B.named
  have hlocks := B.notSynchronized
  have hK := hcx.1
  have hS : va_S (AZ z) s.heap s.heap [] := va_S.rf
  have hA : ∀ q, s.heap.size ≤ q → AZ z q := fun q h => Nat.le_trans hz h
  have hl := lv_entry ([.ref h0, .int a0]) (n := 2) (Nat.le_of_ble_eq_true rfl)
  rw [lg_entry_eq]
  generalize (lg_sl ([.ref h0, .int a0]) ++ List.replicate (2 - (lg_sl ([.ref h0, .int a0])).length) Slot.unset).toArray = ls at hl ⊢
  have hl : lv_has ls 2 [(0, .ref h0), (1, .int a0)] := hl
  have hT0 := hT
  have hE : kx κ M κ M := kx.refl _ _
  refine lv_aload_n hx hb dX4_find_0 rfl (lv_at hl 0 rfl) ?_
  refine lv_aload_n hx hb dX4_find_1 rfl (lv_at hl 0 rfl) ?_
  refine lv_iload_n hx hb dX4_find_2 rfl (lv_at hl 1 rfl) ?_
  obtain ⟨v0_1, v1_1, hM_h0_1, hk_v0_1, hn_v1_1⟩ := hT.tree hk_h0
  refine m_kV (As := [.int a0]) (rest := [.ref h0]) (rm := { frames := 0, cells := 0, slots := 0, locals := 0 }) ⟨hx, hb, hml, hown, hts⟩ (t_X4_placeOf_I l D k z _ _ h0 a0 hk_h0 hT) (cwV 1 hts gX4_find_X4_placeOf rfl rfl rfl (by decide +kernel) ⟨Nat.le_of_ble_eq_true rfl, Nat.le_of_ble_eq_true rfl⟩) (m_recv hK hm (q := (RX4, TX4, 2)) rfl hM_h0_1) hz hcx hm hS rfl hl.1 rfl (Nat.le_of_ble_eq_true rfl) dX4_find_3 ⟨Nat.le_of_ble_eq_true rfl, Nat.le_of_ble_eq_true rfl⟩ (fun v M1 H locs hv hm hS => ?_)
  obtain ⟨hv1, hM1⟩ := hv
  rw [hM1] at hm
  obtain ⟨w2, hv1⟩ := hv1
  subst hv1
  refine W.eq (g2 := F0 m 6 ls [.int w2, .ref h0]) rfl ?_
  refine W.widen (k := 0) (n := 0) (Nat.le_of_ble_eq_true rfl) (Nat.le_of_ble_eq_true rfl) ?_
  have hm : mm D (AZ z) M H := hm
  refine m_kV (As := [.int w2]) (rest := []) (rm := { frames := 0, cells := 0, slots := 0, locals := 0 }) ⟨hx, hb, hml, hown, hts⟩ (t_X4_at_I l D k z _ _ h0 w2 hk_h0 hT) (cwV 1 hts gX4_find_X4_at rfl rfl rfl (by decide +kernel) ⟨Nat.le_of_ble_eq_true rfl, Nat.le_of_ble_eq_true rfl⟩) (m_recv hK hm (q := (RX4, TX4, 2)) rfl hM_h0_1) hz hcx hm hS rfl hl.1 rfl (Nat.le_of_ble_eq_true rfl) dX4_find_6 ⟨Nat.le_of_ble_eq_true rfl, Nat.le_of_ble_eq_true rfl⟩ (fun v M1 H locs hv hm hS => ?_)
  obtain ⟨hv1, hM1⟩ := hv
  rw [hM1] at hm
  rcases hv1 with hv1 | ⟨x3, hv1, hk_x3, hx9⟩
  · subst hv1
    refine W.eq (g2 := F0 m 9 ls [.null]) rfl ?_
    refine W.widen (k := 0) (n := 0) (Nat.le_of_ble_eq_true rfl) (Nat.le_of_ble_eq_true rfl) ?_
    have hm : mm D (AZ z) M H := hm
    refine W.aret (v := .null) hx hb hr (Or.inl ⟨_, rfl⟩) (Or.inl rfl) (fun t ht hW => ⟨⟨some (.null), _, rfl, ?_, by rw [ht]; exact hm⟩, hS.F ht⟩) hS.2.2 dX4_find_9
    exact ⟨Or.inl rfl, rfl⟩
  · subst hv1
    refine W.eq (g2 := F0 m 9 ls [.ref x3]) rfl ?_
    refine W.widen (k := 0) (n := 0) (Nat.le_of_ble_eq_true rfl) (Nat.le_of_ble_eq_true rfl) ?_
    have hm : mm D (AZ z) M H := hm
    refine W.aret (v := .ref x3) hx hb hr (Or.inl ⟨_, rfl⟩) (Or.inr ⟨_, rfl⟩) (fun t ht hW => ⟨⟨some (.ref x3), _, rfl, ?_, by rw [ht]; exact hm⟩, hS.F ht⟩) hS.2.2 dX4_find_9
    exact ⟨Or.inr ⟨_, rfl, hk_x3⟩, rfl⟩

set_option maxHeartbeats 4000000 in
set_option maxRecDepth 100000 in
theorem t_X3_differs_RNJJ (l : Launch) (D : va_G) (k : Nat → ClassId) (z : Nat) (M : mM) (κ : Nat → Option KD) (r0 : Nat) (j2 : Int64) (j3 : Int64) (hk_r0 : κ r0 = some .node) (hT : TM k κ M) : mK l yX3_differs wsX3_differs ({ frames := 0, cells := 0, slots := 0, locals := 0 }) D k z [.ref r0, .null, .long j2, .long j3] M (fun v M' => ((v = some (.int 0) ∨ v = some (.int 1))) ∧ M' = M) := by
  refine Met.ofW (cc := cX3_differs) (maxL := 9) (ret := (some .boolean)) (by decide) rfl ?_
  intro p e s m args below meth c s₁ B hml hv
  obtain ⟨rfl, hz, hcx, hm⟩ := hv
  have hx := B.exec
  have hb := B.bytes
  have hr := B.returns
  have hts := atoms_spec (ws := wsX3_differs) B.pre
  have hown : s.vm.findClass RX3 = some m.cls := findClass_of_methodNamed B.named
  have hlocks := B.notSynchronized
  have hK := hcx.1
  have hS : va_S (AZ z) s.heap s.heap [] := va_S.rf
  have hA : ∀ q, s.heap.size ≤ q → AZ z q := fun q h => Nat.le_trans hz h
  have hl := lv_entry ([.ref r0, .null, .long j2, .long j3]) (n := 9) (Nat.le_of_ble_eq_true rfl)
  rw [lg_entry_eq]
  generalize (lg_sl ([.ref r0, .null, .long j2, .long j3]) ++ List.replicate (9 - (lg_sl ([.ref r0, .null, .long j2, .long j3])).length) Slot.unset).toArray = ls at hl ⊢
  have hl : lv_has ls 9 [(0, .ref r0), (1, .null), (2, .long j2), (4, .long j3)] := hl
  have f58 := hts (.fieldLink RX3 58 "CommitTree$Node" "directory" "Z") (by decide +kernel)
  have f84 := hts (.fieldLink RX3 84 "CommitTree$Node" "size" "I") (by decide +kernel)
  have f98 := hts (.fieldLink RX3 98 "CommitTree$Node" "cells" "[I") (by decide +kernel)
  have wX2 : ∀ w ∈ wsX20, w ∈ wsX3_differs := by decide +kernel
  have hT0 := hT
  have hE : kx κ M κ M := kx.refl _ _
  refine lv_aload_nN hx hb dX3_differs_0 rfl (lv_at hl 1 rfl) ?_
  refine lv_ifnonnullN hx hb dX3_differs_1 ?_
  refine lv_iconst (v := 1) hx hb dX3_differs_4 (by decide) ?_
  refine W.zret hx hb hr rfl (fun t ht hW => ⟨⟨some (.int 1), _, rfl, ?_, by rw [ht]; exact hm⟩, hS.F ht⟩) hS.2.2 dX3_differs_5
  exact ⟨Or.inr rfl, rfl⟩

set_option maxHeartbeats 4000000 in
set_option maxRecDepth 100000 in
theorem t_X2_cell_I (l : Launch) (D : va_G) (k : Nat → ClassId) (z : Nat) (M : mM) (κ : Nat → Option KD) (h0 : Nat) (a0 : Int32) (hk_h0 : κ h0 = some .node) (hT : TM k κ M) : mK l yX2_cell wsX2_cell ({ frames := 0, cells := 0, slots := 0, locals := 0 }) D k z [.ref h0, .int a0] M (fun v M' => (∃ x, v = some (.int x)) ∧ M' = M) := by
  refine Met.ofW (cc := cX2_cell) (maxL := 2) (ret := (some .int)) (by decide) rfl ?_
  intro p e s m args below meth c s₁ B hml hv
  obtain ⟨rfl, hz, hcx, hm⟩ := hv
  have hx := B.exec
  have hb := B.bytes
  have hr := B.returns
  have hts := atoms_spec (ws := wsX2_cell) B.pre
  have hown : s.vm.findClass RX2 = some m.cls := findClass_of_methodNamed B.named
  have hlocks := B.notSynchronized
  have hK := hcx.1
  have hS : va_S (AZ z) s.heap s.heap [] := va_S.rf
  have hA : ∀ q, s.heap.size ≤ q → AZ z q := fun q h => Nat.le_trans hz h
  have hl := lv_entry ([.ref h0, .int a0]) (n := 2) (Nat.le_of_ble_eq_true rfl)
  rw [lg_entry_eq]
  generalize (lg_sl ([.ref h0, .int a0]) ++ List.replicate (2 - (lg_sl ([.ref h0, .int a0])).length) Slot.unset).toArray = ls at hl ⊢
  have hl : lv_has ls 2 [(0, .ref h0), (1, .int a0)] := hl
  have f22 := hts (.fieldLink RX2 22 "CommitTree$Node" "cells" "[I") (by decide +kernel)
  have wX2 : ∀ w ∈ wsX20, w ∈ wsX2_cell := by decide +kernel
  have hT0 := hT
  have hE : kx κ M κ M := kx.refl _ _
  refine lv_iload_n hx hb dX2_cell_0 rfl (lv_at hl 1 rfl) ?_
  refine lv_if_lt (tgt := 22) hx hb dX2_cell_1 (by decide) (fun c1 => ?_) (fun c1 => ?_)
  · refine lv_iconst (v := 0) hx hb dX2_cell_22 (by decide) ?_
    refine W.iret (v := 0) hx hb hr (fun t ht hW => ⟨⟨some (.int 0), _, rfl, ?_, by rw [ht]; exact hm⟩, hS.F ht⟩) hS.2.2 dX2_cell_23
    exact ⟨⟨_, rfl⟩, rfl⟩
  · refine lv_iload_n hx hb dX2_cell_4 rfl (lv_at hl 1 rfl) ?_
    refine lv_aload_n hx hb dX2_cell_5 rfl (lv_at hl 0 rfl) ?_
    obtain ⟨v0_2, v1_2, v2_2, v3_2, hM_h0_2, hz_v1_2, hk_v3_2⟩ := hT.node hk_h0
    refine m_get (T := TX2) (N := 4) (ci := 2) (v := .ref v3_2) hx hb hts wX2 hown hK hm hM_h0_2 rfl 3 (by decide) f22 (fun _ h9 => h9) rfl dX2_cell_6 ?_
    obtain ⟨n_3, f_3, hM_v3_2_3, hn_3⟩ := hT.ints hk_v3_2
    refine m_alen hx hb hK hm 0 hM_v3_2_3 rfl (v := nI n_3) rfl dX2_cell_9 ?_
    refine lv_icmp_ge (tgt := 22) hx hb dX2_cell_10 (by decide) (fun c4 => ?_) (fun c4 => ?_)
    · refine lv_iconst (v := 0) hx hb dX2_cell_22 (by decide) ?_
      refine W.iret (v := 0) hx hb hr (fun t ht hW => ⟨⟨some (.int 0), _, rfl, ?_, by rw [ht]; exact hm⟩, hS.F ht⟩) hS.2.2 dX2_cell_23
      exact ⟨⟨_, rfl⟩, rfl⟩
    · refine lv_aload_n hx hb dX2_cell_13 rfl (lv_at hl 0 rfl) ?_
      refine m_get (T := TX2) (N := 4) (ci := 2) (v := .ref v3_2) hx hb hts wX2 hown hK hm hM_h0_2 rfl 3 (by decide) f22 (fun _ h9 => h9) rfl dX2_cell_14 ?_
      refine lv_iload_n hx hb dX2_cell_17 rfl (lv_at hl 1 rfl) ?_
      refine m_iald hx hb hK hm 0 hM_v3_2_3 rfl (in_of (i := a0) (n := n_3) (by first | assumption | exact nI_pos (by omega)) (by assumption) (by first | decide | omega)) dX2_cell_18 ?_
      refine lv_goto (tgt := 23) hx hb dX2_cell_19 (by decide) ?_
      refine W.iret (v := (f_3 a0.toNatClampNeg)) hx hb hr (fun t ht hW => ⟨⟨some (.int (f_3 a0.toNatClampNeg)), _, rfl, ?_, by rw [ht]; exact hm⟩, hS.F ht⟩) hS.2.2 dX2_cell_23
      exact ⟨⟨_, rfl⟩, rfl⟩

