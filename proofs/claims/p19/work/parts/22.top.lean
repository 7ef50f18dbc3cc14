set_option maxHeartbeats 4000000 in
set_option maxRecDepth 100000 in
theorem c_X5_power (l : Launch) (hlt : l.stackTraces = false) (D : va_G) (k : Nat → ClassId) (z : Nat) (M : mM) (o tr nx mg dk ts ou : Nat) (nn cm hm9 dn rc : Int32) (hO : M o = some (.inr (5, [.ref tr, .ref nx, .ref mg, .ref dk, .ref ts, .ref ou, .int nn, .int cm, .int hm9, .int dn, .int rc]))) (wr lf n : Int32) (hd : M dk = some (.inr (0, [.int wr, .int lf]))) : mC l yX5_power wsX5_power ({ frames := 6, cells := 1, slots := 6, locals := 82 }) D k z [.ref o, .int n] M (fun v M' => ¬ n < -1 ∧ n ≤ 1000 ∧ v = none ∧ M' = mu M dk (.inr (0, [.int wr, .int n]))) (fun E M' => (n < -1 ∨ ¬ n ≤ 1000) ∧ E = "java/lang/IllegalArgumentException" ∧ M' = M) := by
  refine vx_ofW (cc := cX5_power) (maxL := 2) (ret := none) (by decide) rfl ?_
  intro p e s m args below meth c s₁ B hml hnt hv
  obtain ⟨rfl, hz, hcx, hm⟩ := hv
  have hx := B.exec
  have hb := B.bytes
  have hr := B.returns
  have hts := atoms_spec (ws := wsX5_power) B.pre
  have hown : s.vm.findClass RX5 = some m.cls := findClass_of_methodNamed B.named
  have hlocks := B.notSynchronized
  have hK := hcx.1
  have hS : va_S (AZ z) s.heap s.heap [] := va_S.rf
  have hA : ∀ q, s.heap.size ≤ q → AZ z q := fun q h => Nat.le_trans hz h
  have hl := lv_entry ([.ref o, .int n]) (n := 2) (Nat.le_of_ble_eq_true rfl)
  rw [lg_entry_eq]
  generalize (lg_sl ([.ref o, .int n]) ++ List.replicate (2 - (lg_sl ([.ref o, .int n])).length) Slot.unset).toArray = ls at hl ⊢
  have hl : lv_has ls 2 [(0, .ref o), (1, .int n)] := hl
  have f39 := hts (.fieldLink RX5 39 "CommitTree" "disk" "LCommitTree$Disk;") (by decide +kernel)
  have f243 := hts (.fieldLink RX5 243 "CommitTree$Disk" "left" "I") (by decide +kernel)
  have wX0 : ∀ w ∈ wsX00, w ∈ wsX5_power := by decide +kernel
  have wX5 : ∀ w ∈ wsX50, w ∈ wsX5_power := by decide +kernel
  have ne_o_dk : o ≠ dk := m_df hd hO (by intro h; cases h)
  refine lv_iload_n hx hb dX5_power_0 rfl (lv_at hl 1 rfl) ?_
  refine lv_iconst (v := (-1)) hx hb dX5_power_1 (by decide) ?_
  refine lv_icmp_lt (tgt := 12) hx hb dX5_power_2 (by decide) (fun c1 => ?_) (fun c1 => ?_)
  · obtain ⟨sa, hsa⟩ := hcx.2.2.1 (241, "not NONE .. 1000") (by decide)
    refine vx_throwS (own := RX5) (cls := "java/lang/IllegalArgumentException") (text := "not NONE .. 1000") (names := ["java/lang/RuntimeException", "java/lang/Exception"]) (ik := 175) (is := 241) (ic := 179) (A := AZ z) hx hb hlt hown (by decide) (by decide) (hts (.classLink RX5 175 "java/lang/IllegalArgumentException") (by decide +kernel)) (hts (.initialized "java/lang/IllegalArgumentException") (by decide +kernel)) hsa (vx_hat (B := DW) (fun w h => hts w (List.mem_cons_of_mem _ (List.mem_append_right _ h))) (by decide +kernel) (hcx.dw _)) (by decide +kernel) hcx.2.1.1 hcx.2.1.2 hS (hl.1.trans hml.symm) dX5_power_12 dX5_power_15 dX5_power_16 dX5_power_18 dX5_power_21 (fun x hx => (hnt x hx).elim) (Nat.le_of_ble_eq_true rfl) (Nat.le_of_ble_eq_true rfl) (Nat.le_of_ble_eq_true rfl) (Nat.le_of_ble_eq_true rfl) hlocks (fun t hvm hz1 hq => ⟨⟨_, ?_, hm.kept hq⟩, ⟨Nat.le_trans hS.1 hz1, fun q h1 h2 => (hq q (Nat.lt_of_lt_of_le h1 hS.1)).trans (hS.2.1 q h1 h2)⟩⟩) hS.2.2 (Nat.le_of_ble_eq_true rfl) (Nat.le_of_ble_eq_true rfl)
    first
      | exact ⟨Or.inl c1, rfl, rfl⟩
      | exact ⟨Or.inr c1, rfl, rfl⟩
  · refine lv_iload_n hx hb dX5_power_5 rfl (lv_at hl 1 rfl) ?_
    refine lv_sipush (v := 1000) hx hb dX5_power_6 (by decide) ?_
    refine lv_icmp_le (tgt := 22) hx hb dX5_power_9 (by decide) (fun c2 => ?_) (fun c2 => ?_)
    · refine lv_aload_n hx hb dX5_power_22 rfl (lv_at hl 0 rfl) ?_
      refine m_get (T := TX5) (N := 11) (ci := 5) (v := .ref dk) hx hb hts wX5 hown hK hm hO rfl 3 (by decide) f39 (fun _ h9 => h9) rfl dX5_power_23 ?_
      refine lv_iload_n hx hb dX5_power_26 rfl (lv_at hl 1 rfl) ?_
      refine m_put (T := TX0) (N := 2) (ci := 0) (v := .int n) (ty := .int) hx hb hts wX0 tyX0 tyX0_ok nmX0 hown hK hm hS hd rfl 1 (by decide) f243 (fun _ h9 => h9) rfl (by decide +kernel) rfl rfl (Nat.le_of_ble_eq_true rfl) dX5_power_27 (fun H locs hm hS => ?_)
      have hm : mm D (AZ z) (mu M dk (.inr (0, [.int wr, .int n]))) H := hm
      refine W.widen (k := 1) (n := 6) (by omega) (by omega) ?_
      refine vx_ret ?_
      refine W.vret hx hb hr (fun t ht hW => ⟨⟨none, _, rfl, ?_, by rw [ht]; exact hm⟩, hS.F ht⟩) hS.2.2 dX5_power_30
      exact ⟨c1, c2, rfl, rfl⟩
    · obtain ⟨sa, hsa⟩ := hcx.2.2.1 (241, "not NONE .. 1000") (by decide)
      refine vx_throwS (own := RX5) (cls := "java/lang/IllegalArgumentException") (text := "not NONE .. 1000") (names := ["java/lang/RuntimeException", "java/lang/Exception"]) (ik := 175) (is := 241) (ic := 179) (A := AZ z) hx hb hlt hown (by decide) (by decide) (hts (.classLink RX5 175 "java/lang/IllegalArgumentException") (by decide +kernel)) (hts (.initialized "java/lang/IllegalArgumentException") (by decide +kernel)) hsa (vx_hat (B := DW) (fun w h => hts w (List.mem_cons_of_mem _ (List.mem_append_right _ h))) (by decide +kernel) (hcx.dw _)) (by decide +kernel) hcx.2.1.1 hcx.2.1.2 hS (hl.1.trans hml.symm) dX5_power_12 dX5_power_15 dX5_power_16 dX5_power_18 dX5_power_21 (fun x hx => (hnt x hx).elim) (Nat.le_of_ble_eq_true rfl) (Nat.le_of_ble_eq_true rfl) (Nat.le_of_ble_eq_true rfl) (Nat.le_of_ble_eq_true rfl) hlocks (fun t hvm hz1 hq => ⟨⟨_, ?_, hm.kept hq⟩, ⟨Nat.le_trans hS.1 hz1, fun q h1 h2 => (hq q (Nat.lt_of_lt_of_le h1 hS.1)).trans (hS.2.1 q h1 h2)⟩⟩) hS.2.2 (Nat.le_of_ble_eq_true rfl) (Nat.le_of_ble_eq_true rfl)
      first
        | exact ⟨Or.inl c2, rfl, rfl⟩
        | exact ⟨Or.inr c2, rfl, rfl⟩
