/-- Disk.put: blocks written, what is left before the power goes, whether it stayed -/
def dk_put (wr lf b : Int32) : Int32 × Int32 × Int32 := if lf = -1 then (wr + b, lf, 1) else if lf < b then (wr + lf, -1, 0) else (wr + b, lf - b, 1)

set_option maxHeartbeats 4000000 in
set_option maxRecDepth 100000 in
theorem c_X0_put (l : Launch) (D : va_G) (k : Nat → ClassId) (z : Nat) (M : mM) (h0 : Nat) (b wr lf : Int32) (hd : M h0 = some (.inr (0, [.int wr, .int lf]))) : mK l yX0_put wsX0_put ({ frames := 0, cells := 0, slots := 0, locals := 0 }) D k z [.ref h0, .int b] M (fun v M' => v = some (.int (dk_put wr lf b).2.2) ∧ M' = mu M h0 (.inr (0, [.int (dk_put wr lf b).1, .int (dk_put wr lf b).2.1]))) := by
  refine Met.ofW (cc := cX0_put) (maxL := 2) (ret := (some .boolean)) (by decide) rfl ?_
  intro p e s m args below meth c s₁ B hml hv
  obtain ⟨rfl, hz, hcx, hm⟩ := hv
  have hx := B.exec
  have hb := B.bytes
  have hr := B.returns
  have hts := atoms_spec (ws := wsX0_put) B.pre
  have hown : s.vm.findClass RX0 = some m.cls := findClass_of_methodNamed B.named
  have hlocks := B.notSynchronized
  have hK := hcx.1
  have hS : va_S (AZ z) s.heap s.heap [] := va_S.rf
  have hA : ∀ q, s.heap.size ≤ q → AZ z q := fun q h => Nat.le_trans hz h
  have hl := lv_entry ([.ref h0, .int b]) (n := 2) (Nat.le_of_ble_eq_true rfl)
  rw [lg_entry_eq]
  generalize (lg_sl ([.ref h0, .int b]) ++ List.replicate (2 - (lg_sl ([.ref h0, .int b])).length) Slot.unset).toArray = ls at hl ⊢
  have hl : lv_has ls 2 [(0, .ref h0), (1, .int b)] := hl
  have f9 := hts (.fieldLink RX0 9 "CommitTree$Disk" "written" "I") (by decide +kernel)
  have f15 := hts (.fieldLink RX0 15 "CommitTree$Disk" "left" "I") (by decide +kernel)
  have wX0 : ∀ w ∈ wsX00, w ∈ wsX0_put := by decide +kernel
  refine lv_aload_n hx hb dX0_put_0 rfl (lv_at hl 0 rfl) ?_
  refine m_get (T := TX0) (N := 2) (ci := 0) (v := .int lf) hx hb hts wX0 hown hK hm hd rfl 1 (by decide) f15 (fun _ h9 => h9) rfl dX0_put_1 ?_
  refine lv_iconst (v := (-1)) hx hb dX0_put_4 (by decide) ?_
  refine lv_icmp_ne (tgt := 20) hx hb dX0_put_5 (by decide) (fun c1 => ?_) (fun c1 => ?_)
  · refine lv_aload_n hx hb dX0_put_20 rfl (lv_at hl 0 rfl) ?_
    refine m_get (T := TX0) (N := 2) (ci := 0) (v := .int lf) hx hb hts wX0 hown hK hm hd rfl 1 (by decide) f15 (fun _ h9 => h9) rfl dX0_put_21 ?_
    refine lv_iload_n hx hb dX0_put_24 rfl (lv_at hl 1 rfl) ?_
    refine lv_icmp_lt (tgt := 50) hx hb dX0_put_25 (by decide) (fun c2 => ?_) (fun c2 => ?_)
    · refine lv_aload_n hx hb dX0_put_50 rfl (lv_at hl 0 rfl) ?_
      refine lv_dup hx hb dX0_put_51 rfl ?_
      refine m_get (T := TX0) (N := 2) (ci := 0) (v := .int wr) hx hb hts wX0 hown hK hm hd rfl 0 (by decide) f9 (fun _ h9 => h9) rfl dX0_put_52 ?_
      refine lv_aload_n hx hb dX0_put_55 rfl (lv_at hl 0 rfl) ?_
      refine m_get (T := TX0) (N := 2) (ci := 0) (v := .int lf) hx hb hts wX0 hown hK hm hd rfl 1 (by decide) f15 (fun _ h9 => h9) rfl dX0_put_56 ?_
      refine lv_iadd hx hb dX0_put_59 ?_
      refine m_put (T := TX0) (N := 2) (ci := 0) (v := .int (wr + lf)) (ty := .int) hx hb hts wX0 tyX0 tyX0_ok nmX0 hown hK hm hS hd rfl 0 (by decide) f9 (fun _ h9 => h9) rfl (by decide +kernel) rfl rfl (Nat.le_of_ble_eq_true rfl) dX0_put_60 (fun H locs hm hS => ?_)
      have hm : mm D (AZ z) (mu M h0 (.inr (0, [.int (wr + lf), .int lf]))) H := hm
      refine lv_aload_n hx hb dX0_put_63 rfl (lv_at hl 0 rfl) ?_
      refine lv_iconst (v := (-1)) hx hb dX0_put_64 (by decide) ?_
      refine m_put (T := TX0) (N := 2) (ci := 0) (v := .int (-1)) (ty := .int) hx hb hts wX0 tyX0 tyX0_ok nmX0 hown hK hm hS (mu_self _ _ _) rfl 1 (by decide) f15 (fun _ h9 => h9) rfl (by decide +kernel) rfl rfl (Nat.le_of_ble_eq_true rfl) dX0_put_65 (fun H locs hm hS => ?_)
      have hm : mm D (AZ z) (mu (mu M h0 (.inr (0, [.int (wr + lf), .int lf]))) h0 (.inr (0, [.int (wr + lf), .int (-1)]))) H := hm
      refine lv_iconst (v := 0) hx hb dX0_put_68 (by decide) ?_
      refine W.zret hx hb hr rfl (fun t ht hW => ⟨⟨some (.int 0), _, rfl, ?_, by rw [ht]; exact hm⟩, hS.F ht⟩) hS.2.2 dX0_put_69
      simp [dk_put, mu_mu, c1, c2]
    · refine lv_aload_n hx hb dX0_put_28 rfl (lv_at hl 0 rfl) ?_
      refine lv_dup hx hb dX0_put_29 rfl ?_
      refine m_get (T := TX0) (N := 2) (ci := 0) (v := .int wr) hx hb hts wX0 hown hK hm hd rfl 0 (by decide) f9 (fun _ h9 => h9) rfl dX0_put_30 ?_
      refine lv_iload_n hx hb dX0_put_33 rfl (lv_at hl 1 rfl) ?_
      refine lv_iadd hx hb dX0_put_34 ?_
      refine m_put (T := TX0) (N := 2) (ci := 0) (v := .int (wr + b)) (ty := .int) hx hb hts wX0 tyX0 tyX0_ok nmX0 hown hK hm hS hd rfl 0 (by decide) f9 (fun _ h9 => h9) rfl (by decide +kernel) rfl rfl (Nat.le_of_ble_eq_true rfl) dX0_put_35 (fun H locs hm hS => ?_)
      have hm : mm D (AZ z) (mu M h0 (.inr (0, [.int (wr + b), .int lf]))) H := hm
      refine lv_aload_n hx hb dX0_put_38 rfl (lv_at hl 0 rfl) ?_
      refine lv_dup hx hb dX0_put_39 rfl ?_
      refine m_get (T := TX0) (N := 2) (ci := 0) (v := .int lf) hx hb hts wX0 hown hK hm (mu_self _ _ _) rfl 1 (by decide) f15 (fun _ h9 => h9) rfl dX0_put_40 ?_
      refine lv_iload_n hx hb dX0_put_43 rfl (lv_at hl 1 rfl) ?_
      refine lv_isub hx hb dX0_put_44 ?_
      refine m_put (T := TX0) (N := 2) (ci := 0) (v := .int (lf - b)) (ty := .int) hx hb hts wX0 tyX0 tyX0_ok nmX0 hown hK hm hS (mu_self _ _ _) rfl 1 (by decide) f15 (fun _ h9 => h9) rfl (by decide +kernel) rfl rfl (Nat.le_of_ble_eq_true rfl) dX0_put_45 (fun H locs hm hS => ?_)
      have hm : mm D (AZ z) (mu (mu M h0 (.inr (0, [.int (wr + b), .int lf]))) h0 (.inr (0, [.int (wr + b), .int (lf - b)]))) H := hm
      refine lv_iconst (v := 1) hx hb dX0_put_48 (by decide) ?_
      refine W.zret hx hb hr rfl (fun t ht hW => ⟨⟨some (.int 1), _, rfl, ?_, by rw [ht]; exact hm⟩, hS.F ht⟩) hS.2.2 dX0_put_49
      simp [dk_put, mu_mu, c1, c2]
  · refine lv_aload_n hx hb dX0_put_8 rfl (lv_at hl 0 rfl) ?_
    refine lv_dup hx hb dX0_put_9 rfl ?_
    refine m_get (T := TX0) (N := 2) (ci := 0) (v := .int wr) hx hb hts wX0 hown hK hm hd rfl 0 (by decide) f9 (fun _ h9 => h9) rfl dX0_put_10 ?_
    refine lv_iload_n hx hb dX0_put_13 rfl (lv_at hl 1 rfl) ?_
    refine lv_iadd hx hb dX0_put_14 ?_
    refine m_put (T := TX0) (N := 2) (ci := 0) (v := .int (wr + b)) (ty := .int) hx hb hts wX0 tyX0 tyX0_ok nmX0 hown hK hm hS hd rfl 0 (by decide) f9 (fun _ h9 => h9) rfl (by decide +kernel) rfl rfl (Nat.le_of_ble_eq_true rfl) dX0_put_15 (fun H locs hm hS => ?_)
    have hm : mm D (AZ z) (mu M h0 (.inr (0, [.int (wr + b), .int lf]))) H := hm
    refine lv_iconst (v := 1) hx hb dX0_put_18 (by decide) ?_
    refine W.zret hx hb hr rfl (fun t ht hW => ⟨⟨some (.int 1), _, rfl, ?_, by rw [ht]; exact hm⟩, hS.F ht⟩) hS.2.2 dX0_put_19
    simp [dk_put, mu_mu, c1]

set_option maxHeartbeats 4000000 in
set_option maxRecDepth 100000 in
theorem c_X2_wordBlocks (l : Launch) (D : va_G) (k : Nat → ClassId) (z : Nat) (M : mM) (n : Int32) : mK l yX2_wordBlocks wsX2_wordBlocks ({ frames := 0, cells := 0, slots := 0, locals := 0 }) D k z [.int n] M (fun v M' => v = some (.int ((n + 8 - 1) / 8)) ∧ M' = M) := by
  refine Met.ofW (cc := cX2_wordBlocks) (maxL := 1) (ret := (some .int)) (by decide) rfl ?_
  intro p e s m args below meth c s₁ B hml hv
  obtain ⟨rfl, hz, hcx, hm⟩ := hv
  have hx := B.exec
  have hb := B.bytes
  have hr := B.returns
  have hts := atoms_spec (ws := wsX2_wordBlocks) B.pre
  have hown : s.vm.findClass RX2 = some m.cls := findClass_of_methodNamed B.named
  have hlocks := B.notSynchronized
  have hK := hcx.1
  have hS : va_S (AZ z) s.heap s.heap [] := va_S.rf
  have hA : ∀ q, s.heap.size ≤ q → AZ z q := fun q h => Nat.le_trans hz h
  have hl := lv_entry ([.int n]) (n := 1) (Nat.le_of_ble_eq_true rfl)
  rw [lg_entry_eq]
  generalize (lg_sl ([.int n]) ++ List.replicate (1 - (lg_sl ([.int n])).length) Slot.unset).toArray = ls at hl ⊢
  have hl : lv_has ls 1 [(0, .int n)] := hl
  refine lv_iload_n hx hb dX2_wordBlocks_0 rfl (lv_at hl 0 rfl) ?_
  refine lv_bipush (v := 8) hx hb dX2_wordBlocks_1 (by decide) ?_
  refine lv_iadd hx hb dX2_wordBlocks_3 ?_
  refine lv_iconst (v := 1) hx hb dX2_wordBlocks_4 (by decide) ?_
  refine lv_isub hx hb dX2_wordBlocks_5 ?_
  refine lv_bipush (v := 8) hx hb dX2_wordBlocks_6 (by decide) ?_
  refine lv_idiv hx hb dX2_wordBlocks_8 (by decide) ?_
  refine W.iret (v := (((n + 8) - 1) / 8)) hx hb hr (fun t ht hW => ⟨⟨some (.int (((n + 8) - 1) / 8)), _, rfl, ?_, by rw [ht]; exact hm⟩, hS.F ht⟩) hS.2.2 dX2_wordBlocks_9
  exact ⟨rfl, rfl⟩
