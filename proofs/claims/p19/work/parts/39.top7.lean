/-- how many of the first n transactions are open -/
def openN (xo : Nat → Int32) : Nat → Int32
  | 0 => 0
  | j + 1 => if xo j = 0 then openN xo j else openN xo j + 1

set_option maxHeartbeats 4000000 in
set_option maxRecDepth 100000 in
theorem c_X5_openTransactions (l : Launch) (D : va_G) (k : Nat → ClassId) (z : Nat) (M : mM) (o tr nx mg dk ts ou : Nat) (nn cm hm9 dn rc : Int32) (hO : M o = some (.inr (5, [.ref tr, .ref nx, .ref mg, .ref dk, .ref ts, .ref ou, .int nn, .int cm, .int hm9, .int dn, .int rc]))) (xa xb xv xm xc xr : Nat → Nat) (xo xk : Nat → Int32) (gt : Nat → Option Nat) (hTs : M ts = some (.inl (k 4, 6, .inr (.inr (.inr (.inr gt)))))) (hG : ∀ j, j < 6 → gt j = some (xa j)) (hXs : ∀ j, j < 6 → M (xa j) = some (.inr (3, [.ref (xb j), .ref (xv j), .ref (xm j), .ref (xc j), .ref (xr j), .int (xo j), .int (xk j)]))) : mK l yX5_openTransactions wsX5_openTransactions ({ frames := 0, cells := 0, slots := 0, locals := 0 }) D k z [.ref o] M (fun v M' => v = some (.int (openN xo 6)) ∧ M' = M) := by
  refine Met.ofW (cc := cX5_openTransactions) (maxL := 4) (ret := (some .int)) (by decide) rfl ?_
  intro p e s m args below meth c s₁ B hml hv
  obtain ⟨rfl, hz, hcx, hm⟩ := hv
  have hx := B.exec
  have hb := B.bytes
  have hr := B.returns
  have hts := atoms_spec (ws := wsX5_openTransactions) B.pre
  have hown : s.vm.findClass RX5 = some m.cls := findClass_of_methodNamed B.named
  have hlocks := B.notSynchronized
  have hK := hcx.1
  have hS : va_S (AZ z) s.heap s.heap [] := va_S.rf
  have hA : ∀ q, s.heap.size ≤ q → AZ z q := fun q h => Nat.le_trans hz h
  have hl := lv_entry ([.ref o]) (n := 4) (Nat.le_of_ble_eq_true rfl)
  rw [lg_entry_eq]
  generalize (lg_sl ([.ref o]) ++ List.replicate (4 - (lg_sl ([.ref o])).length) Slot.unset).toArray = ls at hl ⊢
  have hl : lv_has ls 4 [(0, .ref o)] := hl
  have f45 := hts (.fieldLink RX5 45 "CommitTree" "transactions" "[LCommitTree$Transaction;") (by decide +kernel)
  have f80 := hts (.fieldLink RX5 80 "CommitTree$Transaction" "open" "Z") (by decide +kernel)
  have wX3 : ∀ w ∈ wsX30, w ∈ wsX5_openTransactions := by decide +kernel
  have wX5 : ∀ w ∈ wsX50, w ∈ wsX5_openTransactions := by decide +kernel
  refine lv_iconst (v := 0) hx hb dX5_openTransactions_0 (by decide) ?_
  refine lv_istore_n (lv' := [(1, .int 0), (0, .ref o)]) hx hb dX5_openTransactions_1 rfl hl (by decide) rfl (fun ls hl => ?_)
  refine lv_iconst (v := 0) hx hb dX5_openTransactions_2 (by decide) ?_
  refine lv_istore_n (lv' := [(2, .int 0), (1, .int 0), (0, .ref o)]) hx hb dX5_openTransactions_3 rfl hl (by decide) rfl (fun ls hl => ?_)
  refine W_loop (σ := Nat) (fun i H locs ls => (i ≤ 6) ∧ mm D (AZ z) M H ∧ va_S (AZ z) s.heap H locs ∧ lv_has ls 4 [(2, .int (nI i)), (1, .int (openN xo i)), (0, .ref o)]) (fun i => 6 - i) (fun i => 0) (fun i => 0) ?_ 0 _ _ _ ⟨Nat.zero_le _, hm, hS, lv_sub hl [0, 1, 2] rfl⟩
  intro i H locs ls hI ih4
  obtain ⟨hi, hm, hS, hl⟩ := hI
  try dsimp only at hm hl ih4 ⊢
  refine lv_iload_n hx hb dX5_openTransactions_4 rfl (lv_at hl 0 rfl) ?_
  refine lv_aload_n hx hb dX5_openTransactions_5 rfl (lv_at hl 2 rfl) ?_
  refine m_get (T := TX5) (N := 11) (ci := 5) (v := .ref ts) hx hb hts wX5 hown hK hm hO rfl 4 (by decide) f45 (fun _ h9 => h9) rfl dX5_openTransactions_6 ?_
  refine m_alen hx hb hK hm 4 hTs rfl (v := nI 6) rfl dX5_openTransactions_9 ?_
  refine lv_icmp_ge (tgt := 40) hx hb dX5_openTransactions_10 (by decide) (fun c1 => ?_) (fun c1 => ?_)
  · refine lv_iload_n hx hb dX5_openTransactions_40 rfl (lv_at hl 1 rfl) ?_
    refine W.iret (v := (openN xo i)) hx hb hr (fun t ht hW => ⟨⟨some (.int (openN xo i)), _, rfl, ?_, by rw [ht]; exact hm⟩, hS.F ht⟩) hS.2.2 dX5_openTransactions_41
    have he : i = 6 := Nat.le_antisymm hi ((nI_leI (by decide) (by omega)).mp c1)
    subst he
    exact ⟨rfl, rfl⟩
  · have hlt9 : i < 6 := Nat.lt_of_not_le fun q => c1 (nI_le q (by omega))
    have hg2 : gt (nI i).toNatClampNeg = some (xa i) := by rw [nI_clamp (by omega)]; exact hG i hlt9
    have hXj := hXs i hlt9
    refine lv_aload_n hx hb dX5_openTransactions_13 rfl (lv_at hl 2 rfl) ?_
    refine m_get (T := TX5) (N := 11) (ci := 5) (v := .ref ts) hx hb hts wX5 hown hK hm hO rfl 4 (by decide) f45 (fun _ h9 => h9) rfl dX5_openTransactions_14 ?_
    refine lv_iload_n hx hb dX5_openTransactions_17 rfl (lv_at hl 0 rfl) ?_
    refine m_aald hx hb hK hm 4 hTs rfl (vp_in_nI hlt9 (by decide)) dX5_openTransactions_18 ?_
    refine W.eq (g2 := F0 m 19 ls [.ref (xa i)]) (by rw [hg2]; rfl) ?_
    refine lv_astore_n (lv' := [(3, .ref (xa i)), (2, .int (nI i)), (1, .int (openN xo i)), (0, .ref o)]) hx hb dX5_openTransactions_19 rfl hl (by decide) rfl (fun ls hl => ?_)
    refine lv_aload_n hx hb dX5_openTransactions_20 rfl (lv_at hl 0 rfl) ?_
    refine lv_ifnull hx hb dX5_openTransactions_21 ?_
    refine lv_aload_n hx hb dX5_openTransactions_24 rfl (lv_at hl 0 rfl) ?_
    refine m_get (T := TX3) (N := 7) (ci := 3) (v := .int (xo i)) hx hb hts wX3 hown hK hm hXj rfl 5 (by decide) f80 (fun _ h9 => h9) rfl dX5_openTransactions_25 ?_
    refine lv_if_eq (tgt := 34) hx hb dX5_openTransactions_28 (by decide) (fun c2 => ?_) (fun c2 => ?_)
    · refine lv_iinc (v := ((nI i) + 1)) (lv' := [(2, .int ((nI i) + 1)), (3, .ref (xa i)), (1, .int (openN xo i)), (0, .ref o)]) hx hb dX5_openTransactions_34 hl (k := 1) rfl rfl (by decide) rfl (fun ls hl => ?_)
      refine lv_goto (tgt := 4) hx hb dX5_openTransactions_37 (by decide) ?_
      rw [nI_1] at hl
      have h5 : (openN xo i) = openN xo (i + 1) := by simp [openN, c2]
      rw [h5] at hl
      exact ih4 (i + 1) _ _ _ ⟨by omega, hm, hS, lv_sub hl [0, 2, 3] rfl⟩ (by omega)
    · refine lv_iinc (v := ((openN xo i) + 1)) (lv' := [(1, .int ((openN xo i) + 1)), (3, .ref (xa i)), (2, .int (nI i)), (0, .ref o)]) hx hb dX5_openTransactions_31 hl (k := 2) rfl rfl (by decide) rfl (fun ls hl => ?_)
      refine lv_iinc (v := ((nI i) + 1)) (lv' := [(2, .int ((nI i) + 1)), (1, .int ((openN xo i) + 1)), (3, .ref (xa i)), (0, .ref o)]) hx hb dX5_openTransactions_34 hl (k := 2) rfl rfl (by decide) rfl (fun ls hl => ?_)
      refine lv_goto (tgt := 4) hx hb dX5_openTransactions_37 (by decide) ?_
      rw [nI_1] at hl
      have h5 : ((openN xo i) + 1) = openN xo (i + 1) := by simp [openN, c2]
      rw [h5] at hl
      exact ih4 (i + 1) _ _ _ ⟨by omega, hm, hS, lv_sub hl [0, 1, 3] rfl⟩ (by omega)
