/-- the memory when the first n transactions are dropped -/
def downM (M : mM) (xa xb xv xm xc xr : Nat → Nat) (xk : Nat → Int32) : Nat → mM
  | 0 => M
  | j + 1 => mu (downM M xa xb xv xm xc xr xk j) (xa j) (.inr (3, [.ref (xb j), .ref (xv j), .ref (xm j), .ref (xc j), .ref (xr j), .int 0, .int (xk j)]))
theorem downM_ne {M : mM} {xa xb xv xm xc xr : Nat → Nat} {xk : Nat → Int32} {a : Nat} : ∀ (n : Nat), (∀ j, j < n → a ≠ xa j) → downM M xa xb xv xm xc xr xk n a = M a
  | 0, _ => rfl
  | n + 1, h => (mu_ne (h n (Nat.lt_succ_self n))).trans (downM_ne n fun j hj => h j (Nat.lt_succ_of_lt hj))

set_option maxHeartbeats 4000000 in
set_option maxRecDepth 100000 in
theorem c_X5_goDown (l : Launch) (D : va_G) (k : Nat → ClassId) (z : Nat) (M : mM) (o tr nx mg dk ts ou : Nat) (nn cm hm9 dn rc : Int32) (hO : M o = some (.inr (5, [.ref tr, .ref nx, .ref mg, .ref dk, .ref ts, .ref ou, .int nn, .int cm, .int hm9, .int dn, .int rc]))) (xa xb xv xm xc xr : Nat → Nat) (xo xk : Nat → Int32) (gt : Nat → Option Nat) (hTs : M ts = some (.inl (k 4, 6, .inr (.inr (.inr (.inr gt)))))) (hG : ∀ j, j < 6 → gt j = some (xa j)) (hXs : ∀ j, j < 6 → M (xa j) = some (.inr (3, [.ref (xb j), .ref (xv j), .ref (xm j), .ref (xc j), .ref (xr j), .int (xo j), .int (xk j)]))) (hinj : ∀ i j, i < 6 → j < 6 → xa i = xa j → i = j) : mK l yX5_goDown wsX5_goDown ({ frames := 0, cells := 0, slots := 0, locals := 0 }) D k z [.ref o] M (fun v M' => v = none ∧ M' = (downM (mu M o (.inr (5, [.ref tr, .ref nx, .ref mg, .ref dk, .ref ts, .ref ou, .int nn, .int cm, .int hm9, .int 1, .int rc]))) xa xb xv xm xc xr xk 6)) := by
  refine Met.ofW (cc := cX5_goDown) (maxL := 3) (ret := none) (by decide) rfl ?_
  intro p e s m args below meth c s₁ B hml hv
  obtain ⟨rfl, hz, hcx, hm⟩ := hv
  have hx := B.exec
  have hb := B.bytes
  have hr := B.returns
  have hts := atoms_spec (ws := wsX5_goDown) B.pre
  have hown : s.vm.findClass RX5 = some m.cls := findClass_of_methodNamed B.named
  have hlocks := B.notSynchronized
  have hK := hcx.1
  have hS : va_S (AZ z) s.heap s.heap [] := va_S.rf
  have hA : ∀ q, s.heap.size ≤ q → AZ z q := fun q h => Nat.le_trans hz h
  have hl := lv_entry ([.ref o]) (n := 3) (Nat.le_of_ble_eq_true rfl)
  rw [lg_entry_eq]
  generalize (lg_sl ([.ref o]) ++ List.replicate (3 - (lg_sl ([.ref o])).length) Slot.unset).toArray = ls at hl ⊢
  have hl : lv_has ls 3 [(0, .ref o)] := hl
  have f45 := hts (.fieldLink RX5 45 "CommitTree" "transactions" "[LCommitTree$Transaction;") (by decide +kernel)
  have f66 := hts (.fieldLink RX5 66 "CommitTree" "down" "Z") (by decide +kernel)
  have f80 := hts (.fieldLink RX5 80 "CommitTree$Transaction" "open" "Z") (by decide +kernel)
  have wX3 : ∀ w ∈ wsX30, w ∈ wsX5_goDown := by decide +kernel
  have wX5 : ∀ w ∈ wsX50, w ∈ wsX5_goDown := by decide +kernel
  have ne_ts_o : ts ≠ o := m_df hO hTs (by intro h; cases h)
  have hox : ∀ j, j < 6 → o ≠ xa j := fun j hj => m_df (hXs j hj) hO (by intro h; cases h)
  have htx : ∀ j, j < 6 → ts ≠ xa j := fun j hj => m_df (hXs j hj) hTs (by intro h; cases h)
  refine lv_aload_n hx hb dX5_goDown_0 rfl (lv_at hl 0 rfl) ?_
  refine lv_iconst (v := 1) hx hb dX5_goDown_1 (by decide) ?_
  refine m_put (T := TX5) (N := 11) (ci := 5) (v := .int 1) (ty := .boolean) hx hb hts wX5 tyX5 tyX5_ok nmX5 hown hK hm hS hO rfl 9 (by decide) f66 (fun _ h9 => h9) rfl (by decide +kernel) rfl rfl (Nat.le_of_ble_eq_true rfl) dX5_goDown_2 (fun H locs hm hS => ?_)
  have hm : mm D (AZ z) (mu M o (.inr (5, [.ref tr, .ref nx, .ref mg, .ref dk, .ref ts, .ref ou, .int nn, .int cm, .int hm9, .int 1, .int rc]))) H := hm
  refine lv_iconst (v := 0) hx hb dX5_goDown_5 (by decide) ?_
  refine lv_istore_n (lv' := [(1, .int 0), (0, .ref o)]) hx hb dX5_goDown_6 rfl hl (by decide) rfl (fun ls hl => ?_)
  refine W_loop (σ := Nat) (fun i H locs ls => (i ≤ 6) ∧ mm D (AZ z) (downM (mu M o (.inr (5, [.ref tr, .ref nx, .ref mg, .ref dk, .ref ts, .ref ou, .int nn, .int cm, .int hm9, .int 1, .int rc]))) xa xb xv xm xc xr xk i) H ∧ va_S (AZ z) s.heap H locs ∧ lv_has ls 3 [(1, .int (nI i)), (0, .ref o)]) (fun i => 6 - i) (fun i => 0) (fun i => 0) ?_ 0 _ _ _ ⟨Nat.zero_le _, hm, hS, lv_sub hl [0, 1] rfl⟩
  intro i H locs ls hI ih7
  obtain ⟨hi, hm, hS, hl⟩ := hI
  try dsimp only at hm hl ih7 ⊢
  refine lv_iload_n hx hb dX5_goDown_7 rfl (lv_at hl 0 rfl) ?_
  refine lv_aload_n hx hb dX5_goDown_8 rfl (lv_at hl 1 rfl) ?_
  refine m_get (T := TX5) (N := 11) (ci := 5) (v := .ref ts) hx hb hts wX5 hown hK hm ((downM_ne _ fun j hj => hox j (by omega)).trans (mu_self _ _ _)) rfl 4 (by decide) f45 (fun _ h9 => h9) rfl dX5_goDown_9 ?_
  refine m_alen hx hb hK hm 4 ((downM_ne _ fun j hj => htx j (by omega)).trans ((mu_ne ne_ts_o).trans hTs)) rfl (v := nI 6) rfl dX5_goDown_12 ?_
  refine lv_icmp_ge (tgt := 38) hx hb dX5_goDown_13 (by decide) (fun c1 => ?_) (fun c1 => ?_)
  · refine W.vret hx hb hr (fun t ht hW => ⟨⟨none, _, rfl, ?_, by rw [ht]; exact hm⟩, hS.F ht⟩) hS.2.2 dX5_goDown_38
    have he : i = 6 := Nat.le_antisymm hi ((nI_leI (by decide) (by omega)).mp c1)
    subst he
    exact ⟨rfl, rfl⟩
  · have hlt9 : i < 6 := Nat.lt_of_not_le fun q => c1 (nI_le q (by omega))
    have hg2 : gt (nI i).toNatClampNeg = some (xa i) := by rw [nI_clamp (by omega)]; exact hG i hlt9
    have hXj : (downM (mu M o (.inr (5, [.ref tr, .ref nx, .ref mg, .ref dk, .ref ts, .ref ou, .int nn, .int cm, .int hm9, .int 1, .int rc]))) xa xb xv xm xc xr xk i) (xa i) = some (.inr (3, [.ref (xb i), .ref (xv i), .ref (xm i), .ref (xc i), .ref (xr i), .int (xo i), .int (xk i)])) := (downM_ne _ fun j hj h => absurd (hinj i j hlt9 (by omega) h) (by omega)).trans ((mu_ne (hox i hlt9).symm).trans (hXs i hlt9))
    refine lv_aload_n hx hb dX5_goDown_16 rfl (lv_at hl 1 rfl) ?_
    refine m_get (T := TX5) (N := 11) (ci := 5) (v := .ref ts) hx hb hts wX5 hown hK hm ((downM_ne _ fun j hj => hox j (by omega)).trans (mu_self _ _ _)) rfl 4 (by decide) f45 (fun _ h9 => h9) rfl dX5_goDown_17 ?_
    refine lv_iload_n hx hb dX5_goDown_20 rfl (lv_at hl 0 rfl) ?_
    refine m_aald hx hb hK hm 4 ((downM_ne _ fun j hj => htx j (by omega)).trans ((mu_ne ne_ts_o).trans hTs)) rfl (vp_in_nI hlt9 (by decide)) dX5_goDown_21 ?_
    refine W.eq (g2 := F0 m 22 ls [.ref (xa i)]) (by rw [hg2]; rfl) ?_
    refine lv_astore_n (lv' := [(2, .ref (xa i)), (1, .int (nI i)), (0, .ref o)]) hx hb dX5_goDown_22 rfl hl (by decide) rfl (fun ls hl => ?_)
    refine lv_aload_n hx hb dX5_goDown_23 rfl (lv_at hl 0 rfl) ?_
    refine lv_ifnull hx hb dX5_goDown_24 ?_
    refine lv_aload_n hx hb dX5_goDown_27 rfl (lv_at hl 0 rfl) ?_
    refine lv_iconst (v := 0) hx hb dX5_goDown_28 (by decide) ?_
    refine m_put (T := TX3) (N := 7) (ci := 3) (v := .int 0) (ty := .boolean) hx hb hts wX3 tyX3 tyX3_ok nmX3 hown hK hm hS hXj rfl 5 (by decide) f80 (fun _ h9 => h9) rfl (by decide +kernel) rfl rfl (Nat.le_of_ble_eq_true rfl) dX5_goDown_29 (fun H locs hm hS => ?_)
    have hm : mm D (AZ z) (mu (downM (mu M o (.inr (5, [.ref tr, .ref nx, .ref mg, .ref dk, .ref ts, .ref ou, .int nn, .int cm, .int hm9, .int 1, .int rc]))) xa xb xv xm xc xr xk i) (xa i) (.inr (3, [.ref (xb i), .ref (xv i), .ref (xm i), .ref (xc i), .ref (xr i), .int 0, .int (xk i)]))) H := hm
    refine lv_iinc (v := ((nI i) + 1)) (lv' := [(1, .int ((nI i) + 1)), (2, .ref (xa i)), (0, .ref o)]) hx hb dX5_goDown_32 hl (k := 1) rfl rfl (by decide) rfl (fun ls hl => ?_)
    refine lv_goto (tgt := 7) hx hb dX5_goDown_35 (by decide) ?_
    rw [nI_1] at hl
    exact ih7 (i + 1) _ _ _ ⟨by omega, hm, hS, lv_sub hl [0, 2] rfl⟩ (by omega)
