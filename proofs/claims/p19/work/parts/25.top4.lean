set_option maxHeartbeats 4000000 in
set_option maxRecDepth 100000 in
theorem c_X5_openedOrNone (l : Launch) (hlt : l.stackTraces = false) (D : va_G) (k : Nat → ClassId) (z : Nat) (M : mM) (o tr nx mg dk ts ou : Nat) (nn cm hm9 dn rc : Int32) (hO : M o = some (.inr (5, [.ref tr, .ref nx, .ref mg, .ref dk, .ref ts, .ref ou, .int nn, .int cm, .int hm9, .int dn, .int rc]))) (xa xb xv xm xc xr : Nat → Nat) (xo xk : Nat → Int32) (gt : Nat → Option Nat) (hTs : M ts = some (.inl (k 4, 6, .inr (.inr (.inr (.inr gt)))))) (hG : ∀ j, j < 6 → gt j = some (xa j)) (hXs : ∀ j, j < 6 → M (xa j) = some (.inr (3, [.ref (xb j), .ref (xv j), .ref (xm j), .ref (xc j), .ref (xr j), .int (xo j), .int (xk j)]))) (t : Int32) : mC l yX5_openedOrNone wsX5_openedOrNone ({ frames := 7, cells := 1, slots := 6, locals := 104 }) D k z [.ref o, .int t] M (fun v M' => ((t = -1 ∧ dn = 0 ∧ v = some (.ref ou)) ∨ (¬ (t = -1 ∧ dn = 0) ∧ ∃ j, opd dn xo t j ∧ v = some (.ref (xa j)))) ∧ M' = M) (fun E M' => (¬ (t = -1 ∧ dn = 0) ∧ ∀ j, ¬ opd dn xo t j) ∧ E = "java/lang/IllegalStateException" ∧ M' = M) := by
  refine vx_ofW (cc := cX5_openedOrNone) (maxL := 2) (ret := (some (.object "CommitTree$Transaction"))) (by decide) rfl ?_
  intro p e s m args below meth c s₁ B hml hnt hv
  obtain ⟨rfl, hz, hcx, hm⟩ := hv
  have hx := B.exec
  have hb := B.bytes
  have hr := B.returns
  have hts := atoms_spec (ws := wsX5_openedOrNone) B.pre
  have hown : s.vm.findClass RX5 = some m.cls := findClass_of_methodNamed B.named
  have hlocks := B.notSynchronized
  have hK := hcx.1
  have hS : va_S (AZ z) s.heap s.heap [] := va_S.rf
  have hA : ∀ q, s.heap.size ≤ q → AZ z q := fun q h => Nat.le_trans hz h
  have hl := lv_entry ([.ref o, .int t]) (n := 2) (Nat.le_of_ble_eq_true rfl)
  rw [lg_entry_eq]
  generalize (lg_sl ([.ref o, .int t]) ++ List.replicate (2 - (lg_sl ([.ref o, .int t])).length) Slot.unset).toArray = ls at hl ⊢
  have hl : lv_has ls 2 [(0, .ref o), (1, .int t)] := hl
  have f52 := hts (.fieldLink RX5 52 "CommitTree" "outside" "LCommitTree$Transaction;") (by decide +kernel)
  have f66 := hts (.fieldLink RX5 66 "CommitTree" "down" "Z") (by decide +kernel)
  have wX5 : ∀ w ∈ wsX50, w ∈ wsX5_openedOrNone := by decide +kernel
  refine lv_iload_n hx hb dX5_openedOrNone_0 rfl (lv_at hl 1 rfl) ?_
  refine lv_iconst (v := (-1)) hx hb dX5_openedOrNone_1 (by decide) ?_
  refine lv_icmp_ne (tgt := 19) hx hb dX5_openedOrNone_2 (by decide) (fun c1 => ?_) (fun c1 => ?_)
  · refine lv_aload_n hx hb dX5_openedOrNone_19 rfl (lv_at hl 0 rfl) ?_
    refine lv_iload_n hx hb dX5_openedOrNone_20 rfl (lv_at hl 1 rfl) ?_
    refine m_cV (As := [.int t]) (rest := []) (rm := { frames := 6, cells := 1, slots := 6, locals := 82 }) ⟨hx, hb, hml, hown, hts⟩ (c_X5_opened l hlt D k z _ o tr nx mg dk ts ou nn cm hm9 dn rc hO xa xb xv xm xc xr xo xk gt hTs hG hXs t) (cwV 1 hts gX5_openedOrNone_X5_opened rfl rfl rfl (by decide +kernel) ⟨Nat.le_of_ble_eq_true rfl, Nat.le_of_ble_eq_true rfl⟩) (m_recv hK hm (q := (RX5, TX5, 11)) rfl hO) hz hcx hm hS rfl hl.1 rfl (Nat.le_of_ble_eq_true rfl) dX5_openedOrNone_21 ⟨Nat.le_of_ble_eq_true rfl, Nat.le_of_ble_eq_true rfl⟩ (fun E ce q9 M1 H locs hv hm hS hce hcv hcl => ?_) (fun v M1 H locs hv hm hS => ?_)
    · refine vx_out (fun x hx => (hnt x hx).elim) hlocks hce hcv hcl (fun t ht hvm => ⟨⟨_, ?_, by rw [ht]; exact hm⟩, hS.F ht⟩) hS.2.2 (Nat.le_of_ble_eq_true rfl) (Nat.le_of_ble_eq_true rfl)
      obtain ⟨hv1, rfl, hM1⟩ := hv
      first
        | exact ⟨⟨fun h => c1 h.1, hv1⟩, rfl, hM1⟩
        | exact ⟨⟨fun h => c1 h.2, hv1⟩, rfl, hM1⟩
    obtain ⟨j, hj, rfl, hM1⟩ := hv
    rw [hM1] at hm
    refine W.eq (g2 := F0 m 24 ls [.ref (xa j)]) rfl ?_
    refine W.widen (k := 1) (n := 6) (Nat.le_of_ble_eq_true rfl) (Nat.le_of_ble_eq_true rfl) ?_
    have hm : mm D (AZ z) M H := hm
    refine vx_ret ?_
    refine W.aret (v := .ref (xa j)) hx hb hr (Or.inl ⟨_, rfl⟩) (Or.inr ⟨_, rfl⟩) (fun t ht hW => ⟨⟨some (.ref (xa j)), _, rfl, ?_, by rw [ht]; exact hm⟩, hS.F ht⟩) hS.2.2 dX5_openedOrNone_24
    first
      | exact ⟨Or.inr ⟨fun h => c1 h.1, j, hj, rfl⟩, rfl⟩
      | exact ⟨Or.inr ⟨fun h => c1 h.2, j, hj, rfl⟩, rfl⟩
      | exact ⟨Or.inl ⟨rfl, c1, rfl⟩, rfl⟩
  · refine lv_aload_n hx hb dX5_openedOrNone_5 rfl (lv_at hl 0 rfl) ?_
    refine m_get (T := TX5) (N := 11) (ci := 5) (v := .int dn) hx hb hts wX5 hown hK hm hO rfl 9 (by decide) f66 (fun _ h9 => h9) rfl dX5_openedOrNone_6 ?_
    refine lv_if_ne (tgt := 19) hx hb dX5_openedOrNone_9 (by decide) (fun c2 => ?_) (fun c2 => ?_)
    · refine lv_aload_n hx hb dX5_openedOrNone_19 rfl (lv_at hl 0 rfl) ?_
      refine lv_iload_n hx hb dX5_openedOrNone_20 rfl (lv_at hl 1 rfl) ?_
      refine m_cV (As := [.int t]) (rest := []) (rm := { frames := 6, cells := 1, slots := 6, locals := 82 }) ⟨hx, hb, hml, hown, hts⟩ (c_X5_opened l hlt D k z _ o tr nx mg dk ts ou nn cm hm9 dn rc hO xa xb xv xm xc xr xo xk gt hTs hG hXs t) (cwV 1 hts gX5_openedOrNone_X5_opened rfl rfl rfl (by decide +kernel) ⟨Nat.le_of_ble_eq_true rfl, Nat.le_of_ble_eq_true rfl⟩) (m_recv hK hm (q := (RX5, TX5, 11)) rfl hO) hz hcx hm hS rfl hl.1 rfl (Nat.le_of_ble_eq_true rfl) dX5_openedOrNone_21 ⟨Nat.le_of_ble_eq_true rfl, Nat.le_of_ble_eq_true rfl⟩ (fun E ce q9 M1 H locs hv hm hS hce hcv hcl => ?_) (fun v M1 H locs hv hm hS => ?_)
      · refine vx_out (fun x hx => (hnt x hx).elim) hlocks hce hcv hcl (fun t ht hvm => ⟨⟨_, ?_, by rw [ht]; exact hm⟩, hS.F ht⟩) hS.2.2 (Nat.le_of_ble_eq_true rfl) (Nat.le_of_ble_eq_true rfl)
        obtain ⟨hv1, rfl, hM1⟩ := hv
        first
          | exact ⟨⟨fun h => c2 h.1, hv1⟩, rfl, hM1⟩
          | exact ⟨⟨fun h => c2 h.2, hv1⟩, rfl, hM1⟩
      obtain ⟨j, hj, rfl, hM1⟩ := hv
      rw [hM1] at hm
      refine W.eq (g2 := F0 m 24 ls [.ref (xa j)]) rfl ?_
      refine W.widen (k := 1) (n := 6) (Nat.le_of_ble_eq_true rfl) (Nat.le_of_ble_eq_true rfl) ?_
      have hm : mm D (AZ z) M H := hm
      refine vx_ret ?_
      refine W.aret (v := .ref (xa j)) hx hb hr (Or.inl ⟨_, rfl⟩) (Or.inr ⟨_, rfl⟩) (fun t ht hW => ⟨⟨some (.ref (xa j)), _, rfl, ?_, by rw [ht]; exact hm⟩, hS.F ht⟩) hS.2.2 dX5_openedOrNone_24
      first
        | exact ⟨Or.inr ⟨fun h => c2 h.1, j, hj, rfl⟩, rfl⟩
        | exact ⟨Or.inr ⟨fun h => c2 h.2, j, hj, rfl⟩, rfl⟩
        | exact ⟨Or.inl ⟨c1, c2, rfl⟩, rfl⟩
    · refine lv_aload_n hx hb dX5_openedOrNone_12 rfl (lv_at hl 0 rfl) ?_
      refine m_get (T := TX5) (N := 11) (ci := 5) (v := .ref ou) hx hb hts wX5 hown hK hm hO rfl 5 (by decide) f52 (fun _ h9 => h9) rfl dX5_openedOrNone_13 ?_
      refine lv_goto (tgt := 24) hx hb dX5_openedOrNone_16 (by decide) ?_
      refine W.widen (k := 1) (n := 6) (by omega) (by omega) ?_
      refine vx_ret ?_
      refine W.aret (v := .ref ou) hx hb hr (Or.inl ⟨_, rfl⟩) (Or.inr ⟨_, rfl⟩) (fun t ht hW => ⟨⟨some (.ref ou), _, rfl, ?_, by rw [ht]; exact hm⟩, hS.F ht⟩) hS.2.2 dX5_openedOrNone_24
      first
        | exact ⟨Or.inr ⟨fun h => c2 h.1, j, hj, rfl⟩, rfl⟩
        | exact ⟨Or.inr ⟨fun h => c2 h.2, j, hj, rfl⟩, rfl⟩
        | exact ⟨Or.inl ⟨c1, c2, rfl⟩, rfl⟩
