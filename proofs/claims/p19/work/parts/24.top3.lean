set_option maxHeartbeats 4000000 in
set_option maxRecDepth 100000 in
theorem c_X5_needPathBelowRoot (l : Launch) (hlt : l.stackTraces = false) (D : va_G) (k : Nat → ClassId) (z : Nat) (M : mM) (path : Int32) : mC l yX5_needPathBelowRoot wsX5_needPathBelowRoot ({ frames := 6, cells := 1, slots := 6, locals := 82 }) D k z [.int path] M (fun v M' => (path ≠ 0 ∧ isP path) ∧ v = none ∧ M' = M) (fun E M' => ¬ (path ≠ 0 ∧ isP path) ∧ E = "java/lang/IllegalArgumentException" ∧ M' = M) := by
  refine vx_ofW (cc := cX5_needPathBelowRoot) (maxL := 1) (ret := none) (by decide) rfl ?_
  intro p e s m args below meth c s₁ B hml hnt hv
  obtain ⟨rfl, hz, hcx, hm⟩ := hv
  have hx := B.exec
  have hb := B.bytes
  have hr := B.returns
  have hts := atoms_spec (ws := wsX5_needPathBelowRoot) B.pre
  have hown : s.vm.findClass RX5 = some m.cls := findClass_of_methodNamed B.named
  have hlocks := B.notSynchronized
  have hK := hcx.1
  have hS : va_S (AZ z) s.heap s.heap [] := va_S.rf
  have hA : ∀ q, s.heap.size ≤ q → AZ z q := fun q h => Nat.le_trans hz h
  have hl := lv_entry ([.int path]) (n := 1) (Nat.le_of_ble_eq_true rfl)
  rw [lg_entry_eq]
  generalize (lg_sl ([.int path]) ++ List.replicate (1 - (lg_sl ([.int path])).length) Slot.unset).toArray = ls at hl ⊢
  have hl : lv_has ls 1 [(0, .int path)] := hl
  refine lv_iload_n hx hb dX5_needPathBelowRoot_0 rfl (lv_at hl 0 rfl) ?_
  refine lv_if_eq (tgt := 11) hx hb dX5_needPathBelowRoot_1 (by decide) (fun c1 => ?_) (fun c1 => ?_)
  · obtain ⟨sa, hsa⟩ := hcx.2.2.1 (266, "not a path below the root") (by decide)
    refine vx_throwSW (own := RX5) (cls := "java/lang/IllegalArgumentException") (text := "not a path below the root") (names := ["java/lang/RuntimeException", "java/lang/Exception"]) (ik := 175) (is := 266) (ic := 179) (A := AZ z) hx hb hlt hown (by decide) (by decide) (hts (.classLink RX5 175 "java/lang/IllegalArgumentException") (by decide +kernel)) (hts (.initialized "java/lang/IllegalArgumentException") (by decide +kernel)) hsa (vx_hat (B := DW) (fun w h => hts w (List.mem_cons_of_mem _ (List.mem_append_right _ h))) (by decide +kernel) (hcx.dw _)) (by decide +kernel) hcx.2.1.1 hcx.2.1.2 hS (hl.1.trans hml.symm) dX5_needPathBelowRoot_11 dX5_needPathBelowRoot_14 dX5_needPathBelowRoot_15 dX5_needPathBelowRoot_18 dX5_needPathBelowRoot_21 (fun x hx => (hnt x hx).elim) (Nat.le_of_ble_eq_true rfl) (Nat.le_of_ble_eq_true rfl) (Nat.le_of_ble_eq_true rfl) (Nat.le_of_ble_eq_true rfl) hlocks (fun t hvm hz1 hq => ⟨⟨_, ?_, hm.kept hq⟩, ⟨Nat.le_trans hS.1 hz1, fun q h1 h2 => (hq q (Nat.lt_of_lt_of_le h1 hS.1)).trans (hS.2.1 q h1 h2)⟩⟩) hS.2.2 (Nat.le_of_ble_eq_true rfl) (Nat.le_of_ble_eq_true rfl)
    first
      | exact ⟨fun h => h.1 c1, rfl, rfl⟩
      | exact ⟨fun h => hp h.2, rfl, rfl⟩
      | exact absurd c1 (by decide)
  · refine lv_iload_n hx hb dX5_needPathBelowRoot_4 rfl (lv_at hl 0 rfl) ?_
    refine m_kS (As := [.int path]) (rest := []) (rm := { frames := 0, cells := 0, slots := 0, locals := 0 }) ⟨hx, hb, hml, hown, hts⟩ (c_X5_isPath l D k z _ path) (cwS 1 hts gX5_needPathBelowRoot_X5_isPath rfl rfl rfl (by decide +kernel) ⟨Nat.le_of_ble_eq_true rfl, Nat.le_of_ble_eq_true rfl⟩) hz hcx hm hS rfl hl.1 rfl (Nat.le_of_ble_eq_true rfl) dX5_needPathBelowRoot_5 ⟨Nat.le_of_ble_eq_true rfl, Nat.le_of_ble_eq_true rfl⟩ (fun v M1 H locs hv hm hS => ?_)
    obtain ⟨hv1, hM1⟩ := hv
    rw [hM1] at hm
    rcases hv1 with ⟨hp, rfl⟩ | ⟨hp, rfl⟩
    · refine W.eq (g2 := F0 m 8 ls [.int 1]) rfl ?_
      refine W.widen (k := 0) (n := 0) (Nat.le_of_ble_eq_true rfl) (Nat.le_of_ble_eq_true rfl) ?_
      have hm : mm D (AZ z) M H := hm
      refine lv_if_ne (tgt := 22) hx hb dX5_needPathBelowRoot_8 (by decide) (fun c2 => ?_) (fun c2 => ?_)
      · refine W.widen (k := 1) (n := 6) (by omega) (by omega) ?_
        refine vx_ret ?_
        refine W.vret hx hb hr (fun t ht hW => ⟨⟨none, _, rfl, ?_, by rw [ht]; exact hm⟩, hS.F ht⟩) hS.2.2 dX5_needPathBelowRoot_22
        first
          | exact ⟨⟨c1, hp⟩, rfl, rfl⟩
          | exact absurd rfl c2
      · obtain ⟨sa, hsa⟩ := hcx.2.2.1 (266, "not a path below the root") (by decide)
        refine vx_throwSW (own := RX5) (cls := "java/lang/IllegalArgumentException") (text := "not a path below the root") (names := ["java/lang/RuntimeException", "java/lang/Exception"]) (ik := 175) (is := 266) (ic := 179) (A := AZ z) hx hb hlt hown (by decide) (by decide) (hts (.classLink RX5 175 "java/lang/IllegalArgumentException") (by decide +kernel)) (hts (.initialized "java/lang/IllegalArgumentException") (by decide +kernel)) hsa (vx_hat (B := DW) (fun w h => hts w (List.mem_cons_of_mem _ (List.mem_append_right _ h))) (by decide +kernel) (hcx.dw _)) (by decide +kernel) hcx.2.1.1 hcx.2.1.2 hS (hl.1.trans hml.symm) dX5_needPathBelowRoot_11 dX5_needPathBelowRoot_14 dX5_needPathBelowRoot_15 dX5_needPathBelowRoot_18 dX5_needPathBelowRoot_21 (fun x hx => (hnt x hx).elim) (Nat.le_of_ble_eq_true rfl) (Nat.le_of_ble_eq_true rfl) (Nat.le_of_ble_eq_true rfl) (Nat.le_of_ble_eq_true rfl) hlocks (fun t hvm hz1 hq => ⟨⟨_, ?_, hm.kept hq⟩, ⟨Nat.le_trans hS.1 hz1, fun q h1 h2 => (hq q (Nat.lt_of_lt_of_le h1 hS.1)).trans (hS.2.1 q h1 h2)⟩⟩) hS.2.2 (Nat.le_of_ble_eq_true rfl) (Nat.le_of_ble_eq_true rfl)
        first
          | exact ⟨fun h => h.1 c2, rfl, rfl⟩
          | exact ⟨fun h => hp h.2, rfl, rfl⟩
          | exact absurd c2 (by decide)
    · refine W.eq (g2 := F0 m 8 ls [.int 0]) rfl ?_
      refine W.widen (k := 0) (n := 0) (Nat.le_of_ble_eq_true rfl) (Nat.le_of_ble_eq_true rfl) ?_
      have hm : mm D (AZ z) M H := hm
      refine lv_if_ne (tgt := 22) hx hb dX5_needPathBelowRoot_8 (by decide) (fun c3 => ?_) (fun c3 => ?_)
      · refine W.widen (k := 1) (n := 6) (by omega) (by omega) ?_
        refine vx_ret ?_
        refine W.vret hx hb hr (fun t ht hW => ⟨⟨none, _, rfl, ?_, by rw [ht]; exact hm⟩, hS.F ht⟩) hS.2.2 dX5_needPathBelowRoot_22
        first
          | exact ⟨⟨c1, hp⟩, rfl, rfl⟩
          | exact absurd rfl c3
      · obtain ⟨sa, hsa⟩ := hcx.2.2.1 (266, "not a path below the root") (by decide)
        refine vx_throwSW (own := RX5) (cls := "java/lang/IllegalArgumentException") (text := "not a path below the root") (names := ["java/lang/RuntimeException", "java/lang/Exception"]) (ik := 175) (is := 266) (ic := 179) (A := AZ z) hx hb hlt hown (by decide) (by decide) (hts (.classLink RX5 175 "java/lang/IllegalArgumentException") (by decide +kernel)) (hts (.initialized "java/lang/IllegalArgumentException") (by decide +kernel)) hsa (vx_hat (B := DW) (fun w h => hts w (List.mem_cons_of_mem _ (List.mem_append_right _ h))) (by decide +kernel) (hcx.dw _)) (by decide +kernel) hcx.2.1.1 hcx.2.1.2 hS (hl.1.trans hml.symm) dX5_needPathBelowRoot_11 dX5_needPathBelowRoot_14 dX5_needPathBelowRoot_15 dX5_needPathBelowRoot_18 dX5_needPathBelowRoot_21 (fun x hx => (hnt x hx).elim) (Nat.le_of_ble_eq_true rfl) (Nat.le_of_ble_eq_true rfl) (Nat.le_of_ble_eq_true rfl) (Nat.le_of_ble_eq_true rfl) hlocks (fun t hvm hz1 hq => ⟨⟨_, ?_, hm.kept hq⟩, ⟨Nat.le_trans hS.1 hz1, fun q h1 h2 => (hq q (Nat.lt_of_lt_of_le h1 hS.1)).trans (hS.2.1 q h1 h2)⟩⟩) hS.2.2 (Nat.le_of_ble_eq_true rfl) (Nat.le_of_ble_eq_true rfl)
        first
          | exact ⟨fun h => h.1 c3, rfl, rfl⟩
          | exact ⟨fun h => hp h.2, rfl, rfl⟩
          | exact absurd c3 (by decide)

/-- which transaction a number names -/
def opd (dn : Int32) (xo : Nat → Int32) (t : Int32) (j : Nat) : Prop := j < 6 ∧ t = nI j ∧ dn = 0 ∧ xo j ≠ 0

set_option maxHeartbeats 4000000 in
set_option maxRecDepth 100000 in
theorem c_X5_opened (l : Launch) (hlt : l.stackTraces = false) (D : va_G) (k : Nat → ClassId) (z : Nat) (M : mM) (o tr nx mg dk ts ou : Nat) (nn cm hm9 dn rc : Int32) (hO : M o = some (.inr (5, [.ref tr, .ref nx, .ref mg, .ref dk, .ref ts, .ref ou, .int nn, .int cm, .int hm9, .int dn, .int rc]))) (xa xb xv xm xc xr : Nat → Nat) (xo xk : Nat → Int32) (gt : Nat → Option Nat) (hTs : M ts = some (.inl (k 4, 6, .inr (.inr (.inr (.inr gt)))))) (hG : ∀ j, j < 6 → gt j = some (xa j)) (hXs : ∀ j, j < 6 → M (xa j) = some (.inr (3, [.ref (xb j), .ref (xv j), .ref (xm j), .ref (xc j), .ref (xr j), .int (xo j), .int (xk j)]))) (t : Int32) : mC l yX5_opened wsX5_opened ({ frames := 6, cells := 1, slots := 6, locals := 82 }) D k z [.ref o, .int t] M (fun v M' => ∃ j, opd dn xo t j ∧ v = some (.ref (xa j)) ∧ M' = M) (fun E M' => (∀ j, ¬ opd dn xo t j) ∧ E = "java/lang/IllegalStateException" ∧ M' = M) := by
  refine vx_ofW (cc := cX5_opened) (maxL := 3) (ret := (some (.object "CommitTree$Transaction"))) (by decide) rfl ?_
  intro p e s m args below meth c s₁ B hml hnt hv
  obtain ⟨rfl, hz, hcx, hm⟩ := hv
  have hx := B.exec
  have hb := B.bytes
  have hr := B.returns
  have hts := atoms_spec (ws := wsX5_opened) B.pre
  have hown : s.vm.findClass RX5 = some m.cls := findClass_of_methodNamed B.named
  have hlocks := B.notSynchronized
  have hK := hcx.1
  have hS : va_S (AZ z) s.heap s.heap [] := va_S.rf
  have hA : ∀ q, s.heap.size ≤ q → AZ z q := fun q h => Nat.le_trans hz h
  have hl := lv_entry ([.ref o, .int t]) (n := 3) (Nat.le_of_ble_eq_true rfl)
  rw [lg_entry_eq]
  generalize (lg_sl ([.ref o, .int t]) ++ List.replicate (3 - (lg_sl ([.ref o, .int t])).length) Slot.unset).toArray = ls at hl ⊢
  have hl : lv_has ls 3 [(0, .ref o), (1, .int t)] := hl
  have f45 := hts (.fieldLink RX5 45 "CommitTree" "transactions" "[LCommitTree$Transaction;") (by decide +kernel)
  have f66 := hts (.fieldLink RX5 66 "CommitTree" "down" "Z") (by decide +kernel)
  have f80 := hts (.fieldLink RX5 80 "CommitTree$Transaction" "open" "Z") (by decide +kernel)
  have wX3 : ∀ w ∈ wsX30, w ∈ wsX5_opened := by decide +kernel
  have wX5 : ∀ w ∈ wsX50, w ∈ wsX5_opened := by decide +kernel
  refine lv_iload_n hx hb dX5_opened_0 rfl (lv_at hl 1 rfl) ?_
  refine lv_if_lt (tgt := 22) hx hb dX5_opened_1 (by decide) (fun c1 => ?_) (fun c1 => ?_)
  · refine lv_null hx hb dX5_opened_22 ?_
    refine lv_astore_nN (lv' := [(2, .null), (0, .ref o), (1, .int t)]) hx hb dX5_opened_23 rfl hl (by decide) rfl (fun ls hl => ?_)
    refine lv_aload_n hx hb dX5_opened_24 rfl (lv_at hl 1 rfl) ?_
    refine m_get (T := TX5) (N := 11) (ci := 5) (v := .int dn) hx hb hts wX5 hown hK hm hO rfl 9 (by decide) f66 (fun _ h9 => h9) rfl dX5_opened_25 ?_
    refine lv_if_ne (tgt := 42) hx hb dX5_opened_28 (by decide) (fun c2 => ?_) (fun c2 => ?_)
    · obtain ⟨sa, hsa⟩ := hcx.2.2.1 (259, "all is down, or there is no such transaction") (by decide)
      refine vx_throwSW (own := RX5) (cls := "java/lang/IllegalStateException") (text := "all is down, or there is no such transaction") (names := ["java/lang/RuntimeException", "java/lang/Exception"]) (ik := 73) (is := 259) (ic := 77) (A := AZ z) hx hb hlt hown (by decide) (by decide) (hts (.classLink RX5 73 "java/lang/IllegalStateException") (by decide +kernel)) (hts (.initialized "java/lang/IllegalStateException") (by decide +kernel)) hsa (vx_hat (B := DW) (fun w h => hts w (List.mem_cons_of_mem _ (List.mem_append_right _ h))) (by decide +kernel) (hcx.dw _)) (by decide +kernel) hcx.2.1.1 hcx.2.1.2 hS (hl.1.trans hml.symm) dX5_opened_42 dX5_opened_45 dX5_opened_46 dX5_opened_49 dX5_opened_52 (fun x hx => (hnt x hx).elim) (Nat.le_of_ble_eq_true rfl) (Nat.le_of_ble_eq_true rfl) (Nat.le_of_ble_eq_true rfl) (Nat.le_of_ble_eq_true rfl) hlocks (fun t hvm hz1 hq => ⟨⟨_, ?_, hm.kept hq⟩, ⟨Nat.le_trans hS.1 hz1, fun q h1 h2 => (hq q (Nat.lt_of_lt_of_le h1 hS.1)).trans (hS.2.1 q h1 h2)⟩⟩) hS.2.2 (Nat.le_of_ble_eq_true rfl) (Nat.le_of_ble_eq_true rfl)
      refine ⟨fun j1 h1 => ?_, rfl, rfl⟩
      obtain ⟨e1, e2, e3, e4⟩ := h1
      first
        | exact absurd e3 c2
        | exact absurd c2 (by rw [e2]; exact nI_pos (by omega))
        | exact absurd c1 (by rw [e2]; exact nI_pos (by omega))
        | exact absurd c1 (by rw [e2]; exact fun h => absurd ((nI_leI (by decide) (by omega)).mp h) (by omega))
        | exact absurd c2 (by have := (nI_eq (by omega) (by omega)).mp (htj.symm.trans e2); rw [this]; exact e4)
    · refine lv_aload_nN hx hb dX5_opened_31 rfl (lv_at hl 0 rfl) ?_
      refine lv_ifnullN (tgt := 42) hx hb dX5_opened_32 (by decide) ?_
      obtain ⟨sa, hsa⟩ := hcx.2.2.1 (259, "all is down, or there is no such transaction") (by decide)
      refine vx_throwSW (own := RX5) (cls := "java/lang/IllegalStateException") (text := "all is down, or there is no such transaction") (names := ["java/lang/RuntimeException", "java/lang/Exception"]) (ik := 73) (is := 259) (ic := 77) (A := AZ z) hx hb hlt hown (by decide) (by decide) (hts (.classLink RX5 73 "java/lang/IllegalStateException") (by decide +kernel)) (hts (.initialized "java/lang/IllegalStateException") (by decide +kernel)) hsa (vx_hat (B := DW) (fun w h => hts w (List.mem_cons_of_mem _ (List.mem_append_right _ h))) (by decide +kernel) (hcx.dw _)) (by decide +kernel) hcx.2.1.1 hcx.2.1.2 hS (hl.1.trans hml.symm) dX5_opened_42 dX5_opened_45 dX5_opened_46 dX5_opened_49 dX5_opened_52 (fun x hx => (hnt x hx).elim) (Nat.le_of_ble_eq_true rfl) (Nat.le_of_ble_eq_true rfl) (Nat.le_of_ble_eq_true rfl) (Nat.le_of_ble_eq_true rfl) hlocks (fun t hvm hz1 hq => ⟨⟨_, ?_, hm.kept hq⟩, ⟨Nat.le_trans hS.1 hz1, fun q h1 h2 => (hq q (Nat.lt_of_lt_of_le h1 hS.1)).trans (hS.2.1 q h1 h2)⟩⟩) hS.2.2 (Nat.le_of_ble_eq_true rfl) (Nat.le_of_ble_eq_true rfl)
      refine ⟨fun j1 h1 => ?_, rfl, rfl⟩
      obtain ⟨e1, e2, e3, e4⟩ := h1
      first
        | exact absurd e3 c2
        | exact absurd c2 (by rw [e2]; exact nI_pos (by omega))
        | exact absurd c1 (by rw [e2]; exact nI_pos (by omega))
        | exact absurd c1 (by rw [e2]; exact fun h => absurd ((nI_leI (by decide) (by omega)).mp h) (by omega))
        | exact absurd c2 (by have := (nI_eq (by omega) (by omega)).mp (htj.symm.trans e2); rw [this]; exact e4)
  · refine lv_iload_n hx hb dX5_opened_4 rfl (lv_at hl 1 rfl) ?_
    refine lv_aload_n hx hb dX5_opened_5 rfl (lv_at hl 0 rfl) ?_
    refine m_get (T := TX5) (N := 11) (ci := 5) (v := .ref ts) hx hb hts wX5 hown hK hm hO rfl 4 (by decide) f45 (fun _ h9 => h9) rfl dX5_opened_6 ?_
    refine m_alen hx hb hK hm 4 hTs rfl (v := nI 6) rfl dX5_opened_9 ?_
    refine lv_icmp_ge (tgt := 22) hx hb dX5_opened_10 (by decide) (fun c3 => ?_) (fun c3 => ?_)
    · refine lv_null hx hb dX5_opened_22 ?_
      refine lv_astore_nN (lv' := [(2, .null), (0, .ref o), (1, .int t)]) hx hb dX5_opened_23 rfl hl (by decide) rfl (fun ls hl => ?_)
      refine lv_aload_n hx hb dX5_opened_24 rfl (lv_at hl 1 rfl) ?_
      refine m_get (T := TX5) (N := 11) (ci := 5) (v := .int dn) hx hb hts wX5 hown hK hm hO rfl 9 (by decide) f66 (fun _ h9 => h9) rfl dX5_opened_25 ?_
      refine lv_if_ne (tgt := 42) hx hb dX5_opened_28 (by decide) (fun c4 => ?_) (fun c4 => ?_)
      · obtain ⟨sa, hsa⟩ := hcx.2.2.1 (259, "all is down, or there is no such transaction") (by decide)
        refine vx_throwSW (own := RX5) (cls := "java/lang/IllegalStateException") (text := "all is down, or there is no such transaction") (names := ["java/lang/RuntimeException", "java/lang/Exception"]) (ik := 73) (is := 259) (ic := 77) (A := AZ z) hx hb hlt hown (by decide) (by decide) (hts (.classLink RX5 73 "java/lang/IllegalStateException") (by decide +kernel)) (hts (.initialized "java/lang/IllegalStateException") (by decide +kernel)) hsa (vx_hat (B := DW) (fun w h => hts w (List.mem_cons_of_mem _ (List.mem_append_right _ h))) (by decide +kernel) (hcx.dw _)) (by decide +kernel) hcx.2.1.1 hcx.2.1.2 hS (hl.1.trans hml.symm) dX5_opened_42 dX5_opened_45 dX5_opened_46 dX5_opened_49 dX5_opened_52 (fun x hx => (hnt x hx).elim) (Nat.le_of_ble_eq_true rfl) (Nat.le_of_ble_eq_true rfl) (Nat.le_of_ble_eq_true rfl) (Nat.le_of_ble_eq_true rfl) hlocks (fun t hvm hz1 hq => ⟨⟨_, ?_, hm.kept hq⟩, ⟨Nat.le_trans hS.1 hz1, fun q h1 h2 => (hq q (Nat.lt_of_lt_of_le h1 hS.1)).trans (hS.2.1 q h1 h2)⟩⟩) hS.2.2 (Nat.le_of_ble_eq_true rfl) (Nat.le_of_ble_eq_true rfl)
        refine ⟨fun j1 h1 => ?_, rfl, rfl⟩
        obtain ⟨e1, e2, e3, e4⟩ := h1
        first
          | exact absurd e3 c4
          | exact absurd c4 (by rw [e2]; exact nI_pos (by omega))
          | exact absurd c1 (by rw [e2]; exact nI_pos (by omega))
          | exact absurd c3 (by rw [e2]; exact fun h => absurd ((nI_leI (by decide) (by omega)).mp h) (by omega))
          | exact absurd c4 (by have := (nI_eq (by omega) (by omega)).mp (htj.symm.trans e2); rw [this]; exact e4)
      · refine lv_aload_nN hx hb dX5_opened_31 rfl (lv_at hl 0 rfl) ?_
        refine lv_ifnullN (tgt := 42) hx hb dX5_opened_32 (by decide) ?_
        obtain ⟨sa, hsa⟩ := hcx.2.2.1 (259, "all is down, or there is no such transaction") (by decide)
        refine vx_throwSW (own := RX5) (cls := "java/lang/IllegalStateException") (text := "all is down, or there is no such transaction") (names := ["java/lang/RuntimeException", "java/lang/Exception"]) (ik := 73) (is := 259) (ic := 77) (A := AZ z) hx hb hlt hown (by decide) (by decide) (hts (.classLink RX5 73 "java/lang/IllegalStateException") (by decide +kernel)) (hts (.initialized "java/lang/IllegalStateException") (by decide +kernel)) hsa (vx_hat (B := DW) (fun w h => hts w (List.mem_cons_of_mem _ (List.mem_append_right _ h))) (by decide +kernel) (hcx.dw _)) (by decide +kernel) hcx.2.1.1 hcx.2.1.2 hS (hl.1.trans hml.symm) dX5_opened_42 dX5_opened_45 dX5_opened_46 dX5_opened_49 dX5_opened_52 (fun x hx => (hnt x hx).elim) (Nat.le_of_ble_eq_true rfl) (Nat.le_of_ble_eq_true rfl) (Nat.le_of_ble_eq_true rfl) (Nat.le_of_ble_eq_true rfl) hlocks (fun t hvm hz1 hq => ⟨⟨_, ?_, hm.kept hq⟩, ⟨Nat.le_trans hS.1 hz1, fun q h1 h2 => (hq q (Nat.lt_of_lt_of_le h1 hS.1)).trans (hS.2.1 q h1 h2)⟩⟩) hS.2.2 (Nat.le_of_ble_eq_true rfl) (Nat.le_of_ble_eq_true rfl)
        refine ⟨fun j1 h1 => ?_, rfl, rfl⟩
        obtain ⟨e1, e2, e3, e4⟩ := h1
        first
          | exact absurd e3 c4
          | exact absurd c4 (by rw [e2]; exact nI_pos (by omega))
          | exact absurd c1 (by rw [e2]; exact nI_pos (by omega))
          | exact absurd c3 (by rw [e2]; exact fun h => absurd ((nI_leI (by decide) (by omega)).mp h) (by omega))
          | exact absurd c4 (by have := (nI_eq (by omega) (by omega)).mp (htj.symm.trans e2); rw [this]; exact e4)
    · obtain ⟨j, hj, htj, -⟩ := pk_mu c1 c3 (by decide)
      have hg2 : gt t.toNatClampNeg = some (xa j) := by rw [htj, nI_clamp (by omega)]; exact hG j hj
      have hXj := hXs j hj
      refine lv_aload_n hx hb dX5_opened_13 rfl (lv_at hl 0 rfl) ?_
      refine m_get (T := TX5) (N := 11) (ci := 5) (v := .ref ts) hx hb hts wX5 hown hK hm hO rfl 4 (by decide) f45 (fun _ h9 => h9) rfl dX5_opened_14 ?_
      refine lv_iload_n hx hb dX5_opened_17 rfl (lv_at hl 1 rfl) ?_
      refine m_aald hx hb hK hm 4 hTs rfl (in_of c1 c3 (by decide)) dX5_opened_18 ?_
      refine W.eq (g2 := F0 m 19 ls [.ref (xa j)]) (by rw [hg2]; rfl) ?_
      refine lv_goto (tgt := 23) hx hb dX5_opened_19 (by decide) ?_
      refine lv_astore_n (lv' := [(2, .ref (xa j)), (0, .ref o), (1, .int t)]) hx hb dX5_opened_23 rfl hl (by decide) rfl (fun ls hl => ?_)
      refine lv_aload_n hx hb dX5_opened_24 rfl (lv_at hl 1 rfl) ?_
      refine m_get (T := TX5) (N := 11) (ci := 5) (v := .int dn) hx hb hts wX5 hown hK hm hO rfl 9 (by decide) f66 (fun _ h9 => h9) rfl dX5_opened_25 ?_
      refine lv_if_ne (tgt := 42) hx hb dX5_opened_28 (by decide) (fun c5 => ?_) (fun c5 => ?_)
      · obtain ⟨sa, hsa⟩ := hcx.2.2.1 (259, "all is down, or there is no such transaction") (by decide)
        refine vx_throwSW (own := RX5) (cls := "java/lang/IllegalStateException") (text := "all is down, or there is no such transaction") (names := ["java/lang/RuntimeException", "java/lang/Exception"]) (ik := 73) (is := 259) (ic := 77) (A := AZ z) hx hb hlt hown (by decide) (by decide) (hts (.classLink RX5 73 "java/lang/IllegalStateException") (by decide +kernel)) (hts (.initialized "java/lang/IllegalStateException") (by decide +kernel)) hsa (vx_hat (B := DW) (fun w h => hts w (List.mem_cons_of_mem _ (List.mem_append_right _ h))) (by decide +kernel) (hcx.dw _)) (by decide +kernel) hcx.2.1.1 hcx.2.1.2 hS (hl.1.trans hml.symm) dX5_opened_42 dX5_opened_45 dX5_opened_46 dX5_opened_49 dX5_opened_52 (fun x hx => (hnt x hx).elim) (Nat.le_of_ble_eq_true rfl) (Nat.le_of_ble_eq_true rfl) (Nat.le_of_ble_eq_true rfl) (Nat.le_of_ble_eq_true rfl) hlocks (fun t hvm hz1 hq => ⟨⟨_, ?_, hm.kept hq⟩, ⟨Nat.le_trans hS.1 hz1, fun q h1 h2 => (hq q (Nat.lt_of_lt_of_le h1 hS.1)).trans (hS.2.1 q h1 h2)⟩⟩) hS.2.2 (Nat.le_of_ble_eq_true rfl) (Nat.le_of_ble_eq_true rfl)
        refine ⟨fun j1 h1 => ?_, rfl, rfl⟩
        obtain ⟨e1, e2, e3, e4⟩ := h1
        first
          | exact absurd e3 c5
          | exact absurd c5 (by rw [e2]; exact nI_pos (by omega))
          | exact absurd c1 (by rw [e2]; exact nI_pos (by omega))
          | exact absurd c3 (by rw [e2]; exact fun h => absurd ((nI_leI (by decide) (by omega)).mp h) (by omega))
          | exact absurd c5 (by have := (nI_eq (by omega) (by omega)).mp (htj.symm.trans e2); rw [this]; exact e4)
      · refine lv_aload_n hx hb dX5_opened_31 rfl (lv_at hl 0 rfl) ?_
        refine lv_ifnull hx hb dX5_opened_32 ?_
        refine lv_aload_n hx hb dX5_opened_35 rfl (lv_at hl 0 rfl) ?_
        refine m_get (T := TX3) (N := 7) (ci := 3) (v := .int (xo j)) hx hb hts wX3 hown hK hm hXj rfl 5 (by decide) f80 (fun _ h9 => h9) rfl dX5_opened_36 ?_
        refine lv_if_ne (tgt := 53) hx hb dX5_opened_39 (by decide) (fun c6 => ?_) (fun c6 => ?_)
        · refine lv_aload_n hx hb dX5_opened_53 rfl (lv_at hl 0 rfl) ?_
          refine W.widen (k := 1) (n := 6) (by omega) (by omega) ?_
          refine vx_ret ?_
          refine W.aret (v := .ref (xa j)) hx hb hr (Or.inl ⟨_, rfl⟩) (Or.inr ⟨_, rfl⟩) (fun t ht hW => ⟨⟨some (.ref (xa j)), _, rfl, ?_, by rw [ht]; exact hm⟩, hS.F ht⟩) hS.2.2 dX5_opened_54
          exact ⟨j, ⟨hj, htj, c5, c6⟩, rfl, rfl⟩
        · obtain ⟨sa, hsa⟩ := hcx.2.2.1 (259, "all is down, or there is no such transaction") (by decide)
          refine vx_throwSW (own := RX5) (cls := "java/lang/IllegalStateException") (text := "all is down, or there is no such transaction") (names := ["java/lang/RuntimeException", "java/lang/Exception"]) (ik := 73) (is := 259) (ic := 77) (A := AZ z) hx hb hlt hown (by decide) (by decide) (hts (.classLink RX5 73 "java/lang/IllegalStateException") (by decide +kernel)) (hts (.initialized "java/lang/IllegalStateException") (by decide +kernel)) hsa (vx_hat (B := DW) (fun w h => hts w (List.mem_cons_of_mem _ (List.mem_append_right _ h))) (by decide +kernel) (hcx.dw _)) (by decide +kernel) hcx.2.1.1 hcx.2.1.2 hS (hl.1.trans hml.symm) dX5_opened_42 dX5_opened_45 dX5_opened_46 dX5_opened_49 dX5_opened_52 (fun x hx => (hnt x hx).elim) (Nat.le_of_ble_eq_true rfl) (Nat.le_of_ble_eq_true rfl) (Nat.le_of_ble_eq_true rfl) (Nat.le_of_ble_eq_true rfl) hlocks (fun t hvm hz1 hq => ⟨⟨_, ?_, hm.kept hq⟩, ⟨Nat.le_trans hS.1 hz1, fun q h1 h2 => (hq q (Nat.lt_of_lt_of_le h1 hS.1)).trans (hS.2.1 q h1 h2)⟩⟩) hS.2.2 (Nat.le_of_ble_eq_true rfl) (Nat.le_of_ble_eq_true rfl)
          refine ⟨fun j1 h1 => ?_, rfl, rfl⟩
          obtain ⟨e1, e2, e3, e4⟩ := h1
          first
            | exact absurd e3 c6
            | exact absurd c6 (by rw [e2]; exact nI_pos (by omega))
            | exact absurd c1 (by rw [e2]; exact nI_pos (by omega))
            | exact absurd c5 (by rw [e2]; exact fun h => absurd ((nI_leI (by decide) (by omega)).mp h) (by omega))
            | exact absurd c6 (by have := (nI_eq (by omega) (by omega)).mp (htj.symm.trans e2); rw [this]; exact e4)
