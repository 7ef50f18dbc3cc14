/-- a path: what is left of it at a digit; that digit isn't 0 where something is left -/
def dgt (path : Int32) (n : Nat) : Int32 := path >>> (nI (4 * n) &&& 31)
def dOk (path : Int32) (n : Nat) : Prop := dgt path n = 0 ∨ dgt path n &&& 15 ≠ 0
def isP (path : Int32) : Prop := ¬ path < 0 ∧ path ≤ 268435455 ∧ ∀ n, n < 7 → dOk path n

set_option maxHeartbeats 4000000 in
set_option maxRecDepth 100000 in
theorem c_X5_isPath (l : Launch) (D : va_G) (k : Nat → ClassId) (z : Nat) (M : mM) (path : Int32) : mK l yX5_isPath wsX5_isPath ({ frames := 0, cells := 0, slots := 0, locals := 0 }) D k z [.int path] M (fun v M' => ((isP path ∧ v = some (.int 1)) ∨ (¬ isP path ∧ v = some (.int 0))) ∧ M' = M) := by
  refine Met.ofW (cc := cX5_isPath) (maxL := 3) (ret := (some .boolean)) (by decide) rfl ?_
  intro p e s m args below meth c s₁ B hml hv
  obtain ⟨rfl, hz, hcx, hm⟩ := hv
  have hx := B.exec
  have hb := B.bytes
  have hr := B.returns
  have hts := atoms_spec (ws := wsX5_isPath) B.pre
  have hown : s.vm.findClass RX5 = some m.cls := findClass_of_methodNamed B.named
  have hlocks := B.notSynchronized
  have hK := hcx.1
  have hS : va_S (AZ z) s.heap s.heap [] := va_S.rf
  have hA : ∀ q, s.heap.size ≤ q → AZ z q := fun q h => Nat.le_trans hz h
  have hl := lv_entry ([.int path]) (n := 3) (Nat.le_of_ble_eq_true rfl)
  rw [lg_entry_eq]
  generalize (lg_sl ([.int path]) ++ List.replicate (3 - (lg_sl ([.int path])).length) Slot.unset).toArray = ls at hl ⊢
  have hl : lv_has ls 3 [(0, .int path)] := hl
  refine lv_iload_n hx hb dX5_isPath_0 rfl (lv_at hl 0 rfl) ?_
  refine lv_if_lt (tgt := 11) hx hb dX5_isPath_1 (by decide) (fun c1 => ?_) (fun c1 => ?_)
  · refine lv_iconst (v := 0) hx hb dX5_isPath_11 (by decide) ?_
    refine W.zret hx hb hr rfl (fun t ht hW => ⟨⟨some (.int 0), _, rfl, ?_, by rw [ht]; exact hm⟩, hS.F ht⟩) hS.2.2 dX5_isPath_12
    first
      | exact ⟨Or.inr ⟨fun h => h.1 c1, rfl⟩, rfl⟩
      | exact ⟨Or.inr ⟨fun h => c1 h.2.1, rfl⟩, rfl⟩
  · refine lv_iload_n hx hb dX5_isPath_4 rfl (lv_at hl 0 rfl) ?_
    refine lv_ldcw hx hb hown (hts (.constant RX5 268 (268435455)) (by decide +kernel)) dX5_isPath_5 ?_
    refine lv_icmp_le (tgt := 13) hx hb dX5_isPath_8 (by decide) (fun c2 => ?_) (fun c2 => ?_)
    · refine lv_iconst (v := 0) hx hb dX5_isPath_13 (by decide) ?_
      refine lv_istore_n (lv' := [(1, .int 0), (0, .int path)]) hx hb dX5_isPath_14 rfl hl (by decide) rfl (fun ls hl => ?_)
      refine W_loop (σ := Nat) (fun i H locs ls => (i ≤ 7) ∧ (∀ n, n < i → dOk path n) ∧ mm D (AZ z) M H ∧ va_S (AZ z) s.heap H locs ∧ lv_has ls 3 [(1, .int (nI (4 * i))), (0, .int path)]) (fun i => 7 - i) (fun i => 0) (fun i => 0) ?_ 0 _ _ _ ⟨Nat.zero_le _, fun n h => absurd h (Nat.not_lt_zero _), hm, hS, lv_sub hl [0, 1] rfl⟩
      intro i H locs ls hI ih15
      obtain ⟨hi, hok, hm, hS, hl⟩ := hI
      try dsimp only at hm hl ih15 ⊢
      refine lv_iload_n hx hb dX5_isPath_15 rfl (lv_at hl 0 rfl) ?_
      refine lv_bipush (v := 24) hx hb dX5_isPath_16 (by decide) ?_
      refine lv_icmp_gt (tgt := 44) hx hb dX5_isPath_18 (by decide) (fun c3 => ?_) (fun c3 => ?_)
      · refine lv_iconst (v := 1) hx hb dX5_isPath_44 (by decide) ?_
        refine W.zret hx hb hr rfl (fun t ht hW => ⟨⟨some (.int 1), _, rfl, ?_, by rw [ht]; exact hm⟩, hS.F ht⟩) hS.2.2 dX5_isPath_45
        have he : i = 7 := by
          rcases Nat.lt_or_ge i 7 with q | q
          · exact absurd c3 (nI_nlt (show 4 * i ≤ 24 by omega) (by decide))
          · omega
        subst he
        exact ⟨Or.inl ⟨⟨c1, c2, hok⟩, rfl⟩, rfl⟩
      · have hi7 : i < 7 := Nat.lt_of_not_le fun q => c3 (nI_lt (show 24 < 4 * i by omega) (by omega))
        refine lv_iload_n hx hb dX5_isPath_21 rfl (lv_at hl 1 rfl) ?_
        refine lv_iload_n hx hb dX5_isPath_22 rfl (lv_at hl 0 rfl) ?_
        refine lv_ishr hx hb dX5_isPath_23 ?_
        refine lv_istore_n (lv' := [(2, .int (path >>> ((nI (4 * i)) &&& 31))), (1, .int (nI (4 * i))), (0, .int path)]) hx hb dX5_isPath_24 rfl hl (by decide) rfl (fun ls hl => ?_)
        refine lv_iload_n hx hb dX5_isPath_25 rfl (lv_at hl 0 rfl) ?_
        refine lv_if_eq (tgt := 38) hx hb dX5_isPath_26 (by decide) (fun c4 => ?_) (fun c4 => ?_)
        · refine lv_iinc (v := ((nI (4 * i)) + 4)) (lv' := [(1, .int ((nI (4 * i)) + 4)), (2, .int (path >>> ((nI (4 * i)) &&& 31))), (0, .int path)]) hx hb dX5_isPath_38 hl (k := 1) rfl rfl (by decide) rfl (fun ls hl => ?_)
          refine lv_goto (tgt := 15) hx hb dX5_isPath_41 (by decide) ?_
          rw [show nI (4 * i) + 4 = nI (4 * (i + 1)) from nI_add (4 * i) 4] at hl
          exact ih15 (i + 1) _ _ _ ⟨by omega, fun n hn => by
                rcases Nat.lt_succ_iff_lt_or_eq.mp hn with h | rfl
                · exact hok n h
                · first | exact Or.inl c4 | exact Or.inr c4, hm, hS, lv_sub hl [0, 2] rfl⟩ (by omega)
        · refine lv_iload_n hx hb dX5_isPath_29 rfl (lv_at hl 0 rfl) ?_
          refine lv_bipush (v := 15) hx hb dX5_isPath_30 (by decide) ?_
          refine lv_iand hx hb dX5_isPath_32 ?_
          refine lv_if_ne (tgt := 38) hx hb dX5_isPath_33 (by decide) (fun c5 => ?_) (fun c5 => ?_)
          · refine lv_iinc (v := ((nI (4 * i)) + 4)) (lv' := [(1, .int ((nI (4 * i)) + 4)), (2, .int (path >>> ((nI (4 * i)) &&& 31))), (0, .int path)]) hx hb dX5_isPath_38 hl (k := 1) rfl rfl (by decide) rfl (fun ls hl => ?_)
            refine lv_goto (tgt := 15) hx hb dX5_isPath_41 (by decide) ?_
            rw [show nI (4 * i) + 4 = nI (4 * (i + 1)) from nI_add (4 * i) 4] at hl
            exact ih15 (i + 1) _ _ _ ⟨by omega, fun n hn => by
                rcases Nat.lt_succ_iff_lt_or_eq.mp hn with h | rfl
                · exact hok n h
                · first | exact Or.inl c5 | exact Or.inr c5, hm, hS, lv_sub hl [0, 2] rfl⟩ (by omega)
          · refine lv_iconst (v := 0) hx hb dX5_isPath_36 (by decide) ?_
            refine W.zret hx hb hr rfl (fun t ht hW => ⟨⟨some (.int 0), _, rfl, ?_, by rw [ht]; exact hm⟩, hS.F ht⟩) hS.2.2 dX5_isPath_37
            exact ⟨Or.inr ⟨fun h => (h.2.2 i hi7).elim (fun q => c4 q) (fun q => q c5), rfl⟩, rfl⟩
    · refine lv_iconst (v := 0) hx hb dX5_isPath_11 (by decide) ?_
      refine W.zret hx hb hr rfl (fun t ht hW => ⟨⟨some (.int 0), _, rfl, ?_, by rw [ht]; exact hm⟩, hS.F ht⟩) hS.2.2 dX5_isPath_12
      first
        | exact ⟨Or.inr ⟨fun h => h.1 c2, rfl⟩, rfl⟩
        | exact ⟨Or.inr ⟨fun h => c2 h.2.1, rfl⟩, rfl⟩

set_option maxHeartbeats 4000000 in
set_option maxRecDepth 100000 in
theorem c_X5_needPath (l : Launch) (hlt : l.stackTraces = false) (D : va_G) (k : Nat → ClassId) (z : Nat) (M : mM) (path : Int32) : mC l yX5_needPath wsX5_needPath ({ frames := 6, cells := 1, slots := 6, locals := 82 }) D k z [.int path] M (fun v M' => isP path ∧ v = none ∧ M' = M) (fun E M' => ¬ isP path ∧ E = "java/lang/IllegalArgumentException" ∧ M' = M) := by
  refine vx_ofW (cc := cX5_needPath) (maxL := 1) (ret := none) (by decide) rfl ?_
  intro p e s m args below meth c s₁ B hml hnt hv
  obtain ⟨rfl, hz, hcx, hm⟩ := hv
  have hx := B.exec
  have hb := B.bytes
  have hr := B.returns
  have hts := atoms_spec (ws := wsX5_needPath) B.pre
  have hown : s.vm.findClass RX5 = some m.cls := findClass_of_methodNamed B.named
  have hlocks := B.notSynchronized
  have hK := hcx.1
  have hS : va_S (AZ z) s.heap s.heap [] := va_S.rf
  have hA : ∀ q, s.heap.size ≤ q → AZ z q := fun q h => Nat.le_trans hz h
  have hl := lv_entry ([.int path]) (n := 1) (Nat.le_of_ble_eq_true rfl)
  rw [lg_entry_eq]
  generalize (lg_sl ([.int path]) ++ List.replicate (1 - (lg_sl ([.int path])).length) Slot.unset).toArray = ls at hl ⊢
  have hl : lv_has ls 1 [(0, .int path)] := hl
  refine lv_iload_n hx hb dX5_needPath_0 rfl (lv_at hl 0 rfl) ?_
  refine m_kS (As := [.int path]) (rest := []) (rm := { frames := 0, cells := 0, slots := 0, locals := 0 }) ⟨hx, hb, hml, hown, hts⟩ (c_X5_isPath l D k z _ path) (cwS 1 hts gX5_needPath_X5_isPath rfl rfl rfl (by decide +kernel) ⟨Nat.le_of_ble_eq_true rfl, Nat.le_of_ble_eq_true rfl⟩) hz hcx hm hS rfl hl.1 rfl (Nat.le_of_ble_eq_true rfl) dX5_needPath_1 ⟨Nat.le_of_ble_eq_true rfl, Nat.le_of_ble_eq_true rfl⟩ (fun v M1 H locs hv hm hS => ?_)
  obtain ⟨hv1, hM1⟩ := hv
  rw [hM1] at hm
  rcases hv1 with ⟨hp, rfl⟩ | ⟨hp, rfl⟩
  · refine W.eq (g2 := F0 m 4 ls [.int 1]) rfl ?_
    refine W.widen (k := 0) (n := 0) (Nat.le_of_ble_eq_true rfl) (Nat.le_of_ble_eq_true rfl) ?_
    have hm : mm D (AZ z) M H := hm
    refine lv_if_ne (tgt := 18) hx hb dX5_needPath_4 (by decide) (fun c1 => ?_) (fun c1 => ?_)
    · refine W.widen (k := 1) (n := 6) (by omega) (by omega) ?_
      refine vx_ret ?_
      refine W.vret hx hb hr (fun t ht hW => ⟨⟨none, _, rfl, ?_, by rw [ht]; exact hm⟩, hS.F ht⟩) hS.2.2 dX5_needPath_18
      first
        | exact ⟨hp, rfl, rfl⟩
        | exact absurd rfl c1
    · obtain ⟨sa, hsa⟩ := hcx.2.2.1 (264, "not a path") (by decide)
      refine vx_throwSW (own := RX5) (cls := "java/lang/IllegalArgumentException") (text := "not a path") (names := ["java/lang/RuntimeException", "java/lang/Exception"]) (ik := 175) (is := 264) (ic := 179) (A := AZ z) hx hb hlt hown (by decide) (by decide) (hts (.classLink RX5 175 "java/lang/IllegalArgumentException") (by decide +kernel)) (hts (.initialized "java/lang/IllegalArgumentException") (by decide +kernel)) hsa (vx_hat (B := DW) (fun w h => hts w (List.mem_cons_of_mem _ (List.mem_append_right _ h))) (by decide +kernel) (hcx.dw _)) (by decide +kernel) hcx.2.1.1 hcx.2.1.2 hS (hl.1.trans hml.symm) dX5_needPath_7 dX5_needPath_10 dX5_needPath_11 dX5_needPath_14 dX5_needPath_17 (fun x hx => (hnt x hx).elim) (Nat.le_of_ble_eq_true rfl) (Nat.le_of_ble_eq_true rfl) (Nat.le_of_ble_eq_true rfl) (Nat.le_of_ble_eq_true rfl) hlocks (fun t hvm hz1 hq => ⟨⟨_, ?_, hm.kept hq⟩, ⟨Nat.le_trans hS.1 hz1, fun q h1 h2 => (hq q (Nat.lt_of_lt_of_le h1 hS.1)).trans (hS.2.1 q h1 h2)⟩⟩) hS.2.2 (Nat.le_of_ble_eq_true rfl) (Nat.le_of_ble_eq_true rfl)
      first
        | exact ⟨hp, rfl, rfl⟩
        | exact absurd c1 (by decide)
  · refine W.eq (g2 := F0 m 4 ls [.int 0]) rfl ?_
    refine W.widen (k := 0) (n := 0) (Nat.le_of_ble_eq_true rfl) (Nat.le_of_ble_eq_true rfl) ?_
    have hm : mm D (AZ z) M H := hm
    refine lv_if_ne (tgt := 18) hx hb dX5_needPath_4 (by decide) (fun c2 => ?_) (fun c2 => ?_)
    · refine W.widen (k := 1) (n := 6) (by omega) (by omega) ?_
      refine vx_ret ?_
      refine W.vret hx hb hr (fun t ht hW => ⟨⟨none, _, rfl, ?_, by rw [ht]; exact hm⟩, hS.F ht⟩) hS.2.2 dX5_needPath_18
      first
        | exact ⟨hp, rfl, rfl⟩
        | exact absurd rfl c2
    · obtain ⟨sa, hsa⟩ := hcx.2.2.1 (264, "not a path") (by decide)
      refine vx_throwSW (own := RX5) (cls := "java/lang/IllegalArgumentException") (text := "not a path") (names := ["java/lang/RuntimeException", "java/lang/Exception"]) (ik := 175) (is := 264) (ic := 179) (A := AZ z) hx hb hlt hown (by decide) (by decide) (hts (.classLink RX5 175 "java/lang/IllegalArgumentException") (by decide +kernel)) (hts (.initialized "java/lang/IllegalArgumentException") (by decide +kernel)) hsa (vx_hat (B := DW) (fun w h => hts w (List.mem_cons_of_mem _ (List.mem_append_right _ h))) (by decide +kernel) (hcx.dw _)) (by decide +kernel) hcx.2.1.1 hcx.2.1.2 hS (hl.1.trans hml.symm) dX5_needPath_7 dX5_needPath_10 dX5_needPath_11 dX5_needPath_14 dX5_needPath_17 (fun x hx => (hnt x hx).elim) (Nat.le_of_ble_eq_true rfl) (Nat.le_of_ble_eq_true rfl) (Nat.le_of_ble_eq_true rfl) (Nat.le_of_ble_eq_true rfl) hlocks (fun t hvm hz1 hq => ⟨⟨_, ?_, hm.kept hq⟩, ⟨Nat.le_trans hS.1 hz1, fun q h1 h2 => (hq q (Nat.lt_of_lt_of_le h1 hS.1)).trans (hS.2.1 q h1 h2)⟩⟩) hS.2.2 (Nat.le_of_ble_eq_true rfl) (Nat.le_of_ble_eq_true rfl)
      first
        | exact ⟨hp, rfl, rfl⟩
        | exact absurd c2 (by decide)
