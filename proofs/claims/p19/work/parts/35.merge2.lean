/-- Merge.isTooMuch -/
def tooMuchV (it nd bl : Int32) : Int32 := if 40 < nd then 1 else if 90 < bl then 1 else if it ≤ 124 then 0 else 1

set_option maxHeartbeats 4000000 in
set_option maxRecDepth 100000 in
theorem c_X1_isTooMuch (l : Launch) (D : va_G) (k : Nat → ClassId) (z : Nat) (M : mM) (g9 nD nF : Nat) (it nd bl ho : Int32) (hG : M g9 = some (.inr (1, [.int it, .int nd, .int bl, .int ho, .ref nD, .ref nF]))) : mK l yX1_isTooMuch wsX1_isTooMuch ({ frames := 0, cells := 0, slots := 0, locals := 0 }) D k z [.ref g9] M (fun v M' => v = some (.int (tooMuchV it nd bl)) ∧ M' = M) := by
  refine Met.ofW (cc := cX1_isTooMuch) (maxL := 1) (ret := (some .boolean)) (by decide) rfl ?_
  intro p e s m args below meth c s₁ B hml hv
  obtain ⟨rfl, hz, hcx, hm⟩ := hv
  have hx := B.exec
  have hb := B.bytes
  have hr := B.returns
  have hts := atoms_spec (ws := wsX1_isTooMuch) B.pre
  have hown : s.vm.findClass RX1 = some m.cls := findClass_of_methodNamed B.named
  have hlocks := B.notSynchronized
  have hK := hcx.1
  have hS : va_S (AZ z) s.heap s.heap [] := va_S.rf
  have hA : ∀ q, s.heap.size ≤ q → AZ z q := fun q h => Nat.le_trans hz h
  have hl := lv_entry ([.ref g9]) (n := 1) (Nat.le_of_ble_eq_true rfl)
  rw [lg_entry_eq]
  generalize (lg_sl ([.ref g9]) ++ List.replicate (1 - (lg_sl ([.ref g9])).length) Slot.unset).toArray = ls at hl ⊢
  have hl : lv_has ls 1 [(0, .ref g9)] := hl
  have f9 := hts (.fieldLink RX1 9 "CommitTree$Merge" "items" "I") (by decide +kernel)
  have f15 := hts (.fieldLink RX1 15 "CommitTree$Merge" "nodes" "I") (by decide +kernel)
  have f18 := hts (.fieldLink RX1 18 "CommitTree$Merge" "blocks" "I") (by decide +kernel)
  have wX1 : ∀ w ∈ wsX10, w ∈ wsX1_isTooMuch := by decide +kernel
  refine lv_aload_n hx hb dX1_isTooMuch_0 rfl (lv_at hl 0 rfl) ?_
  refine m_get (T := TX1) (N := 6) (ci := 1) (v := .int nd) hx hb hts wX1 hown hK hm hG rfl 1 (by decide) f15 (fun _ h9 => h9) rfl dX1_isTooMuch_1 ?_
  refine lv_bipush (v := 40) hx hb dX1_isTooMuch_4 (by decide) ?_
  refine lv_icmp_gt (tgt := 27) hx hb dX1_isTooMuch_6 (by decide) (fun c1 => ?_) (fun c1 => ?_)
  · refine lv_iconst (v := 1) hx hb dX1_isTooMuch_27 (by decide) ?_
    refine lv_goto (tgt := 32) hx hb dX1_isTooMuch_28 (by decide) ?_
    refine W.zret hx hb hr rfl (fun t ht hW => ⟨⟨some (.int 1), _, rfl, ?_, by rw [ht]; exact hm⟩, hS.F ht⟩) hS.2.2 dX1_isTooMuch_32
    exact ⟨by simp [tooMuchV, c1], rfl⟩
  · refine lv_aload_n hx hb dX1_isTooMuch_9 rfl (lv_at hl 0 rfl) ?_
    refine m_get (T := TX1) (N := 6) (ci := 1) (v := .int bl) hx hb hts wX1 hown hK hm hG rfl 2 (by decide) f18 (fun _ h9 => h9) rfl dX1_isTooMuch_10 ?_
    refine lv_bipush (v := 90) hx hb dX1_isTooMuch_13 (by decide) ?_
    refine lv_icmp_gt (tgt := 27) hx hb dX1_isTooMuch_15 (by decide) (fun c2 => ?_) (fun c2 => ?_)
    · refine lv_iconst (v := 1) hx hb dX1_isTooMuch_27 (by decide) ?_
      refine lv_goto (tgt := 32) hx hb dX1_isTooMuch_28 (by decide) ?_
      refine W.zret hx hb hr rfl (fun t ht hW => ⟨⟨some (.int 1), _, rfl, ?_, by rw [ht]; exact hm⟩, hS.F ht⟩) hS.2.2 dX1_isTooMuch_32
      exact ⟨by simp [tooMuchV, c1, c2], rfl⟩
    · refine lv_aload_n hx hb dX1_isTooMuch_18 rfl (lv_at hl 0 rfl) ?_
      refine m_get (T := TX1) (N := 6) (ci := 1) (v := .int it) hx hb hts wX1 hown hK hm hG rfl 0 (by decide) f9 (fun _ h9 => h9) rfl dX1_isTooMuch_19 ?_
      refine lv_bipush (v := 124) hx hb dX1_isTooMuch_22 (by decide) ?_
      refine lv_icmp_le (tgt := 31) hx hb dX1_isTooMuch_24 (by decide) (fun c3 => ?_) (fun c3 => ?_)
      · refine lv_iconst (v := 0) hx hb dX1_isTooMuch_31 (by decide) ?_
        refine W.zret hx hb hr rfl (fun t ht hW => ⟨⟨some (.int 0), _, rfl, ?_, by rw [ht]; exact hm⟩, hS.F ht⟩) hS.2.2 dX1_isTooMuch_32
        exact ⟨by simp [tooMuchV, c1, c2, c3], rfl⟩
      · refine lv_iconst (v := 1) hx hb dX1_isTooMuch_27 (by decide) ?_
        refine lv_goto (tgt := 32) hx hb dX1_isTooMuch_28 (by decide) ?_
        refine W.zret hx hb hr rfl (fun t ht hW => ⟨⟨some (.int 1), _, rfl, ?_, by rw [ht]; exact hm⟩, hS.F ht⟩) hS.2.2 dX1_isTooMuch_32
        exact ⟨by simp [tooMuchV, c1, c2, c3], rfl⟩

set_option maxHeartbeats 4000000 in
set_option maxRecDepth 100000 in
theorem c_X5_needWord (l : Launch) (hlt : l.stackTraces = false) (D : va_G) (k : Nat → ClassId) (z : Nat) (M : mM) (nd : Nat) (w : NV) (i : Int32) (hN : nodeAt k M nd w) : mC l yX5_needWord wsX5_needWord ({ frames := 6, cells := 1, slots := 6, locals := 82 }) D k z [.ref nd, .int i] M (fun v M' => ¬ i < 0 ∧ i < w.2.2.1 ∧ v = none ∧ M' = M) (fun E M' => (i < 0 ∨ ¬ i < w.2.2.1) ∧ E = "java/lang/IndexOutOfBoundsException" ∧ M' = M) := by
  refine vx_ofW (cc := cX5_needWord) (maxL := 2) (ret := none) (by decide) rfl ?_
  intro p e s m args below meth c s₁ B hml hnt hv
  obtain ⟨rfl, hz, hcx, hm⟩ := hv
  have hx := B.exec
  have hb := B.bytes
  have hr := B.returns
  have hts := atoms_spec (ws := wsX5_needWord) B.pre
  have hown : s.vm.findClass RX5 = some m.cls := findClass_of_methodNamed B.named
  have hlocks := B.notSynchronized
  have hK := hcx.1
  have hS : va_S (AZ z) s.heap s.heap [] := va_S.rf
  have hA : ∀ q, s.heap.size ≤ q → AZ z q := fun q h => Nat.le_trans hz h
  have hl := lv_entry ([.ref nd, .int i]) (n := 2) (Nat.le_of_ble_eq_true rfl)
  rw [lg_entry_eq]
  generalize (lg_sl ([.ref nd, .int i]) ++ List.replicate (2 - (lg_sl ([.ref nd, .int i])).length) Slot.unset).toArray = ls at hl ⊢
  have hl : lv_has ls 2 [(0, .ref nd), (1, .int i)] := hl
  have f189 := hts (.fieldLink RX5 189 "CommitTree$Node" "size" "I") (by decide +kernel)
  have wX2 : ∀ w ∈ wsX20, w ∈ wsX5_needWord := by decide +kernel
  obtain ⟨hdw, cw, hnw, hcw⟩ := And.intro hN.1 hN.2
  refine lv_iload_n hx hb dX5_needWord_0 rfl (lv_at hl 1 rfl) ?_
  refine lv_if_lt (tgt := 12) hx hb dX5_needWord_1 (by decide) (fun c1 => ?_) (fun c1 => ?_)
  · obtain ⟨sa, hsa⟩ := hcx.2.2.1 (280, "the file has no such word") (by decide)
    refine vx_throwSW (own := RX5) (cls := "java/lang/IndexOutOfBoundsException") (text := "the file has no such word") (names := ["java/lang/RuntimeException", "java/lang/Exception"]) (ik := 198) (is := 280) (ic := 202) (A := AZ z) hx hb hlt hown (by decide) (by decide) (hts (.classLink RX5 198 "java/lang/IndexOutOfBoundsException") (by decide +kernel)) (hts (.initialized "java/lang/IndexOutOfBoundsException") (by decide +kernel)) hsa (vx_hat (B := DW) (fun w h => hts w (List.mem_cons_of_mem _ (List.mem_append_right _ h))) (by decide +kernel) (hcx.dw _)) (by decide +kernel) hcx.2.1.1 hcx.2.1.2 hS (hl.1.trans hml.symm) dX5_needWord_12 dX5_needWord_15 dX5_needWord_16 dX5_needWord_19 dX5_needWord_22 (fun x hx => (hnt x hx).elim) (Nat.le_of_ble_eq_true rfl) (Nat.le_of_ble_eq_true rfl) (Nat.le_of_ble_eq_true rfl) (Nat.le_of_ble_eq_true rfl) hlocks (fun t hvm hz1 hq => ⟨⟨_, ?_, hm.kept hq⟩, ⟨Nat.le_trans hS.1 hz1, fun q h1 h2 => (hq q (Nat.lt_of_lt_of_le h1 hS.1)).trans (hS.2.1 q h1 h2)⟩⟩) hS.2.2 (Nat.le_of_ble_eq_true rfl) (Nat.le_of_ble_eq_true rfl)
    first
      | exact ⟨Or.inl c1, rfl, rfl⟩
      | exact ⟨Or.inr c1, rfl, rfl⟩
  · refine lv_iload_n hx hb dX5_needWord_4 rfl (lv_at hl 1 rfl) ?_
    refine lv_aload_n hx hb dX5_needWord_5 rfl (lv_at hl 0 rfl) ?_
    refine m_get (T := TX2) (N := 4) (ci := 2) (v := .int w.2.2.1) hx hb hts wX2 hown hK hm hnw rfl 2 (by decide) f189 (fun _ h9 => h9) rfl dX5_needWord_6 ?_
    refine lv_icmp_lt (tgt := 23) hx hb dX5_needWord_9 (by decide) (fun c2 => ?_) (fun c2 => ?_)
    · refine W.widen (k := 1) (n := 6) (by omega) (by omega) ?_
      refine vx_ret ?_
      refine W.vret hx hb hr (fun t ht hW => ⟨⟨none, _, rfl, ?_, by rw [ht]; exact hm⟩, hS.F ht⟩) hS.2.2 dX5_needWord_23
      exact ⟨c1, c2, rfl, rfl⟩
    · obtain ⟨sa, hsa⟩ := hcx.2.2.1 (280, "the file has no such word") (by decide)
      refine vx_throwSW (own := RX5) (cls := "java/lang/IndexOutOfBoundsException") (text := "the file has no such word") (names := ["java/lang/RuntimeException", "java/lang/Exception"]) (ik := 198) (is := 280) (ic := 202) (A := AZ z) hx hb hlt hown (by decide) (by decide) (hts (.classLink RX5 198 "java/lang/IndexOutOfBoundsException") (by decide +kernel)) (hts (.initialized "java/lang/IndexOutOfBoundsException") (by decide +kernel)) hsa (vx_hat (B := DW) (fun w h => hts w (List.mem_cons_of_mem _ (List.mem_append_right _ h))) (by decide +kernel) (hcx.dw _)) (by decide +kernel) hcx.2.1.1 hcx.2.1.2 hS (hl.1.trans hml.symm) dX5_needWord_12 dX5_needWord_15 dX5_needWord_16 dX5_needWord_19 dX5_needWord_22 (fun x hx => (hnt x hx).elim) (Nat.le_of_ble_eq_true rfl) (Nat.le_of_ble_eq_true rfl) (Nat.le_of_ble_eq_true rfl) (Nat.le_of_ble_eq_true rfl) hlocks (fun t hvm hz1 hq => ⟨⟨_, ?_, hm.kept hq⟩, ⟨Nat.le_trans hS.1 hz1, fun q h1 h2 => (hq q (Nat.lt_of_lt_of_le h1 hS.1)).trans (hS.2.1 q h1 h2)⟩⟩) hS.2.2 (Nat.le_of_ble_eq_true rfl) (Nat.le_of_ble_eq_true rfl)
      first
        | exact ⟨Or.inl c2, rfl, rfl⟩
        | exact ⟨Or.inr c2, rfl, rfl⟩
