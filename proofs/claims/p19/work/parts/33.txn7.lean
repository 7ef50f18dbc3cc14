/-- Transaction.differs: the LENGTH of a file; the word or the name at i -/
def dif0 (b w : NV) (fl : Int64) : Prop := b.2.1 = 0 ∧ ¬ lg_cmp fl 0 = 0 ∧ ¬ b.2.2.1 = w.2.2.1
def difI (b w : NV) (cl fl : Int64) (i : Nat) : Prop := (¬ lg_cmp ((cl >>> ((nI i).toInt64 &&& 63)) &&& 1) 0 = 0 ∧ ¬ ndc b (nI i) = ndc w (nI i)) ∨ (¬ b.2.1 = 0 ∧ ¬ lg_cmp ((fl >>> ((nI i).toInt64 &&& 63)) &&& 1) 0 = 0 ∧ ¬ (ndc b (nI i) = 0 ↔ ndc w (nI i) = 0))
def difP (b w : NV) (cl fl : Int64) : Prop := dif0 b w fl ∨ ∃ i, i < nlen b ∧ difI b w cl fl i

set_option maxHeartbeats 4000000 in
set_option maxRecDepth 100000 in
theorem c_X3_differsN (l : Launch) (D : va_G) (k : Nat → ClassId) (z : Nat) (M : mM) (ba : Nat) (cl fl : Int64) : mK l yX3_differs wsX3_differs ({ frames := 1, cells := 0, slots := 0, locals := 24 }) D k z [.ref ba, .null, .long cl, .long fl] M (fun v M' => v = some (.int 1) ∧ M' = M) := by
  refine Met.ofW (cc := cX3_differs) (maxL := 9) (ret := (some .boolean)) (by decide) rfl ?_
  intro p e s m args below meth c s₁ B hml hv
  obtain ⟨rfl, hz, hcx, hm⟩ := hv
  have hx := B.exec
  have hb := B.bytes
  have hr := B.returns
  have hts := atoms_spec (ws := wsX3_differs) B.pre
  have hown : s.vm.findClass RX3 = some m.cls := findClass_of_methodNamed B.named
  have hlocks := B.notSynchronized
  have hK := hcx.1
  have hS : va_S (AZ z) s.heap s.heap [] := va_S.rf
  have hA : ∀ q, s.heap.size ≤ q → AZ z q := fun q h => Nat.le_trans hz h
  have hl := lv_entry ([.ref ba, .null, .long cl, .long fl]) (n := 9) (Nat.le_of_ble_eq_true rfl)
  rw [lg_entry_eq]
  generalize (lg_sl ([.ref ba, .null, .long cl, .long fl]) ++ List.replicate (9 - (lg_sl ([.ref ba, .null, .long cl, .long fl])).length) Slot.unset).toArray = ls at hl ⊢
  have hl : lv_has ls 9 [(0, .ref ba), (1, .null), (2, .long cl), (4, .long fl)] := hl
  have f58 := hts (.fieldLink RX3 58 "CommitTree$Node" "directory" "Z") (by decide +kernel)
  have f84 := hts (.fieldLink RX3 84 "CommitTree$Node" "size" "I") (by decide +kernel)
  have f98 := hts (.fieldLink RX3 98 "CommitTree$Node" "cells" "[I") (by decide +kernel)
  have wX2 : ∀ w ∈ wsX20, w ∈ wsX3_differs := by decide +kernel
  refine lv_aload_nN hx hb dX3_differs_0 rfl (lv_at hl 1 rfl) ?_
  refine lv_ifnonnullN hx hb dX3_differs_1 ?_
  refine lv_iconst (v := 1) hx hb dX3_differs_4 (by decide) ?_
  refine W.zret hx hb hr rfl (fun t ht hW => ⟨⟨some (.int 1), _, rfl, ?_, by rw [ht]; exact hm⟩, hS.F ht⟩) hS.2.2 dX3_differs_5
  exact ⟨rfl, rfl⟩

set_option maxHeartbeats 4000000 in
set_option maxRecDepth 100000 in
theorem c_X3_differs (l : Launch) (D : va_G) (k : Nat → ClassId) (z : Nat) (M : mM) (ba wa : Nat) (b w : NV) (cl fl : Int64) (hB : nodeAt k M ba b) (hW : nodeAt k M wa w) : mK l yX3_differs wsX3_differs ({ frames := 1, cells := 0, slots := 0, locals := 24 }) D k z [.ref ba, .ref wa, .long cl, .long fl] M (fun v M' => ((difP b w cl fl ∧ v = some (.int 1)) ∨ (¬ difP b w cl fl ∧ v = some (.int 0))) ∧ M' = M) := by
  refine Met.ofW (cc := cX3_differs) (maxL := 9) (ret := (some .boolean)) (by decide) rfl ?_
  intro p e s m args below meth c s₁ B hml hv
  obtain ⟨rfl, hz, hcx, hm⟩ := hv
  have hx := B.exec
  have hb := B.bytes
  have hr := B.returns
  have hts := atoms_spec (ws := wsX3_differs) B.pre
  have hown : s.vm.findClass RX3 = some m.cls := findClass_of_methodNamed B.named
  have hlocks := B.notSynchronized
  have hK := hcx.1
  have hS : va_S (AZ z) s.heap s.heap [] := va_S.rf
  have hA : ∀ q, s.heap.size ≤ q → AZ z q := fun q h => Nat.le_trans hz h
  have hl := lv_entry ([.ref ba, .ref wa, .long cl, .long fl]) (n := 9) (Nat.le_of_ble_eq_true rfl)
  rw [lg_entry_eq]
  generalize (lg_sl ([.ref ba, .ref wa, .long cl, .long fl]) ++ List.replicate (9 - (lg_sl ([.ref ba, .ref wa, .long cl, .long fl])).length) Slot.unset).toArray = ls at hl ⊢
  have hl : lv_has ls 9 [(0, .ref ba), (1, .ref wa), (2, .long cl), (4, .long fl)] := hl
  have f58 := hts (.fieldLink RX3 58 "CommitTree$Node" "directory" "Z") (by decide +kernel)
  have f84 := hts (.fieldLink RX3 84 "CommitTree$Node" "size" "I") (by decide +kernel)
  have f98 := hts (.fieldLink RX3 98 "CommitTree$Node" "cells" "[I") (by decide +kernel)
  have wX2 : ∀ w ∈ wsX20, w ∈ wsX3_differs := by decide +kernel
  obtain ⟨hdb, cba, hnba, hcba⟩ := And.intro hB.1 hB.2
  obtain ⟨hdw, cwa, hnwa, hcwa⟩ := And.intro hW.1 hW.2
  have hb64 : nlen b ≤ 64 := by unfold nlen; split <;> omega
  refine lv_aload_n hx hb dX3_differs_0 rfl (lv_at hl 1 rfl) ?_
  refine lv_ifnonnull (tgt := 6) hx hb dX3_differs_1 (by decide) ?_
  refine lv_aload_n hx hb dX3_differs_6 rfl (lv_at hl 0 rfl) ?_
  refine m_get (T := TX2) (N := 4) (ci := 2) (v := .int b.2.1) hx hb hts wX2 hown hK hm hnba rfl 1 (by decide) f58 (fun _ h9 => h9) rfl dX3_differs_7 ?_
  refine lv_if_ne (tgt := 33) hx hb dX3_differs_10 (by decide) (fun c1 => ?_) (fun c1 => ?_)
  · refine lv_iconst (v := 0) hx hb dX3_differs_33 (by decide) ?_
    refine lv_istore (lv' := [(6, .int 0), (0, .ref ba), (1, .ref wa), (2, .long cl), (4, .long fl)]) hx hb dX3_differs_34 hl (by decide) rfl (fun ls hl => ?_)
    have h0 : ¬ dif0 b w fl := by simp [dif0, c1]
    refine W_loop (σ := Nat) (fun i H locs ls => (i ≤ nlen b) ∧ (∀ j, j < i → ¬ difI b w cl fl j) ∧ mm D (AZ z) M H ∧ va_S (AZ z) s.heap H locs ∧ lv_has ls 9 [(6, .int (nI i)), (0, .ref ba), (1, .ref wa), (2, .long cl), (4, .long fl)]) (fun i => nlen b - i) (fun i => 0) (fun i => 0) ?_ 0 _ _ _ ⟨Nat.zero_le _, fun j hj => absurd hj (Nat.not_lt_zero j), hm, hS, lv_sub hl [0, 1, 2, 3, 4] rfl⟩
    intro i H locs ls hI ih36
    obtain ⟨hi, hno, hm, hS, hl⟩ := hI
    try dsimp only at hm hl ih36 ⊢
    refine lv_iload hx hb dX3_differs_36 (lv_at hl 0 rfl) ?_
    refine lv_aload_n hx hb dX3_differs_38 rfl (lv_at hl 1 rfl) ?_
    refine m_get (T := TX2) (N := 4) (ci := 2) (v := .ref cba) hx hb hts wX2 hown hK hm hnba rfl 3 (by decide) f98 (fun _ h9 => h9) rfl dX3_differs_39 ?_
    refine m_alen hx hb hK hm 0 hcba rfl (v := nI (nlen b)) rfl dX3_differs_42 ?_
    refine lv_icmp_ge (tgt := 132) hx hb dX3_differs_43 (by decide) (fun c2 => ?_) (fun c2 => ?_)
    · refine lv_iconst (v := 0) hx hb dX3_differs_132 (by decide) ?_
      refine W.zret hx hb hr rfl (fun t ht hW => ⟨⟨some (.int 0), _, rfl, ?_, by rw [ht]; exact hm⟩, hS.F ht⟩) hS.2.2 dX3_differs_133
      have he : i = nlen b := Nat.le_antisymm hi ((nI_leI (by omega) (by omega)).mp c2)
      refine ⟨Or.inr ⟨?_, rfl⟩, rfl⟩
      intro q
      rcases q with q | ⟨j, hj, q⟩
      · exact h0 q
      · exact hno j (by omega) q
    · have hlt9 : i < nlen b := Nat.lt_of_not_le fun q => c2 (nI_le q (by omega))
      refine lv_aload_n hx hb dX3_differs_46 rfl (lv_at hl 1 rfl) ?_
      refine lv_iload hx hb dX3_differs_47 (lv_at hl 0 rfl) ?_
      refine m_kV (As := [.int (nI i)]) (rest := []) (rm := { frames := 0, cells := 0, slots := 0, locals := 0 }) ⟨hx, hb, hml, hown, hts⟩ (c_X2_cell l D k z _ ba cba (nlen b) b.1 b.2.1 b.2.2.1 (nI i) b.2.2.2 (nlen31 b) hnba hcba) (cwV 1 hts gX3_differs_X2_cell rfl rfl rfl (by decide +kernel) ⟨Nat.le_of_ble_eq_true rfl, Nat.le_of_ble_eq_true rfl⟩) (m_recv hK hm (q := (RX2, TX2, 4)) rfl hnba) hz hcx hm hS rfl hl.1 rfl (Nat.le_of_ble_eq_true rfl) dX3_differs_49 ⟨Nat.le_of_ble_eq_true rfl, Nat.le_of_ble_eq_true rfl⟩ (fun v M1 H locs hv hm hS => ?_)
      obtain ⟨rfl, hM1⟩ := hv
      rw [hM1] at hm
      refine W.eq (g2 := F0 m 52 ls [.int (ndc b (nI i))]) rfl ?_
      refine W.widen (k := 0) (n := 0) (Nat.le_of_ble_eq_true rfl) (Nat.le_of_ble_eq_true rfl) ?_
      have hm : mm D (AZ z) M H := hm
      refine lv_istore (lv' := [(7, .int (ndc b (nI i))), (6, .int (nI i)), (0, .ref ba), (1, .ref wa), (2, .long cl), (4, .long fl)]) hx hb dX3_differs_52 hl (by decide) rfl (fun ls hl => ?_)
      refine lv_aload_n hx hb dX3_differs_54 rfl (lv_at hl 3 rfl) ?_
      refine lv_iload hx hb dX3_differs_55 (lv_at hl 1 rfl) ?_
      refine m_kV (As := [.int (nI i)]) (rest := []) (rm := { frames := 0, cells := 0, slots := 0, locals := 0 }) ⟨hx, hb, hml, hown, hts⟩ (c_X2_cell l D k z _ wa cwa (nlen w) w.1 w.2.1 w.2.2.1 (nI i) w.2.2.2 (nlen31 w) hnwa hcwa) (cwV 1 hts gX3_differs_X2_cell rfl rfl rfl (by decide +kernel) ⟨Nat.le_of_ble_eq_true rfl, Nat.le_of_ble_eq_true rfl⟩) (m_recv hK hm (q := (RX2, TX2, 4)) rfl hnwa) hz hcx hm hS rfl hl.1 rfl (Nat.le_of_ble_eq_true rfl) dX3_differs_57 ⟨Nat.le_of_ble_eq_true rfl, Nat.le_of_ble_eq_true rfl⟩ (fun v M1 H locs hv hm hS => ?_)
      obtain ⟨rfl, hM1⟩ := hv
      rw [hM1] at hm
      refine W.eq (g2 := F0 m 60 ls [.int (ndc w (nI i))]) rfl ?_
      refine W.widen (k := 0) (n := 0) (Nat.le_of_ble_eq_true rfl) (Nat.le_of_ble_eq_true rfl) ?_
      have hm : mm D (AZ z) M H := hm
      refine lv_istore (lv' := [(8, .int (ndc w (nI i))), (7, .int (ndc b (nI i))), (6, .int (nI i)), (0, .ref ba), (1, .ref wa), (2, .long cl), (4, .long fl)]) hx hb dX3_differs_60 hl (by decide) rfl (fun ls hl => ?_)
      refine lv_lload_n hx hb dX3_differs_62 rfl (lv_at hl 5 rfl) ?_
      refine lv_iload hx hb dX3_differs_63 (lv_at hl 2 rfl) ?_
      refine lv_lshr (v := (cl >>> ((nI i).toInt64 &&& 63))) hx hb dX3_differs_65 rfl ?_
      refine lv_lconst (v := 1) hx hb dX3_differs_66 (by decide) ?_
      refine lv_land hx hb dX3_differs_67 ?_
      refine lv_lconst (v := 0) hx hb dX3_differs_68 (by decide) ?_
      refine W.lcmp hx hb dX3_differs_69 ?_
      refine lv_if_eq (tgt := 82) hx hb dX3_differs_70 (by decide) (fun c3 => ?_) (fun c3 => ?_)
      · refine lv_aload_n hx hb dX3_differs_82 rfl (lv_at hl 3 rfl) ?_
        refine m_get (T := TX2) (N := 4) (ci := 2) (v := .int b.2.1) hx hb hts wX2 hown hK hm hnba rfl 1 (by decide) f58 (fun _ h9 => h9) rfl dX3_differs_83 ?_
        refine lv_if_eq (tgt := 126) hx hb dX3_differs_86 (by decide) (fun c4 => ?_) (fun c4 => ?_)
        · refine lv_iinc (v := ((nI i) + 1)) (lv' := [(6, .int ((nI i) + 1)), (8, .int (ndc w (nI i))), (7, .int (ndc b (nI i))), (0, .ref ba), (1, .ref wa), (2, .long cl), (4, .long fl)]) hx hb dX3_differs_126 hl (k := 2) rfl rfl (by decide) rfl (fun ls hl => ?_)
          refine lv_goto (tgt := 36) hx hb dX3_differs_129 (by decide) ?_
          rw [nI_1] at hl
          have hni : ¬ difI b w cl fl i := by first | (simp [difI, c3, c4]; done) | (exfalso; clear hl; grind only)
          exact ih36 (i + 1) _ _ _ ⟨by omega, fun j hj => if q : j = i then q ▸ hni else hno j (by omega), hm, hS, lv_sub hl [0, 3, 4, 5, 6] rfl⟩ (by omega)
        · refine lv_lload hx hb dX3_differs_89 (lv_at hl 6 rfl) ?_
          refine lv_iload hx hb dX3_differs_91 (lv_at hl 2 rfl) ?_
          refine lv_lshr (v := (fl >>> ((nI i).toInt64 &&& 63))) hx hb dX3_differs_93 rfl ?_
          refine lv_lconst (v := 1) hx hb dX3_differs_94 (by decide) ?_
          refine lv_land hx hb dX3_differs_95 ?_
          refine lv_lconst (v := 0) hx hb dX3_differs_96 (by decide) ?_
          refine W.lcmp hx hb dX3_differs_97 ?_
          refine lv_if_eq (tgt := 126) hx hb dX3_differs_98 (by decide) (fun c5 => ?_) (fun c5 => ?_)
          · refine lv_iinc (v := ((nI i) + 1)) (lv' := [(6, .int ((nI i) + 1)), (8, .int (ndc w (nI i))), (7, .int (ndc b (nI i))), (0, .ref ba), (1, .ref wa), (2, .long cl), (4, .long fl)]) hx hb dX3_differs_126 hl (k := 2) rfl rfl (by decide) rfl (fun ls hl => ?_)
            refine lv_goto (tgt := 36) hx hb dX3_differs_129 (by decide) ?_
            rw [nI_1] at hl
            have hni : ¬ difI b w cl fl i := by first | (simp [difI, c3, c4, c5]; done) | (exfalso; clear hl; grind only)
            exact ih36 (i + 1) _ _ _ ⟨by omega, fun j hj => if q : j = i then q ▸ hni else hno j (by omega), hm, hS, lv_sub hl [0, 3, 4, 5, 6] rfl⟩ (by omega)
          · refine lv_iload hx hb dX3_differs_101 (lv_at hl 1 rfl) ?_
            refine lv_if_eq (tgt := 110) hx hb dX3_differs_103 (by decide) (fun c6 => ?_) (fun c6 => ?_)
            · refine lv_iconst (v := 0) hx hb dX3_differs_110 (by decide) ?_
              refine lv_iload hx hb dX3_differs_111 (lv_at hl 0 rfl) ?_
              refine lv_if_eq (tgt := 120) hx hb dX3_differs_113 (by decide) (fun c7 => ?_) (fun c7 => ?_)
              · refine lv_iconst (v := 0) hx hb dX3_differs_120 (by decide) ?_
                refine lv_icmp_eq (tgt := 126) hx hb dX3_differs_121 (by decide) (fun c8 => ?_) (fun c8 => ?_)
                · refine lv_iinc (v := ((nI i) + 1)) (lv' := [(6, .int ((nI i) + 1)), (8, .int (ndc w (nI i))), (7, .int (ndc b (nI i))), (0, .ref ba), (1, .ref wa), (2, .long cl), (4, .long fl)]) hx hb dX3_differs_126 hl (k := 2) rfl rfl (by decide) rfl (fun ls hl => ?_)
                  refine lv_goto (tgt := 36) hx hb dX3_differs_129 (by decide) ?_
                  rw [nI_1] at hl
                  have hni : ¬ difI b w cl fl i := by first | (simp [difI, c3, c4, c5, c6, c7, c8]; done) | (exfalso; clear hl; grind only)
                  exact ih36 (i + 1) _ _ _ ⟨by omega, fun j hj => if q : j = i then q ▸ hni else hno j (by omega), hm, hS, lv_sub hl [0, 3, 4, 5, 6] rfl⟩ (by omega)
                · first | exact absurd c8 (by decide) | exact absurd (by decide) c8
              · refine lv_iconst (v := 1) hx hb dX3_differs_116 (by decide) ?_
                refine lv_goto (tgt := 121) hx hb dX3_differs_117 (by decide) ?_
                refine lv_icmp_eq (tgt := 126) hx hb dX3_differs_121 (by decide) (fun c9 => ?_) (fun c9 => ?_)
                · first | exact absurd c9 (by decide) | exact absurd (by decide) c9
                · refine lv_iconst (v := 1) hx hb dX3_differs_124 (by decide) ?_
                  refine W.zret hx hb hr rfl (fun t ht hW => ⟨⟨some (.int 1), _, rfl, ?_, by rw [ht]; exact hm⟩, hS.F ht⟩) hS.2.2 dX3_differs_125
                  exact ⟨Or.inl ⟨Or.inr ⟨i, hlt9, by first | (simp [difI, c1, c2, c3, c4, c5, c6, c7, c9]; done) | (exfalso; clear hl; grind only)⟩, rfl⟩, rfl⟩
            · refine lv_iconst (v := 1) hx hb dX3_differs_106 (by decide) ?_
              refine lv_goto (tgt := 111) hx hb dX3_differs_107 (by decide) ?_
              refine lv_iload hx hb dX3_differs_111 (lv_at hl 0 rfl) ?_
              refine lv_if_eq (tgt := 120) hx hb dX3_differs_113 (by decide) (fun c10 => ?_) (fun c10 => ?_)
              · refine lv_iconst (v := 0) hx hb dX3_differs_120 (by decide) ?_
                refine lv_icmp_eq (tgt := 126) hx hb dX3_differs_121 (by decide) (fun c11 => ?_) (fun c11 => ?_)
                · first | exact absurd c11 (by decide) | exact absurd (by decide) c11
                · refine lv_iconst (v := 1) hx hb dX3_differs_124 (by decide) ?_
                  refine W.zret hx hb hr rfl (fun t ht hW => ⟨⟨some (.int 1), _, rfl, ?_, by rw [ht]; exact hm⟩, hS.F ht⟩) hS.2.2 dX3_differs_125
                  exact ⟨Or.inl ⟨Or.inr ⟨i, hlt9, by first | (simp [difI, c1, c2, c3, c4, c5, c6, c10, c11]; done) | (exfalso; clear hl; grind only)⟩, rfl⟩, rfl⟩
              · refine lv_iconst (v := 1) hx hb dX3_differs_116 (by decide) ?_
                refine lv_goto (tgt := 121) hx hb dX3_differs_117 (by decide) ?_
                refine lv_icmp_eq (tgt := 126) hx hb dX3_differs_121 (by decide) (fun c12 => ?_) (fun c12 => ?_)
                · refine lv_iinc (v := ((nI i) + 1)) (lv' := [(6, .int ((nI i) + 1)), (8, .int (ndc w (nI i))), (7, .int (ndc b (nI i))), (0, .ref ba), (1, .ref wa), (2, .long cl), (4, .long fl)]) hx hb dX3_differs_126 hl (k := 2) rfl rfl (by decide) rfl (fun ls hl => ?_)
                  refine lv_goto (tgt := 36) hx hb dX3_differs_129 (by decide) ?_
                  rw [nI_1] at hl
                  have hni : ¬ difI b w cl fl i := by first | (simp [difI, c3, c4, c5, c6, c10, c12]; done) | (exfalso; clear hl; grind only)
                  exact ih36 (i + 1) _ _ _ ⟨by omega, fun j hj => if q : j = i then q ▸ hni else hno j (by omega), hm, hS, lv_sub hl [0, 3, 4, 5, 6] rfl⟩ (by omega)
                · first | exact absurd c12 (by decide) | exact absurd (by decide) c12
      · refine lv_iload hx hb dX3_differs_73 (lv_at hl 1 rfl) ?_
        refine lv_iload hx hb dX3_differs_75 (lv_at hl 0 rfl) ?_
        refine lv_icmp_eq (tgt := 82) hx hb dX3_differs_77 (by decide) (fun c13 => ?_) (fun c13 => ?_)
        · refine lv_aload_n hx hb dX3_differs_82 rfl (lv_at hl 3 rfl) ?_
          refine m_get (T := TX2) (N := 4) (ci := 2) (v := .int b.2.1) hx hb hts wX2 hown hK hm hnba rfl 1 (by decide) f58 (fun _ h9 => h9) rfl dX3_differs_83 ?_
          refine lv_if_eq (tgt := 126) hx hb dX3_differs_86 (by decide) (fun c14 => ?_) (fun c14 => ?_)
          · refine lv_iinc (v := ((nI i) + 1)) (lv' := [(6, .int ((nI i) + 1)), (8, .int (ndc w (nI i))), (7, .int (ndc b (nI i))), (0, .ref ba), (1, .ref wa), (2, .long cl), (4, .long fl)]) hx hb dX3_differs_126 hl (k := 2) rfl rfl (by decide) rfl (fun ls hl => ?_)
            refine lv_goto (tgt := 36) hx hb dX3_differs_129 (by decide) ?_
            rw [nI_1] at hl
            have hni : ¬ difI b w cl fl i := by first | (simp [difI, c3, c13, c14]; done) | (exfalso; clear hl; grind only)
            exact ih36 (i + 1) _ _ _ ⟨by omega, fun j hj => if q : j = i then q ▸ hni else hno j (by omega), hm, hS, lv_sub hl [0, 3, 4, 5, 6] rfl⟩ (by omega)
          · refine lv_lload hx hb dX3_differs_89 (lv_at hl 6 rfl) ?_
            refine lv_iload hx hb dX3_differs_91 (lv_at hl 2 rfl) ?_
            refine lv_lshr (v := (fl >>> ((nI i).toInt64 &&& 63))) hx hb dX3_differs_93 rfl ?_
            refine lv_lconst (v := 1) hx hb dX3_differs_94 (by decide) ?_
            refine lv_land hx hb dX3_differs_95 ?_
            refine lv_lconst (v := 0) hx hb dX3_differs_96 (by decide) ?_
            refine W.lcmp hx hb dX3_differs_97 ?_
            refine lv_if_eq (tgt := 126) hx hb dX3_differs_98 (by decide) (fun c15 => ?_) (fun c15 => ?_)
            · refine lv_iinc (v := ((nI i) + 1)) (lv' := [(6, .int ((nI i) + 1)), (8, .int (ndc w (nI i))), (7, .int (ndc b (nI i))), (0, .ref ba), (1, .ref wa), (2, .long cl), (4, .long fl)]) hx hb dX3_differs_126 hl (k := 2) rfl rfl (by decide) rfl (fun ls hl => ?_)
              refine lv_goto (tgt := 36) hx hb dX3_differs_129 (by decide) ?_
              rw [nI_1] at hl
              have hni : ¬ difI b w cl fl i := by first | (simp [difI, c3, c13, c14, c15]; done) | (exfalso; clear hl; grind only)
              exact ih36 (i + 1) _ _ _ ⟨by omega, fun j hj => if q : j = i then q ▸ hni else hno j (by omega), hm, hS, lv_sub hl [0, 3, 4, 5, 6] rfl⟩ (by omega)
            · refine lv_iload hx hb dX3_differs_101 (lv_at hl 1 rfl) ?_
              refine lv_if_eq (tgt := 110) hx hb dX3_differs_103 (by decide) (fun c16 => ?_) (fun c16 => ?_)
              · refine lv_iconst (v := 0) hx hb dX3_differs_110 (by decide) ?_
                refine lv_iload hx hb dX3_differs_111 (lv_at hl 0 rfl) ?_
                refine lv_if_eq (tgt := 120) hx hb dX3_differs_113 (by decide) (fun c17 => ?_) (fun c17 => ?_)
                · refine lv_iconst (v := 0) hx hb dX3_differs_120 (by decide) ?_
                  refine lv_icmp_eq (tgt := 126) hx hb dX3_differs_121 (by decide) (fun c18 => ?_) (fun c18 => ?_)
                  · refine lv_iinc (v := ((nI i) + 1)) (lv' := [(6, .int ((nI i) + 1)), (8, .int (ndc w (nI i))), (7, .int (ndc b (nI i))), (0, .ref ba), (1, .ref wa), (2, .long cl), (4, .long fl)]) hx hb dX3_differs_126 hl (k := 2) rfl rfl (by decide) rfl (fun ls hl => ?_)
                    refine lv_goto (tgt := 36) hx hb dX3_differs_129 (by decide) ?_
                    rw [nI_1] at hl
                    have hni : ¬ difI b w cl fl i := by first | (simp [difI, c3, c13, c14, c15, c16, c17, c18]; done) | (exfalso; clear hl; grind only)
                    exact ih36 (i + 1) _ _ _ ⟨by omega, fun j hj => if q : j = i then q ▸ hni else hno j (by omega), hm, hS, lv_sub hl [0, 3, 4, 5, 6] rfl⟩ (by omega)
                  · first | exact absurd c18 (by decide) | exact absurd (by decide) c18
                · refine lv_iconst (v := 1) hx hb dX3_differs_116 (by decide) ?_
                  refine lv_goto (tgt := 121) hx hb dX3_differs_117 (by decide) ?_
                  refine lv_icmp_eq (tgt := 126) hx hb dX3_differs_121 (by decide) (fun c19 => ?_) (fun c19 => ?_)
                  · first | exact absurd c19 (by decide) | exact absurd (by decide) c19
                  · refine lv_iconst (v := 1) hx hb dX3_differs_124 (by decide) ?_
                    refine W.zret hx hb hr rfl (fun t ht hW => ⟨⟨some (.int 1), _, rfl, ?_, by rw [ht]; exact hm⟩, hS.F ht⟩) hS.2.2 dX3_differs_125
                    exact ⟨Or.inl ⟨Or.inr ⟨i, hlt9, by first | (simp [difI, c1, c2, c3, c13, c14, c15, c16, c17, c19]; done) | (exfalso; clear hl; grind only)⟩, rfl⟩, rfl⟩
              · refine lv_iconst (v := 1) hx hb dX3_differs_106 (by decide) ?_
                refine lv_goto (tgt := 111) hx hb dX3_differs_107 (by decide) ?_
                refine lv_iload hx hb dX3_differs_111 (lv_at hl 0 rfl) ?_
                refine lv_if_eq (tgt := 120) hx hb dX3_differs_113 (by decide) (fun c20 => ?_) (fun c20 => ?_)
                · refine lv_iconst (v := 0) hx hb dX3_differs_120 (by decide) ?_
                  refine lv_icmp_eq (tgt := 126) hx hb dX3_differs_121 (by decide) (fun c21 => ?_) (fun c21 => ?_)
                  · first | exact absurd c21 (by decide) | exact absurd (by decide) c21
                  · refine lv_iconst (v := 1) hx hb dX3_differs_124 (by decide) ?_
                    refine W.zret hx hb hr rfl (fun t ht hW => ⟨⟨some (.int 1), _, rfl, ?_, by rw [ht]; exact hm⟩, hS.F ht⟩) hS.2.2 dX3_differs_125
                    exact ⟨Or.inl ⟨Or.inr ⟨i, hlt9, by first | (simp [difI, c1, c2, c3, c13, c14, c15, c16, c20, c21]; done) | (exfalso; clear hl; grind only)⟩, rfl⟩, rfl⟩
                · refine lv_iconst (v := 1) hx hb dX3_differs_116 (by decide) ?_
                  refine lv_goto (tgt := 121) hx hb dX3_differs_117 (by decide) ?_
                  refine lv_icmp_eq (tgt := 126) hx hb dX3_differs_121 (by decide) (fun c22 => ?_) (fun c22 => ?_)
                  · refine lv_iinc (v := ((nI i) + 1)) (lv' := [(6, .int ((nI i) + 1)), (8, .int (ndc w (nI i))), (7, .int (ndc b (nI i))), (0, .ref ba), (1, .ref wa), (2, .long cl), (4, .long fl)]) hx hb dX3_differs_126 hl (k := 2) rfl rfl (by decide) rfl (fun ls hl => ?_)
                    refine lv_goto (tgt := 36) hx hb dX3_differs_129 (by decide) ?_
                    rw [nI_1] at hl
                    have hni : ¬ difI b w cl fl i := by first | (simp [difI, c3, c13, c14, c15, c16, c20, c22]; done) | (exfalso; clear hl; grind only)
                    exact ih36 (i + 1) _ _ _ ⟨by omega, fun j hj => if q : j = i then q ▸ hni else hno j (by omega), hm, hS, lv_sub hl [0, 3, 4, 5, 6] rfl⟩ (by omega)
                  · first | exact absurd c22 (by decide) | exact absurd (by decide) c22
        · refine lv_iconst (v := 1) hx hb dX3_differs_80 (by decide) ?_
          refine W.zret hx hb hr rfl (fun t ht hW => ⟨⟨some (.int 1), _, rfl, ?_, by rw [ht]; exact hm⟩, hS.F ht⟩) hS.2.2 dX3_differs_81
          exact ⟨Or.inl ⟨Or.inr ⟨i, hlt9, by first | (simp [difI, c1, c2, c3, c13]; done) | (exfalso; clear hl; grind only)⟩, rfl⟩, rfl⟩
  · refine lv_lload hx hb dX3_differs_13 (lv_at hl 3 rfl) ?_
    refine lv_lconst (v := 0) hx hb dX3_differs_15 (by decide) ?_
    refine W.lcmp hx hb dX3_differs_16 ?_
    refine lv_if_eq (tgt := 33) hx hb dX3_differs_17 (by decide) (fun c23 => ?_) (fun c23 => ?_)
    · refine lv_iconst (v := 0) hx hb dX3_differs_33 (by decide) ?_
      refine lv_istore (lv' := [(6, .int 0), (0, .ref ba), (1, .ref wa), (2, .long cl), (4, .long fl)]) hx hb dX3_differs_34 hl (by decide) rfl (fun ls hl => ?_)
      have h0 : ¬ dif0 b w fl := by simp [dif0, c1, c23]
      refine W_loop (σ := Nat) (fun i H locs ls => (i ≤ nlen b) ∧ (∀ j, j < i → ¬ difI b w cl fl j) ∧ mm D (AZ z) M H ∧ va_S (AZ z) s.heap H locs ∧ lv_has ls 9 [(6, .int (nI i)), (0, .ref ba), (1, .ref wa), (2, .long cl), (4, .long fl)]) (fun i => nlen b - i) (fun i => 0) (fun i => 0) ?_ 0 _ _ _ ⟨Nat.zero_le _, fun j hj => absurd hj (Nat.not_lt_zero j), hm, hS, lv_sub hl [0, 1, 2, 3, 4] rfl⟩
      intro i H locs ls hI ih36
      obtain ⟨hi, hno, hm, hS, hl⟩ := hI
      try dsimp only at hm hl ih36 ⊢
      refine lv_iload hx hb dX3_differs_36 (lv_at hl 0 rfl) ?_
      refine lv_aload_n hx hb dX3_differs_38 rfl (lv_at hl 1 rfl) ?_
      refine m_get (T := TX2) (N := 4) (ci := 2) (v := .ref cba) hx hb hts wX2 hown hK hm hnba rfl 3 (by decide) f98 (fun _ h9 => h9) rfl dX3_differs_39 ?_
      refine m_alen hx hb hK hm 0 hcba rfl (v := nI (nlen b)) rfl dX3_differs_42 ?_
      refine lv_icmp_ge (tgt := 132) hx hb dX3_differs_43 (by decide) (fun c24 => ?_) (fun c24 => ?_)
      · refine lv_iconst (v := 0) hx hb dX3_differs_132 (by decide) ?_
        refine W.zret hx hb hr rfl (fun t ht hW => ⟨⟨some (.int 0), _, rfl, ?_, by rw [ht]; exact hm⟩, hS.F ht⟩) hS.2.2 dX3_differs_133
        have he : i = nlen b := Nat.le_antisymm hi ((nI_leI (by omega) (by omega)).mp c24)
        refine ⟨Or.inr ⟨?_, rfl⟩, rfl⟩
        intro q
        rcases q with q | ⟨j, hj, q⟩
        · exact h0 q
        · exact hno j (by omega) q
      · have hlt9 : i < nlen b := Nat.lt_of_not_le fun q => c24 (nI_le q (by omega))
        refine lv_aload_n hx hb dX3_differs_46 rfl (lv_at hl 1 rfl) ?_
        refine lv_iload hx hb dX3_differs_47 (lv_at hl 0 rfl) ?_
        refine m_kV (As := [.int (nI i)]) (rest := []) (rm := { frames := 0, cells := 0, slots := 0, locals := 0 }) ⟨hx, hb, hml, hown, hts⟩ (c_X2_cell l D k z _ ba cba (nlen b) b.1 b.2.1 b.2.2.1 (nI i) b.2.2.2 (nlen31 b) hnba hcba) (cwV 1 hts gX3_differs_X2_cell rfl rfl rfl (by decide +kernel) ⟨Nat.le_of_ble_eq_true rfl, Nat.le_of_ble_eq_true rfl⟩) (m_recv hK hm (q := (RX2, TX2, 4)) rfl hnba) hz hcx hm hS rfl hl.1 rfl (Nat.le_of_ble_eq_true rfl) dX3_differs_49 ⟨Nat.le_of_ble_eq_true rfl, Nat.le_of_ble_eq_true rfl⟩ (fun v M1 H locs hv hm hS => ?_)
        obtain ⟨rfl, hM1⟩ := hv
        rw [hM1] at hm
        refine W.eq (g2 := F0 m 52 ls [.int (ndc b (nI i))]) rfl ?_
        refine W.widen (k := 0) (n := 0) (Nat.le_of_ble_eq_true rfl) (Nat.le_of_ble_eq_true rfl) ?_
        have hm : mm D (AZ z) M H := hm
        refine lv_istore (lv' := [(7, .int (ndc b (nI i))), (6, .int (nI i)), (0, .ref ba), (1, .ref wa), (2, .long cl), (4, .long fl)]) hx hb dX3_differs_52 hl (by decide) rfl (fun ls hl => ?_)
        refine lv_aload_n hx hb dX3_differs_54 rfl (lv_at hl 3 rfl) ?_
        refine lv_iload hx hb dX3_differs_55 (lv_at hl 1 rfl) ?_
        refine m_kV (As := [.int (nI i)]) (rest := []) (rm := { frames := 0, cells := 0, slots := 0, locals := 0 }) ⟨hx, hb, hml, hown, hts⟩ (c_X2_cell l D k z _ wa cwa (nlen w) w.1 w.2.1 w.2.2.1 (nI i) w.2.2.2 (nlen31 w) hnwa hcwa) (cwV 1 hts gX3_differs_X2_cell rfl rfl rfl (by decide +kernel) ⟨Nat.le_of_ble_eq_true rfl, Nat.le_of_ble_eq_true rfl⟩) (m_recv hK hm (q := (RX2, TX2, 4)) rfl hnwa) hz hcx hm hS rfl hl.1 rfl (Nat.le_of_ble_eq_true rfl) dX3_differs_57 ⟨Nat.le_of_ble_eq_true rfl, Nat.le_of_ble_eq_true rfl⟩ (fun v M1 H locs hv hm hS => ?_)
        obtain ⟨rfl, hM1⟩ := hv
        rw [hM1] at hm
        refine W.eq (g2 := F0 m 60 ls [.int (ndc w (nI i))]) rfl ?_
        refine W.widen (k := 0) (n := 0) (Nat.le_of_ble_eq_true rfl) (Nat.le_of_ble_eq_true rfl) ?_
        have hm : mm D (AZ z) M H := hm
        refine lv_istore (lv' := [(8, .int (ndc w (nI i))), (7, .int (ndc b (nI i))), (6, .int (nI i)), (0, .ref ba), (1, .ref wa), (2, .long cl), (4, .long fl)]) hx hb dX3_differs_60 hl (by decide) rfl (fun ls hl => ?_)
        refine lv_lload_n hx hb dX3_differs_62 rfl (lv_at hl 5 rfl) ?_
        refine lv_iload hx hb dX3_differs_63 (lv_at hl 2 rfl) ?_
        refine lv_lshr (v := (cl >>> ((nI i).toInt64 &&& 63))) hx hb dX3_differs_65 rfl ?_
        refine lv_lconst (v := 1) hx hb dX3_differs_66 (by decide) ?_
        refine lv_land hx hb dX3_differs_67 ?_
        refine lv_lconst (v := 0) hx hb dX3_differs_68 (by decide) ?_
        refine W.lcmp hx hb dX3_differs_69 ?_
        refine lv_if_eq (tgt := 82) hx hb dX3_differs_70 (by decide) (fun c25 => ?_) (fun c25 => ?_)
        · refine lv_aload_n hx hb dX3_differs_82 rfl (lv_at hl 3 rfl) ?_
          refine m_get (T := TX2) (N := 4) (ci := 2) (v := .int b.2.1) hx hb hts wX2 hown hK hm hnba rfl 1 (by decide) f58 (fun _ h9 => h9) rfl dX3_differs_83 ?_
          refine lv_if_eq (tgt := 126) hx hb dX3_differs_86 (by decide) (fun c26 => ?_) (fun c26 => ?_)
          · refine lv_iinc (v := ((nI i) + 1)) (lv' := [(6, .int ((nI i) + 1)), (8, .int (ndc w (nI i))), (7, .int (ndc b (nI i))), (0, .ref ba), (1, .ref wa), (2, .long cl), (4, .long fl)]) hx hb dX3_differs_126 hl (k := 2) rfl rfl (by decide) rfl (fun ls hl => ?_)
            refine lv_goto (tgt := 36) hx hb dX3_differs_129 (by decide) ?_
            rw [nI_1] at hl
            have hni : ¬ difI b w cl fl i := by first | (simp [difI, c25, c26]; done) | (exfalso; clear hl; grind only)
            exact ih36 (i + 1) _ _ _ ⟨by omega, fun j hj => if q : j = i then q ▸ hni else hno j (by omega), hm, hS, lv_sub hl [0, 3, 4, 5, 6] rfl⟩ (by omega)
          · refine lv_lload hx hb dX3_differs_89 (lv_at hl 6 rfl) ?_
            refine lv_iload hx hb dX3_differs_91 (lv_at hl 2 rfl) ?_
            refine lv_lshr (v := (fl >>> ((nI i).toInt64 &&& 63))) hx hb dX3_differs_93 rfl ?_
            refine lv_lconst (v := 1) hx hb dX3_differs_94 (by decide) ?_
            refine lv_land hx hb dX3_differs_95 ?_
            refine lv_lconst (v := 0) hx hb dX3_differs_96 (by decide) ?_
            refine W.lcmp hx hb dX3_differs_97 ?_
            refine lv_if_eq (tgt := 126) hx hb dX3_differs_98 (by decide) (fun c27 => ?_) (fun c27 => ?_)
            · refine lv_iinc (v := ((nI i) + 1)) (lv' := [(6, .int ((nI i) + 1)), (8, .int (ndc w (nI i))), (7, .int (ndc b (nI i))), (0, .ref ba), (1, .ref wa), (2, .long cl), (4, .long fl)]) hx hb dX3_differs_126 hl (k := 2) rfl rfl (by decide) rfl (fun ls hl => ?_)
              refine lv_goto (tgt := 36) hx hb dX3_differs_129 (by decide) ?_
              rw [nI_1] at hl
              have hni : ¬ difI b w cl fl i := by first | (simp [difI, c25, c26, c27]; done) | (exfalso; clear hl; grind only)
              exact ih36 (i + 1) _ _ _ ⟨by omega, fun j hj => if q : j = i then q ▸ hni else hno j (by omega), hm, hS, lv_sub hl [0, 3, 4, 5, 6] rfl⟩ (by omega)
            · refine lv_iload hx hb dX3_differs_101 (lv_at hl 1 rfl) ?_
              refine lv_if_eq (tgt := 110) hx hb dX3_differs_103 (by decide) (fun c28 => ?_) (fun c28 => ?_)
              · refine lv_iconst (v := 0) hx hb dX3_differs_110 (by decide) ?_
                refine lv_iload hx hb dX3_differs_111 (lv_at hl 0 rfl) ?_
                refine lv_if_eq (tgt := 120) hx hb dX3_differs_113 (by decide) (fun c29 => ?_) (fun c29 => ?_)
                · refine lv_iconst (v := 0) hx hb dX3_differs_120 (by decide) ?_
                  refine lv_icmp_eq (tgt := 126) hx hb dX3_differs_121 (by decide) (fun c30 => ?_) (fun c30 => ?_)
                  · refine lv_iinc (v := ((nI i) + 1)) (lv' := [(6, .int ((nI i) + 1)), (8, .int (ndc w (nI i))), (7, .int (ndc b (nI i))), (0, .ref ba), (1, .ref wa), (2, .long cl), (4, .long fl)]) hx hb dX3_differs_126 hl (k := 2) rfl rfl (by decide) rfl (fun ls hl => ?_)
                    refine lv_goto (tgt := 36) hx hb dX3_differs_129 (by decide) ?_
                    rw [nI_1] at hl
                    have hni : ¬ difI b w cl fl i := by first | (simp [difI, c25, c26, c27, c28, c29, c30]; done) | (exfalso; clear hl; grind only)
                    exact ih36 (i + 1) _ _ _ ⟨by omega, fun j hj => if q : j = i then q ▸ hni else hno j (by omega), hm, hS, lv_sub hl [0, 3, 4, 5, 6] rfl⟩ (by omega)
                  · first | exact absurd c30 (by decide) | exact absurd (by decide) c30
                · refine lv_iconst (v := 1) hx hb dX3_differs_116 (by decide) ?_
                  refine lv_goto (tgt := 121) hx hb dX3_differs_117 (by decide) ?_
                  refine lv_icmp_eq (tgt := 126) hx hb dX3_differs_121 (by decide) (fun c31 => ?_) (fun c31 => ?_)
                  · first | exact absurd c31 (by decide) | exact absurd (by decide) c31
                  · refine lv_iconst (v := 1) hx hb dX3_differs_124 (by decide) ?_
                    refine W.zret hx hb hr rfl (fun t ht hW => ⟨⟨some (.int 1), _, rfl, ?_, by rw [ht]; exact hm⟩, hS.F ht⟩) hS.2.2 dX3_differs_125
                    exact ⟨Or.inl ⟨Or.inr ⟨i, hlt9, by first | (simp [difI, c1, c23, c24, c25, c26, c27, c28, c29, c31]; done) | (exfalso; clear hl; grind only)⟩, rfl⟩, rfl⟩
              · refine lv_iconst (v := 1) hx hb dX3_differs_106 (by decide) ?_
                refine lv_goto (tgt := 111) hx hb dX3_differs_107 (by decide) ?_
                refine lv_iload hx hb dX3_differs_111 (lv_at hl 0 rfl) ?_
                refine lv_if_eq (tgt := 120) hx hb dX3_differs_113 (by decide) (fun c32 => ?_) (fun c32 => ?_)
                · refine lv_iconst (v := 0) hx hb dX3_differs_120 (by decide) ?_
                  refine lv_icmp_eq (tgt := 126) hx hb dX3_differs_121 (by decide) (fun c33 => ?_) (fun c33 => ?_)
                  · first | exact absurd c33 (by decide) | exact absurd (by decide) c33
                  · refine lv_iconst (v := 1) hx hb dX3_differs_124 (by decide) ?_
                    refine W.zret hx hb hr rfl (fun t ht hW => ⟨⟨some (.int 1), _, rfl, ?_, by rw [ht]; exact hm⟩, hS.F ht⟩) hS.2.2 dX3_differs_125
                    exact ⟨Or.inl ⟨Or.inr ⟨i, hlt9, by first | (simp [difI, c1, c23, c24, c25, c26, c27, c28, c32, c33]; done) | (exfalso; clear hl; grind only)⟩, rfl⟩, rfl⟩
                · refine lv_iconst (v := 1) hx hb dX3_differs_116 (by decide) ?_
                  refine lv_goto (tgt := 121) hx hb dX3_differs_117 (by decide) ?_
                  refine lv_icmp_eq (tgt := 126) hx hb dX3_differs_121 (by decide) (fun c34 => ?_) (fun c34 => ?_)
                  · refine lv_iinc (v := ((nI i) + 1)) (lv' := [(6, .int ((nI i) + 1)), (8, .int (ndc w (nI i))), (7, .int (ndc b (nI i))), (0, .ref ba), (1, .ref wa), (2, .long cl), (4, .long fl)]) hx hb dX3_differs_126 hl (k := 2) rfl rfl (by decide) rfl (fun ls hl => ?_)
                    refine lv_goto (tgt := 36) hx hb dX3_differs_129 (by decide) ?_
                    rw [nI_1] at hl
                    have hni : ¬ difI b w cl fl i := by first | (simp [difI, c25, c26, c27, c28, c32, c34]; done) | (exfalso; clear hl; grind only)
                    exact ih36 (i + 1) _ _ _ ⟨by omega, fun j hj => if q : j = i then q ▸ hni else hno j (by omega), hm, hS, lv_sub hl [0, 3, 4, 5, 6] rfl⟩ (by omega)
                  · first | exact absurd c34 (by decide) | exact absurd (by decide) c34
        · refine lv_iload hx hb dX3_differs_73 (lv_at hl 1 rfl) ?_
          refine lv_iload hx hb dX3_differs_75 (lv_at hl 0 rfl) ?_
          refine lv_icmp_eq (tgt := 82) hx hb dX3_differs_77 (by decide) (fun c35 => ?_) (fun c35 => ?_)
          · refine lv_aload_n hx hb dX3_differs_82 rfl (lv_at hl 3 rfl) ?_
            refine m_get (T := TX2) (N := 4) (ci := 2) (v := .int b.2.1) hx hb hts wX2 hown hK hm hnba rfl 1 (by decide) f58 (fun _ h9 => h9) rfl dX3_differs_83 ?_
            refine lv_if_eq (tgt := 126) hx hb dX3_differs_86 (by decide) (fun c36 => ?_) (fun c36 => ?_)
            · refine lv_iinc (v := ((nI i) + 1)) (lv' := [(6, .int ((nI i) + 1)), (8, .int (ndc w (nI i))), (7, .int (ndc b (nI i))), (0, .ref ba), (1, .ref wa), (2, .long cl), (4, .long fl)]) hx hb dX3_differs_126 hl (k := 2) rfl rfl (by decide) rfl (fun ls hl => ?_)
              refine lv_goto (tgt := 36) hx hb dX3_differs_129 (by decide) ?_
              rw [nI_1] at hl
              have hni : ¬ difI b w cl fl i := by first | (simp [difI, c25, c35, c36]; done) | (exfalso; clear hl; grind only)
              exact ih36 (i + 1) _ _ _ ⟨by omega, fun j hj => if q : j = i then q ▸ hni else hno j (by omega), hm, hS, lv_sub hl [0, 3, 4, 5, 6] rfl⟩ (by omega)
            · refine lv_lload hx hb dX3_differs_89 (lv_at hl 6 rfl) ?_
              refine lv_iload hx hb dX3_differs_91 (lv_at hl 2 rfl) ?_
              refine lv_lshr (v := (fl >>> ((nI i).toInt64 &&& 63))) hx hb dX3_differs_93 rfl ?_
              refine lv_lconst (v := 1) hx hb dX3_differs_94 (by decide) ?_
              refine lv_land hx hb dX3_differs_95 ?_
              refine lv_lconst (v := 0) hx hb dX3_differs_96 (by decide) ?_
              refine W.lcmp hx hb dX3_differs_97 ?_
              refine lv_if_eq (tgt := 126) hx hb dX3_differs_98 (by decide) (fun c37 => ?_) (fun c37 => ?_)
              · refine lv_iinc (v := ((nI i) + 1)) (lv' := [(6, .int ((nI i) + 1)), (8, .int (ndc w (nI i))), (7, .int (ndc b (nI i))), (0, .ref ba), (1, .ref wa), (2, .long cl), (4, .long fl)]) hx hb dX3_differs_126 hl (k := 2) rfl rfl (by decide) rfl (fun ls hl => ?_)
                refine lv_goto (tgt := 36) hx hb dX3_differs_129 (by decide) ?_
                rw [nI_1] at hl
                have hni : ¬ difI b w cl fl i := by first | (simp [difI, c25, c35, c36, c37]; done) | (exfalso; clear hl; grind only)
                exact ih36 (i + 1) _ _ _ ⟨by omega, fun j hj => if q : j = i then q ▸ hni else hno j (by omega), hm, hS, lv_sub hl [0, 3, 4, 5, 6] rfl⟩ (by omega)
              · refine lv_iload hx hb dX3_differs_101 (lv_at hl 1 rfl) ?_
                refine lv_if_eq (tgt := 110) hx hb dX3_differs_103 (by decide) (fun c38 => ?_) (fun c38 => ?_)
                · refine lv_iconst (v := 0) hx hb dX3_differs_110 (by decide) ?_
                  refine lv_iload hx hb dX3_differs_111 (lv_at hl 0 rfl) ?_
                  refine lv_if_eq (tgt := 120) hx hb dX3_differs_113 (by decide) (fun c39 => ?_) (fun c39 => ?_)
                  · refine lv_iconst (v := 0) hx hb dX3_differs_120 (by decide) ?_
                    refine lv_icmp_eq (tgt := 126) hx hb dX3_differs_121 (by decide) (fun c40 => ?_) (fun c40 => ?_)
                    · refine lv_iinc (v := ((nI i) + 1)) (lv' := [(6, .int ((nI i) + 1)), (8, .int (ndc w (nI i))), (7, .int (ndc b (nI i))), (0, .ref ba), (1, .ref wa), (2, .long cl), (4, .long fl)]) hx hb dX3_differs_126 hl (k := 2) rfl rfl (by decide) rfl (fun ls hl => ?_)
                      refine lv_goto (tgt := 36) hx hb dX3_differs_129 (by decide) ?_
                      rw [nI_1] at hl
                      have hni : ¬ difI b w cl fl i := by first | (simp [difI, c25, c35, c36, c37, c38, c39, c40]; done) | (exfalso; clear hl; grind only)
                      exact ih36 (i + 1) _ _ _ ⟨by omega, fun j hj => if q : j = i then q ▸ hni else hno j (by omega), hm, hS, lv_sub hl [0, 3, 4, 5, 6] rfl⟩ (by omega)
                    · first | exact absurd c40 (by decide) | exact absurd (by decide) c40
                  · refine lv_iconst (v := 1) hx hb dX3_differs_116 (by decide) ?_
                    refine lv_goto (tgt := 121) hx hb dX3_differs_117 (by decide) ?_
                    refine lv_icmp_eq (tgt := 126) hx hb dX3_differs_121 (by decide) (fun c41 => ?_) (fun c41 => ?_)
                    · first | exact absurd c41 (by decide) | exact absurd (by decide) c41
                    · refine lv_iconst (v := 1) hx hb dX3_differs_124 (by decide) ?_
                      refine W.zret hx hb hr rfl (fun t ht hW => ⟨⟨some (.int 1), _, rfl, ?_, by rw [ht]; exact hm⟩, hS.F ht⟩) hS.2.2 dX3_differs_125
                      exact ⟨Or.inl ⟨Or.inr ⟨i, hlt9, by first | (simp [difI, c1, c23, c24, c25, c35, c36, c37, c38, c39, c41]; done) | (exfalso; clear hl; grind only)⟩, rfl⟩, rfl⟩
                · refine lv_iconst (v := 1) hx hb dX3_differs_106 (by decide) ?_
                  refine lv_goto (tgt := 111) hx hb dX3_differs_107 (by decide) ?_
                  refine lv_iload hx hb dX3_differs_111 (lv_at hl 0 rfl) ?_
                  refine lv_if_eq (tgt := 120) hx hb dX3_differs_113 (by decide) (fun c42 => ?_) (fun c42 => ?_)
                  · refine lv_iconst (v := 0) hx hb dX3_differs_120 (by decide) ?_
                    refine lv_icmp_eq (tgt := 126) hx hb dX3_differs_121 (by decide) (fun c43 => ?_) (fun c43 => ?_)
                    · first | exact absurd c43 (by decide) | exact absurd (by decide) c43
                    · refine lv_iconst (v := 1) hx hb dX3_differs_124 (by decide) ?_
                      refine W.zret hx hb hr rfl (fun t ht hW => ⟨⟨some (.int 1), _, rfl, ?_, by rw [ht]; exact hm⟩, hS.F ht⟩) hS.2.2 dX3_differs_125
                      exact ⟨Or.inl ⟨Or.inr ⟨i, hlt9, by first | (simp [difI, c1, c23, c24, c25, c35, c36, c37, c38, c42, c43]; done) | (exfalso; clear hl; grind only)⟩, rfl⟩, rfl⟩
                  · refine lv_iconst (v := 1) hx hb dX3_differs_116 (by decide) ?_
                    refine lv_goto (tgt := 121) hx hb dX3_differs_117 (by decide) ?_
                    refine lv_icmp_eq (tgt := 126) hx hb dX3_differs_121 (by decide) (fun c44 => ?_) (fun c44 => ?_)
                    · refine lv_iinc (v := ((nI i) + 1)) (lv' := [(6, .int ((nI i) + 1)), (8, .int (ndc w (nI i))), (7, .int (ndc b (nI i))), (0, .ref ba), (1, .ref wa), (2, .long cl), (4, .long fl)]) hx hb dX3_differs_126 hl (k := 2) rfl rfl (by decide) rfl (fun ls hl => ?_)
                      refine lv_goto (tgt := 36) hx hb dX3_differs_129 (by decide) ?_
                      rw [nI_1] at hl
                      have hni : ¬ difI b w cl fl i := by first | (simp [difI, c25, c35, c36, c37, c38, c42, c44]; done) | (exfalso; clear hl; grind only)
                      exact ih36 (i + 1) _ _ _ ⟨by omega, fun j hj => if q : j = i then q ▸ hni else hno j (by omega), hm, hS, lv_sub hl [0, 3, 4, 5, 6] rfl⟩ (by omega)
                    · first | exact absurd c44 (by decide) | exact absurd (by decide) c44
          · refine lv_iconst (v := 1) hx hb dX3_differs_80 (by decide) ?_
            refine W.zret hx hb hr rfl (fun t ht hW => ⟨⟨some (.int 1), _, rfl, ?_, by rw [ht]; exact hm⟩, hS.F ht⟩) hS.2.2 dX3_differs_81
            exact ⟨Or.inl ⟨Or.inr ⟨i, hlt9, by first | (simp [difI, c1, c23, c24, c25, c35]; done) | (exfalso; clear hl; grind only)⟩, rfl⟩, rfl⟩
    · refine lv_aload_n hx hb dX3_differs_20 rfl (lv_at hl 0 rfl) ?_
      refine m_get (T := TX2) (N := 4) (ci := 2) (v := .int b.2.2.1) hx hb hts wX2 hown hK hm hnba rfl 2 (by decide) f84 (fun _ h9 => h9) rfl dX3_differs_21 ?_
      refine lv_aload_n hx hb dX3_differs_24 rfl (lv_at hl 1 rfl) ?_
      refine m_get (T := TX2) (N := 4) (ci := 2) (v := .int w.2.2.1) hx hb hts wX2 hown hK hm hnwa rfl 2 (by decide) f84 (fun _ h9 => h9) rfl dX3_differs_25 ?_
      refine lv_icmp_eq (tgt := 33) hx hb dX3_differs_28 (by decide) (fun c45 => ?_) (fun c45 => ?_)
      · refine lv_iconst (v := 0) hx hb dX3_differs_33 (by decide) ?_
        refine lv_istore (lv' := [(6, .int 0), (0, .ref ba), (1, .ref wa), (2, .long cl), (4, .long fl)]) hx hb dX3_differs_34 hl (by decide) rfl (fun ls hl => ?_)
        have h0 : ¬ dif0 b w fl := by simp [dif0, c1, c23, c45]
        refine W_loop (σ := Nat) (fun i H locs ls => (i ≤ nlen b) ∧ (∀ j, j < i → ¬ difI b w cl fl j) ∧ mm D (AZ z) M H ∧ va_S (AZ z) s.heap H locs ∧ lv_has ls 9 [(6, .int (nI i)), (0, .ref ba), (1, .ref wa), (2, .long cl), (4, .long fl)]) (fun i => nlen b - i) (fun i => 0) (fun i => 0) ?_ 0 _ _ _ ⟨Nat.zero_le _, fun j hj => absurd hj (Nat.not_lt_zero j), hm, hS, lv_sub hl [0, 1, 2, 3, 4] rfl⟩
        intro i H locs ls hI ih36
        obtain ⟨hi, hno, hm, hS, hl⟩ := hI
        try dsimp only at hm hl ih36 ⊢
        refine lv_iload hx hb dX3_differs_36 (lv_at hl 0 rfl) ?_
        refine lv_aload_n hx hb dX3_differs_38 rfl (lv_at hl 1 rfl) ?_
        refine m_get (T := TX2) (N := 4) (ci := 2) (v := .ref cba) hx hb hts wX2 hown hK hm hnba rfl 3 (by decide) f98 (fun _ h9 => h9) rfl dX3_differs_39 ?_
        refine m_alen hx hb hK hm 0 hcba rfl (v := nI (nlen b)) rfl dX3_differs_42 ?_
        refine lv_icmp_ge (tgt := 132) hx hb dX3_differs_43 (by decide) (fun c46 => ?_) (fun c46 => ?_)
        · refine lv_iconst (v := 0) hx hb dX3_differs_132 (by decide) ?_
          refine W.zret hx hb hr rfl (fun t ht hW => ⟨⟨some (.int 0), _, rfl, ?_, by rw [ht]; exact hm⟩, hS.F ht⟩) hS.2.2 dX3_differs_133
          have he : i = nlen b := Nat.le_antisymm hi ((nI_leI (by omega) (by omega)).mp c46)
          refine ⟨Or.inr ⟨?_, rfl⟩, rfl⟩
          intro q
          rcases q with q | ⟨j, hj, q⟩
          · exact h0 q
          · exact hno j (by omega) q
        · have hlt9 : i < nlen b := Nat.lt_of_not_le fun q => c46 (nI_le q (by omega))
          refine lv_aload_n hx hb dX3_differs_46 rfl (lv_at hl 1 rfl) ?_
          refine lv_iload hx hb dX3_differs_47 (lv_at hl 0 rfl) ?_
          refine m_kV (As := [.int (nI i)]) (rest := []) (rm := { frames := 0, cells := 0, slots := 0, locals := 0 }) ⟨hx, hb, hml, hown, hts⟩ (c_X2_cell l D k z _ ba cba (nlen b) b.1 b.2.1 b.2.2.1 (nI i) b.2.2.2 (nlen31 b) hnba hcba) (cwV 1 hts gX3_differs_X2_cell rfl rfl rfl (by decide +kernel) ⟨Nat.le_of_ble_eq_true rfl, Nat.le_of_ble_eq_true rfl⟩) (m_recv hK hm (q := (RX2, TX2, 4)) rfl hnba) hz hcx hm hS rfl hl.1 rfl (Nat.le_of_ble_eq_true rfl) dX3_differs_49 ⟨Nat.le_of_ble_eq_true rfl, Nat.le_of_ble_eq_true rfl⟩ (fun v M1 H locs hv hm hS => ?_)
          obtain ⟨rfl, hM1⟩ := hv
          rw [hM1] at hm
          refine W.eq (g2 := F0 m 52 ls [.int (ndc b (nI i))]) rfl ?_
          refine W.widen (k := 0) (n := 0) (Nat.le_of_ble_eq_true rfl) (Nat.le_of_ble_eq_true rfl) ?_
          have hm : mm D (AZ z) M H := hm
          refine lv_istore (lv' := [(7, .int (ndc b (nI i))), (6, .int (nI i)), (0, .ref ba), (1, .ref wa), (2, .long cl), (4, .long fl)]) hx hb dX3_differs_52 hl (by decide) rfl (fun ls hl => ?_)
          refine lv_aload_n hx hb dX3_differs_54 rfl (lv_at hl 3 rfl) ?_
          refine lv_iload hx hb dX3_differs_55 (lv_at hl 1 rfl) ?_
          refine m_kV (As := [.int (nI i)]) (rest := []) (rm := { frames := 0, cells := 0, slots := 0, locals := 0 }) ⟨hx, hb, hml, hown, hts⟩ (c_X2_cell l D k z _ wa cwa (nlen w) w.1 w.2.1 w.2.2.1 (nI i) w.2.2.2 (nlen31 w) hnwa hcwa) (cwV 1 hts gX3_differs_X2_cell rfl rfl rfl (by decide +kernel) ⟨Nat.le_of_ble_eq_true rfl, Nat.le_of_ble_eq_true rfl⟩) (m_recv hK hm (q := (RX2, TX2, 4)) rfl hnwa) hz hcx hm hS rfl hl.1 rfl (Nat.le_of_ble_eq_true rfl) dX3_differs_57 ⟨Nat.le_of_ble_eq_true rfl, Nat.le_of_ble_eq_true rfl⟩ (fun v M1 H locs hv hm hS => ?_)
          obtain ⟨rfl, hM1⟩ := hv
          rw [hM1] at hm
          refine W.eq (g2 := F0 m 60 ls [.int (ndc w (nI i))]) rfl ?_
          refine W.widen (k := 0) (n := 0) (Nat.le_of_ble_eq_true rfl) (Nat.le_of_ble_eq_true rfl) ?_
          have hm : mm D (AZ z) M H := hm
          refine lv_istore (lv' := [(8, .int (ndc w (nI i))), (7, .int (ndc b (nI i))), (6, .int (nI i)), (0, .ref ba), (1, .ref wa), (2, .long cl), (4, .long fl)]) hx hb dX3_differs_60 hl (by decide) rfl (fun ls hl => ?_)
          refine lv_lload_n hx hb dX3_differs_62 rfl (lv_at hl 5 rfl) ?_
          refine lv_iload hx hb dX3_differs_63 (lv_at hl 2 rfl) ?_
          refine lv_lshr (v := (cl >>> ((nI i).toInt64 &&& 63))) hx hb dX3_differs_65 rfl ?_
          refine lv_lconst (v := 1) hx hb dX3_differs_66 (by decide) ?_
          refine lv_land hx hb dX3_differs_67 ?_
          refine lv_lconst (v := 0) hx hb dX3_differs_68 (by decide) ?_
          refine W.lcmp hx hb dX3_differs_69 ?_
          refine lv_if_eq (tgt := 82) hx hb dX3_differs_70 (by decide) (fun c47 => ?_) (fun c47 => ?_)
          · refine lv_aload_n hx hb dX3_differs_82 rfl (lv_at hl 3 rfl) ?_
            refine m_get (T := TX2) (N := 4) (ci := 2) (v := .int b.2.1) hx hb hts wX2 hown hK hm hnba rfl 1 (by decide) f58 (fun _ h9 => h9) rfl dX3_differs_83 ?_
            refine lv_if_eq (tgt := 126) hx hb dX3_differs_86 (by decide) (fun c48 => ?_) (fun c48 => ?_)
            · refine lv_iinc (v := ((nI i) + 1)) (lv' := [(6, .int ((nI i) + 1)), (8, .int (ndc w (nI i))), (7, .int (ndc b (nI i))), (0, .ref ba), (1, .ref wa), (2, .long cl), (4, .long fl)]) hx hb dX3_differs_126 hl (k := 2) rfl rfl (by decide) rfl (fun ls hl => ?_)
              refine lv_goto (tgt := 36) hx hb dX3_differs_129 (by decide) ?_
              rw [nI_1] at hl
              have hni : ¬ difI b w cl fl i := by first | (simp [difI, c47, c48]; done) | (exfalso; clear hl; grind only)
              exact ih36 (i + 1) _ _ _ ⟨by omega, fun j hj => if q : j = i then q ▸ hni else hno j (by omega), hm, hS, lv_sub hl [0, 3, 4, 5, 6] rfl⟩ (by omega)
            · refine lv_lload hx hb dX3_differs_89 (lv_at hl 6 rfl) ?_
              refine lv_iload hx hb dX3_differs_91 (lv_at hl 2 rfl) ?_
              refine lv_lshr (v := (fl >>> ((nI i).toInt64 &&& 63))) hx hb dX3_differs_93 rfl ?_
              refine lv_lconst (v := 1) hx hb dX3_differs_94 (by decide) ?_
              refine lv_land hx hb dX3_differs_95 ?_
              refine lv_lconst (v := 0) hx hb dX3_differs_96 (by decide) ?_
              refine W.lcmp hx hb dX3_differs_97 ?_
              refine lv_if_eq (tgt := 126) hx hb dX3_differs_98 (by decide) (fun c49 => ?_) (fun c49 => ?_)
              · refine lv_iinc (v := ((nI i) + 1)) (lv' := [(6, .int ((nI i) + 1)), (8, .int (ndc w (nI i))), (7, .int (ndc b (nI i))), (0, .ref ba), (1, .ref wa), (2, .long cl), (4, .long fl)]) hx hb dX3_differs_126 hl (k := 2) rfl rfl (by decide) rfl (fun ls hl => ?_)
                refine lv_goto (tgt := 36) hx hb dX3_differs_129 (by decide) ?_
                rw [nI_1] at hl
                have hni : ¬ difI b w cl fl i := by first | (simp [difI, c47, c48, c49]; done) | (exfalso; clear hl; grind only)
                exact ih36 (i + 1) _ _ _ ⟨by omega, fun j hj => if q : j = i then q ▸ hni else hno j (by omega), hm, hS, lv_sub hl [0, 3, 4, 5, 6] rfl⟩ (by omega)
              · refine lv_iload hx hb dX3_differs_101 (lv_at hl 1 rfl) ?_
                refine lv_if_eq (tgt := 110) hx hb dX3_differs_103 (by decide) (fun c50 => ?_) (fun c50 => ?_)
                · refine lv_iconst (v := 0) hx hb dX3_differs_110 (by decide) ?_
                  refine lv_iload hx hb dX3_differs_111 (lv_at hl 0 rfl) ?_
                  refine lv_if_eq (tgt := 120) hx hb dX3_differs_113 (by decide) (fun c51 => ?_) (fun c51 => ?_)
                  · refine lv_iconst (v := 0) hx hb dX3_differs_120 (by decide) ?_
                    refine lv_icmp_eq (tgt := 126) hx hb dX3_differs_121 (by decide) (fun c52 => ?_) (fun c52 => ?_)
                    · refine lv_iinc (v := ((nI i) + 1)) (lv' := [(6, .int ((nI i) + 1)), (8, .int (ndc w (nI i))), (7, .int (ndc b (nI i))), (0, .ref ba), (1, .ref wa), (2, .long cl), (4, .long fl)]) hx hb dX3_differs_126 hl (k := 2) rfl rfl (by decide) rfl (fun ls hl => ?_)
                      refine lv_goto (tgt := 36) hx hb dX3_differs_129 (by decide) ?_
                      rw [nI_1] at hl
                      have hni : ¬ difI b w cl fl i := by first | (simp [difI, c47, c48, c49, c50, c51, c52]; done) | (exfalso; clear hl; grind only)
                      exact ih36 (i + 1) _ _ _ ⟨by omega, fun j hj => if q : j = i then q ▸ hni else hno j (by omega), hm, hS, lv_sub hl [0, 3, 4, 5, 6] rfl⟩ (by omega)
                    · first | exact absurd c52 (by decide) | exact absurd (by decide) c52
                  · refine lv_iconst (v := 1) hx hb dX3_differs_116 (by decide) ?_
                    refine lv_goto (tgt := 121) hx hb dX3_differs_117 (by decide) ?_
                    refine lv_icmp_eq (tgt := 126) hx hb dX3_differs_121 (by decide) (fun c53 => ?_) (fun c53 => ?_)
                    · first | exact absurd c53 (by decide) | exact absurd (by decide) c53
                    · refine lv_iconst (v := 1) hx hb dX3_differs_124 (by decide) ?_
                      refine W.zret hx hb hr rfl (fun t ht hW => ⟨⟨some (.int 1), _, rfl, ?_, by rw [ht]; exact hm⟩, hS.F ht⟩) hS.2.2 dX3_differs_125
                      exact ⟨Or.inl ⟨Or.inr ⟨i, hlt9, by first | (simp [difI, c1, c23, c45, c46, c47, c48, c49, c50, c51, c53]; done) | (exfalso; clear hl; grind only)⟩, rfl⟩, rfl⟩
                · refine lv_iconst (v := 1) hx hb dX3_differs_106 (by decide) ?_
                  refine lv_goto (tgt := 111) hx hb dX3_differs_107 (by decide) ?_
                  refine lv_iload hx hb dX3_differs_111 (lv_at hl 0 rfl) ?_
                  refine lv_if_eq (tgt := 120) hx hb dX3_differs_113 (by decide) (fun c54 => ?_) (fun c54 => ?_)
                  · refine lv_iconst (v := 0) hx hb dX3_differs_120 (by decide) ?_
                    refine lv_icmp_eq (tgt := 126) hx hb dX3_differs_121 (by decide) (fun c55 => ?_) (fun c55 => ?_)
                    · first | exact absurd c55 (by decide) | exact absurd (by decide) c55
                    · refine lv_iconst (v := 1) hx hb dX3_differs_124 (by decide) ?_
                      refine W.zret hx hb hr rfl (fun t ht hW => ⟨⟨some (.int 1), _, rfl, ?_, by rw [ht]; exact hm⟩, hS.F ht⟩) hS.2.2 dX3_differs_125
                      exact ⟨Or.inl ⟨Or.inr ⟨i, hlt9, by first | (simp [difI, c1, c23, c45, c46, c47, c48, c49, c50, c54, c55]; done) | (exfalso; clear hl; grind only)⟩, rfl⟩, rfl⟩
                  · refine lv_iconst (v := 1) hx hb dX3_differs_116 (by decide) ?_
                    refine lv_goto (tgt := 121) hx hb dX3_differs_117 (by decide) ?_
                    refine lv_icmp_eq (tgt := 126) hx hb dX3_differs_121 (by decide) (fun c56 => ?_) (fun c56 => ?_)
                    · refine lv_iinc (v := ((nI i) + 1)) (lv' := [(6, .int ((nI i) + 1)), (8, .int (ndc w (nI i))), (7, .int (ndc b (nI i))), (0, .ref ba), (1, .ref wa), (2, .long cl), (4, .long fl)]) hx hb dX3_differs_126 hl (k := 2) rfl rfl (by decide) rfl (fun ls hl => ?_)
                      refine lv_goto (tgt := 36) hx hb dX3_differs_129 (by decide) ?_
                      rw [nI_1] at hl
                      have hni : ¬ difI b w cl fl i := by first | (simp [difI, c47, c48, c49, c50, c54, c56]; done) | (exfalso; clear hl; grind only)
                      exact ih36 (i + 1) _ _ _ ⟨by omega, fun j hj => if q : j = i then q ▸ hni else hno j (by omega), hm, hS, lv_sub hl [0, 3, 4, 5, 6] rfl⟩ (by omega)
                    · first | exact absurd c56 (by decide) | exact absurd (by decide) c56
          · refine lv_iload hx hb dX3_differs_73 (lv_at hl 1 rfl) ?_
            refine lv_iload hx hb dX3_differs_75 (lv_at hl 0 rfl) ?_
            refine lv_icmp_eq (tgt := 82) hx hb dX3_differs_77 (by decide) (fun c57 => ?_) (fun c57 => ?_)
            · refine lv_aload_n hx hb dX3_differs_82 rfl (lv_at hl 3 rfl) ?_
              refine m_get (T := TX2) (N := 4) (ci := 2) (v := .int b.2.1) hx hb hts wX2 hown hK hm hnba rfl 1 (by decide) f58 (fun _ h9 => h9) rfl dX3_differs_83 ?_
              refine lv_if_eq (tgt := 126) hx hb dX3_differs_86 (by decide) (fun c58 => ?_) (fun c58 => ?_)
              · refine lv_iinc (v := ((nI i) + 1)) (lv' := [(6, .int ((nI i) + 1)), (8, .int (ndc w (nI i))), (7, .int (ndc b (nI i))), (0, .ref ba), (1, .ref wa), (2, .long cl), (4, .long fl)]) hx hb dX3_differs_126 hl (k := 2) rfl rfl (by decide) rfl (fun ls hl => ?_)
                refine lv_goto (tgt := 36) hx hb dX3_differs_129 (by decide) ?_
                rw [nI_1] at hl
                have hni : ¬ difI b w cl fl i := by first | (simp [difI, c47, c57, c58]; done) | (exfalso; clear hl; grind only)
                exact ih36 (i + 1) _ _ _ ⟨by omega, fun j hj => if q : j = i then q ▸ hni else hno j (by omega), hm, hS, lv_sub hl [0, 3, 4, 5, 6] rfl⟩ (by omega)
              · refine lv_lload hx hb dX3_differs_89 (lv_at hl 6 rfl) ?_
                refine lv_iload hx hb dX3_differs_91 (lv_at hl 2 rfl) ?_
                refine lv_lshr (v := (fl >>> ((nI i).toInt64 &&& 63))) hx hb dX3_differs_93 rfl ?_
                refine lv_lconst (v := 1) hx hb dX3_differs_94 (by decide) ?_
                refine lv_land hx hb dX3_differs_95 ?_
                refine lv_lconst (v := 0) hx hb dX3_differs_96 (by decide) ?_
                refine W.lcmp hx hb dX3_differs_97 ?_
                refine lv_if_eq (tgt := 126) hx hb dX3_differs_98 (by decide) (fun c59 => ?_) (fun c59 => ?_)
                · refine lv_iinc (v := ((nI i) + 1)) (lv' := [(6, .int ((nI i) + 1)), (8, .int (ndc w (nI i))), (7, .int (ndc b (nI i))), (0, .ref ba), (1, .ref wa), (2, .long cl), (4, .long fl)]) hx hb dX3_differs_126 hl (k := 2) rfl rfl (by decide) rfl (fun ls hl => ?_)
                  refine lv_goto (tgt := 36) hx hb dX3_differs_129 (by decide) ?_
                  rw [nI_1] at hl
                  have hni : ¬ difI b w cl fl i := by first | (simp [difI, c47, c57, c58, c59]; done) | (exfalso; clear hl; grind only)
                  exact ih36 (i + 1) _ _ _ ⟨by omega, fun j hj => if q : j = i then q ▸ hni else hno j (by omega), hm, hS, lv_sub hl [0, 3, 4, 5, 6] rfl⟩ (by omega)
                · refine lv_iload hx hb dX3_differs_101 (lv_at hl 1 rfl) ?_
                  refine lv_if_eq (tgt := 110) hx hb dX3_differs_103 (by decide) (fun c60 => ?_) (fun c60 => ?_)
                  · refine lv_iconst (v := 0) hx hb dX3_differs_110 (by decide) ?_
                    refine lv_iload hx hb dX3_differs_111 (lv_at hl 0 rfl) ?_
                    refine lv_if_eq (tgt := 120) hx hb dX3_differs_113 (by decide) (fun c61 => ?_) (fun c61 => ?_)
                    · refine lv_iconst (v := 0) hx hb dX3_differs_120 (by decide) ?_
                      refine lv_icmp_eq (tgt := 126) hx hb dX3_differs_121 (by decide) (fun c62 => ?_) (fun c62 => ?_)
                      · refine lv_iinc (v := ((nI i) + 1)) (lv' := [(6, .int ((nI i) + 1)), (8, .int (ndc w (nI i))), (7, .int (ndc b (nI i))), (0, .ref ba), (1, .ref wa), (2, .long cl), (4, .long fl)]) hx hb dX3_differs_126 hl (k := 2) rfl rfl (by decide) rfl (fun ls hl => ?_)
                        refine lv_goto (tgt := 36) hx hb dX3_differs_129 (by decide) ?_
                        rw [nI_1] at hl
                        have hni : ¬ difI b w cl fl i := by first | (simp [difI, c47, c57, c58, c59, c60, c61, c62]; done) | (exfalso; clear hl; grind only)
                        exact ih36 (i + 1) _ _ _ ⟨by omega, fun j hj => if q : j = i then q ▸ hni else hno j (by omega), hm, hS, lv_sub hl [0, 3, 4, 5, 6] rfl⟩ (by omega)
                      · first | exact absurd c62 (by decide) | exact absurd (by decide) c62
                    · refine lv_iconst (v := 1) hx hb dX3_differs_116 (by decide) ?_
                      refine lv_goto (tgt := 121) hx hb dX3_differs_117 (by decide) ?_
                      refine lv_icmp_eq (tgt := 126) hx hb dX3_differs_121 (by decide) (fun c63 => ?_) (fun c63 => ?_)
                      · first | exact absurd c63 (by decide) | exact absurd (by decide) c63
                      · refine lv_iconst (v := 1) hx hb dX3_differs_124 (by decide) ?_
                        refine W.zret hx hb hr rfl (fun t ht hW => ⟨⟨some (.int 1), _, rfl, ?_, by rw [ht]; exact hm⟩, hS.F ht⟩) hS.2.2 dX3_differs_125
                        exact ⟨Or.inl ⟨Or.inr ⟨i, hlt9, by first | (simp [difI, c1, c23, c45, c46, c47, c57, c58, c59, c60, c61, c63]; done) | (exfalso; clear hl; grind only)⟩, rfl⟩, rfl⟩
                  · refine lv_iconst (v := 1) hx hb dX3_differs_106 (by decide) ?_
                    refine lv_goto (tgt := 111) hx hb dX3_differs_107 (by decide) ?_
                    refine lv_iload hx hb dX3_differs_111 (lv_at hl 0 rfl) ?_
                    refine lv_if_eq (tgt := 120) hx hb dX3_differs_113 (by decide) (fun c64 => ?_) (fun c64 => ?_)
                    · refine lv_iconst (v := 0) hx hb dX3_differs_120 (by decide) ?_
                      refine lv_icmp_eq (tgt := 126) hx hb dX3_differs_121 (by decide) (fun c65 => ?_) (fun c65 => ?_)
                      · first | exact absurd c65 (by decide) | exact absurd (by decide) c65
                      · refine lv_iconst (v := 1) hx hb dX3_differs_124 (by decide) ?_
                        refine W.zret hx hb hr rfl (fun t ht hW => ⟨⟨some (.int 1), _, rfl, ?_, by rw [ht]; exact hm⟩, hS.F ht⟩) hS.2.2 dX3_differs_125
                        exact ⟨Or.inl ⟨Or.inr ⟨i, hlt9, by first | (simp [difI, c1, c23, c45, c46, c47, c57, c58, c59, c60, c64, c65]; done) | (exfalso; clear hl; grind only)⟩, rfl⟩, rfl⟩
                    · refine lv_iconst (v := 1) hx hb dX3_differs_116 (by decide) ?_
                      refine lv_goto (tgt := 121) hx hb dX3_differs_117 (by decide) ?_
                      refine lv_icmp_eq (tgt := 126) hx hb dX3_differs_121 (by decide) (fun c66 => ?_) (fun c66 => ?_)
                      · refine lv_iinc (v := ((nI i) + 1)) (lv' := [(6, .int ((nI i) + 1)), (8, .int (ndc w (nI i))), (7, .int (ndc b (nI i))), (0, .ref ba), (1, .ref wa), (2, .long cl), (4, .long fl)]) hx hb dX3_differs_126 hl (k := 2) rfl rfl (by decide) rfl (fun ls hl => ?_)
                        refine lv_goto (tgt := 36) hx hb dX3_differs_129 (by decide) ?_
                        rw [nI_1] at hl
                        have hni : ¬ difI b w cl fl i := by first | (simp [difI, c47, c57, c58, c59, c60, c64, c66]; done) | (exfalso; clear hl; grind only)
                        exact ih36 (i + 1) _ _ _ ⟨by omega, fun j hj => if q : j = i then q ▸ hni else hno j (by omega), hm, hS, lv_sub hl [0, 3, 4, 5, 6] rfl⟩ (by omega)
                      · first | exact absurd c66 (by decide) | exact absurd (by decide) c66
            · refine lv_iconst (v := 1) hx hb dX3_differs_80 (by decide) ?_
              refine W.zret hx hb hr rfl (fun t ht hW => ⟨⟨some (.int 1), _, rfl, ?_, by rw [ht]; exact hm⟩, hS.F ht⟩) hS.2.2 dX3_differs_81
              exact ⟨Or.inl ⟨Or.inr ⟨i, hlt9, by first | (simp [difI, c1, c23, c45, c46, c47, c57]; done) | (exfalso; clear hl; grind only)⟩, rfl⟩, rfl⟩
      · refine lv_iconst (v := 1) hx hb dX3_differs_31 (by decide) ?_
        refine W.zret hx hb hr rfl (fun t ht hW => ⟨⟨some (.int 1), _, rfl, ?_, by rw [ht]; exact hm⟩, hS.F ht⟩) hS.2.2 dX3_differs_32
        exact ⟨Or.inl ⟨Or.inl (by simp [dif0, c1, c23, c45]), rfl⟩, rfl⟩
