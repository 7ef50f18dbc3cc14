/-- Merge.comes: whether what was "fr" in the base and is "tt" in the view comes to what is "n" now -/
def comesV (fr tt n : Int32) : Int32 := if tt = fr then 0 else if tt = n then 0 else 1
/-- Merge.merged -/
def mergedV (fr tt n : Int32) : Int32 := if tt = fr then n else tt

set_option maxHeartbeats 4000000 in
set_option maxRecDepth 100000 in
theorem c_X1_comes (l : Launch) (D : va_G) (k : Nat → ClassId) (z : Nat) (M : mM) (fr tt n : Int32) : mK l yX1_comes wsX1_comes ({ frames := 0, cells := 0, slots := 0, locals := 0 }) D k z [.int fr, .int tt, .int n] M (fun v M' => v = some (.int (comesV fr tt n)) ∧ M' = M) := by
  refine Met.ofW (cc := cX1_comes) (maxL := 3) (ret := (some .boolean)) (by decide) rfl ?_
  intro p e s m args below meth c s₁ B hml hv
  obtain ⟨rfl, hz, hcx, hm⟩ := hv
  have hx := B.exec
  have hb := B.bytes
  have hr := B.returns
  have hts := atoms_spec (ws := wsX1_comes) B.pre
  have hown : s.vm.findClass RX1 = some m.cls := findClass_of_methodNamed B.named
  have hlocks := B.notSynchronized
  have hK := hcx.1
  have hS : va_S (AZ z) s.heap s.heap [] := va_S.rf
  have hA : ∀ q, s.heap.size ≤ q → AZ z q := fun q h => Nat.le_trans hz h
  have hl := lv_entry ([.int fr, .int tt, .int n]) (n := 3) (Nat.le_of_ble_eq_true rfl)
  rw [lg_entry_eq]
  generalize (lg_sl ([.int fr, .int tt, .int n]) ++ List.replicate (3 - (lg_sl ([.int fr, .int tt, .int n])).length) Slot.unset).toArray = ls at hl ⊢
  have hl : lv_has ls 3 [(0, .int fr), (1, .int tt), (2, .int n)] := hl
  refine lv_iload_n hx hb dX1_comes_0 rfl (lv_at hl 1 rfl) ?_
  refine lv_iload_n hx hb dX1_comes_1 rfl (lv_at hl 0 rfl) ?_
  refine lv_icmp_eq (tgt := 14) hx hb dX1_comes_2 (by decide) (fun c1 => ?_) (fun c1 => ?_)
  · refine lv_iconst (v := 0) hx hb dX1_comes_14 (by decide) ?_
    refine W.zret hx hb hr rfl (fun t ht hW => ⟨⟨some (.int 0), _, rfl, ?_, by rw [ht]; exact hm⟩, hS.F ht⟩) hS.2.2 dX1_comes_15
    exact ⟨by simp [comesV, c1], rfl⟩
  · refine lv_iload_n hx hb dX1_comes_5 rfl (lv_at hl 1 rfl) ?_
    refine lv_iload_n hx hb dX1_comes_6 rfl (lv_at hl 2 rfl) ?_
    refine lv_icmp_eq (tgt := 14) hx hb dX1_comes_7 (by decide) (fun c2 => ?_) (fun c2 => ?_)
    · refine lv_iconst (v := 0) hx hb dX1_comes_14 (by decide) ?_
      refine W.zret hx hb hr rfl (fun t ht hW => ⟨⟨some (.int 0), _, rfl, ?_, by rw [ht]; exact hm⟩, hS.F ht⟩) hS.2.2 dX1_comes_15
      exact ⟨by simp [comesV, c1, c2], rfl⟩
    · refine lv_iconst (v := 1) hx hb dX1_comes_10 (by decide) ?_
      refine lv_goto (tgt := 15) hx hb dX1_comes_11 (by decide) ?_
      refine W.zret hx hb hr rfl (fun t ht hW => ⟨⟨some (.int 1), _, rfl, ?_, by rw [ht]; exact hm⟩, hS.F ht⟩) hS.2.2 dX1_comes_15
      exact ⟨by simp [comesV, c1, c2], rfl⟩

set_option maxHeartbeats 4000000 in
set_option maxRecDepth 100000 in
theorem c_X1_merged (l : Launch) (D : va_G) (k : Nat → ClassId) (z : Nat) (M : mM) (fr tt n : Int32) : mK l yX1_merged wsX1_merged ({ frames := 0, cells := 0, slots := 0, locals := 0 }) D k z [.int fr, .int tt, .int n] M (fun v M' => v = some (.int (mergedV fr tt n)) ∧ M' = M) := by
  refine Met.ofW (cc := cX1_merged) (maxL := 3) (ret := (some .int)) (by decide) rfl ?_
  intro p e s m args below meth c s₁ B hml hv
  obtain ⟨rfl, hz, hcx, hm⟩ := hv
  have hx := B.exec
  have hb := B.bytes
  have hr := B.returns
  have hts := atoms_spec (ws := wsX1_merged) B.pre
  have hown : s.vm.findClass RX1 = some m.cls := findClass_of_methodNamed B.named
  have hlocks := B.notSynchronized
  have hK := hcx.1
  have hS : va_S (AZ z) s.heap s.heap [] := va_S.rf
  have hA : ∀ q, s.heap.size ≤ q → AZ z q := fun q h => Nat.le_trans hz h
  have hl := lv_entry ([.int fr, .int tt, .int n]) (n := 3) (Nat.le_of_ble_eq_true rfl)
  rw [lg_entry_eq]
  generalize (lg_sl ([.int fr, .int tt, .int n]) ++ List.replicate (3 - (lg_sl ([.int fr, .int tt, .int n])).length) Slot.unset).toArray = ls at hl ⊢
  have hl : lv_has ls 3 [(0, .int fr), (1, .int tt), (2, .int n)] := hl
  refine lv_iload_n hx hb dX1_merged_0 rfl (lv_at hl 1 rfl) ?_
  refine lv_iload_n hx hb dX1_merged_1 rfl (lv_at hl 0 rfl) ?_
  refine lv_icmp_eq (tgt := 9) hx hb dX1_merged_2 (by decide) (fun c1 => ?_) (fun c1 => ?_)
  · refine lv_iload_n hx hb dX1_merged_9 rfl (lv_at hl 2 rfl) ?_
    refine W.iret (v := n) hx hb hr (fun t ht hW => ⟨⟨some (.int n), _, rfl, ?_, by rw [ht]; exact hm⟩, hS.F ht⟩) hS.2.2 dX1_merged_10
    exact ⟨by simp [mergedV, c1], rfl⟩
  · refine lv_iload_n hx hb dX1_merged_5 rfl (lv_at hl 1 rfl) ?_
    refine lv_goto (tgt := 10) hx hb dX1_merged_6 (by decide) ?_
    refine W.iret (v := tt) hx hb hr (fun t ht hW => ⟨⟨some (.int tt), _, rfl, ?_, by rw [ht]; exact hm⟩, hS.F ht⟩) hS.2.2 dX1_merged_10
    exact ⟨by simp [mergedV, c1], rfl⟩

/-- Merge.wordBlocksComing after i words: the latest block that came, how many did -/
def wbc (f tt n : NV) : Nat → Int32 × Int32
  | 0 => (-1, 0)
  | i + 1 => if nI i / 8 = (wbc f tt n i).1 then wbc f tt n i else if n.2.2.1 ≤ nI i then (nI i / 8, (wbc f tt n i).2 + 1) else if comesV (ndc f (nI i)) (ndc tt (nI i)) (ndc n (nI i)) = 0 then wbc f tt n i else (nI i / 8, (wbc f tt n i).2 + 1)

set_option maxHeartbeats 4000000 in
set_option maxRecDepth 100000 in
theorem c_X1_wordBlocksComing (l : Launch) (D : va_G) (k : Nat → ClassId) (z : Nat) (M : mM) (fa ta na m9 : Nat) (f tt n : NV) (hm9 : m9 ≤ 64) (hmg : mergedV f.2.2.1 tt.2.2.1 n.2.2.1 = nI m9) (hF : nodeAt k M fa f) (hT : nodeAt k M ta tt) (hN : nodeAt k M na n) : mK l yX1_wordBlocksComing wsX1_wordBlocksComing ({ frames := 1, cells := 0, slots := 0, locals := 24 }) D k z [.ref fa, .ref ta, .ref na] M (fun v M' => v = some (.int (wbc f tt n m9).2) ∧ M' = M) := by
  refine Met.ofW (cc := cX1_wordBlocksComing) (maxL := 8) (ret := (some .int)) (by decide) rfl ?_
  intro p e s m args below meth c s₁ B hml hv
  obtain ⟨rfl, hz, hcx, hm⟩ := hv
  have hx := B.exec
  have hb := B.bytes
  have hr := B.returns
  have hts := atoms_spec (ws := wsX1_wordBlocksComing) B.pre
  have hown : s.vm.findClass RX1 = some m.cls := findClass_of_methodNamed B.named
  have hlocks := B.notSynchronized
  have hK := hcx.1
  have hS : va_S (AZ z) s.heap s.heap [] := va_S.rf
  have hA : ∀ q, s.heap.size ≤ q → AZ z q := fun q h => Nat.le_trans hz h
  have hl := lv_entry ([.ref fa, .ref ta, .ref na]) (n := 8) (Nat.le_of_ble_eq_true rfl)
  rw [lg_entry_eq]
  generalize (lg_sl ([.ref fa, .ref ta, .ref na]) ++ List.replicate (8 - (lg_sl ([.ref fa, .ref ta, .ref na])).length) Slot.unset).toArray = ls at hl ⊢
  have hl : lv_has ls 8 [(0, .ref fa), (1, .ref ta), (2, .ref na)] := hl
  have f80 := hts (.fieldLink RX1 80 "CommitTree$Node" "size" "I") (by decide +kernel)
  have wX2 : ∀ w ∈ wsX20, w ∈ wsX1_wordBlocksComing := by decide +kernel
  obtain ⟨hdf, cfa, hnfa, hcfa⟩ := And.intro hF.1 hF.2
  obtain ⟨hdt, cta, hnta, hcta⟩ := And.intro hT.1 hT.2
  obtain ⟨hdn, cna, hnna, hcna⟩ := And.intro hN.1 hN.2
  refine lv_aload_n hx hb dX1_wordBlocksComing_0 rfl (lv_at hl 0 rfl) ?_
  refine m_get (T := TX2) (N := 4) (ci := 2) (v := .int f.2.2.1) hx hb hts wX2 hown hK hm hnfa rfl 2 (by decide) f80 (fun _ h9 => h9) rfl dX1_wordBlocksComing_1 ?_
  refine lv_aload_n hx hb dX1_wordBlocksComing_4 rfl (lv_at hl 1 rfl) ?_
  refine m_get (T := TX2) (N := 4) (ci := 2) (v := .int tt.2.2.1) hx hb hts wX2 hown hK hm hnta rfl 2 (by decide) f80 (fun _ h9 => h9) rfl dX1_wordBlocksComing_5 ?_
  refine lv_aload_n hx hb dX1_wordBlocksComing_8 rfl (lv_at hl 2 rfl) ?_
  refine m_get (T := TX2) (N := 4) (ci := 2) (v := .int n.2.2.1) hx hb hts wX2 hown hK hm hnna rfl 2 (by decide) f80 (fun _ h9 => h9) rfl dX1_wordBlocksComing_9 ?_
  refine m_kS (As := [.int f.2.2.1, .int tt.2.2.1, .int n.2.2.1]) (rest := []) (rm := { frames := 0, cells := 0, slots := 0, locals := 0 }) ⟨hx, hb, hml, hown, hts⟩ (c_X1_merged l D k z _ f.2.2.1 tt.2.2.1 n.2.2.1) (cwS 3 hts gX1_wordBlocksComing_X1_merged rfl rfl rfl (by decide +kernel) ⟨Nat.le_of_ble_eq_true rfl, Nat.le_of_ble_eq_true rfl⟩) hz hcx hm hS rfl hl.1 rfl (Nat.le_of_ble_eq_true rfl) dX1_wordBlocksComing_12 ⟨Nat.le_of_ble_eq_true rfl, Nat.le_of_ble_eq_true rfl⟩ (fun v M1 H locs hv hm hS => ?_)
  obtain ⟨hv1, hM1⟩ := hv
  rw [hmg] at hv1
  subst hv1
  rw [hM1] at hm
  refine W.eq (g2 := F0 m 15 ls [.int (nI m9)]) rfl ?_
  refine W.widen (k := 0) (n := 0) (Nat.le_of_ble_eq_true rfl) (Nat.le_of_ble_eq_true rfl) ?_
  have hm : mm D (AZ z) M H := hm
  refine lv_istore_n (lv' := [(3, .int (nI m9)), (0, .ref fa), (1, .ref ta), (2, .ref na)]) hx hb dX1_wordBlocksComing_15 rfl hl (by decide) rfl (fun ls hl => ?_)
  refine lv_iconst (v := (-1)) hx hb dX1_wordBlocksComing_16 (by decide) ?_
  refine lv_istore (lv' := [(4, .int (-1)), (3, .int (nI m9)), (0, .ref fa), (1, .ref ta), (2, .ref na)]) hx hb dX1_wordBlocksComing_17 hl (by decide) rfl (fun ls hl => ?_)
  refine lv_iconst (v := 0) hx hb dX1_wordBlocksComing_19 (by decide) ?_
  refine lv_istore (lv' := [(5, .int 0), (4, .int (-1)), (3, .int (nI m9)), (0, .ref fa), (1, .ref ta), (2, .ref na)]) hx hb dX1_wordBlocksComing_20 hl (by decide) rfl (fun ls hl => ?_)
  refine lv_iconst (v := 0) hx hb dX1_wordBlocksComing_22 (by decide) ?_
  refine lv_istore (lv' := [(6, .int 0), (5, .int 0), (4, .int (-1)), (3, .int (nI m9)), (0, .ref fa), (1, .ref ta), (2, .ref na)]) hx hb dX1_wordBlocksComing_23 hl (by decide) rfl (fun ls hl => ?_)
  refine W_loop (σ := Nat) (fun i H locs ls => (i ≤ m9) ∧ mm D (AZ z) M H ∧ va_S (AZ z) s.heap H locs ∧ lv_has ls 8 [(6, .int (nI i)), (5, .int (wbc f tt n i).2), (4, .int (wbc f tt n i).1), (3, .int (nI m9)), (0, .ref fa), (1, .ref ta), (2, .ref na)]) (fun i => m9 - i) (fun i => 0) (fun i => 0) ?_ 0 _ _ _ ⟨Nat.zero_le _, hm, hS, lv_sub hl [0, 1, 2, 3, 4, 5, 6] rfl⟩
  intro i H locs ls hI ih25
  obtain ⟨hi, hm, hS, hl⟩ := hI
  try dsimp only at hm hl ih25 ⊢
  refine lv_iload hx hb dX1_wordBlocksComing_25 (lv_at hl 0 rfl) ?_
  refine lv_iload_n hx hb dX1_wordBlocksComing_27 rfl (lv_at hl 3 rfl) ?_
  refine lv_icmp_ge (tgt := 91) hx hb dX1_wordBlocksComing_28 (by decide) (fun c1 => ?_) (fun c1 => ?_)
  · refine lv_iload hx hb dX1_wordBlocksComing_91 (lv_at hl 1 rfl) ?_
    refine W.iret (v := (wbc f tt n i).2) hx hb hr (fun t ht hW => ⟨⟨some (.int (wbc f tt n i).2), _, rfl, ?_, by rw [ht]; exact hm⟩, hS.F ht⟩) hS.2.2 dX1_wordBlocksComing_93
    have he : i = m9 := Nat.le_antisymm hi ((nI_leI (by omega) (by omega)).mp c1)
    subst he
    exact ⟨rfl, rfl⟩
  · have hlt9 : i < m9 := Nat.lt_of_not_le fun q => c1 (nI_le q (by omega))
    refine lv_iload hx hb dX1_wordBlocksComing_31 (lv_at hl 0 rfl) ?_
    refine lv_bipush (v := 8) hx hb dX1_wordBlocksComing_33 (by decide) ?_
    refine lv_idiv hx hb dX1_wordBlocksComing_35 (by decide) ?_
    refine lv_istore (lv' := [(7, .int ((nI i) / 8)), (6, .int (nI i)), (5, .int (wbc f tt n i).2), (4, .int (wbc f tt n i).1), (3, .int (nI m9)), (0, .ref fa), (1, .ref ta), (2, .ref na)]) hx hb dX1_wordBlocksComing_36 hl (by decide) rfl (fun ls hl => ?_)
    refine lv_iload hx hb dX1_wordBlocksComing_38 (lv_at hl 0 rfl) ?_
    refine lv_iload hx hb dX1_wordBlocksComing_40 (lv_at hl 3 rfl) ?_
    refine lv_icmp_eq (tgt := 85) hx hb dX1_wordBlocksComing_42 (by decide) (fun c2 => ?_) (fun c2 => ?_)
    · refine lv_iinc (v := ((nI i) + 1)) (lv' := [(6, .int ((nI i) + 1)), (7, .int ((nI i) / 8)), (5, .int (wbc f tt n i).2), (4, .int (wbc f tt n i).1), (3, .int (nI m9)), (0, .ref fa), (1, .ref ta), (2, .ref na)]) hx hb dX1_wordBlocksComing_85 hl (k := 1) rfl rfl (by decide) rfl (fun ls hl => ?_)
      refine lv_goto (tgt := 25) hx hb dX1_wordBlocksComing_88 (by decide) ?_
      rw [nI_1] at hl
      have h4 : (wbc f tt n i).1 = (wbc f tt n (i + 1)).1 := by simp [wbc, c1, c2]
      have h5 : (wbc f tt n i).2 = (wbc f tt n (i + 1)).2 := by simp [wbc, c1, c2]
      rw [h4, h5] at hl
      exact ih25 (i + 1) _ _ _ ⟨by omega, hm, hS, lv_sub hl [0, 2, 3, 4, 5, 6, 7] rfl⟩ (by omega)
    · refine lv_iload hx hb dX1_wordBlocksComing_45 (lv_at hl 1 rfl) ?_
      refine lv_aload_n hx hb dX1_wordBlocksComing_47 rfl (lv_at hl 7 rfl) ?_
      refine m_get (T := TX2) (N := 4) (ci := 2) (v := .int n.2.2.1) hx hb hts wX2 hown hK hm hnna rfl 2 (by decide) f80 (fun _ h9 => h9) rfl dX1_wordBlocksComing_48 ?_
      refine lv_icmp_ge (tgt := 78) hx hb dX1_wordBlocksComing_51 (by decide) (fun c3 => ?_) (fun c3 => ?_)
      · refine lv_iload hx hb dX1_wordBlocksComing_78 (lv_at hl 0 rfl) ?_
        refine lv_istore (lv' := [(4, .int ((nI i) / 8)), (7, .int ((nI i) / 8)), (6, .int (nI i)), (5, .int (wbc f tt n i).2), (3, .int (nI m9)), (0, .ref fa), (1, .ref ta), (2, .ref na)]) hx hb dX1_wordBlocksComing_80 hl (by decide) rfl (fun ls hl => ?_)
        refine lv_iinc (v := ((wbc f tt n i).2 + 1)) (lv' := [(5, .int ((wbc f tt n i).2 + 1)), (4, .int ((nI i) / 8)), (7, .int ((nI i) / 8)), (6, .int (nI i)), (3, .int (nI m9)), (0, .ref fa), (1, .ref ta), (2, .ref na)]) hx hb dX1_wordBlocksComing_82 hl (k := 3) rfl rfl (by decide) rfl (fun ls hl => ?_)
        refine lv_iinc (v := ((nI i) + 1)) (lv' := [(6, .int ((nI i) + 1)), (5, .int ((wbc f tt n i).2 + 1)), (4, .int ((nI i) / 8)), (7, .int ((nI i) / 8)), (3, .int (nI m9)), (0, .ref fa), (1, .ref ta), (2, .ref na)]) hx hb dX1_wordBlocksComing_85 hl (k := 3) rfl rfl (by decide) rfl (fun ls hl => ?_)
        refine lv_goto (tgt := 25) hx hb dX1_wordBlocksComing_88 (by decide) ?_
        rw [nI_1] at hl
        have h4 : ((nI i) / 8) = (wbc f tt n (i + 1)).1 := by simp [wbc, c1, c2, c3]
        have h5 : ((wbc f tt n i).2 + 1) = (wbc f tt n (i + 1)).2 := by simp [wbc, c1, c2, c3]
        rw [h4, h5] at hl
        exact ih25 (i + 1) _ _ _ ⟨by omega, hm, hS, lv_sub hl [0, 1, 2, 4, 5, 6, 7] rfl⟩ (by omega)
      · refine lv_aload_n hx hb dX1_wordBlocksComing_54 rfl (lv_at hl 5 rfl) ?_
        refine lv_iload hx hb dX1_wordBlocksComing_55 (lv_at hl 1 rfl) ?_
        refine m_kV (As := [.int (nI i)]) (rest := []) (rm := { frames := 0, cells := 0, slots := 0, locals := 0 }) ⟨hx, hb, hml, hown, hts⟩ (c_X2_cell l D k z _ fa cfa (nlen f) f.1 f.2.1 f.2.2.1 (nI i) f.2.2.2 (nlen31 f) hnfa hcfa) (cwV 1 hts gX1_wordBlocksComing_X2_cell rfl rfl rfl (by decide +kernel) ⟨Nat.le_of_ble_eq_true rfl, Nat.le_of_ble_eq_true rfl⟩) (m_recv hK hm (q := (RX2, TX2, 4)) rfl hnfa) hz hcx hm hS rfl hl.1 rfl (Nat.le_of_ble_eq_true rfl) dX1_wordBlocksComing_57 ⟨Nat.le_of_ble_eq_true rfl, Nat.le_of_ble_eq_true rfl⟩ (fun v M1 H locs hv hm hS => ?_)
        obtain ⟨rfl, hM1⟩ := hv
        rw [hM1] at hm
        refine W.eq (g2 := F0 m 60 ls [.int (ndc f (nI i))]) rfl ?_
        refine W.widen (k := 0) (n := 0) (Nat.le_of_ble_eq_true rfl) (Nat.le_of_ble_eq_true rfl) ?_
        have hm : mm D (AZ z) M H := hm
        refine lv_aload_n hx hb dX1_wordBlocksComing_60 rfl (lv_at hl 6 rfl) ?_
        refine lv_iload hx hb dX1_wordBlocksComing_61 (lv_at hl 1 rfl) ?_
        refine m_kV (As := [.int (nI i)]) (rest := [.int (ndc f (nI i))]) (rm := { frames := 0, cells := 0, slots := 0, locals := 0 }) ⟨hx, hb, hml, hown, hts⟩ (c_X2_cell l D k z _ ta cta (nlen tt) tt.1 tt.2.1 tt.2.2.1 (nI i) tt.2.2.2 (nlen31 tt) hnta hcta) (cwV 1 hts gX1_wordBlocksComing_X2_cell rfl rfl rfl (by decide +kernel) ⟨Nat.le_of_ble_eq_true rfl, Nat.le_of_ble_eq_true rfl⟩) (m_recv hK hm (q := (RX2, TX2, 4)) rfl hnta) hz hcx hm hS rfl hl.1 rfl (Nat.le_of_ble_eq_true rfl) dX1_wordBlocksComing_63 ⟨Nat.le_of_ble_eq_true rfl, Nat.le_of_ble_eq_true rfl⟩ (fun v M1 H locs hv hm hS => ?_)
        obtain ⟨rfl, hM1⟩ := hv
        rw [hM1] at hm
        refine W.eq (g2 := F0 m 66 ls [.int (ndc tt (nI i)), .int (ndc f (nI i))]) rfl ?_
        refine W.widen (k := 0) (n := 0) (Nat.le_of_ble_eq_true rfl) (Nat.le_of_ble_eq_true rfl) ?_
        have hm : mm D (AZ z) M H := hm
        refine lv_aload_n hx hb dX1_wordBlocksComing_66 rfl (lv_at hl 7 rfl) ?_
        refine lv_iload hx hb dX1_wordBlocksComing_67 (lv_at hl 1 rfl) ?_
        refine m_kV (As := [.int (nI i)]) (rest := [.int (ndc tt (nI i)), .int (ndc f (nI i))]) (rm := { frames := 0, cells := 0, slots := 0, locals := 0 }) ⟨hx, hb, hml, hown, hts⟩ (c_X2_cell l D k z _ na cna (nlen n) n.1 n.2.1 n.2.2.1 (nI i) n.2.2.2 (nlen31 n) hnna hcna) (cwV 1 hts gX1_wordBlocksComing_X2_cell rfl rfl rfl (by decide +kernel) ⟨Nat.le_of_ble_eq_true rfl, Nat.le_of_ble_eq_true rfl⟩) (m_recv hK hm (q := (RX2, TX2, 4)) rfl hnna) hz hcx hm hS rfl hl.1 rfl (Nat.le_of_ble_eq_true rfl) dX1_wordBlocksComing_69 ⟨Nat.le_of_ble_eq_true rfl, Nat.le_of_ble_eq_true rfl⟩ (fun v M1 H locs hv hm hS => ?_)
        obtain ⟨rfl, hM1⟩ := hv
        rw [hM1] at hm
        refine W.eq (g2 := F0 m 72 ls [.int (ndc n (nI i)), .int (ndc tt (nI i)), .int (ndc f (nI i))]) rfl ?_
        refine W.widen (k := 0) (n := 0) (Nat.le_of_ble_eq_true rfl) (Nat.le_of_ble_eq_true rfl) ?_
        have hm : mm D (AZ z) M H := hm
        refine m_kS (As := [.int (ndc f (nI i)), .int (ndc tt (nI i)), .int (ndc n (nI i))]) (rest := []) (rm := { frames := 0, cells := 0, slots := 0, locals := 0 }) ⟨hx, hb, hml, hown, hts⟩ (c_X1_comes l D k z _ (ndc f (nI i)) (ndc tt (nI i)) (ndc n (nI i))) (cwS 3 hts gX1_wordBlocksComing_X1_comes rfl rfl rfl (by decide +kernel) ⟨Nat.le_of_ble_eq_true rfl, Nat.le_of_ble_eq_true rfl⟩) hz hcx hm hS rfl hl.1 rfl (Nat.le_of_ble_eq_true rfl) dX1_wordBlocksComing_72 ⟨Nat.le_of_ble_eq_true rfl, Nat.le_of_ble_eq_true rfl⟩ (fun v M1 H locs hv hm hS => ?_)
        obtain ⟨rfl, hM1⟩ := hv
        rw [hM1] at hm
        refine W.eq (g2 := F0 m 75 ls [.int (comesV (ndc f (nI i)) (ndc tt (nI i)) (ndc n (nI i)))]) rfl ?_
        refine W.widen (k := 0) (n := 0) (Nat.le_of_ble_eq_true rfl) (Nat.le_of_ble_eq_true rfl) ?_
        have hm : mm D (AZ z) M H := hm
        refine lv_if_eq (tgt := 85) hx hb dX1_wordBlocksComing_75 (by decide) (fun c4 => ?_) (fun c4 => ?_)
        · refine lv_iinc (v := ((nI i) + 1)) (lv' := [(6, .int ((nI i) + 1)), (7, .int ((nI i) / 8)), (5, .int (wbc f tt n i).2), (4, .int (wbc f tt n i).1), (3, .int (nI m9)), (0, .ref fa), (1, .ref ta), (2, .ref na)]) hx hb dX1_wordBlocksComing_85 hl (k := 1) rfl rfl (by decide) rfl (fun ls hl => ?_)
          refine lv_goto (tgt := 25) hx hb dX1_wordBlocksComing_88 (by decide) ?_
          rw [nI_1] at hl
          have h4 : (wbc f tt n i).1 = (wbc f tt n (i + 1)).1 := by simp [wbc, c1, c2, c3, c4]
          have h5 : (wbc f tt n i).2 = (wbc f tt n (i + 1)).2 := by simp [wbc, c1, c2, c3, c4]
          rw [h4, h5] at hl
          exact ih25 (i + 1) _ _ _ ⟨by omega, hm, hS, lv_sub hl [0, 2, 3, 4, 5, 6, 7] rfl⟩ (by omega)
        · refine lv_iload hx hb dX1_wordBlocksComing_78 (lv_at hl 0 rfl) ?_
          refine lv_istore (lv' := [(4, .int ((nI i) / 8)), (7, .int ((nI i) / 8)), (6, .int (nI i)), (5, .int (wbc f tt n i).2), (3, .int (nI m9)), (0, .ref fa), (1, .ref ta), (2, .ref na)]) hx hb dX1_wordBlocksComing_80 hl (by decide) rfl (fun ls hl => ?_)
          refine lv_iinc (v := ((wbc f tt n i).2 + 1)) (lv' := [(5, .int ((wbc f tt n i).2 + 1)), (4, .int ((nI i) / 8)), (7, .int ((nI i) / 8)), (6, .int (nI i)), (3, .int (nI m9)), (0, .ref fa), (1, .ref ta), (2, .ref na)]) hx hb dX1_wordBlocksComing_82 hl (k := 3) rfl rfl (by decide) rfl (fun ls hl => ?_)
          refine lv_iinc (v := ((nI i) + 1)) (lv' := [(6, .int ((nI i) + 1)), (5, .int ((wbc f tt n i).2 + 1)), (4, .int ((nI i) / 8)), (7, .int ((nI i) / 8)), (3, .int (nI m9)), (0, .ref fa), (1, .ref ta), (2, .ref na)]) hx hb dX1_wordBlocksComing_85 hl (k := 3) rfl rfl (by decide) rfl (fun ls hl => ?_)
          refine lv_goto (tgt := 25) hx hb dX1_wordBlocksComing_88 (by decide) ?_
          rw [nI_1] at hl
          have h4 : ((nI i) / 8) = (wbc f tt n (i + 1)).1 := by simp [wbc, c1, c2, c3, c4]
          have h5 : ((wbc f tt n i).2 + 1) = (wbc f tt n (i + 1)).2 := by simp [wbc, c1, c2, c3, c4]
          rw [h4, h5] at hl
          exact ih25 (i + 1) _ _ _ ⟨by omega, hm, hS, lv_sub hl [0, 1, 2, 4, 5, 6, 7] rfl⟩ (by omega)
