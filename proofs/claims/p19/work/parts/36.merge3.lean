theorem other_merge (k : Nat → ClassId) (fs : List Value) : other k (.inr (1, fs)) := ⟨fun _ h => (by cases h), fun _ _ h => (by cases h)⟩
/-- Merge.weighNode: how many cells come, of the first i; then the four sums behind it -/
def ccV (f tt n : NV) : Nat → Int32
  | 0 => 0
  | i + 1 => if comesV (ndc f (nI i)) (ndc tt (nI i)) (ndc n (nI i)) = 0 then ccV f tt n i else ccV f tt n i + 1
def wnIt (f tt n : NV) (it : Int32) : Int32 := it + (ccV f tt n (nlen tt) + if comesV f.2.2.1 tt.2.2.1 n.2.2.1 = 0 then 0 else 1)
def wnBl (tt : NV) (bl : Int32) (m9 : Nat) : Int32 := if tt.2.1 = 0 then bl + (1 + (nI m9 + 8 - 1) / 8) else bl + 1
def wnHo (f tt n : NV) (ho nw : Int32) (m9 : Nat) : Int32 := if tt.2.1 = 0 then ho + (if nw = 0 then (if comesV f.2.2.1 tt.2.2.1 n.2.2.1 = 0 then 0 else 1) else 1) + (wbc f tt n m9).2 else ho + (if nw = 0 then (if ccV f tt n (nlen tt) ≤ 0 then 0 else 1) else 1)

set_option maxHeartbeats 4000000 in
set_option maxRecDepth 100000 in
theorem c_X1_weighNode (l : Launch) (D : va_G) (k : Nat → ClassId) (z : Nat) (M : mM) (g9 nD nF fa ta na m9 : Nat) (it nd bl ho nw : Int32) (f tt n : NV) (hm9 : m9 ≤ 64) (hmg : mergedV f.2.2.1 tt.2.2.1 n.2.2.1 = nI m9) (hG : M g9 = some (.inr (1, [.int it, .int nd, .int bl, .int ho, .ref nD, .ref nF]))) (hF : nodeAt k M fa f) (hT : nodeAt k M ta tt) (hN : nodeAt k M na n) : mK l yX1_weighNode wsX1_weighNode ({ frames := 2, cells := 0, slots := 0, locals := 54 }) D k z [.ref g9, .ref fa, .ref ta, .ref na, .int nw] M (fun v M' => v = none ∧ M' = mu M g9 (.inr (1, [.int (wnIt f tt n it), .int (nd + 1), .int (wnBl tt bl m9), .int (wnHo f tt n ho nw m9), .ref nD, .ref nF]))) := by
  refine Met.ofW (cc := cX1_weighNode) (maxL := 7) (ret := none) (by decide) rfl ?_
  intro p e s m args below meth c s₁ B hml hv
  obtain ⟨rfl, hz, hcx, hm⟩ := hv
  have hx := B.exec
  have hb := B.bytes
  have hr := B.returns
  have hts := atoms_spec (ws := wsX1_weighNode) B.pre
  have hown : s.vm.findClass RX1 = some m.cls := findClass_of_methodNamed B.named
  have hlocks := B.notSynchronized
  have hK := hcx.1
  have hS : va_S (AZ z) s.heap s.heap [] := va_S.rf
  have hA : ∀ q, s.heap.size ≤ q → AZ z q := fun q h => Nat.le_trans hz h
  have hl := lv_entry ([.ref g9, .ref fa, .ref ta, .ref na, .int nw]) (n := 7) (Nat.le_of_ble_eq_true rfl)
  rw [lg_entry_eq]
  generalize (lg_sl ([.ref g9, .ref fa, .ref ta, .ref na, .int nw]) ++ List.replicate (7 - (lg_sl ([.ref g9, .ref fa, .ref ta, .ref na, .int nw])).length) Slot.unset).toArray = ls at hl ⊢
  have hl : lv_has ls 7 [(0, .ref g9), (1, .ref fa), (2, .ref ta), (3, .ref na), (4, .int nw)] := hl
  have f9 := hts (.fieldLink RX1 9 "CommitTree$Merge" "items" "I") (by decide +kernel)
  have f15 := hts (.fieldLink RX1 15 "CommitTree$Merge" "nodes" "I") (by decide +kernel)
  have f18 := hts (.fieldLink RX1 18 "CommitTree$Merge" "blocks" "I") (by decide +kernel)
  have f21 := hts (.fieldLink RX1 21 "CommitTree$Merge" "home" "I") (by decide +kernel)
  have f64 := hts (.fieldLink RX1 64 "CommitTree$Node" "directory" "Z") (by decide +kernel)
  have f68 := hts (.fieldLink RX1 68 "CommitTree$Node" "cells" "[I") (by decide +kernel)
  have f80 := hts (.fieldLink RX1 80 "CommitTree$Node" "size" "I") (by decide +kernel)
  have wX1 : ∀ w ∈ wsX10, w ∈ wsX1_weighNode := by decide +kernel
  have wX2 : ∀ w ∈ wsX20, w ∈ wsX1_weighNode := by decide +kernel
  obtain ⟨hdf, cfa, hnfa, hcfa⟩ := And.intro hF.1 hF.2
  obtain ⟨hdt, cta, hnta, hcta⟩ := And.intro hT.1 hT.2
  obtain ⟨hdn, cna, hnna, hcna⟩ := And.intro hN.1 hN.2
  have hb64 : nlen tt ≤ 64 := by unfold nlen; split <;> omega
  have ne_fa_g9 : fa ≠ g9 := m_df hG hnfa (by intro h; cases h)
  have ne_ta_g9 : ta ≠ g9 := m_df hG hnta (by intro h; cases h)
  have ne_na_g9 : na ≠ g9 := m_df hG hnna (by intro h; cases h)
  have ne_cta_g9 : cta ≠ g9 := m_df hG hcta (by intro h; cases h)
  refine lv_iconst (v := 0) hx hb dX1_weighNode_0 (by decide) ?_
  refine lv_istore (lv' := [(5, .int 0), (0, .ref g9), (1, .ref fa), (2, .ref ta), (3, .ref na), (4, .int nw)]) hx hb dX1_weighNode_1 hl (by decide) rfl (fun ls hl => ?_)
  refine lv_iconst (v := 0) hx hb dX1_weighNode_3 (by decide) ?_
  refine lv_istore (lv' := [(6, .int 0), (5, .int 0), (0, .ref g9), (1, .ref fa), (2, .ref ta), (3, .ref na), (4, .int nw)]) hx hb dX1_weighNode_4 hl (by decide) rfl (fun ls hl => ?_)
  refine W_loop (σ := Nat) (fun i H locs ls => (i ≤ nlen tt) ∧ mm D (AZ z) M H ∧ va_S (AZ z) s.heap H locs ∧ lv_has ls 7 [(6, .int (nI i)), (5, .int (ccV f tt n i)), (0, .ref g9), (1, .ref fa), (2, .ref ta), (3, .ref na), (4, .int nw)]) (fun i => nlen tt - i) (fun i => 0) (fun i => 0) ?_ 0 _ _ _ ⟨Nat.zero_le _, hm, hS, lv_sub hl [0, 1, 2, 3, 4, 5, 6] rfl⟩
  intro i H locs ls hI ih6
  obtain ⟨hi, hm, hS, hl⟩ := hI
  try dsimp only at hm hl ih6 ⊢
  refine lv_iload hx hb dX1_weighNode_6 (lv_at hl 0 rfl) ?_
  refine lv_aload_n hx hb dX1_weighNode_8 rfl (lv_at hl 4 rfl) ?_
  refine m_get (T := TX2) (N := 4) (ci := 2) (v := .ref cta) hx hb hts wX2 hown hK hm hnta rfl 3 (by decide) f68 (fun _ h9 => h9) rfl dX1_weighNode_9 ?_
  refine m_alen hx hb hK hm 0 hcta rfl (v := nI (nlen tt)) rfl dX1_weighNode_12 ?_
  refine lv_icmp_ge (tgt := 49) hx hb dX1_weighNode_13 (by decide) (fun c1 => ?_) (fun c1 => ?_)
  · have he : i = nlen tt := Nat.le_antisymm hi ((nI_leI (by omega) (by omega)).mp c1)
    subst he
    refine lv_aload_n hx hb dX1_weighNode_49 rfl (lv_at hl 3 rfl) ?_
    refine m_get (T := TX2) (N := 4) (ci := 2) (v := .int f.2.2.1) hx hb hts wX2 hown hK hm hnfa rfl 2 (by decide) f80 (fun _ h9 => h9) rfl dX1_weighNode_50 ?_
    refine lv_aload_n hx hb dX1_weighNode_53 rfl (lv_at hl 4 rfl) ?_
    refine m_get (T := TX2) (N := 4) (ci := 2) (v := .int tt.2.2.1) hx hb hts wX2 hown hK hm hnta rfl 2 (by decide) f80 (fun _ h9 => h9) rfl dX1_weighNode_54 ?_
    refine lv_aload_n hx hb dX1_weighNode_57 rfl (lv_at hl 5 rfl) ?_
    refine m_get (T := TX2) (N := 4) (ci := 2) (v := .int n.2.2.1) hx hb hts wX2 hown hK hm hnna rfl 2 (by decide) f80 (fun _ h9 => h9) rfl dX1_weighNode_58 ?_
    refine m_kS (As := [.int f.2.2.1, .int tt.2.2.1, .int n.2.2.1]) (rest := []) (rm := { frames := 0, cells := 0, slots := 0, locals := 0 }) ⟨hx, hb, hml, hown, hts⟩ (c_X1_comes l D k z _ f.2.2.1 tt.2.2.1 n.2.2.1) (cwS 3 hts gX1_weighNode_X1_comes rfl rfl rfl (by decide +kernel) ⟨Nat.le_of_ble_eq_true rfl, Nat.le_of_ble_eq_true rfl⟩) hz hcx hm hS rfl hl.1 rfl (Nat.le_of_ble_eq_true rfl) dX1_weighNode_61 ⟨Nat.le_of_ble_eq_true rfl, Nat.le_of_ble_eq_true rfl⟩ (fun v M1 H locs hv hm hS => ?_)
    obtain ⟨rfl, hM1⟩ := hv
    rw [hM1] at hm
    refine W.eq (g2 := F0 m 64 ls [.int (comesV f.2.2.1 tt.2.2.1 n.2.2.1)]) rfl ?_
    refine W.widen (k := 0) (n := 0) (Nat.le_of_ble_eq_true rfl) (Nat.le_of_ble_eq_true rfl) ?_
    have hm : mm D (AZ z) M H := hm
    refine lv_istore (lv' := [(6, .int (comesV f.2.2.1 tt.2.2.1 n.2.2.1)), (5, .int (ccV f tt n (nlen tt))), (0, .ref g9), (1, .ref fa), (2, .ref ta), (3, .ref na), (4, .int nw)]) hx hb dX1_weighNode_64 hl (by decide) rfl (fun ls hl => ?_)
    refine lv_aload_n hx hb dX1_weighNode_66 rfl (lv_at hl 2 rfl) ?_
    refine lv_dup hx hb dX1_weighNode_67 rfl ?_
    refine m_get (T := TX1) (N := 6) (ci := 1) (v := .int it) hx hb hts wX1 hown hK hm hG rfl 0 (by decide) f9 (fun _ h9 => h9) rfl dX1_weighNode_68 ?_
    refine lv_iload hx hb dX1_weighNode_71 (lv_at hl 1 rfl) ?_
    refine lv_iload hx hb dX1_weighNode_73 (lv_at hl 0 rfl) ?_
    refine lv_if_eq (tgt := 82) hx hb dX1_weighNode_75 (by decide) (fun c2 => ?_) (fun c2 => ?_)
    · refine lv_iconst (v := 0) hx hb dX1_weighNode_82 (by decide) ?_
      refine lv_iadd hx hb dX1_weighNode_83 ?_
      refine lv_iadd hx hb dX1_weighNode_84 ?_
      refine m_put (T := TX1) (N := 6) (ci := 1) (v := .int (it + ((ccV f tt n (nlen tt)) + 0))) (ty := .int) hx hb hts wX1 tyX1 tyX1_ok nmX1 hown hK hm hS hG rfl 0 (by decide) f9 (fun _ h9 => h9) rfl (by decide +kernel) rfl rfl (Nat.le_of_ble_eq_true rfl) dX1_weighNode_85 (fun H locs hm hS => ?_)
      have hm : mm D (AZ z) (mu M g9 (.inr (1, [.int (it + ((ccV f tt n (nlen tt)) + 0)), .int nd, .int bl, .int ho, .ref nD, .ref nF]))) H := hm
      refine lv_aload_n hx hb dX1_weighNode_88 rfl (lv_at hl 2 rfl) ?_
      refine lv_dup hx hb dX1_weighNode_89 rfl ?_
      refine m_get (T := TX1) (N := 6) (ci := 1) (v := .int nd) hx hb hts wX1 hown hK hm (mu_self _ _ _) rfl 1 (by decide) f15 (fun _ h9 => h9) rfl dX1_weighNode_90 ?_
      refine lv_iconst (v := 1) hx hb dX1_weighNode_93 (by decide) ?_
      refine lv_iadd hx hb dX1_weighNode_94 ?_
      refine m_put (T := TX1) (N := 6) (ci := 1) (v := .int (nd + 1)) (ty := .int) hx hb hts wX1 tyX1 tyX1_ok nmX1 hown hK hm hS (mu_self _ _ _) rfl 1 (by decide) f15 (fun _ h9 => h9) rfl (by decide +kernel) rfl rfl (Nat.le_of_ble_eq_true rfl) dX1_weighNode_95 (fun H locs hm hS => ?_)
      have hm : mm D (AZ z) (mu (mu M g9 (.inr (1, [.int (it + ((ccV f tt n (nlen tt)) + 0)), .int nd, .int bl, .int ho, .ref nD, .ref nF]))) g9 (.inr (1, [.int (it + ((ccV f tt n (nlen tt)) + 0)), .int (nd + 1), .int bl, .int ho, .ref nD, .ref nF]))) H := hm
      refine lv_aload_n hx hb dX1_weighNode_98 rfl (lv_at hl 4 rfl) ?_
      refine m_get (T := TX2) (N := 4) (ci := 2) (v := .int tt.2.1) hx hb hts wX2 hown hK hm ((mu_ne ne_ta_g9).trans ((mu_ne ne_ta_g9).trans hnta)) rfl 1 (by decide) f64 (fun _ h9 => h9) rfl dX1_weighNode_99 ?_
      refine lv_if_eq (tgt := 142) hx hb dX1_weighNode_102 (by decide) (fun c3 => ?_) (fun c3 => ?_)
      · refine lv_aload_n hx hb dX1_weighNode_142 rfl (lv_at hl 2 rfl) ?_
        refine lv_dup hx hb dX1_weighNode_143 rfl ?_
        refine m_get (T := TX1) (N := 6) (ci := 1) (v := .int bl) hx hb hts wX1 hown hK hm (mu_self _ _ _) rfl 2 (by decide) f18 (fun _ h9 => h9) rfl dX1_weighNode_144 ?_
        refine lv_iconst (v := 1) hx hb dX1_weighNode_147 (by decide) ?_
        refine lv_aload_n hx hb dX1_weighNode_148 rfl (lv_at hl 3 rfl) ?_
        refine m_get (T := TX2) (N := 4) (ci := 2) (v := .int f.2.2.1) hx hb hts wX2 hown hK hm ((mu_ne ne_fa_g9).trans ((mu_ne ne_fa_g9).trans hnfa)) rfl 2 (by decide) f80 (fun _ h9 => h9) rfl dX1_weighNode_149 ?_
        refine lv_aload_n hx hb dX1_weighNode_152 rfl (lv_at hl 4 rfl) ?_
        refine m_get (T := TX2) (N := 4) (ci := 2) (v := .int tt.2.2.1) hx hb hts wX2 hown hK hm ((mu_ne ne_ta_g9).trans ((mu_ne ne_ta_g9).trans hnta)) rfl 2 (by decide) f80 (fun _ h9 => h9) rfl dX1_weighNode_153 ?_
        refine lv_aload_n hx hb dX1_weighNode_156 rfl (lv_at hl 5 rfl) ?_
        refine m_get (T := TX2) (N := 4) (ci := 2) (v := .int n.2.2.1) hx hb hts wX2 hown hK hm ((mu_ne ne_na_g9).trans ((mu_ne ne_na_g9).trans hnna)) rfl 2 (by decide) f80 (fun _ h9 => h9) rfl dX1_weighNode_157 ?_
        refine m_kS (As := [.int f.2.2.1, .int tt.2.2.1, .int n.2.2.1]) (rest := [.int 1, .int bl, .ref g9]) (rm := { frames := 0, cells := 0, slots := 0, locals := 0 }) ⟨hx, hb, hml, hown, hts⟩ (c_X1_merged l D k z _ f.2.2.1 tt.2.2.1 n.2.2.1) (cwS 3 hts gX1_weighNode_X1_merged rfl rfl rfl (by decide +kernel) ⟨Nat.le_of_ble_eq_true rfl, Nat.le_of_ble_eq_true rfl⟩) hz hcx hm hS rfl hl.1 rfl (Nat.le_of_ble_eq_true rfl) dX1_weighNode_160 ⟨Nat.le_of_ble_eq_true rfl, Nat.le_of_ble_eq_true rfl⟩ (fun v M1 H locs hv hm hS => ?_)
        obtain ⟨hv1, hM1⟩ := hv
        rw [hmg] at hv1
        subst hv1
        rw [hM1] at hm
        refine W.eq (g2 := F0 m 163 ls [.int (nI m9), .int 1, .int bl, .ref g9]) rfl ?_
        refine W.widen (k := 0) (n := 0) (Nat.le_of_ble_eq_true rfl) (Nat.le_of_ble_eq_true rfl) ?_
        have hm : mm D (AZ z) (mu (mu M g9 (.inr (1, [.int (it + ((ccV f tt n (nlen tt)) + 0)), .int nd, .int bl, .int ho, .ref nD, .ref nF]))) g9 (.inr (1, [.int (it + ((ccV f tt n (nlen tt)) + 0)), .int (nd + 1), .int bl, .int ho, .ref nD, .ref nF]))) H := hm
        refine m_kS (As := [.int (nI m9)]) (rest := [.int 1, .int bl, .ref g9]) (rm := { frames := 0, cells := 0, slots := 0, locals := 0 }) ⟨hx, hb, hml, hown, hts⟩ (c_X2_wordBlocks l D k z _ (nI m9)) (va_cwS 1 hts gX1_weighNode_X2_wordBlocks rfl rfl rfl (by decide +kernel) ⟨Nat.le_of_ble_eq_true rfl, Nat.le_of_ble_eq_true rfl⟩) hz hcx hm hS rfl hl.1 rfl (Nat.le_of_ble_eq_true rfl) dX1_weighNode_163 ⟨Nat.le_of_ble_eq_true rfl, Nat.le_of_ble_eq_true rfl⟩ (fun v M1 H locs hv hm hS => ?_)
        obtain ⟨rfl, hM1⟩ := hv
        rw [hM1] at hm
        refine W.eq (g2 := F0 m 166 ls [.int ((nI m9 + 8 - 1) / 8), .int 1, .int bl, .ref g9]) rfl ?_
        refine W.widen (k := 0) (n := 0) (Nat.le_of_ble_eq_true rfl) (Nat.le_of_ble_eq_true rfl) ?_
        have hm : mm D (AZ z) (mu (mu M g9 (.inr (1, [.int (it + ((ccV f tt n (nlen tt)) + 0)), .int nd, .int bl, .int ho, .ref nD, .ref nF]))) g9 (.inr (1, [.int (it + ((ccV f tt n (nlen tt)) + 0)), .int (nd + 1), .int bl, .int ho, .ref nD, .ref nF]))) H := hm
        refine lv_iadd hx hb dX1_weighNode_166 ?_
        refine lv_iadd hx hb dX1_weighNode_167 ?_
        refine m_put (T := TX1) (N := 6) (ci := 1) (v := .int (bl + (1 + ((nI m9 + 8 - 1) / 8)))) (ty := .int) hx hb hts wX1 tyX1 tyX1_ok nmX1 hown hK hm hS (mu_self _ _ _) rfl 2 (by decide) f18 (fun _ h9 => h9) rfl (by decide +kernel) rfl rfl (Nat.le_of_ble_eq_true rfl) dX1_weighNode_168 (fun H locs hm hS => ?_)
        have hm : mm D (AZ z) (mu (mu (mu M g9 (.inr (1, [.int (it + ((ccV f tt n (nlen tt)) + 0)), .int nd, .int bl, .int ho, .ref nD, .ref nF]))) g9 (.inr (1, [.int (it + ((ccV f tt n (nlen tt)) + 0)), .int (nd + 1), .int bl, .int ho, .ref nD, .ref nF]))) g9 (.inr (1, [.int (it + ((ccV f tt n (nlen tt)) + 0)), .int (nd + 1), .int (bl + (1 + ((nI m9 + 8 - 1) / 8))), .int ho, .ref nD, .ref nF]))) H := hm
        refine lv_aload_n hx hb dX1_weighNode_171 rfl (lv_at hl 2 rfl) ?_
        refine lv_dup hx hb dX1_weighNode_172 rfl ?_
        refine m_get (T := TX1) (N := 6) (ci := 1) (v := .int ho) hx hb hts wX1 hown hK hm (mu_self _ _ _) rfl 3 (by decide) f21 (fun _ h9 => h9) rfl dX1_weighNode_173 ?_
        refine lv_iload hx hb dX1_weighNode_176 (lv_at hl 6 rfl) ?_
        refine lv_if_ne (tgt := 186) hx hb dX1_weighNode_178 (by decide) (fun c4 => ?_) (fun c4 => ?_)
        · refine lv_iconst (v := 1) hx hb dX1_weighNode_186 (by decide) ?_
          refine lv_goto (tgt := 191) hx hb dX1_weighNode_187 (by decide) ?_
          refine lv_iadd hx hb dX1_weighNode_191 ?_
          refine m_put (T := TX1) (N := 6) (ci := 1) (v := .int (ho + 1)) (ty := .int) hx hb hts wX1 tyX1 tyX1_ok nmX1 hown hK hm hS (mu_self _ _ _) rfl 3 (by decide) f21 (fun _ h9 => h9) rfl (by decide +kernel) rfl rfl (Nat.le_of_ble_eq_true rfl) dX1_weighNode_192 (fun H locs hm hS => ?_)
          have hm : mm D (AZ z) (mu (mu (mu (mu M g9 (.inr (1, [.int (it + ((ccV f tt n (nlen tt)) + 0)), .int nd, .int bl, .int ho, .ref nD, .ref nF]))) g9 (.inr (1, [.int (it + ((ccV f tt n (nlen tt)) + 0)), .int (nd + 1), .int bl, .int ho, .ref nD, .ref nF]))) g9 (.inr (1, [.int (it + ((ccV f tt n (nlen tt)) + 0)), .int (nd + 1), .int (bl + (1 + ((nI m9 + 8 - 1) / 8))), .int ho, .ref nD, .ref nF]))) g9 (.inr (1, [.int (it + ((ccV f tt n (nlen tt)) + 0)), .int (nd + 1), .int (bl + (1 + ((nI m9 + 8 - 1) / 8))), .int (ho + 1), .ref nD, .ref nF]))) H := hm
          refine lv_aload_n hx hb dX1_weighNode_195 rfl (lv_at hl 2 rfl) ?_
          refine lv_dup hx hb dX1_weighNode_196 rfl ?_
          refine m_get (T := TX1) (N := 6) (ci := 1) (v := .int (ho + 1)) hx hb hts wX1 hown hK hm (mu_self _ _ _) rfl 3 (by decide) f21 (fun _ h9 => h9) rfl dX1_weighNode_197 ?_
          refine lv_aload_n hx hb dX1_weighNode_200 rfl (lv_at hl 3 rfl) ?_
          refine lv_aload_n hx hb dX1_weighNode_201 rfl (lv_at hl 4 rfl) ?_
          refine lv_aload_n hx hb dX1_weighNode_202 rfl (lv_at hl 5 rfl) ?_
          refine m_kS (As := [.ref fa, .ref ta, .ref na]) (rest := [.int (ho + 1), .ref g9]) (rm := { frames := 1, cells := 0, slots := 0, locals := 24 }) ⟨hx, hb, hml, hown, hts⟩ (c_X1_wordBlocksComing l D k z _ fa ta na m9 f tt n hm9 hmg (nodeAt_mu (nodeAt_mu (nodeAt_mu (nodeAt_mu hF hG (other_merge _ _)) (mu_self _ _ _) (other_merge _ _)) (mu_self _ _ _) (other_merge _ _)) (mu_self _ _ _) (other_merge _ _)) (nodeAt_mu (nodeAt_mu (nodeAt_mu (nodeAt_mu hT hG (other_merge _ _)) (mu_self _ _ _) (other_merge _ _)) (mu_self _ _ _) (other_merge _ _)) (mu_self _ _ _) (other_merge _ _)) (nodeAt_mu (nodeAt_mu (nodeAt_mu (nodeAt_mu hN hG (other_merge _ _)) (mu_self _ _ _) (other_merge _ _)) (mu_self _ _ _) (other_merge _ _)) (mu_self _ _ _) (other_merge _ _))) (cwS 3 hts gX1_weighNode_X1_wordBlocksComing rfl rfl rfl (by decide +kernel) ⟨Nat.le_of_ble_eq_true rfl, Nat.le_of_ble_eq_true rfl⟩) hz hcx hm hS rfl hl.1 rfl (Nat.le_of_ble_eq_true rfl) dX1_weighNode_203 ⟨Nat.le_of_ble_eq_true rfl, Nat.le_of_ble_eq_true rfl⟩ (fun v M1 H locs hv hm hS => ?_)
          obtain ⟨rfl, hM1⟩ := hv
          rw [hM1] at hm
          refine W.eq (g2 := F0 m 206 ls [.int (wbc f tt n m9).2, .int (ho + 1), .ref g9]) rfl ?_
          refine W.widen (k := 0) (n := 0) (Nat.le_of_ble_eq_true rfl) (Nat.le_of_ble_eq_true rfl) ?_
          have hm : mm D (AZ z) (mu (mu (mu (mu M g9 (.inr (1, [.int (it + ((ccV f tt n (nlen tt)) + 0)), .int nd, .int bl, .int ho, .ref nD, .ref nF]))) g9 (.inr (1, [.int (it + ((ccV f tt n (nlen tt)) + 0)), .int (nd + 1), .int bl, .int ho, .ref nD, .ref nF]))) g9 (.inr (1, [.int (it + ((ccV f tt n (nlen tt)) + 0)), .int (nd + 1), .int (bl + (1 + ((nI m9 + 8 - 1) / 8))), .int ho, .ref nD, .ref nF]))) g9 (.inr (1, [.int (it + ((ccV f tt n (nlen tt)) + 0)), .int (nd + 1), .int (bl + (1 + ((nI m9 + 8 - 1) / 8))), .int (ho + 1), .ref nD, .ref nF]))) H := hm
          refine lv_iadd hx hb dX1_weighNode_206 ?_
          refine m_put (T := TX1) (N := 6) (ci := 1) (v := .int ((ho + 1) + (wbc f tt n m9).2)) (ty := .int) hx hb hts wX1 tyX1 tyX1_ok nmX1 hown hK hm hS (mu_self _ _ _) rfl 3 (by decide) f21 (fun _ h9 => h9) rfl (by decide +kernel) rfl rfl (Nat.le_of_ble_eq_true rfl) dX1_weighNode_207 (fun H locs hm hS => ?_)
          have hm : mm D (AZ z) (mu (mu (mu (mu (mu M g9 (.inr (1, [.int (it + ((ccV f tt n (nlen tt)) + 0)), .int nd, .int bl, .int ho, .ref nD, .ref nF]))) g9 (.inr (1, [.int (it + ((ccV f tt n (nlen tt)) + 0)), .int (nd + 1), .int bl, .int ho, .ref nD, .ref nF]))) g9 (.inr (1, [.int (it + ((ccV f tt n (nlen tt)) + 0)), .int (nd + 1), .int (bl + (1 + ((nI m9 + 8 - 1) / 8))), .int ho, .ref nD, .ref nF]))) g9 (.inr (1, [.int (it + ((ccV f tt n (nlen tt)) + 0)), .int (nd + 1), .int (bl + (1 + ((nI m9 + 8 - 1) / 8))), .int (ho + 1), .ref nD, .ref nF]))) g9 (.inr (1, [.int (it + ((ccV f tt n (nlen tt)) + 0)), .int (nd + 1), .int (bl + (1 + ((nI m9 + 8 - 1) / 8))), .int ((ho + 1) + (wbc f tt n m9).2), .ref nD, .ref nF]))) H := hm
          refine W.vret hx hb hr (fun t ht hW => ⟨⟨none, _, rfl, ?_, by rw [ht]; exact hm⟩, hS.F ht⟩) hS.2.2 dX1_weighNode_210
          first
            | contradiction
            | exact ⟨rfl, by simp [wnIt, wnBl, wnHo, mu_mu, c1, c2, c3, c4]⟩
        · refine lv_iload hx hb dX1_weighNode_181 (lv_at hl 0 rfl) ?_
          refine lv_if_eq (tgt := 190) hx hb dX1_weighNode_183 (by decide) (fun c5 => ?_) (fun c5 => ?_)
          · refine lv_iconst (v := 0) hx hb dX1_weighNode_190 (by decide) ?_
            refine lv_iadd hx hb dX1_weighNode_191 ?_
            refine m_put (T := TX1) (N := 6) (ci := 1) (v := .int (ho + 0)) (ty := .int) hx hb hts wX1 tyX1 tyX1_ok nmX1 hown hK hm hS (mu_self _ _ _) rfl 3 (by decide) f21 (fun _ h9 => h9) rfl (by decide +kernel) rfl rfl (Nat.le_of_ble_eq_true rfl) dX1_weighNode_192 (fun H locs hm hS => ?_)
            have hm : mm D (AZ z) (mu (mu (mu (mu M g9 (.inr (1, [.int (it + ((ccV f tt n (nlen tt)) + 0)), .int nd, .int bl, .int ho, .ref nD, .ref nF]))) g9 (.inr (1, [.int (it + ((ccV f tt n (nlen tt)) + 0)), .int (nd + 1), .int bl, .int ho, .ref nD, .ref nF]))) g9 (.inr (1, [.int (it + ((ccV f tt n (nlen tt)) + 0)), .int (nd + 1), .int (bl + (1 + ((nI m9 + 8 - 1) / 8))), .int ho, .ref nD, .ref nF]))) g9 (.inr (1, [.int (it + ((ccV f tt n (nlen tt)) + 0)), .int (nd + 1), .int (bl + (1 + ((nI m9 + 8 - 1) / 8))), .int (ho + 0), .ref nD, .ref nF]))) H := hm
            refine lv_aload_n hx hb dX1_weighNode_195 rfl (lv_at hl 2 rfl) ?_
            refine lv_dup hx hb dX1_weighNode_196 rfl ?_
            refine m_get (T := TX1) (N := 6) (ci := 1) (v := .int (ho + 0)) hx hb hts wX1 hown hK hm (mu_self _ _ _) rfl 3 (by decide) f21 (fun _ h9 => h9) rfl dX1_weighNode_197 ?_
            refine lv_aload_n hx hb dX1_weighNode_200 rfl (lv_at hl 3 rfl) ?_
            refine lv_aload_n hx hb dX1_weighNode_201 rfl (lv_at hl 4 rfl) ?_
            refine lv_aload_n hx hb dX1_weighNode_202 rfl (lv_at hl 5 rfl) ?_
            refine m_kS (As := [.ref fa, .ref ta, .ref na]) (rest := [.int (ho + 0), .ref g9]) (rm := { frames := 1, cells := 0, slots := 0, locals := 24 }) ⟨hx, hb, hml, hown, hts⟩ (c_X1_wordBlocksComing l D k z _ fa ta na m9 f tt n hm9 hmg (nodeAt_mu (nodeAt_mu (nodeAt_mu (nodeAt_mu hF hG (other_merge _ _)) (mu_self _ _ _) (other_merge _ _)) (mu_self _ _ _) (other_merge _ _)) (mu_self _ _ _) (other_merge _ _)) (nodeAt_mu (nodeAt_mu (nodeAt_mu (nodeAt_mu hT hG (other_merge _ _)) (mu_self _ _ _) (other_merge _ _)) (mu_self _ _ _) (other_merge _ _)) (mu_self _ _ _) (other_merge _ _)) (nodeAt_mu (nodeAt_mu (nodeAt_mu (nodeAt_mu hN hG (other_merge _ _)) (mu_self _ _ _) (other_merge _ _)) (mu_self _ _ _) (other_merge _ _)) (mu_self _ _ _) (other_merge _ _))) (cwS 3 hts gX1_weighNode_X1_wordBlocksComing rfl rfl rfl (by decide +kernel) ⟨Nat.le_of_ble_eq_true rfl, Nat.le_of_ble_eq_true rfl⟩) hz hcx hm hS rfl hl.1 rfl (Nat.le_of_ble_eq_true rfl) dX1_weighNode_203 ⟨Nat.le_of_ble_eq_true rfl, Nat.le_of_ble_eq_true rfl⟩ (fun v M1 H locs hv hm hS => ?_)
            obtain ⟨rfl, hM1⟩ := hv
            rw [hM1] at hm
            refine W.eq (g2 := F0 m 206 ls [.int (wbc f tt n m9).2, .int (ho + 0), .ref g9]) rfl ?_
            refine W.widen (k := 0) (n := 0) (Nat.le_of_ble_eq_true rfl) (Nat.le_of_ble_eq_true rfl) ?_
            have hm : mm D (AZ z) (mu (mu (mu (mu M g9 (.inr (1, [.int (it + ((ccV f tt n (nlen tt)) + 0)), .int nd, .int bl, .int ho, .ref nD, .ref nF]))) g9 (.inr (1, [.int (it + ((ccV f tt n (nlen tt)) + 0)), .int (nd + 1), .int bl, .int ho, .ref nD, .ref nF]))) g9 (.inr (1, [.int (it + ((ccV f tt n (nlen tt)) + 0)), .int (nd + 1), .int (bl + (1 + ((nI m9 + 8 - 1) / 8))), .int ho, .ref nD, .ref nF]))) g9 (.inr (1, [.int (it + ((ccV f tt n (nlen tt)) + 0)), .int (nd + 1), .int (bl + (1 + ((nI m9 + 8 - 1) / 8))), .int (ho + 0), .ref nD, .ref nF]))) H := hm
            refine lv_iadd hx hb dX1_weighNode_206 ?_
            refine m_put (T := TX1) (N := 6) (ci := 1) (v := .int ((ho + 0) + (wbc f tt n m9).2)) (ty := .int) hx hb hts wX1 tyX1 tyX1_ok nmX1 hown hK hm hS (mu_self _ _ _) rfl 3 (by decide) f21 (fun _ h9 => h9) rfl (by decide +kernel) rfl rfl (Nat.le_of_ble_eq_true rfl) dX1_weighNode_207 (fun H locs hm hS => ?_)
            have hm : mm D (AZ z) (mu (mu (mu (mu (mu M g9 (.inr (1, [.int (it + ((ccV f tt n (nlen tt)) + 0)), .int nd, .int bl, .int ho, .ref nD, .ref nF]))) g9 (.inr (1, [.int (it + ((ccV f tt n (nlen tt)) + 0)), .int (nd + 1), .int bl, .int ho, .ref nD, .ref nF]))) g9 (.inr (1, [.int (it + ((ccV f tt n (nlen tt)) + 0)), .int (nd + 1), .int (bl + (1 + ((nI m9 + 8 - 1) / 8))), .int ho, .ref nD, .ref nF]))) g9 (.inr (1, [.int (it + ((ccV f tt n (nlen tt)) + 0)), .int (nd + 1), .int (bl + (1 + ((nI m9 + 8 - 1) / 8))), .int (ho + 0), .ref nD, .ref nF]))) g9 (.inr (1, [.int (it + ((ccV f tt n (nlen tt)) + 0)), .int (nd + 1), .int (bl + (1 + ((nI m9 + 8 - 1) / 8))), .int ((ho + 0) + (wbc f tt n m9).2), .ref nD, .ref nF]))) H := hm
            refine W.vret hx hb hr (fun t ht hW => ⟨⟨none, _, rfl, ?_, by rw [ht]; exact hm⟩, hS.F ht⟩) hS.2.2 dX1_weighNode_210
            first
              | contradiction
              | exact ⟨rfl, by simp [wnIt, wnBl, wnHo, mu_mu, c1, c2, c3, c4, c5]⟩
          · refine lv_iconst (v := 1) hx hb dX1_weighNode_186 (by decide) ?_
            refine lv_goto (tgt := 191) hx hb dX1_weighNode_187 (by decide) ?_
            refine lv_iadd hx hb dX1_weighNode_191 ?_
            refine m_put (T := TX1) (N := 6) (ci := 1) (v := .int (ho + 1)) (ty := .int) hx hb hts wX1 tyX1 tyX1_ok nmX1 hown hK hm hS (mu_self _ _ _) rfl 3 (by decide) f21 (fun _ h9 => h9) rfl (by decide +kernel) rfl rfl (Nat.le_of_ble_eq_true rfl) dX1_weighNode_192 (fun H locs hm hS => ?_)
            have hm : mm D (AZ z) (mu (mu (mu (mu M g9 (.inr (1, [.int (it + ((ccV f tt n (nlen tt)) + 0)), .int nd, .int bl, .int ho, .ref nD, .ref nF]))) g9 (.inr (1, [.int (it + ((ccV f tt n (nlen tt)) + 0)), .int (nd + 1), .int bl, .int ho, .ref nD, .ref nF]))) g9 (.inr (1, [.int (it + ((ccV f tt n (nlen tt)) + 0)), .int (nd + 1), .int (bl + (1 + ((nI m9 + 8 - 1) / 8))), .int ho, .ref nD, .ref nF]))) g9 (.inr (1, [.int (it + ((ccV f tt n (nlen tt)) + 0)), .int (nd + 1), .int (bl + (1 + ((nI m9 + 8 - 1) / 8))), .int (ho + 1), .ref nD, .ref nF]))) H := hm
            refine lv_aload_n hx hb dX1_weighNode_195 rfl (lv_at hl 2 rfl) ?_
            refine lv_dup hx hb dX1_weighNode_196 rfl ?_
            refine m_get (T := TX1) (N := 6) (ci := 1) (v := .int (ho + 1)) hx hb hts wX1 hown hK hm (mu_self _ _ _) rfl 3 (by decide) f21 (fun _ h9 => h9) rfl dX1_weighNode_197 ?_
            refine lv_aload_n hx hb dX1_weighNode_200 rfl (lv_at hl 3 rfl) ?_
            refine lv_aload_n hx hb dX1_weighNode_201 rfl (lv_at hl 4 rfl) ?_
            refine lv_aload_n hx hb dX1_weighNode_202 rfl (lv_at hl 5 rfl) ?_
            refine m_kS (As := [.ref fa, .ref ta, .ref na]) (rest := [.int (ho + 1), .ref g9]) (rm := { frames := 1, cells := 0, slots := 0, locals := 24 }) ⟨hx, hb, hml, hown, hts⟩ (c_X1_wordBlocksComing l D k z _ fa ta na m9 f tt n hm9 hmg (nodeAt_mu (nodeAt_mu (nodeAt_mu (nodeAt_mu hF hG (other_merge _ _)) (mu_self _ _ _) (other_merge _ _)) (mu_self _ _ _) (other_merge _ _)) (mu_self _ _ _) (other_merge _ _)) (nodeAt_mu (nodeAt_mu (nodeAt_mu (nodeAt_mu hT hG (other_merge _ _)) (mu_self _ _ _) (other_merge _ _)) (mu_self _ _ _) (other_merge _ _)) (mu_self _ _ _) (other_merge _ _)) (nodeAt_mu (nodeAt_mu (nodeAt_mu (nodeAt_mu hN hG (other_merge _ _)) (mu_self _ _ _) (other_merge _ _)) (mu_self _ _ _) (other_merge _ _)) (mu_self _ _ _) (other_merge _ _))) (cwS 3 hts gX1_weighNode_X1_wordBlocksComing rfl rfl rfl (by decide +kernel) ⟨Nat.le_of_ble_eq_true rfl, Nat.le_of_ble_eq_true rfl⟩) hz hcx hm hS rfl hl.1 rfl (Nat.le_of_ble_eq_true rfl) dX1_weighNode_203 ⟨Nat.le_of_ble_eq_true rfl, Nat.le_of_ble_eq_true rfl⟩ (fun v M1 H locs hv hm hS => ?_)
            obtain ⟨rfl, hM1⟩ := hv
            rw [hM1] at hm
            refine W.eq (g2 := F0 m 206 ls [.int (wbc f tt n m9).2, .int (ho + 1), .ref g9]) rfl ?_
            refine W.widen (k := 0) (n := 0) (Nat.le_of_ble_eq_true rfl) (Nat.le_of_ble_eq_true rfl) ?_
            have hm : mm D (AZ z) (mu (mu (mu (mu M g9 (.inr (1, [.int (it + ((ccV f tt n (nlen tt)) + 0)), .int nd, .int bl, .int ho, .ref nD, .ref nF]))) g9 (.inr (1, [.int (it + ((ccV f tt n (nlen tt)) + 0)), .int (nd + 1), .int bl, .int ho, .ref nD, .ref nF]))) g9 (.inr (1, [.int (it + ((ccV f tt n (nlen tt)) + 0)), .int (nd + 1), .int (bl + (1 + ((nI m9 + 8 - 1) / 8))), .int ho, .ref nD, .ref nF]))) g9 (.inr (1, [.int (it + ((ccV f tt n (nlen tt)) + 0)), .int (nd + 1), .int (bl + (1 + ((nI m9 + 8 - 1) / 8))), .int (ho + 1), .ref nD, .ref nF]))) H := hm
            refine lv_iadd hx hb dX1_weighNode_206 ?_
            refine m_put (T := TX1) (N := 6) (ci := 1) (v := .int ((ho + 1) + (wbc f tt n m9).2)) (ty := .int) hx hb hts wX1 tyX1 tyX1_ok nmX1 hown hK hm hS (mu_self _ _ _) rfl 3 (by decide) f21 (fun _ h9 => h9) rfl (by decide +kernel) rfl rfl (Nat.le_of_ble_eq_true rfl) dX1_weighNode_207 (fun H locs hm hS => ?_)
            have hm : mm D (AZ z) (mu (mu (mu (mu (mu M g9 (.inr (1, [.int (it + ((ccV f tt n (nlen tt)) + 0)), .int nd, .int bl, .int ho, .ref nD, .ref nF]))) g9 (.inr (1, [.int (it + ((ccV f tt n (nlen tt)) + 0)), .int (nd + 1), .int bl, .int ho, .ref nD, .ref nF]))) g9 (.inr (1, [.int (it + ((ccV f tt n (nlen tt)) + 0)), .int (nd + 1), .int (bl + (1 + ((nI m9 + 8 - 1) / 8))), .int ho, .ref nD, .ref nF]))) g9 (.inr (1, [.int (it + ((ccV f tt n (nlen tt)) + 0)), .int (nd + 1), .int (bl + (1 + ((nI m9 + 8 - 1) / 8))), .int (ho + 1), .ref nD, .ref nF]))) g9 (.inr (1, [.int (it + ((ccV f tt n (nlen tt)) + 0)), .int (nd + 1), .int (bl + (1 + ((nI m9 + 8 - 1) / 8))), .int ((ho + 1) + (wbc f tt n m9).2), .ref nD, .ref nF]))) H := hm
            refine W.vret hx hb hr (fun t ht hW => ⟨⟨none, _, rfl, ?_, by rw [ht]; exact hm⟩, hS.F ht⟩) hS.2.2 dX1_weighNode_210
            first
              | contradiction
              | exact ⟨rfl, by simp [wnIt, wnBl, wnHo, mu_mu, c1, c2, c3, c4, c5]⟩
      · refine lv_aload_n hx hb dX1_weighNode_105 rfl (lv_at hl 2 rfl) ?_
        refine lv_dup hx hb dX1_weighNode_106 rfl ?_
        refine m_get (T := TX1) (N := 6) (ci := 1) (v := .int bl) hx hb hts wX1 hown hK hm (mu_self _ _ _) rfl 2 (by decide) f18 (fun _ h9 => h9) rfl dX1_weighNode_107 ?_
        refine lv_iconst (v := 1) hx hb dX1_weighNode_110 (by decide) ?_
        refine lv_iadd hx hb dX1_weighNode_111 ?_
        refine m_put (T := TX1) (N := 6) (ci := 1) (v := .int (bl + 1)) (ty := .int) hx hb hts wX1 tyX1 tyX1_ok nmX1 hown hK hm hS (mu_self _ _ _) rfl 2 (by decide) f18 (fun _ h9 => h9) rfl (by decide +kernel) rfl rfl (Nat.le_of_ble_eq_true rfl) dX1_weighNode_112 (fun H locs hm hS => ?_)
        have hm : mm D (AZ z) (mu (mu (mu M g9 (.inr (1, [.int (it + ((ccV f tt n (nlen tt)) + 0)), .int nd, .int bl, .int ho, .ref nD, .ref nF]))) g9 (.inr (1, [.int (it + ((ccV f tt n (nlen tt)) + 0)), .int (nd + 1), .int bl, .int ho, .ref nD, .ref nF]))) g9 (.inr (1, [.int (it + ((ccV f tt n (nlen tt)) + 0)), .int (nd + 1), .int (bl + 1), .int ho, .ref nD, .ref nF]))) H := hm
        refine lv_aload_n hx hb dX1_weighNode_115 rfl (lv_at hl 2 rfl) ?_
        refine lv_dup hx hb dX1_weighNode_116 rfl ?_
        refine m_get (T := TX1) (N := 6) (ci := 1) (v := .int ho) hx hb hts wX1 hown hK hm (mu_self _ _ _) rfl 3 (by decide) f21 (fun _ h9 => h9) rfl dX1_weighNode_117 ?_
        refine lv_iload hx hb dX1_weighNode_120 (lv_at hl 6 rfl) ?_
        refine lv_if_ne (tgt := 130) hx hb dX1_weighNode_122 (by decide) (fun c6 => ?_) (fun c6 => ?_)
        · refine lv_iconst (v := 1) hx hb dX1_weighNode_130 (by decide) ?_
          refine lv_goto (tgt := 135) hx hb dX1_weighNode_131 (by decide) ?_
          refine lv_iadd hx hb dX1_weighNode_135 ?_
          refine m_put (T := TX1) (N := 6) (ci := 1) (v := .int (ho + 1)) (ty := .int) hx hb hts wX1 tyX1 tyX1_ok nmX1 hown hK hm hS (mu_self _ _ _) rfl 3 (by decide) f21 (fun _ h9 => h9) rfl (by decide +kernel) rfl rfl (Nat.le_of_ble_eq_true rfl) dX1_weighNode_136 (fun H locs hm hS => ?_)
          have hm : mm D (AZ z) (mu (mu (mu (mu M g9 (.inr (1, [.int (it + ((ccV f tt n (nlen tt)) + 0)), .int nd, .int bl, .int ho, .ref nD, .ref nF]))) g9 (.inr (1, [.int (it + ((ccV f tt n (nlen tt)) + 0)), .int (nd + 1), .int bl, .int ho, .ref nD, .ref nF]))) g9 (.inr (1, [.int (it + ((ccV f tt n (nlen tt)) + 0)), .int (nd + 1), .int (bl + 1), .int ho, .ref nD, .ref nF]))) g9 (.inr (1, [.int (it + ((ccV f tt n (nlen tt)) + 0)), .int (nd + 1), .int (bl + 1), .int (ho + 1), .ref nD, .ref nF]))) H := hm
          refine lv_goto (tgt := 210) hx hb dX1_weighNode_139 (by decide) ?_
          refine W.vret hx hb hr (fun t ht hW => ⟨⟨none, _, rfl, ?_, by rw [ht]; exact hm⟩, hS.F ht⟩) hS.2.2 dX1_weighNode_210
          first
            | contradiction
            | exact ⟨rfl, by simp [wnIt, wnBl, wnHo, mu_mu, c1, c2, c3, c6]⟩
        · refine lv_iload hx hb dX1_weighNode_125 (lv_at hl 1 rfl) ?_
          refine lv_if_le (tgt := 134) hx hb dX1_weighNode_127 (by decide) (fun c7 => ?_) (fun c7 => ?_)
          · refine lv_iconst (v := 0) hx hb dX1_weighNode_134 (by decide) ?_
            refine lv_iadd hx hb dX1_weighNode_135 ?_
            refine m_put (T := TX1) (N := 6) (ci := 1) (v := .int (ho + 0)) (ty := .int) hx hb hts wX1 tyX1 tyX1_ok nmX1 hown hK hm hS (mu_self _ _ _) rfl 3 (by decide) f21 (fun _ h9 => h9) rfl (by decide +kernel) rfl rfl (Nat.le_of_ble_eq_true rfl) dX1_weighNode_136 (fun H locs hm hS => ?_)
            have hm : mm D (AZ z) (mu (mu (mu (mu M g9 (.inr (1, [.int (it + ((ccV f tt n (nlen tt)) + 0)), .int nd, .int bl, .int ho, .ref nD, .ref nF]))) g9 (.inr (1, [.int (it + ((ccV f tt n (nlen tt)) + 0)), .int (nd + 1), .int bl, .int ho, .ref nD, .ref nF]))) g9 (.inr (1, [.int (it + ((ccV f tt n (nlen tt)) + 0)), .int (nd + 1), .int (bl + 1), .int ho, .ref nD, .ref nF]))) g9 (.inr (1, [.int (it + ((ccV f tt n (nlen tt)) + 0)), .int (nd + 1), .int (bl + 1), .int (ho + 0), .ref nD, .ref nF]))) H := hm
            refine lv_goto (tgt := 210) hx hb dX1_weighNode_139 (by decide) ?_
            refine W.vret hx hb hr (fun t ht hW => ⟨⟨none, _, rfl, ?_, by rw [ht]; exact hm⟩, hS.F ht⟩) hS.2.2 dX1_weighNode_210
            first
              | contradiction
              | exact ⟨rfl, by simp [wnIt, wnBl, wnHo, mu_mu, c1, c2, c3, c6, c7]⟩
          · refine lv_iconst (v := 1) hx hb dX1_weighNode_130 (by decide) ?_
            refine lv_goto (tgt := 135) hx hb dX1_weighNode_131 (by decide) ?_
            refine lv_iadd hx hb dX1_weighNode_135 ?_
            refine m_put (T := TX1) (N := 6) (ci := 1) (v := .int (ho + 1)) (ty := .int) hx hb hts wX1 tyX1 tyX1_ok nmX1 hown hK hm hS (mu_self _ _ _) rfl 3 (by decide) f21 (fun _ h9 => h9) rfl (by decide +kernel) rfl rfl (Nat.le_of_ble_eq_true rfl) dX1_weighNode_136 (fun H locs hm hS => ?_)
            have hm : mm D (AZ z) (mu (mu (mu (mu M g9 (.inr (1, [.int (it + ((ccV f tt n (nlen tt)) + 0)), .int nd, .int bl, .int ho, .ref nD, .ref nF]))) g9 (.inr (1, [.int (it + ((ccV f tt n (nlen tt)) + 0)), .int (nd + 1), .int bl, .int ho, .ref nD, .ref nF]))) g9 (.inr (1, [.int (it + ((ccV f tt n (nlen tt)) + 0)), .int (nd + 1), .int (bl + 1), .int ho, .ref nD, .ref nF]))) g9 (.inr (1, [.int (it + ((ccV f tt n (nlen tt)) + 0)), .int (nd + 1), .int (bl + 1), .int (ho + 1), .ref nD, .ref nF]))) H := hm
            refine lv_goto (tgt := 210) hx hb dX1_weighNode_139 (by decide) ?_
            refine W.vret hx hb hr (fun t ht hW => ⟨⟨none, _, rfl, ?_, by rw [ht]; exact hm⟩, hS.F ht⟩) hS.2.2 dX1_weighNode_210
            first
              | contradiction
              | exact ⟨rfl, by simp [wnIt, wnBl, wnHo, mu_mu, c1, c2, c3, c6, c7]⟩
    · refine lv_iconst (v := 1) hx hb dX1_weighNode_78 (by decide) ?_
      refine lv_goto (tgt := 83) hx hb dX1_weighNode_79 (by decide) ?_
      refine lv_iadd hx hb dX1_weighNode_83 ?_
      refine lv_iadd hx hb dX1_weighNode_84 ?_
      refine m_put (T := TX1) (N := 6) (ci := 1) (v := .int (it + ((ccV f tt n (nlen tt)) + 1))) (ty := .int) hx hb hts wX1 tyX1 tyX1_ok nmX1 hown hK hm hS hG rfl 0 (by decide) f9 (fun _ h9 => h9) rfl (by decide +kernel) rfl rfl (Nat.le_of_ble_eq_true rfl) dX1_weighNode_85 (fun H locs hm hS => ?_)
      have hm : mm D (AZ z) (mu M g9 (.inr (1, [.int (it + ((ccV f tt n (nlen tt)) + 1)), .int nd, .int bl, .int ho, .ref nD, .ref nF]))) H := hm
      refine lv_aload_n hx hb dX1_weighNode_88 rfl (lv_at hl 2 rfl) ?_
      refine lv_dup hx hb dX1_weighNode_89 rfl ?_
      refine m_get (T := TX1) (N := 6) (ci := 1) (v := .int nd) hx hb hts wX1 hown hK hm (mu_self _ _ _) rfl 1 (by decide) f15 (fun _ h9 => h9) rfl dX1_weighNode_90 ?_
      refine lv_iconst (v := 1) hx hb dX1_weighNode_93 (by decide) ?_
      refine lv_iadd hx hb dX1_weighNode_94 ?_
      refine m_put (T := TX1) (N := 6) (ci := 1) (v := .int (nd + 1)) (ty := .int) hx hb hts wX1 tyX1 tyX1_ok nmX1 hown hK hm hS (mu_self _ _ _) rfl 1 (by decide) f15 (fun _ h9 => h9) rfl (by decide +kernel) rfl rfl (Nat.le_of_ble_eq_true rfl) dX1_weighNode_95 (fun H locs hm hS => ?_)
      have hm : mm D (AZ z) (mu (mu M g9 (.inr (1, [.int (it + ((ccV f tt n (nlen tt)) + 1)), .int nd, .int bl, .int ho, .ref nD, .ref nF]))) g9 (.inr (1, [.int (it + ((ccV f tt n (nlen tt)) + 1)), .int (nd + 1), .int bl, .int ho, .ref nD, .ref nF]))) H := hm
      refine lv_aload_n hx hb dX1_weighNode_98 rfl (lv_at hl 4 rfl) ?_
      refine m_get (T := TX2) (N := 4) (ci := 2) (v := .int tt.2.1) hx hb hts wX2 hown hK hm ((mu_ne ne_ta_g9).trans ((mu_ne ne_ta_g9).trans hnta)) rfl 1 (by decide) f64 (fun _ h9 => h9) rfl dX1_weighNode_99 ?_
      refine lv_if_eq (tgt := 142) hx hb dX1_weighNode_102 (by decide) (fun c8 => ?_) (fun c8 => ?_)
      · refine lv_aload_n hx hb dX1_weighNode_142 rfl (lv_at hl 2 rfl) ?_
        refine lv_dup hx hb dX1_weighNode_143 rfl ?_
        refine m_get (T := TX1) (N := 6) (ci := 1) (v := .int bl) hx hb hts wX1 hown hK hm (mu_self _ _ _) rfl 2 (by decide) f18 (fun _ h9 => h9) rfl dX1_weighNode_144 ?_
        refine lv_iconst (v := 1) hx hb dX1_weighNode_147 (by decide) ?_
        refine lv_aload_n hx hb dX1_weighNode_148 rfl (lv_at hl 3 rfl) ?_
        refine m_get (T := TX2) (N := 4) (ci := 2) (v := .int f.2.2.1) hx hb hts wX2 hown hK hm ((mu_ne ne_fa_g9).trans ((mu_ne ne_fa_g9).trans hnfa)) rfl 2 (by decide) f80 (fun _ h9 => h9) rfl dX1_weighNode_149 ?_
        refine lv_aload_n hx hb dX1_weighNode_152 rfl (lv_at hl 4 rfl) ?_
        refine m_get (T := TX2) (N := 4) (ci := 2) (v := .int tt.2.2.1) hx hb hts wX2 hown hK hm ((mu_ne ne_ta_g9).trans ((mu_ne ne_ta_g9).trans hnta)) rfl 2 (by decide) f80 (fun _ h9 => h9) rfl dX1_weighNode_153 ?_
        refine lv_aload_n hx hb dX1_weighNode_156 rfl (lv_at hl 5 rfl) ?_
        refine m_get (T := TX2) (N := 4) (ci := 2) (v := .int n.2.2.1) hx hb hts wX2 hown hK hm ((mu_ne ne_na_g9).trans ((mu_ne ne_na_g9).trans hnna)) rfl 2 (by decide) f80 (fun _ h9 => h9) rfl dX1_weighNode_157 ?_
        refine m_kS (As := [.int f.2.2.1, .int tt.2.2.1, .int n.2.2.1]) (rest := [.int 1, .int bl, .ref g9]) (rm := { frames := 0, cells := 0, slots := 0, locals := 0 }) ⟨hx, hb, hml, hown, hts⟩ (c_X1_merged l D k z _ f.2.2.1 tt.2.2.1 n.2.2.1) (cwS 3 hts gX1_weighNode_X1_merged rfl rfl rfl (by decide +kernel) ⟨Nat.le_of_ble_eq_true rfl, Nat.le_of_ble_eq_true rfl⟩) hz hcx hm hS rfl hl.1 rfl (Nat.le_of_ble_eq_true rfl) dX1_weighNode_160 ⟨Nat.le_of_ble_eq_true rfl, Nat.le_of_ble_eq_true rfl⟩ (fun v M1 H locs hv hm hS => ?_)
        obtain ⟨hv1, hM1⟩ := hv
        rw [hmg] at hv1
        subst hv1
        rw [hM1] at hm
        refine W.eq (g2 := F0 m 163 ls [.int (nI m9), .int 1, .int bl, .ref g9]) rfl ?_
        refine W.widen (k := 0) (n := 0) (Nat.le_of_ble_eq_true rfl) (Nat.le_of_ble_eq_true rfl) ?_
        have hm : mm D (AZ z) (mu (mu M g9 (.inr (1, [.int (it + ((ccV f tt n (nlen tt)) + 1)), .int nd, .int bl, .int ho, .ref nD, .ref nF]))) g9 (.inr (1, [.int (it + ((ccV f tt n (nlen tt)) + 1)), .int (nd + 1), .int bl, .int ho, .ref nD, .ref nF]))) H := hm
        refine m_kS (As := [.int (nI m9)]) (rest := [.int 1, .int bl, .ref g9]) (rm := { frames := 0, cells := 0, slots := 0, locals := 0 }) ⟨hx, hb, hml, hown, hts⟩ (c_X2_wordBlocks l D k z _ (nI m9)) (va_cwS 1 hts gX1_weighNode_X2_wordBlocks rfl rfl rfl (by decide +kernel) ⟨Nat.le_of_ble_eq_true rfl, Nat.le_of_ble_eq_true rfl⟩) hz hcx hm hS rfl hl.1 rfl (Nat.le_of_ble_eq_true rfl) dX1_weighNode_163 ⟨Nat.le_of_ble_eq_true rfl, Nat.le_of_ble_eq_true rfl⟩ (fun v M1 H locs hv hm hS => ?_)
        obtain ⟨rfl, hM1⟩ := hv
        rw [hM1] at hm
        refine W.eq (g2 := F0 m 166 ls [.int ((nI m9 + 8 - 1) / 8), .int 1, .int bl, .ref g9]) rfl ?_
        refine W.widen (k := 0) (n := 0) (Nat.le_of_ble_eq_true rfl) (Nat.le_of_ble_eq_true rfl) ?_
        have hm : mm D (AZ z) (mu (mu M g9 (.inr (1, [.int (it + ((ccV f tt n (nlen tt)) + 1)), .int nd, .int bl, .int ho, .ref nD, .ref nF]))) g9 (.inr (1, [.int (it + ((ccV f tt n (nlen tt)) + 1)), .int (nd + 1), .int bl, .int ho, .ref nD, .ref nF]))) H := hm
        refine lv_iadd hx hb dX1_weighNode_166 ?_
        refine lv_iadd hx hb dX1_weighNode_167 ?_
        refine m_put (T := TX1) (N := 6) (ci := 1) (v := .int (bl + (1 + ((nI m9 + 8 - 1) / 8)))) (ty := .int) hx hb hts wX1 tyX1 tyX1_ok nmX1 hown hK hm hS (mu_self _ _ _) rfl 2 (by decide) f18 (fun _ h9 => h9) rfl (by decide +kernel) rfl rfl (Nat.le_of_ble_eq_true rfl) dX1_weighNode_168 (fun H locs hm hS => ?_)
        have hm : mm D (AZ z) (mu (mu (mu M g9 (.inr (1, [.int (it + ((ccV f tt n (nlen tt)) + 1)), .int nd, .int bl, .int ho, .ref nD, .ref nF]))) g9 (.inr (1, [.int (it + ((ccV f tt n (nlen tt)) + 1)), .int (nd + 1), .int bl, .int ho, .ref nD, .ref nF]))) g9 (.inr (1, [.int (it + ((ccV f tt n (nlen tt)) + 1)), .int (nd + 1), .int (bl + (1 + ((nI m9 + 8 - 1) / 8))), .int ho, .ref nD, .ref nF]))) H := hm
        refine lv_aload_n hx hb dX1_weighNode_171 rfl (lv_at hl 2 rfl) ?_
        refine lv_dup hx hb dX1_weighNode_172 rfl ?_
        refine m_get (T := TX1) (N := 6) (ci := 1) (v := .int ho) hx hb hts wX1 hown hK hm (mu_self _ _ _) rfl 3 (by decide) f21 (fun _ h9 => h9) rfl dX1_weighNode_173 ?_
        refine lv_iload hx hb dX1_weighNode_176 (lv_at hl 6 rfl) ?_
        refine lv_if_ne (tgt := 186) hx hb dX1_weighNode_178 (by decide) (fun c9 => ?_) (fun c9 => ?_)
        · refine lv_iconst (v := 1) hx hb dX1_weighNode_186 (by decide) ?_
          refine lv_goto (tgt := 191) hx hb dX1_weighNode_187 (by decide) ?_
          refine lv_iadd hx hb dX1_weighNode_191 ?_
          refine m_put (T := TX1) (N := 6) (ci := 1) (v := .int (ho + 1)) (ty := .int) hx hb hts wX1 tyX1 tyX1_ok nmX1 hown hK hm hS (mu_self _ _ _) rfl 3 (by decide) f21 (fun _ h9 => h9) rfl (by decide +kernel) rfl rfl (Nat.le_of_ble_eq_true rfl) dX1_weighNode_192 (fun H locs hm hS => ?_)
          have hm : mm D (AZ z) (mu (mu (mu (mu M g9 (.inr (1, [.int (it + ((ccV f tt n (nlen tt)) + 1)), .int nd, .int bl, .int ho, .ref nD, .ref nF]))) g9 (.inr (1, [.int (it + ((ccV f tt n (nlen tt)) + 1)), .int (nd + 1), .int bl, .int ho, .ref nD, .ref nF]))) g9 (.inr (1, [.int (it + ((ccV f tt n (nlen tt)) + 1)), .int (nd + 1), .int (bl + (1 + ((nI m9 + 8 - 1) / 8))), .int ho, .ref nD, .ref nF]))) g9 (.inr (1, [.int (it + ((ccV f tt n (nlen tt)) + 1)), .int (nd + 1), .int (bl + (1 + ((nI m9 + 8 - 1) / 8))), .int (ho + 1), .ref nD, .ref nF]))) H := hm
          refine lv_aload_n hx hb dX1_weighNode_195 rfl (lv_at hl 2 rfl) ?_
          refine lv_dup hx hb dX1_weighNode_196 rfl ?_
          refine m_get (T := TX1) (N := 6) (ci := 1) (v := .int (ho + 1)) hx hb hts wX1 hown hK hm (mu_self _ _ _) rfl 3 (by decide) f21 (fun _ h9 => h9) rfl dX1_weighNode_197 ?_
          refine lv_aload_n hx hb dX1_weighNode_200 rfl (lv_at hl 3 rfl) ?_
          refine lv_aload_n hx hb dX1_weighNode_201 rfl (lv_at hl 4 rfl) ?_
          refine lv_aload_n hx hb dX1_weighNode_202 rfl (lv_at hl 5 rfl) ?_
          refine m_kS (As := [.ref fa, .ref ta, .ref na]) (rest := [.int (ho + 1), .ref g9]) (rm := { frames := 1, cells := 0, slots := 0, locals := 24 }) ⟨hx, hb, hml, hown, hts⟩ (c_X1_wordBlocksComing l D k z _ fa ta na m9 f tt n hm9 hmg (nodeAt_mu (nodeAt_mu (nodeAt_mu (nodeAt_mu hF hG (other_merge _ _)) (mu_self _ _ _) (other_merge _ _)) (mu_self _ _ _) (other_merge _ _)) (mu_self _ _ _) (other_merge _ _)) (nodeAt_mu (nodeAt_mu (nodeAt_mu (nodeAt_mu hT hG (other_merge _ _)) (mu_self _ _ _) (other_merge _ _)) (mu_self _ _ _) (other_merge _ _)) (mu_self _ _ _) (other_merge _ _)) (nodeAt_mu (nodeAt_mu (nodeAt_mu (nodeAt_mu hN hG (other_merge _ _)) (mu_self _ _ _) (other_merge _ _)) (mu_self _ _ _) (other_merge _ _)) (mu_self _ _ _) (other_merge _ _))) (cwS 3 hts gX1_weighNode_X1_wordBlocksComing rfl rfl rfl (by decide +kernel) ⟨Nat.le_of_ble_eq_true rfl, Nat.le_of_ble_eq_true rfl⟩) hz hcx hm hS rfl hl.1 rfl (Nat.le_of_ble_eq_true rfl) dX1_weighNode_203 ⟨Nat.le_of_ble_eq_true rfl, Nat.le_of_ble_eq_true rfl⟩ (fun v M1 H locs hv hm hS => ?_)
          obtain ⟨rfl, hM1⟩ := hv
          rw [hM1] at hm
          refine W.eq (g2 := F0 m 206 ls [.int (wbc f tt n m9).2, .int (ho + 1), .ref g9]) rfl ?_
          refine W.widen (k := 0) (n := 0) (Nat.le_of_ble_eq_true rfl) (Nat.le_of_ble_eq_true rfl) ?_
          have hm : mm D (AZ z) (mu (mu (mu (mu M g9 (.inr (1, [.int (it + ((ccV f tt n (nlen tt)) + 1)), .int nd, .int bl, .int ho, .ref nD, .ref nF]))) g9 (.inr (1, [.int (it + ((ccV f tt n (nlen tt)) + 1)), .int (nd + 1), .int bl, .int ho, .ref nD, .ref nF]))) g9 (.inr (1, [.int (it + ((ccV f tt n (nlen tt)) + 1)), .int (nd + 1), .int (bl + (1 + ((nI m9 + 8 - 1) / 8))), .int ho, .ref nD, .ref nF]))) g9 (.inr (1, [.int (it + ((ccV f tt n (nlen tt)) + 1)), .int (nd + 1), .int (bl + (1 + ((nI m9 + 8 - 1) / 8))), .int (ho + 1), .ref nD, .ref nF]))) H := hm
          refine lv_iadd hx hb dX1_weighNode_206 ?_
          refine m_put (T := TX1) (N := 6) (ci := 1) (v := .int ((ho + 1) + (wbc f tt n m9).2)) (ty := .int) hx hb hts wX1 tyX1 tyX1_ok nmX1 hown hK hm hS (mu_self _ _ _) rfl 3 (by decide) f21 (fun _ h9 => h9) rfl (by decide +kernel) rfl rfl (Nat.le_of_ble_eq_true rfl) dX1_weighNode_207 (fun H locs hm hS => ?_)
          have hm : mm D (AZ z) (mu (mu (mu (mu (mu M g9 (.inr (1, [.int (it + ((ccV f tt n (nlen tt)) + 1)), .int nd, .int bl, .int ho, .ref nD, .ref nF]))) g9 (.inr (1, [.int (it + ((ccV f tt n (nlen tt)) + 1)), .int (nd + 1), .int bl, .int ho, .ref nD, .ref nF]))) g9 (.inr (1, [.int (it + ((ccV f tt n (nlen tt)) + 1)), .int (nd + 1), .int (bl + (1 + ((nI m9 + 8 - 1) / 8))), .int ho, .ref nD, .ref nF]))) g9 (.inr (1, [.int (it + ((ccV f tt n (nlen tt)) + 1)), .int (nd + 1), .int (bl + (1 + ((nI m9 + 8 - 1) / 8))), .int (ho + 1), .ref nD, .ref nF]))) g9 (.inr (1, [.int (it + ((ccV f tt n (nlen tt)) + 1)), .int (nd + 1), .int (bl + (1 + ((nI m9 + 8 - 1) / 8))), .int ((ho + 1) + (wbc f tt n m9).2), .ref nD, .ref nF]))) H := hm
          refine W.vret hx hb hr (fun t ht hW => ⟨⟨none, _, rfl, ?_, by rw [ht]; exact hm⟩, hS.F ht⟩) hS.2.2 dX1_weighNode_210
          first
            | contradiction
            | exact ⟨rfl, by simp [wnIt, wnBl, wnHo, mu_mu, c1, c2, c8, c9]⟩
        · refine lv_iload hx hb dX1_weighNode_181 (lv_at hl 0 rfl) ?_
          refine lv_if_eq (tgt := 190) hx hb dX1_weighNode_183 (by decide) (fun c10 => ?_) (fun c10 => ?_)
          · refine lv_iconst (v := 0) hx hb dX1_weighNode_190 (by decide) ?_
            refine lv_iadd hx hb dX1_weighNode_191 ?_
            refine m_put (T := TX1) (N := 6) (ci := 1) (v := .int (ho + 0)) (ty := .int) hx hb hts wX1 tyX1 tyX1_ok nmX1 hown hK hm hS (mu_self _ _ _) rfl 3 (by decide) f21 (fun _ h9 => h9) rfl (by decide +kernel) rfl rfl (Nat.le_of_ble_eq_true rfl) dX1_weighNode_192 (fun H locs hm hS => ?_)
            have hm : mm D (AZ z) (mu (mu (mu (mu M g9 (.inr (1, [.int (it + ((ccV f tt n (nlen tt)) + 1)), .int nd, .int bl, .int ho, .ref nD, .ref nF]))) g9 (.inr (1, [.int (it + ((ccV f tt n (nlen tt)) + 1)), .int (nd + 1), .int bl, .int ho, .ref nD, .ref nF]))) g9 (.inr (1, [.int (it + ((ccV f tt n (nlen tt)) + 1)), .int (nd + 1), .int (bl + (1 + ((nI m9 + 8 - 1) / 8))), .int ho, .ref nD, .ref nF]))) g9 (.inr (1, [.int (it + ((ccV f tt n (nlen tt)) + 1)), .int (nd + 1), .int (bl + (1 + ((nI m9 + 8 - 1) / 8))), .int (ho + 0), .ref nD, .ref nF]))) H := hm
            refine lv_aload_n hx hb dX1_weighNode_195 rfl (lv_at hl 2 rfl) ?_
            refine lv_dup hx hb dX1_weighNode_196 rfl ?_
            refine m_get (T := TX1) (N := 6) (ci := 1) (v := .int (ho + 0)) hx hb hts wX1 hown hK hm (mu_self _ _ _) rfl 3 (by decide) f21 (fun _ h9 => h9) rfl dX1_weighNode_197 ?_
            refine lv_aload_n hx hb dX1_weighNode_200 rfl (lv_at hl 3 rfl) ?_
            refine lv_aload_n hx hb dX1_weighNode_201 rfl (lv_at hl 4 rfl) ?_
            refine lv_aload_n hx hb dX1_weighNode_202 rfl (lv_at hl 5 rfl) ?_
            refine m_kS (As := [.ref fa, .ref ta, .ref na]) (rest := [.int (ho + 0), .ref g9]) (rm := { frames := 1, cells := 0, slots := 0, locals := 24 }) ⟨hx, hb, hml, hown, hts⟩ (c_X1_wordBlocksComing l D k z _ fa ta na m9 f tt n hm9 hmg (nodeAt_mu (nodeAt_mu (nodeAt_mu (nodeAt_mu hF hG (other_merge _ _)) (mu_self _ _ _) (other_merge _ _)) (mu_self _ _ _) (other_merge _ _)) (mu_self _ _ _) (other_merge _ _)) (nodeAt_mu (nodeAt_mu (nodeAt_mu (nodeAt_mu hT hG (other_merge _ _)) (mu_self _ _ _) (other_merge _ _)) (mu_self _ _ _) (other_merge _ _)) (mu_self _ _ _) (other_merge _ _)) (nodeAt_mu (nodeAt_mu (nodeAt_mu (nodeAt_mu hN hG (other_merge _ _)) (mu_self _ _ _) (other_merge _ _)) (mu_self _ _ _) (other_merge _ _)) (mu_self _ _ _) (other_merge _ _))) (cwS 3 hts gX1_weighNode_X1_wordBlocksComing rfl rfl rfl (by decide +kernel) ⟨Nat.le_of_ble_eq_true rfl, Nat.le_of_ble_eq_true rfl⟩) hz hcx hm hS rfl hl.1 rfl (Nat.le_of_ble_eq_true rfl) dX1_weighNode_203 ⟨Nat.le_of_ble_eq_true rfl, Nat.le_of_ble_eq_true rfl⟩ (fun v M1 H locs hv hm hS => ?_)
            obtain ⟨rfl, hM1⟩ := hv
            rw [hM1] at hm
            refine W.eq (g2 := F0 m 206 ls [.int (wbc f tt n m9).2, .int (ho + 0), .ref g9]) rfl ?_
            refine W.widen (k := 0) (n := 0) (Nat.le_of_ble_eq_true rfl) (Nat.le_of_ble_eq_true rfl) ?_
            have hm : mm D (AZ z) (mu (mu (mu (mu M g9 (.inr (1, [.int (it + ((ccV f tt n (nlen tt)) + 1)), .int nd, .int bl, .int ho, .ref nD, .ref nF]))) g9 (.inr (1, [.int (it + ((ccV f tt n (nlen tt)) + 1)), .int (nd + 1), .int bl, .int ho, .ref nD, .ref nF]))) g9 (.inr (1, [.int (it + ((ccV f tt n (nlen tt)) + 1)), .int (nd + 1), .int (bl + (1 + ((nI m9 + 8 - 1) / 8))), .int ho, .ref nD, .ref nF]))) g9 (.inr (1, [.int (it + ((ccV f tt n (nlen tt)) + 1)), .int (nd + 1), .int (bl + (1 + ((nI m9 + 8 - 1) / 8))), .int (ho + 0), .ref nD, .ref nF]))) H := hm
            refine lv_iadd hx hb dX1_weighNode_206 ?_
            refine m_put (T := TX1) (N := 6) (ci := 1) (v := .int ((ho + 0) + (wbc f tt n m9).2)) (ty := .int) hx hb hts wX1 tyX1 tyX1_ok nmX1 hown hK hm hS (mu_self _ _ _) rfl 3 (by decide) f21 (fun _ h9 => h9) rfl (by decide +kernel) rfl rfl (Nat.le_of_ble_eq_true rfl) dX1_weighNode_207 (fun H locs hm hS => ?_)
            have hm : mm D (AZ z) (mu (mu (mu (mu (mu M g9 (.inr (1, [.int (it + ((ccV f tt n (nlen tt)) + 1)), .int nd, .int bl, .int ho, .ref nD, .ref nF]))) g9 (.inr (1, [.int (it + ((ccV f tt n (nlen tt)) + 1)), .int (nd + 1), .int bl, .int ho, .ref nD, .ref nF]))) g9 (.inr (1, [.int (it + ((ccV f tt n (nlen tt)) + 1)), .int (nd + 1), .int (bl + (1 + ((nI m9 + 8 - 1) / 8))), .int ho, .ref nD, .ref nF]))) g9 (.inr (1, [.int (it + ((ccV f tt n (nlen tt)) + 1)), .int (nd + 1), .int (bl + (1 + ((nI m9 + 8 - 1) / 8))), .int (ho + 0), .ref nD, .ref nF]))) g9 (.inr (1, [.int (it + ((ccV f tt n (nlen tt)) + 1)), .int (nd + 1), .int (bl + (1 + ((nI m9 + 8 - 1) / 8))), .int ((ho + 0) + (wbc f tt n m9).2), .ref nD, .ref nF]))) H := hm
            refine W.vret hx hb hr (fun t ht hW => ⟨⟨none, _, rfl, ?_, by rw [ht]; exact hm⟩, hS.F ht⟩) hS.2.2 dX1_weighNode_210
            first
              | contradiction
              | exact ⟨rfl, by simp [wnIt, wnBl, wnHo, mu_mu, c1, c2, c8, c9, c10]⟩
          · refine lv_iconst (v := 1) hx hb dX1_weighNode_186 (by decide) ?_
            refine lv_goto (tgt := 191) hx hb dX1_weighNode_187 (by decide) ?_
            refine lv_iadd hx hb dX1_weighNode_191 ?_
            refine m_put (T := TX1) (N := 6) (ci := 1) (v := .int (ho + 1)) (ty := .int) hx hb hts wX1 tyX1 tyX1_ok nmX1 hown hK hm hS (mu_self _ _ _) rfl 3 (by decide) f21 (fun _ h9 => h9) rfl (by decide +kernel) rfl rfl (Nat.le_of_ble_eq_true rfl) dX1_weighNode_192 (fun H locs hm hS => ?_)
            have hm : mm D (AZ z) (mu (mu (mu (mu M g9 (.inr (1, [.int (it + ((ccV f tt n (nlen tt)) + 1)), .int nd, .int bl, .int ho, .ref nD, .ref nF]))) g9 (.inr (1, [.int (it + ((ccV f tt n (nlen tt)) + 1)), .int (nd + 1), .int bl, .int ho, .ref nD, .ref nF]))) g9 (.inr (1, [.int (it + ((ccV f tt n (nlen tt)) + 1)), .int (nd + 1), .int (bl + (1 + ((nI m9 + 8 - 1) / 8))), .int ho, .ref nD, .ref nF]))) g9 (.inr (1, [.int (it + ((ccV f tt n (nlen tt)) + 1)), .int (nd + 1), .int (bl + (1 + ((nI m9 + 8 - 1) / 8))), .int (ho + 1), .ref nD, .ref nF]))) H := hm
            refine lv_aload_n hx hb dX1_weighNode_195 rfl (lv_at hl 2 rfl) ?_
            refine lv_dup hx hb dX1_weighNode_196 rfl ?_
            refine m_get (T := TX1) (N := 6) (ci := 1) (v := .int (ho + 1)) hx hb hts wX1 hown hK hm (mu_self _ _ _) rfl 3 (by decide) f21 (fun _ h9 => h9) rfl dX1_weighNode_197 ?_
            refine lv_aload_n hx hb dX1_weighNode_200 rfl (lv_at hl 3 rfl) ?_
            refine lv_aload_n hx hb dX1_weighNode_201 rfl (lv_at hl 4 rfl) ?_
            refine lv_aload_n hx hb dX1_weighNode_202 rfl (lv_at hl 5 rfl) ?_
            refine m_kS (As := [.ref fa, .ref ta, .ref na]) (rest := [.int (ho + 1), .ref g9]) (rm := { frames := 1, cells := 0, slots := 0, locals := 24 }) ⟨hx, hb, hml, hown, hts⟩ (c_X1_wordBlocksComing l D k z _ fa ta na m9 f tt n hm9 hmg (nodeAt_mu (nodeAt_mu (nodeAt_mu (nodeAt_mu hF hG (other_merge _ _)) (mu_self _ _ _) (other_merge _ _)) (mu_self _ _ _) (other_merge _ _)) (mu_self _ _ _) (other_merge _ _)) (nodeAt_mu (nodeAt_mu (nodeAt_mu (nodeAt_mu hT hG (other_merge _ _)) (mu_self _ _ _) (other_merge _ _)) (mu_self _ _ _) (other_merge _ _)) (mu_self _ _ _) (other_merge _ _)) (nodeAt_mu (nodeAt_mu (nodeAt_mu (nodeAt_mu hN hG (other_merge _ _)) (mu_self _ _ _) (other_merge _ _)) (mu_self _ _ _) (other_merge _ _)) (mu_self _ _ _) (other_merge _ _))) (cwS 3 hts gX1_weighNode_X1_wordBlocksComing rfl rfl rfl (by decide +kernel) ⟨Nat.le_of_ble_eq_true rfl, Nat.le_of_ble_eq_true rfl⟩) hz hcx hm hS rfl hl.1 rfl (Nat.le_of_ble_eq_true rfl) dX1_weighNode_203 ⟨Nat.le_of_ble_eq_true rfl, Nat.le_of_ble_eq_true rfl⟩ (fun v M1 H locs hv hm hS => ?_)
            obtain ⟨rfl, hM1⟩ := hv
            rw [hM1] at hm
            refine W.eq (g2 := F0 m 206 ls [.int (wbc f tt n m9).2, .int (ho + 1), .ref g9]) rfl ?_
            refine W.widen (k := 0) (n := 0) (Nat.le_of_ble_eq_true rfl) (Nat.le_of_ble_eq_true rfl) ?_
            have hm : mm D (AZ z) (mu (mu (mu (mu M g9 (.inr (1, [.int (it + ((ccV f tt n (nlen tt)) + 1)), .int nd, .int bl, .int ho, .ref nD, .ref nF]))) g9 (.inr (1, [.int (it + ((ccV f tt n (nlen tt)) + 1)), .int (nd + 1), .int bl, .int ho, .ref nD, .ref nF]))) g9 (.inr (1, [.int (it + ((ccV f tt n (nlen tt)) + 1)), .int (nd + 1), .int (bl + (1 + ((nI m9 + 8 - 1) / 8))), .int ho, .ref nD, .ref nF]))) g9 (.inr (1, [.int (it + ((ccV f tt n (nlen tt)) + 1)), .int (nd + 1), .int (bl + (1 + ((nI m9 + 8 - 1) / 8))), .int (ho + 1), .ref nD, .ref nF]))) H := hm
            refine lv_iadd hx hb dX1_weighNode_206 ?_
            refine m_put (T := TX1) (N := 6) (ci := 1) (v := .int ((ho + 1) + (wbc f tt n m9).2)) (ty := .int) hx hb hts wX1 tyX1 tyX1_ok nmX1 hown hK hm hS (mu_self _ _ _) rfl 3 (by decide) f21 (fun _ h9 => h9) rfl (by decide +kernel) rfl rfl (Nat.le_of_ble_eq_true rfl) dX1_weighNode_207 (fun H locs hm hS => ?_)
            have hm : mm D (AZ z) (mu (mu (mu (mu (mu M g9 (.inr (1, [.int (it + ((ccV f tt n (nlen tt)) + 1)), .int nd, .int bl, .int ho, .ref nD, .ref nF]))) g9 (.inr (1, [.int (it + ((ccV f tt n (nlen tt)) + 1)), .int (nd + 1), .int bl, .int ho, .ref nD, .ref nF]))) g9 (.inr (1, [.int (it + ((ccV f tt n (nlen tt)) + 1)), .int (nd + 1), .int (bl + (1 + ((nI m9 + 8 - 1) / 8))), .int ho, .ref nD, .ref nF]))) g9 (.inr (1, [.int (it + ((ccV f tt n (nlen tt)) + 1)), .int (nd + 1), .int (bl + (1 + ((nI m9 + 8 - 1) / 8))), .int (ho + 1), .ref nD, .ref nF]))) g9 (.inr (1, [.int (it + ((ccV f tt n (nlen tt)) + 1)), .int (nd + 1), .int (bl + (1 + ((nI m9 + 8 - 1) / 8))), .int ((ho + 1) + (wbc f tt n m9).2), .ref nD, .ref nF]))) H := hm
            refine W.vret hx hb hr (fun t ht hW => ⟨⟨none, _, rfl, ?_, by rw [ht]; exact hm⟩, hS.F ht⟩) hS.2.2 dX1_weighNode_210
            first
              | contradiction
              | exact ⟨rfl, by simp [wnIt, wnBl, wnHo, mu_mu, c1, c2, c8, c9, c10]⟩
      · refine lv_aload_n hx hb dX1_weighNode_105 rfl (lv_at hl 2 rfl) ?_
        refine lv_dup hx hb dX1_weighNode_106 rfl ?_
        refine m_get (T := TX1) (N := 6) (ci := 1) (v := .int bl) hx hb hts wX1 hown hK hm (mu_self _ _ _) rfl 2 (by decide) f18 (fun _ h9 => h9) rfl dX1_weighNode_107 ?_
        refine lv_iconst (v := 1) hx hb dX1_weighNode_110 (by decide) ?_
        refine lv_iadd hx hb dX1_weighNode_111 ?_
        refine m_put (T := TX1) (N := 6) (ci := 1) (v := .int (bl + 1)) (ty := .int) hx hb hts wX1 tyX1 tyX1_ok nmX1 hown hK hm hS (mu_self _ _ _) rfl 2 (by decide) f18 (fun _ h9 => h9) rfl (by decide +kernel) rfl rfl (Nat.le_of_ble_eq_true rfl) dX1_weighNode_112 (fun H locs hm hS => ?_)
        have hm : mm D (AZ z) (mu (mu (mu M g9 (.inr (1, [.int (it + ((ccV f tt n (nlen tt)) + 1)), .int nd, .int bl, .int ho, .ref nD, .ref nF]))) g9 (.inr (1, [.int (it + ((ccV f tt n (nlen tt)) + 1)), .int (nd + 1), .int bl, .int ho, .ref nD, .ref nF]))) g9 (.inr (1, [.int (it + ((ccV f tt n (nlen tt)) + 1)), .int (nd + 1), .int (bl + 1), .int ho, .ref nD, .ref nF]))) H := hm
        refine lv_aload_n hx hb dX1_weighNode_115 rfl (lv_at hl 2 rfl) ?_
        refine lv_dup hx hb dX1_weighNode_116 rfl ?_
        refine m_get (T := TX1) (N := 6) (ci := 1) (v := .int ho) hx hb hts wX1 hown hK hm (mu_self _ _ _) rfl 3 (by decide) f21 (fun _ h9 => h9) rfl dX1_weighNode_117 ?_
        refine lv_iload hx hb dX1_weighNode_120 (lv_at hl 6 rfl) ?_
        refine lv_if_ne (tgt := 130) hx hb dX1_weighNode_122 (by decide) (fun c11 => ?_) (fun c11 => ?_)
        · refine lv_iconst (v := 1) hx hb dX1_weighNode_130 (by decide) ?_
          refine lv_goto (tgt := 135) hx hb dX1_weighNode_131 (by decide) ?_
          refine lv_iadd hx hb dX1_weighNode_135 ?_
          refine m_put (T := TX1) (N := 6) (ci := 1) (v := .int (ho + 1)) (ty := .int) hx hb hts wX1 tyX1 tyX1_ok nmX1 hown hK hm hS (mu_self _ _ _) rfl 3 (by decide) f21 (fun _ h9 => h9) rfl (by decide +kernel) rfl rfl (Nat.le_of_ble_eq_true rfl) dX1_weighNode_136 (fun H locs hm hS => ?_)
          have hm : mm D (AZ z) (mu (mu (mu (mu M g9 (.inr (1, [.int (it + ((ccV f tt n (nlen tt)) + 1)), .int nd, .int bl, .int ho, .ref nD, .ref nF]))) g9 (.inr (1, [.int (it + ((ccV f tt n (nlen tt)) + 1)), .int (nd + 1), .int bl, .int ho, .ref nD, .ref nF]))) g9 (.inr (1, [.int (it + ((ccV f tt n (nlen tt)) + 1)), .int (nd + 1), .int (bl + 1), .int ho, .ref nD, .ref nF]))) g9 (.inr (1, [.int (it + ((ccV f tt n (nlen tt)) + 1)), .int (nd + 1), .int (bl + 1), .int (ho + 1), .ref nD, .ref nF]))) H := hm
          refine lv_goto (tgt := 210) hx hb dX1_weighNode_139 (by decide) ?_
          refine W.vret hx hb hr (fun t ht hW => ⟨⟨none, _, rfl, ?_, by rw [ht]; exact hm⟩, hS.F ht⟩) hS.2.2 dX1_weighNode_210
          first
            | contradiction
            | exact ⟨rfl, by simp [wnIt, wnBl, wnHo, mu_mu, c1, c2, c8, c11]⟩
        · refine lv_iload hx hb dX1_weighNode_125 (lv_at hl 1 rfl) ?_
          refine lv_if_le (tgt := 134) hx hb dX1_weighNode_127 (by decide) (fun c12 => ?_) (fun c12 => ?_)
          · refine lv_iconst (v := 0) hx hb dX1_weighNode_134 (by decide) ?_
            refine lv_iadd hx hb dX1_weighNode_135 ?_
            refine m_put (T := TX1) (N := 6) (ci := 1) (v := .int (ho + 0)) (ty := .int) hx hb hts wX1 tyX1 tyX1_ok nmX1 hown hK hm hS (mu_self _ _ _) rfl 3 (by decide) f21 (fun _ h9 => h9) rfl (by decide +kernel) rfl rfl (Nat.le_of_ble_eq_true rfl) dX1_weighNode_136 (fun H locs hm hS => ?_)
            have hm : mm D (AZ z) (mu (mu (mu (mu M g9 (.inr (1, [.int (it + ((ccV f tt n (nlen tt)) + 1)), .int nd, .int bl, .int ho, .ref nD, .ref nF]))) g9 (.inr (1, [.int (it + ((ccV f tt n (nlen tt)) + 1)), .int (nd + 1), .int bl, .int ho, .ref nD, .ref nF]))) g9 (.inr (1, [.int (it + ((ccV f tt n (nlen tt)) + 1)), .int (nd + 1), .int (bl + 1), .int ho, .ref nD, .ref nF]))) g9 (.inr (1, [.int (it + ((ccV f tt n (nlen tt)) + 1)), .int (nd + 1), .int (bl + 1), .int (ho + 0), .ref nD, .ref nF]))) H := hm
            refine lv_goto (tgt := 210) hx hb dX1_weighNode_139 (by decide) ?_
            refine W.vret hx hb hr (fun t ht hW => ⟨⟨none, _, rfl, ?_, by rw [ht]; exact hm⟩, hS.F ht⟩) hS.2.2 dX1_weighNode_210
            first
              | contradiction
              | exact ⟨rfl, by simp [wnIt, wnBl, wnHo, mu_mu, c1, c2, c8, c11, c12]⟩
          · refine lv_iconst (v := 1) hx hb dX1_weighNode_130 (by decide) ?_
            refine lv_goto (tgt := 135) hx hb dX1_weighNode_131 (by decide) ?_
            refine lv_iadd hx hb dX1_weighNode_135 ?_
            refine m_put (T := TX1) (N := 6) (ci := 1) (v := .int (ho + 1)) (ty := .int) hx hb hts wX1 tyX1 tyX1_ok nmX1 hown hK hm hS (mu_self _ _ _) rfl 3 (by decide) f21 (fun _ h9 => h9) rfl (by decide +kernel) rfl rfl (Nat.le_of_ble_eq_true rfl) dX1_weighNode_136 (fun H locs hm hS => ?_)
            have hm : mm D (AZ z) (mu (mu (mu (mu M g9 (.inr (1, [.int (it + ((ccV f tt n (nlen tt)) + 1)), .int nd, .int bl, .int ho, .ref nD, .ref nF]))) g9 (.inr (1, [.int (it + ((ccV f tt n (nlen tt)) + 1)), .int (nd + 1), .int bl, .int ho, .ref nD, .ref nF]))) g9 (.inr (1, [.int (it + ((ccV f tt n (nlen tt)) + 1)), .int (nd + 1), .int (bl + 1), .int ho, .ref nD, .ref nF]))) g9 (.inr (1, [.int (it + ((ccV f tt n (nlen tt)) + 1)), .int (nd + 1), .int (bl + 1), .int (ho + 1), .ref nD, .ref nF]))) H := hm
            refine lv_goto (tgt := 210) hx hb dX1_weighNode_139 (by decide) ?_
            refine W.vret hx hb hr (fun t ht hW => ⟨⟨none, _, rfl, ?_, by rw [ht]; exact hm⟩, hS.F ht⟩) hS.2.2 dX1_weighNode_210
            first
              | contradiction
              | exact ⟨rfl, by simp [wnIt, wnBl, wnHo, mu_mu, c1, c2, c8, c11, c12]⟩
  · have hlt9 : i < nlen tt := Nat.lt_of_not_le fun q => c1 (nI_le q (by omega))
    refine lv_aload_n hx hb dX1_weighNode_16 rfl (lv_at hl 3 rfl) ?_
    refine lv_iload hx hb dX1_weighNode_17 (lv_at hl 0 rfl) ?_
    refine m_kV (As := [.int (nI i)]) (rest := []) (rm := { frames := 0, cells := 0, slots := 0, locals := 0 }) ⟨hx, hb, hml, hown, hts⟩ (c_X2_cell l D k z _ fa cfa (nlen f) f.1 f.2.1 f.2.2.1 (nI i) f.2.2.2 (nlen31 f) hnfa hcfa) (cwV 1 hts gX1_weighNode_X2_cell rfl rfl rfl (by decide +kernel) ⟨Nat.le_of_ble_eq_true rfl, Nat.le_of_ble_eq_true rfl⟩) (m_recv hK hm (q := (RX2, TX2, 4)) rfl hnfa) hz hcx hm hS rfl hl.1 rfl (Nat.le_of_ble_eq_true rfl) dX1_weighNode_19 ⟨Nat.le_of_ble_eq_true rfl, Nat.le_of_ble_eq_true rfl⟩ (fun v M1 H locs hv hm hS => ?_)
    obtain ⟨rfl, hM1⟩ := hv
    rw [hM1] at hm
    refine W.eq (g2 := F0 m 22 ls [.int (ndc f (nI i))]) rfl ?_
    refine W.widen (k := 0) (n := 0) (Nat.le_of_ble_eq_true rfl) (Nat.le_of_ble_eq_true rfl) ?_
    have hm : mm D (AZ z) M H := hm
    refine lv_aload_n hx hb dX1_weighNode_22 rfl (lv_at hl 4 rfl) ?_
    refine lv_iload hx hb dX1_weighNode_23 (lv_at hl 0 rfl) ?_
    refine m_kV (As := [.int (nI i)]) (rest := [.int (ndc f (nI i))]) (rm := { frames := 0, cells := 0, slots := 0, locals := 0 }) ⟨hx, hb, hml, hown, hts⟩ (c_X2_cell l D k z _ ta cta (nlen tt) tt.1 tt.2.1 tt.2.2.1 (nI i) tt.2.2.2 (nlen31 tt) hnta hcta) (cwV 1 hts gX1_weighNode_X2_cell rfl rfl rfl (by decide +kernel) ⟨Nat.le_of_ble_eq_true rfl, Nat.le_of_ble_eq_true rfl⟩) (m_recv hK hm (q := (RX2, TX2, 4)) rfl hnta) hz hcx hm hS rfl hl.1 rfl (Nat.le_of_ble_eq_true rfl) dX1_weighNode_25 ⟨Nat.le_of_ble_eq_true rfl, Nat.le_of_ble_eq_true rfl⟩ (fun v M1 H locs hv hm hS => ?_)
    obtain ⟨rfl, hM1⟩ := hv
    rw [hM1] at hm
    refine W.eq (g2 := F0 m 28 ls [.int (ndc tt (nI i)), .int (ndc f (nI i))]) rfl ?_
    refine W.widen (k := 0) (n := 0) (Nat.le_of_ble_eq_true rfl) (Nat.le_of_ble_eq_true rfl) ?_
    have hm : mm D (AZ z) M H := hm
    refine lv_aload_n hx hb dX1_weighNode_28 rfl (lv_at hl 5 rfl) ?_
    refine lv_iload hx hb dX1_weighNode_29 (lv_at hl 0 rfl) ?_
    refine m_kV (As := [.int (nI i)]) (rest := [.int (ndc tt (nI i)), .int (ndc f (nI i))]) (rm := { frames := 0, cells := 0, slots := 0, locals := 0 }) ⟨hx, hb, hml, hown, hts⟩ (c_X2_cell l D k z _ na cna (nlen n) n.1 n.2.1 n.2.2.1 (nI i) n.2.2.2 (nlen31 n) hnna hcna) (cwV 1 hts gX1_weighNode_X2_cell rfl rfl rfl (by decide +kernel) ⟨Nat.le_of_ble_eq_true rfl, Nat.le_of_ble_eq_true rfl⟩) (m_recv hK hm (q := (RX2, TX2, 4)) rfl hnna) hz hcx hm hS rfl hl.1 rfl (Nat.le_of_ble_eq_true rfl) dX1_weighNode_31 ⟨Nat.le_of_ble_eq_true rfl, Nat.le_of_ble_eq_true rfl⟩ (fun v M1 H locs hv hm hS => ?_)
    obtain ⟨rfl, hM1⟩ := hv
    rw [hM1] at hm
    refine W.eq (g2 := F0 m 34 ls [.int (ndc n (nI i)), .int (ndc tt (nI i)), .int (ndc f (nI i))]) rfl ?_
    refine W.widen (k := 0) (n := 0) (Nat.le_of_ble_eq_true rfl) (Nat.le_of_ble_eq_true rfl) ?_
    have hm : mm D (AZ z) M H := hm
    refine m_kS (As := [.int (ndc f (nI i)), .int (ndc tt (nI i)), .int (ndc n (nI i))]) (rest := []) (rm := { frames := 0, cells := 0, slots := 0, locals := 0 }) ⟨hx, hb, hml, hown, hts⟩ (c_X1_comes l D k z _ (ndc f (nI i)) (ndc tt (nI i)) (ndc n (nI i))) (cwS 3 hts gX1_weighNode_X1_comes rfl rfl rfl (by decide +kernel) ⟨Nat.le_of_ble_eq_true rfl, Nat.le_of_ble_eq_true rfl⟩) hz hcx hm hS rfl hl.1 rfl (Nat.le_of_ble_eq_true rfl) dX1_weighNode_34 ⟨Nat.le_of_ble_eq_true rfl, Nat.le_of_ble_eq_true rfl⟩ (fun v M1 H locs hv hm hS => ?_)
    obtain ⟨rfl, hM1⟩ := hv
    rw [hM1] at hm
    refine W.eq (g2 := F0 m 37 ls [.int (comesV (ndc f (nI i)) (ndc tt (nI i)) (ndc n (nI i)))]) rfl ?_
    refine W.widen (k := 0) (n := 0) (Nat.le_of_ble_eq_true rfl) (Nat.le_of_ble_eq_true rfl) ?_
    have hm : mm D (AZ z) M H := hm
    refine lv_if_eq (tgt := 43) hx hb dX1_weighNode_37 (by decide) (fun c13 => ?_) (fun c13 => ?_)
    · refine lv_iinc (v := ((nI i) + 1)) (lv' := [(6, .int ((nI i) + 1)), (5, .int (ccV f tt n i)), (0, .ref g9), (1, .ref fa), (2, .ref ta), (3, .ref na), (4, .int nw)]) hx hb dX1_weighNode_43 hl (k := 0) rfl rfl (by decide) rfl (fun ls hl => ?_)
      refine lv_goto (tgt := 6) hx hb dX1_weighNode_46 (by decide) ?_
      rw [nI_1] at hl
      have h5 : (ccV f tt n i) = ccV f tt n (i + 1) := by simp [ccV, c13]
      rw [h5] at hl
      exact ih6 (i + 1) _ _ _ ⟨by omega, hm, hS, lv_sub hl [0, 1, 2, 3, 4, 5, 6] rfl⟩ (by omega)
    · refine lv_iinc (v := ((ccV f tt n i) + 1)) (lv' := [(5, .int ((ccV f tt n i) + 1)), (6, .int (nI i)), (0, .ref g9), (1, .ref fa), (2, .ref ta), (3, .ref na), (4, .int nw)]) hx hb dX1_weighNode_40 hl (k := 1) rfl rfl (by decide) rfl (fun ls hl => ?_)
      refine lv_iinc (v := ((nI i) + 1)) (lv' := [(6, .int ((nI i) + 1)), (5, .int ((ccV f tt n i) + 1)), (0, .ref g9), (1, .ref fa), (2, .ref ta), (3, .ref na), (4, .int nw)]) hx hb dX1_weighNode_43 hl (k := 1) rfl rfl (by decide) rfl (fun ls hl => ?_)
      refine lv_goto (tgt := 6) hx hb dX1_weighNode_46 (by decide) ?_
      rw [nI_1] at hl
      have h5 : ((ccV f tt n i) + 1) = ccV f tt n (i + 1) := by simp [ccV, c13]
      rw [h5] at hl
      exact ih6 (i + 1) _ _ _ ⟨by omega, hm, hS, lv_sub hl [0, 1, 2, 3, 4, 5, 6] rfl⟩ (by omega)
