def fillF (f : Nat → Int64) (v : Int64) (n : Nat) : Nat → Int64 := fun j => if j < n then v else f j
theorem fillF_0 (f : Nat → Int64) (v : Int64) : fillF f v 0 = f := by funext j; simp [fillF]
theorem fillF_s (f : Nat → Int64) (v : Int64) (n : Nat) : vp_updL (fillF f v n) n v = fillF f v (n + 1) := by
  funext j
  by_cases hj : j = n
  · subst hj; simp [vp_updL, fillF]
  · by_cases h2 : j < n
    · have h3 : j < n + 1 := by omega
      simp [vp_updL, fillF, hj, h2, h3]
    · have h3 : ¬ j < n + 1 := by omega
      simp [vp_updL, fillF, hj, h2, h3]

set_option maxHeartbeats 4000000 in
set_option maxRecDepth 100000 in
theorem c_J7_fill_d0a16 (l : Launch) (D : va_G) (k : Nat → ClassId) (z : Nat) (M : mM) (c9 : Nat) (f : Nat → Int64) (x : Int64) (ha : M c9 = some (.inl (k 1, 60, .inr (.inl f)))) : mK l yJ7_fill_d0a16 wsJ7_fill_d0a16 ({ frames := 0, cells := 0, slots := 0, locals := 0 }) D k z [.ref c9, .long x] M (fun v M' => v = none ∧ M' = crM k M c9 (fillF f x 60)) := by
  refine Met.ofW (cc := cJ7_fill_d0a16) (maxL := 5) (ret := none) (by decide) rfl ?_
  intro p e s m args below meth c s₁ B hml hv
  obtain ⟨rfl, hz, hcx, hm⟩ := hv
  have hx := B.exec
  have hb := B.bytes
  have hr := B.returns
  have hts := atoms_spec (ws := wsJ7_fill_d0a16) B.pre
  have hown : s.vm.findClass RJ7 = some m.cls := findClass_of_methodNamed B.named
  have hlocks := B.notSynchronized
  have hK := hcx.1
  have hS : va_S (AZ z) s.heap s.heap [] := va_S.rf
  have hA : ∀ q, s.heap.size ≤ q → AZ z q := fun q h => Nat.le_trans hz h
  have hl := lv_entry ([.ref c9, .long x]) (n := 5) (Nat.le_of_ble_eq_true rfl)
  rw [lg_entry_eq]
  generalize (lg_sl ([.ref c9, .long x]) ++ List.replicate (5 - (lg_sl ([.ref c9, .long x])).length) Slot.unset).toArray = ls at hl ⊢
  have hl : lv_has ls 5 [(0, .ref c9), (1, .long x)] := hl
  refine lv_iconst (v := 0) hx hb dJ7_fill_d0a16_0 (by decide) ?_
  refine lv_istore_n (lv' := [(3, .int 0), (0, .ref c9), (1, .long x)]) hx hb dJ7_fill_d0a16_1 rfl hl (by decide) rfl (fun ls hl => ?_)
  refine lv_aload_n hx hb dJ7_fill_d0a16_2 rfl (lv_at hl 1 rfl) ?_
  refine m_alen hx hb hK hm 1 ha rfl (v := nI 60) rfl dJ7_fill_d0a16_3 ?_
  refine lv_istore (lv' := [(4, .int (nI 60)), (3, .int 0), (0, .ref c9), (1, .long x)]) hx hb dJ7_fill_d0a16_4 hl (by decide) rfl (fun ls hl => ?_)
  rw [show M = crM k M c9 (fillF f x 0) from by rw [fillF_0]; exact (crM_id ha).symm] at hm
  refine W_loop (σ := Nat) (fun i H locs ls => (i ≤ 60) ∧ mm D (AZ z) (crM k M c9 (fillF f x i)) H ∧ va_S (AZ z) s.heap H locs ∧ lv_has ls 5 [(3, .int (nI i)), (4, .int (nI 60)), (0, .ref c9), (1, .long x)]) (fun i => 60 - i) (fun i => 0) (fun i => 0) ?_ 0 _ _ _ ⟨Nat.zero_le _, hm, hS, lv_sub hl [1, 0, 2, 3] rfl⟩
  intro i H locs ls hI ih6
  obtain ⟨hi, hm, hS, hl⟩ := hI
  try dsimp only at hm hl ih6 ⊢
  refine lv_iload_n hx hb dJ7_fill_d0a16_6 rfl (lv_at hl 0 rfl) ?_
  refine lv_iload hx hb dJ7_fill_d0a16_7 (lv_at hl 1 rfl) ?_
  refine lv_icmp_ge (tgt := 22) hx hb dJ7_fill_d0a16_9 (by decide) (fun c1 => ?_) (fun c1 => ?_)
  · refine W.vret hx hb hr (fun t ht hW => ⟨⟨none, _, rfl, ?_, by rw [ht]; exact hm⟩, hS.F ht⟩) hS.2.2 dJ7_fill_d0a16_22
    have he : i = 60 := Nat.le_antisymm hi ((nI_leI (by decide) (by omega)).mp c1)
    subst he
    exact ⟨rfl, rfl⟩
  · have hlt9 : i < 60 := Nat.lt_of_not_le fun q => c1 (nI_le q (by omega))
    have hcl : (nI i).toNatClampNeg = i := nI_clamp (by omega)
    refine lv_aload_n hx hb dJ7_fill_d0a16_12 rfl (lv_at hl 2 rfl) ?_
    refine lv_iload_n hx hb dJ7_fill_d0a16_13 rfl (lv_at hl 0 rfl) ?_
    refine lv_lload_n hx hb dJ7_fill_d0a16_14 rfl (lv_at hl 3 rfl) ?_
    refine m_last hx hb hK hm hS 1 (mu_self _ _ _) rfl (vp_in_nI hlt9 (by decide)) dJ7_fill_d0a16_15 (fun H locs hm hS => ?_)
    have hm : mm D (AZ z) (mu (crM k M c9 (fillF f x i)) c9 (.inl (k 1, 60, .inr (.inl (vp_updL (fillF f x i) ((nI i)).toNatClampNeg x))))) H := hm
    refine lv_iinc (v := ((nI i) + 1)) (lv' := [(3, .int ((nI i) + 1)), (4, .int (nI 60)), (0, .ref c9), (1, .long x)]) hx hb dJ7_fill_d0a16_16 hl (k := 0) rfl rfl (by decide) rfl (fun ls hl => ?_)
    refine lv_goto (tgt := 6) hx hb dJ7_fill_d0a16_19 (by decide) ?_
    rw [nI_1] at hl
    rw [hcl, fillF_s, show mu (crM k M c9 (fillF f x i)) c9 (.inl (k 1, 60, .inr (.inl (fillF f x (i + 1))))) = crM k M c9 (fillF f x (i + 1)) from mu_mu _ _ _ _] at hm
    exact ih6 (i + 1) _ _ _ ⟨by omega, hm, hS, lv_sub hl [0, 1, 2, 3] rfl⟩ (by omega)

def us (x : Int64) (n : Int32) : Int64 := (x.toUInt64 >>> (n.toInt64.toUInt64 &&& Int64.toUInt64 63)).toInt64
def bc1 (x : Int64) : Int64 := x - (us x 1 &&& 6148914691236517205)
def bc2 (x : Int64) : Int64 := (x &&& 3689348814741910323) + (us x 2 &&& 3689348814741910323)
def bc3 (x : Int64) : Int64 := (x + us x 4) &&& 1085102592571150095
def bc4 (x : Int64) : Int64 := x + us x 8
def bc5 (x : Int64) : Int64 := x + us x 16
def bc6 (x : Int64) : Int64 := x + us x 32
/-- what Long.bitCount answers -/
def bitC (x : Int64) : Int32 := (bc6 (bc5 (bc4 (bc3 (bc2 (bc1 x)))))).toInt32 &&& 127

set_option maxHeartbeats 4000000 in
set_option maxRecDepth 100000 in
theorem c_J13_bitCount_95d88 (l : Launch) (D : va_G) (k : Nat → ClassId) (z : Nat) (M : mM) (x : Int64) : mK l yJ13_bitCount_95d88 wsJ13_bitCount_95d88 ({ frames := 0, cells := 0, slots := 0, locals := 0 }) D k z [.long x] M (fun v M' => v = some (.int (bitC x)) ∧ M' = M) := by
  refine Met.ofW (cc := cJ13_bitCount_95d88) (maxL := 2) (ret := (some .int)) (by decide) rfl ?_
  intro p e s m args below meth c s₁ B hml hv
  obtain ⟨rfl, hz, hcx, hm⟩ := hv
  have hx := B.exec
  have hb := B.bytes
  have hr := B.returns
  have hts := atoms_spec (ws := wsJ13_bitCount_95d88) B.pre
  have hown : s.vm.findClass RJ13 = some m.cls := findClass_of_methodNamed B.named
  have hlocks := B.notSynchronized
  have hK := hcx.1
  have hS : va_S (AZ z) s.heap s.heap [] := va_S.rf
  have hA : ∀ q, s.heap.size ≤ q → AZ z q := fun q h => Nat.le_trans hz h
  have hl := lv_entry ([.long x]) (n := 2) (Nat.le_of_ble_eq_true rfl)
  rw [lg_entry_eq]
  generalize (lg_sl ([.long x]) ++ List.replicate (2 - (lg_sl ([.long x])).length) Slot.unset).toArray = ls at hl ⊢
  have hl : lv_has ls 2 [(0, .long x)] := hl
  refine lv_lload_n hx hb dJ13_bitCount_95d88_0 rfl (lv_at hl 0 rfl) ?_
  refine lv_lload_n hx hb dJ13_bitCount_95d88_1 rfl (lv_at hl 0 rfl) ?_
  refine lv_iconst (v := 1) hx hb dJ13_bitCount_95d88_2 (by decide) ?_
  refine lv_lushr (v := (us x 1)) hx hb dJ13_bitCount_95d88_3 rfl ?_
  refine lv_ldc2 hx hb hown (hts (.constantLong RJ13 314 (6148914691236517205)) (by decide +kernel)) dJ13_bitCount_95d88_4 ?_
  refine lv_land hx hb dJ13_bitCount_95d88_7 ?_
  refine lv_lsub hx hb dJ13_bitCount_95d88_8 ?_
  refine lv_topl (fun y1 hy1 => ?_)
  refine lv_lstore_n (lv' := [(0, .long y1)]) hx hb dJ13_bitCount_95d88_9 rfl hl (by decide) rfl (fun ls hl => ?_)
  refine lv_lload_n hx hb dJ13_bitCount_95d88_10 rfl (lv_at hl 0 rfl) ?_
  refine lv_ldc2 hx hb hown (hts (.constantLong RJ13 316 (3689348814741910323)) (by decide +kernel)) dJ13_bitCount_95d88_11 ?_
  refine lv_land hx hb dJ13_bitCount_95d88_14 ?_
  refine lv_lload_n hx hb dJ13_bitCount_95d88_15 rfl (lv_at hl 0 rfl) ?_
  refine lv_iconst (v := 2) hx hb dJ13_bitCount_95d88_16 (by decide) ?_
  refine lv_lushr (v := (us y1 2)) hx hb dJ13_bitCount_95d88_17 rfl ?_
  refine lv_ldc2 hx hb hown (hts (.constantLong RJ13 316 (3689348814741910323)) (by decide +kernel)) dJ13_bitCount_95d88_18 ?_
  refine lv_land hx hb dJ13_bitCount_95d88_21 ?_
  refine lv_ladd hx hb dJ13_bitCount_95d88_22 ?_
  refine lv_topl (fun y2 hy2 => ?_)
  refine lv_lstore_n (lv' := [(0, .long y2)]) hx hb dJ13_bitCount_95d88_23 rfl hl (by decide) rfl (fun ls hl => ?_)
  refine lv_lload_n hx hb dJ13_bitCount_95d88_24 rfl (lv_at hl 0 rfl) ?_
  refine lv_lload_n hx hb dJ13_bitCount_95d88_25 rfl (lv_at hl 0 rfl) ?_
  refine lv_iconst (v := 4) hx hb dJ13_bitCount_95d88_26 (by decide) ?_
  refine lv_lushr (v := (us y2 4)) hx hb dJ13_bitCount_95d88_27 rfl ?_
  refine lv_ladd hx hb dJ13_bitCount_95d88_28 ?_
  refine lv_ldc2 hx hb hown (hts (.constantLong RJ13 318 (1085102592571150095)) (by decide +kernel)) dJ13_bitCount_95d88_29 ?_
  refine lv_land hx hb dJ13_bitCount_95d88_32 ?_
  refine lv_topl (fun y3 hy3 => ?_)
  refine lv_lstore_n (lv' := [(0, .long y3)]) hx hb dJ13_bitCount_95d88_33 rfl hl (by decide) rfl (fun ls hl => ?_)
  refine lv_lload_n hx hb dJ13_bitCount_95d88_34 rfl (lv_at hl 0 rfl) ?_
  refine lv_lload_n hx hb dJ13_bitCount_95d88_35 rfl (lv_at hl 0 rfl) ?_
  refine lv_bipush (v := 8) hx hb dJ13_bitCount_95d88_36 (by decide) ?_
  refine lv_lushr (v := (us y3 8)) hx hb dJ13_bitCount_95d88_38 rfl ?_
  refine lv_ladd hx hb dJ13_bitCount_95d88_39 ?_
  refine lv_topl (fun y4 hy4 => ?_)
  refine lv_lstore_n (lv' := [(0, .long y4)]) hx hb dJ13_bitCount_95d88_40 rfl hl (by decide) rfl (fun ls hl => ?_)
  refine lv_lload_n hx hb dJ13_bitCount_95d88_41 rfl (lv_at hl 0 rfl) ?_
  refine lv_lload_n hx hb dJ13_bitCount_95d88_42 rfl (lv_at hl 0 rfl) ?_
  refine lv_bipush (v := 16) hx hb dJ13_bitCount_95d88_43 (by decide) ?_
  refine lv_lushr (v := (us y4 16)) hx hb dJ13_bitCount_95d88_45 rfl ?_
  refine lv_ladd hx hb dJ13_bitCount_95d88_46 ?_
  refine lv_topl (fun y5 hy5 => ?_)
  refine lv_lstore_n (lv' := [(0, .long y5)]) hx hb dJ13_bitCount_95d88_47 rfl hl (by decide) rfl (fun ls hl => ?_)
  refine lv_lload_n hx hb dJ13_bitCount_95d88_48 rfl (lv_at hl 0 rfl) ?_
  refine lv_lload_n hx hb dJ13_bitCount_95d88_49 rfl (lv_at hl 0 rfl) ?_
  refine lv_bipush (v := 32) hx hb dJ13_bitCount_95d88_50 (by decide) ?_
  refine lv_lushr (v := (us y5 32)) hx hb dJ13_bitCount_95d88_52 rfl ?_
  refine lv_ladd hx hb dJ13_bitCount_95d88_53 ?_
  refine lv_topl (fun y6 hy6 => ?_)
  refine lv_lstore_n (lv' := [(0, .long y6)]) hx hb dJ13_bitCount_95d88_54 rfl hl (by decide) rfl (fun ls hl => ?_)
  refine lv_lload_n hx hb dJ13_bitCount_95d88_55 rfl (lv_at hl 0 rfl) ?_
  refine lv_l2i (v := y6.toInt32) hx hb dJ13_bitCount_95d88_56 rfl ?_
  refine lv_bipush (v := 127) hx hb dJ13_bitCount_95d88_57 (by decide) ?_
  refine lv_iand hx hb dJ13_bitCount_95d88_59 ?_
  refine W.iret (v := (y6.toInt32 &&& 127)) hx hb hr (fun t ht hW => ⟨⟨some (.int (y6.toInt32 &&& 127)), _, rfl, ?_, by rw [ht]; exact hm⟩, hS.F ht⟩) hS.2.2 dJ13_bitCount_95d88_60
  exact ⟨by subst hy1; subst hy2; subst hy3; subst hy4; subst hy5; subst hy6; rfl, rfl⟩

/-- how many bits are set in the first n rows -/
def sumR (fc ff : Nat → Int64) : Nat → Int32
  | 0 => 0
  | n + 1 => sumR fc ff n + (bitC (fc n) + bitC (ff n))

set_option maxHeartbeats 4000000 in
set_option maxRecDepth 100000 in
theorem c_X3_itemsRead (l : Launch) (D : va_G) (k : Nat → ClassId) (z : Nat) (M : mM) (x bs vw mk cr fr bn : Nat) (gb : Nat → Option Nat) (Lb : List NV) (fc ff : Nat → Int64) (op md : Int32) (hX : M x = some (.inr (3, [.ref bs, .ref vw, .ref mk, .ref cr, .ref fr, .int op, .int md]))) (hB : treeAt k M bs bn gb Lb) (hC : M cr = some (.inl (k 1, 60, .inr (.inl fc)))) (hF : M fr = some (.inl (k 1, 60, .inr (.inl ff)))) : mK l yX3_itemsRead wsX3_itemsRead ({ frames := 1, cells := 0, slots := 0, locals := 24 }) D k z [.ref x] M (fun v M' => v = some (.int (sumR fc ff Lb.length)) ∧ M' = M) := by
  refine Met.ofW (cc := cX3_itemsRead) (maxL := 3) (ret := (some .int)) (by decide) rfl ?_
  intro p e s m args below meth c s₁ B hml hv
  obtain ⟨rfl, hz, hcx, hm⟩ := hv
  have hx := B.exec
  have hb := B.bytes
  have hr := B.returns
  have hts := atoms_spec (ws := wsX3_itemsRead) B.pre
  have hown : s.vm.findClass RX3 = some m.cls := findClass_of_methodNamed B.named
  have hlocks := B.notSynchronized
  have hK := hcx.1
  have hS : va_S (AZ z) s.heap s.heap [] := va_S.rf
  have hA : ∀ q, s.heap.size ≤ q → AZ z q := fun q h => Nat.le_trans hz h
  have hl := lv_entry ([.ref x]) (n := 3) (Nat.le_of_ble_eq_true rfl)
  rw [lg_entry_eq]
  generalize (lg_sl ([.ref x]) ++ List.replicate (3 - (lg_sl ([.ref x])).length) Slot.unset).toArray = ls at hl ⊢
  have hl : lv_has ls 3 [(0, .ref x)] := hl
  have f12 := hts (.fieldLink RX3 12 "CommitTree$Transaction" "base" "LCommitTree$Tree;") (by decide +kernel)
  have f22 := hts (.fieldLink RX3 22 "CommitTree$Transaction" "cellsRead" "[J") (by decide +kernel)
  have f26 := hts (.fieldLink RX3 26 "CommitTree$Transaction" "factsRead" "[J") (by decide +kernel)
  have f87 := hts (.fieldLink RX3 87 "CommitTree$Tree" "size" "I") (by decide +kernel)
  have wX3 : ∀ w ∈ wsX30, w ∈ wsX3_itemsRead := by decide +kernel
  have wX4 : ∀ w ∈ wsX40, w ∈ wsX3_itemsRead := by decide +kernel
  have hL6 := hB.2.2.1
  refine lv_iconst (v := 0) hx hb dX3_itemsRead_0 (by decide) ?_
  refine lv_istore_n (lv' := [(1, .int 0), (0, .ref x)]) hx hb dX3_itemsRead_1 rfl hl (by decide) rfl (fun ls hl => ?_)
  refine lv_iconst (v := 0) hx hb dX3_itemsRead_2 (by decide) ?_
  refine lv_istore_n (lv' := [(2, .int 0), (1, .int 0), (0, .ref x)]) hx hb dX3_itemsRead_3 rfl hl (by decide) rfl (fun ls hl => ?_)
  refine W_loop (σ := Nat) (fun i H locs ls => (i ≤ Lb.length) ∧ mm D (AZ z) M H ∧ va_S (AZ z) s.heap H locs ∧ lv_has ls 3 [(2, .int (nI i)), (1, .int (sumR fc ff i)), (0, .ref x)]) (fun i => Lb.length - i) (fun i => 0) (fun i => 0) ?_ 0 _ _ _ ⟨Nat.zero_le _, hm, hS, lv_sub hl [0, 1, 2] rfl⟩
  intro i H locs ls hI ih4
  obtain ⟨hi, hm, hS, hl⟩ := hI
  try dsimp only at hm hl ih4 ⊢
  refine lv_iload_n hx hb dX3_itemsRead_4 rfl (lv_at hl 0 rfl) ?_
  refine lv_aload_n hx hb dX3_itemsRead_5 rfl (lv_at hl 2 rfl) ?_
  refine m_get (T := TX3) (N := 7) (ci := 3) (v := .ref bs) hx hb hts wX3 hown hK hm hX rfl 0 (by decide) f12 (fun _ h9 => h9) rfl dX3_itemsRead_6 ?_
  refine m_get (T := TX4) (N := 2) (ci := 4) (v := .int (nI Lb.length)) hx hb hts wX4 hown hK hm hB.1 rfl 1 (by decide) f87 (fun _ h9 => h9) rfl dX3_itemsRead_9 ?_
  refine lv_icmp_ge (tgt := 61) hx hb dX3_itemsRead_12 (by decide) (fun c1 => ?_) (fun c1 => ?_)
  · refine lv_iload_n hx hb dX3_itemsRead_61 rfl (lv_at hl 1 rfl) ?_
    refine W.iret (v := (sumR fc ff i)) hx hb hr (fun t ht hW => ⟨⟨some (.int (sumR fc ff i)), _, rfl, ?_, by rw [ht]; exact hm⟩, hS.F ht⟩) hS.2.2 dX3_itemsRead_62
    have he : i = Lb.length := Nat.le_antisymm hi ((nI_leI (by omega) (by omega)).mp c1)
    subst he
    exact ⟨rfl, rfl⟩
  · have hlt9 : i < Lb.length := Nat.lt_of_not_le fun q => c1 (nI_le q (by omega))
    have hcl : (nI i).toNatClampNeg = i := nI_clamp (by omega)
    refine lv_iload_n hx hb dX3_itemsRead_15 rfl (lv_at hl 0 rfl) ?_
    refine lv_aload_n hx hb dX3_itemsRead_16 rfl (lv_at hl 2 rfl) ?_
    refine m_get (T := TX3) (N := 7) (ci := 3) (v := .ref cr) hx hb hts wX3 hown hK hm hX rfl 3 (by decide) f22 (fun _ h9 => h9) rfl dX3_itemsRead_17 ?_
    refine m_alen hx hb hK hm 1 hC rfl (v := nI 60) rfl dX3_itemsRead_20 ?_
    refine lv_icmp_ge (tgt := 61) hx hb dX3_itemsRead_21 (by decide) (fun c2 => ?_) (fun c2 => ?_)
    · exact absurd c2 (fun h => absurd ((nI_leI (by decide) (by omega)).mp h) (by omega))
    · refine lv_iload_n hx hb dX3_itemsRead_24 rfl (lv_at hl 0 rfl) ?_
      refine lv_aload_n hx hb dX3_itemsRead_25 rfl (lv_at hl 2 rfl) ?_
      refine m_get (T := TX3) (N := 7) (ci := 3) (v := .ref fr) hx hb hts wX3 hown hK hm hX rfl 4 (by decide) f26 (fun _ h9 => h9) rfl dX3_itemsRead_26 ?_
      refine m_alen hx hb hK hm 1 hF rfl (v := nI 60) rfl dX3_itemsRead_29 ?_
      refine lv_icmp_ge (tgt := 61) hx hb dX3_itemsRead_30 (by decide) (fun c3 => ?_) (fun c3 => ?_)
      · exact absurd c3 (fun h => absurd ((nI_leI (by decide) (by omega)).mp h) (by omega))
      · refine lv_iload_n hx hb dX3_itemsRead_33 rfl (lv_at hl 1 rfl) ?_
        refine lv_aload_n hx hb dX3_itemsRead_34 rfl (lv_at hl 2 rfl) ?_
        refine m_get (T := TX3) (N := 7) (ci := 3) (v := .ref cr) hx hb hts wX3 hown hK hm hX rfl 3 (by decide) f22 (fun _ h9 => h9) rfl dX3_itemsRead_35 ?_
        refine lv_iload_n hx hb dX3_itemsRead_38 rfl (lv_at hl 0 rfl) ?_
        refine m_lald hx hb hK hm 1 hC rfl (vp_in_nI (show i < 60 by omega) (by decide)) dX3_itemsRead_39 ?_
        refine m_kS (As := [.long (fc ((nI i)).toNatClampNeg)]) (rest := [.int (sumR fc ff i)]) (rm := { frames := 0, cells := 0, slots := 0, locals := 0 }) ⟨hx, hb, hml, hown, hts⟩ (c_J13_bitCount_95d88 l D k z _ (fc (nI i).toNatClampNeg)) (va_cwS 1 hts gX3_itemsRead_J13_bitCount_95d88 rfl rfl rfl (by decide +kernel) ⟨Nat.le_of_ble_eq_true rfl, Nat.le_of_ble_eq_true rfl⟩) hz hcx hm hS rfl hl.1 rfl (Nat.le_of_ble_eq_true rfl) dX3_itemsRead_40 ⟨Nat.le_of_ble_eq_true rfl, Nat.le_of_ble_eq_true rfl⟩ (fun v M1 H locs hv hm hS => ?_)
        obtain ⟨rfl, hM1⟩ := hv
        rw [hM1] at hm
        refine W.eq (g2 := F0 m 43 ls [.int (bitC (fc (nI i).toNatClampNeg)), .int (sumR fc ff i)]) rfl ?_
        refine W.widen (k := 0) (n := 0) (Nat.le_of_ble_eq_true rfl) (Nat.le_of_ble_eq_true rfl) ?_
        have hm : mm D (AZ z) M H := hm
        refine lv_aload_n hx hb dX3_itemsRead_43 rfl (lv_at hl 2 rfl) ?_
        refine m_get (T := TX3) (N := 7) (ci := 3) (v := .ref fr) hx hb hts wX3 hown hK hm hX rfl 4 (by decide) f26 (fun _ h9 => h9) rfl dX3_itemsRead_44 ?_
        refine lv_iload_n hx hb dX3_itemsRead_47 rfl (lv_at hl 0 rfl) ?_
        refine m_lald hx hb hK hm 1 hF rfl (vp_in_nI (show i < 60 by omega) (by decide)) dX3_itemsRead_48 ?_
        refine m_kS (As := [.long (ff ((nI i)).toNatClampNeg)]) (rest := [.int (bitC (fc (nI i).toNatClampNeg)), .int (sumR fc ff i)]) (rm := { frames := 0, cells := 0, slots := 0, locals := 0 }) ⟨hx, hb, hml, hown, hts⟩ (c_J13_bitCount_95d88 l D k z _ (ff (nI i).toNatClampNeg)) (va_cwS 1 hts gX3_itemsRead_J13_bitCount_95d88 rfl rfl rfl (by decide +kernel) ⟨Nat.le_of_ble_eq_true rfl, Nat.le_of_ble_eq_true rfl⟩) hz hcx hm hS rfl hl.1 rfl (Nat.le_of_ble_eq_true rfl) dX3_itemsRead_49 ⟨Nat.le_of_ble_eq_true rfl, Nat.le_of_ble_eq_true rfl⟩ (fun v M1 H locs hv hm hS => ?_)
        obtain ⟨rfl, hM1⟩ := hv
        rw [hM1] at hm
        refine W.eq (g2 := F0 m 52 ls [.int (bitC (ff (nI i).toNatClampNeg)), .int (bitC (fc (nI i).toNatClampNeg)), .int (sumR fc ff i)]) rfl ?_
        refine W.widen (k := 0) (n := 0) (Nat.le_of_ble_eq_true rfl) (Nat.le_of_ble_eq_true rfl) ?_
        have hm : mm D (AZ z) M H := hm
        refine lv_iadd hx hb dX3_itemsRead_52 ?_
        refine lv_iadd hx hb dX3_itemsRead_53 ?_
        refine lv_istore_n (lv' := [(1, .int ((sumR fc ff i) + ((bitC (fc (nI i).toNatClampNeg)) + (bitC (ff (nI i).toNatClampNeg))))), (2, .int (nI i)), (0, .ref x)]) hx hb dX3_itemsRead_54 rfl hl (by decide) rfl (fun ls hl => ?_)
        refine lv_iinc (v := ((nI i) + 1)) (lv' := [(2, .int ((nI i) + 1)), (1, .int ((sumR fc ff i) + ((bitC (fc (nI i).toNatClampNeg)) + (bitC (ff (nI i).toNatClampNeg))))), (0, .ref x)]) hx hb dX3_itemsRead_55 hl (k := 1) rfl rfl (by decide) rfl (fun ls hl => ?_)
        refine lv_goto (tgt := 4) hx hb dX3_itemsRead_58 (by decide) ?_
        rw [nI_1, hcl] at hl
        exact ih4 (i + 1) _ _ _ ⟨by omega, hm, hS, lv_sub hl [0, 1, 2] rfl⟩ (by omega)
