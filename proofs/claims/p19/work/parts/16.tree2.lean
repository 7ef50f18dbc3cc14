theorem placeFrom_in {id : Int32} {L : List NV} (hL : L.length ≤ 60) (h : ¬ placeFrom id L 0 < 0) : ∃ j, j < L.length ∧ placeFrom id L 0 = nI j ∧ vp_in (placeFrom id L 0) 60 ∧ (placeFrom id L 0).toNatClampNeg = j := by
  rcases placeFrom_cases id L 0 (by omega) with ⟨h1, -⟩ | ⟨j, v, h1, h2, -⟩
  · rw [h1] at h
    exact absurd (by decide) h
  · rw [Nat.zero_add] at h2
    exact ⟨j, h1, h2, by rw [h2]; exact vp_in_nI (by omega) (by decide), by rw [h2]; exact nI_clamp (by omega)⟩
/-- the memory behind Tree.put -/
def putM (k : Nat → ClassId) (M : mM) (t na : Nat) (L : List NV) (g : Nat → Option Nat) (a : Nat) (id : Int32) : mM := if placeFrom id L 0 < 0 then addM k M t na L.length g a else mu M na (.inl (k 3, 60, .inr (.inr (.inr (.inr (va_up g (placeFrom id L 0).toNatClampNeg (some a)))))))

set_option maxHeartbeats 4000000 in
set_option maxRecDepth 100000 in
theorem c_X4_put (l : Launch) (D : va_G) (k : Nat → ClassId) (z : Nat) (M : mM) (h0 na a : Nat) (g : Nat → Option Nat) (L : List NV) (w : NV) (hT : treeAt k M h0 na g L) (hV : nodeAt k M a w) : mK l yX4_put wsX4_put ({ frames := 1, cells := 0, slots := 0, locals := 24 }) D k z [.ref h0, .ref a] M (fun v M' => v = none ∧ M' = putM k M h0 na L g a w.1) := by
  refine Met.ofW (cc := cX4_put) (maxL := 3) (ret := none) (by decide) rfl ?_
  intro p e s m args below meth c s₁ B hml hv
  obtain ⟨rfl, hz, hcx, hm⟩ := hv
  have hx := B.exec
  have hb := B.bytes
  have hr := B.returns
  have hts := atoms_spec (ws := wsX4_put) B.pre
  have hown : s.vm.findClass RX4 = some m.cls := findClass_of_methodNamed B.named
  have hlocks := B.notSynchronized
  have hK := hcx.1
  have hS : va_S (AZ z) s.heap s.heap [] := va_S.rf
  have hA : ∀ q, s.heap.size ≤ q → AZ z q := fun q h => Nat.le_trans hz h
  have hl := lv_entry ([.ref h0, .ref a]) (n := 3) (Nat.le_of_ble_eq_true rfl)
  rw [lg_entry_eq]
  generalize (lg_sl ([.ref h0, .ref a]) ++ List.replicate (3 - (lg_sl ([.ref h0, .ref a])).length) Slot.unset).toArray = ls at hl ⊢
  have hl : lv_has ls 3 [(0, .ref h0), (1, .ref a)] := hl
  have f11 := hts (.fieldLink RX4 11 "CommitTree$Tree" "nodes" "[LCommitTree$Node;") (by decide +kernel)
  have f21 := hts (.fieldLink RX4 21 "CommitTree$Node" "id" "I") (by decide +kernel)
  have wX2 : ∀ w ∈ wsX20, w ∈ wsX4_put := by decide +kernel
  have wX4 : ∀ w ∈ wsX40, w ∈ wsX4_put := by decide +kernel
  have ne_na_h0 : na ≠ h0 := (treeAt_ne hT).symm
  have ne_h0_na : h0 ≠ na := treeAt_ne hT
  have hL6 := hT.2.2.1
  obtain ⟨hdr, ca, hna, hca⟩ := id hV
  have ne_a_h0 : a ≠ h0 := m_df hT.1 hna (by intro h; cases h)
  have ne_a_na : a ≠ na := m_df hT.2.1 hna (by intro h; cases h)
  refine lv_aload_n hx hb dX4_put_0 rfl (lv_at hl 0 rfl) ?_
  refine lv_aload_n hx hb dX4_put_1 rfl (lv_at hl 1 rfl) ?_
  refine m_get (T := TX2) (N := 4) (ci := 2) (v := .int w.1) hx hb hts wX2 hown hK hm hna rfl 0 (by decide) f21 (fun _ h9 => h9) rfl dX4_put_2 ?_
  refine m_kV (As := [.int w.1]) (rest := []) (rm := { frames := 0, cells := 0, slots := 0, locals := 0 }) ⟨hx, hb, hml, hown, hts⟩ (c_X4_placeOf l D k z _ h0 na g L w.1 hT) (cwV 1 hts gX4_put_X4_placeOf rfl rfl rfl (by decide +kernel) ⟨Nat.le_of_ble_eq_true rfl, Nat.le_of_ble_eq_true rfl⟩) (m_recv hK hm (q := (RX4, TX4, 2)) rfl hT.1) hz hcx hm hS rfl hl.1 rfl (Nat.le_of_ble_eq_true rfl) dX4_put_5 ⟨Nat.le_of_ble_eq_true rfl, Nat.le_of_ble_eq_true rfl⟩ (fun v M1 H locs hv hm hS => ?_)
  obtain ⟨rfl, hM1⟩ := hv
  rw [hM1] at hm
  refine W.eq (g2 := F0 m 8 ls [.int (placeFrom w.1 L 0)]) rfl ?_
  refine W.widen (k := 0) (n := 0) (Nat.le_of_ble_eq_true rfl) (Nat.le_of_ble_eq_true rfl) ?_
  have hm : mm D (AZ z) M H := hm
  refine lv_istore_n (lv' := [(2, .int (placeFrom w.1 L 0)), (0, .ref h0), (1, .ref a)]) hx hb dX4_put_8 rfl hl (by decide) rfl (fun ls hl => ?_)
  refine lv_iload_n hx hb dX4_put_9 rfl (lv_at hl 0 rfl) ?_
  refine lv_if_lt (tgt := 32) hx hb dX4_put_10 (by decide) (fun c1 => ?_) (fun c1 => ?_)
  · refine lv_aload_n hx hb dX4_put_32 rfl (lv_at hl 1 rfl) ?_
    refine lv_aload_n hx hb dX4_put_33 rfl (lv_at hl 2 rfl) ?_
    refine m_kV (As := [.ref a]) (rest := []) (rm := { frames := 0, cells := 0, slots := 0, locals := 0 }) ⟨hx, hb, hml, hown, hts⟩ (c_X4_add l D k z _ h0 na a g L w hT hV) (cwV 1 hts gX4_put_X4_add rfl rfl rfl (by decide +kernel) ⟨Nat.le_of_ble_eq_true rfl, Nat.le_of_ble_eq_true rfl⟩) (m_recv hK hm (q := (RX4, TX4, 2)) rfl hT.1) hz hcx hm hS rfl hl.1 rfl (Nat.le_of_ble_eq_true rfl) dX4_put_34 ⟨Nat.le_of_ble_eq_true rfl, Nat.le_of_ble_eq_true rfl⟩ (fun v M1 H locs hv hm hS => ?_)
    obtain ⟨rfl, hM1⟩ := hv
    rw [hM1] at hm
    refine W.eq (g2 := F0 m 37 ls []) rfl ?_
    refine W.widen (k := 0) (n := 0) (Nat.le_of_ble_eq_true rfl) (Nat.le_of_ble_eq_true rfl) ?_
    have hm : mm D (AZ z) (addM k M h0 na L.length g a) H := hm
    refine W.vret hx hb hr (fun t ht hW => ⟨⟨none, _, rfl, ?_, by rw [ht]; exact hm⟩, hS.F ht⟩) hS.2.2 dX4_put_37
    first
      | exact ⟨rfl, (if_pos c1).symm⟩
      | exact ⟨rfl, (if_neg c1).symm⟩
  · refine lv_iload_n hx hb dX4_put_13 rfl (lv_at hl 0 rfl) ?_
    refine lv_aload_n hx hb dX4_put_14 rfl (lv_at hl 1 rfl) ?_
    refine m_get (T := TX4) (N := 2) (ci := 4) (v := .ref na) hx hb hts wX4 hown hK hm hT.1 rfl 0 (by decide) f11 (fun _ h9 => h9) rfl dX4_put_15 ?_
    refine m_alen hx hb hK hm 3 hT.2.1 rfl (v := nI 60) rfl dX4_put_18 ?_
    refine lv_icmp_ge (tgt := 32) hx hb dX4_put_19 (by decide) (fun c2 => ?_) (fun c2 => ?_)
    · exact absurd c2 (by obtain ⟨j, h1, h2, -⟩ := placeFrom_in hL6 c1; rw [h2]; exact fun h => absurd ((nI_leI (by decide) (by omega)).mp h) (by omega))
    · refine lv_aload_n hx hb dX4_put_22 rfl (lv_at hl 1 rfl) ?_
      refine m_get (T := TX4) (N := 2) (ci := 4) (v := .ref na) hx hb hts wX4 hown hK hm hT.1 rfl 0 (by decide) f11 (fun _ h9 => h9) rfl dX4_put_23 ?_
      refine lv_iload_n hx hb dX4_put_26 rfl (lv_at hl 0 rfl) ?_
      refine lv_aload_n hx hb dX4_put_27 rfl (lv_at hl 2 rfl) ?_
      refine m_aast (r := (RX2, TX2, 4)) hx hb hK hm hS 3 2 hT.2.1 rfl hna rfl (placeFrom_in hL6 c1).choose_spec.2.2.1 dX4_put_28 (fun H locs hm hS => ?_)
      have hm : mm D (AZ z) (mu M na (.inl (k 3, 60, .inr (.inr (.inr (.inr (va_up g ((placeFrom w.1 L 0)).toNatClampNeg (some a)))))))) H := hm
      refine lv_goto (tgt := 37) hx hb dX4_put_29 (by decide) ?_
      refine W.vret hx hb hr (fun t ht hW => ⟨⟨none, _, rfl, ?_, by rw [ht]; exact hm⟩, hS.F ht⟩) hS.2.2 dX4_put_37
      first
        | exact ⟨rfl, (if_pos c2).symm⟩
        | exact ⟨rfl, (if_neg c1).symm⟩

/-- the blocks of a node, and of the first n of a tree -/
def nblk (v : NV) : Int32 := if v.2.1 = 0 then 1 + (v.2.2.1 + 8 - 1) / 8 else 1
def tblk (L : List NV) : Nat → Int32
  | 0 => 0
  | n + 1 => match L[n]? with
    | some v => tblk L n + nblk v
    | none => tblk L n
theorem tblk_succ {L : List NV} {n : Nat} {v : NV} (h : L[n]? = some v) : tblk L (n + 1) = tblk L n + nblk v := by simp [tblk, h]
theorem atA_in {k : Nat → ClassId} {M : mM} {t na : Nat} {g : Nat → Option Nat} {L : List NV} {i a : Nat} (h : treeAt k M t na g L) (hi : i < L.length) (ha : g i = some a) : atA g L.length (nI i) = some a := by
  have h6 := h.2.2.1
  unfold atA
  rw [if_neg (nI_pos (by omega)), if_neg (fun q => absurd ((nI_leI (by omega) (by omega)).mp q) (by omega)), nI_clamp (by omega)]
  exact ha

set_option maxHeartbeats 4000000 in
set_option maxRecDepth 100000 in
theorem c_X4_blocks (l : Launch) (D : va_G) (k : Nat → ClassId) (z : Nat) (M : mM) (h0 na : Nat) (g : Nat → Option Nat) (L : List NV) (hT : treeAt k M h0 na g L) : mK l yX4_blocks wsX4_blocks ({ frames := 2, cells := 0, slots := 0, locals := 44 }) D k z [.ref h0] M (fun v M' => v = some (.int (tblk L L.length)) ∧ M' = M) := by
  refine Met.ofW (cc := cX4_blocks) (maxL := 4) (ret := (some .int)) (by decide) rfl ?_
  intro p e s m args below meth c s₁ B hml hv
  obtain ⟨rfl, hz, hcx, hm⟩ := hv
  have hx := B.exec
  have hb := B.bytes
  have hr := B.returns
  have hts := atoms_spec (ws := wsX4_blocks) B.pre
  have hown : s.vm.findClass RX4 = some m.cls := findClass_of_methodNamed B.named
  have hlocks := B.notSynchronized
  have hK := hcx.1
  have hS : va_S (AZ z) s.heap s.heap [] := va_S.rf
  have hA : ∀ q, s.heap.size ≤ q → AZ z q := fun q h => Nat.le_trans hz h
  have hl := lv_entry ([.ref h0]) (n := 4) (Nat.le_of_ble_eq_true rfl)
  rw [lg_entry_eq]
  generalize (lg_sl ([.ref h0]) ++ List.replicate (4 - (lg_sl ([.ref h0])).length) Slot.unset).toArray = ls at hl ⊢
  have hl : lv_has ls 4 [(0, .ref h0)] := hl
  have f17 := hts (.fieldLink RX4 17 "CommitTree$Tree" "size" "I") (by decide +kernel)
  have wX4 : ∀ w ∈ wsX40, w ∈ wsX4_blocks := by decide +kernel
  have ne_na_h0 : na ≠ h0 := (treeAt_ne hT).symm
  have ne_h0_na : h0 ≠ na := treeAt_ne hT
  have hL6 := hT.2.2.1
  refine lv_iconst (v := 0) hx hb dX4_blocks_0 (by decide) ?_
  refine lv_istore_n (lv' := [(1, .int 0), (0, .ref h0)]) hx hb dX4_blocks_1 rfl hl (by decide) rfl (fun ls hl => ?_)
  refine lv_iconst (v := 0) hx hb dX4_blocks_2 (by decide) ?_
  refine lv_istore_n (lv' := [(2, .int 0), (1, .int 0), (0, .ref h0)]) hx hb dX4_blocks_3 rfl hl (by decide) rfl (fun ls hl => ?_)
  refine W_loop (σ := Nat) (fun i H locs ls => i ≤ L.length ∧ mm D (AZ z) M H ∧ va_S (AZ z) s.heap H locs ∧ lv_has ls 4 [(2, .int (nI i)), (1, .int (tblk L i)), (0, .ref h0)]) (fun i => L.length - i) (fun i => 0) (fun i => 0) ?_ 0 _ _ _ ⟨Nat.zero_le _, hm, hS, lv_sub hl [0, 1, 2] rfl⟩
  intro i H locs ls hI ih4
  obtain ⟨hi, hm, hS, hl⟩ := hI
  try dsimp only at hm hl ih4 ⊢
  refine lv_iload_n hx hb dX4_blocks_4 rfl (lv_at hl 0 rfl) ?_
  refine lv_aload_n hx hb dX4_blocks_5 rfl (lv_at hl 2 rfl) ?_
  refine m_get (T := TX4) (N := 2) (ci := 4) (v := .int (nI L.length)) hx hb hts wX4 hown hK hm hT.1 rfl 1 (by decide) f17 (fun _ h9 => h9) rfl dX4_blocks_6 ?_
  refine lv_icmp_ge (tgt := 35) hx hb dX4_blocks_9 (by decide) (fun c1 => ?_) (fun c1 => ?_)
  · refine lv_iload_n hx hb dX4_blocks_35 rfl (lv_at hl 1 rfl) ?_
    refine W.iret (v := (tblk L i)) hx hb hr (fun t ht hW => ⟨⟨some (.int (tblk L i)), _, rfl, ?_, by rw [ht]; exact hm⟩, hS.F ht⟩) hS.2.2 dX4_blocks_36
    have he : i = L.length := Nat.le_antisymm hi ((nI_leI (by omega) (by omega)).mp c1)
    subst he
    exact ⟨rfl, rfl⟩
  · have hlt : i < L.length := Nat.lt_of_not_le fun q => c1 (nI_le q (by omega))
    obtain ⟨v, hv⟩ : ∃ v, L[i]? = some v := ⟨L[i], List.getElem?_eq_getElem hlt⟩
    obtain ⟨a, hga, hnd⟩ := hT.2.2.2 i v hv
    have hat := atA_in hT hlt hga
    obtain ⟨hdr, ca, hna, hca⟩ := id hnd
    have hv0 := hv
    refine lv_aload_n hx hb dX4_blocks_12 rfl (lv_at hl 2 rfl) ?_
    refine lv_iload_n hx hb dX4_blocks_13 rfl (lv_at hl 0 rfl) ?_
    refine m_kV (As := [.int (nI i)]) (rest := []) (rm := { frames := 0, cells := 0, slots := 0, locals := 0 }) ⟨hx, hb, hml, hown, hts⟩ (c_X4_at l D k z _ h0 na g L (nI i) hT) (cwV 1 hts gX4_blocks_X4_at rfl rfl rfl (by decide +kernel) ⟨Nat.le_of_ble_eq_true rfl, Nat.le_of_ble_eq_true rfl⟩) (m_recv hK hm (q := (RX4, TX4, 2)) rfl hT.1) hz hcx hm hS rfl hl.1 rfl (Nat.le_of_ble_eq_true rfl) dX4_blocks_14 ⟨Nat.le_of_ble_eq_true rfl, Nat.le_of_ble_eq_true rfl⟩ (fun v M1 H locs hv hm hS => ?_)
    obtain ⟨hv1, hM1⟩ := hv
    rw [hat] at hv1
    subst hv1
    rw [hM1] at hm
    refine W.eq (g2 := F0 m 17 ls [.ref a]) rfl ?_
    refine W.widen (k := 0) (n := 0) (Nat.le_of_ble_eq_true rfl) (Nat.le_of_ble_eq_true rfl) ?_
    have hm : mm D (AZ z) M H := hm
    refine lv_astore_n (lv' := [(3, .ref a), (2, .int (nI i)), (1, .int (tblk L i)), (0, .ref h0)]) hx hb dX4_blocks_17 rfl hl (by decide) rfl (fun ls hl => ?_)
    refine lv_aload_n hx hb dX4_blocks_18 rfl (lv_at hl 0 rfl) ?_
    refine lv_ifnull hx hb dX4_blocks_19 ?_
    refine lv_iload_n hx hb dX4_blocks_22 rfl (lv_at hl 2 rfl) ?_
    refine lv_aload_n hx hb dX4_blocks_23 rfl (lv_at hl 0 rfl) ?_
    refine m_kV (As := []) (rest := [.int (tblk L i)]) (rm := { frames := 1, cells := 0, slots := 0, locals := 20 }) ⟨hx, hb, hml, hown, hts⟩ (c_X2_blocks l D k z _ a ca v.1 v.2.1 v.2.2.1 hna) (cwV 0 hts gX4_blocks_X2_blocks rfl rfl rfl (by decide +kernel) ⟨Nat.le_of_ble_eq_true rfl, Nat.le_of_ble_eq_true rfl⟩) (m_recv hK hm (q := (RX2, TX2, 4)) rfl hna) hz hcx hm hS rfl hl.1 rfl (Nat.le_of_ble_eq_true rfl) dX4_blocks_24 ⟨Nat.le_of_ble_eq_true rfl, Nat.le_of_ble_eq_true rfl⟩ (fun v M1 H locs hv hm hS => ?_)
    obtain ⟨rfl, hM1⟩ := hv
    rw [hM1] at hm
    refine W.eq (g2 := F0 m 27 ls [.int (if v.2.1 = 0 then 1 + (v.2.2.1 + 8 - 1) / 8 else 1), .int (tblk L i)]) rfl ?_
    refine W.widen (k := 0) (n := 0) (Nat.le_of_ble_eq_true rfl) (Nat.le_of_ble_eq_true rfl) ?_
    have hm : mm D (AZ z) M H := hm
    refine lv_iadd hx hb dX4_blocks_27 ?_
    refine lv_istore_n (lv' := [(1, .int ((tblk L i) + (if v.2.1 = 0 then 1 + (v.2.2.1 + 8 - 1) / 8 else 1))), (3, .ref a), (2, .int (nI i)), (0, .ref h0)]) hx hb dX4_blocks_28 rfl hl (by decide) rfl (fun ls hl => ?_)
    refine lv_iinc (v := ((nI i) + 1)) (lv' := [(2, .int ((nI i) + 1)), (1, .int ((tblk L i) + (if v.2.1 = 0 then 1 + (v.2.2.1 + 8 - 1) / 8 else 1))), (3, .ref a), (0, .ref h0)]) hx hb dX4_blocks_29 hl (k := 2) rfl rfl (by decide) rfl (fun ls hl => ?_)
    refine lv_goto (tgt := 4) hx hb dX4_blocks_32 (by decide) ?_
    rw [nI_1, show (if v.2.1 = 0 then 1 + (v.2.2.1 + 8 - 1) / 8 else 1) = nblk v from rfl, ← tblk_succ hv0] at hl
    exact ih4 (i + 1) _ _ _ ⟨by omega, hm, hS, lv_sub hl [0, 1, 3] rfl⟩ (by omega)
