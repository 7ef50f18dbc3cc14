/-- the memory behind noteRead -/
def noteM (k : Nat → ClassId) (M : mM) (c : Nat) (f : Nat → Int64) (p b : Int32) : mM := if p < 0 then M else if nI 60 ≤ p then M else mu M c (.inl (k 1, 60, .inr (.inl (vp_updL f p.toNatClampNeg (f p.toNatClampNeg ||| (1 <<< (b.toInt64 &&& 63)))))))

set_option maxHeartbeats 4000000 in
set_option maxRecDepth 100000 in
theorem c_X3_noteRead (l : Launch) (D : va_G) (k : Nat → ClassId) (z : Nat) (M : mM) (c9 : Nat) (f : Nat → Int64) (pl bt : Int32) (ha : M c9 = some (.inl (k 1, 60, .inr (.inl f)))) : mK l yX3_noteRead wsX3_noteRead ({ frames := 0, cells := 0, slots := 0, locals := 0 }) D k z [.ref c9, .int pl, .int bt] M (fun v M' => v = none ∧ M' = noteM k M c9 f pl bt) := by
  refine Met.ofW (cc := cX3_noteRead) (maxL := 3) (ret := none) (by decide) rfl ?_
  intro p e s m args below meth c s₁ B hml hv
  obtain ⟨rfl, hz, hcx, hm⟩ := hv
  have hx := B.exec
  have hb := B.bytes
  have hr := B.returns
  have hts := atoms_spec (ws := wsX3_noteRead) B.pre
  have hown : s.vm.findClass RX3 = some m.cls := findClass_of_methodNamed B.named
  have hlocks := B.notSynchronized
  have hK := hcx.1
  have hS : va_S (AZ z) s.heap s.heap [] := va_S.rf
  have hA : ∀ q, s.heap.size ≤ q → AZ z q := fun q h => Nat.le_trans hz h
  have hl := lv_entry ([.ref c9, .int pl, .int bt]) (n := 3) (Nat.le_of_ble_eq_true rfl)
  rw [lg_entry_eq]
  generalize (lg_sl ([.ref c9, .int pl, .int bt]) ++ List.replicate (3 - (lg_sl ([.ref c9, .int pl, .int bt])).length) Slot.unset).toArray = ls at hl ⊢
  have hl : lv_has ls 3 [(0, .ref c9), (1, .int pl), (2, .int bt)] := hl
  refine lv_iload_n hx hb dX3_noteRead_0 rfl (lv_at hl 1 rfl) ?_
  refine lv_if_lt (tgt := 19) hx hb dX3_noteRead_1 (by decide) (fun c1 => ?_) (fun c1 => ?_)
  · refine W.vret hx hb hr (fun t ht hW => ⟨⟨none, _, rfl, ?_, by rw [ht]; exact hm⟩, hS.F ht⟩) hS.2.2 dX3_noteRead_19
    exact ⟨rfl, by simp [noteM, c1]⟩
  · refine lv_iload_n hx hb dX3_noteRead_4 rfl (lv_at hl 1 rfl) ?_
    refine lv_aload_n hx hb dX3_noteRead_5 rfl (lv_at hl 0 rfl) ?_
    refine m_alen hx hb hK hm 1 ha rfl (v := nI 60) rfl dX3_noteRead_6 ?_
    refine lv_icmp_ge (tgt := 19) hx hb dX3_noteRead_7 (by decide) (fun c2 => ?_) (fun c2 => ?_)
    · refine W.vret hx hb hr (fun t ht hW => ⟨⟨none, _, rfl, ?_, by rw [ht]; exact hm⟩, hS.F ht⟩) hS.2.2 dX3_noteRead_19
      exact ⟨rfl, by simp [noteM, c1, c2]⟩
    · refine lv_aload_n hx hb dX3_noteRead_10 rfl (lv_at hl 0 rfl) ?_
      refine lv_iload_n hx hb dX3_noteRead_11 rfl (lv_at hl 1 rfl) ?_
      refine lv_dup2_11 hx hb dX3_noteRead_12 rfl rfl ?_
      refine m_lald hx hb hK hm 1 ha rfl (in_of c1 c2 (by decide)) dX3_noteRead_13 ?_
      refine lv_lconst (v := 1) hx hb dX3_noteRead_14 (by decide) ?_
      refine lv_iload_n hx hb dX3_noteRead_15 rfl (lv_at hl 2 rfl) ?_
      refine lv_lshl (v := (1 <<< (bt.toInt64 &&& 63))) hx hb dX3_noteRead_16 rfl ?_
      refine lv_lor hx hb dX3_noteRead_17 ?_
      refine m_last hx hb hK hm hS 1 ha rfl (in_of c1 c2 (by decide)) dX3_noteRead_18 (fun H locs hm hS => ?_)
      have hm : mm D (AZ z) (mu M c9 (.inl (k 1, 60, .inr (.inl (vp_updL f pl.toNatClampNeg ((f pl.toNatClampNeg) ||| (1 <<< (bt.toInt64 &&& 63)))))))) H := hm
      refine W.vret hx hb hr (fun t ht hW => ⟨⟨none, _, rfl, ?_, by rw [ht]; exact hm⟩, hS.F ht⟩) hS.2.2 dX3_noteRead_19
      exact ⟨rfl, by simp [noteM, c1, c2]⟩

/-- what a node answers at a cell -/
def ndc (v : NV) (i : Int32) : Int32 := nd_cell (nlen v) v.2.2.2 i
/-- the memory behind lookAtCell: READ if the base has the node and the cell is the same there -/
def lookM (k : Nat → ClassId) (M : mM) (c : Nat) (f : Nat → Int64) (Lb : List NV) (w : NV) (i : Int32) : mM := match lookL w.1 Lb with
  | none => M
  | some v => if ndc v i = ndc w i then noteM k M c f (placeFrom w.1 Lb 0) i else M
def lookS (k : Nat → ClassId) (M : mM) (c : Nat) (f : Nat → Int64) (Lb : List NV) (w : NV) : mM := match lookL w.1 Lb with
  | none => M
  | some v => if v.2.2.1 = w.2.2.1 then noteM k M c f (placeFrom w.1 Lb 0) 0 else M
theorem nlen31 (v : NV) : nlen v < 2 ^ 31 := Nat.lt_of_le_of_lt (nlen_le v) (by decide)

set_option maxHeartbeats 4000000 in
set_option maxRecDepth 100000 in
theorem c_X3_lookAtCell (l : Launch) (D : va_G) (k : Nat → ClassId) (z : Nat) (M : mM) (x bs vw mk cr fr bn nd : Nat) (gb : Nat → Option Nat) (Lb : List NV) (fc ff : Nat → Int64) (op md : Int32) (w : NV) (hX : M x = some (.inr (3, [.ref bs, .ref vw, .ref mk, .ref cr, .ref fr, .int op, .int md]))) (hB : treeAt k M bs bn gb Lb) (hN : nodeAt k M nd w) (i : Int32) (hC : M cr = some (.inl (k 1, 60, .inr (.inl fc)))) : mK l yX3_lookAtCell wsX3_lookAtCell ({ frames := 1, cells := 0, slots := 0, locals := 24 }) D k z [.ref x, .ref nd, .int i] M (fun v M' => v = none ∧ M' = lookM k M cr fc Lb w i) := by
  refine Met.ofW (cc := cX3_lookAtCell) (maxL := 5) (ret := none) (by decide) rfl ?_
  intro p e s m args below meth c s₁ B hml hv
  obtain ⟨rfl, hz, hcx, hm⟩ := hv
  have hx := B.exec
  have hb := B.bytes
  have hr := B.returns
  have hts := atoms_spec (ws := wsX3_lookAtCell) B.pre
  have hown : s.vm.findClass RX3 = some m.cls := findClass_of_methodNamed B.named
  have hlocks := B.notSynchronized
  have hK := hcx.1
  have hS : va_S (AZ z) s.heap s.heap [] := va_S.rf
  have hA : ∀ q, s.heap.size ≤ q → AZ z q := fun q h => Nat.le_trans hz h
  have hl := lv_entry ([.ref x, .ref nd, .int i]) (n := 5) (Nat.le_of_ble_eq_true rfl)
  rw [lg_entry_eq]
  generalize (lg_sl ([.ref x, .ref nd, .int i]) ++ List.replicate (5 - (lg_sl ([.ref x, .ref nd, .int i])).length) Slot.unset).toArray = ls at hl ⊢
  have hl : lv_has ls 5 [(0, .ref x), (1, .ref nd), (2, .int i)] := hl
  have f12 := hts (.fieldLink RX3 12 "CommitTree$Transaction" "base" "LCommitTree$Tree;") (by decide +kernel)
  have f22 := hts (.fieldLink RX3 22 "CommitTree$Transaction" "cellsRead" "[J") (by decide +kernel)
  have f71 := hts (.fieldLink RX3 71 "CommitTree$Node" "id" "I") (by decide +kernel)
  have wX2 : ∀ w ∈ wsX20, w ∈ wsX3_lookAtCell := by decide +kernel
  have wX3 : ∀ w ∈ wsX30, w ∈ wsX3_lookAtCell := by decide +kernel
  obtain ⟨hdw, cw, hnw, hcw⟩ := And.intro hN.1 hN.2
  have hLb6 := hB.2.2.1
  rcases findA_cases w.1 hB with ⟨hf, hlk, hpl⟩ | ⟨j, v, a, hj, hLj, hid, hlk, hpl, hf, hgj, hnd⟩
  · refine lv_aload_n hx hb dX3_lookAtCell_0 rfl (lv_at hl 0 rfl) ?_
    refine m_get (T := TX3) (N := 7) (ci := 3) (v := .ref bs) hx hb hts wX3 hown hK hm hX rfl 0 (by decide) f12 (fun _ h9 => h9) rfl dX3_lookAtCell_1 ?_
    refine lv_aload_n hx hb dX3_lookAtCell_4 rfl (lv_at hl 1 rfl) ?_
    refine m_get (T := TX2) (N := 4) (ci := 2) (v := .int w.1) hx hb hts wX2 hown hK hm hnw rfl 0 (by decide) f71 (fun _ h9 => h9) rfl dX3_lookAtCell_5 ?_
    refine m_kV (As := [.int w.1]) (rest := []) (rm := { frames := 0, cells := 0, slots := 0, locals := 0 }) ⟨hx, hb, hml, hown, hts⟩ (c_X4_placeOf l D k z _ bs bn gb Lb w.1 hB) (cwV 1 hts gX3_lookAtCell_X4_placeOf rfl rfl rfl (by decide +kernel) ⟨Nat.le_of_ble_eq_true rfl, Nat.le_of_ble_eq_true rfl⟩) (m_recv hK hm (q := (RX4, TX4, 2)) rfl hB.1) hz hcx hm hS rfl hl.1 rfl (Nat.le_of_ble_eq_true rfl) dX3_lookAtCell_8 ⟨Nat.le_of_ble_eq_true rfl, Nat.le_of_ble_eq_true rfl⟩ (fun v M1 H locs hv hm hS => ?_)
    obtain ⟨rfl, hM1⟩ := hv
    rw [hM1] at hm
    refine W.eq (g2 := F0 m 11 ls [.int (placeFrom w.1 Lb 0)]) rfl ?_
    refine W.widen (k := 0) (n := 0) (Nat.le_of_ble_eq_true rfl) (Nat.le_of_ble_eq_true rfl) ?_
    have hm : mm D (AZ z) M H := hm
    refine lv_istore_n (lv' := [(3, .int (placeFrom w.1 Lb 0)), (0, .ref x), (1, .ref nd), (2, .int i)]) hx hb dX3_lookAtCell_11 rfl hl (by decide) rfl (fun ls hl => ?_)
    refine lv_aload_n hx hb dX3_lookAtCell_12 rfl (lv_at hl 1 rfl) ?_
    refine m_get (T := TX3) (N := 7) (ci := 3) (v := .ref bs) hx hb hts wX3 hown hK hm hX rfl 0 (by decide) f12 (fun _ h9 => h9) rfl dX3_lookAtCell_13 ?_
    refine lv_iload_n hx hb dX3_lookAtCell_16 rfl (lv_at hl 0 rfl) ?_
    refine m_kV (As := [.int (placeFrom w.1 Lb 0)]) (rest := []) (rm := { frames := 0, cells := 0, slots := 0, locals := 0 }) ⟨hx, hb, hml, hown, hts⟩ (c_X4_at l D k z _ bs bn gb Lb (placeFrom w.1 Lb 0) hB) (cwV 1 hts gX3_lookAtCell_X4_at rfl rfl rfl (by decide +kernel) ⟨Nat.le_of_ble_eq_true rfl, Nat.le_of_ble_eq_true rfl⟩) (m_recv hK hm (q := (RX4, TX4, 2)) rfl hB.1) hz hcx hm hS rfl hl.1 rfl (Nat.le_of_ble_eq_true rfl) dX3_lookAtCell_17 ⟨Nat.le_of_ble_eq_true rfl, Nat.le_of_ble_eq_true rfl⟩ (fun v M1 H locs hv hm hS => ?_)
    obtain ⟨hv1, hM1⟩ := hv
    rw [show atA gb Lb.length (placeFrom w.1 Lb 0) = findA w.1 gb Lb from rfl, hf] at hv1
    subst hv1
    rw [hM1] at hm
    refine W.eq (g2 := F0 m 20 ls [.null]) rfl ?_
    refine W.widen (k := 0) (n := 0) (Nat.le_of_ble_eq_true rfl) (Nat.le_of_ble_eq_true rfl) ?_
    have hm : mm D (AZ z) M H := hm
    refine lv_astoreN (lv' := [(4, .null), (3, .int (placeFrom w.1 Lb 0)), (0, .ref x), (1, .ref nd), (2, .int i)]) hx hb dX3_lookAtCell_20 hl (by decide) rfl (fun ls hl => ?_)
    refine lv_aloadN hx hb dX3_lookAtCell_22 (lv_at hl 0 rfl) ?_
    refine lv_ifnullN (tgt := 50) hx hb dX3_lookAtCell_24 (by decide) ?_
    refine W.vret hx hb hr (fun t ht hW => ⟨⟨none, _, rfl, ?_, by rw [ht]; exact hm⟩, hS.F ht⟩) hS.2.2 dX3_lookAtCell_50
    exact ⟨rfl, by simp [lookM, hlk]⟩
  · obtain ⟨hdr, ca, hna, hca⟩ := And.intro hnd.1 hnd.2
    refine lv_aload_n hx hb dX3_lookAtCell_0 rfl (lv_at hl 0 rfl) ?_
    refine m_get (T := TX3) (N := 7) (ci := 3) (v := .ref bs) hx hb hts wX3 hown hK hm hX rfl 0 (by decide) f12 (fun _ h9 => h9) rfl dX3_lookAtCell_1 ?_
    refine lv_aload_n hx hb dX3_lookAtCell_4 rfl (lv_at hl 1 rfl) ?_
    refine m_get (T := TX2) (N := 4) (ci := 2) (v := .int w.1) hx hb hts wX2 hown hK hm hnw rfl 0 (by decide) f71 (fun _ h9 => h9) rfl dX3_lookAtCell_5 ?_
    refine m_kV (As := [.int w.1]) (rest := []) (rm := { frames := 0, cells := 0, slots := 0, locals := 0 }) ⟨hx, hb, hml, hown, hts⟩ (c_X4_placeOf l D k z _ bs bn gb Lb w.1 hB) (cwV 1 hts gX3_lookAtCell_X4_placeOf rfl rfl rfl (by decide +kernel) ⟨Nat.le_of_ble_eq_true rfl, Nat.le_of_ble_eq_true rfl⟩) (m_recv hK hm (q := (RX4, TX4, 2)) rfl hB.1) hz hcx hm hS rfl hl.1 rfl (Nat.le_of_ble_eq_true rfl) dX3_lookAtCell_8 ⟨Nat.le_of_ble_eq_true rfl, Nat.le_of_ble_eq_true rfl⟩ (fun v M1 H locs hv hm hS => ?_)
    obtain ⟨rfl, hM1⟩ := hv
    rw [hM1] at hm
    refine W.eq (g2 := F0 m 11 ls [.int (placeFrom w.1 Lb 0)]) rfl ?_
    refine W.widen (k := 0) (n := 0) (Nat.le_of_ble_eq_true rfl) (Nat.le_of_ble_eq_true rfl) ?_
    have hm : mm D (AZ z) M H := hm
    refine lv_istore_n (lv' := [(3, .int (placeFrom w.1 Lb 0)), (0, .ref x), (1, .ref nd), (2, .int i)]) hx hb dX3_lookAtCell_11 rfl hl (by decide) rfl (fun ls hl => ?_)
    refine lv_aload_n hx hb dX3_lookAtCell_12 rfl (lv_at hl 1 rfl) ?_
    refine m_get (T := TX3) (N := 7) (ci := 3) (v := .ref bs) hx hb hts wX3 hown hK hm hX rfl 0 (by decide) f12 (fun _ h9 => h9) rfl dX3_lookAtCell_13 ?_
    refine lv_iload_n hx hb dX3_lookAtCell_16 rfl (lv_at hl 0 rfl) ?_
    refine m_kV (As := [.int (placeFrom w.1 Lb 0)]) (rest := []) (rm := { frames := 0, cells := 0, slots := 0, locals := 0 }) ⟨hx, hb, hml, hown, hts⟩ (c_X4_at l D k z _ bs bn gb Lb (placeFrom w.1 Lb 0) hB) (cwV 1 hts gX3_lookAtCell_X4_at rfl rfl rfl (by decide +kernel) ⟨Nat.le_of_ble_eq_true rfl, Nat.le_of_ble_eq_true rfl⟩) (m_recv hK hm (q := (RX4, TX4, 2)) rfl hB.1) hz hcx hm hS rfl hl.1 rfl (Nat.le_of_ble_eq_true rfl) dX3_lookAtCell_17 ⟨Nat.le_of_ble_eq_true rfl, Nat.le_of_ble_eq_true rfl⟩ (fun v M1 H locs hv hm hS => ?_)
    obtain ⟨hv1, hM1⟩ := hv
    rw [show atA gb Lb.length (placeFrom w.1 Lb 0) = findA w.1 gb Lb from rfl, hf] at hv1
    subst hv1
    rw [hM1] at hm
    refine W.eq (g2 := F0 m 20 ls [.ref a]) rfl ?_
    refine W.widen (k := 0) (n := 0) (Nat.le_of_ble_eq_true rfl) (Nat.le_of_ble_eq_true rfl) ?_
    have hm : mm D (AZ z) M H := hm
    refine lv_astore (lv' := [(4, .ref a), (3, .int (placeFrom w.1 Lb 0)), (0, .ref x), (1, .ref nd), (2, .int i)]) hx hb dX3_lookAtCell_20 hl (by decide) rfl (fun ls hl => ?_)
    refine lv_aload hx hb dX3_lookAtCell_22 (lv_at hl 0 rfl) ?_
    refine lv_ifnull hx hb dX3_lookAtCell_24 ?_
    refine lv_aload hx hb dX3_lookAtCell_27 (lv_at hl 0 rfl) ?_
    refine lv_iload_n hx hb dX3_lookAtCell_29 rfl (lv_at hl 4 rfl) ?_
    refine m_kV (As := [.int i]) (rest := []) (rm := { frames := 0, cells := 0, slots := 0, locals := 0 }) ⟨hx, hb, hml, hown, hts⟩ (c_X2_cell l D k z _ a ca (nlen v) v.1 v.2.1 v.2.2.1 i v.2.2.2 (nlen31 v) hna hca) (cwV 1 hts gX3_lookAtCell_X2_cell rfl rfl rfl (by decide +kernel) ⟨Nat.le_of_ble_eq_true rfl, Nat.le_of_ble_eq_true rfl⟩) (m_recv hK hm (q := (RX2, TX2, 4)) rfl hna) hz hcx hm hS rfl hl.1 rfl (Nat.le_of_ble_eq_true rfl) dX3_lookAtCell_30 ⟨Nat.le_of_ble_eq_true rfl, Nat.le_of_ble_eq_true rfl⟩ (fun v M1 H locs hv hm hS => ?_)
    obtain ⟨rfl, hM1⟩ := hv
    rw [hM1] at hm
    refine W.eq (g2 := F0 m 33 ls [.int (ndc v i)]) rfl ?_
    refine W.widen (k := 0) (n := 0) (Nat.le_of_ble_eq_true rfl) (Nat.le_of_ble_eq_true rfl) ?_
    have hm : mm D (AZ z) M H := hm
    refine lv_aload_n hx hb dX3_lookAtCell_33 rfl (lv_at hl 3 rfl) ?_
    refine lv_iload_n hx hb dX3_lookAtCell_34 rfl (lv_at hl 4 rfl) ?_
    refine m_kV (As := [.int i]) (rest := [.int (ndc v i)]) (rm := { frames := 0, cells := 0, slots := 0, locals := 0 }) ⟨hx, hb, hml, hown, hts⟩ (c_X2_cell l D k z _ nd cw (nlen w) w.1 w.2.1 w.2.2.1 i w.2.2.2 (nlen31 w) hnw hcw) (cwV 1 hts gX3_lookAtCell_X2_cell rfl rfl rfl (by decide +kernel) ⟨Nat.le_of_ble_eq_true rfl, Nat.le_of_ble_eq_true rfl⟩) (m_recv hK hm (q := (RX2, TX2, 4)) rfl hnw) hz hcx hm hS rfl hl.1 rfl (Nat.le_of_ble_eq_true rfl) dX3_lookAtCell_35 ⟨Nat.le_of_ble_eq_true rfl, Nat.le_of_ble_eq_true rfl⟩ (fun v M1 H locs hv hm hS => ?_)
    obtain ⟨rfl, hM1⟩ := hv
    rw [hM1] at hm
    refine W.eq (g2 := F0 m 38 ls [.int (ndc w i), .int (ndc v i)]) rfl ?_
    refine W.widen (k := 0) (n := 0) (Nat.le_of_ble_eq_true rfl) (Nat.le_of_ble_eq_true rfl) ?_
    have hm : mm D (AZ z) M H := hm
    refine lv_icmp_ne (tgt := 50) hx hb dX3_lookAtCell_38 (by decide) (fun c1 => ?_) (fun c1 => ?_)
    · refine W.vret hx hb hr (fun t ht hW => ⟨⟨none, _, rfl, ?_, by rw [ht]; exact hm⟩, hS.F ht⟩) hS.2.2 dX3_lookAtCell_50
      exact ⟨rfl, by simp [lookM, hlk, c1]⟩
    · refine lv_aload_n hx hb dX3_lookAtCell_41 rfl (lv_at hl 2 rfl) ?_
      refine m_get (T := TX3) (N := 7) (ci := 3) (v := .ref cr) hx hb hts wX3 hown hK hm hX rfl 3 (by decide) f22 (fun _ h9 => h9) rfl dX3_lookAtCell_42 ?_
      refine lv_iload_n hx hb dX3_lookAtCell_45 rfl (lv_at hl 1 rfl) ?_
      refine lv_iload_n hx hb dX3_lookAtCell_46 rfl (lv_at hl 4 rfl) ?_
      refine m_kS (As := [.ref cr, .int (placeFrom w.1 Lb 0), .int i]) (rest := []) (rm := { frames := 0, cells := 0, slots := 0, locals := 0 }) ⟨hx, hb, hml, hown, hts⟩ (c_X3_noteRead l D k z _ cr fc (placeFrom w.1 Lb 0) i hC) (cwS 3 hts gX3_lookAtCell_X3_noteRead rfl rfl rfl (by decide +kernel) ⟨Nat.le_of_ble_eq_true rfl, Nat.le_of_ble_eq_true rfl⟩) hz hcx hm hS rfl hl.1 rfl (Nat.le_of_ble_eq_true rfl) dX3_lookAtCell_47 ⟨Nat.le_of_ble_eq_true rfl, Nat.le_of_ble_eq_true rfl⟩ (fun v M1 H locs hv hm hS => ?_)
      obtain ⟨rfl, hM1⟩ := hv
      rw [hM1] at hm
      refine W.eq (g2 := F0 m 50 ls []) rfl ?_
      refine W.widen (k := 0) (n := 0) (Nat.le_of_ble_eq_true rfl) (Nat.le_of_ble_eq_true rfl) ?_
      have hm : mm D (AZ z) (noteM k M cr fc (placeFrom w.1 Lb 0) i) H := hm
      refine W.vret hx hb hr (fun t ht hW => ⟨⟨none, _, rfl, ?_, by rw [ht]; exact hm⟩, hS.F ht⟩) hS.2.2 dX3_lookAtCell_50
      exact ⟨rfl, by simp [lookM, hlk, c1]⟩

set_option maxHeartbeats 4000000 in
set_option maxRecDepth 100000 in
theorem c_X3_lookAtSize (l : Launch) (D : va_G) (k : Nat → ClassId) (z : Nat) (M : mM) (x bs vw mk cr fr bn nd : Nat) (gb : Nat → Option Nat) (Lb : List NV) (fc ff : Nat → Int64) (op md : Int32) (w : NV) (hX : M x = some (.inr (3, [.ref bs, .ref vw, .ref mk, .ref cr, .ref fr, .int op, .int md]))) (hB : treeAt k M bs bn gb Lb) (hN : nodeAt k M nd w) (hF : M fr = some (.inl (k 1, 60, .inr (.inl ff)))) : mK l yX3_lookAtSize wsX3_lookAtSize ({ frames := 1, cells := 0, slots := 0, locals := 24 }) D k z [.ref x, .ref nd] M (fun v M' => v = none ∧ M' = lookS k M fr ff Lb w) := by
  refine Met.ofW (cc := cX3_lookAtSize) (maxL := 4) (ret := none) (by decide) rfl ?_
  intro p e s m args below meth c s₁ B hml hv
  obtain ⟨rfl, hz, hcx, hm⟩ := hv
  have hx := B.exec
  have hb := B.bytes
  have hr := B.returns
  have hts := atoms_spec (ws := wsX3_lookAtSize) B.pre
  have hown : s.vm.findClass RX3 = some m.cls := findClass_of_methodNamed B.named
  have hlocks := B.notSynchronized
  have hK := hcx.1
  have hS : va_S (AZ z) s.heap s.heap [] := va_S.rf
  have hA : ∀ q, s.heap.size ≤ q → AZ z q := fun q h => Nat.le_trans hz h
  have hl := lv_entry ([.ref x, .ref nd]) (n := 4) (Nat.le_of_ble_eq_true rfl)
  rw [lg_entry_eq]
  generalize (lg_sl ([.ref x, .ref nd]) ++ List.replicate (4 - (lg_sl ([.ref x, .ref nd])).length) Slot.unset).toArray = ls at hl ⊢
  have hl : lv_has ls 4 [(0, .ref x), (1, .ref nd)] := hl
  have f12 := hts (.fieldLink RX3 12 "CommitTree$Transaction" "base" "LCommitTree$Tree;") (by decide +kernel)
  have f26 := hts (.fieldLink RX3 26 "CommitTree$Transaction" "factsRead" "[J") (by decide +kernel)
  have f71 := hts (.fieldLink RX3 71 "CommitTree$Node" "id" "I") (by decide +kernel)
  have f84 := hts (.fieldLink RX3 84 "CommitTree$Node" "size" "I") (by decide +kernel)
  have wX2 : ∀ w ∈ wsX20, w ∈ wsX3_lookAtSize := by decide +kernel
  have wX3 : ∀ w ∈ wsX30, w ∈ wsX3_lookAtSize := by decide +kernel
  obtain ⟨hdw, cw, hnw, hcw⟩ := And.intro hN.1 hN.2
  have hLb6 := hB.2.2.1
  rcases findA_cases w.1 hB with ⟨hf, hlk, hpl⟩ | ⟨j, v, a, hj, hLj, hid, hlk, hpl, hf, hgj, hnd⟩
  · refine lv_aload_n hx hb dX3_lookAtSize_0 rfl (lv_at hl 0 rfl) ?_
    refine m_get (T := TX3) (N := 7) (ci := 3) (v := .ref bs) hx hb hts wX3 hown hK hm hX rfl 0 (by decide) f12 (fun _ h9 => h9) rfl dX3_lookAtSize_1 ?_
    refine lv_aload_n hx hb dX3_lookAtSize_4 rfl (lv_at hl 1 rfl) ?_
    refine m_get (T := TX2) (N := 4) (ci := 2) (v := .int w.1) hx hb hts wX2 hown hK hm hnw rfl 0 (by decide) f71 (fun _ h9 => h9) rfl dX3_lookAtSize_5 ?_
    refine m_kV (As := [.int w.1]) (rest := []) (rm := { frames := 0, cells := 0, slots := 0, locals := 0 }) ⟨hx, hb, hml, hown, hts⟩ (c_X4_placeOf l D k z _ bs bn gb Lb w.1 hB) (cwV 1 hts gX3_lookAtSize_X4_placeOf rfl rfl rfl (by decide +kernel) ⟨Nat.le_of_ble_eq_true rfl, Nat.le_of_ble_eq_true rfl⟩) (m_recv hK hm (q := (RX4, TX4, 2)) rfl hB.1) hz hcx hm hS rfl hl.1 rfl (Nat.le_of_ble_eq_true rfl) dX3_lookAtSize_8 ⟨Nat.le_of_ble_eq_true rfl, Nat.le_of_ble_eq_true rfl⟩ (fun v M1 H locs hv hm hS => ?_)
    obtain ⟨rfl, hM1⟩ := hv
    rw [hM1] at hm
    refine W.eq (g2 := F0 m 11 ls [.int (placeFrom w.1 Lb 0)]) rfl ?_
    refine W.widen (k := 0) (n := 0) (Nat.le_of_ble_eq_true rfl) (Nat.le_of_ble_eq_true rfl) ?_
    have hm : mm D (AZ z) M H := hm
    refine lv_istore_n (lv' := [(2, .int (placeFrom w.1 Lb 0)), (0, .ref x), (1, .ref nd)]) hx hb dX3_lookAtSize_11 rfl hl (by decide) rfl (fun ls hl => ?_)
    refine lv_aload_n hx hb dX3_lookAtSize_12 rfl (lv_at hl 1 rfl) ?_
    refine m_get (T := TX3) (N := 7) (ci := 3) (v := .ref bs) hx hb hts wX3 hown hK hm hX rfl 0 (by decide) f12 (fun _ h9 => h9) rfl dX3_lookAtSize_13 ?_
    refine lv_iload_n hx hb dX3_lookAtSize_16 rfl (lv_at hl 0 rfl) ?_
    refine m_kV (As := [.int (placeFrom w.1 Lb 0)]) (rest := []) (rm := { frames := 0, cells := 0, slots := 0, locals := 0 }) ⟨hx, hb, hml, hown, hts⟩ (c_X4_at l D k z _ bs bn gb Lb (placeFrom w.1 Lb 0) hB) (cwV 1 hts gX3_lookAtSize_X4_at rfl rfl rfl (by decide +kernel) ⟨Nat.le_of_ble_eq_true rfl, Nat.le_of_ble_eq_true rfl⟩) (m_recv hK hm (q := (RX4, TX4, 2)) rfl hB.1) hz hcx hm hS rfl hl.1 rfl (Nat.le_of_ble_eq_true rfl) dX3_lookAtSize_17 ⟨Nat.le_of_ble_eq_true rfl, Nat.le_of_ble_eq_true rfl⟩ (fun v M1 H locs hv hm hS => ?_)
    obtain ⟨hv1, hM1⟩ := hv
    rw [show atA gb Lb.length (placeFrom w.1 Lb 0) = findA w.1 gb Lb from rfl, hf] at hv1
    subst hv1
    rw [hM1] at hm
    refine W.eq (g2 := F0 m 20 ls [.null]) rfl ?_
    refine W.widen (k := 0) (n := 0) (Nat.le_of_ble_eq_true rfl) (Nat.le_of_ble_eq_true rfl) ?_
    have hm : mm D (AZ z) M H := hm
    refine lv_astore_nN (lv' := [(3, .null), (2, .int (placeFrom w.1 Lb 0)), (0, .ref x), (1, .ref nd)]) hx hb dX3_lookAtSize_20 rfl hl (by decide) rfl (fun ls hl => ?_)
    refine lv_aload_nN hx hb dX3_lookAtSize_21 rfl (lv_at hl 0 rfl) ?_
    refine lv_ifnullN (tgt := 45) hx hb dX3_lookAtSize_22 (by decide) ?_
    refine W.vret hx hb hr (fun t ht hW => ⟨⟨none, _, rfl, ?_, by rw [ht]; exact hm⟩, hS.F ht⟩) hS.2.2 dX3_lookAtSize_45
    exact ⟨rfl, by simp [lookS, hlk]⟩
  · obtain ⟨hdr, ca, hna, hca⟩ := And.intro hnd.1 hnd.2
    refine lv_aload_n hx hb dX3_lookAtSize_0 rfl (lv_at hl 0 rfl) ?_
    refine m_get (T := TX3) (N := 7) (ci := 3) (v := .ref bs) hx hb hts wX3 hown hK hm hX rfl 0 (by decide) f12 (fun _ h9 => h9) rfl dX3_lookAtSize_1 ?_
    refine lv_aload_n hx hb dX3_lookAtSize_4 rfl (lv_at hl 1 rfl) ?_
    refine m_get (T := TX2) (N := 4) (ci := 2) (v := .int w.1) hx hb hts wX2 hown hK hm hnw rfl 0 (by decide) f71 (fun _ h9 => h9) rfl dX3_lookAtSize_5 ?_
    refine m_kV (As := [.int w.1]) (rest := []) (rm := { frames := 0, cells := 0, slots := 0, locals := 0 }) ⟨hx, hb, hml, hown, hts⟩ (c_X4_placeOf l D k z _ bs bn gb Lb w.1 hB) (cwV 1 hts gX3_lookAtSize_X4_placeOf rfl rfl rfl (by decide +kernel) ⟨Nat.le_of_ble_eq_true rfl, Nat.le_of_ble_eq_true rfl⟩) (m_recv hK hm (q := (RX4, TX4, 2)) rfl hB.1) hz hcx hm hS rfl hl.1 rfl (Nat.le_of_ble_eq_true rfl) dX3_lookAtSize_8 ⟨Nat.le_of_ble_eq_true rfl, Nat.le_of_ble_eq_true rfl⟩ (fun v M1 H locs hv hm hS => ?_)
    obtain ⟨rfl, hM1⟩ := hv
    rw [hM1] at hm
    refine W.eq (g2 := F0 m 11 ls [.int (placeFrom w.1 Lb 0)]) rfl ?_
    refine W.widen (k := 0) (n := 0) (Nat.le_of_ble_eq_true rfl) (Nat.le_of_ble_eq_true rfl) ?_
    have hm : mm D (AZ z) M H := hm
    refine lv_istore_n (lv' := [(2, .int (placeFrom w.1 Lb 0)), (0, .ref x), (1, .ref nd)]) hx hb dX3_lookAtSize_11 rfl hl (by decide) rfl (fun ls hl => ?_)
    refine lv_aload_n hx hb dX3_lookAtSize_12 rfl (lv_at hl 1 rfl) ?_
    refine m_get (T := TX3) (N := 7) (ci := 3) (v := .ref bs) hx hb hts wX3 hown hK hm hX rfl 0 (by decide) f12 (fun _ h9 => h9) rfl dX3_lookAtSize_13 ?_
    refine lv_iload_n hx hb dX3_lookAtSize_16 rfl (lv_at hl 0 rfl) ?_
    refine m_kV (As := [.int (placeFrom w.1 Lb 0)]) (rest := []) (rm := { frames := 0, cells := 0, slots := 0, locals := 0 }) ⟨hx, hb, hml, hown, hts⟩ (c_X4_at l D k z _ bs bn gb Lb (placeFrom w.1 Lb 0) hB) (cwV 1 hts gX3_lookAtSize_X4_at rfl rfl rfl (by decide +kernel) ⟨Nat.le_of_ble_eq_true rfl, Nat.le_of_ble_eq_true rfl⟩) (m_recv hK hm (q := (RX4, TX4, 2)) rfl hB.1) hz hcx hm hS rfl hl.1 rfl (Nat.le_of_ble_eq_true rfl) dX3_lookAtSize_17 ⟨Nat.le_of_ble_eq_true rfl, Nat.le_of_ble_eq_true rfl⟩ (fun v M1 H locs hv hm hS => ?_)
    obtain ⟨hv1, hM1⟩ := hv
    rw [show atA gb Lb.length (placeFrom w.1 Lb 0) = findA w.1 gb Lb from rfl, hf] at hv1
    subst hv1
    rw [hM1] at hm
    refine W.eq (g2 := F0 m 20 ls [.ref a]) rfl ?_
    refine W.widen (k := 0) (n := 0) (Nat.le_of_ble_eq_true rfl) (Nat.le_of_ble_eq_true rfl) ?_
    have hm : mm D (AZ z) M H := hm
    refine lv_astore_n (lv' := [(3, .ref a), (2, .int (placeFrom w.1 Lb 0)), (0, .ref x), (1, .ref nd)]) hx hb dX3_lookAtSize_20 rfl hl (by decide) rfl (fun ls hl => ?_)
    refine lv_aload_n hx hb dX3_lookAtSize_21 rfl (lv_at hl 0 rfl) ?_
    refine lv_ifnull hx hb dX3_lookAtSize_22 ?_
    refine lv_aload_n hx hb dX3_lookAtSize_25 rfl (lv_at hl 0 rfl) ?_
    refine m_get (T := TX2) (N := 4) (ci := 2) (v := .int v.2.2.1) hx hb hts wX2 hown hK hm hna rfl 2 (by decide) f84 (fun _ h9 => h9) rfl dX3_lookAtSize_26 ?_
    refine lv_aload_n hx hb dX3_lookAtSize_29 rfl (lv_at hl 3 rfl) ?_
    refine m_get (T := TX2) (N := 4) (ci := 2) (v := .int w.2.2.1) hx hb hts wX2 hown hK hm hnw rfl 2 (by decide) f84 (fun _ h9 => h9) rfl dX3_lookAtSize_30 ?_
    refine lv_icmp_ne (tgt := 45) hx hb dX3_lookAtSize_33 (by decide) (fun c1 => ?_) (fun c1 => ?_)
    · refine W.vret hx hb hr (fun t ht hW => ⟨⟨none, _, rfl, ?_, by rw [ht]; exact hm⟩, hS.F ht⟩) hS.2.2 dX3_lookAtSize_45
      exact ⟨rfl, by simp [lookS, hlk, c1]⟩
    · refine lv_aload_n hx hb dX3_lookAtSize_36 rfl (lv_at hl 2 rfl) ?_
      refine m_get (T := TX3) (N := 7) (ci := 3) (v := .ref fr) hx hb hts wX3 hown hK hm hX rfl 4 (by decide) f26 (fun _ h9 => h9) rfl dX3_lookAtSize_37 ?_
      refine lv_iload_n hx hb dX3_lookAtSize_40 rfl (lv_at hl 1 rfl) ?_
      refine lv_iconst (v := 0) hx hb dX3_lookAtSize_41 (by decide) ?_
      refine m_kS (As := [.ref fr, .int (placeFrom w.1 Lb 0), .int 0]) (rest := []) (rm := { frames := 0, cells := 0, slots := 0, locals := 0 }) ⟨hx, hb, hml, hown, hts⟩ (c_X3_noteRead l D k z _ fr ff (placeFrom w.1 Lb 0) 0 hF) (cwS 3 hts gX3_lookAtSize_X3_noteRead rfl rfl rfl (by decide +kernel) ⟨Nat.le_of_ble_eq_true rfl, Nat.le_of_ble_eq_true rfl⟩) hz hcx hm hS rfl hl.1 rfl (Nat.le_of_ble_eq_true rfl) dX3_lookAtSize_42 ⟨Nat.le_of_ble_eq_true rfl, Nat.le_of_ble_eq_true rfl⟩ (fun v M1 H locs hv hm hS => ?_)
      obtain ⟨rfl, hM1⟩ := hv
      rw [hM1] at hm
      refine W.eq (g2 := F0 m 45 ls []) rfl ?_
      refine W.widen (k := 0) (n := 0) (Nat.le_of_ble_eq_true rfl) (Nat.le_of_ble_eq_true rfl) ?_
      have hm : mm D (AZ z) (noteM k M fr ff (placeFrom w.1 Lb 0) 0) H := hm
      refine W.vret hx hb hr (fun t ht hW => ⟨⟨none, _, rfl, ?_, by rw [ht]; exact hm⟩, hS.F ht⟩) hS.2.2 dX3_lookAtSize_45
      exact ⟨rfl, by simp [lookS, hlk, c1]⟩
