theorem obj_copy {k : Nat → ClassId} {M : mM} {t na x n : Nat} {g go : Nat → Option Nat} {L : List NV} {fs : List Value} {i : Nat} (hi : i ≠ 4) (h : treeAt k M t na g L) (hx : M x = some (.inr (i, fs))) : copyM k M t na g go n x = some (.inr (i, fs)) :=
  (mu_ne (m_df h.1 hx (by intro h; cases h; exact hi rfl))).trans ((mu_ne (m_df h.2.1 hx (by intro h; cases h))).trans hx)
theorem atA_3 {gm : Nat → Option Nat} {d a : Nat} (hd : d < 3) (h : gm d = some a) : atA gm 3 (nI d) = some a := by
  unfold atA
  rw [if_neg (nI_pos (by omega)), if_neg (fun q => absurd ((nI_leI (by decide) (by omega)).mp q) (by omega)), nI_clamp (by omega)]
  exact h
theorem atA_3n {gm : Nat → Option Nat} {d : Nat} (hd : 3 ≤ d) (h : d < 2 ^ 31) : atA gm 3 (nI d) = none := by
  unfold atA
  rw [if_neg (nI_pos h), if_pos (nI_le hd h)]

set_option maxHeartbeats 4000000 in
set_option maxRecDepth 100000 in
theorem c_X3_pushMark (l : Launch) (D : va_G) (k : Nat → ClassId) (z : Nat) (M : mM) (x bs vw mk cr fr vn d : Nat) (gm gv : Nat → Option Nat) (Lv : List NV) (op : Int32) (hd : d ≤ 3) (mt mn : Nat → Nat) (mg : Nat → Nat → Option Nat) (ML : Nat → List NV) (hX : M x = some (.inr (3, [.ref bs, .ref vw, .ref mk, .ref cr, .ref fr, .int op, .int (nI d)]))) (hMk : M mk = some (.inl (k 5, 3, .inr (.inr (.inr (.inr gm)))))) (hGm : ∀ i, i < 3 → gm i = some (mt i)) (hMt : ∀ i, i < 3 → treeAt k M (mt i) (mn i) (mg i) (ML i)) (hV : treeAt k M vw vn gv Lv) (hn1 : ∀ i, i < 3 → vw ≠ mt i) (hn2 : ∀ i, i < 3 → vn ≠ mn i) : mK l yX3_pushMark wsX3_pushMark ({ frames := 2, cells := 0, slots := 0, locals := 50 }) D k z [.ref x] M (fun v M' => (d < 3 ∧ v = some (.int 1) ∧ M' = mu (copyM k M (mt d) (mn d) (mg d) gv Lv.length) x (.inr (3, [.ref bs, .ref vw, .ref mk, .ref cr, .ref fr, .int op, .int (nI (d + 1))]))) ∨ (d = 3 ∧ v = some (.int 0) ∧ M' = M)) := by
  refine Met.ofW (cc := cX3_pushMark) (maxL := 2) (ret := (some .boolean)) (by decide) rfl ?_
  intro p e s m args below meth c s₁ B hml hv
  obtain ⟨rfl, hz, hcx, hm⟩ := hv
  have hx := B.exec
  have hb := B.bytes
  have hr := B.returns
  have hts := atoms_spec (ws := wsX3_pushMark) B.pre
  have hown : s.vm.findClass RX3 = some m.cls := findClass_of_methodNamed B.named
  have hlocks := B.notSynchronized
  have hK := hcx.1
  have hS : va_S (AZ z) s.heap s.heap [] := va_S.rf
  have hA : ∀ q, s.heap.size ≤ q → AZ z q := fun q h => Nat.le_trans hz h
  have hl := lv_entry ([.ref x]) (n := 2) (Nat.le_of_ble_eq_true rfl)
  rw [lg_entry_eq]
  generalize (lg_sl ([.ref x]) ++ List.replicate (2 - (lg_sl ([.ref x])).length) Slot.unset).toArray = ls at hl ⊢
  have hl : lv_has ls 2 [(0, .ref x)] := hl
  have f33 := hts (.fieldLink RX3 33 "CommitTree$Transaction" "marked" "I") (by decide +kernel)
  have f37 := hts (.fieldLink RX3 37 "CommitTree$Transaction" "view" "LCommitTree$Tree;") (by decide +kernel)
  have wX3 : ∀ w ∈ wsX30, w ∈ wsX3_pushMark := by decide +kernel
  by_cases hc9 : d < 3
  · have hT9 := hMt d hc9
    have hat := atA_3 hc9 (hGm d hc9)
    refine lv_aload_n hx hb dX3_pushMark_0 rfl (lv_at hl 0 rfl) ?_
    refine lv_aload_n hx hb dX3_pushMark_1 rfl (lv_at hl 0 rfl) ?_
    refine m_get (T := TX3) (N := 7) (ci := 3) (v := .int (nI d)) hx hb hts wX3 hown hK hm hX rfl 6 (by decide) f33 (fun _ h9 => h9) rfl dX3_pushMark_2 ?_
    refine m_kV (As := [.int (nI d)]) (rest := []) (rm := { frames := 0, cells := 0, slots := 0, locals := 0 }) ⟨hx, hb, hml, hown, hts⟩ (c_X3_markAt l D k z _ x bs vw mk cr fr gm op (nI d) (nI d) hX hMk) (cwV 1 hts gX3_pushMark_X3_markAt rfl rfl rfl (by decide +kernel) ⟨Nat.le_of_ble_eq_true rfl, Nat.le_of_ble_eq_true rfl⟩) (m_recv hK hm (q := (RX3, TX3, 7)) rfl hX) hz hcx hm hS rfl hl.1 rfl (Nat.le_of_ble_eq_true rfl) dX3_pushMark_5 ⟨Nat.le_of_ble_eq_true rfl, Nat.le_of_ble_eq_true rfl⟩ (fun v M1 H locs hv hm hS => ?_)
    obtain ⟨hv1, hM1⟩ := hv
    rw [hat] at hv1
    subst hv1
    rw [hM1] at hm
    refine W.eq (g2 := F0 m 8 ls [.ref (mt d)]) rfl ?_
    refine W.widen (k := 0) (n := 0) (Nat.le_of_ble_eq_true rfl) (Nat.le_of_ble_eq_true rfl) ?_
    have hm : mm D (AZ z) M H := hm
    refine lv_astore_n (lv' := [(1, .ref (mt d)), (0, .ref x)]) hx hb dX3_pushMark_8 rfl hl (by decide) rfl (fun ls hl => ?_)
    refine lv_aload_n hx hb dX3_pushMark_9 rfl (lv_at hl 0 rfl) ?_
    refine lv_ifnonnull (tgt := 15) hx hb dX3_pushMark_10 (by decide) ?_
    refine lv_aload_n hx hb dX3_pushMark_15 rfl (lv_at hl 0 rfl) ?_
    refine lv_aload_n hx hb dX3_pushMark_16 rfl (lv_at hl 1 rfl) ?_
    refine m_get (T := TX3) (N := 7) (ci := 3) (v := .ref vw) hx hb hts wX3 hown hK hm hX rfl 1 (by decide) f37 (fun _ h9 => h9) rfl dX3_pushMark_17 ?_
    refine m_kV (As := [.ref vw]) (rest := []) (rm := { frames := 1, cells := 0, slots := 0, locals := 24 }) ⟨hx, hb, hml, hown, hts⟩ (c_X4_copyFrom l D k z _ (mt d) (mn d) vw vn (mg d) gv (ML d) Lv (hn1 d hc9) (hn2 d hc9) hT9 hV) (cwV 1 hts gX3_pushMark_X4_copyFrom rfl rfl rfl (by decide +kernel) ⟨Nat.le_of_ble_eq_true rfl, Nat.le_of_ble_eq_true rfl⟩) (m_recv hK hm (q := (RX4, TX4, 2)) rfl hT9.1) hz hcx hm hS rfl hl.1 rfl (Nat.le_of_ble_eq_true rfl) dX3_pushMark_20 ⟨Nat.le_of_ble_eq_true rfl, Nat.le_of_ble_eq_true rfl⟩ (fun v M1 H locs hv hm hS => ?_)
    obtain ⟨rfl, hM1⟩ := hv
    rw [hM1] at hm
    have hX1 : (copyM k M (mt d) (mn d) (mg d) gv Lv.length) x = _ := obj_copy (by decide) hT9 hX
    refine W.eq (g2 := F0 m 23 ls []) rfl ?_
    refine W.widen (k := 0) (n := 0) (Nat.le_of_ble_eq_true rfl) (Nat.le_of_ble_eq_true rfl) ?_
    have hm : mm D (AZ z) (copyM k M (mt d) (mn d) (mg d) gv Lv.length) H := hm
    refine lv_aload_n hx hb dX3_pushMark_23 rfl (lv_at hl 1 rfl) ?_
    refine lv_dup hx hb dX3_pushMark_24 rfl ?_
    refine m_get (T := TX3) (N := 7) (ci := 3) (v := .int (nI d)) hx hb hts wX3 hown hK hm hX1 rfl 6 (by decide) f33 (fun _ h9 => h9) rfl dX3_pushMark_25 ?_
    refine lv_iconst (v := 1) hx hb dX3_pushMark_28 (by decide) ?_
    refine lv_iadd hx hb dX3_pushMark_29 ?_
    refine m_put (T := TX3) (N := 7) (ci := 3) (v := .int ((nI d) + 1)) (ty := .int) hx hb hts wX3 tyX3 tyX3_ok nmX3 hown hK hm hS hX1 rfl 6 (by decide) f33 (fun _ h9 => h9) rfl (by decide +kernel) rfl rfl (Nat.le_of_ble_eq_true rfl) dX3_pushMark_30 (fun H locs hm hS => ?_)
    have hm : mm D (AZ z) (mu (copyM k M (mt d) (mn d) (mg d) gv Lv.length) x (.inr (3, [.ref bs, .ref vw, .ref mk, .ref cr, .ref fr, .int op, .int ((nI d) + 1)]))) H := hm
    refine lv_iconst (v := 1) hx hb dX3_pushMark_33 (by decide) ?_
    refine W.zret hx hb hr rfl (fun t ht hW => ⟨⟨some (.int 1), _, rfl, ?_, by rw [ht]; exact hm⟩, hS.F ht⟩) hS.2.2 dX3_pushMark_34
    exact Or.inl ⟨hc9, rfl, by rw [nI_1]⟩
  · have hat := atA_3n (gm := gm) (show 3 ≤ d by omega) (by omega)
    refine lv_aload_n hx hb dX3_pushMark_0 rfl (lv_at hl 0 rfl) ?_
    refine lv_aload_n hx hb dX3_pushMark_1 rfl (lv_at hl 0 rfl) ?_
    refine m_get (T := TX3) (N := 7) (ci := 3) (v := .int (nI d)) hx hb hts wX3 hown hK hm hX rfl 6 (by decide) f33 (fun _ h9 => h9) rfl dX3_pushMark_2 ?_
    refine m_kV (As := [.int (nI d)]) (rest := []) (rm := { frames := 0, cells := 0, slots := 0, locals := 0 }) ⟨hx, hb, hml, hown, hts⟩ (c_X3_markAt l D k z _ x bs vw mk cr fr gm op (nI d) (nI d) hX hMk) (cwV 1 hts gX3_pushMark_X3_markAt rfl rfl rfl (by decide +kernel) ⟨Nat.le_of_ble_eq_true rfl, Nat.le_of_ble_eq_true rfl⟩) (m_recv hK hm (q := (RX3, TX3, 7)) rfl hX) hz hcx hm hS rfl hl.1 rfl (Nat.le_of_ble_eq_true rfl) dX3_pushMark_5 ⟨Nat.le_of_ble_eq_true rfl, Nat.le_of_ble_eq_true rfl⟩ (fun v M1 H locs hv hm hS => ?_)
    obtain ⟨hv1, hM1⟩ := hv
    rw [hat] at hv1
    subst hv1
    rw [hM1] at hm
    refine W.eq (g2 := F0 m 8 ls [.null]) rfl ?_
    refine W.widen (k := 0) (n := 0) (Nat.le_of_ble_eq_true rfl) (Nat.le_of_ble_eq_true rfl) ?_
    have hm : mm D (AZ z) M H := hm
    refine lv_astore_nN (lv' := [(1, .null), (0, .ref x)]) hx hb dX3_pushMark_8 rfl hl (by decide) rfl (fun ls hl => ?_)
    refine lv_aload_nN hx hb dX3_pushMark_9 rfl (lv_at hl 0 rfl) ?_
    refine lv_ifnonnullN hx hb dX3_pushMark_10 ?_
    refine lv_iconst (v := 0) hx hb dX3_pushMark_13 (by decide) ?_
    refine W.zret hx hb hr rfl (fun t ht hW => ⟨⟨some (.int 0), _, rfl, ?_, by rw [ht]; exact hm⟩, hS.F ht⟩) hS.2.2 dX3_pushMark_14
    exact Or.inr ⟨by omega, rfl, rfl⟩

set_option maxHeartbeats 4000000 in
set_option maxRecDepth 100000 in
theorem c_X3_popMark (l : Launch) (D : va_G) (k : Nat → ClassId) (z : Nat) (M : mM) (x bs vw mk cr fr vn d : Nat) (gm gv : Nat → Option Nat) (Lv : List NV) (op : Int32) (hd : d ≤ 3) (mt mn : Nat → Nat) (mg : Nat → Nat → Option Nat) (ML : Nat → List NV) (hX : M x = some (.inr (3, [.ref bs, .ref vw, .ref mk, .ref cr, .ref fr, .int op, .int (nI d)]))) (hMk : M mk = some (.inl (k 5, 3, .inr (.inr (.inr (.inr gm)))))) (hGm : ∀ i, i < 3 → gm i = some (mt i)) (hMt : ∀ i, i < 3 → treeAt k M (mt i) (mn i) (mg i) (ML i)) (hV : treeAt k M vw vn gv Lv) (hn1 : ∀ i, i < 3 → vw ≠ mt i) (hn2 : ∀ i, i < 3 → vn ≠ mn i) : mK l yX3_popMark wsX3_popMark ({ frames := 2, cells := 0, slots := 0, locals := 50 }) D k z [.ref x] M (fun v M' => (0 < d ∧ v = some (.int 1) ∧ M' = mu (copyM k M vw vn gv (mg (d - 1)) (ML (d - 1)).length) x (.inr (3, [.ref bs, .ref vw, .ref mk, .ref cr, .ref fr, .int op, .int (nI (d - 1))]))) ∨ (d = 0 ∧ v = some (.int 0) ∧ M' = M)) := by
  refine Met.ofW (cc := cX3_popMark) (maxL := 2) (ret := (some .boolean)) (by decide) rfl ?_
  intro p e s m args below meth c s₁ B hml hv
  obtain ⟨rfl, hz, hcx, hm⟩ := hv
  have hx := B.exec
  have hb := B.bytes
  have hr := B.returns
  have hts := atoms_spec (ws := wsX3_popMark) B.pre
  have hown : s.vm.findClass RX3 = some m.cls := findClass_of_methodNamed B.named
  have hlocks := B.notSynchronized
  have hK := hcx.1
  have hS : va_S (AZ z) s.heap s.heap [] := va_S.rf
  have hA : ∀ q, s.heap.size ≤ q → AZ z q := fun q h => Nat.le_trans hz h
  have hl := lv_entry ([.ref x]) (n := 2) (Nat.le_of_ble_eq_true rfl)
  rw [lg_entry_eq]
  generalize (lg_sl ([.ref x]) ++ List.replicate (2 - (lg_sl ([.ref x])).length) Slot.unset).toArray = ls at hl ⊢
  have hl : lv_has ls 2 [(0, .ref x)] := hl
  have f33 := hts (.fieldLink RX3 33 "CommitTree$Transaction" "marked" "I") (by decide +kernel)
  have f37 := hts (.fieldLink RX3 37 "CommitTree$Transaction" "view" "LCommitTree$Tree;") (by decide +kernel)
  have wX3 : ∀ w ∈ wsX30, w ∈ wsX3_popMark := by decide +kernel
  by_cases hc9 : 0 < d
  · have hd1 : d - 1 < 3 := by omega
    have hs1 : nI d - 1 = nI (d - 1) := pk_sub (b := 1) hc9
    have hT9 := hMt (d - 1) hd1
    have hat : atA gm 3 (nI d - 1) = some (mt (d - 1)) := by rw [hs1]; exact atA_3 hd1 (hGm (d - 1) hd1)
    refine lv_aload_n hx hb dX3_popMark_0 rfl (lv_at hl 0 rfl) ?_
    refine lv_aload_n hx hb dX3_popMark_1 rfl (lv_at hl 0 rfl) ?_
    refine m_get (T := TX3) (N := 7) (ci := 3) (v := .int (nI d)) hx hb hts wX3 hown hK hm hX rfl 6 (by decide) f33 (fun _ h9 => h9) rfl dX3_popMark_2 ?_
    refine lv_iconst (v := 1) hx hb dX3_popMark_5 (by decide) ?_
    refine lv_isub hx hb dX3_popMark_6 ?_
    refine m_kV (As := [.int ((nI d) - 1)]) (rest := []) (rm := { frames := 0, cells := 0, slots := 0, locals := 0 }) ⟨hx, hb, hml, hown, hts⟩ (c_X3_markAt l D k z _ x bs vw mk cr fr gm op (nI d) (nI d - 1) hX hMk) (cwV 1 hts gX3_popMark_X3_markAt rfl rfl rfl (by decide +kernel) ⟨Nat.le_of_ble_eq_true rfl, Nat.le_of_ble_eq_true rfl⟩) (m_recv hK hm (q := (RX3, TX3, 7)) rfl hX) hz hcx hm hS rfl hl.1 rfl (Nat.le_of_ble_eq_true rfl) dX3_popMark_7 ⟨Nat.le_of_ble_eq_true rfl, Nat.le_of_ble_eq_true rfl⟩ (fun v M1 H locs hv hm hS => ?_)
    obtain ⟨hv1, hM1⟩ := hv
    rw [hat] at hv1
    subst hv1
    rw [hM1] at hm
    refine W.eq (g2 := F0 m 10 ls [.ref (mt (d - 1))]) rfl ?_
    refine W.widen (k := 0) (n := 0) (Nat.le_of_ble_eq_true rfl) (Nat.le_of_ble_eq_true rfl) ?_
    have hm : mm D (AZ z) M H := hm
    refine lv_astore_n (lv' := [(1, .ref (mt (d - 1))), (0, .ref x)]) hx hb dX3_popMark_10 rfl hl (by decide) rfl (fun ls hl => ?_)
    refine lv_aload_n hx hb dX3_popMark_11 rfl (lv_at hl 0 rfl) ?_
    refine lv_ifnonnull (tgt := 17) hx hb dX3_popMark_12 (by decide) ?_
    refine lv_aload_n hx hb dX3_popMark_17 rfl (lv_at hl 1 rfl) ?_
    refine m_get (T := TX3) (N := 7) (ci := 3) (v := .ref vw) hx hb hts wX3 hown hK hm hX rfl 1 (by decide) f37 (fun _ h9 => h9) rfl dX3_popMark_18 ?_
    refine lv_aload_n hx hb dX3_popMark_21 rfl (lv_at hl 0 rfl) ?_
    refine m_kV (As := [.ref (mt (d - 1))]) (rest := []) (rm := { frames := 1, cells := 0, slots := 0, locals := 24 }) ⟨hx, hb, hml, hown, hts⟩ (c_X4_copyFrom l D k z _ vw vn (mt (d - 1)) (mn (d - 1)) gv (mg (d - 1)) Lv (ML (d - 1)) (hn1 _ hd1).symm (hn2 _ hd1).symm hV hT9) (cwV 1 hts gX3_popMark_X4_copyFrom rfl rfl rfl (by decide +kernel) ⟨Nat.le_of_ble_eq_true rfl, Nat.le_of_ble_eq_true rfl⟩) (m_recv hK hm (q := (RX4, TX4, 2)) rfl hV.1) hz hcx hm hS rfl hl.1 rfl (Nat.le_of_ble_eq_true rfl) dX3_popMark_22 ⟨Nat.le_of_ble_eq_true rfl, Nat.le_of_ble_eq_true rfl⟩ (fun v M1 H locs hv hm hS => ?_)
    obtain ⟨rfl, hM1⟩ := hv
    rw [hM1] at hm
    have hX1 : (copyM k M vw vn gv (mg (d - 1)) (ML (d - 1)).length) x = _ := obj_copy (by decide) hV hX
    refine W.eq (g2 := F0 m 25 ls []) rfl ?_
    refine W.widen (k := 0) (n := 0) (Nat.le_of_ble_eq_true rfl) (Nat.le_of_ble_eq_true rfl) ?_
    have hm : mm D (AZ z) (copyM k M vw vn gv (mg (d - 1)) (ML (d - 1)).length) H := hm
    refine lv_aload_n hx hb dX3_popMark_25 rfl (lv_at hl 1 rfl) ?_
    refine lv_dup hx hb dX3_popMark_26 rfl ?_
    refine m_get (T := TX3) (N := 7) (ci := 3) (v := .int (nI d)) hx hb hts wX3 hown hK hm hX1 rfl 6 (by decide) f33 (fun _ h9 => h9) rfl dX3_popMark_27 ?_
    refine lv_iconst (v := 1) hx hb dX3_popMark_30 (by decide) ?_
    refine lv_isub hx hb dX3_popMark_31 ?_
    refine m_put (T := TX3) (N := 7) (ci := 3) (v := .int ((nI d) - 1)) (ty := .int) hx hb hts wX3 tyX3 tyX3_ok nmX3 hown hK hm hS hX1 rfl 6 (by decide) f33 (fun _ h9 => h9) rfl (by decide +kernel) rfl rfl (Nat.le_of_ble_eq_true rfl) dX3_popMark_32 (fun H locs hm hS => ?_)
    have hm : mm D (AZ z) (mu (copyM k M vw vn gv (mg (d - 1)) (ML (d - 1)).length) x (.inr (3, [.ref bs, .ref vw, .ref mk, .ref cr, .ref fr, .int op, .int ((nI d) - 1)]))) H := hm
    refine lv_iconst (v := 1) hx hb dX3_popMark_35 (by decide) ?_
    refine W.zret hx hb hr rfl (fun t ht hW => ⟨⟨some (.int 1), _, rfl, ?_, by rw [ht]; exact hm⟩, hS.F ht⟩) hS.2.2 dX3_popMark_36
    exact Or.inl ⟨hc9, rfl, by rw [hs1]⟩
  · have hd0 : d = 0 := by omega
    have hat : atA gm 3 (nI d - 1) = none := by subst hd0; rfl
    refine lv_aload_n hx hb dX3_popMark_0 rfl (lv_at hl 0 rfl) ?_
    refine lv_aload_n hx hb dX3_popMark_1 rfl (lv_at hl 0 rfl) ?_
    refine m_get (T := TX3) (N := 7) (ci := 3) (v := .int (nI d)) hx hb hts wX3 hown hK hm hX rfl 6 (by decide) f33 (fun _ h9 => h9) rfl dX3_popMark_2 ?_
    refine lv_iconst (v := 1) hx hb dX3_popMark_5 (by decide) ?_
    refine lv_isub hx hb dX3_popMark_6 ?_
    refine m_kV (As := [.int ((nI d) - 1)]) (rest := []) (rm := { frames := 0, cells := 0, slots := 0, locals := 0 }) ⟨hx, hb, hml, hown, hts⟩ (c_X3_markAt l D k z _ x bs vw mk cr fr gm op (nI d) (nI d - 1) hX hMk) (cwV 1 hts gX3_popMark_X3_markAt rfl rfl rfl (by decide +kernel) ⟨Nat.le_of_ble_eq_true rfl, Nat.le_of_ble_eq_true rfl⟩) (m_recv hK hm (q := (RX3, TX3, 7)) rfl hX) hz hcx hm hS rfl hl.1 rfl (Nat.le_of_ble_eq_true rfl) dX3_popMark_7 ⟨Nat.le_of_ble_eq_true rfl, Nat.le_of_ble_eq_true rfl⟩ (fun v M1 H locs hv hm hS => ?_)
    obtain ⟨hv1, hM1⟩ := hv
    rw [hat] at hv1
    subst hv1
    rw [hM1] at hm
    refine W.eq (g2 := F0 m 10 ls [.null]) rfl ?_
    refine W.widen (k := 0) (n := 0) (Nat.le_of_ble_eq_true rfl) (Nat.le_of_ble_eq_true rfl) ?_
    have hm : mm D (AZ z) M H := hm
    refine lv_astore_nN (lv' := [(1, .null), (0, .ref x)]) hx hb dX3_popMark_10 rfl hl (by decide) rfl (fun ls hl => ?_)
    refine lv_aload_nN hx hb dX3_popMark_11 rfl (lv_at hl 0 rfl) ?_
    refine lv_ifnonnullN hx hb dX3_popMark_12 ?_
    refine lv_iconst (v := 0) hx hb dX3_popMark_15 (by decide) ?_
    refine W.zret hx hb hr rfl (fun t ht hW => ⟨⟨some (.int 0), _, rfl, ?_, by rw [ht]; exact hm⟩, hS.F ht⟩) hS.2.2 dX3_popMark_16
    exact Or.inr ⟨hd0, rfl, rfl⟩
