/-! THE LAW, from its entry. -/
theorem txF_le {k : Nat → ClassId} {M M' : mM} {tr tn a : Nat} (hk : kpx (fun _ => False) M M') (h : txF k M tr tn a) : txF k M' tr tn a := by
  obtain ⟨b, v, mk, c, r, bn, vn, h1, h2, h3, h4, h5, h6⟩ := h
  exact ⟨b, v, mk, c, r, bn, vn, hk _ _ id h1, treeAt_le hk h2, treeAt_le hk h3, hk _ _ id h4, hk _ _ id h5, h6⟩
theorem txO_le {k : Nat → ClassId} {M M' : mM} {tr a : Nat} (hk : kpx (fun _ => False) M M') (h : txO k M tr a) : txO k M' tr a := by
  obtain ⟨b, mk, c, r, bn, h1, h2, h4, h5, h6⟩ := h
  exact ⟨b, mk, c, r, bn, hk _ _ id h1, treeAt_le hk h2, hk _ _ id h4, hk _ _ id h5, h6⟩
theorem cFr_le {k : Nat → ClassId} {M M' : mM} {o : Nat} (hk : kpx (fun _ => False) M M') (h : cFr k M o) : cFr k M' o := by
  obtain ⟨tr, nx, mg, dk, ts, ou, tn, g0, gt, hO, hT, hD, hTs, hXt, hOu⟩ := h
  exact ⟨tr, nx, mg, dk, ts, ou, tn, g0, gt, hk _ _ id hO, treeAt_le hk hT, hk _ _ id hD, hk _ _ id hTs, fun j hj => by obtain ⟨a, h1, h2⟩ := hXt j hj; exact ⟨a, h1, txF_le hk h2⟩, txO_le hk hOu⟩
theorem mFr_le {k : Nat → ClassId} {M M' : mM} {mo : Nat} {c : Int32} (hk : kpx (fun _ => False) M M') (h : mFr k M mo c) : mFr k M' mo c := mFr_k2 (fun a e _ hM => hk a e id hM) h

set_option maxHeartbeats 4000000 in
set_option maxRecDepth 100000 in
theorem whole_start {p : Program} {e : Env} {s : State} {m : MethodId} {below : List Frame} {meth : Method} {c : Code} (l : Launch) (hlt : l.stackTraces = false) {b L : Nat} {xs : Nat → Int32} (hL : L ≤ 5) (C0 : lw_At p s m meth c b L xs) : W p l e room_1 s m #[Value.ref b] below meth c s.heap [] 0 0 (lw_Z below #[Value.ref b] s) (entryFrame m ([Value.ref b] : List Value).toArray 7) := by
  obtain ⟨D, k, hcxN⟩ := cxN_start C0
  obtain ⟨z, hzE⟩ : ∃ z, z = s.heap.size := ⟨_, rfl⟩
  rw [← hzE] at hcxN
  have hz : z ≤ s.heap.size := Nat.le_of_eq hzE
  have hz2 : s.heap.size ≤ z := Nat.le_of_eq hzE.symm
  obtain ⟨hx, hb, hr, hml, hown, hts0, hX, hbl, hlocks, hgv⟩ := id C0
  have hts : ∀ w ∈ wsL_law, w.before #[Value.ref b] s = true := fun w h => hts0 w (wl_in w h)
  have hcx := hcxN.1
  have hK := hcx.1
  have hA : ∀ q, s.heap.size ≤ q → AZ z q := fun q h => Nat.le_trans hz h
  have hbA : ¬ AZ z b := fun h => absurd (Nat.le_trans hz2 h) (Nat.not_le.mpr hbl)
  obtain ⟨M, hM00⟩ : ∃ M : mM, M = fun _ => none := ⟨_, rfl⟩
  have hm : mm D (AZ z) M s.heap := by rw [hM00]; exact mm.nil
  have hS : va_S (AZ z) s.heap s.heap [] := va_S.rf
  have hl := lv_entry ([.ref b]) (n := 7) (Nat.le_of_ble_eq_true rfl)
  rw [lg_entry_eq]
  generalize (lg_sl ([.ref b]) ++ List.replicate (7 - (lg_sl ([.ref b])).length) Slot.unset).toArray = ls at hl ⊢
  have hl : lv_has ls 7 [(0, .ref b)] := hl
  have wX5 := inlX5
  have wX6 := inlX6
  refine m_new (T := TX5) (N := 11) (ci := 5) (fs := [.null, .null, .null, .null, .null, .null, .int 0, .int 0, .int 0, .int 0, .int 0]) hx hb hts wX5 tyX5 tyX5_ok hown (hts (.classLink RL 8 RX5) (by decide +kernel)) (hts (.instantiable RX5 11) (by decide +kernel)) (hts (.initialized RX5) (by decide +kernel)) hK hm hS hA rfl (fun j hj => by rcases (show j = 0 ∨ j = 1 ∨ j = 2 ∨ j = 3 ∨ j = 4 ∨ j = 5 ∨ j = 6 ∨ j = 7 ∨ j = 8 ∨ j = 9 ∨ j = 10 by omega) with rfl | rfl | rfl | rfl | rfl | rfl | rfl | rfl | rfl | rfl | rfl <;> rfl) (Nat.le_of_ble_eq_true rfl) (Nat.le_of_ble_eq_true rfl) dL_law_0 (fun o H ho hm hS => ?_)
  refine W.widen (k := 1) (n := 11) (Nat.le_of_ble_eq_true rfl) (Nat.le_of_ble_eq_true rfl) ?_
  have hm : mm D (AZ z) (mu M o (.inr (5, [.null, .null, .null, .null, .null, .null, .int 0, .int 0, .int 0, .int 0, .int 0]))) H := hm
  refine lv_dup hx hb dL_law_3 rfl ?_
  refine m_kI (As := []) (rest := [.ref o]) (rm := { frames := 4, cells := 120, slots := 4000, locals := 120 }) ⟨hx, hb, hml, hown, hts⟩ (c_X5_init l D k z _ o (mu_self _ _ _)) (cwI 0 hts gL_law_X5_init rfl rfl rfl (hts (.initialized RX5) (by decide +kernel)) (hts (.methodLink RL 88 yX5_init) (by decide +kernel)) (hts (.instanceMethod yX5_init) (by decide +kernel)) rfl (by decide +kernel) ⟨Nat.le_of_ble_eq_true rfl, Nat.le_of_ble_eq_true rfl⟩) hz hcx hm hS rfl hl.1 rfl (Nat.le_of_ble_eq_true rfl) dL_law_4 ⟨Nat.le_of_ble_eq_true rfl, Nat.le_of_ble_eq_true rfl⟩ (fun v M1 H locs hv hm hS => ?_)
  obtain ⟨hv1, hk9, hF⟩ := hv
  subst hv1
  obtain ⟨Mc1, hMx⟩ : ∃ x : mM, x = M1 := ⟨M1, rfl⟩
  subst hMx
  refine W.eq (g2 := F0 m 7 ls [.ref o]) rfl ?_
  refine W.widen (k := 121) (n := 4011) (Nat.le_of_ble_eq_true rfl) (Nat.le_of_ble_eq_true rfl) ?_
  have hm : mm D (AZ z) Mc1 H := hm
  refine lv_astore_n (lv' := [(1, .ref o), (0, .ref b)]) hx hb dL_law_7 rfl hl (by decide) rfl (fun ls hl => ?_)
  refine m_new (T := TX6) (N := 24) (ci := 6) (fs := [.int 0, .null, .null, .null, .null, .null, .null, .int 0, .null, .null, .null, .int 0, .int 0, .int 0, .int 0, .int 0, .null, .null, .null, .null, .null, .null, .int 0, .int 0]) hx hb hts wX6 tyX6 tyX6_ok hown (hts (.classLink RL 89 RX6) (by decide +kernel)) (hts (.instantiable RX6 24) (by decide +kernel)) (hts (.initialized RX6) (by decide +kernel)) hK hm hS hA rfl (fun j hj => by rcases (show j = 0 ∨ j = 1 ∨ j = 2 ∨ j = 3 ∨ j = 4 ∨ j = 5 ∨ j = 6 ∨ j = 7 ∨ j = 8 ∨ j = 9 ∨ j = 10 ∨ j = 11 ∨ j = 12 ∨ j = 13 ∨ j = 14 ∨ j = 15 ∨ j = 16 ∨ j = 17 ∨ j = 18 ∨ j = 19 ∨ j = 20 ∨ j = 21 ∨ j = 22 ∨ j = 23 by omega) with rfl | rfl | rfl | rfl | rfl | rfl | rfl | rfl | rfl | rfl | rfl | rfl | rfl | rfl | rfl | rfl | rfl | rfl | rfl | rfl | rfl | rfl | rfl | rfl <;> rfl) (Nat.le_of_ble_eq_true rfl) (Nat.le_of_ble_eq_true rfl) dL_law_8 (fun mo H hmo hm hS => ?_)
  refine W.widen (k := 122) (n := 4035) (Nat.le_of_ble_eq_true rfl) (Nat.le_of_ble_eq_true rfl) ?_
  have hm : mm D (AZ z) (mu Mc1 mo (.inr (6, [.int 0, .null, .null, .null, .null, .null, .null, .int 0, .null, .null, .null, .int 0, .int 0, .int 0, .int 0, .int 0, .null, .null, .null, .null, .null, .null, .int 0, .int 0]))) H := hm
  refine lv_dup hx hb dL_law_11 rfl ?_
  refine m_kI (As := []) (rest := [.ref mo]) (rm := { frames := 1, cells := 15, slots := 400000, locals := 12 }) ⟨hx, hb, hml, hown, hts⟩ (c_X6_init l D k z _ mo (mu_self _ _ _)) (cwI 0 hts gL_law_X6_init rfl rfl rfl (hts (.initialized RX6) (by decide +kernel)) (hts (.methodLink RL 91 yX6_init) (by decide +kernel)) (hts (.instanceMethod yX6_init) (by decide +kernel)) rfl (by decide +kernel) ⟨Nat.le_of_ble_eq_true rfl, Nat.le_of_ble_eq_true rfl⟩) hz hcx hm hS rfl hl.1 rfl (Nat.le_of_ble_eq_true rfl) dL_law_12 ⟨Nat.le_of_ble_eq_true rfl, Nat.le_of_ble_eq_true rfl⟩ (fun v M1 H locs hv hm hS => ?_)
  obtain ⟨hv1, hk9, hMo⟩ := hv
  subst hv1
  have hF := cFr_le (kpx.made hmo hk9) hF
  obtain ⟨Mc2, hMx⟩ : ∃ x : mM, x = M1 := ⟨M1, rfl⟩
  subst hMx
  refine W.eq (g2 := F0 m 15 ls [.ref mo]) rfl ?_
  refine W.widen (k := 137) (n := 404035) (Nat.le_of_ble_eq_true rfl) (Nat.le_of_ble_eq_true rfl) ?_
  have hm : mm D (AZ z) Mc2 H := hm
  refine lv_astore_n (lv' := [(2, .ref mo), (1, .ref o), (0, .ref b)]) hx hb dL_law_15 rfl hl (by decide) rfl (fun ls hl => ?_)
  refine lv_iconst (v := 1) hx hb dL_law_16 (by decide) ?_
  refine m_newa (atype := .long) hx hb (hts (.arrayClass .long) (by decide +kernel)) (ty := .long) rfl (fun C h => by cases h) hK 1 rfl hm hS hA (N' := 1) (a0 := (1, .inr (.inl (fun _ => 0)))) (fun cA => vp_cell_l cA _ _) (by decide) rfl (by decide) (Nat.le_of_ble_eq_true rfl) (Nat.le_of_ble_eq_true rfl) dL_law_17 (fun oa H hoa hm hS => ?_)
  refine W.widen (k := 138) (n := 404036) (Nat.le_of_ble_eq_true rfl) (Nat.le_of_ble_eq_true rfl) ?_
  have hm : mm D (AZ z) (mu Mc2 oa (.inl (k 1, 1, .inr (.inl (fun _ => 0))))) H := hm
  have hF : cFr k (mu Mc2 oa (.inl (k 1, 1, .inr (.inl (fun _ => 0))))) o := cFr_le ((kpx.refl _ _).new hoa) hF
  have hMo : mFr k (mu Mc2 oa (.inl (k 1, 1, .inr (.inl (fun _ => 0))))) mo 0 := mFr_le ((kpx.refl _ _).new hoa) hMo
  have hoa : (mu Mc2 oa (.inl (k 1, 1, .inr (.inl (fun _ => 0))))) oa = some (.inl (k 1, 1, .inr (.inl (fun _ => 0)))) := mu_self _ _ _
  refine lv_astore_n (lv' := [(3, .ref oa), (2, .ref mo), (1, .ref o), (0, .ref b)]) hx hb dL_law_19 rfl hl (by decide) rfl (fun ls hl => ?_)
  refine lv_iconst (v := 0) hx hb dL_law_20 (by decide) ?_
  refine lv_istore (lv' := [(4, .int 0), (3, .ref oa), (2, .ref mo), (1, .ref o), (0, .ref b)]) hx hb dL_law_21 hl (by decide) rfl (fun ls hl => ?_)
  refine lv_iload hx hb dL_law_23 (lv_at hl 0 rfl) ?_
  refine lv_aload_n hx hb dL_law_25 rfl (lv_at hl 4 rfl) ?_
  refine va_slen hx hb hX hbl hbA hS dL_law_26 ?_
  refine lv_iconst (v := 5) hx hb dL_law_27 (by decide) ?_
  refine lv_isub hx hb dL_law_28 ?_
  refine lv_icmp_gt (tgt := 1440) hx hb dL_law_29 (by decide) (fun c4 => ?_) (fun c4 => ?_)
  · refine lv_iconst (v := 1) hx hb dL_law_1440 (by decide) ?_
    refine va_forget (fun q hq => Nat.le_trans hz2 (hS.2.2 q hq)) ?_
    refine W.widen (k := 600002) (n := 7302232) (by decide) (by decide) ?_
    exact lw_ret hx hb hr hlocks dL_law_1441
  · have hL5 : L = 5 := by
      rcases (show L = 0 ∨ L = 1 ∨ L = 2 ∨ L = 3 ∨ L = 4 ∨ L = 5 by omega) with rfl | rfl | rfl | rfl | rfl | rfl
      · exact absurd (by decide) c4
      · exact absurd (by decide) c4
      · exact absurd (by decide) c4
      · exact absurd (by decide) c4
      · exact absurd (by decide) c4
      · rfl
    subst hL5
    refine lv_aload_n hx hb dL_law_32 rfl (lv_at hl 4 rfl) ?_
    refine lv_iload hx hb dL_law_33 (lv_at hl 0 rfl) ?_
    refine va_sld hx hb hX hbl hbA hS (by unfold vp_in; decide) dL_law_35 ?_
    refine W.eq (g2 := F0 m 36 ls [.int (xs 0)]) rfl ?_
    refine lv_bipush (v := 31) hx hb dL_law_36 (by decide) ?_
    refine lv_iand hx hb dL_law_38 ?_
    rcases (show ((((xs 0) &&& 31)).toInt < 0 ∨ 19 < (((xs 0) &&& 31)).toInt) ∨ (((xs 0) &&& 31)).toInt = 0 ∨ (((xs 0) &&& 31)).toInt = 1 ∨ (((xs 0) &&& 31)).toInt = 2 ∨ (((xs 0) &&& 31)).toInt = 3 ∨ (((xs 0) &&& 31)).toInt = 4 ∨ (((xs 0) &&& 31)).toInt = 5 ∨ (((xs 0) &&& 31)).toInt = 6 ∨ (((xs 0) &&& 31)).toInt = 7 ∨ (((xs 0) &&& 31)).toInt = 8 ∨ (((xs 0) &&& 31)).toInt = 9 ∨ (((xs 0) &&& 31)).toInt = 10 ∨ (((xs 0) &&& 31)).toInt = 11 ∨ (((xs 0) &&& 31)).toInt = 12 ∨ (((xs 0) &&& 31)).toInt = 13 ∨ (((xs 0) &&& 31)).toInt = 14 ∨ (((xs 0) &&& 31)).toInt = 15 ∨ (((xs 0) &&& 31)).toInt = 16 ∨ (((xs 0) &&& 31)).toInt = 17 ∨ (((xs 0) &&& 31)).toInt = 18 ∨ (((xs 0) &&& 31)).toInt = 19 by omega) with c5 | c5 | c5 | c5 | c5 | c5 | c5 | c5 | c5 | c5 | c5 | c5 | c5 | c5 | c5 | c5 | c5 | c5 | c5 | c5 | c5
    · refine lv_tableOut (tgt := 1434) hx hb dL_law_39 c5 (by decide) ?_
      refine W.widen (k := 160) (n := 406000) (Nat.le_of_ble_eq_true rfl) (Nat.le_of_ble_eq_true rfl) ?_
      exact LC_end l hlt C0 D k z hz hz2 hcxN hS (lv_sub hl [0, 4] rfl)
    · refine lv_tableIn (off := 93) (tgt := 132) hx hb dL_law_39 (by omega) (by omega) (by rw [c5]; rfl) (by decide) ?_
      exact LC_begin l hlt C0 D k z hz hz2 hcxN o mo oa (fun _ => 0) _ hm hS hF hMo hoa (lv_sub hl [0, 1, 2, 3, 4] rfl)
    · refine lv_tableIn (off := 137) (tgt := 176) hx hb dL_law_39 (by omega) (by omega) (by rw [c5]; rfl) (by decide) ?_
      exact LC_drop l hlt C0 D k z hz hz2 hcxN o mo oa (fun _ => 0) _ hm hS hF hMo hoa (lv_sub hl [0, 1, 2, 3, 4] rfl)
    · refine lv_tableIn (off := 193) (tgt := 232) hx hb dL_law_39 (by omega) (by omega) (by rw [c5]; rfl) (by decide) ?_
      exact LC_commit l hlt C0 D k z hz hz2 hcxN o mo oa (fun _ => 0) _ hm hS hF hMo hoa (lv_sub hl [0, 1, 2, 3, 4] rfl)
    · refine lv_tableIn (off := 249) (tgt := 288) hx hb dL_law_39 (by omega) (by omega) (by rw [c5]; rfl) (by decide) ?_
      exact LC_check l hlt C0 D k z hz hz2 hcxN o mo oa (fun _ => 0) _ hm hS hF hMo hoa (lv_sub hl [0, 1, 2, 3, 4] rfl)
    · refine lv_tableIn (off := 305) (tgt := 344) hx hb dL_law_39 (by omega) (by omega) (by rw [c5]; rfl) (by decide) ?_
      exact LC_make l hlt C0 D k z hz hz2 hcxN o mo oa (fun _ => 0) _ hm hS hF hMo hoa (lv_sub hl [0, 1, 2, 3, 4] rfl)
    · refine lv_tableIn (off := 381) (tgt := 420) hx hb dL_law_39 (by omega) (by omega) (by rw [c5]; rfl) (by decide) ?_
      exact LC_remove l hlt C0 D k z hz hz2 hcxN o mo oa (fun _ => 0) _ hm hS hF hMo hoa (lv_sub hl [0, 1, 2, 3, 4] rfl)
    · refine lv_tableIn (off := 456) (tgt := 495) hx hb dL_law_39 (by omega) (by omega) (by rw [c5]; rfl) (by decide) ?_
      exact LC_move l hlt C0 D k z hz hz2 hcxN o mo oa (fun _ => 0) _ hm hS hF hMo hoa (lv_sub hl [0, 1, 2, 3, 4] rfl)
    · refine lv_tableIn (off := 543) (tgt := 582) hx hb dL_law_39 (by omega) (by omega) (by rw [c5]; rfl) (by decide) ?_
      exact LC_write l hlt C0 D k z hz hz2 hcxN o mo oa (fun _ => 0) _ hm hS hF hMo hoa (lv_sub hl [0, 1, 2, 3, 4] rfl)
    · refine lv_tableIn (off := 635) (tgt := 674) hx hb dL_law_39 (by omega) (by omega) (by rw [c5]; rfl) (by decide) ?_
      exact LC_append l hlt C0 D k z hz hz2 hcxN o mo oa (fun _ => 0) _ hm hS hF hMo hoa (lv_sub hl [0, 1, 2, 3, 4] rfl)
    · refine lv_tableIn (off := 715) (tgt := 754) hx hb dL_law_39 (by omega) (by omega) (by rw [c5]; rfl) (by decide) ?_
      exact LC_cut l hlt C0 D k z hz hz2 hcxN o mo oa (fun _ => 0) _ hm hS hF hMo hoa (lv_sub hl [0, 1, 2, 3, 4] rfl)
    · refine lv_tableIn (off := 795) (tgt := 834) hx hb dL_law_39 (by omega) (by omega) (by rw [c5]; rfl) (by decide) ?_
      exact LC_read l hlt C0 D k z hz hz2 hcxN o mo oa (fun _ => 0) _ hm hS hF hMo hoa (lv_sub hl [0, 1, 2, 3, 4] rfl)
    · refine lv_tableIn (off := 875) (tgt := 914) hx hb dL_law_39 (by omega) (by omega) (by rw [c5]; rfl) (by decide) ?_
      exact LC_length l hlt C0 D k z hz hz2 hcxN o mo oa (fun _ => 0) _ hm hS hF hMo hoa (lv_sub hl [0, 1, 2, 3, 4] rfl)
    · refine lv_tableIn (off := 943) (tgt := 982) hx hb dL_law_39 (by omega) (by omega) (by rw [c5]; rfl) (by decide) ?_
      exact LC_kind l hlt C0 D k z hz hz2 hcxN o mo oa (fun _ => 0) _ hm hS hF hMo hoa (lv_sub hl [0, 1, 2, 3, 4] rfl)
    · refine lv_tableIn (off := 1011) (tgt := 1050) hx hb dL_law_39 (by omega) (by omega) (by rw [c5]; rfl) (by decide) ?_
      exact LC_list l hlt C0 D k z hz hz2 hcxN o mo oa (fun _ => 0) _ hm hS hF hMo hoa (lv_sub hl [0, 1, 2, 3, 4] rfl)
    · refine lv_tableIn (off := 1079) (tgt := 1118) hx hb dL_law_39 (by omega) (by omega) (by rw [c5]; rfl) (by decide) ?_
      exact LC_mark l hlt C0 D k z hz hz2 hcxN o mo oa (fun _ => 0) _ hm hS hF hMo hoa (lv_sub hl [0, 1, 2, 3, 4] rfl)
    · refine lv_tableIn (off := 1135) (tgt := 1174) hx hb dL_law_39 (by omega) (by omega) (by rw [c5]; rfl) (by decide) ?_
      exact LC_back l hlt C0 D k z hz hz2 hcxN o mo oa (fun _ => 0) _ hm hS hF hMo hoa (lv_sub hl [0, 1, 2, 3, 4] rfl)
    · refine lv_tableIn (off := 1191) (tgt := 1230) hx hb dL_law_39 (by omega) (by omega) (by rw [c5]; rfl) (by decide) ?_
      exact LC_about l hlt C0 D k z hz hz2 hcxN o mo oa (fun _ => 0) _ hm hS hF hMo hoa (lv_sub hl [0, 1, 2, 3, 4] rfl)
    · refine lv_tableIn (off := 1259) (tgt := 1298) hx hb dL_law_39 (by omega) (by omega) (by rw [c5]; rfl) (by decide) ?_
      exact LC_power l hlt C0 D k z hz hz2 hcxN o mo oa (fun _ => 0) _ hm hS hF hMo hoa (lv_sub hl [0, 1, 2, 3, 4] rfl)
    · refine lv_tableIn (off := 1295) (tgt := 1334) hx hb dL_law_39 (by omega) (by omega) (by rw [c5]; rfl) (by decide) ?_
      exact LC_recover l hlt C0 D k z hz hz2 hcxN o mo oa (fun _ => 0) _ hm hS hF hMo hoa (lv_sub hl [0, 1, 2, 3, 4] rfl)
    · refine lv_tableIn (off := 1339) (tgt := 1378) hx hb dL_law_39 (by omega) (by omega) (by rw [c5]; rfl) (by decide) ?_
      exact LC_count l hlt C0 D k z hz hz2 hcxN o mo oa (fun _ => 0) _ hm hS hF hMo hoa (lv_sub hl [0, 1, 2, 3, 4] rfl)
