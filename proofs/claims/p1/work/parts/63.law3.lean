set_option maxHeartbeats 4000000 in
set_option maxRecDepth 100000 in
theorem LC_power {p : Program} {e : Env} {s : State} {m : MethodId} {below : List Frame} {meth : Method} {c : Code} (l : Launch) (hlt : l.stackTraces = false) {b : Nat} {xs : Nat → Int32} (C0 : lw_At p s m meth c b 5 xs) (D : va_G) (k : Nat → ClassId) (z : Nat) (hz : z ≤ s.heap.size) (hz2 : s.heap.size ≤ z) (hcxN : cxN D k (AZ z) s) (o mo oa : Nat) (g9 : Nat → Int64) (M : mM) {H : Heap} {locs : List Loc} {ls : Array Slot} (hm : mm D (AZ z) M H) (hS : va_S (AZ z) s.heap H locs) (hF : cFr k M o) (hMo : mFr k M mo 0) (hoa : M oa = some (.inl (k 1, 1, .inr (.inl g9)))) (hl : lv_has ls 7 [(4, .int 0), (3, .ref oa), (2, .ref mo), (1, .ref o), (0, .ref b)]) : W p l e room_1 s m #[Value.ref b] below meth c H locs 138 404036 (lw_Z below #[Value.ref b] s) (F0 m 1298 ls []) := by
  obtain ⟨hx, hb, hr, hml, hown, hts0, hX, hbl, hlocks, hgv⟩ := id C0
  have hts : ∀ w ∈ wsL_law, w.before #[Value.ref b] s = true := fun w h => hts0 w (wl_in w h)
  have hcx := hcxN.1
  have hK := hcx.1
  have hA : ∀ q, s.heap.size ≤ q → AZ z q := fun q h => Nat.le_trans hz h
  have hbA : ¬ AZ z b := fun h => absurd (Nat.le_trans hz2 h) (Nat.not_le.mpr hbl)
  refine lv_aload_n hx hb dL_law_1298 rfl (lv_at hl 3 rfl) ?_
  refine lv_aload_n hx hb dL_law_1299 rfl (lv_at hl 4 rfl) ?_
  refine lv_iload hx hb dL_law_1300 (lv_at hl 0 rfl) ?_
  refine lv_iconst (v := 1) hx hb dL_law_1302 (by decide) ?_
  refine lv_iadd hx hb dL_law_1303 ?_
  refine W.eq (g2 := F0 m 1304 ls [.int 1, .ref b, .ref o]) (by first | rfl | decide) ?_
  refine va_sld hx hb hX hbl hbA hS (by unfold vp_in; decide) dL_law_1304 ?_
  refine W.eq (g2 := F0 m 1305 ls [.int (xs 1), .ref o]) rfl ?_
  refine m_kSW (hh := [(0, 5, 8, 31)]) (As := [.ref o, .int (xs 1)]) (rest := []) (rm := { frames := 7, cells := 1, slots := 6, locals := 103 }) ⟨hx, hb, hml, hown, hts⟩ (H_power l hlt D k z _ o oa g9 hF hoa (xs 1)) (vx_cwSW 2 hts gL_law_L_power rfl rfl rfl (by decide +kernel) ⟨Nat.le_of_ble_eq_true rfl, Nat.le_of_ble_eq_true rfl⟩) hz hcxN hm hS rfl hl.1 rfl (Nat.le_of_ble_eq_true rfl) dL_law_1305 ⟨Nat.le_of_ble_eq_true rfl, Nat.le_of_ble_eq_true rfl⟩ (fun v M1 H locs hv hm hS => ?_)
  obtain ⟨Mc1, hMx⟩ : ∃ x : mM, x = M1 := ⟨M1, rfl⟩
  subst hMx
  obtain ⟨hv2, hk9⟩ := hv
  rcases hv2 with ⟨hc9, hv1⟩ | ⟨hc9, hv1⟩
  · subst hv1
    have hMo := mFr_k2 hk9 hMo
    refine W.eq (g2 := F0 m 1308 ls [.int 1]) rfl ?_
    refine W.widen (k := 139) (n := 404042) (Nat.le_of_ble_eq_true rfl) (Nat.le_of_ble_eq_true rfl) ?_
    refine lv_istore (lv' := [(5, .int 1), (4, .int 0), (3, .ref oa), (2, .ref mo), (1, .ref o), (0, .ref b)]) hx hb dL_law_1308 hl (by decide) rfl (fun ls hl => ?_)
    refine lv_aload_n hx hb dL_law_1310 rfl (lv_at hl 3 rfl) ?_
    refine lv_aload_n hx hb dL_law_1311 rfl (lv_at hl 5 rfl) ?_
    refine lv_iload hx hb dL_law_1312 (lv_at hl 1 rfl) ?_
    refine lv_iconst (v := 1) hx hb dL_law_1314 (by decide) ?_
    refine lv_iadd hx hb dL_law_1315 ?_
    refine W.eq (g2 := F0 m 1316 ls [.int 1, .ref b, .ref mo]) (by first | rfl | decide) ?_
    refine va_sld hx hb hX hbl hbA hS (by unfold vp_in; decide) dL_law_1316 ?_
    refine W.eq (g2 := F0 m 1317 ls [.int (xs 1), .ref mo]) rfl ?_
    obtain ⟨xcn, xia, xdr, xen, xla, xwo, xop, xmk, xir, xse, xec, xlc, xwc, xol, xal, -, hMob, -⟩ := id hMo
    refine m_kV (As := [.int (xs 1)]) (rest := []) (rm := { frames := 1, cells := 0, slots := 0, locals := 21 }) ⟨hx, hb, hml, hown, hts⟩ (c_X6_power l D k z _ mo (xs 1) hMo) (cwV 1 hts gL_law_X6_power rfl rfl rfl (by decide +kernel) ⟨Nat.le_of_ble_eq_true rfl, Nat.le_of_ble_eq_true rfl⟩) (m_recv hK hm (q := (RX6, TX6, 24)) rfl hMob) hz hcx hm hS rfl hl.1 rfl (Nat.le_of_ble_eq_true rfl) dL_law_1317 ⟨Nat.le_of_ble_eq_true rfl, Nat.le_of_ble_eq_true rfl⟩ (fun v M1 H locs hv hm hS => ?_)
    obtain ⟨hv1, hv3⟩ := hv
    subst hv1
    have hC9 : codeIs M1 mo 1 := by
      rcases hv3 with ⟨h, h3⟩ | ⟨h, h3⟩
      · exact h3
      · exact (hc9.elim (fun q => h.1 q) (fun q => q h.2)).elim
    obtain ⟨Mc2, hMx⟩ : ∃ x : mM, x = M1 := ⟨M1, rfl⟩
    subst hMx
    obtain ⟨fs9, hMc⟩ := hC9
    refine W.eq (g2 := F0 m 1320 ls []) rfl ?_
    refine W.widen (k := 139) (n := 404042) (Nat.le_of_ble_eq_true rfl) (Nat.le_of_ble_eq_true rfl) ?_
    refine lv_aload_n hx hb dL_law_1320 rfl (lv_at hl 3 rfl) ?_
    refine m_kV (As := []) (rest := []) (rm := { frames := 0, cells := 0, slots := 0, locals := 0 }) ⟨hx, hb, hml, hown, hts⟩ (c_X6_thrown l D k z _ mo 1 fs9 hMc) (cwV 0 hts gL_law_X6_thrown rfl rfl rfl (by decide +kernel) ⟨Nat.le_of_ble_eq_true rfl, Nat.le_of_ble_eq_true rfl⟩) (m_recv hK hm (q := (RX6, TX6, 24)) rfl hMc) hz hcx hm hS rfl hl.1 rfl (Nat.le_of_ble_eq_true rfl) dL_law_1321 ⟨Nat.le_of_ble_eq_true rfl, Nat.le_of_ble_eq_true rfl⟩ (fun v M1 H locs hv hm hS => ?_)
    obtain ⟨hv1, hM1⟩ := hv
    subst hv1
    rw [hM1] at hm
    refine W.eq (g2 := F0 m 1324 ls [.int 1]) rfl ?_
    refine W.widen (k := 139) (n := 404042) (Nat.le_of_ble_eq_true rfl) (Nat.le_of_ble_eq_true rfl) ?_
    refine lv_iload hx hb dL_law_1324 (lv_at hl 0 rfl) ?_
    refine lv_icmp_eq (tgt := 1331) hx hb dL_law_1326 (by decide) (fun c1 => ?_) (fun c1 => ?_)
    · refine lv_goto (tgt := 1434) hx hb dL_law_1331 (by decide) ?_
      refine W.widen (k := 160) (n := 406000) (Nat.le_of_ble_eq_true rfl) (Nat.le_of_ble_eq_true rfl) ?_
      exact LC_end l hlt C0 D k z hz hz2 hcxN hS (lv_sub hl [1, 5] rfl)
    · first | exact absurd c1 (by decide) | exact absurd (by decide) c1
  · subst hv1
    have hMo := mFr_k2 hk9 hMo
    refine W.eq (g2 := F0 m 1308 ls [.int 0]) rfl ?_
    refine W.widen (k := 139) (n := 404042) (Nat.le_of_ble_eq_true rfl) (Nat.le_of_ble_eq_true rfl) ?_
    refine lv_istore (lv' := [(5, .int 0), (4, .int 0), (3, .ref oa), (2, .ref mo), (1, .ref o), (0, .ref b)]) hx hb dL_law_1308 hl (by decide) rfl (fun ls hl => ?_)
    refine lv_aload_n hx hb dL_law_1310 rfl (lv_at hl 3 rfl) ?_
    refine lv_aload_n hx hb dL_law_1311 rfl (lv_at hl 5 rfl) ?_
    refine lv_iload hx hb dL_law_1312 (lv_at hl 1 rfl) ?_
    refine lv_iconst (v := 1) hx hb dL_law_1314 (by decide) ?_
    refine lv_iadd hx hb dL_law_1315 ?_
    refine W.eq (g2 := F0 m 1316 ls [.int 1, .ref b, .ref mo]) (by first | rfl | decide) ?_
    refine va_sld hx hb hX hbl hbA hS (by unfold vp_in; decide) dL_law_1316 ?_
    refine W.eq (g2 := F0 m 1317 ls [.int (xs 1), .ref mo]) rfl ?_
    obtain ⟨xcn, xia, xdr, xen, xla, xwo, xop, xmk, xir, xse, xec, xlc, xwc, xol, xal, -, hMob, -⟩ := id hMo
    refine m_kV (As := [.int (xs 1)]) (rest := []) (rm := { frames := 1, cells := 0, slots := 0, locals := 21 }) ⟨hx, hb, hml, hown, hts⟩ (c_X6_power l D k z _ mo (xs 1) hMo) (cwV 1 hts gL_law_X6_power rfl rfl rfl (by decide +kernel) ⟨Nat.le_of_ble_eq_true rfl, Nat.le_of_ble_eq_true rfl⟩) (m_recv hK hm (q := (RX6, TX6, 24)) rfl hMob) hz hcx hm hS rfl hl.1 rfl (Nat.le_of_ble_eq_true rfl) dL_law_1317 ⟨Nat.le_of_ble_eq_true rfl, Nat.le_of_ble_eq_true rfl⟩ (fun v M1 H locs hv hm hS => ?_)
    obtain ⟨hv1, hv3⟩ := hv
    subst hv1
    have hC9 : codeIs M1 mo 0 := by
      rcases hv3 with ⟨h, h3⟩ | ⟨h, h3⟩
      · exact (h.elim (fun q => hc9.1 q) (fun q => q hc9.2)).elim
      · exact h3
    obtain ⟨Mc3, hMx⟩ : ∃ x : mM, x = M1 := ⟨M1, rfl⟩
    subst hMx
    obtain ⟨fs9, hMc⟩ := hC9
    refine W.eq (g2 := F0 m 1320 ls []) rfl ?_
    refine W.widen (k := 139) (n := 404042) (Nat.le_of_ble_eq_true rfl) (Nat.le_of_ble_eq_true rfl) ?_
    refine lv_aload_n hx hb dL_law_1320 rfl (lv_at hl 3 rfl) ?_
    refine m_kV (As := []) (rest := []) (rm := { frames := 0, cells := 0, slots := 0, locals := 0 }) ⟨hx, hb, hml, hown, hts⟩ (c_X6_thrown l D k z _ mo 0 fs9 hMc) (cwV 0 hts gL_law_X6_thrown rfl rfl rfl (by decide +kernel) ⟨Nat.le_of_ble_eq_true rfl, Nat.le_of_ble_eq_true rfl⟩) (m_recv hK hm (q := (RX6, TX6, 24)) rfl hMc) hz hcx hm hS rfl hl.1 rfl (Nat.le_of_ble_eq_true rfl) dL_law_1321 ⟨Nat.le_of_ble_eq_true rfl, Nat.le_of_ble_eq_true rfl⟩ (fun v M1 H locs hv hm hS => ?_)
    obtain ⟨hv1, hM1⟩ := hv
    subst hv1
    rw [hM1] at hm
    refine W.eq (g2 := F0 m 1324 ls [.int 0]) rfl ?_
    refine W.widen (k := 139) (n := 404042) (Nat.le_of_ble_eq_true rfl) (Nat.le_of_ble_eq_true rfl) ?_
    refine lv_iload hx hb dL_law_1324 (lv_at hl 0 rfl) ?_
    refine lv_icmp_eq (tgt := 1331) hx hb dL_law_1326 (by decide) (fun c2 => ?_) (fun c2 => ?_)
    · refine lv_goto (tgt := 1434) hx hb dL_law_1331 (by decide) ?_
      refine W.widen (k := 160) (n := 406000) (Nat.le_of_ble_eq_true rfl) (Nat.le_of_ble_eq_true rfl) ?_
      exact LC_end l hlt C0 D k z hz hz2 hcxN hS (lv_sub hl [1, 5] rfl)
    · first | exact absurd c2 (by decide) | exact absurd (by decide) c2

set_option maxHeartbeats 4000000 in
set_option maxRecDepth 100000 in
theorem LC_recover {p : Program} {e : Env} {s : State} {m : MethodId} {below : List Frame} {meth : Method} {c : Code} (l : Launch) (hlt : l.stackTraces = false) {b : Nat} {xs : Nat → Int32} (C0 : lw_At p s m meth c b 5 xs) (D : va_G) (k : Nat → ClassId) (z : Nat) (hz : z ≤ s.heap.size) (hz2 : s.heap.size ≤ z) (hcxN : cxN D k (AZ z) s) (o mo oa : Nat) (g9 : Nat → Int64) (M : mM) {H : Heap} {locs : List Loc} {ls : Array Slot} (hm : mm D (AZ z) M H) (hS : va_S (AZ z) s.heap H locs) (hF : cFr k M o) (hMo : mFr k M mo 0) (hoa : M oa = some (.inl (k 1, 1, .inr (.inl g9)))) (hl : lv_has ls 7 [(4, .int 0), (3, .ref oa), (2, .ref mo), (1, .ref o), (0, .ref b)]) : W p l e room_1 s m #[Value.ref b] below meth c H locs 138 404036 (lw_Z below #[Value.ref b] s) (F0 m 1334 ls []) := by
  obtain ⟨hx, hb, hr, hml, hown, hts0, hX, hbl, hlocks, hgv⟩ := id C0
  have hts : ∀ w ∈ wsL_law, w.before #[Value.ref b] s = true := fun w h => hts0 w (wl_in w h)
  have hcx := hcxN.1
  have hK := hcx.1
  have hA : ∀ q, s.heap.size ≤ q → AZ z q := fun q h => Nat.le_trans hz h
  have hbA : ¬ AZ z b := fun h => absurd (Nat.le_trans hz2 h) (Nat.not_le.mpr hbl)
  refine lv_aload_n hx hb dL_law_1334 rfl (lv_at hl 3 rfl) ?_
  refine lv_aload_n hx hb dL_law_1335 rfl (lv_at hl 1 rfl) ?_
  refine m_kSW (hh := [(0, 8, 11, 13)]) (As := [.ref o, .ref oa]) (rest := []) (rm := { frames := 7, cells := 1, slots := 6, locals := 102 }) ⟨hx, hb, hml, hown, hts⟩ (H_recover l hlt D k z _ o oa g9 hF hoa ) (vx_cwSW 2 hts gL_law_L_recover rfl rfl rfl (by decide +kernel) ⟨Nat.le_of_ble_eq_true rfl, Nat.le_of_ble_eq_true rfl⟩) hz hcxN hm hS rfl hl.1 rfl (Nat.le_of_ble_eq_true rfl) dL_law_1336 ⟨Nat.le_of_ble_eq_true rfl, Nat.le_of_ble_eq_true rfl⟩ (fun v M1 H locs hv hm hS => ?_)
  obtain ⟨Mc1, hMx⟩ : ∃ x : mM, x = M1 := ⟨M1, rfl⟩
  subst hMx
  obtain ⟨hv1, hk9⟩ := hv
  subst hv1
  have hMo := mFr_k2 hk9 hMo
  refine W.eq (g2 := F0 m 1339 ls [.int 1]) rfl ?_
  refine W.widen (k := 139) (n := 404042) (Nat.le_of_ble_eq_true rfl) (Nat.le_of_ble_eq_true rfl) ?_
  refine lv_istore (lv' := [(5, .int 1), (4, .int 0), (3, .ref oa), (2, .ref mo), (1, .ref o), (0, .ref b)]) hx hb dL_law_1339 hl (by decide) rfl (fun ls hl => ?_)
  refine lv_aload_n hx hb dL_law_1341 rfl (lv_at hl 3 rfl) ?_
  obtain ⟨xcn, xia, xdr, xen, xla, xwo, xop, xmk, xir, xse, xec, xlc, xwc, xol, xal, -, hMob, -⟩ := id hMo
  refine m_kV (As := []) (rest := []) (rm := { frames := 1, cells := 0, slots := 0, locals := 21 }) ⟨hx, hb, hml, hown, hts⟩ (c_X6_recover l D k z _ mo hMo) (cwV 0 hts gL_law_X6_recover rfl rfl rfl (by decide +kernel) ⟨Nat.le_of_ble_eq_true rfl, Nat.le_of_ble_eq_true rfl⟩) (m_recv hK hm (q := (RX6, TX6, 24)) rfl hMob) hz hcx hm hS rfl hl.1 rfl (Nat.le_of_ble_eq_true rfl) dL_law_1342 ⟨Nat.le_of_ble_eq_true rfl, Nat.le_of_ble_eq_true rfl⟩ (fun v M1 H locs hv hm hS => ?_)
  obtain ⟨hv1, hC9⟩ := hv
  subst hv1
  obtain ⟨Mc2, hMx⟩ : ∃ x : mM, x = M1 := ⟨M1, rfl⟩
  subst hMx
  obtain ⟨fs9, hMc⟩ := hC9
  refine W.eq (g2 := F0 m 1345 ls [.int 0]) rfl ?_
  refine W.widen (k := 139) (n := 404042) (Nat.le_of_ble_eq_true rfl) (Nat.le_of_ble_eq_true rfl) ?_
  refine lv_istore (lv' := [(6, .int 0), (5, .int 1), (4, .int 0), (3, .ref oa), (2, .ref mo), (1, .ref o), (0, .ref b)]) hx hb dL_law_1345 hl (by decide) rfl (fun ls hl => ?_)
  refine lv_aload_n hx hb dL_law_1347 rfl (lv_at hl 4 rfl) ?_
  refine m_kV (As := []) (rest := []) (rm := { frames := 0, cells := 0, slots := 0, locals := 0 }) ⟨hx, hb, hml, hown, hts⟩ (c_X6_thrown l D k z _ mo 1 fs9 hMc) (cwV 0 hts gL_law_X6_thrown rfl rfl rfl (by decide +kernel) ⟨Nat.le_of_ble_eq_true rfl, Nat.le_of_ble_eq_true rfl⟩) (m_recv hK hm (q := (RX6, TX6, 24)) rfl hMc) hz hcx hm hS rfl hl.1 rfl (Nat.le_of_ble_eq_true rfl) dL_law_1348 ⟨Nat.le_of_ble_eq_true rfl, Nat.le_of_ble_eq_true rfl⟩ (fun v M1 H locs hv hm hS => ?_)
  obtain ⟨hv1, hM1⟩ := hv
  subst hv1
  rw [hM1] at hm
  refine W.eq (g2 := F0 m 1351 ls [.int 1]) rfl ?_
  refine W.widen (k := 139) (n := 404042) (Nat.le_of_ble_eq_true rfl) (Nat.le_of_ble_eq_true rfl) ?_
  refine lv_iload hx hb dL_law_1351 (lv_at hl 1 rfl) ?_
  refine lv_icmp_eq (tgt := 1358) hx hb dL_law_1353 (by decide) (fun c1 => ?_) (fun c1 => ?_)
  · refine lv_iload hx hb dL_law_1358 (lv_at hl 1 rfl) ?_
    refine lv_if_ne (tgt := 1375) hx hb dL_law_1360 (by decide) (fun c2 => ?_) (fun c2 => ?_)
    · refine lv_goto (tgt := 1434) hx hb dL_law_1375 (by decide) ?_
      refine W.widen (k := 160) (n := 406000) (Nat.le_of_ble_eq_true rfl) (Nat.le_of_ble_eq_true rfl) ?_
      exact LC_end l hlt C0 D k z hz hz2 hcxN hS (lv_sub hl [2, 6] rfl)
    · first | exact absurd c2 (by decide) | exact absurd (by decide) c2
  · first | exact absurd c1 (by decide) | exact absurd (by decide) c1

set_option maxHeartbeats 4000000 in
set_option maxRecDepth 100000 in
theorem LC_count {p : Program} {e : Env} {s : State} {m : MethodId} {below : List Frame} {meth : Method} {c : Code} (l : Launch) (hlt : l.stackTraces = false) {b : Nat} {xs : Nat → Int32} (C0 : lw_At p s m meth c b 5 xs) (D : va_G) (k : Nat → ClassId) (z : Nat) (hz : z ≤ s.heap.size) (hz2 : s.heap.size ≤ z) (hcxN : cxN D k (AZ z) s) (o mo oa : Nat) (g9 : Nat → Int64) (M : mM) {H : Heap} {locs : List Loc} {ls : Array Slot} (hm : mm D (AZ z) M H) (hS : va_S (AZ z) s.heap H locs) (hF : cFr k M o) (hMo : mFr k M mo 0) (hoa : M oa = some (.inl (k 1, 1, .inr (.inl g9)))) (hl : lv_has ls 7 [(4, .int 0), (3, .ref oa), (2, .ref mo), (1, .ref o), (0, .ref b)]) : W p l e room_1 s m #[Value.ref b] below meth c H locs 138 404036 (lw_Z below #[Value.ref b] s) (F0 m 1378 ls []) := by
  obtain ⟨hx, hb, hr, hml, hown, hts0, hX, hbl, hlocks, hgv⟩ := id C0
  have hts : ∀ w ∈ wsL_law, w.before #[Value.ref b] s = true := fun w h => hts0 w (wl_in w h)
  have hcx := hcxN.1
  have hK := hcx.1
  have hA : ∀ q, s.heap.size ≤ q → AZ z q := fun q h => Nat.le_trans hz h
  have hbA : ¬ AZ z b := fun h => absurd (Nat.le_trans hz2 h) (Nat.not_le.mpr hbl)
  refine lv_aload_n hx hb dL_law_1378 rfl (lv_at hl 3 rfl) ?_
  refine lv_aload_n hx hb dL_law_1379 rfl (lv_at hl 4 rfl) ?_
  refine lv_iload hx hb dL_law_1380 (lv_at hl 0 rfl) ?_
  refine lv_iconst (v := 1) hx hb dL_law_1382 (by decide) ?_
  refine lv_iadd hx hb dL_law_1383 ?_
  refine W.eq (g2 := F0 m 1384 ls [.int 1, .ref b, .ref o]) (by first | rfl | decide) ?_
  refine va_sld hx hb hX hbl hbA hS (by unfold vp_in; decide) dL_law_1384 ?_
  refine W.eq (g2 := F0 m 1385 ls [.int (xs 1), .ref o]) rfl ?_
  refine lv_aload_n hx hb dL_law_1385 rfl (lv_at hl 1 rfl) ?_
  refine m_kSW (hh := [(0, 9, 12, 31)]) (As := [.ref o, .int (xs 1), .ref oa]) (rest := []) (rm := { frames := 7, cells := 1, slots := 6, locals := 103 }) ⟨hx, hb, hml, hown, hts⟩ (H_count l hlt D k z _ o oa g9 hF hoa (xs 1)) (vx_cwSW 3 hts gL_law_L_count rfl rfl rfl (by decide +kernel) ⟨Nat.le_of_ble_eq_true rfl, Nat.le_of_ble_eq_true rfl⟩) hz hcxN hm hS rfl hl.1 rfl (Nat.le_of_ble_eq_true rfl) dL_law_1386 ⟨Nat.le_of_ble_eq_true rfl, Nat.le_of_ble_eq_true rfl⟩ (fun v M1 H locs hv hm hS => ?_)
  obtain ⟨Mc1, hMx⟩ : ∃ x : mM, x = M1 := ⟨M1, rfl⟩
  subst hMx
  obtain ⟨hv2, hk9⟩ := hv
  rcases hv2 with ⟨hc9, hv1⟩ | ⟨hc9, hv1, hO8⟩
  · subst hv1
    have hMo := mFr_k2 hk9 hMo
    refine W.eq (g2 := F0 m 1389 ls [.int 1]) rfl ?_
    refine W.widen (k := 139) (n := 404042) (Nat.le_of_ble_eq_true rfl) (Nat.le_of_ble_eq_true rfl) ?_
    refine lv_istore (lv' := [(5, .int 1), (4, .int 0), (3, .ref oa), (2, .ref mo), (1, .ref o), (0, .ref b)]) hx hb dL_law_1389 hl (by decide) rfl (fun ls hl => ?_)
    refine lv_aload_n hx hb dL_law_1391 rfl (lv_at hl 3 rfl) ?_
    refine lv_aload_n hx hb dL_law_1392 rfl (lv_at hl 5 rfl) ?_
    refine lv_iload hx hb dL_law_1393 (lv_at hl 1 rfl) ?_
    refine lv_iconst (v := 1) hx hb dL_law_1395 (by decide) ?_
    refine lv_iadd hx hb dL_law_1396 ?_
    refine W.eq (g2 := F0 m 1397 ls [.int 1, .ref b, .ref mo]) (by first | rfl | decide) ?_
    refine va_sld hx hb hX hbl hbA hS (by unfold vp_in; decide) dL_law_1397 ?_
    refine W.eq (g2 := F0 m 1398 ls [.int (xs 1), .ref mo]) rfl ?_
    obtain ⟨xcn, xia, xdr, xen, xla, xwo, xop, xmk, xir, xse, xec, xlc, xwc, xol, xal, -, hMob, -⟩ := id hMo
    refine m_kV (As := [.int (xs 1)]) (rest := []) (rm := { frames := 1, cells := 0, slots := 0, locals := 23 }) ⟨hx, hb, hml, hown, hts⟩ (cL_X6_count l D k z _ mo (xs 1) hMo) (cwV 1 hts gL_law_X6_count rfl rfl rfl (by decide +kernel) ⟨Nat.le_of_ble_eq_true rfl, Nat.le_of_ble_eq_true rfl⟩) (m_recv hK hm (q := (RX6, TX6, 24)) rfl hMob) hz hcx hm hS rfl hl.1 rfl (Nat.le_of_ble_eq_true rfl) dL_law_1398 ⟨Nat.le_of_ble_eq_true rfl, Nat.le_of_ble_eq_true rfl⟩ (fun v M1 H locs hv hm hS => ?_)
    obtain ⟨hv3, hL9⟩ := hv
    have hvC : v = some (.int 0) ∧ codeIs M1 mo 1 := by
      rcases hv3 with ⟨h, h2, h3⟩ | ⟨h, h2, h3⟩
      · exact ⟨h2, h3⟩
      · exact (hc9.elim (fun q => h.1 q) (fun q => q h.2)).elim
    obtain ⟨hv1, hC9⟩ := hvC
    subst hv1
    obtain ⟨Mc2, hMx⟩ : ∃ x : mM, x = M1 := ⟨M1, rfl⟩
    subst hMx
    obtain ⟨fs9, hMc⟩ := hC9
    refine W.eq (g2 := F0 m 1401 ls [.int 0]) rfl ?_
    refine W.widen (k := 139) (n := 404042) (Nat.le_of_ble_eq_true rfl) (Nat.le_of_ble_eq_true rfl) ?_
    refine lv_istore (lv' := [(6, .int 0), (5, .int 1), (4, .int 0), (3, .ref oa), (2, .ref mo), (1, .ref o), (0, .ref b)]) hx hb dL_law_1401 hl (by decide) rfl (fun ls hl => ?_)
    refine lv_aload_n hx hb dL_law_1403 rfl (lv_at hl 4 rfl) ?_
    refine m_kV (As := []) (rest := []) (rm := { frames := 0, cells := 0, slots := 0, locals := 0 }) ⟨hx, hb, hml, hown, hts⟩ (c_X6_thrown l D k z _ mo 1 fs9 hMc) (cwV 0 hts gL_law_X6_thrown rfl rfl rfl (by decide +kernel) ⟨Nat.le_of_ble_eq_true rfl, Nat.le_of_ble_eq_true rfl⟩) (m_recv hK hm (q := (RX6, TX6, 24)) rfl hMc) hz hcx hm hS rfl hl.1 rfl (Nat.le_of_ble_eq_true rfl) dL_law_1404 ⟨Nat.le_of_ble_eq_true rfl, Nat.le_of_ble_eq_true rfl⟩ (fun v M1 H locs hv hm hS => ?_)
    obtain ⟨hv1, hM1⟩ := hv
    subst hv1
    rw [hM1] at hm
    refine W.eq (g2 := F0 m 1407 ls [.int 1]) rfl ?_
    refine W.widen (k := 139) (n := 404042) (Nat.le_of_ble_eq_true rfl) (Nat.le_of_ble_eq_true rfl) ?_
    refine lv_iload hx hb dL_law_1407 (lv_at hl 1 rfl) ?_
    refine lv_icmp_eq (tgt := 1414) hx hb dL_law_1409 (by decide) (fun c1 => ?_) (fun c1 => ?_)
    · refine lv_iload hx hb dL_law_1414 (lv_at hl 1 rfl) ?_
      refine lv_if_ne (tgt := 1431) hx hb dL_law_1416 (by decide) (fun c2 => ?_) (fun c2 => ?_)
      · refine lv_goto (tgt := 1434) hx hb dL_law_1431 (by decide) ?_
        refine W.widen (k := 160) (n := 406000) (Nat.le_of_ble_eq_true rfl) (Nat.le_of_ble_eq_true rfl) ?_
        exact LC_end l hlt C0 D k z hz hz2 hcxN hS (lv_sub hl [2, 6] rfl)
      · first | exact absurd c2 (by decide) | exact absurd (by decide) c2
    · first | exact absurd c1 (by decide) | exact absurd (by decide) c1
  · subst hv1
    have hMo := mFr_k2 hk9 hMo
    obtain ⟨g8, hO7, hg8⟩ := hO8
    refine W.eq (g2 := F0 m 1389 ls [.int 0]) rfl ?_
    refine W.widen (k := 139) (n := 404042) (Nat.le_of_ble_eq_true rfl) (Nat.le_of_ble_eq_true rfl) ?_
    refine lv_istore (lv' := [(5, .int 0), (4, .int 0), (3, .ref oa), (2, .ref mo), (1, .ref o), (0, .ref b)]) hx hb dL_law_1389 hl (by decide) rfl (fun ls hl => ?_)
    refine lv_aload_n hx hb dL_law_1391 rfl (lv_at hl 3 rfl) ?_
    refine lv_aload_n hx hb dL_law_1392 rfl (lv_at hl 5 rfl) ?_
    refine lv_iload hx hb dL_law_1393 (lv_at hl 1 rfl) ?_
    refine lv_iconst (v := 1) hx hb dL_law_1395 (by decide) ?_
    refine lv_iadd hx hb dL_law_1396 ?_
    refine W.eq (g2 := F0 m 1397 ls [.int 1, .ref b, .ref mo]) (by first | rfl | decide) ?_
    refine va_sld hx hb hX hbl hbA hS (by unfold vp_in; decide) dL_law_1397 ?_
    refine W.eq (g2 := F0 m 1398 ls [.int (xs 1), .ref mo]) rfl ?_
    obtain ⟨xcn, xia, xdr, xen, xla, xwo, xop, xmk, xir, xse, xec, xlc, xwc, xol, xal, -, hMob, -⟩ := id hMo
    refine m_kV (As := [.int (xs 1)]) (rest := []) (rm := { frames := 1, cells := 0, slots := 0, locals := 23 }) ⟨hx, hb, hml, hown, hts⟩ (cL_X6_count l D k z _ mo (xs 1) hMo) (cwV 1 hts gL_law_X6_count rfl rfl rfl (by decide +kernel) ⟨Nat.le_of_ble_eq_true rfl, Nat.le_of_ble_eq_true rfl⟩) (m_recv hK hm (q := (RX6, TX6, 24)) rfl hMob) hz hcx hm hS rfl hl.1 rfl (Nat.le_of_ble_eq_true rfl) dL_law_1398 ⟨Nat.le_of_ble_eq_true rfl, Nat.le_of_ble_eq_true rfl⟩ (fun v M1 H locs hv hm hS => ?_)
    obtain ⟨hv3, hL9⟩ := hv
    have hvC : v = some (.int (cv (xs 1))) ∧ codeIs M1 mo 0 := by
      rcases hv3 with ⟨h, h2, h3⟩ | ⟨h, h2, h3⟩
      · exact (h.elim (fun q => hc9.1 q) (fun q => q hc9.2)).elim
      · exact ⟨h2, h3⟩
    obtain ⟨hv1, hC9⟩ := hvC
    subst hv1
    have hO6 := hL9 _ _ _ hO7
    obtain ⟨Mc3, hMx⟩ : ∃ x : mM, x = M1 := ⟨M1, rfl⟩
    subst hMx
    obtain ⟨fs9, hMc⟩ := hC9
    refine W.eq (g2 := F0 m 1401 ls [.int (cv (xs 1))]) rfl ?_
    refine W.widen (k := 139) (n := 404042) (Nat.le_of_ble_eq_true rfl) (Nat.le_of_ble_eq_true rfl) ?_
    refine lv_istore (lv' := [(6, .int (cv (xs 1))), (5, .int 0), (4, .int 0), (3, .ref oa), (2, .ref mo), (1, .ref o), (0, .ref b)]) hx hb dL_law_1401 hl (by decide) rfl (fun ls hl => ?_)
    refine lv_aload_n hx hb dL_law_1403 rfl (lv_at hl 4 rfl) ?_
    refine m_kV (As := []) (rest := []) (rm := { frames := 0, cells := 0, slots := 0, locals := 0 }) ⟨hx, hb, hml, hown, hts⟩ (c_X6_thrown l D k z _ mo 0 fs9 hMc) (cwV 0 hts gL_law_X6_thrown rfl rfl rfl (by decide +kernel) ⟨Nat.le_of_ble_eq_true rfl, Nat.le_of_ble_eq_true rfl⟩) (m_recv hK hm (q := (RX6, TX6, 24)) rfl hMc) hz hcx hm hS rfl hl.1 rfl (Nat.le_of_ble_eq_true rfl) dL_law_1404 ⟨Nat.le_of_ble_eq_true rfl, Nat.le_of_ble_eq_true rfl⟩ (fun v M1 H locs hv hm hS => ?_)
    obtain ⟨hv1, hM1⟩ := hv
    subst hv1
    rw [hM1] at hm
    refine W.eq (g2 := F0 m 1407 ls [.int 0]) rfl ?_
    refine W.widen (k := 139) (n := 404042) (Nat.le_of_ble_eq_true rfl) (Nat.le_of_ble_eq_true rfl) ?_
    refine lv_iload hx hb dL_law_1407 (lv_at hl 1 rfl) ?_
    refine lv_icmp_eq (tgt := 1414) hx hb dL_law_1409 (by decide) (fun c3 => ?_) (fun c3 => ?_)
    · refine lv_iload hx hb dL_law_1414 (lv_at hl 1 rfl) ?_
      refine lv_if_ne (tgt := 1431) hx hb dL_law_1416 (by decide) (fun c4 => ?_) (fun c4 => ?_)
      · first | exact absurd c4 (by decide) | exact absurd (by decide) c4
      · refine lv_aload_n hx hb dL_law_1419 rfl (lv_at hl 3 rfl) ?_
        refine lv_iconst (v := 0) hx hb dL_law_1420 (by decide) ?_
        refine m_lald hx hb hK hm 1 hO6 rfl (by unfold vp_in; decide) dL_law_1421 ?_
        refine lv_iload hx hb dL_law_1422 (lv_at hl 0 rfl) ?_
        refine lv_i2l (v := ((cv (xs 1))).toInt64) hx hb dL_law_1424 rfl ?_
        refine W.eq (g2 := F0 m 1425 ls [.long (cv (xs 1)).toInt64, .long (cv (xs 1)).toInt64]) (by first | (rw [show g8 (0 : Int32).toNatClampNeg = (cv (xs 1)).toInt64 from hg8]; done) | (rw [show g8 (0 : Int32).toNatClampNeg = (cv (xs 1)).toInt64 from hg8]; rfl)) ?_
        refine W.lcmp hx hb dL_law_1425 ?_
        refine lv_if_eq (tgt := 1431) hx hb dL_law_1426 (by decide) (fun c5 => ?_) (fun c5 => ?_)
        · refine lv_goto (tgt := 1434) hx hb dL_law_1431 (by decide) ?_
          refine W.widen (k := 160) (n := 406000) (Nat.le_of_ble_eq_true rfl) (Nat.le_of_ble_eq_true rfl) ?_
          exact LC_end l hlt C0 D k z hz hz2 hcxN hS (lv_sub hl [2, 6] rfl)
        · exact absurd (lg_self _) c5
    · first | exact absurd c3 (by decide) | exact absurd (by decide) c3
