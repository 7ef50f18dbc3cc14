set_option maxHeartbeats 4000000 in
set_option maxRecDepth 100000 in
theorem LC_remove {p : Program} {e : Env} {s : State} {m : MethodId} {below : List Frame} {meth : Method} {c : Code} (l : Launch) (hlt : l.stackTraces = false) {b : Nat} {xs : Nat → Int32} (C0 : lw_At p s m meth c b 5 xs) (D : va_G) (k : Nat → ClassId) (z : Nat) (hz : z ≤ s.heap.size) (hz2 : s.heap.size ≤ z) (hcxN : cxN D k (AZ z) s) (o mo oa : Nat) (g9 : Nat → Int64) (M : mM) {H : Heap} {locs : List Loc} {ls : Array Slot} (hm : mm D (AZ z) M H) (hS : va_S (AZ z) s.heap H locs) (hF : cFr k M o) (hMo : mFr k M mo 0) (hoa : M oa = some (.inl (k 1, 1, .inr (.inl g9)))) (hl : lv_has ls 7 [(4, .int 0), (3, .ref oa), (2, .ref mo), (1, .ref o), (0, .ref b)]) : W p l e room_1 s m #[Value.ref b] below meth c H locs 138 404036 (lw_Z below #[Value.ref b] s) (F0 m 420 ls []) := by
  obtain ⟨hx, hb, hr, hml, hown, hts0, hX, hbl, hlocks, hgv⟩ := id C0
  have hts : ∀ w ∈ wsL_law, w.before #[Value.ref b] s = true := fun w h => hts0 w (wl_in w h)
  have hcx := hcxN.1
  have hK := hcx.1
  have hA : ∀ q, s.heap.size ≤ q → AZ z q := fun q h => Nat.le_trans hz h
  have hbA : ¬ AZ z b := fun h => absurd (Nat.le_trans hz2 h) (Nat.not_le.mpr hbl)
  refine lv_aload_n hx hb dL_law_420 rfl (lv_at hl 3 rfl) ?_
  refine lv_aload_n hx hb dL_law_421 rfl (lv_at hl 4 rfl) ?_
  refine lv_iload hx hb dL_law_422 (lv_at hl 0 rfl) ?_
  refine lv_iconst (v := 1) hx hb dL_law_424 (by decide) ?_
  refine lv_iadd hx hb dL_law_425 ?_
  refine W.eq (g2 := F0 m 426 ls [.int 1, .ref b, .ref o]) (by first | rfl | decide) ?_
  refine va_sld hx hb hX hbl hbA hS (by unfold vp_in; decide) dL_law_426 ?_
  refine W.eq (g2 := F0 m 427 ls [.int (xs 1), .ref o]) rfl ?_
  refine lv_aload_n hx hb dL_law_427 rfl (lv_at hl 4 rfl) ?_
  refine lv_iload hx hb dL_law_428 (lv_at hl 0 rfl) ?_
  refine lv_iconst (v := 2) hx hb dL_law_430 (by decide) ?_
  refine lv_iadd hx hb dL_law_431 ?_
  refine W.eq (g2 := F0 m 432 ls [.int 2, .ref b, .int (xs 1), .ref o]) (by first | rfl | decide) ?_
  refine va_sld hx hb hX hbl hbA hS (by unfold vp_in; decide) dL_law_432 ?_
  refine W.eq (g2 := F0 m 433 ls [.int (xs 2), .int (xs 1), .ref o]) rfl ?_
  refine lv_aload_n hx hb dL_law_433 rfl (lv_at hl 1 rfl) ?_
  refine m_kSW (hh := [(0, 17, 20, 13), (0, 17, 24, 31), (0, 17, 28, 33), (0, 17, 32, 15)]) (As := [.ref o, .int (xs 1), .int (xs 2), .ref oa]) (rest := []) (rm := { frames := 8, cells := 1, slots := 6, locals := 129 }) ⟨hx, hb, hml, hown, hts⟩ (H_remove l hlt D k z _ o oa g9 hF hoa (xs 1) (xs 2)) (vx_cwSW 4 hts gL_law_L_remove rfl rfl rfl (by decide +kernel) ⟨Nat.le_of_ble_eq_true rfl, Nat.le_of_ble_eq_true rfl⟩) hz hcxN hm hS rfl hl.1 rfl (Nat.le_of_ble_eq_true rfl) dL_law_434 ⟨Nat.le_of_ble_eq_true rfl, Nat.le_of_ble_eq_true rfl⟩ (fun v M1 H locs hv hm hS => ?_)
  obtain ⟨Mc1, hMx⟩ : ∃ x : mM, x = M1 := ⟨M1, rfl⟩
  subst hMx
  obtain ⟨hv1, hk9⟩ := hv
  subst hv1
  have hMo := mFr_k2 hk9 hMo
  refine W.eq (g2 := F0 m 437 ls [.int 1]) rfl ?_
  refine W.widen (k := 139) (n := 404042) (Nat.le_of_ble_eq_true rfl) (Nat.le_of_ble_eq_true rfl) ?_
  refine lv_istore (lv' := [(5, .int 1), (4, .int 0), (3, .ref oa), (2, .ref mo), (1, .ref o), (0, .ref b)]) hx hb dL_law_437 hl (by decide) rfl (fun ls hl => ?_)
  refine lv_aload_n hx hb dL_law_439 rfl (lv_at hl 3 rfl) ?_
  refine lv_aload_n hx hb dL_law_440 rfl (lv_at hl 5 rfl) ?_
  refine lv_iload hx hb dL_law_441 (lv_at hl 1 rfl) ?_
  refine lv_iconst (v := 1) hx hb dL_law_443 (by decide) ?_
  refine lv_iadd hx hb dL_law_444 ?_
  refine W.eq (g2 := F0 m 445 ls [.int 1, .ref b, .ref mo]) (by first | rfl | decide) ?_
  refine va_sld hx hb hX hbl hbA hS (by unfold vp_in; decide) dL_law_445 ?_
  refine W.eq (g2 := F0 m 446 ls [.int (xs 1), .ref mo]) rfl ?_
  refine lv_aload_n hx hb dL_law_446 rfl (lv_at hl 5 rfl) ?_
  refine lv_iload hx hb dL_law_447 (lv_at hl 1 rfl) ?_
  refine lv_iconst (v := 2) hx hb dL_law_449 (by decide) ?_
  refine lv_iadd hx hb dL_law_450 ?_
  refine W.eq (g2 := F0 m 451 ls [.int 2, .ref b, .int (xs 1), .ref mo]) (by first | rfl | decide) ?_
  refine va_sld hx hb hX hbl hbA hS (by unfold vp_in; decide) dL_law_451 ?_
  refine W.eq (g2 := F0 m 452 ls [.int (xs 2), .int (xs 1), .ref mo]) rfl ?_
  obtain ⟨xcn, xia, xdr, xen, xla, xwo, xop, xmk, xir, xse, xec, xlc, xwc, xol, xal, -, hMob, -⟩ := id hMo
  refine m_kV (As := [.int (xs 1), .int (xs 2)]) (rest := []) (rm := { frames := 1, cells := 0, slots := 0, locals := 21 }) ⟨hx, hb, hml, hown, hts⟩ (c_X6_remove l D k z _ mo (xs 1) (xs 2) hMo) (cwV 2 hts gL_law_X6_remove rfl rfl rfl (by decide +kernel) ⟨Nat.le_of_ble_eq_true rfl, Nat.le_of_ble_eq_true rfl⟩) (m_recv hK hm (q := (RX6, TX6, 24)) rfl hMob) hz hcx hm hS rfl hl.1 rfl (Nat.le_of_ble_eq_true rfl) dL_law_452 ⟨Nat.le_of_ble_eq_true rfl, Nat.le_of_ble_eq_true rfl⟩ (fun v M1 H locs hv hm hS => ?_)
  obtain ⟨hv1, hC9⟩ := hv
  subst hv1
  obtain ⟨Mc2, hMx⟩ : ∃ x : mM, x = M1 := ⟨M1, rfl⟩
  subst hMx
  obtain ⟨fs9, hMc⟩ := hC9
  refine W.eq (g2 := F0 m 455 ls [.int 0]) rfl ?_
  refine W.widen (k := 139) (n := 404042) (Nat.le_of_ble_eq_true rfl) (Nat.le_of_ble_eq_true rfl) ?_
  refine lv_istore (lv' := [(6, .int 0), (5, .int 1), (4, .int 0), (3, .ref oa), (2, .ref mo), (1, .ref o), (0, .ref b)]) hx hb dL_law_455 hl (by decide) rfl (fun ls hl => ?_)
  refine lv_aload_n hx hb dL_law_457 rfl (lv_at hl 4 rfl) ?_
  refine m_kV (As := []) (rest := []) (rm := { frames := 0, cells := 0, slots := 0, locals := 0 }) ⟨hx, hb, hml, hown, hts⟩ (c_X6_thrown l D k z _ mo 1 fs9 hMc) (cwV 0 hts gL_law_X6_thrown rfl rfl rfl (by decide +kernel) ⟨Nat.le_of_ble_eq_true rfl, Nat.le_of_ble_eq_true rfl⟩) (m_recv hK hm (q := (RX6, TX6, 24)) rfl hMc) hz hcx hm hS rfl hl.1 rfl (Nat.le_of_ble_eq_true rfl) dL_law_458 ⟨Nat.le_of_ble_eq_true rfl, Nat.le_of_ble_eq_true rfl⟩ (fun v M1 H locs hv hm hS => ?_)
  obtain ⟨hv1, hM1⟩ := hv
  subst hv1
  rw [hM1] at hm
  refine W.eq (g2 := F0 m 461 ls [.int 1]) rfl ?_
  refine W.widen (k := 139) (n := 404042) (Nat.le_of_ble_eq_true rfl) (Nat.le_of_ble_eq_true rfl) ?_
  refine lv_iload hx hb dL_law_461 (lv_at hl 1 rfl) ?_
  refine lv_icmp_eq (tgt := 468) hx hb dL_law_463 (by decide) (fun c1 => ?_) (fun c1 => ?_)
  · refine lv_iload hx hb dL_law_468 (lv_at hl 1 rfl) ?_
    refine lv_if_ne (tgt := 492) hx hb dL_law_470 (by decide) (fun c2 => ?_) (fun c2 => ?_)
    · refine lv_goto (tgt := 1434) hx hb dL_law_492 (by decide) ?_
      refine W.widen (k := 160) (n := 406000) (Nat.le_of_ble_eq_true rfl) (Nat.le_of_ble_eq_true rfl) ?_
      exact LC_end l hlt C0 D k z hz hz2 hcxN hS (lv_sub hl [2, 6] rfl)
    · first | exact absurd c2 (by decide) | exact absurd (by decide) c2
  · first | exact absurd c1 (by decide) | exact absurd (by decide) c1

set_option maxHeartbeats 4000000 in
set_option maxRecDepth 100000 in
theorem LC_move {p : Program} {e : Env} {s : State} {m : MethodId} {below : List Frame} {meth : Method} {c : Code} (l : Launch) (hlt : l.stackTraces = false) {b : Nat} {xs : Nat → Int32} (C0 : lw_At p s m meth c b 5 xs) (D : va_G) (k : Nat → ClassId) (z : Nat) (hz : z ≤ s.heap.size) (hz2 : s.heap.size ≤ z) (hcxN : cxN D k (AZ z) s) (o mo oa : Nat) (g9 : Nat → Int64) (M : mM) {H : Heap} {locs : List Loc} {ls : Array Slot} (hm : mm D (AZ z) M H) (hS : va_S (AZ z) s.heap H locs) (hF : cFr k M o) (hMo : mFr k M mo 0) (hoa : M oa = some (.inl (k 1, 1, .inr (.inl g9)))) (hl : lv_has ls 7 [(4, .int 0), (3, .ref oa), (2, .ref mo), (1, .ref o), (0, .ref b)]) : W p l e room_1 s m #[Value.ref b] below meth c H locs 138 404036 (lw_Z below #[Value.ref b] s) (F0 m 495 ls []) := by
  obtain ⟨hx, hb, hr, hml, hown, hts0, hX, hbl, hlocks, hgv⟩ := id C0
  have hts : ∀ w ∈ wsL_law, w.before #[Value.ref b] s = true := fun w h => hts0 w (wl_in w h)
  have hcx := hcxN.1
  have hK := hcx.1
  have hA : ∀ q, s.heap.size ≤ q → AZ z q := fun q h => Nat.le_trans hz h
  have hbA : ¬ AZ z b := fun h => absurd (Nat.le_trans hz2 h) (Nat.not_le.mpr hbl)
  refine lv_aload_n hx hb dL_law_495 rfl (lv_at hl 3 rfl) ?_
  refine lv_aload_n hx hb dL_law_496 rfl (lv_at hl 4 rfl) ?_
  refine lv_iload hx hb dL_law_497 (lv_at hl 0 rfl) ?_
  refine lv_iconst (v := 1) hx hb dL_law_499 (by decide) ?_
  refine lv_iadd hx hb dL_law_500 ?_
  refine W.eq (g2 := F0 m 501 ls [.int 1, .ref b, .ref o]) (by first | rfl | decide) ?_
  refine va_sld hx hb hX hbl hbA hS (by unfold vp_in; decide) dL_law_501 ?_
  refine W.eq (g2 := F0 m 502 ls [.int (xs 1), .ref o]) rfl ?_
  refine lv_aload_n hx hb dL_law_502 rfl (lv_at hl 4 rfl) ?_
  refine lv_iload hx hb dL_law_503 (lv_at hl 0 rfl) ?_
  refine lv_iconst (v := 2) hx hb dL_law_505 (by decide) ?_
  refine lv_iadd hx hb dL_law_506 ?_
  refine W.eq (g2 := F0 m 507 ls [.int 2, .ref b, .int (xs 1), .ref o]) (by first | rfl | decide) ?_
  refine va_sld hx hb hX hbl hbA hS (by unfold vp_in; decide) dL_law_507 ?_
  refine W.eq (g2 := F0 m 508 ls [.int (xs 2), .int (xs 1), .ref o]) rfl ?_
  refine lv_aload_n hx hb dL_law_508 rfl (lv_at hl 4 rfl) ?_
  refine lv_iload hx hb dL_law_509 (lv_at hl 0 rfl) ?_
  refine lv_iconst (v := 3) hx hb dL_law_511 (by decide) ?_
  refine lv_iadd hx hb dL_law_512 ?_
  refine W.eq (g2 := F0 m 513 ls [.int 3, .ref b, .int (xs 2), .int (xs 1), .ref o]) (by first | rfl | decide) ?_
  refine va_sld hx hb hX hbl hbA hS (by unfold vp_in; decide) dL_law_513 ?_
  refine W.eq (g2 := F0 m 514 ls [.int (xs 3), .int (xs 2), .int (xs 1), .ref o]) rfl ?_
  refine lv_aload_n hx hb dL_law_514 rfl (lv_at hl 1 rfl) ?_
  refine m_kSW (hh := [(0, 19, 22, 13), (0, 19, 26, 31), (0, 19, 30, 33), (0, 19, 34, 15)]) (As := [.ref o, .int (xs 1), .int (xs 2), .int (xs 3), .ref oa]) (rest := []) (rm := { frames := 8, cells := 1, slots := 6, locals := 131 }) ⟨hx, hb, hml, hown, hts⟩ (H_move l hlt D k z _ o oa g9 hF hoa (xs 1) (xs 2) (xs 3)) (vx_cwSW 5 hts gL_law_L_move rfl rfl rfl (by decide +kernel) ⟨Nat.le_of_ble_eq_true rfl, Nat.le_of_ble_eq_true rfl⟩) hz hcxN hm hS rfl hl.1 rfl (Nat.le_of_ble_eq_true rfl) dL_law_515 ⟨Nat.le_of_ble_eq_true rfl, Nat.le_of_ble_eq_true rfl⟩ (fun v M1 H locs hv hm hS => ?_)
  obtain ⟨Mc1, hMx⟩ : ∃ x : mM, x = M1 := ⟨M1, rfl⟩
  subst hMx
  obtain ⟨hv1, hk9⟩ := hv
  subst hv1
  have hMo := mFr_k2 hk9 hMo
  refine W.eq (g2 := F0 m 518 ls [.int 1]) rfl ?_
  refine W.widen (k := 139) (n := 404042) (Nat.le_of_ble_eq_true rfl) (Nat.le_of_ble_eq_true rfl) ?_
  refine lv_istore (lv' := [(5, .int 1), (4, .int 0), (3, .ref oa), (2, .ref mo), (1, .ref o), (0, .ref b)]) hx hb dL_law_518 hl (by decide) rfl (fun ls hl => ?_)
  refine lv_aload_n hx hb dL_law_520 rfl (lv_at hl 3 rfl) ?_
  refine lv_aload_n hx hb dL_law_521 rfl (lv_at hl 5 rfl) ?_
  refine lv_iload hx hb dL_law_522 (lv_at hl 1 rfl) ?_
  refine lv_iconst (v := 1) hx hb dL_law_524 (by decide) ?_
  refine lv_iadd hx hb dL_law_525 ?_
  refine W.eq (g2 := F0 m 526 ls [.int 1, .ref b, .ref mo]) (by first | rfl | decide) ?_
  refine va_sld hx hb hX hbl hbA hS (by unfold vp_in; decide) dL_law_526 ?_
  refine W.eq (g2 := F0 m 527 ls [.int (xs 1), .ref mo]) rfl ?_
  refine lv_aload_n hx hb dL_law_527 rfl (lv_at hl 5 rfl) ?_
  refine lv_iload hx hb dL_law_528 (lv_at hl 1 rfl) ?_
  refine lv_iconst (v := 2) hx hb dL_law_530 (by decide) ?_
  refine lv_iadd hx hb dL_law_531 ?_
  refine W.eq (g2 := F0 m 532 ls [.int 2, .ref b, .int (xs 1), .ref mo]) (by first | rfl | decide) ?_
  refine va_sld hx hb hX hbl hbA hS (by unfold vp_in; decide) dL_law_532 ?_
  refine W.eq (g2 := F0 m 533 ls [.int (xs 2), .int (xs 1), .ref mo]) rfl ?_
  refine lv_aload_n hx hb dL_law_533 rfl (lv_at hl 5 rfl) ?_
  refine lv_iload hx hb dL_law_534 (lv_at hl 1 rfl) ?_
  refine lv_iconst (v := 3) hx hb dL_law_536 (by decide) ?_
  refine lv_iadd hx hb dL_law_537 ?_
  refine W.eq (g2 := F0 m 538 ls [.int 3, .ref b, .int (xs 2), .int (xs 1), .ref mo]) (by first | rfl | decide) ?_
  refine va_sld hx hb hX hbl hbA hS (by unfold vp_in; decide) dL_law_538 ?_
  refine W.eq (g2 := F0 m 539 ls [.int (xs 3), .int (xs 2), .int (xs 1), .ref mo]) rfl ?_
  obtain ⟨xcn, xia, xdr, xen, xla, xwo, xop, xmk, xir, xse, xec, xlc, xwc, xol, xal, -, hMob, -⟩ := id hMo
  refine m_kV (As := [.int (xs 1), .int (xs 2), .int (xs 3)]) (rest := []) (rm := { frames := 1, cells := 0, slots := 0, locals := 21 }) ⟨hx, hb, hml, hown, hts⟩ (c_X6_move l D k z _ mo (xs 1) (xs 2) (xs 3) hMo) (cwV 3 hts gL_law_X6_move rfl rfl rfl (by decide +kernel) ⟨Nat.le_of_ble_eq_true rfl, Nat.le_of_ble_eq_true rfl⟩) (m_recv hK hm (q := (RX6, TX6, 24)) rfl hMob) hz hcx hm hS rfl hl.1 rfl (Nat.le_of_ble_eq_true rfl) dL_law_539 ⟨Nat.le_of_ble_eq_true rfl, Nat.le_of_ble_eq_true rfl⟩ (fun v M1 H locs hv hm hS => ?_)
  obtain ⟨hv1, hC9⟩ := hv
  subst hv1
  obtain ⟨Mc2, hMx⟩ : ∃ x : mM, x = M1 := ⟨M1, rfl⟩
  subst hMx
  obtain ⟨fs9, hMc⟩ := hC9
  refine W.eq (g2 := F0 m 542 ls [.int 0]) rfl ?_
  refine W.widen (k := 139) (n := 404042) (Nat.le_of_ble_eq_true rfl) (Nat.le_of_ble_eq_true rfl) ?_
  refine lv_istore (lv' := [(6, .int 0), (5, .int 1), (4, .int 0), (3, .ref oa), (2, .ref mo), (1, .ref o), (0, .ref b)]) hx hb dL_law_542 hl (by decide) rfl (fun ls hl => ?_)
  refine lv_aload_n hx hb dL_law_544 rfl (lv_at hl 4 rfl) ?_
  refine m_kV (As := []) (rest := []) (rm := { frames := 0, cells := 0, slots := 0, locals := 0 }) ⟨hx, hb, hml, hown, hts⟩ (c_X6_thrown l D k z _ mo 1 fs9 hMc) (cwV 0 hts gL_law_X6_thrown rfl rfl rfl (by decide +kernel) ⟨Nat.le_of_ble_eq_true rfl, Nat.le_of_ble_eq_true rfl⟩) (m_recv hK hm (q := (RX6, TX6, 24)) rfl hMc) hz hcx hm hS rfl hl.1 rfl (Nat.le_of_ble_eq_true rfl) dL_law_545 ⟨Nat.le_of_ble_eq_true rfl, Nat.le_of_ble_eq_true rfl⟩ (fun v M1 H locs hv hm hS => ?_)
  obtain ⟨hv1, hM1⟩ := hv
  subst hv1
  rw [hM1] at hm
  refine W.eq (g2 := F0 m 548 ls [.int 1]) rfl ?_
  refine W.widen (k := 139) (n := 404042) (Nat.le_of_ble_eq_true rfl) (Nat.le_of_ble_eq_true rfl) ?_
  refine lv_iload hx hb dL_law_548 (lv_at hl 1 rfl) ?_
  refine lv_icmp_eq (tgt := 555) hx hb dL_law_550 (by decide) (fun c1 => ?_) (fun c1 => ?_)
  · refine lv_iload hx hb dL_law_555 (lv_at hl 1 rfl) ?_
    refine lv_if_ne (tgt := 579) hx hb dL_law_557 (by decide) (fun c2 => ?_) (fun c2 => ?_)
    · refine lv_goto (tgt := 1434) hx hb dL_law_579 (by decide) ?_
      refine W.widen (k := 160) (n := 406000) (Nat.le_of_ble_eq_true rfl) (Nat.le_of_ble_eq_true rfl) ?_
      exact LC_end l hlt C0 D k z hz hz2 hcxN hS (lv_sub hl [2, 6] rfl)
    · first | exact absurd c2 (by decide) | exact absurd (by decide) c2
  · first | exact absurd c1 (by decide) | exact absurd (by decide) c1

set_option maxHeartbeats 4000000 in
set_option maxRecDepth 100000 in
theorem LC_write {p : Program} {e : Env} {s : State} {m : MethodId} {below : List Frame} {meth : Method} {c : Code} (l : Launch) (hlt : l.stackTraces = false) {b : Nat} {xs : Nat → Int32} (C0 : lw_At p s m meth c b 5 xs) (D : va_G) (k : Nat → ClassId) (z : Nat) (hz : z ≤ s.heap.size) (hz2 : s.heap.size ≤ z) (hcxN : cxN D k (AZ z) s) (o mo oa : Nat) (g9 : Nat → Int64) (M : mM) {H : Heap} {locs : List Loc} {ls : Array Slot} (hm : mm D (AZ z) M H) (hS : va_S (AZ z) s.heap H locs) (hF : cFr k M o) (hMo : mFr k M mo 0) (hoa : M oa = some (.inl (k 1, 1, .inr (.inl g9)))) (hl : lv_has ls 7 [(4, .int 0), (3, .ref oa), (2, .ref mo), (1, .ref o), (0, .ref b)]) : W p l e room_1 s m #[Value.ref b] below meth c H locs 138 404036 (lw_Z below #[Value.ref b] s) (F0 m 582 ls []) := by
  obtain ⟨hx, hb, hr, hml, hown, hts0, hX, hbl, hlocks, hgv⟩ := id C0
  have hts : ∀ w ∈ wsL_law, w.before #[Value.ref b] s = true := fun w h => hts0 w (wl_in w h)
  have hcx := hcxN.1
  have hK := hcx.1
  have hA : ∀ q, s.heap.size ≤ q → AZ z q := fun q h => Nat.le_trans hz h
  have hbA : ¬ AZ z b := fun h => absurd (Nat.le_trans hz2 h) (Nat.not_le.mpr hbl)
  refine lv_aload_n hx hb dL_law_582 rfl (lv_at hl 3 rfl) ?_
  refine lv_aload_n hx hb dL_law_583 rfl (lv_at hl 4 rfl) ?_
  refine lv_iload hx hb dL_law_584 (lv_at hl 0 rfl) ?_
  refine lv_iconst (v := 1) hx hb dL_law_586 (by decide) ?_
  refine lv_iadd hx hb dL_law_587 ?_
  refine W.eq (g2 := F0 m 588 ls [.int 1, .ref b, .ref o]) (by first | rfl | decide) ?_
  refine va_sld hx hb hX hbl hbA hS (by unfold vp_in; decide) dL_law_588 ?_
  refine W.eq (g2 := F0 m 589 ls [.int (xs 1), .ref o]) rfl ?_
  refine lv_aload_n hx hb dL_law_589 rfl (lv_at hl 4 rfl) ?_
  refine lv_iload hx hb dL_law_590 (lv_at hl 0 rfl) ?_
  refine lv_iconst (v := 2) hx hb dL_law_592 (by decide) ?_
  refine lv_iadd hx hb dL_law_593 ?_
  refine W.eq (g2 := F0 m 594 ls [.int 2, .ref b, .int (xs 1), .ref o]) (by first | rfl | decide) ?_
  refine va_sld hx hb hX hbl hbA hS (by unfold vp_in; decide) dL_law_594 ?_
  refine W.eq (g2 := F0 m 595 ls [.int (xs 2), .int (xs 1), .ref o]) rfl ?_
  refine lv_aload_n hx hb dL_law_595 rfl (lv_at hl 4 rfl) ?_
  refine lv_iload hx hb dL_law_596 (lv_at hl 0 rfl) ?_
  refine lv_iconst (v := 3) hx hb dL_law_598 (by decide) ?_
  refine lv_iadd hx hb dL_law_599 ?_
  refine W.eq (g2 := F0 m 600 ls [.int 3, .ref b, .int (xs 2), .int (xs 1), .ref o]) (by first | rfl | decide) ?_
  refine va_sld hx hb hX hbl hbA hS (by unfold vp_in; decide) dL_law_600 ?_
  refine W.eq (g2 := F0 m 601 ls [.int (xs 3), .int (xs 2), .int (xs 1), .ref o]) rfl ?_
  refine lv_aload_n hx hb dL_law_601 rfl (lv_at hl 4 rfl) ?_
  refine lv_iload hx hb dL_law_602 (lv_at hl 0 rfl) ?_
  refine lv_iconst (v := 4) hx hb dL_law_604 (by decide) ?_
  refine lv_iadd hx hb dL_law_605 ?_
  refine W.eq (g2 := F0 m 606 ls [.int 4, .ref b, .int (xs 3), .int (xs 2), .int (xs 1), .ref o]) (by first | rfl | decide) ?_
  refine va_sld hx hb hX hbl hbA hS (by unfold vp_in; decide) dL_law_606 ?_
  refine W.eq (g2 := F0 m 607 ls [.int (xs 4), .int (xs 3), .int (xs 2), .int (xs 1), .ref o]) rfl ?_
  refine lv_aload_n hx hb dL_law_607 rfl (lv_at hl 1 rfl) ?_
  refine m_kSW (hh := [(0, 14, 17, 13), (0, 14, 21, 31), (0, 14, 25, 33), (0, 14, 29, 15), (0, 14, 33, 47)]) (As := [.ref o, .int (xs 1), .int (xs 2), .int (xs 3), .int (xs 4), .ref oa]) (rest := []) (rm := { frames := 8, cells := 1, slots := 6, locals := 130 }) ⟨hx, hb, hml, hown, hts⟩ (H_write l hlt D k z _ o oa g9 hF hoa (xs 1) (xs 2) (xs 3) (xs 4)) (vx_cwSW 6 hts gL_law_L_write rfl rfl rfl (by decide +kernel) ⟨Nat.le_of_ble_eq_true rfl, Nat.le_of_ble_eq_true rfl⟩) hz hcxN hm hS rfl hl.1 rfl (Nat.le_of_ble_eq_true rfl) dL_law_608 ⟨Nat.le_of_ble_eq_true rfl, Nat.le_of_ble_eq_true rfl⟩ (fun v M1 H locs hv hm hS => ?_)
  obtain ⟨Mc1, hMx⟩ : ∃ x : mM, x = M1 := ⟨M1, rfl⟩
  subst hMx
  obtain ⟨hv1, hk9⟩ := hv
  subst hv1
  have hMo := mFr_k2 hk9 hMo
  refine W.eq (g2 := F0 m 611 ls [.int 1]) rfl ?_
  refine W.widen (k := 139) (n := 404042) (Nat.le_of_ble_eq_true rfl) (Nat.le_of_ble_eq_true rfl) ?_
  refine lv_istore (lv' := [(5, .int 1), (4, .int 0), (3, .ref oa), (2, .ref mo), (1, .ref o), (0, .ref b)]) hx hb dL_law_611 hl (by decide) rfl (fun ls hl => ?_)
  refine lv_aload_n hx hb dL_law_613 rfl (lv_at hl 3 rfl) ?_
  refine lv_aload_n hx hb dL_law_614 rfl (lv_at hl 5 rfl) ?_
  refine lv_iload hx hb dL_law_615 (lv_at hl 1 rfl) ?_
  refine lv_iconst (v := 1) hx hb dL_law_617 (by decide) ?_
  refine lv_iadd hx hb dL_law_618 ?_
  refine W.eq (g2 := F0 m 619 ls [.int 1, .ref b, .ref mo]) (by first | rfl | decide) ?_
  refine va_sld hx hb hX hbl hbA hS (by unfold vp_in; decide) dL_law_619 ?_
  refine W.eq (g2 := F0 m 620 ls [.int (xs 1), .ref mo]) rfl ?_
  refine lv_aload_n hx hb dL_law_620 rfl (lv_at hl 5 rfl) ?_
  refine lv_iload hx hb dL_law_621 (lv_at hl 1 rfl) ?_
  refine lv_iconst (v := 2) hx hb dL_law_623 (by decide) ?_
  refine lv_iadd hx hb dL_law_624 ?_
  refine W.eq (g2 := F0 m 625 ls [.int 2, .ref b, .int (xs 1), .ref mo]) (by first | rfl | decide) ?_
  refine va_sld hx hb hX hbl hbA hS (by unfold vp_in; decide) dL_law_625 ?_
  refine W.eq (g2 := F0 m 626 ls [.int (xs 2), .int (xs 1), .ref mo]) rfl ?_
  refine lv_aload_n hx hb dL_law_626 rfl (lv_at hl 5 rfl) ?_
  refine lv_iload hx hb dL_law_627 (lv_at hl 1 rfl) ?_
  refine lv_iconst (v := 3) hx hb dL_law_629 (by decide) ?_
  refine lv_iadd hx hb dL_law_630 ?_
  refine W.eq (g2 := F0 m 631 ls [.int 3, .ref b, .int (xs 2), .int (xs 1), .ref mo]) (by first | rfl | decide) ?_
  refine va_sld hx hb hX hbl hbA hS (by unfold vp_in; decide) dL_law_631 ?_
  refine W.eq (g2 := F0 m 632 ls [.int (xs 3), .int (xs 2), .int (xs 1), .ref mo]) rfl ?_
  refine lv_aload_n hx hb dL_law_632 rfl (lv_at hl 5 rfl) ?_
  refine lv_iload hx hb dL_law_633 (lv_at hl 1 rfl) ?_
  refine lv_iconst (v := 4) hx hb dL_law_635 (by decide) ?_
  refine lv_iadd hx hb dL_law_636 ?_
  refine W.eq (g2 := F0 m 637 ls [.int 4, .ref b, .int (xs 3), .int (xs 2), .int (xs 1), .ref mo]) (by first | rfl | decide) ?_
  refine va_sld hx hb hX hbl hbA hS (by unfold vp_in; decide) dL_law_637 ?_
  refine W.eq (g2 := F0 m 638 ls [.int (xs 4), .int (xs 3), .int (xs 2), .int (xs 1), .ref mo]) rfl ?_
  obtain ⟨xcn, xia, xdr, xen, xla, xwo, xop, xmk, xir, xse, xec, xlc, xwc, xol, xal, -, hMob, -⟩ := id hMo
  refine m_kV (As := [.int (xs 1), .int (xs 2), .int (xs 3), .int (xs 4)]) (rest := []) (rm := { frames := 2, cells := 0, slots := 0, locals := 46 }) ⟨hx, hb, hml, hown, hts⟩ (c_X6_write l D k z _ mo (xs 1) (xs 2) (xs 3) (xs 4) hMo) (cwV 4 hts gL_law_X6_write rfl rfl rfl (by decide +kernel) ⟨Nat.le_of_ble_eq_true rfl, Nat.le_of_ble_eq_true rfl⟩) (m_recv hK hm (q := (RX6, TX6, 24)) rfl hMob) hz hcx hm hS rfl hl.1 rfl (Nat.le_of_ble_eq_true rfl) dL_law_638 ⟨Nat.le_of_ble_eq_true rfl, Nat.le_of_ble_eq_true rfl⟩ (fun v M1 H locs hv hm hS => ?_)
  obtain ⟨hv1, hC9⟩ := hv
  subst hv1
  obtain ⟨Mc2, hMx⟩ : ∃ x : mM, x = M1 := ⟨M1, rfl⟩
  subst hMx
  obtain ⟨fs9, hMc⟩ := hC9
  refine W.eq (g2 := F0 m 641 ls [.int 0]) rfl ?_
  refine W.widen (k := 139) (n := 404042) (Nat.le_of_ble_eq_true rfl) (Nat.le_of_ble_eq_true rfl) ?_
  refine lv_istore (lv' := [(6, .int 0), (5, .int 1), (4, .int 0), (3, .ref oa), (2, .ref mo), (1, .ref o), (0, .ref b)]) hx hb dL_law_641 hl (by decide) rfl (fun ls hl => ?_)
  refine lv_aload_n hx hb dL_law_643 rfl (lv_at hl 4 rfl) ?_
  refine m_kV (As := []) (rest := []) (rm := { frames := 0, cells := 0, slots := 0, locals := 0 }) ⟨hx, hb, hml, hown, hts⟩ (c_X6_thrown l D k z _ mo 1 fs9 hMc) (cwV 0 hts gL_law_X6_thrown rfl rfl rfl (by decide +kernel) ⟨Nat.le_of_ble_eq_true rfl, Nat.le_of_ble_eq_true rfl⟩) (m_recv hK hm (q := (RX6, TX6, 24)) rfl hMc) hz hcx hm hS rfl hl.1 rfl (Nat.le_of_ble_eq_true rfl) dL_law_644 ⟨Nat.le_of_ble_eq_true rfl, Nat.le_of_ble_eq_true rfl⟩ (fun v M1 H locs hv hm hS => ?_)
  obtain ⟨hv1, hM1⟩ := hv
  subst hv1
  rw [hM1] at hm
  refine W.eq (g2 := F0 m 647 ls [.int 1]) rfl ?_
  refine W.widen (k := 139) (n := 404042) (Nat.le_of_ble_eq_true rfl) (Nat.le_of_ble_eq_true rfl) ?_
  refine lv_iload hx hb dL_law_647 (lv_at hl 1 rfl) ?_
  refine lv_icmp_eq (tgt := 654) hx hb dL_law_649 (by decide) (fun c1 => ?_) (fun c1 => ?_)
  · refine lv_iload hx hb dL_law_654 (lv_at hl 1 rfl) ?_
    refine lv_if_ne (tgt := 671) hx hb dL_law_656 (by decide) (fun c2 => ?_) (fun c2 => ?_)
    · refine lv_goto (tgt := 1434) hx hb dL_law_671 (by decide) ?_
      refine W.widen (k := 160) (n := 406000) (Nat.le_of_ble_eq_true rfl) (Nat.le_of_ble_eq_true rfl) ?_
      exact LC_end l hlt C0 D k z hz hz2 hcxN hS (lv_sub hl [2, 6] rfl)
    · first | exact absurd c2 (by decide) | exact absurd (by decide) c2
  · first | exact absurd c1 (by decide) | exact absurd (by decide) c1

set_option maxHeartbeats 4000000 in
set_option maxRecDepth 100000 in
theorem LC_append {p : Program} {e : Env} {s : State} {m : MethodId} {below : List Frame} {meth : Method} {c : Code} (l : Launch) (hlt : l.stackTraces = false) {b : Nat} {xs : Nat → Int32} (C0 : lw_At p s m meth c b 5 xs) (D : va_G) (k : Nat → ClassId) (z : Nat) (hz : z ≤ s.heap.size) (hz2 : s.heap.size ≤ z) (hcxN : cxN D k (AZ z) s) (o mo oa : Nat) (g9 : Nat → Int64) (M : mM) {H : Heap} {locs : List Loc} {ls : Array Slot} (hm : mm D (AZ z) M H) (hS : va_S (AZ z) s.heap H locs) (hF : cFr k M o) (hMo : mFr k M mo 0) (hoa : M oa = some (.inl (k 1, 1, .inr (.inl g9)))) (hl : lv_has ls 7 [(4, .int 0), (3, .ref oa), (2, .ref mo), (1, .ref o), (0, .ref b)]) : W p l e room_1 s m #[Value.ref b] below meth c H locs 138 404036 (lw_Z below #[Value.ref b] s) (F0 m 674 ls []) := by
  obtain ⟨hx, hb, hr, hml, hown, hts0, hX, hbl, hlocks, hgv⟩ := id C0
  have hts : ∀ w ∈ wsL_law, w.before #[Value.ref b] s = true := fun w h => hts0 w (wl_in w h)
  have hcx := hcxN.1
  have hK := hcx.1
  have hA : ∀ q, s.heap.size ≤ q → AZ z q := fun q h => Nat.le_trans hz h
  have hbA : ¬ AZ z b := fun h => absurd (Nat.le_trans hz2 h) (Nat.not_le.mpr hbl)
  refine lv_aload_n hx hb dL_law_674 rfl (lv_at hl 3 rfl) ?_
  refine lv_aload_n hx hb dL_law_675 rfl (lv_at hl 4 rfl) ?_
  refine lv_iload hx hb dL_law_676 (lv_at hl 0 rfl) ?_
  refine lv_iconst (v := 1) hx hb dL_law_678 (by decide) ?_
  refine lv_iadd hx hb dL_law_679 ?_
  refine W.eq (g2 := F0 m 680 ls [.int 1, .ref b, .ref o]) (by first | rfl | decide) ?_
  refine va_sld hx hb hX hbl hbA hS (by unfold vp_in; decide) dL_law_680 ?_
  refine W.eq (g2 := F0 m 681 ls [.int (xs 1), .ref o]) rfl ?_
  refine lv_aload_n hx hb dL_law_681 rfl (lv_at hl 4 rfl) ?_
  refine lv_iload hx hb dL_law_682 (lv_at hl 0 rfl) ?_
  refine lv_iconst (v := 2) hx hb dL_law_684 (by decide) ?_
  refine lv_iadd hx hb dL_law_685 ?_
  refine W.eq (g2 := F0 m 686 ls [.int 2, .ref b, .int (xs 1), .ref o]) (by first | rfl | decide) ?_
  refine va_sld hx hb hX hbl hbA hS (by unfold vp_in; decide) dL_law_686 ?_
  refine W.eq (g2 := F0 m 687 ls [.int (xs 2), .int (xs 1), .ref o]) rfl ?_
  refine lv_aload_n hx hb dL_law_687 rfl (lv_at hl 4 rfl) ?_
  refine lv_iload hx hb dL_law_688 (lv_at hl 0 rfl) ?_
  refine lv_iconst (v := 3) hx hb dL_law_690 (by decide) ?_
  refine lv_iadd hx hb dL_law_691 ?_
  refine W.eq (g2 := F0 m 692 ls [.int 3, .ref b, .int (xs 2), .int (xs 1), .ref o]) (by first | rfl | decide) ?_
  refine va_sld hx hb hX hbl hbA hS (by unfold vp_in; decide) dL_law_692 ?_
  refine W.eq (g2 := F0 m 693 ls [.int (xs 3), .int (xs 2), .int (xs 1), .ref o]) rfl ?_
  refine lv_aload_n hx hb dL_law_693 rfl (lv_at hl 1 rfl) ?_
  refine m_kSW (hh := [(0, 12, 15, 13), (0, 12, 19, 31), (0, 12, 23, 33), (0, 12, 27, 15)]) (As := [.ref o, .int (xs 1), .int (xs 2), .int (xs 3), .ref oa]) (rest := []) (rm := { frames := 8, cells := 1, slots := 6, locals := 129 }) ⟨hx, hb, hml, hown, hts⟩ (H_append l hlt D k z _ o oa g9 hF hoa (xs 1) (xs 2) (xs 3)) (vx_cwSW 5 hts gL_law_L_append rfl rfl rfl (by decide +kernel) ⟨Nat.le_of_ble_eq_true rfl, Nat.le_of_ble_eq_true rfl⟩) hz hcxN hm hS rfl hl.1 rfl (Nat.le_of_ble_eq_true rfl) dL_law_694 ⟨Nat.le_of_ble_eq_true rfl, Nat.le_of_ble_eq_true rfl⟩ (fun v M1 H locs hv hm hS => ?_)
  obtain ⟨Mc1, hMx⟩ : ∃ x : mM, x = M1 := ⟨M1, rfl⟩
  subst hMx
  obtain ⟨hv1, hk9⟩ := hv
  subst hv1
  have hMo := mFr_k2 hk9 hMo
  refine W.eq (g2 := F0 m 697 ls [.int 1]) rfl ?_
  refine W.widen (k := 139) (n := 404042) (Nat.le_of_ble_eq_true rfl) (Nat.le_of_ble_eq_true rfl) ?_
  refine lv_istore (lv' := [(5, .int 1), (4, .int 0), (3, .ref oa), (2, .ref mo), (1, .ref o), (0, .ref b)]) hx hb dL_law_697 hl (by decide) rfl (fun ls hl => ?_)
  refine lv_aload_n hx hb dL_law_699 rfl (lv_at hl 3 rfl) ?_
  refine lv_aload_n hx hb dL_law_700 rfl (lv_at hl 5 rfl) ?_
  refine lv_iload hx hb dL_law_701 (lv_at hl 1 rfl) ?_
  refine lv_iconst (v := 1) hx hb dL_law_703 (by decide) ?_
  refine lv_iadd hx hb dL_law_704 ?_
  refine W.eq (g2 := F0 m 705 ls [.int 1, .ref b, .ref mo]) (by first | rfl | decide) ?_
  refine va_sld hx hb hX hbl hbA hS (by unfold vp_in; decide) dL_law_705 ?_
  refine W.eq (g2 := F0 m 706 ls [.int (xs 1), .ref mo]) rfl ?_
  refine lv_aload_n hx hb dL_law_706 rfl (lv_at hl 5 rfl) ?_
  refine lv_iload hx hb dL_law_707 (lv_at hl 1 rfl) ?_
  refine lv_iconst (v := 2) hx hb dL_law_709 (by decide) ?_
  refine lv_iadd hx hb dL_law_710 ?_
  refine W.eq (g2 := F0 m 711 ls [.int 2, .ref b, .int (xs 1), .ref mo]) (by first | rfl | decide) ?_
  refine va_sld hx hb hX hbl hbA hS (by unfold vp_in; decide) dL_law_711 ?_
  refine W.eq (g2 := F0 m 712 ls [.int (xs 2), .int (xs 1), .ref mo]) rfl ?_
  refine lv_aload_n hx hb dL_law_712 rfl (lv_at hl 5 rfl) ?_
  refine lv_iload hx hb dL_law_713 (lv_at hl 1 rfl) ?_
  refine lv_iconst (v := 3) hx hb dL_law_715 (by decide) ?_
  refine lv_iadd hx hb dL_law_716 ?_
  refine W.eq (g2 := F0 m 717 ls [.int 3, .ref b, .int (xs 2), .int (xs 1), .ref mo]) (by first | rfl | decide) ?_
  refine va_sld hx hb hX hbl hbA hS (by unfold vp_in; decide) dL_law_717 ?_
  refine W.eq (g2 := F0 m 718 ls [.int (xs 3), .int (xs 2), .int (xs 1), .ref mo]) rfl ?_
  obtain ⟨xcn, xia, xdr, xen, xla, xwo, xop, xmk, xir, xse, xec, xlc, xwc, xol, xal, -, hMob, -⟩ := id hMo
  refine m_kV (As := [.int (xs 1), .int (xs 2), .int (xs 3)]) (rest := []) (rm := { frames := 2, cells := 0, slots := 0, locals := 46 }) ⟨hx, hb, hml, hown, hts⟩ (c_X6_append l D k z _ mo (xs 1) (xs 2) (xs 3) hMo) (cwV 3 hts gL_law_X6_append rfl rfl rfl (by decide +kernel) ⟨Nat.le_of_ble_eq_true rfl, Nat.le_of_ble_eq_true rfl⟩) (m_recv hK hm (q := (RX6, TX6, 24)) rfl hMob) hz hcx hm hS rfl hl.1 rfl (Nat.le_of_ble_eq_true rfl) dL_law_718 ⟨Nat.le_of_ble_eq_true rfl, Nat.le_of_ble_eq_true rfl⟩ (fun v M1 H locs hv hm hS => ?_)
  obtain ⟨hv1, hC9⟩ := hv
  subst hv1
  obtain ⟨Mc2, hMx⟩ : ∃ x : mM, x = M1 := ⟨M1, rfl⟩
  subst hMx
  obtain ⟨fs9, hMc⟩ := hC9
  refine W.eq (g2 := F0 m 721 ls [.int 0]) rfl ?_
  refine W.widen (k := 139) (n := 404042) (Nat.le_of_ble_eq_true rfl) (Nat.le_of_ble_eq_true rfl) ?_
  refine lv_istore (lv' := [(6, .int 0), (5, .int 1), (4, .int 0), (3, .ref oa), (2, .ref mo), (1, .ref o), (0, .ref b)]) hx hb dL_law_721 hl (by decide) rfl (fun ls hl => ?_)
  refine lv_aload_n hx hb dL_law_723 rfl (lv_at hl 4 rfl) ?_
  refine m_kV (As := []) (rest := []) (rm := { frames := 0, cells := 0, slots := 0, locals := 0 }) ⟨hx, hb, hml, hown, hts⟩ (c_X6_thrown l D k z _ mo 1 fs9 hMc) (cwV 0 hts gL_law_X6_thrown rfl rfl rfl (by decide +kernel) ⟨Nat.le_of_ble_eq_true rfl, Nat.le_of_ble_eq_true rfl⟩) (m_recv hK hm (q := (RX6, TX6, 24)) rfl hMc) hz hcx hm hS rfl hl.1 rfl (Nat.le_of_ble_eq_true rfl) dL_law_724 ⟨Nat.le_of_ble_eq_true rfl, Nat.le_of_ble_eq_true rfl⟩ (fun v M1 H locs hv hm hS => ?_)
  obtain ⟨hv1, hM1⟩ := hv
  subst hv1
  rw [hM1] at hm
  refine W.eq (g2 := F0 m 727 ls [.int 1]) rfl ?_
  refine W.widen (k := 139) (n := 404042) (Nat.le_of_ble_eq_true rfl) (Nat.le_of_ble_eq_true rfl) ?_
  refine lv_iload hx hb dL_law_727 (lv_at hl 1 rfl) ?_
  refine lv_icmp_eq (tgt := 734) hx hb dL_law_729 (by decide) (fun c1 => ?_) (fun c1 => ?_)
  · refine lv_iload hx hb dL_law_734 (lv_at hl 1 rfl) ?_
    refine lv_if_ne (tgt := 751) hx hb dL_law_736 (by decide) (fun c2 => ?_) (fun c2 => ?_)
    · refine lv_goto (tgt := 1434) hx hb dL_law_751 (by decide) ?_
      refine W.widen (k := 160) (n := 406000) (Nat.le_of_ble_eq_true rfl) (Nat.le_of_ble_eq_true rfl) ?_
      exact LC_end l hlt C0 D k z hz hz2 hcxN hS (lv_sub hl [2, 6] rfl)
    · first | exact absurd c2 (by decide) | exact absurd (by decide) c2
  · first | exact absurd c1 (by decide) | exact absurd (by decide) c1

set_option maxHeartbeats 4000000 in
set_option maxRecDepth 100000 in
theorem LC_cut {p : Program} {e : Env} {s : State} {m : MethodId} {below : List Frame} {meth : Method} {c : Code} (l : Launch) (hlt : l.stackTraces = false) {b : Nat} {xs : Nat → Int32} (C0 : lw_At p s m meth c b 5 xs) (D : va_G) (k : Nat → ClassId) (z : Nat) (hz : z ≤ s.heap.size) (hz2 : s.heap.size ≤ z) (hcxN : cxN D k (AZ z) s) (o mo oa : Nat) (g9 : Nat → Int64) (M : mM) {H : Heap} {locs : List Loc} {ls : Array Slot} (hm : mm D (AZ z) M H) (hS : va_S (AZ z) s.heap H locs) (hF : cFr k M o) (hMo : mFr k M mo 0) (hoa : M oa = some (.inl (k 1, 1, .inr (.inl g9)))) (hl : lv_has ls 7 [(4, .int 0), (3, .ref oa), (2, .ref mo), (1, .ref o), (0, .ref b)]) : W p l e room_1 s m #[Value.ref b] below meth c H locs 138 404036 (lw_Z below #[Value.ref b] s) (F0 m 754 ls []) := by
  obtain ⟨hx, hb, hr, hml, hown, hts0, hX, hbl, hlocks, hgv⟩ := id C0
  have hts : ∀ w ∈ wsL_law, w.before #[Value.ref b] s = true := fun w h => hts0 w (wl_in w h)
  have hcx := hcxN.1
  have hK := hcx.1
  have hA : ∀ q, s.heap.size ≤ q → AZ z q := fun q h => Nat.le_trans hz h
  have hbA : ¬ AZ z b := fun h => absurd (Nat.le_trans hz2 h) (Nat.not_le.mpr hbl)
  refine lv_aload_n hx hb dL_law_754 rfl (lv_at hl 3 rfl) ?_
  refine lv_aload_n hx hb dL_law_755 rfl (lv_at hl 4 rfl) ?_
  refine lv_iload hx hb dL_law_756 (lv_at hl 0 rfl) ?_
  refine lv_iconst (v := 1) hx hb dL_law_758 (by decide) ?_
  refine lv_iadd hx hb dL_law_759 ?_
  refine W.eq (g2 := F0 m 760 ls [.int 1, .ref b, .ref o]) (by first | rfl | decide) ?_
  refine va_sld hx hb hX hbl hbA hS (by unfold vp_in; decide) dL_law_760 ?_
  refine W.eq (g2 := F0 m 761 ls [.int (xs 1), .ref o]) rfl ?_
  refine lv_aload_n hx hb dL_law_761 rfl (lv_at hl 4 rfl) ?_
  refine lv_iload hx hb dL_law_762 (lv_at hl 0 rfl) ?_
  refine lv_iconst (v := 2) hx hb dL_law_764 (by decide) ?_
  refine lv_iadd hx hb dL_law_765 ?_
  refine W.eq (g2 := F0 m 766 ls [.int 2, .ref b, .int (xs 1), .ref o]) (by first | rfl | decide) ?_
  refine va_sld hx hb hX hbl hbA hS (by unfold vp_in; decide) dL_law_766 ?_
  refine W.eq (g2 := F0 m 767 ls [.int (xs 2), .int (xs 1), .ref o]) rfl ?_
  refine lv_aload_n hx hb dL_law_767 rfl (lv_at hl 4 rfl) ?_
  refine lv_iload hx hb dL_law_768 (lv_at hl 0 rfl) ?_
  refine lv_iconst (v := 3) hx hb dL_law_770 (by decide) ?_
  refine lv_iadd hx hb dL_law_771 ?_
  refine W.eq (g2 := F0 m 772 ls [.int 3, .ref b, .int (xs 2), .int (xs 1), .ref o]) (by first | rfl | decide) ?_
  refine va_sld hx hb hX hbl hbA hS (by unfold vp_in; decide) dL_law_772 ?_
  refine W.eq (g2 := F0 m 773 ls [.int (xs 3), .int (xs 2), .int (xs 1), .ref o]) rfl ?_
  refine lv_aload_n hx hb dL_law_773 rfl (lv_at hl 1 rfl) ?_
  refine m_kSW (hh := [(0, 12, 15, 13), (0, 12, 19, 31), (0, 12, 23, 33), (0, 12, 27, 15), (0, 12, 31, 47)]) (As := [.ref o, .int (xs 1), .int (xs 2), .int (xs 3), .ref oa]) (rest := []) (rm := { frames := 8, cells := 1, slots := 6, locals := 129 }) ⟨hx, hb, hml, hown, hts⟩ (H_cut l hlt D k z _ o oa g9 hF hoa (xs 1) (xs 2) (xs 3)) (vx_cwSW 5 hts gL_law_L_cut rfl rfl rfl (by decide +kernel) ⟨Nat.le_of_ble_eq_true rfl, Nat.le_of_ble_eq_true rfl⟩) hz hcxN hm hS rfl hl.1 rfl (Nat.le_of_ble_eq_true rfl) dL_law_774 ⟨Nat.le_of_ble_eq_true rfl, Nat.le_of_ble_eq_true rfl⟩ (fun v M1 H locs hv hm hS => ?_)
  obtain ⟨Mc1, hMx⟩ : ∃ x : mM, x = M1 := ⟨M1, rfl⟩
  subst hMx
  obtain ⟨hv1, hk9⟩ := hv
  subst hv1
  have hMo := mFr_k2 hk9 hMo
  refine W.eq (g2 := F0 m 777 ls [.int 1]) rfl ?_
  refine W.widen (k := 139) (n := 404042) (Nat.le_of_ble_eq_true rfl) (Nat.le_of_ble_eq_true rfl) ?_
  refine lv_istore (lv' := [(5, .int 1), (4, .int 0), (3, .ref oa), (2, .ref mo), (1, .ref o), (0, .ref b)]) hx hb dL_law_777 hl (by decide) rfl (fun ls hl => ?_)
  refine lv_aload_n hx hb dL_law_779 rfl (lv_at hl 3 rfl) ?_
  refine lv_aload_n hx hb dL_law_780 rfl (lv_at hl 5 rfl) ?_
  refine lv_iload hx hb dL_law_781 (lv_at hl 1 rfl) ?_
  refine lv_iconst (v := 1) hx hb dL_law_783 (by decide) ?_
  refine lv_iadd hx hb dL_law_784 ?_
  refine W.eq (g2 := F0 m 785 ls [.int 1, .ref b, .ref mo]) (by first | rfl | decide) ?_
  refine va_sld hx hb hX hbl hbA hS (by unfold vp_in; decide) dL_law_785 ?_
  refine W.eq (g2 := F0 m 786 ls [.int (xs 1), .ref mo]) rfl ?_
  refine lv_aload_n hx hb dL_law_786 rfl (lv_at hl 5 rfl) ?_
  refine lv_iload hx hb dL_law_787 (lv_at hl 1 rfl) ?_
  refine lv_iconst (v := 2) hx hb dL_law_789 (by decide) ?_
  refine lv_iadd hx hb dL_law_790 ?_
  refine W.eq (g2 := F0 m 791 ls [.int 2, .ref b, .int (xs 1), .ref mo]) (by first | rfl | decide) ?_
  refine va_sld hx hb hX hbl hbA hS (by unfold vp_in; decide) dL_law_791 ?_
  refine W.eq (g2 := F0 m 792 ls [.int (xs 2), .int (xs 1), .ref mo]) rfl ?_
  refine lv_aload_n hx hb dL_law_792 rfl (lv_at hl 5 rfl) ?_
  refine lv_iload hx hb dL_law_793 (lv_at hl 1 rfl) ?_
  refine lv_iconst (v := 3) hx hb dL_law_795 (by decide) ?_
  refine lv_iadd hx hb dL_law_796 ?_
  refine W.eq (g2 := F0 m 797 ls [.int 3, .ref b, .int (xs 2), .int (xs 1), .ref mo]) (by first | rfl | decide) ?_
  refine va_sld hx hb hX hbl hbA hS (by unfold vp_in; decide) dL_law_797 ?_
  refine W.eq (g2 := F0 m 798 ls [.int (xs 3), .int (xs 2), .int (xs 1), .ref mo]) rfl ?_
  obtain ⟨xcn, xia, xdr, xen, xla, xwo, xop, xmk, xir, xse, xec, xlc, xwc, xol, xal, -, hMob, -⟩ := id hMo
  refine m_kV (As := [.int (xs 1), .int (xs 2), .int (xs 3)]) (rest := []) (rm := { frames := 2, cells := 0, slots := 0, locals := 46 }) ⟨hx, hb, hml, hown, hts⟩ (c_X6_cut l D k z _ mo (xs 1) (xs 2) (xs 3) hMo) (cwV 3 hts gL_law_X6_cut rfl rfl rfl (by decide +kernel) ⟨Nat.le_of_ble_eq_true rfl, Nat.le_of_ble_eq_true rfl⟩) (m_recv hK hm (q := (RX6, TX6, 24)) rfl hMob) hz hcx hm hS rfl hl.1 rfl (Nat.le_of_ble_eq_true rfl) dL_law_798 ⟨Nat.le_of_ble_eq_true rfl, Nat.le_of_ble_eq_true rfl⟩ (fun v M1 H locs hv hm hS => ?_)
  obtain ⟨hv1, hC9⟩ := hv
  subst hv1
  obtain ⟨Mc2, hMx⟩ : ∃ x : mM, x = M1 := ⟨M1, rfl⟩
  subst hMx
  obtain ⟨fs9, hMc⟩ := hC9
  refine W.eq (g2 := F0 m 801 ls [.int 0]) rfl ?_
  refine W.widen (k := 139) (n := 404042) (Nat.le_of_ble_eq_true rfl) (Nat.le_of_ble_eq_true rfl) ?_
  refine lv_istore (lv' := [(6, .int 0), (5, .int 1), (4, .int 0), (3, .ref oa), (2, .ref mo), (1, .ref o), (0, .ref b)]) hx hb dL_law_801 hl (by decide) rfl (fun ls hl => ?_)
  refine lv_aload_n hx hb dL_law_803 rfl (lv_at hl 4 rfl) ?_
  refine m_kV (As := []) (rest := []) (rm := { frames := 0, cells := 0, slots := 0, locals := 0 }) ⟨hx, hb, hml, hown, hts⟩ (c_X6_thrown l D k z _ mo 1 fs9 hMc) (cwV 0 hts gL_law_X6_thrown rfl rfl rfl (by decide +kernel) ⟨Nat.le_of_ble_eq_true rfl, Nat.le_of_ble_eq_true rfl⟩) (m_recv hK hm (q := (RX6, TX6, 24)) rfl hMc) hz hcx hm hS rfl hl.1 rfl (Nat.le_of_ble_eq_true rfl) dL_law_804 ⟨Nat.le_of_ble_eq_true rfl, Nat.le_of_ble_eq_true rfl⟩ (fun v M1 H locs hv hm hS => ?_)
  obtain ⟨hv1, hM1⟩ := hv
  subst hv1
  rw [hM1] at hm
  refine W.eq (g2 := F0 m 807 ls [.int 1]) rfl ?_
  refine W.widen (k := 139) (n := 404042) (Nat.le_of_ble_eq_true rfl) (Nat.le_of_ble_eq_true rfl) ?_
  refine lv_iload hx hb dL_law_807 (lv_at hl 1 rfl) ?_
  refine lv_icmp_eq (tgt := 814) hx hb dL_law_809 (by decide) (fun c1 => ?_) (fun c1 => ?_)
  · refine lv_iload hx hb dL_law_814 (lv_at hl 1 rfl) ?_
    refine lv_if_ne (tgt := 831) hx hb dL_law_816 (by decide) (fun c2 => ?_) (fun c2 => ?_)
    · refine lv_goto (tgt := 1434) hx hb dL_law_831 (by decide) ?_
      refine W.widen (k := 160) (n := 406000) (Nat.le_of_ble_eq_true rfl) (Nat.le_of_ble_eq_true rfl) ?_
      exact LC_end l hlt C0 D k z hz hz2 hcxN hS (lv_sub hl [2, 6] rfl)
    · first | exact absurd c2 (by decide) | exact absurd (by decide) c2
  · first | exact absurd c1 (by decide) | exact absurd (by decide) c1

set_option maxHeartbeats 4000000 in
set_option maxRecDepth 100000 in
theorem LC_read {p : Program} {e : Env} {s : State} {m : MethodId} {below : List Frame} {meth : Method} {c : Code} (l : Launch) (hlt : l.stackTraces = false) {b : Nat} {xs : Nat → Int32} (C0 : lw_At p s m meth c b 5 xs) (D : va_G) (k : Nat → ClassId) (z : Nat) (hz : z ≤ s.heap.size) (hz2 : s.heap.size ≤ z) (hcxN : cxN D k (AZ z) s) (o mo oa : Nat) (g9 : Nat → Int64) (M : mM) {H : Heap} {locs : List Loc} {ls : Array Slot} (hm : mm D (AZ z) M H) (hS : va_S (AZ z) s.heap H locs) (hF : cFr k M o) (hMo : mFr k M mo 0) (hoa : M oa = some (.inl (k 1, 1, .inr (.inl g9)))) (hl : lv_has ls 7 [(4, .int 0), (3, .ref oa), (2, .ref mo), (1, .ref o), (0, .ref b)]) : W p l e room_1 s m #[Value.ref b] below meth c H locs 138 404036 (lw_Z below #[Value.ref b] s) (F0 m 834 ls []) := by
  obtain ⟨hx, hb, hr, hml, hown, hts0, hX, hbl, hlocks, hgv⟩ := id C0
  have hts : ∀ w ∈ wsL_law, w.before #[Value.ref b] s = true := fun w h => hts0 w (wl_in w h)
  have hcx := hcxN.1
  have hK := hcx.1
  have hA : ∀ q, s.heap.size ≤ q → AZ z q := fun q h => Nat.le_trans hz h
  have hbA : ¬ AZ z b := fun h => absurd (Nat.le_trans hz2 h) (Nat.not_le.mpr hbl)
  refine lv_aload_n hx hb dL_law_834 rfl (lv_at hl 3 rfl) ?_
  refine lv_aload_n hx hb dL_law_835 rfl (lv_at hl 4 rfl) ?_
  refine lv_iload hx hb dL_law_836 (lv_at hl 0 rfl) ?_
  refine lv_iconst (v := 1) hx hb dL_law_838 (by decide) ?_
  refine lv_iadd hx hb dL_law_839 ?_
  refine W.eq (g2 := F0 m 840 ls [.int 1, .ref b, .ref o]) (by first | rfl | decide) ?_
  refine va_sld hx hb hX hbl hbA hS (by unfold vp_in; decide) dL_law_840 ?_
  refine W.eq (g2 := F0 m 841 ls [.int (xs 1), .ref o]) rfl ?_
  refine lv_aload_n hx hb dL_law_841 rfl (lv_at hl 4 rfl) ?_
  refine lv_iload hx hb dL_law_842 (lv_at hl 0 rfl) ?_
  refine lv_iconst (v := 2) hx hb dL_law_844 (by decide) ?_
  refine lv_iadd hx hb dL_law_845 ?_
  refine W.eq (g2 := F0 m 846 ls [.int 2, .ref b, .int (xs 1), .ref o]) (by first | rfl | decide) ?_
  refine va_sld hx hb hX hbl hbA hS (by unfold vp_in; decide) dL_law_846 ?_
  refine W.eq (g2 := F0 m 847 ls [.int (xs 2), .int (xs 1), .ref o]) rfl ?_
  refine lv_aload_n hx hb dL_law_847 rfl (lv_at hl 4 rfl) ?_
  refine lv_iload hx hb dL_law_848 (lv_at hl 0 rfl) ?_
  refine lv_iconst (v := 3) hx hb dL_law_850 (by decide) ?_
  refine lv_iadd hx hb dL_law_851 ?_
  refine W.eq (g2 := F0 m 852 ls [.int 3, .ref b, .int (xs 2), .int (xs 1), .ref o]) (by first | rfl | decide) ?_
  refine va_sld hx hb hX hbl hbA hS (by unfold vp_in; decide) dL_law_852 ?_
  refine W.eq (g2 := F0 m 853 ls [.int (xs 3), .int (xs 2), .int (xs 1), .ref o]) rfl ?_
  refine lv_aload_n hx hb dL_law_853 rfl (lv_at hl 1 rfl) ?_
  refine m_kSW (hh := [(0, 12, 15, 13), (0, 12, 19, 31), (0, 12, 23, 33), (0, 12, 27, 15), (0, 12, 31, 47)]) (As := [.ref o, .int (xs 1), .int (xs 2), .int (xs 3), .ref oa]) (rest := []) (rm := { frames := 9, cells := 3, slots := 18, locals := 150 }) ⟨hx, hb, hml, hown, hts⟩ (H_read l hlt D k z _ o oa g9 hF hoa (xs 1) (xs 2) (xs 3)) (vx_cwSW 5 hts gL_law_L_read rfl rfl rfl (by decide +kernel) ⟨Nat.le_of_ble_eq_true rfl, Nat.le_of_ble_eq_true rfl⟩) hz hcxN hm hS rfl hl.1 rfl (Nat.le_of_ble_eq_true rfl) dL_law_854 ⟨Nat.le_of_ble_eq_true rfl, Nat.le_of_ble_eq_true rfl⟩ (fun v M1 H locs hv hm hS => ?_)
  obtain ⟨Mc1, hMx⟩ : ∃ x : mM, x = M1 := ⟨M1, rfl⟩
  subst hMx
  obtain ⟨hv2, hk9⟩ := hv
  rcases hv2 with ⟨ht9, hv1⟩ | ⟨ht9, ⟨hp9, hv1⟩ | ⟨hp9, h09, hv1⟩ | ⟨hp9, h09, hv1⟩⟩
  · subst hv1
    have hMo := mFr_k2 hk9 hMo
    refine W.eq (g2 := F0 m 857 ls [.int 1]) rfl ?_
    refine W.widen (k := 141) (n := 404054) (Nat.le_of_ble_eq_true rfl) (Nat.le_of_ble_eq_true rfl) ?_
    refine lv_istore (lv' := [(5, .int 1), (4, .int 0), (3, .ref oa), (2, .ref mo), (1, .ref o), (0, .ref b)]) hx hb dL_law_857 hl (by decide) rfl (fun ls hl => ?_)
    refine lv_aload_n hx hb dL_law_859 rfl (lv_at hl 3 rfl) ?_
    refine lv_aload_n hx hb dL_law_860 rfl (lv_at hl 5 rfl) ?_
    refine lv_iload hx hb dL_law_861 (lv_at hl 1 rfl) ?_
    refine lv_iconst (v := 1) hx hb dL_law_863 (by decide) ?_
    refine lv_iadd hx hb dL_law_864 ?_
    refine W.eq (g2 := F0 m 865 ls [.int 1, .ref b, .ref mo]) (by first | rfl | decide) ?_
    refine va_sld hx hb hX hbl hbA hS (by unfold vp_in; decide) dL_law_865 ?_
    refine W.eq (g2 := F0 m 866 ls [.int (xs 1), .ref mo]) rfl ?_
    refine lv_aload_n hx hb dL_law_866 rfl (lv_at hl 5 rfl) ?_
    refine lv_iload hx hb dL_law_867 (lv_at hl 1 rfl) ?_
    refine lv_iconst (v := 2) hx hb dL_law_869 (by decide) ?_
    refine lv_iadd hx hb dL_law_870 ?_
    refine W.eq (g2 := F0 m 871 ls [.int 2, .ref b, .int (xs 1), .ref mo]) (by first | rfl | decide) ?_
    refine va_sld hx hb hX hbl hbA hS (by unfold vp_in; decide) dL_law_871 ?_
    refine W.eq (g2 := F0 m 872 ls [.int (xs 2), .int (xs 1), .ref mo]) rfl ?_
    refine lv_aload_n hx hb dL_law_872 rfl (lv_at hl 5 rfl) ?_
    refine lv_iload hx hb dL_law_873 (lv_at hl 1 rfl) ?_
    refine lv_iconst (v := 3) hx hb dL_law_875 (by decide) ?_
    refine lv_iadd hx hb dL_law_876 ?_
    refine W.eq (g2 := F0 m 877 ls [.int 3, .ref b, .int (xs 2), .int (xs 1), .ref mo]) (by first | rfl | decide) ?_
    refine va_sld hx hb hX hbl hbA hS (by unfold vp_in; decide) dL_law_877 ?_
    refine W.eq (g2 := F0 m 878 ls [.int (xs 3), .int (xs 2), .int (xs 1), .ref mo]) rfl ?_
    obtain ⟨xcn, xia, xdr, xen, xla, xwo, xop, xmk, xir, xse, xec, xlc, xwc, xol, xal, -, hMob, -⟩ := id hMo
    refine m_kV (As := [.int (xs 1), .int (xs 2), .int (xs 3)]) (rest := []) (rm := { frames := 4, cells := 0, slots := 0, locals := 98 }) ⟨hx, hb, hml, hown, hts⟩ (c_X6_read l D k z _ mo (xs 1) (xs 2) (xs 3) hMo) (cwV 3 hts gL_law_X6_read rfl rfl rfl (by decide +kernel) ⟨Nat.le_of_ble_eq_true rfl, Nat.le_of_ble_eq_true rfl⟩) (m_recv hK hm (q := (RX6, TX6, 24)) rfl hMob) hz hcx hm hS rfl hl.1 rfl (Nat.le_of_ble_eq_true rfl) dL_law_878 ⟨Nat.le_of_ble_eq_true rfl, Nat.le_of_ble_eq_true rfl⟩ (fun v M1 H locs hv hm hS => ?_)
    obtain ⟨hv1, hC8⟩ := hv
    subst hv1
    have hC9 : codeIs M1 mo 1 := by
      rcases hC8 with ⟨h, h2⟩ | ⟨h, cd, h3, h2⟩
      · exact h2
      · exact absurd h ht9
    obtain ⟨Mc2, hMx⟩ : ∃ x : mM, x = M1 := ⟨M1, rfl⟩
    subst hMx
    obtain ⟨fs9, hMc⟩ := hC9
    refine W.eq (g2 := F0 m 881 ls [.int 0]) rfl ?_
    refine W.widen (k := 141) (n := 404054) (Nat.le_of_ble_eq_true rfl) (Nat.le_of_ble_eq_true rfl) ?_
    refine lv_istore (lv' := [(6, .int 0), (5, .int 1), (4, .int 0), (3, .ref oa), (2, .ref mo), (1, .ref o), (0, .ref b)]) hx hb dL_law_881 hl (by decide) rfl (fun ls hl => ?_)
    refine lv_aload_n hx hb dL_law_883 rfl (lv_at hl 4 rfl) ?_
    refine m_kV (As := []) (rest := []) (rm := { frames := 0, cells := 0, slots := 0, locals := 0 }) ⟨hx, hb, hml, hown, hts⟩ (c_X6_thrown l D k z _ mo 1 fs9 hMc) (cwV 0 hts gL_law_X6_thrown rfl rfl rfl (by decide +kernel) ⟨Nat.le_of_ble_eq_true rfl, Nat.le_of_ble_eq_true rfl⟩) (m_recv hK hm (q := (RX6, TX6, 24)) rfl hMc) hz hcx hm hS rfl hl.1 rfl (Nat.le_of_ble_eq_true rfl) dL_law_884 ⟨Nat.le_of_ble_eq_true rfl, Nat.le_of_ble_eq_true rfl⟩ (fun v M1 H locs hv hm hS => ?_)
    obtain ⟨hv1, hM1⟩ := hv
    subst hv1
    rw [hM1] at hm
    refine W.eq (g2 := F0 m 887 ls [.int 1]) rfl ?_
    refine W.widen (k := 141) (n := 404054) (Nat.le_of_ble_eq_true rfl) (Nat.le_of_ble_eq_true rfl) ?_
    refine lv_iload hx hb dL_law_887 (lv_at hl 1 rfl) ?_
    refine lv_icmp_eq (tgt := 894) hx hb dL_law_889 (by decide) (fun c1 => ?_) (fun c1 => ?_)
    · refine lv_iload hx hb dL_law_894 (lv_at hl 1 rfl) ?_
      refine lv_if_ne (tgt := 911) hx hb dL_law_896 (by decide) (fun c2 => ?_) (fun c2 => ?_)
      · refine lv_goto (tgt := 1434) hx hb dL_law_911 (by decide) ?_
        refine W.widen (k := 160) (n := 406000) (Nat.le_of_ble_eq_true rfl) (Nat.le_of_ble_eq_true rfl) ?_
        exact LC_end l hlt C0 D k z hz hz2 hcxN hS (lv_sub hl [2, 6] rfl)
      · first | exact absurd c2 (by decide) | exact absurd (by decide) c2
    · first | exact absurd c1 (by decide) | exact absurd (by decide) c1
  · subst hv1
    have hMo := mFr_k2 hk9 hMo
    refine W.eq (g2 := F0 m 857 ls [.int 2]) rfl ?_
    refine W.widen (k := 141) (n := 404054) (Nat.le_of_ble_eq_true rfl) (Nat.le_of_ble_eq_true rfl) ?_
    refine lv_istore (lv' := [(5, .int 2), (4, .int 0), (3, .ref oa), (2, .ref mo), (1, .ref o), (0, .ref b)]) hx hb dL_law_857 hl (by decide) rfl (fun ls hl => ?_)
    refine lv_aload_n hx hb dL_law_859 rfl (lv_at hl 3 rfl) ?_
    refine lv_aload_n hx hb dL_law_860 rfl (lv_at hl 5 rfl) ?_
    refine lv_iload hx hb dL_law_861 (lv_at hl 1 rfl) ?_
    refine lv_iconst (v := 1) hx hb dL_law_863 (by decide) ?_
    refine lv_iadd hx hb dL_law_864 ?_
    refine W.eq (g2 := F0 m 865 ls [.int 1, .ref b, .ref mo]) (by first | rfl | decide) ?_
    refine va_sld hx hb hX hbl hbA hS (by unfold vp_in; decide) dL_law_865 ?_
    refine W.eq (g2 := F0 m 866 ls [.int (xs 1), .ref mo]) rfl ?_
    refine lv_aload_n hx hb dL_law_866 rfl (lv_at hl 5 rfl) ?_
    refine lv_iload hx hb dL_law_867 (lv_at hl 1 rfl) ?_
    refine lv_iconst (v := 2) hx hb dL_law_869 (by decide) ?_
    refine lv_iadd hx hb dL_law_870 ?_
    refine W.eq (g2 := F0 m 871 ls [.int 2, .ref b, .int (xs 1), .ref mo]) (by first | rfl | decide) ?_
    refine va_sld hx hb hX hbl hbA hS (by unfold vp_in; decide) dL_law_871 ?_
    refine W.eq (g2 := F0 m 872 ls [.int (xs 2), .int (xs 1), .ref mo]) rfl ?_
    refine lv_aload_n hx hb dL_law_872 rfl (lv_at hl 5 rfl) ?_
    refine lv_iload hx hb dL_law_873 (lv_at hl 1 rfl) ?_
    refine lv_iconst (v := 3) hx hb dL_law_875 (by decide) ?_
    refine lv_iadd hx hb dL_law_876 ?_
    refine W.eq (g2 := F0 m 877 ls [.int 3, .ref b, .int (xs 2), .int (xs 1), .ref mo]) (by first | rfl | decide) ?_
    refine va_sld hx hb hX hbl hbA hS (by unfold vp_in; decide) dL_law_877 ?_
    refine W.eq (g2 := F0 m 878 ls [.int (xs 3), .int (xs 2), .int (xs 1), .ref mo]) rfl ?_
    obtain ⟨xcn, xia, xdr, xen, xla, xwo, xop, xmk, xir, xse, xec, xlc, xwc, xol, xal, -, hMob, -⟩ := id hMo
    refine m_kV (As := [.int (xs 1), .int (xs 2), .int (xs 3)]) (rest := []) (rm := { frames := 4, cells := 0, slots := 0, locals := 98 }) ⟨hx, hb, hml, hown, hts⟩ (c_X6_read l D k z _ mo (xs 1) (xs 2) (xs 3) hMo) (cwV 3 hts gL_law_X6_read rfl rfl rfl (by decide +kernel) ⟨Nat.le_of_ble_eq_true rfl, Nat.le_of_ble_eq_true rfl⟩) (m_recv hK hm (q := (RX6, TX6, 24)) rfl hMob) hz hcx hm hS rfl hl.1 rfl (Nat.le_of_ble_eq_true rfl) dL_law_878 ⟨Nat.le_of_ble_eq_true rfl, Nat.le_of_ble_eq_true rfl⟩ (fun v M1 H locs hv hm hS => ?_)
    obtain ⟨hv1, hC8⟩ := hv
    subst hv1
    have hC9 : codeIs M1 mo 2 := by
      rcases hC8 with ⟨h, h2⟩ | ⟨h, cd, h3, h2⟩
      · exact absurd ht9 h
      · rcases h3 with ⟨h4, rfl⟩ | ⟨h4, h5, rfl⟩ | ⟨h4, h5, rfl⟩
        · exact h2
        · exact absurd h4 hp9
        · exact absurd h4 hp9
    obtain ⟨Mc3, hMx⟩ : ∃ x : mM, x = M1 := ⟨M1, rfl⟩
    subst hMx
    obtain ⟨fs9, hMc⟩ := hC9
    refine W.eq (g2 := F0 m 881 ls [.int 0]) rfl ?_
    refine W.widen (k := 141) (n := 404054) (Nat.le_of_ble_eq_true rfl) (Nat.le_of_ble_eq_true rfl) ?_
    refine lv_istore (lv' := [(6, .int 0), (5, .int 2), (4, .int 0), (3, .ref oa), (2, .ref mo), (1, .ref o), (0, .ref b)]) hx hb dL_law_881 hl (by decide) rfl (fun ls hl => ?_)
    refine lv_aload_n hx hb dL_law_883 rfl (lv_at hl 4 rfl) ?_
    refine m_kV (As := []) (rest := []) (rm := { frames := 0, cells := 0, slots := 0, locals := 0 }) ⟨hx, hb, hml, hown, hts⟩ (c_X6_thrown l D k z _ mo 2 fs9 hMc) (cwV 0 hts gL_law_X6_thrown rfl rfl rfl (by decide +kernel) ⟨Nat.le_of_ble_eq_true rfl, Nat.le_of_ble_eq_true rfl⟩) (m_recv hK hm (q := (RX6, TX6, 24)) rfl hMc) hz hcx hm hS rfl hl.1 rfl (Nat.le_of_ble_eq_true rfl) dL_law_884 ⟨Nat.le_of_ble_eq_true rfl, Nat.le_of_ble_eq_true rfl⟩ (fun v M1 H locs hv hm hS => ?_)
    obtain ⟨hv1, hM1⟩ := hv
    subst hv1
    rw [hM1] at hm
    refine W.eq (g2 := F0 m 887 ls [.int 2]) rfl ?_
    refine W.widen (k := 141) (n := 404054) (Nat.le_of_ble_eq_true rfl) (Nat.le_of_ble_eq_true rfl) ?_
    refine lv_iload hx hb dL_law_887 (lv_at hl 1 rfl) ?_
    refine lv_icmp_eq (tgt := 894) hx hb dL_law_889 (by decide) (fun c3 => ?_) (fun c3 => ?_)
    · refine lv_iload hx hb dL_law_894 (lv_at hl 1 rfl) ?_
      refine lv_if_ne (tgt := 911) hx hb dL_law_896 (by decide) (fun c4 => ?_) (fun c4 => ?_)
      · refine lv_goto (tgt := 1434) hx hb dL_law_911 (by decide) ?_
        refine W.widen (k := 160) (n := 406000) (Nat.le_of_ble_eq_true rfl) (Nat.le_of_ble_eq_true rfl) ?_
        exact LC_end l hlt C0 D k z hz hz2 hcxN hS (lv_sub hl [2, 6] rfl)
      · first | exact absurd c4 (by decide) | exact absurd (by decide) c4
    · first | exact absurd c3 (by decide) | exact absurd (by decide) c3
  · subst hv1
    have hMo := mFr_k2 hk9 hMo
    refine W.eq (g2 := F0 m 857 ls [.int 3]) rfl ?_
    refine W.widen (k := 141) (n := 404054) (Nat.le_of_ble_eq_true rfl) (Nat.le_of_ble_eq_true rfl) ?_
    refine lv_istore (lv' := [(5, .int 3), (4, .int 0), (3, .ref oa), (2, .ref mo), (1, .ref o), (0, .ref b)]) hx hb dL_law_857 hl (by decide) rfl (fun ls hl => ?_)
    refine lv_aload_n hx hb dL_law_859 rfl (lv_at hl 3 rfl) ?_
    refine lv_aload_n hx hb dL_law_860 rfl (lv_at hl 5 rfl) ?_
    refine lv_iload hx hb dL_law_861 (lv_at hl 1 rfl) ?_
    refine lv_iconst (v := 1) hx hb dL_law_863 (by decide) ?_
    refine lv_iadd hx hb dL_law_864 ?_
    refine W.eq (g2 := F0 m 865 ls [.int 1, .ref b, .ref mo]) (by first | rfl | decide) ?_
    refine va_sld hx hb hX hbl hbA hS (by unfold vp_in; decide) dL_law_865 ?_
    refine W.eq (g2 := F0 m 866 ls [.int (xs 1), .ref mo]) rfl ?_
    refine lv_aload_n hx hb dL_law_866 rfl (lv_at hl 5 rfl) ?_
    refine lv_iload hx hb dL_law_867 (lv_at hl 1 rfl) ?_
    refine lv_iconst (v := 2) hx hb dL_law_869 (by decide) ?_
    refine lv_iadd hx hb dL_law_870 ?_
    refine W.eq (g2 := F0 m 871 ls [.int 2, .ref b, .int (xs 1), .ref mo]) (by first | rfl | decide) ?_
    refine va_sld hx hb hX hbl hbA hS (by unfold vp_in; decide) dL_law_871 ?_
    refine W.eq (g2 := F0 m 872 ls [.int (xs 2), .int (xs 1), .ref mo]) rfl ?_
    refine lv_aload_n hx hb dL_law_872 rfl (lv_at hl 5 rfl) ?_
    refine lv_iload hx hb dL_law_873 (lv_at hl 1 rfl) ?_
    refine lv_iconst (v := 3) hx hb dL_law_875 (by decide) ?_
    refine lv_iadd hx hb dL_law_876 ?_
    refine W.eq (g2 := F0 m 877 ls [.int 3, .ref b, .int (xs 2), .int (xs 1), .ref mo]) (by first | rfl | decide) ?_
    refine va_sld hx hb hX hbl hbA hS (by unfold vp_in; decide) dL_law_877 ?_
    refine W.eq (g2 := F0 m 878 ls [.int (xs 3), .int (xs 2), .int (xs 1), .ref mo]) rfl ?_
    obtain ⟨xcn, xia, xdr, xen, xla, xwo, xop, xmk, xir, xse, xec, xlc, xwc, xol, xal, -, hMob, -⟩ := id hMo
    refine m_kV (As := [.int (xs 1), .int (xs 2), .int (xs 3)]) (rest := []) (rm := { frames := 4, cells := 0, slots := 0, locals := 98 }) ⟨hx, hb, hml, hown, hts⟩ (c_X6_read l D k z _ mo (xs 1) (xs 2) (xs 3) hMo) (cwV 3 hts gL_law_X6_read rfl rfl rfl (by decide +kernel) ⟨Nat.le_of_ble_eq_true rfl, Nat.le_of_ble_eq_true rfl⟩) (m_recv hK hm (q := (RX6, TX6, 24)) rfl hMob) hz hcx hm hS rfl hl.1 rfl (Nat.le_of_ble_eq_true rfl) dL_law_878 ⟨Nat.le_of_ble_eq_true rfl, Nat.le_of_ble_eq_true rfl⟩ (fun v M1 H locs hv hm hS => ?_)
    obtain ⟨hv1, hC8⟩ := hv
    subst hv1
    have hC9 : codeIs M1 mo 3 := by
      rcases hC8 with ⟨h, h2⟩ | ⟨h, cd, h3, h2⟩
      · exact absurd ht9 h
      · rcases h3 with ⟨h4, rfl⟩ | ⟨h4, h5, rfl⟩ | ⟨h4, h5, rfl⟩
        · exact absurd hp9 h4
        · exact h2
        · exact absurd h5 h09
    obtain ⟨Mc4, hMx⟩ : ∃ x : mM, x = M1 := ⟨M1, rfl⟩
    subst hMx
    obtain ⟨fs9, hMc⟩ := hC9
    refine W.eq (g2 := F0 m 881 ls [.int 0]) rfl ?_
    refine W.widen (k := 141) (n := 404054) (Nat.le_of_ble_eq_true rfl) (Nat.le_of_ble_eq_true rfl) ?_
    refine lv_istore (lv' := [(6, .int 0), (5, .int 3), (4, .int 0), (3, .ref oa), (2, .ref mo), (1, .ref o), (0, .ref b)]) hx hb dL_law_881 hl (by decide) rfl (fun ls hl => ?_)
    refine lv_aload_n hx hb dL_law_883 rfl (lv_at hl 4 rfl) ?_
    refine m_kV (As := []) (rest := []) (rm := { frames := 0, cells := 0, slots := 0, locals := 0 }) ⟨hx, hb, hml, hown, hts⟩ (c_X6_thrown l D k z _ mo 3 fs9 hMc) (cwV 0 hts gL_law_X6_thrown rfl rfl rfl (by decide +kernel) ⟨Nat.le_of_ble_eq_true rfl, Nat.le_of_ble_eq_true rfl⟩) (m_recv hK hm (q := (RX6, TX6, 24)) rfl hMc) hz hcx hm hS rfl hl.1 rfl (Nat.le_of_ble_eq_true rfl) dL_law_884 ⟨Nat.le_of_ble_eq_true rfl, Nat.le_of_ble_eq_true rfl⟩ (fun v M1 H locs hv hm hS => ?_)
    obtain ⟨hv1, hM1⟩ := hv
    subst hv1
    rw [hM1] at hm
    refine W.eq (g2 := F0 m 887 ls [.int 3]) rfl ?_
    refine W.widen (k := 141) (n := 404054) (Nat.le_of_ble_eq_true rfl) (Nat.le_of_ble_eq_true rfl) ?_
    refine lv_iload hx hb dL_law_887 (lv_at hl 1 rfl) ?_
    refine lv_icmp_eq (tgt := 894) hx hb dL_law_889 (by decide) (fun c5 => ?_) (fun c5 => ?_)
    · refine lv_iload hx hb dL_law_894 (lv_at hl 1 rfl) ?_
      refine lv_if_ne (tgt := 911) hx hb dL_law_896 (by decide) (fun c6 => ?_) (fun c6 => ?_)
      · refine lv_goto (tgt := 1434) hx hb dL_law_911 (by decide) ?_
        refine W.widen (k := 160) (n := 406000) (Nat.le_of_ble_eq_true rfl) (Nat.le_of_ble_eq_true rfl) ?_
        exact LC_end l hlt C0 D k z hz hz2 hcxN hS (lv_sub hl [2, 6] rfl)
      · first | exact absurd c6 (by decide) | exact absurd (by decide) c6
    · first | exact absurd c5 (by decide) | exact absurd (by decide) c5
  · subst hv1
    have hMo := mFr_k2 hk9 hMo
    refine W.eq (g2 := F0 m 857 ls [.int 4]) rfl ?_
    refine W.widen (k := 141) (n := 404054) (Nat.le_of_ble_eq_true rfl) (Nat.le_of_ble_eq_true rfl) ?_
    refine lv_istore (lv' := [(5, .int 4), (4, .int 0), (3, .ref oa), (2, .ref mo), (1, .ref o), (0, .ref b)]) hx hb dL_law_857 hl (by decide) rfl (fun ls hl => ?_)
    refine lv_aload_n hx hb dL_law_859 rfl (lv_at hl 3 rfl) ?_
    refine lv_aload_n hx hb dL_law_860 rfl (lv_at hl 5 rfl) ?_
    refine lv_iload hx hb dL_law_861 (lv_at hl 1 rfl) ?_
    refine lv_iconst (v := 1) hx hb dL_law_863 (by decide) ?_
    refine lv_iadd hx hb dL_law_864 ?_
    refine W.eq (g2 := F0 m 865 ls [.int 1, .ref b, .ref mo]) (by first | rfl | decide) ?_
    refine va_sld hx hb hX hbl hbA hS (by unfold vp_in; decide) dL_law_865 ?_
    refine W.eq (g2 := F0 m 866 ls [.int (xs 1), .ref mo]) rfl ?_
    refine lv_aload_n hx hb dL_law_866 rfl (lv_at hl 5 rfl) ?_
    refine lv_iload hx hb dL_law_867 (lv_at hl 1 rfl) ?_
    refine lv_iconst (v := 2) hx hb dL_law_869 (by decide) ?_
    refine lv_iadd hx hb dL_law_870 ?_
    refine W.eq (g2 := F0 m 871 ls [.int 2, .ref b, .int (xs 1), .ref mo]) (by first | rfl | decide) ?_
    refine va_sld hx hb hX hbl hbA hS (by unfold vp_in; decide) dL_law_871 ?_
    refine W.eq (g2 := F0 m 872 ls [.int (xs 2), .int (xs 1), .ref mo]) rfl ?_
    refine lv_aload_n hx hb dL_law_872 rfl (lv_at hl 5 rfl) ?_
    refine lv_iload hx hb dL_law_873 (lv_at hl 1 rfl) ?_
    refine lv_iconst (v := 3) hx hb dL_law_875 (by decide) ?_
    refine lv_iadd hx hb dL_law_876 ?_
    refine W.eq (g2 := F0 m 877 ls [.int 3, .ref b, .int (xs 2), .int (xs 1), .ref mo]) (by first | rfl | decide) ?_
    refine va_sld hx hb hX hbl hbA hS (by unfold vp_in; decide) dL_law_877 ?_
    refine W.eq (g2 := F0 m 878 ls [.int (xs 3), .int (xs 2), .int (xs 1), .ref mo]) rfl ?_
    obtain ⟨xcn, xia, xdr, xen, xla, xwo, xop, xmk, xir, xse, xec, xlc, xwc, xol, xal, -, hMob, -⟩ := id hMo
    refine m_kV (As := [.int (xs 1), .int (xs 2), .int (xs 3)]) (rest := []) (rm := { frames := 4, cells := 0, slots := 0, locals := 98 }) ⟨hx, hb, hml, hown, hts⟩ (c_X6_read l D k z _ mo (xs 1) (xs 2) (xs 3) hMo) (cwV 3 hts gL_law_X6_read rfl rfl rfl (by decide +kernel) ⟨Nat.le_of_ble_eq_true rfl, Nat.le_of_ble_eq_true rfl⟩) (m_recv hK hm (q := (RX6, TX6, 24)) rfl hMob) hz hcx hm hS rfl hl.1 rfl (Nat.le_of_ble_eq_true rfl) dL_law_878 ⟨Nat.le_of_ble_eq_true rfl, Nat.le_of_ble_eq_true rfl⟩ (fun v M1 H locs hv hm hS => ?_)
    obtain ⟨hv1, hC8⟩ := hv
    subst hv1
    have hC9 : codeIs M1 mo 4 := by
      rcases hC8 with ⟨h, h2⟩ | ⟨h, cd, h3, h2⟩
      · exact absurd ht9 h
      · rcases h3 with ⟨h4, rfl⟩ | ⟨h4, h5, rfl⟩ | ⟨h4, h5, rfl⟩
        · exact absurd hp9 h4
        · exact absurd h09 h5
        · exact h2
    obtain ⟨Mc5, hMx⟩ : ∃ x : mM, x = M1 := ⟨M1, rfl⟩
    subst hMx
    obtain ⟨fs9, hMc⟩ := hC9
    refine W.eq (g2 := F0 m 881 ls [.int 0]) rfl ?_
    refine W.widen (k := 141) (n := 404054) (Nat.le_of_ble_eq_true rfl) (Nat.le_of_ble_eq_true rfl) ?_
    refine lv_istore (lv' := [(6, .int 0), (5, .int 4), (4, .int 0), (3, .ref oa), (2, .ref mo), (1, .ref o), (0, .ref b)]) hx hb dL_law_881 hl (by decide) rfl (fun ls hl => ?_)
    refine lv_aload_n hx hb dL_law_883 rfl (lv_at hl 4 rfl) ?_
    refine m_kV (As := []) (rest := []) (rm := { frames := 0, cells := 0, slots := 0, locals := 0 }) ⟨hx, hb, hml, hown, hts⟩ (c_X6_thrown l D k z _ mo 4 fs9 hMc) (cwV 0 hts gL_law_X6_thrown rfl rfl rfl (by decide +kernel) ⟨Nat.le_of_ble_eq_true rfl, Nat.le_of_ble_eq_true rfl⟩) (m_recv hK hm (q := (RX6, TX6, 24)) rfl hMc) hz hcx hm hS rfl hl.1 rfl (Nat.le_of_ble_eq_true rfl) dL_law_884 ⟨Nat.le_of_ble_eq_true rfl, Nat.le_of_ble_eq_true rfl⟩ (fun v M1 H locs hv hm hS => ?_)
    obtain ⟨hv1, hM1⟩ := hv
    subst hv1
    rw [hM1] at hm
    refine W.eq (g2 := F0 m 887 ls [.int 4]) rfl ?_
    refine W.widen (k := 141) (n := 404054) (Nat.le_of_ble_eq_true rfl) (Nat.le_of_ble_eq_true rfl) ?_
    refine lv_iload hx hb dL_law_887 (lv_at hl 1 rfl) ?_
    refine lv_icmp_eq (tgt := 894) hx hb dL_law_889 (by decide) (fun c7 => ?_) (fun c7 => ?_)
    · refine lv_iload hx hb dL_law_894 (lv_at hl 1 rfl) ?_
      refine lv_if_ne (tgt := 911) hx hb dL_law_896 (by decide) (fun c8 => ?_) (fun c8 => ?_)
      · refine lv_goto (tgt := 1434) hx hb dL_law_911 (by decide) ?_
        refine W.widen (k := 160) (n := 406000) (Nat.le_of_ble_eq_true rfl) (Nat.le_of_ble_eq_true rfl) ?_
        exact LC_end l hlt C0 D k z hz hz2 hcxN hS (lv_sub hl [2, 6] rfl)
      · first | exact absurd c8 (by decide) | exact absurd (by decide) c8
    · first | exact absurd c7 (by decide) | exact absurd (by decide) c7
