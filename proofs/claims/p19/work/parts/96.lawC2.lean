set_option maxHeartbeats 4000000 in
set_option maxRecDepth 100000 in
theorem LC_read {p : Program} {e : Env} {s : State} {m : MethodId} {below : List Frame} {meth : Method} {c : Code} (l : Launch) (hlt : l.stackTraces = false) {b L : Nat} {xs : Nat → Int32} (C0 : lw_At p s m meth c b L xs) (D : va_G) (k : Nat → ClassId) (z : Nat) (hz : z ≤ s.heap.size) (hz2 : s.heap.size ≤ z) (hcxN : cxN D k (AZ z) s) (o mo oa : Nat) (M : mM) {H : Heap} {locs : List Loc} {ls : Array Slot} (cc9 ss9 i5 : Nat) (hcc : cc9 + 121 ≤ 601024) (hss : ss9 + 4086 ≤ 7293034) (hi5 : i5 + 5 ≤ L) (hL : L ≤ 2560) (hLI : LI k M o mo oa) (hm : mm D (AZ z) M H) (hS : va_S (AZ z) s.heap H locs) (hl : lv_has ls 7 [(4, .int (nI i5)), (3, .ref oa), (2, .ref mo), (1, .ref o), (0, .ref b)])
    (kk : ∀ (M9 : mM) (H9 : Heap) (locs9 : List Loc) (ls9 : Array Slot), LI k M9 o mo oa → mm D (AZ z) M9 H9 → va_S (AZ z) s.heap H9 locs9 → lv_has ls9 7 [(4, .int (nI i5)), (3, .ref oa), (2, .ref mo), (1, .ref o), (0, .ref b)] → W p l e room_1 s m #[Value.ref b] below meth c H9 locs9 (cc9 + 121) (ss9 + 4086) (lw_Z below #[Value.ref b] s) (F0 m 905 ls9 [])) : W p l e room_1 s m #[Value.ref b] below meth c H locs cc9 ss9 (lw_Z below #[Value.ref b] s) (F0 m 557 ls []) := by
  obtain ⟨hx, hb, hr, hml, hown, hts0, hX, hbl, hlocks, hgv⟩ := id C0
  have hts : ∀ w ∈ wsL_law, w.before #[Value.ref b] s = true := fun w h => hts0 w (wl_in w h)
  have hcx := hcxN.1
  have hK := hcx.1
  have hA : ∀ q, s.heap.size ≤ q → AZ z q := fun q h => Nat.le_trans hz h
  have hbA : ¬ AZ z b := fun h => absurd (Nat.le_trans hz2 h) (Nat.not_le.mpr hbl)
  obtain ⟨κ, cn, ia, dr, en, la, wo, op, mk, ir, se, ec, lc, wc, ol, al, dn, md, hT, hko, hkoa, hI, hbd, hof⟩ := hLI
  refine lv_aload_n hx hb dL_law_557 rfl (lv_at hl 3 rfl) ?_
  refine lv_aload_n hx hb dL_law_558 rfl (lv_at hl 4 rfl) ?_
  refine lv_iload hx hb dL_law_559 (lv_at hl 0 rfl) ?_
  refine lv_iconst (v := 1) hx hb dL_law_561 (by decide) ?_
  refine lv_iadd hx hb dL_law_562 ?_
  refine W.eq (g2 := F0 m 563 ls [.int (nI (i5 + 1)), .ref b, .ref o]) (by rw [show (((nI i5)) + (1) : Int32) = nI (i5 + 1) from nI_add i5 1]) ?_
  refine va_sld hx hb hX hbl hbA hS (vp_in_nI (by omega) (by omega)) dL_law_563 ?_
  refine W.eq (g2 := F0 m 564 ls [.int (xs (i5 + 1)), .ref o]) (by rw [nI_clamp (by omega)]) ?_
  refine lv_aload_n hx hb dL_law_564 rfl (lv_at hl 4 rfl) ?_
  refine lv_iload hx hb dL_law_565 (lv_at hl 0 rfl) ?_
  refine lv_iconst (v := 2) hx hb dL_law_567 (by decide) ?_
  refine lv_iadd hx hb dL_law_568 ?_
  refine W.eq (g2 := F0 m 569 ls [.int (nI (i5 + 2)), .ref b, .int (xs (i5 + 1)), .ref o]) (by rw [show (((nI i5)) + (2) : Int32) = nI (i5 + 2) from nI_add i5 2]) ?_
  refine va_sld hx hb hX hbl hbA hS (vp_in_nI (by omega) (by omega)) dL_law_569 ?_
  refine W.eq (g2 := F0 m 570 ls [.int (xs (i5 + 2)), .int (xs (i5 + 1)), .ref o]) (by rw [nI_clamp (by omega)]) ?_
  refine lv_aload_n hx hb dL_law_570 rfl (lv_at hl 4 rfl) ?_
  refine lv_iload hx hb dL_law_571 (lv_at hl 0 rfl) ?_
  refine lv_iconst (v := 3) hx hb dL_law_573 (by decide) ?_
  refine lv_iadd hx hb dL_law_574 ?_
  refine W.eq (g2 := F0 m 575 ls [.int (nI (i5 + 3)), .ref b, .int (xs (i5 + 2)), .int (xs (i5 + 1)), .ref o]) (by rw [show (((nI i5)) + (3) : Int32) = nI (i5 + 3) from nI_add i5 3]) ?_
  refine va_sld hx hb hX hbl hbA hS (vp_in_nI (by omega) (by omega)) dL_law_575 ?_
  refine W.eq (g2 := F0 m 576 ls [.int (xs (i5 + 3)), .int (xs (i5 + 2)), .int (xs (i5 + 1)), .ref o]) (by rw [nI_clamp (by omega)]) ?_
  refine lv_aload_n hx hb dL_law_576 rfl (lv_at hl 1 rfl) ?_
  refine m_kSW (hh := [(0, 12, 15, 13), (0, 12, 19, 31), (0, 12, 23, 33), (0, 12, 27, 15), (0, 12, 31, 47)]) (As := [.ref o, .int (xs (i5 + 1)), .int (xs (i5 + 2)), .int (xs (i5 + 3)), .ref oa]) (rest := []) (rm := { frames := 9, cells := 4, slots := 24, locals := 150 }) ⟨hx, hb, hml, hown, hts⟩ (h_L_read l hlt D k z _ _ o (xs (i5 + 1)) (xs (i5 + 2)) (xs (i5 + 3)) oa hko hkoa hT) (vx_cwSW 5 hts gL_law_L_read rfl rfl rfl (by decide +kernel) ⟨Nat.le_of_ble_eq_true rfl, Nat.le_of_ble_eq_true rfl⟩) hz hcxN hm hS rfl hl.1 rfl (Nat.le_of_ble_eq_true rfl) dL_law_577 ⟨(show cc9 + 4 ≤ 601024 by omega), (show ss9 + 24 ≤ 7293034 by omega)⟩ (fun v M1 H locs hv hm hS => ?_)
  obtain ⟨κ1, hT1, hx1, hv1⟩ := hv
  obtain ⟨Mc1, hMx⟩ : ∃ x : mM, x = M1 := ⟨M1, rfl⟩
  subst hMx
  have hof1 := hI.off hx1 hof
  have hI := hI.mv hx1 hof
  have hof := hof1
  have hko := hx1.k hT hko
  have hkoa := hx1.k hT hkoa
  have hT := hT1
  obtain ⟨κ, hκ⟩ : ∃ x, x = κ1 := ⟨_, rfl⟩
  subst hκ
  obtain ⟨w4, hv1⟩ := hv1
  subst hv1
  refine W.eq (g2 := F0 m 580 ls [.int w4]) rfl ?_
  refine W.widen (k := cc9 + 4) (n := ss9 + 24) (Nat.le_refl _) (Nat.le_refl _) ?_
  refine lv_istore (lv' := [(5, .int w4), (4, .int (nI i5)), (3, .ref oa), (2, .ref mo), (1, .ref o), (0, .ref b)]) hx hb dL_law_580 hl (by decide) rfl (fun ls hl => ?_)
  refine lv_aload_n hx hb dL_law_582 rfl (lv_at hl 3 rfl) ?_
  refine lv_aload_n hx hb dL_law_583 rfl (lv_at hl 5 rfl) ?_
  refine lv_iload hx hb dL_law_584 (lv_at hl 1 rfl) ?_
  refine lv_iconst (v := 1) hx hb dL_law_586 (by decide) ?_
  refine lv_iadd hx hb dL_law_587 ?_
  refine W.eq (g2 := F0 m 588 ls [.int (nI (i5 + 1)), .ref b, .ref mo]) (by rw [show (((nI i5)) + (1) : Int32) = nI (i5 + 1) from nI_add i5 1]) ?_
  refine va_sld hx hb hX hbl hbA hS (vp_in_nI (by omega) (by omega)) dL_law_588 ?_
  refine W.eq (g2 := F0 m 589 ls [.int (xs (i5 + 1)), .ref mo]) (by rw [nI_clamp (by omega)]) ?_
  refine lv_aload_n hx hb dL_law_589 rfl (lv_at hl 5 rfl) ?_
  refine lv_iload hx hb dL_law_590 (lv_at hl 1 rfl) ?_
  refine lv_iconst (v := 2) hx hb dL_law_592 (by decide) ?_
  refine lv_iadd hx hb dL_law_593 ?_
  refine W.eq (g2 := F0 m 594 ls [.int (nI (i5 + 2)), .ref b, .int (xs (i5 + 1)), .ref mo]) (by rw [show (((nI i5)) + (2) : Int32) = nI (i5 + 2) from nI_add i5 2]) ?_
  refine va_sld hx hb hX hbl hbA hS (vp_in_nI (by omega) (by omega)) dL_law_594 ?_
  refine W.eq (g2 := F0 m 595 ls [.int (xs (i5 + 2)), .int (xs (i5 + 1)), .ref mo]) (by rw [nI_clamp (by omega)]) ?_
  refine lv_aload_n hx hb dL_law_595 rfl (lv_at hl 5 rfl) ?_
  refine lv_iload hx hb dL_law_596 (lv_at hl 1 rfl) ?_
  refine lv_iconst (v := 3) hx hb dL_law_598 (by decide) ?_
  refine lv_iadd hx hb dL_law_599 ?_
  refine W.eq (g2 := F0 m 600 ls [.int (nI (i5 + 3)), .ref b, .int (xs (i5 + 2)), .int (xs (i5 + 1)), .ref mo]) (by rw [show (((nI i5)) + (3) : Int32) = nI (i5 + 3) from nI_add i5 3]) ?_
  refine va_sld hx hb hX hbl hbA hS (vp_in_nI (by omega) (by omega)) dL_law_600 ?_
  refine W.eq (g2 := F0 m 601 ls [.int (xs (i5 + 3)), .int (xs (i5 + 2)), .int (xs (i5 + 1)), .ref mo]) (by rw [nI_clamp (by omega)]) ?_
  obtain ⟨_, _, _, _, _, _, _, _, _, _, _, _, _, _, _, _, _, _, _, _, _, _, -, hMob, -⟩ := id hI
  refine m_kV (As := [.int (xs (i5 + 1)), .int (xs (i5 + 2)), .int (xs (i5 + 3))]) (rest := []) (rm := { frames := 5, cells := 0, slots := 0, locals := 122 }) ⟨hx, hb, hml, hown, hts⟩ (s_X6_read l D k z _ mo cn ia dr en la wo op mk ir se ec lc wc ol al dn md (xs (i5 + 1)) (xs (i5 + 2)) (xs (i5 + 3)) hbd hI) (cwV 3 hts gL_law_X6_read rfl rfl rfl (by decide +kernel) ⟨Nat.le_of_ble_eq_true rfl, Nat.le_of_ble_eq_true rfl⟩) (m_recv hK hm (q := (RX6, TX6, 24)) rfl hMob) hz hcx hm hS rfl hl.1 rfl (Nat.le_of_ble_eq_true rfl) dL_law_601 ⟨(show cc9 + 4 + 0 ≤ 601024 by omega), (show ss9 + 24 + 0 ≤ 7293034 by omega)⟩ (fun v M1 H locs hv hm hS => ?_)
  obtain ⟨hv1, hI9, hk9⟩ := hv
  obtain ⟨Mc2, hMx⟩ : ∃ x : mM, x = M1 := ⟨M1, rfl⟩
  subst hMx
  have hT := hT.kp hk9 hof
  have hI := hI9
  obtain ⟨w8, hv1⟩ := hv1
  subst hv1
  refine W.eq (g2 := F0 m 604 ls [.int w8]) rfl ?_
  refine W.widen (k := cc9 + 4) (n := ss9 + 24) (Nat.le_refl _) (Nat.le_refl _) ?_
  refine lv_istore (lv' := [(6, .int w8), (5, .int w4), (4, .int (nI i5)), (3, .ref oa), (2, .ref mo), (1, .ref o), (0, .ref b)]) hx hb dL_law_604 hl (by decide) rfl (fun ls hl => ?_)
  refine lv_goto (tgt := 905) hx hb dL_law_606 (by decide) ?_
  refine W.widen (k := cc9 + 121) (n := ss9 + 4086) (by omega) (by omega) ?_
  exact kk _ _ _ _ ⟨κ, cn, ia, dr, en, la, wo, op, mk, ir, se, ec, lc, wc, ol, al, dn, md, hT, hko, hkoa, hI, hbd, hof⟩ hm hS (lv_sub hl [2, 3, 4, 5, 6] rfl)

set_option maxHeartbeats 4000000 in
set_option maxRecDepth 100000 in
theorem LC_length {p : Program} {e : Env} {s : State} {m : MethodId} {below : List Frame} {meth : Method} {c : Code} (l : Launch) (hlt : l.stackTraces = false) {b L : Nat} {xs : Nat → Int32} (C0 : lw_At p s m meth c b L xs) (D : va_G) (k : Nat → ClassId) (z : Nat) (hz : z ≤ s.heap.size) (hz2 : s.heap.size ≤ z) (hcxN : cxN D k (AZ z) s) (o mo oa : Nat) (M : mM) {H : Heap} {locs : List Loc} {ls : Array Slot} (cc9 ss9 i5 : Nat) (hcc : cc9 + 121 ≤ 601024) (hss : ss9 + 4086 ≤ 7293034) (hi5 : i5 + 5 ≤ L) (hL : L ≤ 2560) (hLI : LI k M o mo oa) (hm : mm D (AZ z) M H) (hS : va_S (AZ z) s.heap H locs) (hl : lv_has ls 7 [(4, .int (nI i5)), (3, .ref oa), (2, .ref mo), (1, .ref o), (0, .ref b)])
    (kk : ∀ (M9 : mM) (H9 : Heap) (locs9 : List Loc) (ls9 : Array Slot), LI k M9 o mo oa → mm D (AZ z) M9 H9 → va_S (AZ z) s.heap H9 locs9 → lv_has ls9 7 [(4, .int (nI i5)), (3, .ref oa), (2, .ref mo), (1, .ref o), (0, .ref b)] → W p l e room_1 s m #[Value.ref b] below meth c H9 locs9 (cc9 + 121) (ss9 + 4086) (lw_Z below #[Value.ref b] s) (F0 m 905 ls9 [])) : W p l e room_1 s m #[Value.ref b] below meth c H locs cc9 ss9 (lw_Z below #[Value.ref b] s) (F0 m 609 ls []) := by
  obtain ⟨hx, hb, hr, hml, hown, hts0, hX, hbl, hlocks, hgv⟩ := id C0
  have hts : ∀ w ∈ wsL_law, w.before #[Value.ref b] s = true := fun w h => hts0 w (wl_in w h)
  have hcx := hcxN.1
  have hK := hcx.1
  have hA : ∀ q, s.heap.size ≤ q → AZ z q := fun q h => Nat.le_trans hz h
  have hbA : ¬ AZ z b := fun h => absurd (Nat.le_trans hz2 h) (Nat.not_le.mpr hbl)
  obtain ⟨κ, cn, ia, dr, en, la, wo, op, mk, ir, se, ec, lc, wc, ol, al, dn, md, hT, hko, hkoa, hI, hbd, hof⟩ := hLI
  refine lv_aload_n hx hb dL_law_609 rfl (lv_at hl 3 rfl) ?_
  refine lv_aload_n hx hb dL_law_610 rfl (lv_at hl 4 rfl) ?_
  refine lv_iload hx hb dL_law_611 (lv_at hl 0 rfl) ?_
  refine lv_iconst (v := 1) hx hb dL_law_613 (by decide) ?_
  refine lv_iadd hx hb dL_law_614 ?_
  refine W.eq (g2 := F0 m 615 ls [.int (nI (i5 + 1)), .ref b, .ref o]) (by rw [show (((nI i5)) + (1) : Int32) = nI (i5 + 1) from nI_add i5 1]) ?_
  refine va_sld hx hb hX hbl hbA hS (vp_in_nI (by omega) (by omega)) dL_law_615 ?_
  refine W.eq (g2 := F0 m 616 ls [.int (xs (i5 + 1)), .ref o]) (by rw [nI_clamp (by omega)]) ?_
  refine lv_aload_n hx hb dL_law_616 rfl (lv_at hl 4 rfl) ?_
  refine lv_iload hx hb dL_law_617 (lv_at hl 0 rfl) ?_
  refine lv_iconst (v := 2) hx hb dL_law_619 (by decide) ?_
  refine lv_iadd hx hb dL_law_620 ?_
  refine W.eq (g2 := F0 m 621 ls [.int (nI (i5 + 2)), .ref b, .int (xs (i5 + 1)), .ref o]) (by rw [show (((nI i5)) + (2) : Int32) = nI (i5 + 2) from nI_add i5 2]) ?_
  refine va_sld hx hb hX hbl hbA hS (vp_in_nI (by omega) (by omega)) dL_law_621 ?_
  refine W.eq (g2 := F0 m 622 ls [.int (xs (i5 + 2)), .int (xs (i5 + 1)), .ref o]) (by rw [nI_clamp (by omega)]) ?_
  refine lv_aload_n hx hb dL_law_622 rfl (lv_at hl 1 rfl) ?_
  refine m_kSW (hh := [(0, 10, 13, 13), (0, 10, 17, 31), (0, 10, 21, 33), (0, 10, 25, 15)]) (As := [.ref o, .int (xs (i5 + 1)), .int (xs (i5 + 2)), .ref oa]) (rest := []) (rm := { frames := 9, cells := 3, slots := 18, locals := 147 }) ⟨hx, hb, hml, hown, hts⟩ (h_L_length l hlt D k z _ _ o (xs (i5 + 1)) (xs (i5 + 2)) oa hko hkoa hT) (vx_cwSW 4 hts gL_law_L_length rfl rfl rfl (by decide +kernel) ⟨Nat.le_of_ble_eq_true rfl, Nat.le_of_ble_eq_true rfl⟩) hz hcxN hm hS rfl hl.1 rfl (Nat.le_of_ble_eq_true rfl) dL_law_623 ⟨(show cc9 + 3 ≤ 601024 by omega), (show ss9 + 18 ≤ 7293034 by omega)⟩ (fun v M1 H locs hv hm hS => ?_)
  obtain ⟨κ1, hT1, hx1, hv1⟩ := hv
  obtain ⟨Mc1, hMx⟩ : ∃ x : mM, x = M1 := ⟨M1, rfl⟩
  subst hMx
  have hof1 := hI.off hx1 hof
  have hI := hI.mv hx1 hof
  have hof := hof1
  have hko := hx1.k hT hko
  have hkoa := hx1.k hT hkoa
  have hT := hT1
  obtain ⟨κ, hκ⟩ : ∃ x, x = κ1 := ⟨_, rfl⟩
  subst hκ
  obtain ⟨w3, hv1⟩ := hv1
  subst hv1
  refine W.eq (g2 := F0 m 626 ls [.int w3]) rfl ?_
  refine W.widen (k := cc9 + 3) (n := ss9 + 18) (Nat.le_refl _) (Nat.le_refl _) ?_
  refine lv_istore (lv' := [(5, .int w3), (4, .int (nI i5)), (3, .ref oa), (2, .ref mo), (1, .ref o), (0, .ref b)]) hx hb dL_law_626 hl (by decide) rfl (fun ls hl => ?_)
  refine lv_aload_n hx hb dL_law_628 rfl (lv_at hl 3 rfl) ?_
  refine lv_aload_n hx hb dL_law_629 rfl (lv_at hl 5 rfl) ?_
  refine lv_iload hx hb dL_law_630 (lv_at hl 1 rfl) ?_
  refine lv_iconst (v := 1) hx hb dL_law_632 (by decide) ?_
  refine lv_iadd hx hb dL_law_633 ?_
  refine W.eq (g2 := F0 m 634 ls [.int (nI (i5 + 1)), .ref b, .ref mo]) (by rw [show (((nI i5)) + (1) : Int32) = nI (i5 + 1) from nI_add i5 1]) ?_
  refine va_sld hx hb hX hbl hbA hS (vp_in_nI (by omega) (by omega)) dL_law_634 ?_
  refine W.eq (g2 := F0 m 635 ls [.int (xs (i5 + 1)), .ref mo]) (by rw [nI_clamp (by omega)]) ?_
  refine lv_aload_n hx hb dL_law_635 rfl (lv_at hl 5 rfl) ?_
  refine lv_iload hx hb dL_law_636 (lv_at hl 1 rfl) ?_
  refine lv_iconst (v := 2) hx hb dL_law_638 (by decide) ?_
  refine lv_iadd hx hb dL_law_639 ?_
  refine W.eq (g2 := F0 m 640 ls [.int (nI (i5 + 2)), .ref b, .int (xs (i5 + 1)), .ref mo]) (by rw [show (((nI i5)) + (2) : Int32) = nI (i5 + 2) from nI_add i5 2]) ?_
  refine va_sld hx hb hX hbl hbA hS (vp_in_nI (by omega) (by omega)) dL_law_640 ?_
  refine W.eq (g2 := F0 m 641 ls [.int (xs (i5 + 2)), .int (xs (i5 + 1)), .ref mo]) (by rw [nI_clamp (by omega)]) ?_
  obtain ⟨_, _, _, _, _, _, _, _, _, _, _, _, _, _, _, _, _, _, _, _, _, _, -, hMob, -⟩ := id hI
  refine m_kV (As := [.int (xs (i5 + 1)), .int (xs (i5 + 2))]) (rest := []) (rm := { frames := 5, cells := 0, slots := 0, locals := 122 }) ⟨hx, hb, hml, hown, hts⟩ (s_X6_length l D k z _ mo cn ia dr en la wo op mk ir se ec lc wc ol al dn md (xs (i5 + 1)) (xs (i5 + 2)) hbd hI) (cwV 2 hts gL_law_X6_length rfl rfl rfl (by decide +kernel) ⟨Nat.le_of_ble_eq_true rfl, Nat.le_of_ble_eq_true rfl⟩) (m_recv hK hm (q := (RX6, TX6, 24)) rfl hMob) hz hcx hm hS rfl hl.1 rfl (Nat.le_of_ble_eq_true rfl) dL_law_641 ⟨(show cc9 + 3 + 0 ≤ 601024 by omega), (show ss9 + 18 + 0 ≤ 7293034 by omega)⟩ (fun v M1 H locs hv hm hS => ?_)
  obtain ⟨hv1, hI9, hk9⟩ := hv
  obtain ⟨Mc2, hMx⟩ : ∃ x : mM, x = M1 := ⟨M1, rfl⟩
  subst hMx
  have hT := hT.kp hk9 hof
  have hI := hI9
  obtain ⟨w6, hv1⟩ := hv1
  subst hv1
  refine W.eq (g2 := F0 m 644 ls [.int w6]) rfl ?_
  refine W.widen (k := cc9 + 3) (n := ss9 + 18) (Nat.le_refl _) (Nat.le_refl _) ?_
  refine lv_istore (lv' := [(6, .int w6), (5, .int w3), (4, .int (nI i5)), (3, .ref oa), (2, .ref mo), (1, .ref o), (0, .ref b)]) hx hb dL_law_644 hl (by decide) rfl (fun ls hl => ?_)
  refine lv_goto (tgt := 905) hx hb dL_law_646 (by decide) ?_
  refine W.widen (k := cc9 + 121) (n := ss9 + 4086) (by omega) (by omega) ?_
  exact kk _ _ _ _ ⟨κ, cn, ia, dr, en, la, wo, op, mk, ir, se, ec, lc, wc, ol, al, dn, md, hT, hko, hkoa, hI, hbd, hof⟩ hm hS (lv_sub hl [2, 3, 4, 5, 6] rfl)

set_option maxHeartbeats 4000000 in
set_option maxRecDepth 100000 in
theorem LC_kind {p : Program} {e : Env} {s : State} {m : MethodId} {below : List Frame} {meth : Method} {c : Code} (l : Launch) (hlt : l.stackTraces = false) {b L : Nat} {xs : Nat → Int32} (C0 : lw_At p s m meth c b L xs) (D : va_G) (k : Nat → ClassId) (z : Nat) (hz : z ≤ s.heap.size) (hz2 : s.heap.size ≤ z) (hcxN : cxN D k (AZ z) s) (o mo oa : Nat) (M : mM) {H : Heap} {locs : List Loc} {ls : Array Slot} (cc9 ss9 i5 : Nat) (hcc : cc9 + 121 ≤ 601024) (hss : ss9 + 4086 ≤ 7293034) (hi5 : i5 + 5 ≤ L) (hL : L ≤ 2560) (hLI : LI k M o mo oa) (hm : mm D (AZ z) M H) (hS : va_S (AZ z) s.heap H locs) (hl : lv_has ls 7 [(4, .int (nI i5)), (3, .ref oa), (2, .ref mo), (1, .ref o), (0, .ref b)])
    (kk : ∀ (M9 : mM) (H9 : Heap) (locs9 : List Loc) (ls9 : Array Slot), LI k M9 o mo oa → mm D (AZ z) M9 H9 → va_S (AZ z) s.heap H9 locs9 → lv_has ls9 7 [(4, .int (nI i5)), (3, .ref oa), (2, .ref mo), (1, .ref o), (0, .ref b)] → W p l e room_1 s m #[Value.ref b] below meth c H9 locs9 (cc9 + 121) (ss9 + 4086) (lw_Z below #[Value.ref b] s) (F0 m 905 ls9 [])) : W p l e room_1 s m #[Value.ref b] below meth c H locs cc9 ss9 (lw_Z below #[Value.ref b] s) (F0 m 649 ls []) := by
  obtain ⟨hx, hb, hr, hml, hown, hts0, hX, hbl, hlocks, hgv⟩ := id C0
  have hts : ∀ w ∈ wsL_law, w.before #[Value.ref b] s = true := fun w h => hts0 w (wl_in w h)
  have hcx := hcxN.1
  have hK := hcx.1
  have hA : ∀ q, s.heap.size ≤ q → AZ z q := fun q h => Nat.le_trans hz h
  have hbA : ¬ AZ z b := fun h => absurd (Nat.le_trans hz2 h) (Nat.not_le.mpr hbl)
  obtain ⟨κ, cn, ia, dr, en, la, wo, op, mk, ir, se, ec, lc, wc, ol, al, dn, md, hT, hko, hkoa, hI, hbd, hof⟩ := hLI
  refine lv_aload_n hx hb dL_law_649 rfl (lv_at hl 3 rfl) ?_
  refine lv_aload_n hx hb dL_law_650 rfl (lv_at hl 4 rfl) ?_
  refine lv_iload hx hb dL_law_651 (lv_at hl 0 rfl) ?_
  refine lv_iconst (v := 1) hx hb dL_law_653 (by decide) ?_
  refine lv_iadd hx hb dL_law_654 ?_
  refine W.eq (g2 := F0 m 655 ls [.int (nI (i5 + 1)), .ref b, .ref o]) (by rw [show (((nI i5)) + (1) : Int32) = nI (i5 + 1) from nI_add i5 1]) ?_
  refine va_sld hx hb hX hbl hbA hS (vp_in_nI (by omega) (by omega)) dL_law_655 ?_
  refine W.eq (g2 := F0 m 656 ls [.int (xs (i5 + 1)), .ref o]) (by rw [nI_clamp (by omega)]) ?_
  refine lv_aload_n hx hb dL_law_656 rfl (lv_at hl 4 rfl) ?_
  refine lv_iload hx hb dL_law_657 (lv_at hl 0 rfl) ?_
  refine lv_iconst (v := 2) hx hb dL_law_659 (by decide) ?_
  refine lv_iadd hx hb dL_law_660 ?_
  refine W.eq (g2 := F0 m 661 ls [.int (nI (i5 + 2)), .ref b, .int (xs (i5 + 1)), .ref o]) (by rw [show (((nI i5)) + (2) : Int32) = nI (i5 + 2) from nI_add i5 2]) ?_
  refine va_sld hx hb hX hbl hbA hS (vp_in_nI (by omega) (by omega)) dL_law_661 ?_
  refine W.eq (g2 := F0 m 662 ls [.int (xs (i5 + 2)), .int (xs (i5 + 1)), .ref o]) (by rw [nI_clamp (by omega)]) ?_
  refine lv_aload_n hx hb dL_law_662 rfl (lv_at hl 1 rfl) ?_
  refine m_kSW (hh := [(0, 10, 13, 13), (0, 10, 17, 31)]) (As := [.ref o, .int (xs (i5 + 1)), .int (xs (i5 + 2)), .ref oa]) (rest := []) (rm := { frames := 9, cells := 2, slots := 12, locals := 149 }) ⟨hx, hb, hml, hown, hts⟩ (h_L_kind l hlt D k z _ _ o (xs (i5 + 1)) (xs (i5 + 2)) oa hko hkoa hT) (vx_cwSW 4 hts gL_law_L_kind rfl rfl rfl (by decide +kernel) ⟨Nat.le_of_ble_eq_true rfl, Nat.le_of_ble_eq_true rfl⟩) hz hcxN hm hS rfl hl.1 rfl (Nat.le_of_ble_eq_true rfl) dL_law_663 ⟨(show cc9 + 2 ≤ 601024 by omega), (show ss9 + 12 ≤ 7293034 by omega)⟩ (fun v M1 H locs hv hm hS => ?_)
  obtain ⟨κ1, hT1, hx1, hv1⟩ := hv
  obtain ⟨Mc1, hMx⟩ : ∃ x : mM, x = M1 := ⟨M1, rfl⟩
  subst hMx
  have hof1 := hI.off hx1 hof
  have hI := hI.mv hx1 hof
  have hof := hof1
  have hko := hx1.k hT hko
  have hkoa := hx1.k hT hkoa
  have hT := hT1
  obtain ⟨κ, hκ⟩ : ∃ x, x = κ1 := ⟨_, rfl⟩
  subst hκ
  obtain ⟨w3, hv1⟩ := hv1
  subst hv1
  refine W.eq (g2 := F0 m 666 ls [.int w3]) rfl ?_
  refine W.widen (k := cc9 + 2) (n := ss9 + 12) (Nat.le_refl _) (Nat.le_refl _) ?_
  refine lv_istore (lv' := [(5, .int w3), (4, .int (nI i5)), (3, .ref oa), (2, .ref mo), (1, .ref o), (0, .ref b)]) hx hb dL_law_666 hl (by decide) rfl (fun ls hl => ?_)
  refine lv_aload_n hx hb dL_law_668 rfl (lv_at hl 3 rfl) ?_
  refine lv_aload_n hx hb dL_law_669 rfl (lv_at hl 5 rfl) ?_
  refine lv_iload hx hb dL_law_670 (lv_at hl 1 rfl) ?_
  refine lv_iconst (v := 1) hx hb dL_law_672 (by decide) ?_
  refine lv_iadd hx hb dL_law_673 ?_
  refine W.eq (g2 := F0 m 674 ls [.int (nI (i5 + 1)), .ref b, .ref mo]) (by rw [show (((nI i5)) + (1) : Int32) = nI (i5 + 1) from nI_add i5 1]) ?_
  refine va_sld hx hb hX hbl hbA hS (vp_in_nI (by omega) (by omega)) dL_law_674 ?_
  refine W.eq (g2 := F0 m 675 ls [.int (xs (i5 + 1)), .ref mo]) (by rw [nI_clamp (by omega)]) ?_
  refine lv_aload_n hx hb dL_law_675 rfl (lv_at hl 5 rfl) ?_
  refine lv_iload hx hb dL_law_676 (lv_at hl 1 rfl) ?_
  refine lv_iconst (v := 2) hx hb dL_law_678 (by decide) ?_
  refine lv_iadd hx hb dL_law_679 ?_
  refine W.eq (g2 := F0 m 680 ls [.int (nI (i5 + 2)), .ref b, .int (xs (i5 + 1)), .ref mo]) (by rw [show (((nI i5)) + (2) : Int32) = nI (i5 + 2) from nI_add i5 2]) ?_
  refine va_sld hx hb hX hbl hbA hS (vp_in_nI (by omega) (by omega)) dL_law_680 ?_
  refine W.eq (g2 := F0 m 681 ls [.int (xs (i5 + 2)), .int (xs (i5 + 1)), .ref mo]) (by rw [nI_clamp (by omega)]) ?_
  obtain ⟨_, _, _, _, _, _, _, _, _, _, _, _, _, _, _, _, _, _, _, _, _, _, -, hMob, -⟩ := id hI
  refine m_kV (As := [.int (xs (i5 + 1)), .int (xs (i5 + 2))]) (rest := []) (rm := { frames := 4, cells := 0, slots := 0, locals := 97 }) ⟨hx, hb, hml, hown, hts⟩ (s_X6_kind l D k z _ mo cn ia dr en la wo op mk ir se ec lc wc ol al dn md (xs (i5 + 1)) (xs (i5 + 2)) hbd hI) (cwV 2 hts gL_law_X6_kind rfl rfl rfl (by decide +kernel) ⟨Nat.le_of_ble_eq_true rfl, Nat.le_of_ble_eq_true rfl⟩) (m_recv hK hm (q := (RX6, TX6, 24)) rfl hMob) hz hcx hm hS rfl hl.1 rfl (Nat.le_of_ble_eq_true rfl) dL_law_681 ⟨(show cc9 + 2 + 0 ≤ 601024 by omega), (show ss9 + 12 + 0 ≤ 7293034 by omega)⟩ (fun v M1 H locs hv hm hS => ?_)
  obtain ⟨hv1, hI9, hk9⟩ := hv
  obtain ⟨Mc2, hMx⟩ : ∃ x : mM, x = M1 := ⟨M1, rfl⟩
  subst hMx
  have hT := hT.kp hk9 hof
  have hI := hI9
  obtain ⟨w6, hv1⟩ := hv1
  subst hv1
  refine W.eq (g2 := F0 m 684 ls [.int w6]) rfl ?_
  refine W.widen (k := cc9 + 2) (n := ss9 + 12) (Nat.le_refl _) (Nat.le_refl _) ?_
  refine lv_istore (lv' := [(6, .int w6), (5, .int w3), (4, .int (nI i5)), (3, .ref oa), (2, .ref mo), (1, .ref o), (0, .ref b)]) hx hb dL_law_684 hl (by decide) rfl (fun ls hl => ?_)
  refine lv_goto (tgt := 905) hx hb dL_law_686 (by decide) ?_
  refine W.widen (k := cc9 + 121) (n := ss9 + 4086) (by omega) (by omega) ?_
  exact kk _ _ _ _ ⟨κ, cn, ia, dr, en, la, wo, op, mk, ir, se, ec, lc, wc, ol, al, dn, md, hT, hko, hkoa, hI, hbd, hof⟩ hm hS (lv_sub hl [2, 3, 4, 5, 6] rfl)

set_option maxHeartbeats 4000000 in
set_option maxRecDepth 100000 in
theorem LC_list {p : Program} {e : Env} {s : State} {m : MethodId} {below : List Frame} {meth : Method} {c : Code} (l : Launch) (hlt : l.stackTraces = false) {b L : Nat} {xs : Nat → Int32} (C0 : lw_At p s m meth c b L xs) (D : va_G) (k : Nat → ClassId) (z : Nat) (hz : z ≤ s.heap.size) (hz2 : s.heap.size ≤ z) (hcxN : cxN D k (AZ z) s) (o mo oa : Nat) (M : mM) {H : Heap} {locs : List Loc} {ls : Array Slot} (cc9 ss9 i5 : Nat) (hcc : cc9 + 121 ≤ 601024) (hss : ss9 + 4086 ≤ 7293034) (hi5 : i5 + 5 ≤ L) (hL : L ≤ 2560) (hLI : LI k M o mo oa) (hm : mm D (AZ z) M H) (hS : va_S (AZ z) s.heap H locs) (hl : lv_has ls 7 [(4, .int (nI i5)), (3, .ref oa), (2, .ref mo), (1, .ref o), (0, .ref b)])
    (kk : ∀ (M9 : mM) (H9 : Heap) (locs9 : List Loc) (ls9 : Array Slot), LI k M9 o mo oa → mm D (AZ z) M9 H9 → va_S (AZ z) s.heap H9 locs9 → lv_has ls9 7 [(4, .int (nI i5)), (3, .ref oa), (2, .ref mo), (1, .ref o), (0, .ref b)] → W p l e room_1 s m #[Value.ref b] below meth c H9 locs9 (cc9 + 121) (ss9 + 4086) (lw_Z below #[Value.ref b] s) (F0 m 905 ls9 [])) : W p l e room_1 s m #[Value.ref b] below meth c H locs cc9 ss9 (lw_Z below #[Value.ref b] s) (F0 m 689 ls []) := by
  obtain ⟨hx, hb, hr, hml, hown, hts0, hX, hbl, hlocks, hgv⟩ := id C0
  have hts : ∀ w ∈ wsL_law, w.before #[Value.ref b] s = true := fun w h => hts0 w (wl_in w h)
  have hcx := hcxN.1
  have hK := hcx.1
  have hA : ∀ q, s.heap.size ≤ q → AZ z q := fun q h => Nat.le_trans hz h
  have hbA : ¬ AZ z b := fun h => absurd (Nat.le_trans hz2 h) (Nat.not_le.mpr hbl)
  obtain ⟨κ, cn, ia, dr, en, la, wo, op, mk, ir, se, ec, lc, wc, ol, al, dn, md, hT, hko, hkoa, hI, hbd, hof⟩ := hLI
  refine lv_aload_n hx hb dL_law_689 rfl (lv_at hl 3 rfl) ?_
  refine lv_aload_n hx hb dL_law_690 rfl (lv_at hl 4 rfl) ?_
  refine lv_iload hx hb dL_law_691 (lv_at hl 0 rfl) ?_
  refine lv_iconst (v := 1) hx hb dL_law_693 (by decide) ?_
  refine lv_iadd hx hb dL_law_694 ?_
  refine W.eq (g2 := F0 m 695 ls [.int (nI (i5 + 1)), .ref b, .ref o]) (by rw [show (((nI i5)) + (1) : Int32) = nI (i5 + 1) from nI_add i5 1]) ?_
  refine va_sld hx hb hX hbl hbA hS (vp_in_nI (by omega) (by omega)) dL_law_695 ?_
  refine W.eq (g2 := F0 m 696 ls [.int (xs (i5 + 1)), .ref o]) (by rw [nI_clamp (by omega)]) ?_
  refine lv_aload_n hx hb dL_law_696 rfl (lv_at hl 4 rfl) ?_
  refine lv_iload hx hb dL_law_697 (lv_at hl 0 rfl) ?_
  refine lv_iconst (v := 2) hx hb dL_law_699 (by decide) ?_
  refine lv_iadd hx hb dL_law_700 ?_
  refine W.eq (g2 := F0 m 701 ls [.int (nI (i5 + 2)), .ref b, .int (xs (i5 + 1)), .ref o]) (by rw [show (((nI i5)) + (2) : Int32) = nI (i5 + 2) from nI_add i5 2]) ?_
  refine va_sld hx hb hX hbl hbA hS (vp_in_nI (by omega) (by omega)) dL_law_701 ?_
  refine W.eq (g2 := F0 m 702 ls [.int (xs (i5 + 2)), .int (xs (i5 + 1)), .ref o]) (by rw [nI_clamp (by omega)]) ?_
  refine lv_aload_n hx hb dL_law_702 rfl (lv_at hl 1 rfl) ?_
  refine m_kSW (hh := [(0, 10, 13, 13), (0, 10, 17, 31), (0, 10, 21, 33), (0, 10, 25, 15)]) (As := [.ref o, .int (xs (i5 + 1)), .int (xs (i5 + 2)), .ref oa]) (rest := []) (rm := { frames := 9, cells := 3, slots := 18, locals := 149 }) ⟨hx, hb, hml, hown, hts⟩ (h_L_list l hlt D k z _ _ o (xs (i5 + 1)) (xs (i5 + 2)) oa hko hkoa hT) (vx_cwSW 4 hts gL_law_L_list rfl rfl rfl (by decide +kernel) ⟨Nat.le_of_ble_eq_true rfl, Nat.le_of_ble_eq_true rfl⟩) hz hcxN hm hS rfl hl.1 rfl (Nat.le_of_ble_eq_true rfl) dL_law_703 ⟨(show cc9 + 3 ≤ 601024 by omega), (show ss9 + 18 ≤ 7293034 by omega)⟩ (fun v M1 H locs hv hm hS => ?_)
  obtain ⟨κ1, hT1, hx1, hv1⟩ := hv
  obtain ⟨Mc1, hMx⟩ : ∃ x : mM, x = M1 := ⟨M1, rfl⟩
  subst hMx
  have hof1 := hI.off hx1 hof
  have hI := hI.mv hx1 hof
  have hof := hof1
  have hko := hx1.k hT hko
  have hkoa := hx1.k hT hkoa
  have hT := hT1
  obtain ⟨κ, hκ⟩ : ∃ x, x = κ1 := ⟨_, rfl⟩
  subst hκ
  obtain ⟨w3, hv1⟩ := hv1
  subst hv1
  refine W.eq (g2 := F0 m 706 ls [.int w3]) rfl ?_
  refine W.widen (k := cc9 + 3) (n := ss9 + 18) (Nat.le_refl _) (Nat.le_refl _) ?_
  refine lv_istore (lv' := [(5, .int w3), (4, .int (nI i5)), (3, .ref oa), (2, .ref mo), (1, .ref o), (0, .ref b)]) hx hb dL_law_706 hl (by decide) rfl (fun ls hl => ?_)
  refine lv_aload_n hx hb dL_law_708 rfl (lv_at hl 3 rfl) ?_
  refine lv_aload_n hx hb dL_law_709 rfl (lv_at hl 5 rfl) ?_
  refine lv_iload hx hb dL_law_710 (lv_at hl 1 rfl) ?_
  refine lv_iconst (v := 1) hx hb dL_law_712 (by decide) ?_
  refine lv_iadd hx hb dL_law_713 ?_
  refine W.eq (g2 := F0 m 714 ls [.int (nI (i5 + 1)), .ref b, .ref mo]) (by rw [show (((nI i5)) + (1) : Int32) = nI (i5 + 1) from nI_add i5 1]) ?_
  refine va_sld hx hb hX hbl hbA hS (vp_in_nI (by omega) (by omega)) dL_law_714 ?_
  refine W.eq (g2 := F0 m 715 ls [.int (xs (i5 + 1)), .ref mo]) (by rw [nI_clamp (by omega)]) ?_
  refine lv_aload_n hx hb dL_law_715 rfl (lv_at hl 5 rfl) ?_
  refine lv_iload hx hb dL_law_716 (lv_at hl 1 rfl) ?_
  refine lv_iconst (v := 2) hx hb dL_law_718 (by decide) ?_
  refine lv_iadd hx hb dL_law_719 ?_
  refine W.eq (g2 := F0 m 720 ls [.int (nI (i5 + 2)), .ref b, .int (xs (i5 + 1)), .ref mo]) (by rw [show (((nI i5)) + (2) : Int32) = nI (i5 + 2) from nI_add i5 2]) ?_
  refine va_sld hx hb hX hbl hbA hS (vp_in_nI (by omega) (by omega)) dL_law_720 ?_
  refine W.eq (g2 := F0 m 721 ls [.int (xs (i5 + 2)), .int (xs (i5 + 1)), .ref mo]) (by rw [nI_clamp (by omega)]) ?_
  obtain ⟨_, _, _, _, _, _, _, _, _, _, _, _, _, _, _, _, _, _, _, _, _, _, -, hMob, -⟩ := id hI
  refine m_kV (As := [.int (xs (i5 + 1)), .int (xs (i5 + 2))]) (rest := []) (rm := { frames := 4, cells := 0, slots := 0, locals := 97 }) ⟨hx, hb, hml, hown, hts⟩ (s_X6_list l D k z _ mo cn ia dr en la wo op mk ir se ec lc wc ol al dn md (xs (i5 + 1)) (xs (i5 + 2)) hbd hI) (cwV 2 hts gL_law_X6_list rfl rfl rfl (by decide +kernel) ⟨Nat.le_of_ble_eq_true rfl, Nat.le_of_ble_eq_true rfl⟩) (m_recv hK hm (q := (RX6, TX6, 24)) rfl hMob) hz hcx hm hS rfl hl.1 rfl (Nat.le_of_ble_eq_true rfl) dL_law_721 ⟨(show cc9 + 3 + 0 ≤ 601024 by omega), (show ss9 + 18 + 0 ≤ 7293034 by omega)⟩ (fun v M1 H locs hv hm hS => ?_)
  obtain ⟨hv1, hI9, hk9⟩ := hv
  obtain ⟨Mc2, hMx⟩ : ∃ x : mM, x = M1 := ⟨M1, rfl⟩
  subst hMx
  have hT := hT.kp hk9 hof
  have hI := hI9
  obtain ⟨w6, hv1⟩ := hv1
  subst hv1
  refine W.eq (g2 := F0 m 724 ls [.int w6]) rfl ?_
  refine W.widen (k := cc9 + 3) (n := ss9 + 18) (Nat.le_refl _) (Nat.le_refl _) ?_
  refine lv_istore (lv' := [(6, .int w6), (5, .int w3), (4, .int (nI i5)), (3, .ref oa), (2, .ref mo), (1, .ref o), (0, .ref b)]) hx hb dL_law_724 hl (by decide) rfl (fun ls hl => ?_)
  refine lv_goto (tgt := 905) hx hb dL_law_726 (by decide) ?_
  refine W.widen (k := cc9 + 121) (n := ss9 + 4086) (by omega) (by omega) ?_
  exact kk _ _ _ _ ⟨κ, cn, ia, dr, en, la, wo, op, mk, ir, se, ec, lc, wc, ol, al, dn, md, hT, hko, hkoa, hI, hbd, hof⟩ hm hS (lv_sub hl [2, 3, 4, 5, 6] rfl)

set_option maxHeartbeats 4000000 in
set_option maxRecDepth 100000 in
theorem LC_mark {p : Program} {e : Env} {s : State} {m : MethodId} {below : List Frame} {meth : Method} {c : Code} (l : Launch) (hlt : l.stackTraces = false) {b L : Nat} {xs : Nat → Int32} (C0 : lw_At p s m meth c b L xs) (D : va_G) (k : Nat → ClassId) (z : Nat) (hz : z ≤ s.heap.size) (hz2 : s.heap.size ≤ z) (hcxN : cxN D k (AZ z) s) (o mo oa : Nat) (M : mM) {H : Heap} {locs : List Loc} {ls : Array Slot} (cc9 ss9 i5 : Nat) (hcc : cc9 + 121 ≤ 601024) (hss : ss9 + 4086 ≤ 7293034) (hi5 : i5 + 5 ≤ L) (hL : L ≤ 2560) (hLI : LI k M o mo oa) (hm : mm D (AZ z) M H) (hS : va_S (AZ z) s.heap H locs) (hl : lv_has ls 7 [(4, .int (nI i5)), (3, .ref oa), (2, .ref mo), (1, .ref o), (0, .ref b)])
    (kk : ∀ (M9 : mM) (H9 : Heap) (locs9 : List Loc) (ls9 : Array Slot), LI k M9 o mo oa → mm D (AZ z) M9 H9 → va_S (AZ z) s.heap H9 locs9 → lv_has ls9 7 [(4, .int (nI i5)), (3, .ref oa), (2, .ref mo), (1, .ref o), (0, .ref b)] → W p l e room_1 s m #[Value.ref b] below meth c H9 locs9 (cc9 + 121) (ss9 + 4086) (lw_Z below #[Value.ref b] s) (F0 m 905 ls9 [])) : W p l e room_1 s m #[Value.ref b] below meth c H locs cc9 ss9 (lw_Z below #[Value.ref b] s) (F0 m 729 ls []) := by
  obtain ⟨hx, hb, hr, hml, hown, hts0, hX, hbl, hlocks, hgv⟩ := id C0
  have hts : ∀ w ∈ wsL_law, w.before #[Value.ref b] s = true := fun w h => hts0 w (wl_in w h)
  have hcx := hcxN.1
  have hK := hcx.1
  have hA : ∀ q, s.heap.size ≤ q → AZ z q := fun q h => Nat.le_trans hz h
  have hbA : ¬ AZ z b := fun h => absurd (Nat.le_trans hz2 h) (Nat.not_le.mpr hbl)
  obtain ⟨κ, cn, ia, dr, en, la, wo, op, mk, ir, se, ec, lc, wc, ol, al, dn, md, hT, hko, hkoa, hI, hbd, hof⟩ := hLI
  refine lv_aload_n hx hb dL_law_729 rfl (lv_at hl 3 rfl) ?_
  refine lv_aload_n hx hb dL_law_730 rfl (lv_at hl 4 rfl) ?_
  refine lv_iload hx hb dL_law_731 (lv_at hl 0 rfl) ?_
  refine lv_iconst (v := 1) hx hb dL_law_733 (by decide) ?_
  refine lv_iadd hx hb dL_law_734 ?_
  refine W.eq (g2 := F0 m 735 ls [.int (nI (i5 + 1)), .ref b, .ref o]) (by rw [show (((nI i5)) + (1) : Int32) = nI (i5 + 1) from nI_add i5 1]) ?_
  refine va_sld hx hb hX hbl hbA hS (vp_in_nI (by omega) (by omega)) dL_law_735 ?_
  refine W.eq (g2 := F0 m 736 ls [.int (xs (i5 + 1)), .ref o]) (by rw [nI_clamp (by omega)]) ?_
  refine lv_aload_n hx hb dL_law_736 rfl (lv_at hl 1 rfl) ?_
  refine m_kSW (hh := [(0, 9, 12, 13), (0, 9, 15, 15)]) (As := [.ref o, .int (xs (i5 + 1)), .ref oa]) (rest := []) (rm := { frames := 8, cells := 2, slots := 12, locals := 126 }) ⟨hx, hb, hml, hown, hts⟩ (h_L_mark l hlt D k z _ _ o (xs (i5 + 1)) oa hko hkoa hT) (vx_cwSW 3 hts gL_law_L_mark rfl rfl rfl (by decide +kernel) ⟨Nat.le_of_ble_eq_true rfl, Nat.le_of_ble_eq_true rfl⟩) hz hcxN hm hS rfl hl.1 rfl (Nat.le_of_ble_eq_true rfl) dL_law_737 ⟨(show cc9 + 2 ≤ 601024 by omega), (show ss9 + 12 ≤ 7293034 by omega)⟩ (fun v M1 H locs hv hm hS => ?_)
  obtain ⟨κ1, hT1, hx1, hv1⟩ := hv
  obtain ⟨Mc1, hMx⟩ : ∃ x : mM, x = M1 := ⟨M1, rfl⟩
  subst hMx
  have hof1 := hI.off hx1 hof
  have hI := hI.mv hx1 hof
  have hof := hof1
  have hko := hx1.k hT hko
  have hkoa := hx1.k hT hkoa
  have hT := hT1
  obtain ⟨κ, hκ⟩ : ∃ x, x = κ1 := ⟨_, rfl⟩
  subst hκ
  obtain ⟨w2, hv1⟩ := hv1
  subst hv1
  refine W.eq (g2 := F0 m 740 ls [.int w2]) rfl ?_
  refine W.widen (k := cc9 + 2) (n := ss9 + 12) (Nat.le_refl _) (Nat.le_refl _) ?_
  refine lv_istore (lv' := [(5, .int w2), (4, .int (nI i5)), (3, .ref oa), (2, .ref mo), (1, .ref o), (0, .ref b)]) hx hb dL_law_740 hl (by decide) rfl (fun ls hl => ?_)
  refine lv_aload_n hx hb dL_law_742 rfl (lv_at hl 3 rfl) ?_
  refine lv_aload_n hx hb dL_law_743 rfl (lv_at hl 5 rfl) ?_
  refine lv_iload hx hb dL_law_744 (lv_at hl 1 rfl) ?_
  refine lv_iconst (v := 1) hx hb dL_law_746 (by decide) ?_
  refine lv_iadd hx hb dL_law_747 ?_
  refine W.eq (g2 := F0 m 748 ls [.int (nI (i5 + 1)), .ref b, .ref mo]) (by rw [show (((nI i5)) + (1) : Int32) = nI (i5 + 1) from nI_add i5 1]) ?_
  refine va_sld hx hb hX hbl hbA hS (vp_in_nI (by omega) (by omega)) dL_law_748 ?_
  refine W.eq (g2 := F0 m 749 ls [.int (xs (i5 + 1)), .ref mo]) (by rw [nI_clamp (by omega)]) ?_
  obtain ⟨_, _, _, _, _, _, _, _, _, _, _, _, _, _, _, _, _, _, _, _, _, _, -, hMob, -⟩ := id hI
  refine m_kV (As := [.int (xs (i5 + 1))]) (rest := []) (rm := { frames := 2, cells := 0, slots := 0, locals := 46 }) ⟨hx, hb, hml, hown, hts⟩ (s_X6_mark l D k z _ mo cn ia dr en la wo op mk ir se ec lc wc ol al dn md (xs (i5 + 1)) hbd hI) (cwV 1 hts gL_law_X6_mark rfl rfl rfl (by decide +kernel) ⟨Nat.le_of_ble_eq_true rfl, Nat.le_of_ble_eq_true rfl⟩) (m_recv hK hm (q := (RX6, TX6, 24)) rfl hMob) hz hcx hm hS rfl hl.1 rfl (Nat.le_of_ble_eq_true rfl) dL_law_749 ⟨(show cc9 + 2 + 0 ≤ 601024 by omega), (show ss9 + 12 + 0 ≤ 7293034 by omega)⟩ (fun v M1 H locs hv hm hS => ?_)
  obtain ⟨hv1, hI9, hk9⟩ := hv
  obtain ⟨Mc2, hMx⟩ : ∃ x : mM, x = M1 := ⟨M1, rfl⟩
  subst hMx
  have hT := hT.kp hk9 hof
  have hI := hI9
  obtain ⟨w4, hv1⟩ := hv1
  subst hv1
  refine W.eq (g2 := F0 m 752 ls [.int w4]) rfl ?_
  refine W.widen (k := cc9 + 2) (n := ss9 + 12) (Nat.le_refl _) (Nat.le_refl _) ?_
  refine lv_istore (lv' := [(6, .int w4), (5, .int w2), (4, .int (nI i5)), (3, .ref oa), (2, .ref mo), (1, .ref o), (0, .ref b)]) hx hb dL_law_752 hl (by decide) rfl (fun ls hl => ?_)
  refine lv_goto (tgt := 905) hx hb dL_law_754 (by decide) ?_
  refine W.widen (k := cc9 + 121) (n := ss9 + 4086) (by omega) (by omega) ?_
  exact kk _ _ _ _ ⟨κ, cn, ia, dr, en, la, wo, op, mk, ir, se, ec, lc, wc, ol, al, dn, md, hT, hko, hkoa, hI, hbd, hof⟩ hm hS (lv_sub hl [2, 3, 4, 5, 6] rfl)
