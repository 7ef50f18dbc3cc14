set_option maxHeartbeats 4000000 in
set_option maxRecDepth 100000 in
theorem LC_back {p : Program} {e : Env} {s : State} {m : MethodId} {below : List Frame} {meth : Method} {c : Code} (l : Launch) (hlt : l.stackTraces = false) {b L : Nat} {xs : Nat → Int32} (C0 : lw_At p s m meth c b L xs) (D : va_G) (k : Nat → ClassId) (z : Nat) (hz : z ≤ s.heap.size) (hz2 : s.heap.size ≤ z) (hcxN : cxN D k (AZ z) s) (o mo oa : Nat) (M : mM) {H : Heap} {locs : List Loc} {ls : Array Slot} (cc9 ss9 i5 : Nat) (hcc : cc9 + 121 ≤ 601024) (hss : ss9 + 4086 ≤ 7293034) (hi5 : i5 + 5 ≤ L) (hL : L ≤ 2560) (hLI : LI k M o mo oa) (hm : mm D (AZ z) M H) (hS : va_S (AZ z) s.heap H locs) (hl : lv_has ls 7 [(4, .int (nI i5)), (3, .ref oa), (2, .ref mo), (1, .ref o), (0, .ref b)])
    (kk : ∀ (M9 : mM) (H9 : Heap) (locs9 : List Loc) (ls9 : Array Slot), LI k M9 o mo oa → mm D (AZ z) M9 H9 → va_S (AZ z) s.heap H9 locs9 → lv_has ls9 7 [(4, .int (nI i5)), (3, .ref oa), (2, .ref mo), (1, .ref o), (0, .ref b)] → W p l e room_1 s m #[Value.ref b] below meth c H9 locs9 (cc9 + 121) (ss9 + 4086) (lw_Z below #[Value.ref b] s) (F0 m 905 ls9 [])) : W p l e room_1 s m #[Value.ref b] below meth c H locs cc9 ss9 (lw_Z below #[Value.ref b] s) (F0 m 757 ls []) := by
  obtain ⟨hx, hb, hr, hml, hown, hts0, hX, hbl, hlocks, hgv⟩ := id C0
  have hts : ∀ w ∈ wsL_law, w.before #[Value.ref b] s = true := fun w h => hts0 w (wl_in w h)
  have hcx := hcxN.1
  have hK := hcx.1
  have hA : ∀ q, s.heap.size ≤ q → AZ z q := fun q h => Nat.le_trans hz h
  have hbA : ¬ AZ z b := fun h => absurd (Nat.le_trans hz2 h) (Nat.not_le.mpr hbl)
  obtain ⟨κ, cn, ia, dr, en, la, wo, op, mk, ir, se, ec, lc, wc, ol, al, dn, md, hT, hko, hkoa, hI, hbd, hof⟩ := hLI
  refine lv_aload_n hx hb dL_law_757 rfl (lv_at hl 3 rfl) ?_
  refine lv_aload_n hx hb dL_law_758 rfl (lv_at hl 4 rfl) ?_
  refine lv_iload hx hb dL_law_759 (lv_at hl 0 rfl) ?_
  refine lv_iconst (v := 1) hx hb dL_law_761 (by decide) ?_
  refine lv_iadd hx hb dL_law_762 ?_
  refine W.eq (g2 := F0 m 763 ls [.int (nI (i5 + 1)), .ref b, .ref o]) (by rw [show (((nI i5)) + (1) : Int32) = nI (i5 + 1) from nI_add i5 1]) ?_
  refine va_sld hx hb hX hbl hbA hS (vp_in_nI (by omega) (by omega)) dL_law_763 ?_
  refine W.eq (g2 := F0 m 764 ls [.int (xs (i5 + 1)), .ref o]) (by rw [nI_clamp (by omega)]) ?_
  refine lv_aload_n hx hb dL_law_764 rfl (lv_at hl 1 rfl) ?_
  refine m_kSW (hh := [(0, 9, 12, 13), (0, 9, 15, 15)]) (As := [.ref o, .int (xs (i5 + 1)), .ref oa]) (rest := []) (rm := { frames := 8, cells := 2, slots := 12, locals := 126 }) ⟨hx, hb, hml, hown, hts⟩ (h_L_back l hlt D k z _ _ o (xs (i5 + 1)) oa hko hkoa hT) (vx_cwSW 3 hts gL_law_L_back rfl rfl rfl (by decide +kernel) ⟨Nat.le_of_ble_eq_true rfl, Nat.le_of_ble_eq_true rfl⟩) hz hcxN hm hS rfl hl.1 rfl (Nat.le_of_ble_eq_true rfl) dL_law_765 ⟨(show cc9 + 2 ≤ 601024 by omega), (show ss9 + 12 ≤ 7293034 by omega)⟩ (fun v M1 H locs hv hm hS => ?_)
  obtain ⟨κ1, hT1, hx1, hv1⟩ := hv
  obtain ⟨Mc1, hMx⟩ : ∃ x : mM, x = M1 := ⟨M1, rfl⟩
  subst hMx
  have hof1 := hI.off hx1 hof
  have hI := hI.mv hx1 hof
  have hof := hof1
  have hko := hx1.k hT hko
  have hkoa := hx1.k hT hkoa
  have hT := hT1
  obtain ⟨κ, hκ⟩ : ∃ x, x = κ1 := ⟨_, rfl⟩
  subst hκ
  obtain ⟨w2, hv1⟩ := hv1
  subst hv1
  refine W.eq (g2 := F0 m 768 ls [.int w2]) rfl ?_
  refine W.widen (k := cc9 + 2) (n := ss9 + 12) (Nat.le_refl _) (Nat.le_refl _) ?_
  refine lv_istore (lv' := [(5, .int w2), (4, .int (nI i5)), (3, .ref oa), (2, .ref mo), (1, .ref o), (0, .ref b)]) hx hb dL_law_768 hl (by decide) rfl (fun ls hl => ?_)
  refine lv_aload_n hx hb dL_law_770 rfl (lv_at hl 3 rfl) ?_
  refine lv_aload_n hx hb dL_law_771 rfl (lv_at hl 5 rfl) ?_
  refine lv_iload hx hb dL_law_772 (lv_at hl 1 rfl) ?_
  refine lv_iconst (v := 1) hx hb dL_law_774 (by decide) ?_
  refine lv_iadd hx hb dL_law_775 ?_
  refine W.eq (g2 := F0 m 776 ls [.int (nI (i5 + 1)), .ref b, .ref mo]) (by rw [show (((nI i5)) + (1) : Int32) = nI (i5 + 1) from nI_add i5 1]) ?_
  refine va_sld hx hb hX hbl hbA hS (vp_in_nI (by omega) (by omega)) dL_law_776 ?_
  refine W.eq (g2 := F0 m 777 ls [.int (xs (i5 + 1)), .ref mo]) (by rw [nI_clamp (by omega)]) ?_
  obtain ⟨_, _, _, _, _, _, _, _, _, _, _, _, _, _, _, _, _, _, _, _, _, _, -, hMob, -⟩ := id hI
  refine m_kV (As := [.int (xs (i5 + 1))]) (rest := []) (rm := { frames := 2, cells := 0, slots := 0, locals := 46 }) ⟨hx, hb, hml, hown, hts⟩ (s_X6_back l D k z _ mo cn ia dr en la wo op mk ir se ec lc wc ol al dn md (xs (i5 + 1)) hbd hI) (cwV 1 hts gL_law_X6_back rfl rfl rfl (by decide +kernel) ⟨Nat.le_of_ble_eq_true rfl, Nat.le_of_ble_eq_true rfl⟩) (m_recv hK hm (q := (RX6, TX6, 24)) rfl hMob) hz hcx hm hS rfl hl.1 rfl (Nat.le_of_ble_eq_true rfl) dL_law_777 ⟨(show cc9 + 2 + 0 ≤ 601024 by omega), (show ss9 + 12 + 0 ≤ 7293034 by omega)⟩ (fun v M1 H locs hv hm hS => ?_)
  obtain ⟨hv1, hI9, hk9⟩ := hv
  obtain ⟨Mc2, hMx⟩ : ∃ x : mM, x = M1 := ⟨M1, rfl⟩
  subst hMx
  have hT := hT.kp hk9 hof
  have hI := hI9
  obtain ⟨w4, hv1⟩ := hv1
  subst hv1
  refine W.eq (g2 := F0 m 780 ls [.int w4]) rfl ?_
  refine W.widen (k := cc9 + 2) (n := ss9 + 12) (Nat.le_refl _) (Nat.le_refl _) ?_
  refine lv_istore (lv' := [(6, .int w4), (5, .int w2), (4, .int (nI i5)), (3, .ref oa), (2, .ref mo), (1, .ref o), (0, .ref b)]) hx hb dL_law_780 hl (by decide) rfl (fun ls hl => ?_)
  refine lv_goto (tgt := 905) hx hb dL_law_782 (by decide) ?_
  refine W.widen (k := cc9 + 121) (n := ss9 + 4086) (by omega) (by omega) ?_
  exact kk _ _ _ _ ⟨κ, cn, ia, dr, en, la, wo, op, mk, ir, se, ec, lc, wc, ol, al, dn, md, hT, hko, hkoa, hI, hbd, hof⟩ hm hS (lv_sub hl [2, 3, 4, 5, 6] rfl)

set_option maxHeartbeats 4000000 in
set_option maxRecDepth 100000 in
theorem LC_about {p : Program} {e : Env} {s : State} {m : MethodId} {below : List Frame} {meth : Method} {c : Code} (l : Launch) (hlt : l.stackTraces = false) {b L : Nat} {xs : Nat → Int32} (C0 : lw_At p s m meth c b L xs) (D : va_G) (k : Nat → ClassId) (z : Nat) (hz : z ≤ s.heap.size) (hz2 : s.heap.size ≤ z) (hcxN : cxN D k (AZ z) s) (o mo oa : Nat) (M : mM) {H : Heap} {locs : List Loc} {ls : Array Slot} (cc9 ss9 i5 : Nat) (hcc : cc9 + 121 ≤ 601024) (hss : ss9 + 4086 ≤ 7293034) (hi5 : i5 + 5 ≤ L) (hL : L ≤ 2560) (hLI : LI k M o mo oa) (hm : mm D (AZ z) M H) (hS : va_S (AZ z) s.heap H locs) (hl : lv_has ls 7 [(4, .int (nI i5)), (3, .ref oa), (2, .ref mo), (1, .ref o), (0, .ref b)])
    (kk : ∀ (M9 : mM) (H9 : Heap) (locs9 : List Loc) (ls9 : Array Slot), LI k M9 o mo oa → mm D (AZ z) M9 H9 → va_S (AZ z) s.heap H9 locs9 → lv_has ls9 7 [(4, .int (nI i5)), (3, .ref oa), (2, .ref mo), (1, .ref o), (0, .ref b)] → W p l e room_1 s m #[Value.ref b] below meth c H9 locs9 (cc9 + 121) (ss9 + 4086) (lw_Z below #[Value.ref b] s) (F0 m 905 ls9 [])) : W p l e room_1 s m #[Value.ref b] below meth c H locs cc9 ss9 (lw_Z below #[Value.ref b] s) (F0 m 785 ls []) := by
  obtain ⟨hx, hb, hr, hml, hown, hts0, hX, hbl, hlocks, hgv⟩ := id C0
  have hts : ∀ w ∈ wsL_law, w.before #[Value.ref b] s = true := fun w h => hts0 w (wl_in w h)
  have hcx := hcxN.1
  have hK := hcx.1
  have hA : ∀ q, s.heap.size ≤ q → AZ z q := fun q h => Nat.le_trans hz h
  have hbA : ¬ AZ z b := fun h => absurd (Nat.le_trans hz2 h) (Nat.not_le.mpr hbl)
  obtain ⟨κ, cn, ia, dr, en, la, wo, op, mk, ir, se, ec, lc, wc, ol, al, dn, md, hT, hko, hkoa, hI, hbd, hof⟩ := hLI
  refine lv_aload_n hx hb dL_law_785 rfl (lv_at hl 3 rfl) ?_
  refine lv_aload_n hx hb dL_law_786 rfl (lv_at hl 4 rfl) ?_
  refine lv_iload hx hb dL_law_787 (lv_at hl 0 rfl) ?_
  refine lv_iconst (v := 1) hx hb dL_law_789 (by decide) ?_
  refine lv_iadd hx hb dL_law_790 ?_
  refine W.eq (g2 := F0 m 791 ls [.int (nI (i5 + 1)), .ref b, .ref o]) (by rw [show (((nI i5)) + (1) : Int32) = nI (i5 + 1) from nI_add i5 1]) ?_
  refine va_sld hx hb hX hbl hbA hS (vp_in_nI (by omega) (by omega)) dL_law_791 ?_
  refine W.eq (g2 := F0 m 792 ls [.int (xs (i5 + 1)), .ref o]) (by rw [nI_clamp (by omega)]) ?_
  refine lv_aload_n hx hb dL_law_792 rfl (lv_at hl 4 rfl) ?_
  refine lv_iload hx hb dL_law_793 (lv_at hl 0 rfl) ?_
  refine lv_iconst (v := 2) hx hb dL_law_795 (by decide) ?_
  refine lv_iadd hx hb dL_law_796 ?_
  refine W.eq (g2 := F0 m 797 ls [.int (nI (i5 + 2)), .ref b, .int (xs (i5 + 1)), .ref o]) (by rw [show (((nI i5)) + (2) : Int32) = nI (i5 + 2) from nI_add i5 2]) ?_
  refine va_sld hx hb hX hbl hbA hS (vp_in_nI (by omega) (by omega)) dL_law_797 ?_
  refine W.eq (g2 := F0 m 798 ls [.int (xs (i5 + 2)), .int (xs (i5 + 1)), .ref o]) (by rw [nI_clamp (by omega)]) ?_
  refine lv_aload_n hx hb dL_law_798 rfl (lv_at hl 1 rfl) ?_
  refine m_kSW (hh := [(0, 10, 13, 13), (0, 10, 17, 31)]) (As := [.ref o, .int (xs (i5 + 1)), .int (xs (i5 + 2)), .ref oa]) (rest := []) (rm := { frames := 8, cells := 2, slots := 12, locals := 146 }) ⟨hx, hb, hml, hown, hts⟩ (h_L_about l hlt D k z _ _ o (xs (i5 + 1)) (xs (i5 + 2)) oa hko hkoa hT) (vx_cwSW 4 hts gL_law_L_about rfl rfl rfl (by decide +kernel) ⟨Nat.le_of_ble_eq_true rfl, Nat.le_of_ble_eq_true rfl⟩) hz hcxN hm hS rfl hl.1 rfl (Nat.le_of_ble_eq_true rfl) dL_law_799 ⟨(show cc9 + 2 ≤ 601024 by omega), (show ss9 + 12 ≤ 7293034 by omega)⟩ (fun v M1 H locs hv hm hS => ?_)
  obtain ⟨κ1, hT1, hx1, hv1⟩ := hv
  obtain ⟨Mc1, hMx⟩ : ∃ x : mM, x = M1 := ⟨M1, rfl⟩
  subst hMx
  have hof1 := hI.off hx1 hof
  have hI := hI.mv hx1 hof
  have hof := hof1
  have hko := hx1.k hT hko
  have hkoa := hx1.k hT hkoa
  have hT := hT1
  obtain ⟨κ, hκ⟩ : ∃ x, x = κ1 := ⟨_, rfl⟩
  subst hκ
  obtain ⟨w3, hv1⟩ := hv1
  subst hv1
  refine W.eq (g2 := F0 m 802 ls [.int w3]) rfl ?_
  refine W.widen (k := cc9 + 2) (n := ss9 + 12) (Nat.le_refl _) (Nat.le_refl _) ?_
  refine lv_istore (lv' := [(5, .int w3), (4, .int (nI i5)), (3, .ref oa), (2, .ref mo), (1, .ref o), (0, .ref b)]) hx hb dL_law_802 hl (by decide) rfl (fun ls hl => ?_)
  refine lv_aload_n hx hb dL_law_804 rfl (lv_at hl 3 rfl) ?_
  refine lv_aload_n hx hb dL_law_805 rfl (lv_at hl 5 rfl) ?_
  refine lv_iload hx hb dL_law_806 (lv_at hl 1 rfl) ?_
  refine lv_iconst (v := 1) hx hb dL_law_808 (by decide) ?_
  refine lv_iadd hx hb dL_law_809 ?_
  refine W.eq (g2 := F0 m 810 ls [.int (nI (i5 + 1)), .ref b, .ref mo]) (by rw [show (((nI i5)) + (1) : Int32) = nI (i5 + 1) from nI_add i5 1]) ?_
  refine va_sld hx hb hX hbl hbA hS (vp_in_nI (by omega) (by omega)) dL_law_810 ?_
  refine W.eq (g2 := F0 m 811 ls [.int (xs (i5 + 1)), .ref mo]) (by rw [nI_clamp (by omega)]) ?_
  refine lv_aload_n hx hb dL_law_811 rfl (lv_at hl 5 rfl) ?_
  refine lv_iload hx hb dL_law_812 (lv_at hl 1 rfl) ?_
  refine lv_iconst (v := 2) hx hb dL_law_814 (by decide) ?_
  refine lv_iadd hx hb dL_law_815 ?_
  refine W.eq (g2 := F0 m 816 ls [.int (nI (i5 + 2)), .ref b, .int (xs (i5 + 1)), .ref mo]) (by rw [show (((nI i5)) + (2) : Int32) = nI (i5 + 2) from nI_add i5 2]) ?_
  refine va_sld hx hb hX hbl hbA hS (vp_in_nI (by omega) (by omega)) dL_law_816 ?_
  refine W.eq (g2 := F0 m 817 ls [.int (xs (i5 + 2)), .int (xs (i5 + 1)), .ref mo]) (by rw [nI_clamp (by omega)]) ?_
  obtain ⟨_, _, _, _, _, _, _, _, _, _, _, _, _, _, _, _, _, _, _, _, _, _, -, hMob, -⟩ := id hI
  refine m_kV (As := [.int (xs (i5 + 1)), .int (xs (i5 + 2))]) (rest := []) (rm := { frames := 2, cells := 0, slots := 0, locals := 51 }) ⟨hx, hb, hml, hown, hts⟩ (s_X6_about l D k z _ mo cn ia dr en la wo op mk ir se ec lc wc ol al dn md (xs (i5 + 1)) (xs (i5 + 2)) hbd hI) (cwV 2 hts gL_law_X6_about rfl rfl rfl (by decide +kernel) ⟨Nat.le_of_ble_eq_true rfl, Nat.le_of_ble_eq_true rfl⟩) (m_recv hK hm (q := (RX6, TX6, 24)) rfl hMob) hz hcx hm hS rfl hl.1 rfl (Nat.le_of_ble_eq_true rfl) dL_law_817 ⟨(show cc9 + 2 + 0 ≤ 601024 by omega), (show ss9 + 12 + 0 ≤ 7293034 by omega)⟩ (fun v M1 H locs hv hm hS => ?_)
  obtain ⟨hv1, hI9, hk9⟩ := hv
  obtain ⟨Mc2, hMx⟩ : ∃ x : mM, x = M1 := ⟨M1, rfl⟩
  subst hMx
  have hT := hT.kp hk9 hof
  have hI := hI9
  obtain ⟨w6, hv1⟩ := hv1
  subst hv1
  refine W.eq (g2 := F0 m 820 ls [.int w6]) rfl ?_
  refine W.widen (k := cc9 + 2) (n := ss9 + 12) (Nat.le_refl _) (Nat.le_refl _) ?_
  refine lv_istore (lv' := [(6, .int w6), (5, .int w3), (4, .int (nI i5)), (3, .ref oa), (2, .ref mo), (1, .ref o), (0, .ref b)]) hx hb dL_law_820 hl (by decide) rfl (fun ls hl => ?_)
  refine lv_goto (tgt := 905) hx hb dL_law_822 (by decide) ?_
  refine W.widen (k := cc9 + 121) (n := ss9 + 4086) (by omega) (by omega) ?_
  exact kk _ _ _ _ ⟨κ, cn, ia, dr, en, la, wo, op, mk, ir, se, ec, lc, wc, ol, al, dn, md, hT, hko, hkoa, hI, hbd, hof⟩ hm hS (lv_sub hl [2, 3, 4, 5, 6] rfl)

set_option maxHeartbeats 4000000 in
set_option maxRecDepth 100000 in
theorem LC_power {p : Program} {e : Env} {s : State} {m : MethodId} {below : List Frame} {meth : Method} {c : Code} (l : Launch) (hlt : l.stackTraces = false) {b L : Nat} {xs : Nat → Int32} (C0 : lw_At p s m meth c b L xs) (D : va_G) (k : Nat → ClassId) (z : Nat) (hz : z ≤ s.heap.size) (hz2 : s.heap.size ≤ z) (hcxN : cxN D k (AZ z) s) (o mo oa : Nat) (M : mM) {H : Heap} {locs : List Loc} {ls : Array Slot} (cc9 ss9 i5 : Nat) (hcc : cc9 + 121 ≤ 601024) (hss : ss9 + 4086 ≤ 7293034) (hi5 : i5 + 5 ≤ L) (hL : L ≤ 2560) (hLI : LI k M o mo oa) (hm : mm D (AZ z) M H) (hS : va_S (AZ z) s.heap H locs) (hl : lv_has ls 7 [(4, .int (nI i5)), (3, .ref oa), (2, .ref mo), (1, .ref o), (0, .ref b)])
    (kk : ∀ (M9 : mM) (H9 : Heap) (locs9 : List Loc) (ls9 : Array Slot), LI k M9 o mo oa → mm D (AZ z) M9 H9 → va_S (AZ z) s.heap H9 locs9 → lv_has ls9 7 [(4, .int (nI i5)), (3, .ref oa), (2, .ref mo), (1, .ref o), (0, .ref b)] → W p l e room_1 s m #[Value.ref b] below meth c H9 locs9 (cc9 + 121) (ss9 + 4086) (lw_Z below #[Value.ref b] s) (F0 m 905 ls9 [])) : W p l e room_1 s m #[Value.ref b] below meth c H locs cc9 ss9 (lw_Z below #[Value.ref b] s) (F0 m 825 ls []) := by
  obtain ⟨hx, hb, hr, hml, hown, hts0, hX, hbl, hlocks, hgv⟩ := id C0
  have hts : ∀ w ∈ wsL_law, w.before #[Value.ref b] s = true := fun w h => hts0 w (wl_in w h)
  have hcx := hcxN.1
  have hK := hcx.1
  have hA : ∀ q, s.heap.size ≤ q → AZ z q := fun q h => Nat.le_trans hz h
  have hbA : ¬ AZ z b := fun h => absurd (Nat.le_trans hz2 h) (Nat.not_le.mpr hbl)
  obtain ⟨κ, cn, ia, dr, en, la, wo, op, mk, ir, se, ec, lc, wc, ol, al, dn, md, hT, hko, hkoa, hI, hbd, hof⟩ := hLI
  refine lv_aload_n hx hb dL_law_825 rfl (lv_at hl 3 rfl) ?_
  refine lv_aload_n hx hb dL_law_826 rfl (lv_at hl 4 rfl) ?_
  refine lv_iload hx hb dL_law_827 (lv_at hl 0 rfl) ?_
  refine lv_iconst (v := 1) hx hb dL_law_829 (by decide) ?_
  refine lv_iadd hx hb dL_law_830 ?_
  refine W.eq (g2 := F0 m 831 ls [.int (nI (i5 + 1)), .ref b, .ref o]) (by rw [show (((nI i5)) + (1) : Int32) = nI (i5 + 1) from nI_add i5 1]) ?_
  refine va_sld hx hb hX hbl hbA hS (vp_in_nI (by omega) (by omega)) dL_law_831 ?_
  refine W.eq (g2 := F0 m 832 ls [.int (xs (i5 + 1)), .ref o]) (by rw [nI_clamp (by omega)]) ?_
  refine m_kSW (hh := [(0, 5, 8, 31)]) (As := [.ref o, .int (xs (i5 + 1))]) (rest := []) (rm := { frames := 7, cells := 1, slots := 6, locals := 103 }) ⟨hx, hb, hml, hown, hts⟩ (h_L_power l hlt D k z _ _ o (xs (i5 + 1))  hko  hT) (vx_cwSW 2 hts gL_law_L_power rfl rfl rfl (by decide +kernel) ⟨Nat.le_of_ble_eq_true rfl, Nat.le_of_ble_eq_true rfl⟩) hz hcxN hm hS rfl hl.1 rfl (Nat.le_of_ble_eq_true rfl) dL_law_832 ⟨(show cc9 + 1 ≤ 601024 by omega), (show ss9 + 6 ≤ 7293034 by omega)⟩ (fun v M1 H locs hv hm hS => ?_)
  obtain ⟨κ1, hT1, hx1, hv1⟩ := hv
  obtain ⟨Mc1, hMx⟩ : ∃ x : mM, x = M1 := ⟨M1, rfl⟩
  subst hMx
  have hof1 := hI.off hx1 hof
  have hI := hI.mv hx1 hof
  have hof := hof1
  have hko := hx1.k hT hko
  have hkoa := hx1.k hT hkoa
  have hT := hT1
  obtain ⟨κ, hκ⟩ : ∃ x, x = κ1 := ⟨_, rfl⟩
  subst hκ
  rcases hv1 with ⟨hcP, hv1⟩ | ⟨hcP, hv1⟩
  · subst hv1
    refine W.eq (g2 := F0 m 835 ls [.int 0]) rfl ?_
    refine W.widen (k := cc9 + 1) (n := ss9 + 6) (Nat.le_refl _) (Nat.le_refl _) ?_
    refine lv_istore (lv' := [(5, .int 0), (4, .int (nI i5)), (3, .ref oa), (2, .ref mo), (1, .ref o), (0, .ref b)]) hx hb dL_law_835 hl (by decide) rfl (fun ls hl => ?_)
    refine lv_aload_n hx hb dL_law_837 rfl (lv_at hl 3 rfl) ?_
    refine lv_aload_n hx hb dL_law_838 rfl (lv_at hl 5 rfl) ?_
    refine lv_iload hx hb dL_law_839 (lv_at hl 1 rfl) ?_
    refine lv_iconst (v := 1) hx hb dL_law_841 (by decide) ?_
    refine lv_iadd hx hb dL_law_842 ?_
    refine W.eq (g2 := F0 m 843 ls [.int (nI (i5 + 1)), .ref b, .ref mo]) (by rw [show (((nI i5)) + (1) : Int32) = nI (i5 + 1) from nI_add i5 1]) ?_
    refine va_sld hx hb hX hbl hbA hS (vp_in_nI (by omega) (by omega)) dL_law_843 ?_
    refine W.eq (g2 := F0 m 844 ls [.int (xs (i5 + 1)), .ref mo]) (by rw [nI_clamp (by omega)]) ?_
    obtain ⟨_, _, _, _, _, _, _, _, _, _, _, _, _, _, _, _, _, _, _, _, _, _, -, hMob, -⟩ := id hI
    refine m_kV (As := [.int (xs (i5 + 1))]) (rest := []) (rm := { frames := 1, cells := 0, slots := 0, locals := 21 }) ⟨hx, hb, hml, hown, hts⟩ (p_X6_power l D k z _ mo cn ia dr en la wo op mk ir se ec lc wc ol al dn md (xs (i5 + 1))  hI) (cwV 1 hts gL_law_X6_power rfl rfl rfl (by decide +kernel) ⟨Nat.le_of_ble_eq_true rfl, Nat.le_of_ble_eq_true rfl⟩) (m_recv hK hm (q := (RX6, TX6, 24)) rfl hMob) hz hcx hm hS rfl hl.1 rfl (Nat.le_of_ble_eq_true rfl) dL_law_844 ⟨(show cc9 + 1 + 0 ≤ 601024 by omega), (show ss9 + 6 + 0 ≤ 7293034 by omega)⟩ (fun v M1 H locs hv hm hS => ?_)
    obtain ⟨hv1, hI9, hk9⟩ := hv
    obtain ⟨Mc2, hMx⟩ : ∃ x : mM, x = M1 := ⟨M1, rfl⟩
    subst hMx
    have hT := hT.kp hk9 hof
    have hI := hI9
    obtain ⟨hv1, hv2⟩ := hv1
    subst hv1
    obtain ⟨fs9, hMc⟩ : ∃ fs, Mc2 mo = some (.inr (6, .int 0 :: fs)) := by
      rcases hv2 with ⟨q1, q2, q3⟩ | ⟨q1, q3⟩
      · exact q3
      · exact absurd q1 (fun q => q.elim (fun q => hcP.1 q) (fun q => absurd hcP.2 (Int32.not_le.mpr q)))
    refine W.eq (g2 := F0 m 847 ls []) rfl ?_
    refine W.widen (k := cc9 + 1) (n := ss9 + 6) (Nat.le_refl _) (Nat.le_refl _) ?_
    refine lv_aload_n hx hb dL_law_847 rfl (lv_at hl 3 rfl) ?_
    refine m_kV (As := []) (rest := []) (rm := { frames := 0, cells := 0, slots := 0, locals := 0 }) ⟨hx, hb, hml, hown, hts⟩ (c_X6_thrown l D k z _ mo 0 fs9 hMc) (cwV 0 hts gL_law_X6_thrown rfl rfl rfl (by decide +kernel) ⟨Nat.le_of_ble_eq_true rfl, Nat.le_of_ble_eq_true rfl⟩) (m_recv hK hm (q := (RX6, TX6, 24)) rfl hMc) hz hcx hm hS rfl hl.1 rfl (Nat.le_of_ble_eq_true rfl) dL_law_848 ⟨(show cc9 + 1 + 0 ≤ 601024 by omega), (show ss9 + 6 + 0 ≤ 7293034 by omega)⟩ (fun v M1 H locs hv hm hS => ?_)
    obtain ⟨hv1, hM1⟩ := hv
    rw [hM1] at hm
    subst hv1
    refine W.eq (g2 := F0 m 851 ls [.int 0]) rfl ?_
    refine W.widen (k := cc9 + 1) (n := ss9 + 6) (Nat.le_refl _) (Nat.le_refl _) ?_
    refine lv_iload hx hb dL_law_851 (lv_at hl 0 rfl) ?_
    refine lv_icmp_eq (tgt := 858) hx hb dL_law_853 (by decide) (fun c3 => ?_) (fun c3 => ?_)
    · refine lv_goto (tgt := 905) hx hb dL_law_858 (by decide) ?_
      refine W.widen (k := cc9 + 121) (n := ss9 + 4086) (by omega) (by omega) ?_
      exact kk _ _ _ _ ⟨κ, cn, ia, dr, en, la, wo, op, mk, ir, se, ec, lc, wc, ol, al, dn, md, hT, hko, hkoa, hI, hbd, hof⟩ hm hS (lv_sub hl [1, 2, 3, 4, 5] rfl)
    · first | exact absurd c3 (by decide) | exact absurd (by decide) c3
  · subst hv1
    refine W.eq (g2 := F0 m 835 ls [.int 1]) rfl ?_
    refine W.widen (k := cc9 + 1) (n := ss9 + 6) (Nat.le_refl _) (Nat.le_refl _) ?_
    refine lv_istore (lv' := [(5, .int 1), (4, .int (nI i5)), (3, .ref oa), (2, .ref mo), (1, .ref o), (0, .ref b)]) hx hb dL_law_835 hl (by decide) rfl (fun ls hl => ?_)
    refine lv_aload_n hx hb dL_law_837 rfl (lv_at hl 3 rfl) ?_
    refine lv_aload_n hx hb dL_law_838 rfl (lv_at hl 5 rfl) ?_
    refine lv_iload hx hb dL_law_839 (lv_at hl 1 rfl) ?_
    refine lv_iconst (v := 1) hx hb dL_law_841 (by decide) ?_
    refine lv_iadd hx hb dL_law_842 ?_
    refine W.eq (g2 := F0 m 843 ls [.int (nI (i5 + 1)), .ref b, .ref mo]) (by rw [show (((nI i5)) + (1) : Int32) = nI (i5 + 1) from nI_add i5 1]) ?_
    refine va_sld hx hb hX hbl hbA hS (vp_in_nI (by omega) (by omega)) dL_law_843 ?_
    refine W.eq (g2 := F0 m 844 ls [.int (xs (i5 + 1)), .ref mo]) (by rw [nI_clamp (by omega)]) ?_
    obtain ⟨_, _, _, _, _, _, _, _, _, _, _, _, _, _, _, _, _, _, _, _, _, _, -, hMob, -⟩ := id hI
    refine m_kV (As := [.int (xs (i5 + 1))]) (rest := []) (rm := { frames := 1, cells := 0, slots := 0, locals := 21 }) ⟨hx, hb, hml, hown, hts⟩ (p_X6_power l D k z _ mo cn ia dr en la wo op mk ir se ec lc wc ol al dn md (xs (i5 + 1))  hI) (cwV 1 hts gL_law_X6_power rfl rfl rfl (by decide +kernel) ⟨Nat.le_of_ble_eq_true rfl, Nat.le_of_ble_eq_true rfl⟩) (m_recv hK hm (q := (RX6, TX6, 24)) rfl hMob) hz hcx hm hS rfl hl.1 rfl (Nat.le_of_ble_eq_true rfl) dL_law_844 ⟨(show cc9 + 1 + 0 ≤ 601024 by omega), (show ss9 + 6 + 0 ≤ 7293034 by omega)⟩ (fun v M1 H locs hv hm hS => ?_)
    obtain ⟨hv1, hI9, hk9⟩ := hv
    obtain ⟨Mc3, hMx⟩ : ∃ x : mM, x = M1 := ⟨M1, rfl⟩
    subst hMx
    have hT := hT.kp hk9 hof
    have hI := hI9
    obtain ⟨hv1, hv2⟩ := hv1
    subst hv1
    obtain ⟨fs9, hMc⟩ : ∃ fs, Mc3 mo = some (.inr (6, .int 1 :: fs)) := by
      rcases hv2 with ⟨q1, q2, q3⟩ | ⟨q1, q3⟩
      · exact absurd hcP (fun q => q.elim (fun q => q1 q) (fun q => q (Int32.not_lt.mp q2)))
      · exact q3
    refine W.eq (g2 := F0 m 847 ls []) rfl ?_
    refine W.widen (k := cc9 + 1) (n := ss9 + 6) (Nat.le_refl _) (Nat.le_refl _) ?_
    refine lv_aload_n hx hb dL_law_847 rfl (lv_at hl 3 rfl) ?_
    refine m_kV (As := []) (rest := []) (rm := { frames := 0, cells := 0, slots := 0, locals := 0 }) ⟨hx, hb, hml, hown, hts⟩ (c_X6_thrown l D k z _ mo 1 fs9 hMc) (cwV 0 hts gL_law_X6_thrown rfl rfl rfl (by decide +kernel) ⟨Nat.le_of_ble_eq_true rfl, Nat.le_of_ble_eq_true rfl⟩) (m_recv hK hm (q := (RX6, TX6, 24)) rfl hMc) hz hcx hm hS rfl hl.1 rfl (Nat.le_of_ble_eq_true rfl) dL_law_848 ⟨(show cc9 + 1 + 0 ≤ 601024 by omega), (show ss9 + 6 + 0 ≤ 7293034 by omega)⟩ (fun v M1 H locs hv hm hS => ?_)
    obtain ⟨hv1, hM1⟩ := hv
    rw [hM1] at hm
    subst hv1
    refine W.eq (g2 := F0 m 851 ls [.int 1]) rfl ?_
    refine W.widen (k := cc9 + 1) (n := ss9 + 6) (Nat.le_refl _) (Nat.le_refl _) ?_
    refine lv_iload hx hb dL_law_851 (lv_at hl 0 rfl) ?_
    refine lv_icmp_eq (tgt := 858) hx hb dL_law_853 (by decide) (fun c5 => ?_) (fun c5 => ?_)
    · refine lv_goto (tgt := 905) hx hb dL_law_858 (by decide) ?_
      refine W.widen (k := cc9 + 121) (n := ss9 + 4086) (by omega) (by omega) ?_
      exact kk _ _ _ _ ⟨κ, cn, ia, dr, en, la, wo, op, mk, ir, se, ec, lc, wc, ol, al, dn, md, hT, hko, hkoa, hI, hbd, hof⟩ hm hS (lv_sub hl [1, 2, 3, 4, 5] rfl)
    · first | exact absurd c5 (by decide) | exact absurd (by decide) c5

set_option maxHeartbeats 4000000 in
set_option maxRecDepth 100000 in
theorem LC_recover {p : Program} {e : Env} {s : State} {m : MethodId} {below : List Frame} {meth : Method} {c : Code} (l : Launch) (hlt : l.stackTraces = false) {b L : Nat} {xs : Nat → Int32} (C0 : lw_At p s m meth c b L xs) (D : va_G) (k : Nat → ClassId) (z : Nat) (hz : z ≤ s.heap.size) (hz2 : s.heap.size ≤ z) (hcxN : cxN D k (AZ z) s) (o mo oa : Nat) (M : mM) {H : Heap} {locs : List Loc} {ls : Array Slot} (cc9 ss9 i5 : Nat) (hcc : cc9 + 121 ≤ 601024) (hss : ss9 + 4086 ≤ 7293034) (hi5 : i5 + 5 ≤ L) (hL : L ≤ 2560) (hLI : LI k M o mo oa) (hm : mm D (AZ z) M H) (hS : va_S (AZ z) s.heap H locs) (hl : lv_has ls 7 [(4, .int (nI i5)), (3, .ref oa), (2, .ref mo), (1, .ref o), (0, .ref b)])
    (kk : ∀ (M9 : mM) (H9 : Heap) (locs9 : List Loc) (ls9 : Array Slot), LI k M9 o mo oa → mm D (AZ z) M9 H9 → va_S (AZ z) s.heap H9 locs9 → lv_has ls9 7 [(4, .int (nI i5)), (3, .ref oa), (2, .ref mo), (1, .ref o), (0, .ref b)] → W p l e room_1 s m #[Value.ref b] below meth c H9 locs9 (cc9 + 121) (ss9 + 4086) (lw_Z below #[Value.ref b] s) (F0 m 905 ls9 [])) : W p l e room_1 s m #[Value.ref b] below meth c H locs cc9 ss9 (lw_Z below #[Value.ref b] s) (F0 m 861 ls []) := by
  obtain ⟨hx, hb, hr, hml, hown, hts0, hX, hbl, hlocks, hgv⟩ := id C0
  have hts : ∀ w ∈ wsL_law, w.before #[Value.ref b] s = true := fun w h => hts0 w (wl_in w h)
  have hcx := hcxN.1
  have hK := hcx.1
  have hA : ∀ q, s.heap.size ≤ q → AZ z q := fun q h => Nat.le_trans hz h
  have hbA : ¬ AZ z b := fun h => absurd (Nat.le_trans hz2 h) (Nat.not_le.mpr hbl)
  obtain ⟨κ, cn, ia, dr, en, la, wo, op, mk, ir, se, ec, lc, wc, ol, al, dn, md, hT, hko, hkoa, hI, hbd, hof⟩ := hLI
  refine lv_aload_n hx hb dL_law_861 rfl (lv_at hl 3 rfl) ?_
  refine lv_aload_n hx hb dL_law_862 rfl (lv_at hl 1 rfl) ?_
  refine m_kSW (hh := [(0, 8, 11, 13)]) (As := [.ref o, .ref oa]) (rest := []) (rm := { frames := 7, cells := 1, slots := 6, locals := 102 }) ⟨hx, hb, hml, hown, hts⟩ (h_L_recover l hlt D k z _ _ o  oa hko hkoa hT) (vx_cwSW 2 hts gL_law_L_recover rfl rfl rfl (by decide +kernel) ⟨Nat.le_of_ble_eq_true rfl, Nat.le_of_ble_eq_true rfl⟩) hz hcxN hm hS rfl hl.1 rfl (Nat.le_of_ble_eq_true rfl) dL_law_863 ⟨(show cc9 + 1 ≤ 601024 by omega), (show ss9 + 6 ≤ 7293034 by omega)⟩ (fun v M1 H locs hv hm hS => ?_)
  obtain ⟨κ1, hT1, hx1, hv1⟩ := hv
  obtain ⟨Mc1, hMx⟩ : ∃ x : mM, x = M1 := ⟨M1, rfl⟩
  subst hMx
  have hof1 := hI.off hx1 hof
  have hI := hI.mv hx1 hof
  have hof := hof1
  have hko := hx1.k hT hko
  have hkoa := hx1.k hT hkoa
  have hT := hT1
  obtain ⟨κ, hκ⟩ : ∃ x, x = κ1 := ⟨_, rfl⟩
  subst hκ
  obtain ⟨w1, hv1⟩ := hv1
  subst hv1
  refine W.eq (g2 := F0 m 866 ls [.int w1]) rfl ?_
  refine W.widen (k := cc9 + 1) (n := ss9 + 6) (Nat.le_refl _) (Nat.le_refl _) ?_
  refine lv_istore (lv' := [(5, .int w1), (4, .int (nI i5)), (3, .ref oa), (2, .ref mo), (1, .ref o), (0, .ref b)]) hx hb dL_law_866 hl (by decide) rfl (fun ls hl => ?_)
  refine lv_aload_n hx hb dL_law_868 rfl (lv_at hl 3 rfl) ?_
  obtain ⟨_, _, _, _, _, _, _, _, _, _, _, _, _, _, _, _, _, _, _, _, _, _, -, hMob, -⟩ := id hI
  refine m_kV (As := []) (rest := []) (rm := { frames := 2, cells := 0, slots := 0, locals := 46 }) ⟨hx, hb, hml, hown, hts⟩ (s_X6_recover l D k z _ mo cn ia dr en la wo op mk ir se ec lc wc ol al dn md  hbd hI) (cwV 0 hts gL_law_X6_recover rfl rfl rfl (by decide +kernel) ⟨Nat.le_of_ble_eq_true rfl, Nat.le_of_ble_eq_true rfl⟩) (m_recv hK hm (q := (RX6, TX6, 24)) rfl hMob) hz hcx hm hS rfl hl.1 rfl (Nat.le_of_ble_eq_true rfl) dL_law_869 ⟨(show cc9 + 1 + 0 ≤ 601024 by omega), (show ss9 + 6 + 0 ≤ 7293034 by omega)⟩ (fun v M1 H locs hv hm hS => ?_)
  obtain ⟨hv1, ⟨dn9, md9, hI9, hbd9⟩, hk9⟩ := hv
  obtain ⟨Mc2, hMx⟩ : ∃ x : mM, x = M1 := ⟨M1, rfl⟩
  subst hMx
  have hT := hT.kp hk9 hof
  obtain ⟨dn, hdn9⟩ : ∃ x, x = dn9 := ⟨_, rfl⟩
  obtain ⟨md, hmd9⟩ : ∃ x, x = md9 := ⟨_, rfl⟩
  subst hdn9
  subst hmd9
  have hbd := hbd9
  have hI := hI9
  obtain ⟨w2, hv1⟩ := hv1
  subst hv1
  refine W.eq (g2 := F0 m 872 ls [.int w2]) rfl ?_
  refine W.widen (k := cc9 + 1) (n := ss9 + 6) (Nat.le_refl _) (Nat.le_refl _) ?_
  refine lv_istore (lv' := [(6, .int w2), (5, .int w1), (4, .int (nI i5)), (3, .ref oa), (2, .ref mo), (1, .ref o), (0, .ref b)]) hx hb dL_law_872 hl (by decide) rfl (fun ls hl => ?_)
  refine lv_goto (tgt := 905) hx hb dL_law_874 (by decide) ?_
  refine W.widen (k := cc9 + 121) (n := ss9 + 4086) (by omega) (by omega) ?_
  exact kk _ _ _ _ ⟨κ, cn, ia, dr, en, la, wo, op, mk, ir, se, ec, lc, wc, ol, al, dn, md, hT, hko, hkoa, hI, hbd, hof⟩ hm hS (lv_sub hl [2, 3, 4, 5, 6] rfl)

set_option maxHeartbeats 4000000 in
set_option maxRecDepth 100000 in
theorem LC_count {p : Program} {e : Env} {s : State} {m : MethodId} {below : List Frame} {meth : Method} {c : Code} (l : Launch) (hlt : l.stackTraces = false) {b L : Nat} {xs : Nat → Int32} (C0 : lw_At p s m meth c b L xs) (D : va_G) (k : Nat → ClassId) (z : Nat) (hz : z ≤ s.heap.size) (hz2 : s.heap.size ≤ z) (hcxN : cxN D k (AZ z) s) (o mo oa : Nat) (M : mM) {H : Heap} {locs : List Loc} {ls : Array Slot} (cc9 ss9 i5 : Nat) (hcc : cc9 + 121 ≤ 601024) (hss : ss9 + 4086 ≤ 7293034) (hi5 : i5 + 5 ≤ L) (hL : L ≤ 2560) (hLI : LI k M o mo oa) (hm : mm D (AZ z) M H) (hS : va_S (AZ z) s.heap H locs) (hl : lv_has ls 7 [(4, .int (nI i5)), (3, .ref oa), (2, .ref mo), (1, .ref o), (0, .ref b)])
    (kk : ∀ (M9 : mM) (H9 : Heap) (locs9 : List Loc) (ls9 : Array Slot), LI k M9 o mo oa → mm D (AZ z) M9 H9 → va_S (AZ z) s.heap H9 locs9 → lv_has ls9 7 [(4, .int (nI i5)), (3, .ref oa), (2, .ref mo), (1, .ref o), (0, .ref b)] → W p l e room_1 s m #[Value.ref b] below meth c H9 locs9 (cc9 + 121) (ss9 + 4086) (lw_Z below #[Value.ref b] s) (F0 m 905 ls9 [])) : W p l e room_1 s m #[Value.ref b] below meth c H locs cc9 ss9 (lw_Z below #[Value.ref b] s) (F0 m 877 ls []) := by
  obtain ⟨hx, hb, hr, hml, hown, hts0, hX, hbl, hlocks, hgv⟩ := id C0
  have hts : ∀ w ∈ wsL_law, w.before #[Value.ref b] s = true := fun w h => hts0 w (wl_in w h)
  have hcx := hcxN.1
  have hK := hcx.1
  have hA : ∀ q, s.heap.size ≤ q → AZ z q := fun q h => Nat.le_trans hz h
  have hbA : ¬ AZ z b := fun h => absurd (Nat.le_trans hz2 h) (Nat.not_le.mpr hbl)
  obtain ⟨κ, cn, ia, dr, en, la, wo, op, mk, ir, se, ec, lc, wc, ol, al, dn, md, hT, hko, hkoa, hI, hbd, hof⟩ := hLI
  refine lv_aload_n hx hb dL_law_877 rfl (lv_at hl 3 rfl) ?_
  refine lv_aload_n hx hb dL_law_878 rfl (lv_at hl 4 rfl) ?_
  refine lv_iload hx hb dL_law_879 (lv_at hl 0 rfl) ?_
  refine lv_iconst (v := 1) hx hb dL_law_881 (by decide) ?_
  refine lv_iadd hx hb dL_law_882 ?_
  refine W.eq (g2 := F0 m 883 ls [.int (nI (i5 + 1)), .ref b, .ref o]) (by rw [show (((nI i5)) + (1) : Int32) = nI (i5 + 1) from nI_add i5 1]) ?_
  refine va_sld hx hb hX hbl hbA hS (vp_in_nI (by omega) (by omega)) dL_law_883 ?_
  refine W.eq (g2 := F0 m 884 ls [.int (xs (i5 + 1)), .ref o]) (by rw [nI_clamp (by omega)]) ?_
  refine lv_aload_n hx hb dL_law_884 rfl (lv_at hl 1 rfl) ?_
  refine m_kSW (hh := [(0, 9, 12, 31)]) (As := [.ref o, .int (xs (i5 + 1)), .ref oa]) (rest := []) (rm := { frames := 7, cells := 1, slots := 6, locals := 103 }) ⟨hx, hb, hml, hown, hts⟩ (h_L_count l hlt D k z _ _ o (xs (i5 + 1)) oa hko hkoa hT) (vx_cwSW 3 hts gL_law_L_count rfl rfl rfl (by decide +kernel) ⟨Nat.le_of_ble_eq_true rfl, Nat.le_of_ble_eq_true rfl⟩) hz hcxN hm hS rfl hl.1 rfl (Nat.le_of_ble_eq_true rfl) dL_law_885 ⟨(show cc9 + 1 ≤ 601024 by omega), (show ss9 + 6 ≤ 7293034 by omega)⟩ (fun v M1 H locs hv hm hS => ?_)
  obtain ⟨κ1, hT1, hx1, hv1⟩ := hv
  obtain ⟨Mc1, hMx⟩ : ∃ x : mM, x = M1 := ⟨M1, rfl⟩
  subst hMx
  have hof1 := hI.off hx1 hof
  have hI := hI.mv hx1 hof
  have hof := hof1
  have hko := hx1.k hT hko
  have hkoa := hx1.k hT hkoa
  have hT := hT1
  obtain ⟨κ, hκ⟩ : ∃ x, x = κ1 := ⟨_, rfl⟩
  subst hκ
  obtain ⟨w2, hv1⟩ := hv1
  subst hv1
  refine W.eq (g2 := F0 m 888 ls [.int w2]) rfl ?_
  refine W.widen (k := cc9 + 1) (n := ss9 + 6) (Nat.le_refl _) (Nat.le_refl _) ?_
  refine lv_istore (lv' := [(5, .int w2), (4, .int (nI i5)), (3, .ref oa), (2, .ref mo), (1, .ref o), (0, .ref b)]) hx hb dL_law_888 hl (by decide) rfl (fun ls hl => ?_)
  refine lv_aload_n hx hb dL_law_890 rfl (lv_at hl 3 rfl) ?_
  refine lv_aload_n hx hb dL_law_891 rfl (lv_at hl 5 rfl) ?_
  refine lv_iload hx hb dL_law_892 (lv_at hl 1 rfl) ?_
  refine lv_iconst (v := 1) hx hb dL_law_894 (by decide) ?_
  refine lv_iadd hx hb dL_law_895 ?_
  refine W.eq (g2 := F0 m 896 ls [.int (nI (i5 + 1)), .ref b, .ref mo]) (by rw [show (((nI i5)) + (1) : Int32) = nI (i5 + 1) from nI_add i5 1]) ?_
  refine va_sld hx hb hX hbl hbA hS (vp_in_nI (by omega) (by omega)) dL_law_896 ?_
  refine W.eq (g2 := F0 m 897 ls [.int (xs (i5 + 1)), .ref mo]) (by rw [nI_clamp (by omega)]) ?_
  obtain ⟨_, _, _, _, _, _, _, _, _, _, _, _, _, _, _, _, _, _, _, _, _, _, -, hMob, -⟩ := id hI
  refine m_kV (As := [.int (xs (i5 + 1))]) (rest := []) (rm := { frames := 1, cells := 0, slots := 0, locals := 23 }) ⟨hx, hb, hml, hown, hts⟩ (s_X6_count l D k z _ mo cn ia dr en la wo op mk ir se ec lc wc ol al dn md (xs (i5 + 1)) hbd hI) (cwV 1 hts gL_law_X6_count rfl rfl rfl (by decide +kernel) ⟨Nat.le_of_ble_eq_true rfl, Nat.le_of_ble_eq_true rfl⟩) (m_recv hK hm (q := (RX6, TX6, 24)) rfl hMob) hz hcx hm hS rfl hl.1 rfl (Nat.le_of_ble_eq_true rfl) dL_law_897 ⟨(show cc9 + 1 + 0 ≤ 601024 by omega), (show ss9 + 6 + 0 ≤ 7293034 by omega)⟩ (fun v M1 H locs hv hm hS => ?_)
  obtain ⟨hv1, hI9, hk9⟩ := hv
  obtain ⟨Mc2, hMx⟩ : ∃ x : mM, x = M1 := ⟨M1, rfl⟩
  subst hMx
  have hT := hT.kp hk9 hof
  have hI := hI9
  obtain ⟨w4, hv1⟩ := hv1
  subst hv1
  refine W.eq (g2 := F0 m 900 ls [.int w4]) rfl ?_
  refine W.widen (k := cc9 + 1) (n := ss9 + 6) (Nat.le_refl _) (Nat.le_refl _) ?_
  refine lv_istore (lv' := [(6, .int w4), (5, .int w2), (4, .int (nI i5)), (3, .ref oa), (2, .ref mo), (1, .ref o), (0, .ref b)]) hx hb dL_law_900 hl (by decide) rfl (fun ls hl => ?_)
  refine lv_goto (tgt := 905) hx hb dL_law_902 (by decide) ?_
  refine W.widen (k := cc9 + 121) (n := ss9 + 4086) (by omega) (by omega) ?_
  exact kk _ _ _ _ ⟨κ, cn, ia, dr, en, la, wo, op, mk, ir, se, ec, lc, wc, ol, al, dn, md, hT, hko, hkoa, hI, hbd, hof⟩ hm hS (lv_sub hl [2, 3, 4, 5, 6] rfl)
