set_option maxHeartbeats 4000000 in
set_option maxRecDepth 100000 in
theorem LC_remove {p : Program} {e : Env} {s : State} {m : MethodId} {below : List Frame} {meth : Method} {c : Code} (l : Launch) (hlt : l.stackTraces = false) {b L : Nat} {xs : Nat → Int32} (C0 : lw_At p s m meth c b L xs) (D : va_G) (k : Nat → ClassId) (z : Nat) (hz : z ≤ s.heap.size) (hz2 : s.heap.size ≤ z) (hcxN : cxN D k (AZ z) s) (o mo oa : Nat) (M : mM) {H : Heap} {locs : List Loc} {ls : Array Slot} (cc9 ss9 i5 : Nat) (hcc : cc9 + 121 ≤ 601024) (hss : ss9 + 4086 ≤ 7293034) (hi5 : i5 + 5 ≤ L) (hL : L ≤ 2560) (hLI : LI k M o mo oa) (hm : mm D (AZ z) M H) (hS : va_S (AZ z) s.heap H locs) (hl : lv_has ls 7 [(4, .int (nI i5)), (3, .ref oa), (2, .ref mo), (1, .ref o), (0, .ref b)])
    (kk : ∀ (M9 : mM) (H9 : Heap) (locs9 : List Loc) (ls9 : Array Slot), LI k M9 o mo oa → mm D (AZ z) M9 H9 → va_S (AZ z) s.heap H9 locs9 → lv_has ls9 7 [(4, .int (nI i5)), (3, .ref oa), (2, .ref mo), (1, .ref o), (0, .ref b)] → W p l e room_1 s m #[Value.ref b] below meth c H9 locs9 (cc9 + 121) (ss9 + 4086) (lw_Z below #[Value.ref b] s) (F0 m 905 ls9 [])) : W p l e room_1 s m #[Value.ref b] below meth c H locs cc9 ss9 (lw_Z below #[Value.ref b] s) (F0 m 297 ls []) := by
  obtain ⟨hx, hb, hr, hml, hown, hts0, hX, hbl, hlocks, hgv⟩ := id C0
  have hts : ∀ w ∈ wsL_law, w.before #[Value.ref b] s = true := fun w h => hts0 w (wl_in w h)
  have hcx := hcxN.1
  have hK := hcx.1
  have hA : ∀ q, s.heap.size ≤ q → AZ z q := fun q h => Nat.le_trans hz h
  have hbA : ¬ AZ z b := fun h => absurd (Nat.le_trans hz2 h) (Nat.not_le.mpr hbl)
  obtain ⟨κ, cn, ia, dr, en, la, wo, op, mk, ir, se, ec, lc, wc, ol, al, dn, md, hT, hko, hkoa, hI, hbd, hof⟩ := hLI
  refine lv_aload_n hx hb dL_law_297 rfl (lv_at hl 3 rfl) ?_
  refine lv_aload_n hx hb dL_law_298 rfl (lv_at hl 4 rfl) ?_
  refine lv_iload hx hb dL_law_299 (lv_at hl 0 rfl) ?_
  refine lv_iconst (v := 1) hx hb dL_law_301 (by decide) ?_
  refine lv_iadd hx hb dL_law_302 ?_
  refine W.eq (g2 := F0 m 303 ls [.int (nI (i5 + 1)), .ref b, .ref o]) (by rw [show (((nI i5)) + (1) : Int32) = nI (i5 + 1) from nI_add i5 1]) ?_
  refine va_sld hx hb hX hbl hbA hS (vp_in_nI (by omega) (by omega)) dL_law_303 ?_
  refine W.eq (g2 := F0 m 304 ls [.int (xs (i5 + 1)), .ref o]) (by rw [nI_clamp (by omega)]) ?_
  refine lv_aload_n hx hb dL_law_304 rfl (lv_at hl 4 rfl) ?_
  refine lv_iload hx hb dL_law_305 (lv_at hl 0 rfl) ?_
  refine lv_iconst (v := 2) hx hb dL_law_307 (by decide) ?_
  refine lv_iadd hx hb dL_law_308 ?_
  refine W.eq (g2 := F0 m 309 ls [.int (nI (i5 + 2)), .ref b, .int (xs (i5 + 1)), .ref o]) (by rw [show (((nI i5)) + (2) : Int32) = nI (i5 + 2) from nI_add i5 2]) ?_
  refine va_sld hx hb hX hbl hbA hS (vp_in_nI (by omega) (by omega)) dL_law_309 ?_
  refine W.eq (g2 := F0 m 310 ls [.int (xs (i5 + 2)), .int (xs (i5 + 1)), .ref o]) (by rw [nI_clamp (by omega)]) ?_
  refine lv_aload_n hx hb dL_law_310 rfl (lv_at hl 1 rfl) ?_
  refine m_kSW (hh := [(0, 17, 20, 13), (0, 17, 24, 31), (0, 17, 28, 33), (0, 17, 32, 15)]) (As := [.ref o, .int (xs (i5 + 1)), .int (xs (i5 + 2)), .ref oa]) (rest := []) (rm := { frames := 8, cells := 4, slots := 80, locals := 129 }) ⟨hx, hb, hml, hown, hts⟩ (h_L_remove l hlt D k z _ _ o (xs (i5 + 1)) (xs (i5 + 2)) oa hko hkoa hT) (vx_cwSW 4 hts gL_law_L_remove rfl rfl rfl (by decide +kernel) ⟨Nat.le_of_ble_eq_true rfl, Nat.le_of_ble_eq_true rfl⟩) hz hcxN hm hS rfl hl.1 rfl (Nat.le_of_ble_eq_true rfl) dL_law_311 ⟨(show cc9 + 4 ≤ 601024 by omega), (show ss9 + 80 ≤ 7293034 by omega)⟩ (fun v M1 H locs hv hm hS => ?_)
  obtain ⟨κ1, hT1, hx1, hv1⟩ := hv
  obtain ⟨Mc1, hMx⟩ : ∃ x : mM, x = M1 := ⟨M1, rfl⟩
  subst hMx
  have hof1 := hI.off hx1 hof
  have hI := hI.mv hx1 hof
  have hof := hof1
  have hko := hx1.k hT hko
  have hkoa := hx1.k hT hkoa
  have hT := hT1
  obtain ⟨κ, hκ⟩ : ∃ x, x = κ1 := ⟨_, rfl⟩
  subst hκ
  obtain ⟨w3, hv1⟩ := hv1
  subst hv1
  refine W.eq (g2 := F0 m 314 ls [.int w3]) rfl ?_
  refine W.widen (k := cc9 + 4) (n := ss9 + 80) (Nat.le_refl _) (Nat.le_refl _) ?_
  refine lv_istore (lv' := [(5, .int w3), (4, .int (nI i5)), (3, .ref oa), (2, .ref mo), (1, .ref o), (0, .ref b)]) hx hb dL_law_314 hl (by decide) rfl (fun ls hl => ?_)
  refine lv_aload_n hx hb dL_law_316 rfl (lv_at hl 3 rfl) ?_
  refine lv_aload_n hx hb dL_law_317 rfl (lv_at hl 5 rfl) ?_
  refine lv_iload hx hb dL_law_318 (lv_at hl 1 rfl) ?_
  refine lv_iconst (v := 1) hx hb dL_law_320 (by decide) ?_
  refine lv_iadd hx hb dL_law_321 ?_
  refine W.eq (g2 := F0 m 322 ls [.int (nI (i5 + 1)), .ref b, .ref mo]) (by rw [show (((nI i5)) + (1) : Int32) = nI (i5 + 1) from nI_add i5 1]) ?_
  refine va_sld hx hb hX hbl hbA hS (vp_in_nI (by omega) (by omega)) dL_law_322 ?_
  refine W.eq (g2 := F0 m 323 ls [.int (xs (i5 + 1)), .ref mo]) (by rw [nI_clamp (by omega)]) ?_
  refine lv_aload_n hx hb dL_law_323 rfl (lv_at hl 5 rfl) ?_
  refine lv_iload hx hb dL_law_324 (lv_at hl 1 rfl) ?_
  refine lv_iconst (v := 2) hx hb dL_law_326 (by decide) ?_
  refine lv_iadd hx hb dL_law_327 ?_
  refine W.eq (g2 := F0 m 328 ls [.int (nI (i5 + 2)), .ref b, .int (xs (i5 + 1)), .ref mo]) (by rw [show (((nI i5)) + (2) : Int32) = nI (i5 + 2) from nI_add i5 2]) ?_
  refine va_sld hx hb hX hbl hbA hS (vp_in_nI (by omega) (by omega)) dL_law_328 ?_
  refine W.eq (g2 := F0 m 329 ls [.int (xs (i5 + 2)), .int (xs (i5 + 1)), .ref mo]) (by rw [nI_clamp (by omega)]) ?_
  obtain ⟨_, _, _, _, _, _, _, _, _, _, _, _, _, _, _, _, _, _, _, _, _, _, -, hMob, -⟩ := id hI
  refine m_kV (As := [.int (xs (i5 + 1)), .int (xs (i5 + 2))]) (rest := []) (rm := { frames := 4, cells := 0, slots := 0, locals := 97 }) ⟨hx, hb, hml, hown, hts⟩ (s_X6_remove l D k z _ mo cn ia dr en la wo op mk ir se ec lc wc ol al dn md (xs (i5 + 1)) (xs (i5 + 2)) hbd hI) (cwV 2 hts gL_law_X6_remove rfl rfl rfl (by decide +kernel) ⟨Nat.le_of_ble_eq_true rfl, Nat.le_of_ble_eq_true rfl⟩) (m_recv hK hm (q := (RX6, TX6, 24)) rfl hMob) hz hcx hm hS rfl hl.1 rfl (Nat.le_of_ble_eq_true rfl) dL_law_329 ⟨(show cc9 + 4 + 0 ≤ 601024 by omega), (show ss9 + 80 + 0 ≤ 7293034 by omega)⟩ (fun v M1 H locs hv hm hS => ?_)
  obtain ⟨hv1, hI9, hk9⟩ := hv
  obtain ⟨Mc2, hMx⟩ : ∃ x : mM, x = M1 := ⟨M1, rfl⟩
  subst hMx
  have hT := hT.kp hk9 hof
  have hI := hI9
  obtain ⟨w6, hv1⟩ := hv1
  subst hv1
  refine W.eq (g2 := F0 m 332 ls [.int w6]) rfl ?_
  refine W.widen (k := cc9 + 4) (n := ss9 + 80) (Nat.le_refl _) (Nat.le_refl _) ?_
  refine lv_istore (lv' := [(6, .int w6), (5, .int w3), (4, .int (nI i5)), (3, .ref oa), (2, .ref mo), (1, .ref o), (0, .ref b)]) hx hb dL_law_332 hl (by decide) rfl (fun ls hl => ?_)
  refine lv_goto (tgt := 905) hx hb dL_law_334 (by decide) ?_
  refine W.widen (k := cc9 + 121) (n := ss9 + 4086) (by omega) (by omega) ?_
  exact kk _ _ _ _ ⟨κ, cn, ia, dr, en, la, wo, op, mk, ir, se, ec, lc, wc, ol, al, dn, md, hT, hko, hkoa, hI, hbd, hof⟩ hm hS (lv_sub hl [2, 3, 4, 5, 6] rfl)

set_option maxHeartbeats 4000000 in
set_option maxRecDepth 100000 in
theorem LC_move {p : Program} {e : Env} {s : State} {m : MethodId} {below : List Frame} {meth : Method} {c : Code} (l : Launch) (hlt : l.stackTraces = false) {b L : Nat} {xs : Nat → Int32} (C0 : lw_At p s m meth c b L xs) (D : va_G) (k : Nat → ClassId) (z : Nat) (hz : z ≤ s.heap.size) (hz2 : s.heap.size ≤ z) (hcxN : cxN D k (AZ z) s) (o mo oa : Nat) (M : mM) {H : Heap} {locs : List Loc} {ls : Array Slot} (cc9 ss9 i5 : Nat) (hcc : cc9 + 121 ≤ 601024) (hss : ss9 + 4086 ≤ 7293034) (hi5 : i5 + 5 ≤ L) (hL : L ≤ 2560) (hLI : LI k M o mo oa) (hm : mm D (AZ z) M H) (hS : va_S (AZ z) s.heap H locs) (hl : lv_has ls 7 [(4, .int (nI i5)), (3, .ref oa), (2, .ref mo), (1, .ref o), (0, .ref b)])
    (kk : ∀ (M9 : mM) (H9 : Heap) (locs9 : List Loc) (ls9 : Array Slot), LI k M9 o mo oa → mm D (AZ z) M9 H9 → va_S (AZ z) s.heap H9 locs9 → lv_has ls9 7 [(4, .int (nI i5)), (3, .ref oa), (2, .ref mo), (1, .ref o), (0, .ref b)] → W p l e room_1 s m #[Value.ref b] below meth c H9 locs9 (cc9 + 121) (ss9 + 4086) (lw_Z below #[Value.ref b] s) (F0 m 905 ls9 [])) : W p l e room_1 s m #[Value.ref b] below meth c H locs cc9 ss9 (lw_Z below #[Value.ref b] s) (F0 m 337 ls []) := by
  obtain ⟨hx, hb, hr, hml, hown, hts0, hX, hbl, hlocks, hgv⟩ := id C0
  have hts : ∀ w ∈ wsL_law, w.before #[Value.ref b] s = true := fun w h => hts0 w (wl_in w h)
  have hcx := hcxN.1
  have hK := hcx.1
  have hA : ∀ q, s.heap.size ≤ q → AZ z q := fun q h => Nat.le_trans hz h
  have hbA : ¬ AZ z b := fun h => absurd (Nat.le_trans hz2 h) (Nat.not_le.mpr hbl)
  obtain ⟨κ, cn, ia, dr, en, la, wo, op, mk, ir, se, ec, lc, wc, ol, al, dn, md, hT, hko, hkoa, hI, hbd, hof⟩ := hLI
  refine lv_aload_n hx hb dL_law_337 rfl (lv_at hl 3 rfl) ?_
  refine lv_aload_n hx hb dL_law_338 rfl (lv_at hl 4 rfl) ?_
  refine lv_iload hx hb dL_law_339 (lv_at hl 0 rfl) ?_
  refine lv_iconst (v := 1) hx hb dL_law_341 (by decide) ?_
  refine lv_iadd hx hb dL_law_342 ?_
  refine W.eq (g2 := F0 m 343 ls [.int (nI (i5 + 1)), .ref b, .ref o]) (by rw [show (((nI i5)) + (1) : Int32) = nI (i5 + 1) from nI_add i5 1]) ?_
  refine va_sld hx hb hX hbl hbA hS (vp_in_nI (by omega) (by omega)) dL_law_343 ?_
  refine W.eq (g2 := F0 m 344 ls [.int (xs (i5 + 1)), .ref o]) (by rw [nI_clamp (by omega)]) ?_
  refine lv_aload_n hx hb dL_law_344 rfl (lv_at hl 4 rfl) ?_
  refine lv_iload hx hb dL_law_345 (lv_at hl 0 rfl) ?_
  refine lv_iconst (v := 2) hx hb dL_law_347 (by decide) ?_
  refine lv_iadd hx hb dL_law_348 ?_
  refine W.eq (g2 := F0 m 349 ls [.int (nI (i5 + 2)), .ref b, .int (xs (i5 + 1)), .ref o]) (by rw [show (((nI i5)) + (2) : Int32) = nI (i5 + 2) from nI_add i5 2]) ?_
  refine va_sld hx hb hX hbl hbA hS (vp_in_nI (by omega) (by omega)) dL_law_349 ?_
  refine W.eq (g2 := F0 m 350 ls [.int (xs (i5 + 2)), .int (xs (i5 + 1)), .ref o]) (by rw [nI_clamp (by omega)]) ?_
  refine lv_aload_n hx hb dL_law_350 rfl (lv_at hl 4 rfl) ?_
  refine lv_iload hx hb dL_law_351 (lv_at hl 0 rfl) ?_
  refine lv_iconst (v := 3) hx hb dL_law_353 (by decide) ?_
  refine lv_iadd hx hb dL_law_354 ?_
  refine W.eq (g2 := F0 m 355 ls [.int (nI (i5 + 3)), .ref b, .int (xs (i5 + 2)), .int (xs (i5 + 1)), .ref o]) (by rw [show (((nI i5)) + (3) : Int32) = nI (i5 + 3) from nI_add i5 3]) ?_
  refine va_sld hx hb hX hbl hbA hS (vp_in_nI (by omega) (by omega)) dL_law_355 ?_
  refine W.eq (g2 := F0 m 356 ls [.int (xs (i5 + 3)), .int (xs (i5 + 2)), .int (xs (i5 + 1)), .ref o]) (by rw [nI_clamp (by omega)]) ?_
  refine lv_aload_n hx hb dL_law_356 rfl (lv_at hl 1 rfl) ?_
  refine m_kSW (hh := [(0, 19, 22, 13), (0, 19, 26, 31), (0, 19, 30, 33), (0, 19, 34, 15)]) (As := [.ref o, .int (xs (i5 + 1)), .int (xs (i5 + 2)), .int (xs (i5 + 3)), .ref oa]) (rest := []) (rm := { frames := 8, cells := 8, slots := 160, locals := 142 }) ⟨hx, hb, hml, hown, hts⟩ (h_L_move l hlt D k z _ _ o (xs (i5 + 1)) (xs (i5 + 2)) (xs (i5 + 3)) oa hko hkoa hT) (vx_cwSW 5 hts gL_law_L_move rfl rfl rfl (by decide +kernel) ⟨Nat.le_of_ble_eq_true rfl, Nat.le_of_ble_eq_true rfl⟩) hz hcxN hm hS rfl hl.1 rfl (Nat.le_of_ble_eq_true rfl) dL_law_357 ⟨(show cc9 + 8 ≤ 601024 by omega), (show ss9 + 160 ≤ 7293034 by omega)⟩ (fun v M1 H locs hv hm hS => ?_)
  obtain ⟨κ1, hT1, hx1, hv1⟩ := hv
  obtain ⟨Mc1, hMx⟩ : ∃ x : mM, x = M1 := ⟨M1, rfl⟩
  subst hMx
  have hof1 := hI.off hx1 hof
  have hI := hI.mv hx1 hof
  have hof := hof1
  have hko := hx1.k hT hko
  have hkoa := hx1.k hT hkoa
  have hT := hT1
  obtain ⟨κ, hκ⟩ : ∃ x, x = κ1 := ⟨_, rfl⟩
  subst hκ
  obtain ⟨w4, hv1⟩ := hv1
  subst hv1
  refine W.eq (g2 := F0 m 360 ls [.int w4]) rfl ?_
  refine W.widen (k := cc9 + 8) (n := ss9 + 160) (Nat.le_refl _) (Nat.le_refl _) ?_
  refine lv_istore (lv' := [(5, .int w4), (4, .int (nI i5)), (3, .ref oa), (2, .ref mo), (1, .ref o), (0, .ref b)]) hx hb dL_law_360 hl (by decide) rfl (fun ls hl => ?_)
  refine lv_aload_n hx hb dL_law_362 rfl (lv_at hl 3 rfl) ?_
  refine lv_aload_n hx hb dL_law_363 rfl (lv_at hl 5 rfl) ?_
  refine lv_iload hx hb dL_law_364 (lv_at hl 1 rfl) ?_
  refine lv_iconst (v := 1) hx hb dL_law_366 (by decide) ?_
  refine lv_iadd hx hb dL_law_367 ?_
  refine W.eq (g2 := F0 m 368 ls [.int (nI (i5 + 1)), .ref b, .ref mo]) (by rw [show (((nI i5)) + (1) : Int32) = nI (i5 + 1) from nI_add i5 1]) ?_
  refine va_sld hx hb hX hbl hbA hS (vp_in_nI (by omega) (by omega)) dL_law_368 ?_
  refine W.eq (g2 := F0 m 369 ls [.int (xs (i5 + 1)), .ref mo]) (by rw [nI_clamp (by omega)]) ?_
  refine lv_aload_n hx hb dL_law_369 rfl (lv_at hl 5 rfl) ?_
  refine lv_iload hx hb dL_law_370 (lv_at hl 1 rfl) ?_
  refine lv_iconst (v := 2) hx hb dL_law_372 (by decide) ?_
  refine lv_iadd hx hb dL_law_373 ?_
  refine W.eq (g2 := F0 m 374 ls [.int (nI (i5 + 2)), .ref b, .int (xs (i5 + 1)), .ref mo]) (by rw [show (((nI i5)) + (2) : Int32) = nI (i5 + 2) from nI_add i5 2]) ?_
  refine va_sld hx hb hX hbl hbA hS (vp_in_nI (by omega) (by omega)) dL_law_374 ?_
  refine W.eq (g2 := F0 m 375 ls [.int (xs (i5 + 2)), .int (xs (i5 + 1)), .ref mo]) (by rw [nI_clamp (by omega)]) ?_
  refine lv_aload_n hx hb dL_law_375 rfl (lv_at hl 5 rfl) ?_
  refine lv_iload hx hb dL_law_376 (lv_at hl 1 rfl) ?_
  refine lv_iconst (v := 3) hx hb dL_law_378 (by decide) ?_
  refine lv_iadd hx hb dL_law_379 ?_
  refine W.eq (g2 := F0 m 380 ls [.int (nI (i5 + 3)), .ref b, .int (xs (i5 + 2)), .int (xs (i5 + 1)), .ref mo]) (by rw [show (((nI i5)) + (3) : Int32) = nI (i5 + 3) from nI_add i5 3]) ?_
  refine va_sld hx hb hX hbl hbA hS (vp_in_nI (by omega) (by omega)) dL_law_380 ?_
  refine W.eq (g2 := F0 m 381 ls [.int (xs (i5 + 3)), .int (xs (i5 + 2)), .int (xs (i5 + 1)), .ref mo]) (by rw [nI_clamp (by omega)]) ?_
  obtain ⟨_, _, _, _, _, _, _, _, _, _, _, _, _, _, _, _, _, _, _, _, _, _, -, hMob, -⟩ := id hI
  refine m_kV (As := [.int (xs (i5 + 1)), .int (xs (i5 + 2)), .int (xs (i5 + 3))]) (rest := []) (rm := { frames := 5, cells := 0, slots := 0, locals := 119 }) ⟨hx, hb, hml, hown, hts⟩ (s_X6_move l D k z _ mo cn ia dr en la wo op mk ir se ec lc wc ol al dn md (xs (i5 + 1)) (xs (i5 + 2)) (xs (i5 + 3)) hbd hI) (cwV 3 hts gL_law_X6_move rfl rfl rfl (by decide +kernel) ⟨Nat.le_of_ble_eq_true rfl, Nat.le_of_ble_eq_true rfl⟩) (m_recv hK hm (q := (RX6, TX6, 24)) rfl hMob) hz hcx hm hS rfl hl.1 rfl (Nat.le_of_ble_eq_true rfl) dL_law_381 ⟨(show cc9 + 8 + 0 ≤ 601024 by omega), (show ss9 + 160 + 0 ≤ 7293034 by omega)⟩ (fun v M1 H locs hv hm hS => ?_)
  obtain ⟨hv1, hI9, hk9⟩ := hv
  obtain ⟨Mc2, hMx⟩ : ∃ x : mM, x = M1 := ⟨M1, rfl⟩
  subst hMx
  have hT := hT.kp hk9 hof
  have hI := hI9
  obtain ⟨w8, hv1⟩ := hv1
  subst hv1
  refine W.eq (g2 := F0 m 384 ls [.int w8]) rfl ?_
  refine W.widen (k := cc9 + 8) (n := ss9 + 160) (Nat.le_refl _) (Nat.le_refl _) ?_
  refine lv_istore (lv' := [(6, .int w8), (5, .int w4), (4, .int (nI i5)), (3, .ref oa), (2, .ref mo), (1, .ref o), (0, .ref b)]) hx hb dL_law_384 hl (by decide) rfl (fun ls hl => ?_)
  refine lv_goto (tgt := 905) hx hb dL_law_386 (by decide) ?_
  refine W.widen (k := cc9 + 121) (n := ss9 + 4086) (by omega) (by omega) ?_
  exact kk _ _ _ _ ⟨κ, cn, ia, dr, en, la, wo, op, mk, ir, se, ec, lc, wc, ol, al, dn, md, hT, hko, hkoa, hI, hbd, hof⟩ hm hS (lv_sub hl [2, 3, 4, 5, 6] rfl)

set_option maxHeartbeats 4000000 in
set_option maxRecDepth 100000 in
theorem LC_write {p : Program} {e : Env} {s : State} {m : MethodId} {below : List Frame} {meth : Method} {c : Code} (l : Launch) (hlt : l.stackTraces = false) {b L : Nat} {xs : Nat → Int32} (C0 : lw_At p s m meth c b L xs) (D : va_G) (k : Nat → ClassId) (z : Nat) (hz : z ≤ s.heap.size) (hz2 : s.heap.size ≤ z) (hcxN : cxN D k (AZ z) s) (o mo oa : Nat) (M : mM) {H : Heap} {locs : List Loc} {ls : Array Slot} (cc9 ss9 i5 : Nat) (hcc : cc9 + 121 ≤ 601024) (hss : ss9 + 4086 ≤ 7293034) (hi5 : i5 + 5 ≤ L) (hL : L ≤ 2560) (hLI : LI k M o mo oa) (hm : mm D (AZ z) M H) (hS : va_S (AZ z) s.heap H locs) (hl : lv_has ls 7 [(4, .int (nI i5)), (3, .ref oa), (2, .ref mo), (1, .ref o), (0, .ref b)])
    (kk : ∀ (M9 : mM) (H9 : Heap) (locs9 : List Loc) (ls9 : Array Slot), LI k M9 o mo oa → mm D (AZ z) M9 H9 → va_S (AZ z) s.heap H9 locs9 → lv_has ls9 7 [(4, .int (nI i5)), (3, .ref oa), (2, .ref mo), (1, .ref o), (0, .ref b)] → W p l e room_1 s m #[Value.ref b] below meth c H9 locs9 (cc9 + 121) (ss9 + 4086) (lw_Z below #[Value.ref b] s) (F0 m 905 ls9 [])) : W p l e room_1 s m #[Value.ref b] below meth c H locs cc9 ss9 (lw_Z below #[Value.ref b] s) (F0 m 389 ls []) := by
  obtain ⟨hx, hb, hr, hml, hown, hts0, hX, hbl, hlocks, hgv⟩ := id C0
  have hts : ∀ w ∈ wsL_law, w.before #[Value.ref b] s = true := fun w h => hts0 w (wl_in w h)
  have hcx := hcxN.1
  have hK := hcx.1
  have hA : ∀ q, s.heap.size ≤ q → AZ z q := fun q h => Nat.le_trans hz h
  have hbA : ¬ AZ z b := fun h => absurd (Nat.le_trans hz2 h) (Nat.not_le.mpr hbl)
  obtain ⟨κ, cn, ia, dr, en, la, wo, op, mk, ir, se, ec, lc, wc, ol, al, dn, md, hT, hko, hkoa, hI, hbd, hof⟩ := hLI
  refine lv_aload_n hx hb dL_law_389 rfl (lv_at hl 3 rfl) ?_
  refine lv_aload_n hx hb dL_law_390 rfl (lv_at hl 4 rfl) ?_
  refine lv_iload hx hb dL_law_391 (lv_at hl 0 rfl) ?_
  refine lv_iconst (v := 1) hx hb dL_law_393 (by decide) ?_
  refine lv_iadd hx hb dL_law_394 ?_
  refine W.eq (g2 := F0 m 395 ls [.int (nI (i5 + 1)), .ref b, .ref o]) (by rw [show (((nI i5)) + (1) : Int32) = nI (i5 + 1) from nI_add i5 1]) ?_
  refine va_sld hx hb hX hbl hbA hS (vp_in_nI (by omega) (by omega)) dL_law_395 ?_
  refine W.eq (g2 := F0 m 396 ls [.int (xs (i5 + 1)), .ref o]) (by rw [nI_clamp (by omega)]) ?_
  refine lv_aload_n hx hb dL_law_396 rfl (lv_at hl 4 rfl) ?_
  refine lv_iload hx hb dL_law_397 (lv_at hl 0 rfl) ?_
  refine lv_iconst (v := 2) hx hb dL_law_399 (by decide) ?_
  refine lv_iadd hx hb dL_law_400 ?_
  refine W.eq (g2 := F0 m 401 ls [.int (nI (i5 + 2)), .ref b, .int (xs (i5 + 1)), .ref o]) (by rw [show (((nI i5)) + (2) : Int32) = nI (i5 + 2) from nI_add i5 2]) ?_
  refine va_sld hx hb hX hbl hbA hS (vp_in_nI (by omega) (by omega)) dL_law_401 ?_
  refine W.eq (g2 := F0 m 402 ls [.int (xs (i5 + 2)), .int (xs (i5 + 1)), .ref o]) (by rw [nI_clamp (by omega)]) ?_
  refine lv_aload_n hx hb dL_law_402 rfl (lv_at hl 4 rfl) ?_
  refine lv_iload hx hb dL_law_403 (lv_at hl 0 rfl) ?_
  refine lv_iconst (v := 3) hx hb dL_law_405 (by decide) ?_
  refine lv_iadd hx hb dL_law_406 ?_
  refine W.eq (g2 := F0 m 407 ls [.int (nI (i5 + 3)), .ref b, .int (xs (i5 + 2)), .int (xs (i5 + 1)), .ref o]) (by rw [show (((nI i5)) + (3) : Int32) = nI (i5 + 3) from nI_add i5 3]) ?_
  refine va_sld hx hb hX hbl hbA hS (vp_in_nI (by omega) (by omega)) dL_law_407 ?_
  refine W.eq (g2 := F0 m 408 ls [.int (xs (i5 + 3)), .int (xs (i5 + 2)), .int (xs (i5 + 1)), .ref o]) (by rw [nI_clamp (by omega)]) ?_
  refine lv_aload_n hx hb dL_law_408 rfl (lv_at hl 4 rfl) ?_
  refine lv_iload hx hb dL_law_409 (lv_at hl 0 rfl) ?_
  refine lv_iconst (v := 4) hx hb dL_law_411 (by decide) ?_
  refine lv_iadd hx hb dL_law_412 ?_
  refine W.eq (g2 := F0 m 413 ls [.int (nI (i5 + 4)), .ref b, .int (xs (i5 + 3)), .int (xs (i5 + 2)), .int (xs (i5 + 1)), .ref o]) (by rw [show (((nI i5)) + (4) : Int32) = nI (i5 + 4) from nI_add i5 4]) ?_
  refine va_sld hx hb hX hbl hbA hS (vp_in_nI (by omega) (by omega)) dL_law_413 ?_
  refine W.eq (g2 := F0 m 414 ls [.int (xs (i5 + 4)), .int (xs (i5 + 3)), .int (xs (i5 + 2)), .int (xs (i5 + 1)), .ref o]) (by rw [nI_clamp (by omega)]) ?_
  refine lv_aload_n hx hb dL_law_414 rfl (lv_at hl 1 rfl) ?_
  refine m_kSW (hh := [(0, 14, 17, 13), (0, 14, 21, 31), (0, 14, 25, 33), (0, 14, 29, 15), (0, 14, 33, 47)]) (As := [.ref o, .int (xs (i5 + 1)), .int (xs (i5 + 2)), .int (xs (i5 + 3)), .int (xs (i5 + 4)), .ref oa]) (rest := []) (rm := { frames := 9, cells := 6, slots := 92, locals := 150 }) ⟨hx, hb, hml, hown, hts⟩ (h_L_write l hlt D k z _ _ o (xs (i5 + 1)) (xs (i5 + 2)) (xs (i5 + 3)) (xs (i5 + 4)) oa hko hkoa hT) (vx_cwSW 6 hts gL_law_L_write rfl rfl rfl (by decide +kernel) ⟨Nat.le_of_ble_eq_true rfl, Nat.le_of_ble_eq_true rfl⟩) hz hcxN hm hS rfl hl.1 rfl (Nat.le_of_ble_eq_true rfl) dL_law_415 ⟨(show cc9 + 6 ≤ 601024 by omega), (show ss9 + 92 ≤ 7293034 by omega)⟩ (fun v M1 H locs hv hm hS => ?_)
  obtain ⟨κ1, hT1, hx1, hv1⟩ := hv
  obtain ⟨Mc1, hMx⟩ : ∃ x : mM, x = M1 := ⟨M1, rfl⟩
  subst hMx
  have hof1 := hI.off hx1 hof
  have hI := hI.mv hx1 hof
  have hof := hof1
  have hko := hx1.k hT hko
  have hkoa := hx1.k hT hkoa
  have hT := hT1
  obtain ⟨κ, hκ⟩ : ∃ x, x = κ1 := ⟨_, rfl⟩
  subst hκ
  obtain ⟨w5, hv1⟩ := hv1
  subst hv1
  refine W.eq (g2 := F0 m 418 ls [.int w5]) rfl ?_
  refine W.widen (k := cc9 + 6) (n := ss9 + 92) (Nat.le_refl _) (Nat.le_refl _) ?_
  refine lv_istore (lv' := [(5, .int w5), (4, .int (nI i5)), (3, .ref oa), (2, .ref mo), (1, .ref o), (0, .ref b)]) hx hb dL_law_418 hl (by decide) rfl (fun ls hl => ?_)
  refine lv_aload_n hx hb dL_law_420 rfl (lv_at hl 3 rfl) ?_
  refine lv_aload_n hx hb dL_law_421 rfl (lv_at hl 5 rfl) ?_
  refine lv_iload hx hb dL_law_422 (lv_at hl 1 rfl) ?_
  refine lv_iconst (v := 1) hx hb dL_law_424 (by decide) ?_
  refine lv_iadd hx hb dL_law_425 ?_
  refine W.eq (g2 := F0 m 426 ls [.int (nI (i5 + 1)), .ref b, .ref mo]) (by rw [show (((nI i5)) + (1) : Int32) = nI (i5 + 1) from nI_add i5 1]) ?_
  refine va_sld hx hb hX hbl hbA hS (vp_in_nI (by omega) (by omega)) dL_law_426 ?_
  refine W.eq (g2 := F0 m 427 ls [.int (xs (i5 + 1)), .ref mo]) (by rw [nI_clamp (by omega)]) ?_
  refine lv_aload_n hx hb dL_law_427 rfl (lv_at hl 5 rfl) ?_
  refine lv_iload hx hb dL_law_428 (lv_at hl 1 rfl) ?_
  refine lv_iconst (v := 2) hx hb dL_law_430 (by decide) ?_
  refine lv_iadd hx hb dL_law_431 ?_
  refine W.eq (g2 := F0 m 432 ls [.int (nI (i5 + 2)), .ref b, .int (xs (i5 + 1)), .ref mo]) (by rw [show (((nI i5)) + (2) : Int32) = nI (i5 + 2) from nI_add i5 2]) ?_
  refine va_sld hx hb hX hbl hbA hS (vp_in_nI (by omega) (by omega)) dL_law_432 ?_
  refine W.eq (g2 := F0 m 433 ls [.int (xs (i5 + 2)), .int (xs (i5 + 1)), .ref mo]) (by rw [nI_clamp (by omega)]) ?_
  refine lv_aload_n hx hb dL_law_433 rfl (lv_at hl 5 rfl) ?_
  refine lv_iload hx hb dL_law_434 (lv_at hl 1 rfl) ?_
  refine lv_iconst (v := 3) hx hb dL_law_436 (by decide) ?_
  refine lv_iadd hx hb dL_law_437 ?_
  refine W.eq (g2 := F0 m 438 ls [.int (nI (i5 + 3)), .ref b, .int (xs (i5 + 2)), .int (xs (i5 + 1)), .ref mo]) (by rw [show (((nI i5)) + (3) : Int32) = nI (i5 + 3) from nI_add i5 3]) ?_
  refine va_sld hx hb hX hbl hbA hS (vp_in_nI (by omega) (by omega)) dL_law_438 ?_
  refine W.eq (g2 := F0 m 439 ls [.int (xs (i5 + 3)), .int (xs (i5 + 2)), .int (xs (i5 + 1)), .ref mo]) (by rw [nI_clamp (by omega)]) ?_
  refine lv_aload_n hx hb dL_law_439 rfl (lv_at hl 5 rfl) ?_
  refine lv_iload hx hb dL_law_440 (lv_at hl 1 rfl) ?_
  refine lv_iconst (v := 4) hx hb dL_law_442 (by decide) ?_
  refine lv_iadd hx hb dL_law_443 ?_
  refine W.eq (g2 := F0 m 444 ls [.int (nI (i5 + 4)), .ref b, .int (xs (i5 + 3)), .int (xs (i5 + 2)), .int (xs (i5 + 1)), .ref mo]) (by rw [show (((nI i5)) + (4) : Int32) = nI (i5 + 4) from nI_add i5 4]) ?_
  refine va_sld hx hb hX hbl hbA hS (vp_in_nI (by omega) (by omega)) dL_law_444 ?_
  refine W.eq (g2 := F0 m 445 ls [.int (xs (i5 + 4)), .int (xs (i5 + 3)), .int (xs (i5 + 2)), .int (xs (i5 + 1)), .ref mo]) (by rw [nI_clamp (by omega)]) ?_
  obtain ⟨_, _, _, _, _, _, _, _, _, _, _, _, _, _, _, _, _, _, _, _, _, _, -, hMob, -⟩ := id hI
  refine m_kV (As := [.int (xs (i5 + 1)), .int (xs (i5 + 2)), .int (xs (i5 + 3)), .int (xs (i5 + 4))]) (rest := []) (rm := { frames := 5, cells := 0, slots := 0, locals := 122 }) ⟨hx, hb, hml, hown, hts⟩ (s_X6_write l D k z _ mo cn ia dr en la wo op mk ir se ec lc wc ol al dn md (xs (i5 + 1)) (xs (i5 + 2)) (xs (i5 + 3)) (xs (i5 + 4)) hbd hI) (cwV 4 hts gL_law_X6_write rfl rfl rfl (by decide +kernel) ⟨Nat.le_of_ble_eq_true rfl, Nat.le_of_ble_eq_true rfl⟩) (m_recv hK hm (q := (RX6, TX6, 24)) rfl hMob) hz hcx hm hS rfl hl.1 rfl (Nat.le_of_ble_eq_true rfl) dL_law_445 ⟨(show cc9 + 6 + 0 ≤ 601024 by omega), (show ss9 + 92 + 0 ≤ 7293034 by omega)⟩ (fun v M1 H locs hv hm hS => ?_)
  obtain ⟨hv1, hI9, hk9⟩ := hv
  obtain ⟨Mc2, hMx⟩ : ∃ x : mM, x = M1 := ⟨M1, rfl⟩
  subst hMx
  have hT := hT.kp hk9 hof
  have hI := hI9
  obtain ⟨w10, hv1⟩ := hv1
  subst hv1
  refine W.eq (g2 := F0 m 448 ls [.int w10]) rfl ?_
  refine W.widen (k := cc9 + 6) (n := ss9 + 92) (Nat.le_refl _) (Nat.le_refl _) ?_
  refine lv_istore (lv' := [(6, .int w10), (5, .int w5), (4, .int (nI i5)), (3, .ref oa), (2, .ref mo), (1, .ref o), (0, .ref b)]) hx hb dL_law_448 hl (by decide) rfl (fun ls hl => ?_)
  refine lv_goto (tgt := 905) hx hb dL_law_450 (by decide) ?_
  refine W.widen (k := cc9 + 121) (n := ss9 + 4086) (by omega) (by omega) ?_
  exact kk _ _ _ _ ⟨κ, cn, ia, dr, en, la, wo, op, mk, ir, se, ec, lc, wc, ol, al, dn, md, hT, hko, hkoa, hI, hbd, hof⟩ hm hS (lv_sub hl [2, 3, 4, 5, 6] rfl)

set_option maxHeartbeats 4000000 in
set_option maxRecDepth 100000 in
theorem LC_append {p : Program} {e : Env} {s : State} {m : MethodId} {below : List Frame} {meth : Method} {c : Code} (l : Launch) (hlt : l.stackTraces = false) {b L : Nat} {xs : Nat → Int32} (C0 : lw_At p s m meth c b L xs) (D : va_G) (k : Nat → ClassId) (z : Nat) (hz : z ≤ s.heap.size) (hz2 : s.heap.size ≤ z) (hcxN : cxN D k (AZ z) s) (o mo oa : Nat) (M : mM) {H : Heap} {locs : List Loc} {ls : Array Slot} (cc9 ss9 i5 : Nat) (hcc : cc9 + 121 ≤ 601024) (hss : ss9 + 4086 ≤ 7293034) (hi5 : i5 + 5 ≤ L) (hL : L ≤ 2560) (hLI : LI k M o mo oa) (hm : mm D (AZ z) M H) (hS : va_S (AZ z) s.heap H locs) (hl : lv_has ls 7 [(4, .int (nI i5)), (3, .ref oa), (2, .ref mo), (1, .ref o), (0, .ref b)])
    (kk : ∀ (M9 : mM) (H9 : Heap) (locs9 : List Loc) (ls9 : Array Slot), LI k M9 o mo oa → mm D (AZ z) M9 H9 → va_S (AZ z) s.heap H9 locs9 → lv_has ls9 7 [(4, .int (nI i5)), (3, .ref oa), (2, .ref mo), (1, .ref o), (0, .ref b)] → W p l e room_1 s m #[Value.ref b] below meth c H9 locs9 (cc9 + 121) (ss9 + 4086) (lw_Z below #[Value.ref b] s) (F0 m 905 ls9 [])) : W p l e room_1 s m #[Value.ref b] below meth c H locs cc9 ss9 (lw_Z below #[Value.ref b] s) (F0 m 453 ls []) := by
  obtain ⟨hx, hb, hr, hml, hown, hts0, hX, hbl, hlocks, hgv⟩ := id C0
  have hts : ∀ w ∈ wsL_law, w.before #[Value.ref b] s = true := fun w h => hts0 w (wl_in w h)
  have hcx := hcxN.1
  have hK := hcx.1
  have hA : ∀ q, s.heap.size ≤ q → AZ z q := fun q h => Nat.le_trans hz h
  have hbA : ¬ AZ z b := fun h => absurd (Nat.le_trans hz2 h) (Nat.not_le.mpr hbl)
  obtain ⟨κ, cn, ia, dr, en, la, wo, op, mk, ir, se, ec, lc, wc, ol, al, dn, md, hT, hko, hkoa, hI, hbd, hof⟩ := hLI
  refine lv_aload_n hx hb dL_law_453 rfl (lv_at hl 3 rfl) ?_
  refine lv_aload_n hx hb dL_law_454 rfl (lv_at hl 4 rfl) ?_
  refine lv_iload hx hb dL_law_455 (lv_at hl 0 rfl) ?_
  refine lv_iconst (v := 1) hx hb dL_law_457 (by decide) ?_
  refine lv_iadd hx hb dL_law_458 ?_
  refine W.eq (g2 := F0 m 459 ls [.int (nI (i5 + 1)), .ref b, .ref o]) (by rw [show (((nI i5)) + (1) : Int32) = nI (i5 + 1) from nI_add i5 1]) ?_
  refine va_sld hx hb hX hbl hbA hS (vp_in_nI (by omega) (by omega)) dL_law_459 ?_
  refine W.eq (g2 := F0 m 460 ls [.int (xs (i5 + 1)), .ref o]) (by rw [nI_clamp (by omega)]) ?_
  refine lv_aload_n hx hb dL_law_460 rfl (lv_at hl 4 rfl) ?_
  refine lv_iload hx hb dL_law_461 (lv_at hl 0 rfl) ?_
  refine lv_iconst (v := 2) hx hb dL_law_463 (by decide) ?_
  refine lv_iadd hx hb dL_law_464 ?_
  refine W.eq (g2 := F0 m 465 ls [.int (nI (i5 + 2)), .ref b, .int (xs (i5 + 1)), .ref o]) (by rw [show (((nI i5)) + (2) : Int32) = nI (i5 + 2) from nI_add i5 2]) ?_
  refine va_sld hx hb hX hbl hbA hS (vp_in_nI (by omega) (by omega)) dL_law_465 ?_
  refine W.eq (g2 := F0 m 466 ls [.int (xs (i5 + 2)), .int (xs (i5 + 1)), .ref o]) (by rw [nI_clamp (by omega)]) ?_
  refine lv_aload_n hx hb dL_law_466 rfl (lv_at hl 4 rfl) ?_
  refine lv_iload hx hb dL_law_467 (lv_at hl 0 rfl) ?_
  refine lv_iconst (v := 3) hx hb dL_law_469 (by decide) ?_
  refine lv_iadd hx hb dL_law_470 ?_
  refine W.eq (g2 := F0 m 471 ls [.int (nI (i5 + 3)), .ref b, .int (xs (i5 + 2)), .int (xs (i5 + 1)), .ref o]) (by rw [show (((nI i5)) + (3) : Int32) = nI (i5 + 3) from nI_add i5 3]) ?_
  refine va_sld hx hb hX hbl hbA hS (vp_in_nI (by omega) (by omega)) dL_law_471 ?_
  refine W.eq (g2 := F0 m 472 ls [.int (xs (i5 + 3)), .int (xs (i5 + 2)), .int (xs (i5 + 1)), .ref o]) (by rw [nI_clamp (by omega)]) ?_
  refine lv_aload_n hx hb dL_law_472 rfl (lv_at hl 1 rfl) ?_
  refine m_kSW (hh := [(0, 12, 15, 13), (0, 12, 19, 31), (0, 12, 23, 33), (0, 12, 27, 15)]) (As := [.ref o, .int (xs (i5 + 1)), .int (xs (i5 + 2)), .int (xs (i5 + 3)), .ref oa]) (rest := []) (rm := { frames := 9, cells := 5, slots := 86, locals := 149 }) ⟨hx, hb, hml, hown, hts⟩ (h_L_append l hlt D k z _ _ o (xs (i5 + 1)) (xs (i5 + 2)) (xs (i5 + 3)) oa hko hkoa hT) (vx_cwSW 5 hts gL_law_L_append rfl rfl rfl (by decide +kernel) ⟨Nat.le_of_ble_eq_true rfl, Nat.le_of_ble_eq_true rfl⟩) hz hcxN hm hS rfl hl.1 rfl (Nat.le_of_ble_eq_true rfl) dL_law_473 ⟨(show cc9 + 5 ≤ 601024 by omega), (show ss9 + 86 ≤ 7293034 by omega)⟩ (fun v M1 H locs hv hm hS => ?_)
  obtain ⟨κ1, hT1, hx1, hv1⟩ := hv
  obtain ⟨Mc1, hMx⟩ : ∃ x : mM, x = M1 := ⟨M1, rfl⟩
  subst hMx
  have hof1 := hI.off hx1 hof
  have hI := hI.mv hx1 hof
  have hof := hof1
  have hko := hx1.k hT hko
  have hkoa := hx1.k hT hkoa
  have hT := hT1
  obtain ⟨κ, hκ⟩ : ∃ x, x = κ1 := ⟨_, rfl⟩
  subst hκ
  obtain ⟨w4, hv1⟩ := hv1
  subst hv1
  refine W.eq (g2 := F0 m 476 ls [.int w4]) rfl ?_
  refine W.widen (k := cc9 + 5) (n := ss9 + 86) (Nat.le_refl _) (Nat.le_refl _) ?_
  refine lv_istore (lv' := [(5, .int w4), (4, .int (nI i5)), (3, .ref oa), (2, .ref mo), (1, .ref o), (0, .ref b)]) hx hb dL_law_476 hl (by decide) rfl (fun ls hl => ?_)
  refine lv_aload_n hx hb dL_law_478 rfl (lv_at hl 3 rfl) ?_
  refine lv_aload_n hx hb dL_law_479 rfl (lv_at hl 5 rfl) ?_
  refine lv_iload hx hb dL_law_480 (lv_at hl 1 rfl) ?_
  refine lv_iconst (v := 1) hx hb dL_law_482 (by decide) ?_
  refine lv_iadd hx hb dL_law_483 ?_
  refine W.eq (g2 := F0 m 484 ls [.int (nI (i5 + 1)), .ref b, .ref mo]) (by rw [show (((nI i5)) + (1) : Int32) = nI (i5 + 1) from nI_add i5 1]) ?_
  refine va_sld hx hb hX hbl hbA hS (vp_in_nI (by omega) (by omega)) dL_law_484 ?_
  refine W.eq (g2 := F0 m 485 ls [.int (xs (i5 + 1)), .ref mo]) (by rw [nI_clamp (by omega)]) ?_
  refine lv_aload_n hx hb dL_law_485 rfl (lv_at hl 5 rfl) ?_
  refine lv_iload hx hb dL_law_486 (lv_at hl 1 rfl) ?_
  refine lv_iconst (v := 2) hx hb dL_law_488 (by decide) ?_
  refine lv_iadd hx hb dL_law_489 ?_
  refine W.eq (g2 := F0 m 490 ls [.int (nI (i5 + 2)), .ref b, .int (xs (i5 + 1)), .ref mo]) (by rw [show (((nI i5)) + (2) : Int32) = nI (i5 + 2) from nI_add i5 2]) ?_
  refine va_sld hx hb hX hbl hbA hS (vp_in_nI (by omega) (by omega)) dL_law_490 ?_
  refine W.eq (g2 := F0 m 491 ls [.int (xs (i5 + 2)), .int (xs (i5 + 1)), .ref mo]) (by rw [nI_clamp (by omega)]) ?_
  refine lv_aload_n hx hb dL_law_491 rfl (lv_at hl 5 rfl) ?_
  refine lv_iload hx hb dL_law_492 (lv_at hl 1 rfl) ?_
  refine lv_iconst (v := 3) hx hb dL_law_494 (by decide) ?_
  refine lv_iadd hx hb dL_law_495 ?_
  refine W.eq (g2 := F0 m 496 ls [.int (nI (i5 + 3)), .ref b, .int (xs (i5 + 2)), .int (xs (i5 + 1)), .ref mo]) (by rw [show (((nI i5)) + (3) : Int32) = nI (i5 + 3) from nI_add i5 3]) ?_
  refine va_sld hx hb hX hbl hbA hS (vp_in_nI (by omega) (by omega)) dL_law_496 ?_
  refine W.eq (g2 := F0 m 497 ls [.int (xs (i5 + 3)), .int (xs (i5 + 2)), .int (xs (i5 + 1)), .ref mo]) (by rw [nI_clamp (by omega)]) ?_
  obtain ⟨_, _, _, _, _, _, _, _, _, _, _, _, _, _, _, _, _, _, _, _, _, _, -, hMob, -⟩ := id hI
  refine m_kV (As := [.int (xs (i5 + 1)), .int (xs (i5 + 2)), .int (xs (i5 + 3))]) (rest := []) (rm := { frames := 5, cells := 0, slots := 0, locals := 122 }) ⟨hx, hb, hml, hown, hts⟩ (s_X6_append l D k z _ mo cn ia dr en la wo op mk ir se ec lc wc ol al dn md (xs (i5 + 1)) (xs (i5 + 2)) (xs (i5 + 3)) hbd hI) (cwV 3 hts gL_law_X6_append rfl rfl rfl (by decide +kernel) ⟨Nat.le_of_ble_eq_true rfl, Nat.le_of_ble_eq_true rfl⟩) (m_recv hK hm (q := (RX6, TX6, 24)) rfl hMob) hz hcx hm hS rfl hl.1 rfl (Nat.le_of_ble_eq_true rfl) dL_law_497 ⟨(show cc9 + 5 + 0 ≤ 601024 by omega), (show ss9 + 86 + 0 ≤ 7293034 by omega)⟩ (fun v M1 H locs hv hm hS => ?_)
  obtain ⟨hv1, hI9, hk9⟩ := hv
  obtain ⟨Mc2, hMx⟩ : ∃ x : mM, x = M1 := ⟨M1, rfl⟩
  subst hMx
  have hT := hT.kp hk9 hof
  have hI := hI9
  obtain ⟨w8, hv1⟩ := hv1
  subst hv1
  refine W.eq (g2 := F0 m 500 ls [.int w8]) rfl ?_
  refine W.widen (k := cc9 + 5) (n := ss9 + 86) (Nat.le_refl _) (Nat.le_refl _) ?_
  refine lv_istore (lv' := [(6, .int w8), (5, .int w4), (4, .int (nI i5)), (3, .ref oa), (2, .ref mo), (1, .ref o), (0, .ref b)]) hx hb dL_law_500 hl (by decide) rfl (fun ls hl => ?_)
  refine lv_goto (tgt := 905) hx hb dL_law_502 (by decide) ?_
  refine W.widen (k := cc9 + 121) (n := ss9 + 4086) (by omega) (by omega) ?_
  exact kk _ _ _ _ ⟨κ, cn, ia, dr, en, la, wo, op, mk, ir, se, ec, lc, wc, ol, al, dn, md, hT, hko, hkoa, hI, hbd, hof⟩ hm hS (lv_sub hl [2, 3, 4, 5, 6] rfl)

set_option maxHeartbeats 4000000 in
set_option maxRecDepth 100000 in
theorem LC_cut {p : Program} {e : Env} {s : State} {m : MethodId} {below : List Frame} {meth : Method} {c : Code} (l : Launch) (hlt : l.stackTraces = false) {b L : Nat} {xs : Nat → Int32} (C0 : lw_At p s m meth c b L xs) (D : va_G) (k : Nat → ClassId) (z : Nat) (hz : z ≤ s.heap.size) (hz2 : s.heap.size ≤ z) (hcxN : cxN D k (AZ z) s) (o mo oa : Nat) (M : mM) {H : Heap} {locs : List Loc} {ls : Array Slot} (cc9 ss9 i5 : Nat) (hcc : cc9 + 121 ≤ 601024) (hss : ss9 + 4086 ≤ 7293034) (hi5 : i5 + 5 ≤ L) (hL : L ≤ 2560) (hLI : LI k M o mo oa) (hm : mm D (AZ z) M H) (hS : va_S (AZ z) s.heap H locs) (hl : lv_has ls 7 [(4, .int (nI i5)), (3, .ref oa), (2, .ref mo), (1, .ref o), (0, .ref b)])
    (kk : ∀ (M9 : mM) (H9 : Heap) (locs9 : List Loc) (ls9 : Array Slot), LI k M9 o mo oa → mm D (AZ z) M9 H9 → va_S (AZ z) s.heap H9 locs9 → lv_has ls9 7 [(4, .int (nI i5)), (3, .ref oa), (2, .ref mo), (1, .ref o), (0, .ref b)] → W p l e room_1 s m #[Value.ref b] below meth c H9 locs9 (cc9 + 121) (ss9 + 4086) (lw_Z below #[Value.ref b] s) (F0 m 905 ls9 [])) : W p l e room_1 s m #[Value.ref b] below meth c H locs cc9 ss9 (lw_Z below #[Value.ref b] s) (F0 m 505 ls []) := by
  obtain ⟨hx, hb, hr, hml, hown, hts0, hX, hbl, hlocks, hgv⟩ := id C0
  have hts : ∀ w ∈ wsL_law, w.before #[Value.ref b] s = true := fun w h => hts0 w (wl_in w h)
  have hcx := hcxN.1
  have hK := hcx.1
  have hA : ∀ q, s.heap.size ≤ q → AZ z q := fun q h => Nat.le_trans hz h
  have hbA : ¬ AZ z b := fun h => absurd (Nat.le_trans hz2 h) (Nat.not_le.mpr hbl)
  obtain ⟨κ, cn, ia, dr, en, la, wo, op, mk, ir, se, ec, lc, wc, ol, al, dn, md, hT, hko, hkoa, hI, hbd, hof⟩ := hLI
  refine lv_aload_n hx hb dL_law_505 rfl (lv_at hl 3 rfl) ?_
  refine lv_aload_n hx hb dL_law_506 rfl (lv_at hl 4 rfl) ?_
  refine lv_iload hx hb dL_law_507 (lv_at hl 0 rfl) ?_
  refine lv_iconst (v := 1) hx hb dL_law_509 (by decide) ?_
  refine lv_iadd hx hb dL_law_510 ?_
  refine W.eq (g2 := F0 m 511 ls [.int (nI (i5 + 1)), .ref b, .ref o]) (by rw [show (((nI i5)) + (1) : Int32) = nI (i5 + 1) from nI_add i5 1]) ?_
  refine va_sld hx hb hX hbl hbA hS (vp_in_nI (by omega) (by omega)) dL_law_511 ?_
  refine W.eq (g2 := F0 m 512 ls [.int (xs (i5 + 1)), .ref o]) (by rw [nI_clamp (by omega)]) ?_
  refine lv_aload_n hx hb dL_law_512 rfl (lv_at hl 4 rfl) ?_
  refine lv_iload hx hb dL_law_513 (lv_at hl 0 rfl) ?_
  refine lv_iconst (v := 2) hx hb dL_law_515 (by decide) ?_
  refine lv_iadd hx hb dL_law_516 ?_
  refine W.eq (g2 := F0 m 517 ls [.int (nI (i5 + 2)), .ref b, .int (xs (i5 + 1)), .ref o]) (by rw [show (((nI i5)) + (2) : Int32) = nI (i5 + 2) from nI_add i5 2]) ?_
  refine va_sld hx hb hX hbl hbA hS (vp_in_nI (by omega) (by omega)) dL_law_517 ?_
  refine W.eq (g2 := F0 m 518 ls [.int (xs (i5 + 2)), .int (xs (i5 + 1)), .ref o]) (by rw [nI_clamp (by omega)]) ?_
  refine lv_aload_n hx hb dL_law_518 rfl (lv_at hl 4 rfl) ?_
  refine lv_iload hx hb dL_law_519 (lv_at hl 0 rfl) ?_
  refine lv_iconst (v := 3) hx hb dL_law_521 (by decide) ?_
  refine lv_iadd hx hb dL_law_522 ?_
  refine W.eq (g2 := F0 m 523 ls [.int (nI (i5 + 3)), .ref b, .int (xs (i5 + 2)), .int (xs (i5 + 1)), .ref o]) (by rw [show (((nI i5)) + (3) : Int32) = nI (i5 + 3) from nI_add i5 3]) ?_
  refine va_sld hx hb hX hbl hbA hS (vp_in_nI (by omega) (by omega)) dL_law_523 ?_
  refine W.eq (g2 := F0 m 524 ls [.int (xs (i5 + 3)), .int (xs (i5 + 2)), .int (xs (i5 + 1)), .ref o]) (by rw [nI_clamp (by omega)]) ?_
  refine lv_aload_n hx hb dL_law_524 rfl (lv_at hl 1 rfl) ?_
  refine m_kSW (hh := [(0, 12, 15, 13), (0, 12, 19, 31), (0, 12, 23, 33), (0, 12, 27, 15), (0, 12, 31, 47)]) (As := [.ref o, .int (xs (i5 + 1)), .int (xs (i5 + 2)), .int (xs (i5 + 3)), .ref oa]) (rest := []) (rm := { frames := 9, cells := 5, slots := 86, locals := 149 }) ⟨hx, hb, hml, hown, hts⟩ (h_L_cut l hlt D k z _ _ o (xs (i5 + 1)) (xs (i5 + 2)) (xs (i5 + 3)) oa hko hkoa hT) (vx_cwSW 5 hts gL_law_L_cut rfl rfl rfl (by decide +kernel) ⟨Nat.le_of_ble_eq_true rfl, Nat.le_of_ble_eq_true rfl⟩) hz hcxN hm hS rfl hl.1 rfl (Nat.le_of_ble_eq_true rfl) dL_law_525 ⟨(show cc9 + 5 ≤ 601024 by omega), (show ss9 + 86 ≤ 7293034 by omega)⟩ (fun v M1 H locs hv hm hS => ?_)
  obtain ⟨κ1, hT1, hx1, hv1⟩ := hv
  obtain ⟨Mc1, hMx⟩ : ∃ x : mM, x = M1 := ⟨M1, rfl⟩
  subst hMx
  have hof1 := hI.off hx1 hof
  have hI := hI.mv hx1 hof
  have hof := hof1
  have hko := hx1.k hT hko
  have hkoa := hx1.k hT hkoa
  have hT := hT1
  obtain ⟨κ, hκ⟩ : ∃ x, x = κ1 := ⟨_, rfl⟩
  subst hκ
  obtain ⟨w4, hv1⟩ := hv1
  subst hv1
  refine W.eq (g2 := F0 m 528 ls [.int w4]) rfl ?_
  refine W.widen (k := cc9 + 5) (n := ss9 + 86) (Nat.le_refl _) (Nat.le_refl _) ?_
  refine lv_istore (lv' := [(5, .int w4), (4, .int (nI i5)), (3, .ref oa), (2, .ref mo), (1, .ref o), (0, .ref b)]) hx hb dL_law_528 hl (by decide) rfl (fun ls hl => ?_)
  refine lv_aload_n hx hb dL_law_530 rfl (lv_at hl 3 rfl) ?_
  refine lv_aload_n hx hb dL_law_531 rfl (lv_at hl 5 rfl) ?_
  refine lv_iload hx hb dL_law_532 (lv_at hl 1 rfl) ?_
  refine lv_iconst (v := 1) hx hb dL_law_534 (by decide) ?_
  refine lv_iadd hx hb dL_law_535 ?_
  refine W.eq (g2 := F0 m 536 ls [.int (nI (i5 + 1)), .ref b, .ref mo]) (by rw [show (((nI i5)) + (1) : Int32) = nI (i5 + 1) from nI_add i5 1]) ?_
  refine va_sld hx hb hX hbl hbA hS (vp_in_nI (by omega) (by omega)) dL_law_536 ?_
  refine W.eq (g2 := F0 m 537 ls [.int (xs (i5 + 1)), .ref mo]) (by rw [nI_clamp (by omega)]) ?_
  refine lv_aload_n hx hb dL_law_537 rfl (lv_at hl 5 rfl) ?_
  refine lv_iload hx hb dL_law_538 (lv_at hl 1 rfl) ?_
  refine lv_iconst (v := 2) hx hb dL_law_540 (by decide) ?_
  refine lv_iadd hx hb dL_law_541 ?_
  refine W.eq (g2 := F0 m 542 ls [.int (nI (i5 + 2)), .ref b, .int (xs (i5 + 1)), .ref mo]) (by rw [show (((nI i5)) + (2) : Int32) = nI (i5 + 2) from nI_add i5 2]) ?_
  refine va_sld hx hb hX hbl hbA hS (vp_in_nI (by omega) (by omega)) dL_law_542 ?_
  refine W.eq (g2 := F0 m 543 ls [.int (xs (i5 + 2)), .int (xs (i5 + 1)), .ref mo]) (by rw [nI_clamp (by omega)]) ?_
  refine lv_aload_n hx hb dL_law_543 rfl (lv_at hl 5 rfl) ?_
  refine lv_iload hx hb dL_law_544 (lv_at hl 1 rfl) ?_
  refine lv_iconst (v := 3) hx hb dL_law_546 (by decide) ?_
  refine lv_iadd hx hb dL_law_547 ?_
  refine W.eq (g2 := F0 m 548 ls [.int (nI (i5 + 3)), .ref b, .int (xs (i5 + 2)), .int (xs (i5 + 1)), .ref mo]) (by rw [show (((nI i5)) + (3) : Int32) = nI (i5 + 3) from nI_add i5 3]) ?_
  refine va_sld hx hb hX hbl hbA hS (vp_in_nI (by omega) (by omega)) dL_law_548 ?_
  refine W.eq (g2 := F0 m 549 ls [.int (xs (i5 + 3)), .int (xs (i5 + 2)), .int (xs (i5 + 1)), .ref mo]) (by rw [nI_clamp (by omega)]) ?_
  obtain ⟨_, _, _, _, _, _, _, _, _, _, _, _, _, _, _, _, _, _, _, _, _, _, -, hMob, -⟩ := id hI
  refine m_kV (As := [.int (xs (i5 + 1)), .int (xs (i5 + 2)), .int (xs (i5 + 3))]) (rest := []) (rm := { frames := 5, cells := 0, slots := 0, locals := 122 }) ⟨hx, hb, hml, hown, hts⟩ (s_X6_cut l D k z _ mo cn ia dr en la wo op mk ir se ec lc wc ol al dn md (xs (i5 + 1)) (xs (i5 + 2)) (xs (i5 + 3)) hbd hI) (cwV 3 hts gL_law_X6_cut rfl rfl rfl (by decide +kernel) ⟨Nat.le_of_ble_eq_true rfl, Nat.le_of_ble_eq_true rfl⟩) (m_recv hK hm (q := (RX6, TX6, 24)) rfl hMob) hz hcx hm hS rfl hl.1 rfl (Nat.le_of_ble_eq_true rfl) dL_law_549 ⟨(show cc9 + 5 + 0 ≤ 601024 by omega), (show ss9 + 86 + 0 ≤ 7293034 by omega)⟩ (fun v M1 H locs hv hm hS => ?_)
  obtain ⟨hv1, hI9, hk9⟩ := hv
  obtain ⟨Mc2, hMx⟩ : ∃ x : mM, x = M1 := ⟨M1, rfl⟩
  subst hMx
  have hT := hT.kp hk9 hof
  have hI := hI9
  obtain ⟨w8, hv1⟩ := hv1
  subst hv1
  refine W.eq (g2 := F0 m 552 ls [.int w8]) rfl ?_
  refine W.widen (k := cc9 + 5) (n := ss9 + 86) (Nat.le_refl _) (Nat.le_refl _) ?_
  refine lv_istore (lv' := [(6, .int w8), (5, .int w4), (4, .int (nI i5)), (3, .ref oa), (2, .ref mo), (1, .ref o), (0, .ref b)]) hx hb dL_law_552 hl (by decide) rfl (fun ls hl => ?_)
  refine lv_goto (tgt := 905) hx hb dL_law_554 (by decide) ?_
  refine W.widen (k := cc9 + 121) (n := ss9 + 4086) (by omega) (by omega) ?_
  exact kk _ _ _ _ ⟨κ, cn, ia, dr, en, la, wo, op, mk, ir, se, ec, lc, wc, ol, al, dn, md, hT, hko, hkoa, hI, hbd, hof⟩ hm hS (lv_sub hl [2, 3, 4, 5, 6] rfl)
