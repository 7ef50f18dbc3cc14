theorem lw_le {n L : Nat} (hn : n ≤ 512) (hL : L ≤ 2560) (h : ¬ nI L - 5 < nI (5 * n)) : 5 * n + 5 ≤ L := by
  rcases Nat.lt_or_ge L 5 with q | q
  · exfalso
    refine h (Int32.lt_of_lt_of_le (b := 0) (pk_sneg (a := L) (b := 5) (by decide) q) (nI_pos' (by omega)))
  · rw [show (5 : Int32) = nI 5 from rfl, pk_sub q] at h
    have := (nI_leI (a := 5 * n) (b := L - 5) (by omega) (by omega)).mp (Int32.not_lt.mp h)
    omega
set_option maxHeartbeats 4000000 in
set_option maxRecDepth 100000 in
theorem whole_start {p : Program} {e : Env} {s : State} {m : MethodId} {below : List Frame} {meth : Method} {c : Code} (l : Launch) (hlt : l.stackTraces = false) {b L : Nat} {xs : Nat → Int32} (hL : L ≤ 2560) (C0 : lw_At p s m meth c b L xs) : W p l e room_1 s m #[Value.ref b] below meth c s.heap [] 0 0 (lw_Z below #[Value.ref b] s) (entryFrame m ([Value.ref b] : List Value).toArray 7) := by
  obtain ⟨D, k, hcxN⟩ := cxN_start C0
  obtain ⟨z, hzE⟩ : ∃ z, z = s.heap.size := ⟨_, rfl⟩
  rw [← hzE] at hcxN
  have hz : z ≤ s.heap.size := Nat.le_of_eq hzE
  have hz2 : s.heap.size ≤ z := Nat.le_of_eq hzE.symm
  obtain ⟨hx, hb, hr, hml, hown, hts0, hX, hbl, hlocks, hgv⟩ := id C0
  have hts : ∀ w ∈ wsL_law, w.before #[Value.ref b] s = true := fun w h => hts0 w (wl_in w h)
  have hcx := hcxN.1
  have hK := hcx.1
  have hA : ∀ q, s.heap.size ≤ q → AZ z q := fun q h => Nat.le_trans hz h
  have hbA : ¬ AZ z b := fun h => absurd (Nat.le_trans hz2 h) (Nat.not_le.mpr hbl)
  obtain ⟨M, hM00⟩ : ∃ M : mM, M = fun _ => none := ⟨_, rfl⟩
  have hm : mm D (AZ z) M s.heap := by rw [hM00]; exact mm.nil
  have hS : va_S (AZ z) s.heap s.heap [] := va_S.rf
  have hl := lv_entry ([.ref b]) (n := 7) (Nat.le_of_ble_eq_true rfl)
  rw [lg_entry_eq]
  generalize (lg_sl ([.ref b]) ++ List.replicate (7 - (lg_sl ([.ref b])).length) Slot.unset).toArray = ls at hl ⊢
  have hl : lv_has ls 7 [(0, .ref b)] := hl
  have wX5 := inlX5
  have wX6 := inlX6
  have hT : TM k (fun _ => none) M := fun a d ha => by cases ha
  refine m_new (T := TX5) (N := 11) (ci := 5) (fs := [.null, .null, .null, .null, .null, .null, .int 0, .int 0, .int 0, .int 0, .int 0]) hx hb hts wX5 tyX5 tyX5_ok hown (hts (.classLink RL 8 RX5) (by decide +kernel)) (hts (.instantiable RX5 11) (by decide +kernel)) (hts (.initialized RX5) (by decide +kernel)) hK hm hS hA rfl (fun j hj => by rcases (show j = 0 ∨ j = 1 ∨ j = 2 ∨ j = 3 ∨ j = 4 ∨ j = 5 ∨ j = 6 ∨ j = 7 ∨ j = 8 ∨ j = 9 ∨ j = 10 by omega) with rfl | rfl | rfl | rfl | rfl | rfl | rfl | rfl | rfl | rfl | rfl <;> rfl) (Nat.le_of_ble_eq_true rfl) (Nat.le_of_ble_eq_true rfl) dL_law_0 (fun o H ho hm hS => ?_)
  refine W.widen (k := 1) (n := 11) (Nat.le_of_ble_eq_true rfl) (Nat.le_of_ble_eq_true rfl) ?_
  have hm : mm D (AZ z) (mu M o (.inr (5, [.null, .null, .null, .null, .null, .null, .int 0, .int 0, .int 0, .int 0, .int 0]))) H := hm
  refine lv_dup hx hb dL_law_3 rfl ?_
  refine m_kI (As := []) (rest := [.ref o]) (rm := { frames := 4, cells := 109, slots := 3264, locals := 81 }) ⟨hx, hb, hml, hown, hts⟩ (i_X5_init l D k z _ _ o (mu_self _ _ _) rfl (hT.new0 ho)) (cwI 0 hts gL_law_X5_init rfl rfl rfl (hts (.initialized RX5) (by decide +kernel)) (hts (.methodLink RL 88 yX5_init) (by decide +kernel)) (hts (.instanceMethod yX5_init) (by decide +kernel)) rfl (by decide +kernel) ⟨Nat.le_of_ble_eq_true rfl, Nat.le_of_ble_eq_true rfl⟩) hz hcx hm hS rfl hl.1 rfl (Nat.le_of_ble_eq_true rfl) dL_law_4 ⟨Nat.le_of_ble_eq_true rfl, Nat.le_of_ble_eq_true rfl⟩ (fun v M1 H locs hv hm hS => ?_)
  obtain ⟨hv1, κ, hT1, hE1, hko⟩ := hv
  subst hv1
  have hT := hT1
  obtain ⟨Mc1, hMx⟩ : ∃ x : mM, x = M1 := ⟨M1, rfl⟩
  subst hMx
  refine W.eq (g2 := F0 m 7 ls [.ref o]) rfl ?_
  refine W.widen (k := 110) (n := 3275) (Nat.le_of_ble_eq_true rfl) (Nat.le_of_ble_eq_true rfl) ?_
  have hm : mm D (AZ z) Mc1 H := hm
  refine lv_astore_n (lv' := [(1, .ref o), (0, .ref b)]) hx hb dL_law_7 rfl hl (by decide) rfl (fun ls hl => ?_)
  refine m_new (T := TX6) (N := 24) (ci := 6) (fs := [.int 0, .null, .null, .null, .null, .null, .null, .int 0, .null, .null, .null, .int 0, .int 0, .int 0, .int 0, .int 0, .null, .null, .null, .null, .null, .null, .int 0, .int 0]) hx hb hts wX6 tyX6 tyX6_ok hown (hts (.classLink RL 89 RX6) (by decide +kernel)) (hts (.instantiable RX6 24) (by decide +kernel)) (hts (.initialized RX6) (by decide +kernel)) hK hm hS hA rfl (fun j hj => by rcases (show j = 0 ∨ j = 1 ∨ j = 2 ∨ j = 3 ∨ j = 4 ∨ j = 5 ∨ j = 6 ∨ j = 7 ∨ j = 8 ∨ j = 9 ∨ j = 10 ∨ j = 11 ∨ j = 12 ∨ j = 13 ∨ j = 14 ∨ j = 15 ∨ j = 16 ∨ j = 17 ∨ j = 18 ∨ j = 19 ∨ j = 20 ∨ j = 21 ∨ j = 22 ∨ j = 23 by omega) with rfl | rfl | rfl | rfl | rfl | rfl | rfl | rfl | rfl | rfl | rfl | rfl | rfl | rfl | rfl | rfl | rfl | rfl | rfl | rfl | rfl | rfl | rfl | rfl <;> rfl) (Nat.le_of_ble_eq_true rfl) (Nat.le_of_ble_eq_true rfl) dL_law_8 (fun mo H hmo hm hS => ?_)
  refine W.widen (k := 111) (n := 3299) (Nat.le_of_ble_eq_true rfl) (Nat.le_of_ble_eq_true rfl) ?_
  have hm : mm D (AZ z) (mu Mc1 mo (.inr (6, [.int 0, .null, .null, .null, .null, .null, .null, .int 0, .null, .null, .null, .int 0, .int 0, .int 0, .int 0, .int 0, .null, .null, .null, .null, .null, .null, .int 0, .int 0]))) H := hm
  refine lv_dup hx hb dL_law_11 rfl ?_
  refine m_kI (As := []) (rest := [.ref mo]) (rm := { frames := 1, cells := 15, slots := 400000, locals := 12 }) ⟨hx, hb, hml, hown, hts⟩ (s_X6_init l D k z _ mo (mu_self _ _ _)) (cwI 0 hts gL_law_X6_init rfl rfl rfl (hts (.initialized RX6) (by decide +kernel)) (hts (.methodLink RL 91 yX6_init) (by decide +kernel)) (hts (.instanceMethod yX6_init) (by decide +kernel)) rfl (by decide +kernel) ⟨Nat.le_of_ble_eq_true rfl, Nat.le_of_ble_eq_true rfl⟩) hz hcx hm hS rfl hl.1 rfl (Nat.le_of_ble_eq_true rfl) dL_law_12 ⟨Nat.le_of_ble_eq_true rfl, Nat.le_of_ble_eq_true rfl⟩ (fun v M1 H locs hv hm hS => ?_)
  obtain ⟨hv1, hk9, cn, ia, dr, en, la, wo, op, mk, ir, se, ec, lc, wc, ol, al, hI, hnn⟩ := hv
  subst hv1
  have hk0mo := hT.no hmo
  have hTn := hT.new0 (e := .inr (6, [.int 0, .null, .null, .null, .null, .null, .null, .int 0, .null, .null, .null, .int 0, .int 0, .int 0, .int 0, .int 0, .null, .null, .null, .null, .null, .null, .int 0, .int 0])) hmo
  have hof : ∀ a ∈ [mo, cn, ia, dr, en, la, wo, op, mk, ir, se, ec, lc, wc, ol, al], κ a = none := by
    intro a ha
    rcases List.mem_cons.mp ha with rfl | ha
    · exact hk0mo
    · exact hTn.no (hnn a ha)
  have hT := hTn.kp hk9 (fun a q => by rw [show a = mo from q]; exact hk0mo)
  obtain ⟨Mc2, hMx⟩ : ∃ x : mM, x = M1 := ⟨M1, rfl⟩
  subst hMx
  refine W.eq (g2 := F0 m 15 ls [.ref mo]) rfl ?_
  refine W.widen (k := 126) (n := 403299) (Nat.le_of_ble_eq_true rfl) (Nat.le_of_ble_eq_true rfl) ?_
  have hm : mm D (AZ z) Mc2 H := hm
  refine lv_astore_n (lv' := [(2, .ref mo), (1, .ref o), (0, .ref b)]) hx hb dL_law_15 rfl hl (by decide) rfl (fun ls hl => ?_)
  refine lv_iconst (v := 1) hx hb dL_law_16 (by decide) ?_
  refine m_newa (atype := .long) hx hb (hts (.arrayClass .long) (by decide +kernel)) (ty := .long) rfl (fun C h => by cases h) hK 1 rfl hm hS hA (N' := 1) (a0 := (1, .inr (.inl (fun _ => 0)))) (fun cA => vp_cell_l cA _ _) (by decide) rfl (by decide) (Nat.le_of_ble_eq_true rfl) (Nat.le_of_ble_eq_true rfl) dL_law_17 (fun oa H hoa hm hS => ?_)
  refine W.widen (k := 127) (n := 403300) (Nat.le_of_ble_eq_true rfl) (Nat.le_of_ble_eq_true rfl) ?_
  have hm : mm D (AZ z) (mu Mc2 oa (.inl (k 1, 1, .inr (.inl (fun _ => 0))))) H := hm
  have hko1 : κ oa = none := hT.no hoa
  have hTn := hT.new0 (e := .inl (k 1, 1, .inr (.inl (fun _ => 0)))) hoa
  have hT9 : TM k (kup κ oa .outs) (mu Mc2 oa (.inl (k 1, 1, .inr (.inl (fun _ => 0))))) := hTn.adopt hko1 (mu_self _ _ _) ⟨_, rfl⟩
  have hko9 : kup κ oa .outs o = some .top := kup_old hko1 hko
  have hI9 : mI k (mu Mc2 oa (.inl (k 1, 1, .inr (.inl (fun _ => 0))))) mo cn ia dr en la wo op mk ir se ec lc wc ol al 0 0 := hI.mv (κ := κ) (κ1 := κ) ((kx.refl _ _).new0 hoa) hof
  have hof9 : ∀ a ∈ [mo, cn, ia, dr, en, la, wo, op, mk, ir, se, ec, lc, wc, ol, al], kup κ oa .outs a = none := fun a ha => by
    obtain ⟨e9, he9⟩ := hI.on a ha
    exact (if_neg (m_fr hoa he9)).trans (hof a ha)
  have hLI : LI k (mu Mc2 oa (.inl (k 1, 1, .inr (.inl (fun _ => 0))))) o mo oa := ⟨_, cn, ia, dr, en, la, wo, op, mk, ir, se, ec, lc, wc, ol, al, 0, 0, hT9, hko9, kup_self _ _ _, hI9, fun q => absurd rfl q, hof9⟩
  refine lv_astore_n (lv' := [(3, .ref oa), (2, .ref mo), (1, .ref o), (0, .ref b)]) hx hb dL_law_19 rfl hl (by decide) rfl (fun ls hl => ?_)
  refine lv_iconst (v := 0) hx hb dL_law_20 (by decide) ?_
  refine lv_istore (lv' := [(4, .int 0), (3, .ref oa), (2, .ref mo), (1, .ref o), (0, .ref b)]) hx hb dL_law_21 hl (by decide) rfl (fun ls hl => ?_)
  refine W_loop (σ := Nat × mM) (fun ⟨n, Mj⟩ H locs ls => (n ≤ 512) ∧ LI k Mj o mo oa ∧ mm D (AZ z) Mj H ∧ va_S (AZ z) s.heap H locs ∧ lv_has ls 7 [(4, .int (nI (5 * n))), (3, .ref oa), (2, .ref mo), (1, .ref o), (0, .ref b)]) (fun ⟨n, Mj⟩ => 512 - n) (fun ⟨n, Mj⟩ => 127 + n * 121) (fun ⟨n, Mj⟩ => 403300 + n * 4086) ?_ (0, (mu Mc2 oa (.inl (k 1, 1, .inr (.inl (fun _ => 0)))))) _ _ _ ⟨Nat.zero_le _, hLI, hm, hS, lv_sub hl [0, 1, 2, 3, 4] rfl⟩
  clear hLI hm hS hl
  intro ⟨n, Mj⟩ H locs ls hQ ih
  obtain ⟨hn, hLI, hm, hS, hl⟩ := hQ
  try dsimp only at hn hLI hm hl ih ⊢
  refine lv_iload hx hb dL_law_23 (lv_at hl 0 rfl) ?_
  refine lv_aload_n hx hb dL_law_25 rfl (lv_at hl 4 rfl) ?_
  refine va_slen hx hb hX hbl hbA hS dL_law_26 ?_
  refine lv_iconst (v := 5) hx hb dL_law_27 (by decide) ?_
  refine lv_isub hx hb dL_law_28 ?_
  refine lv_icmp_gt (tgt := 911) hx hb dL_law_29 (by decide) (fun c1 => ?_) (fun c1 => ?_)
  · refine lv_iconst (v := 1) hx hb dL_law_911 (by decide) ?_
    refine va_forget (fun q hq => Nat.le_trans hz2 (hS.2.2 q hq)) ?_
    refine W.widen (k := 601024) (n := 7293034) (by omega) (by omega) ?_
    exact lw_ret hx hb hr hlocks dL_law_912
  · have hi5 : 5 * n + 5 ≤ L := lw_le (by omega) (by omega) c1
    refine lv_aload_n hx hb dL_law_32 rfl (lv_at hl 4 rfl) ?_
    refine lv_iload hx hb dL_law_33 (lv_at hl 0 rfl) ?_
    refine va_sld hx hb hX hbl hbA hS (vp_in_nI (by omega) (by omega)) dL_law_35 ?_
    generalize xs ((nI (5 * n))).toNatClampNeg = sw9
    refine lv_bipush (v := 31) hx hb dL_law_36 (by decide) ?_
    refine lv_iand hx hb dL_law_38 ?_
    rcases (show (((sw9 &&& 31)).toInt < 0 ∨ 19 < ((sw9 &&& 31)).toInt) ∨ ((sw9 &&& 31)).toInt = 0 ∨ ((sw9 &&& 31)).toInt = 1 ∨ ((sw9 &&& 31)).toInt = 2 ∨ ((sw9 &&& 31)).toInt = 3 ∨ ((sw9 &&& 31)).toInt = 4 ∨ ((sw9 &&& 31)).toInt = 5 ∨ ((sw9 &&& 31)).toInt = 6 ∨ ((sw9 &&& 31)).toInt = 7 ∨ ((sw9 &&& 31)).toInt = 8 ∨ ((sw9 &&& 31)).toInt = 9 ∨ ((sw9 &&& 31)).toInt = 10 ∨ ((sw9 &&& 31)).toInt = 11 ∨ ((sw9 &&& 31)).toInt = 12 ∨ ((sw9 &&& 31)).toInt = 13 ∨ ((sw9 &&& 31)).toInt = 14 ∨ ((sw9 &&& 31)).toInt = 15 ∨ ((sw9 &&& 31)).toInt = 16 ∨ ((sw9 &&& 31)).toInt = 17 ∨ ((sw9 &&& 31)).toInt = 18 ∨ ((sw9 &&& 31)).toInt = 19 by omega) with c4 | c4 | c4 | c4 | c4 | c4 | c4 | c4 | c4 | c4 | c4 | c4 | c4 | c4 | c4 | c4 | c4 | c4 | c4 | c4 | c4
    · refine lv_tableOut (tgt := 905) hx hb dL_law_39 c4 (by decide) ?_
      refine lv_iinc (v := (nI (5 * n) + 5)) (lv' := [(4, .int (nI (5 * n) + 5)), (3, .ref oa), (2, .ref mo), (1, .ref o), (0, .ref b)]) hx hb dL_law_905 hl (k := 0) rfl rfl (by decide) rfl (fun ls hl => ?_)
      refine lv_goto (tgt := 23) hx hb dL_law_908 (by decide) ?_
      rw [show nI (5 * n) + 5 = nI (5 * (n + 1)) from nI_add (5 * n) 5] at hl
      refine W.widen (k := 127 + (n + 1) * 121) (n := 403300 + (n + 1) * 4086) (by omega) (by omega) ?_
      exact ih (n + 1, Mj) _ _ _ ⟨by show n + 1 ≤ 512; omega, hLI, hm, hS, hl⟩ (by show 512 - (n + 1) < 512 - n; omega)
    · refine lv_tableIn (off := 93) (tgt := 132) hx hb dL_law_39 (by omega) (by omega) (by rw [c4]; rfl) (by decide) ?_
      refine LC_begin l hlt C0 D k z hz hz2 hcxN o mo oa _ (127 + n * 121) (403300 + n * 4086) (5 * n) (by omega) (by omega) hi5 hL hLI hm hS (lv_sub hl [0, 1, 2, 3, 4] rfl) ?_
      clear hLI hm hS hl
      intro Mk H locs ls hLI hm hS hl
      refine lv_iinc (v := (nI (5 * n) + 5)) (lv' := [(4, .int (nI (5 * n) + 5)), (3, .ref oa), (2, .ref mo), (1, .ref o), (0, .ref b)]) hx hb dL_law_905 hl (k := 0) rfl rfl (by decide) rfl (fun ls hl => ?_)
      refine lv_goto (tgt := 23) hx hb dL_law_908 (by decide) ?_
      rw [show nI (5 * n) + 5 = nI (5 * (n + 1)) from nI_add (5 * n) 5] at hl
      refine W.widen (k := 127 + (n + 1) * 121) (n := 403300 + (n + 1) * 4086) (by omega) (by omega) ?_
      exact ih (n + 1, Mk) _ _ _ ⟨by show n + 1 ≤ 512; omega, hLI, hm, hS, hl⟩ (by show 512 - (n + 1) < 512 - n; omega)
    · refine lv_tableIn (off := 109) (tgt := 148) hx hb dL_law_39 (by omega) (by omega) (by rw [c4]; rfl) (by decide) ?_
      refine LC_drop l hlt C0 D k z hz hz2 hcxN o mo oa _ (127 + n * 121) (403300 + n * 4086) (5 * n) (by omega) (by omega) hi5 hL hLI hm hS (lv_sub hl [0, 1, 2, 3, 4] rfl) ?_
      clear hLI hm hS hl
      intro Mk H locs ls hLI hm hS hl
      refine lv_iinc (v := (nI (5 * n) + 5)) (lv' := [(4, .int (nI (5 * n) + 5)), (3, .ref oa), (2, .ref mo), (1, .ref o), (0, .ref b)]) hx hb dL_law_905 hl (k := 0) rfl rfl (by decide) rfl (fun ls hl => ?_)
      refine lv_goto (tgt := 23) hx hb dL_law_908 (by decide) ?_
      rw [show nI (5 * n) + 5 = nI (5 * (n + 1)) from nI_add (5 * n) 5] at hl
      refine W.widen (k := 127 + (n + 1) * 121) (n := 403300 + (n + 1) * 4086) (by omega) (by omega) ?_
      exact ih (n + 1, Mk) _ _ _ ⟨by show n + 1 ≤ 512; omega, hLI, hm, hS, hl⟩ (by show 512 - (n + 1) < 512 - n; omega)
    · refine lv_tableIn (off := 137) (tgt := 176) hx hb dL_law_39 (by omega) (by omega) (by rw [c4]; rfl) (by decide) ?_
      refine LC_commit l hlt C0 D k z hz hz2 hcxN o mo oa _ (127 + n * 121) (403300 + n * 4086) (5 * n) (by omega) (by omega) hi5 hL hLI hm hS (lv_sub hl [0, 1, 2, 3, 4] rfl) ?_
      clear hLI hm hS hl
      intro Mk H locs ls hLI hm hS hl
      refine lv_iinc (v := (nI (5 * n) + 5)) (lv' := [(4, .int (nI (5 * n) + 5)), (3, .ref oa), (2, .ref mo), (1, .ref o), (0, .ref b)]) hx hb dL_law_905 hl (k := 0) rfl rfl (by decide) rfl (fun ls hl => ?_)
      refine lv_goto (tgt := 23) hx hb dL_law_908 (by decide) ?_
      rw [show nI (5 * n) + 5 = nI (5 * (n + 1)) from nI_add (5 * n) 5] at hl
      refine W.widen (k := 127 + (n + 1) * 121) (n := 403300 + (n + 1) * 4086) (by omega) (by omega) ?_
      exact ih (n + 1, Mk) _ _ _ ⟨by show n + 1 ≤ 512; omega, hLI, hm, hS, hl⟩ (by show 512 - (n + 1) < 512 - n; omega)
    · refine lv_tableIn (off := 165) (tgt := 204) hx hb dL_law_39 (by omega) (by omega) (by rw [c4]; rfl) (by decide) ?_
      refine LC_check l hlt C0 D k z hz hz2 hcxN o mo oa _ (127 + n * 121) (403300 + n * 4086) (5 * n) (by omega) (by omega) hi5 hL hLI hm hS (lv_sub hl [0, 1, 2, 3, 4] rfl) ?_
      clear hLI hm hS hl
      intro Mk H locs ls hLI hm hS hl
      refine lv_iinc (v := (nI (5 * n) + 5)) (lv' := [(4, .int (nI (5 * n) + 5)), (3, .ref oa), (2, .ref mo), (1, .ref o), (0, .ref b)]) hx hb dL_law_905 hl (k := 0) rfl rfl (by decide) rfl (fun ls hl => ?_)
      refine lv_goto (tgt := 23) hx hb dL_law_908 (by decide) ?_
      rw [show nI (5 * n) + 5 = nI (5 * (n + 1)) from nI_add (5 * n) 5] at hl
      refine W.widen (k := 127 + (n + 1) * 121) (n := 403300 + (n + 1) * 4086) (by omega) (by omega) ?_
      exact ih (n + 1, Mk) _ _ _ ⟨by show n + 1 ≤ 512; omega, hLI, hm, hS, hl⟩ (by show 512 - (n + 1) < 512 - n; omega)
    · refine lv_tableIn (off := 193) (tgt := 232) hx hb dL_law_39 (by omega) (by omega) (by rw [c4]; rfl) (by decide) ?_
      refine LC_make l hlt C0 D k z hz hz2 hcxN o mo oa _ (127 + n * 121) (403300 + n * 4086) (5 * n) (by omega) (by omega) hi5 hL hLI hm hS (lv_sub hl [0, 1, 2, 3, 4] rfl) ?_
      clear hLI hm hS hl
      intro Mk H locs ls hLI hm hS hl
      refine lv_iinc (v := (nI (5 * n) + 5)) (lv' := [(4, .int (nI (5 * n) + 5)), (3, .ref oa), (2, .ref mo), (1, .ref o), (0, .ref b)]) hx hb dL_law_905 hl (k := 0) rfl rfl (by decide) rfl (fun ls hl => ?_)
      refine lv_goto (tgt := 23) hx hb dL_law_908 (by decide) ?_
      rw [show nI (5 * n) + 5 = nI (5 * (n + 1)) from nI_add (5 * n) 5] at hl
      refine W.widen (k := 127 + (n + 1) * 121) (n := 403300 + (n + 1) * 4086) (by omega) (by omega) ?_
      exact ih (n + 1, Mk) _ _ _ ⟨by show n + 1 ≤ 512; omega, hLI, hm, hS, hl⟩ (by show 512 - (n + 1) < 512 - n; omega)
    · refine lv_tableIn (off := 258) (tgt := 297) hx hb dL_law_39 (by omega) (by omega) (by rw [c4]; rfl) (by decide) ?_
      refine LC_remove l hlt C0 D k z hz hz2 hcxN o mo oa _ (127 + n * 121) (403300 + n * 4086) (5 * n) (by omega) (by omega) hi5 hL hLI hm hS (lv_sub hl [0, 1, 2, 3, 4] rfl) ?_
      clear hLI hm hS hl
      intro Mk H locs ls hLI hm hS hl
      refine lv_iinc (v := (nI (5 * n) + 5)) (lv' := [(4, .int (nI (5 * n) + 5)), (3, .ref oa), (2, .ref mo), (1, .ref o), (0, .ref b)]) hx hb dL_law_905 hl (k := 0) rfl rfl (by decide) rfl (fun ls hl => ?_)
      refine lv_goto (tgt := 23) hx hb dL_law_908 (by decide) ?_
      rw [show nI (5 * n) + 5 = nI (5 * (n + 1)) from nI_add (5 * n) 5] at hl
      refine W.widen (k := 127 + (n + 1) * 121) (n := 403300 + (n + 1) * 4086) (by omega) (by omega) ?_
      exact ih (n + 1, Mk) _ _ _ ⟨by show n + 1 ≤ 512; omega, hLI, hm, hS, hl⟩ (by show 512 - (n + 1) < 512 - n; omega)
    · refine lv_tableIn (off := 298) (tgt := 337) hx hb dL_law_39 (by omega) (by omega) (by rw [c4]; rfl) (by decide) ?_
      refine LC_move l hlt C0 D k z hz hz2 hcxN o mo oa _ (127 + n * 121) (403300 + n * 4086) (5 * n) (by omega) (by omega) hi5 hL hLI hm hS (lv_sub hl [0, 1, 2, 3, 4] rfl) ?_
      clear hLI hm hS hl
      intro Mk H locs ls hLI hm hS hl
      refine lv_iinc (v := (nI (5 * n) + 5)) (lv' := [(4, .int (nI (5 * n) + 5)), (3, .ref oa), (2, .ref mo), (1, .ref o), (0, .ref b)]) hx hb dL_law_905 hl (k := 0) rfl rfl (by decide) rfl (fun ls hl => ?_)
      refine lv_goto (tgt := 23) hx hb dL_law_908 (by decide) ?_
      rw [show nI (5 * n) + 5 = nI (5 * (n + 1)) from nI_add (5 * n) 5] at hl
      refine W.widen (k := 127 + (n + 1) * 121) (n := 403300 + (n + 1) * 4086) (by omega) (by omega) ?_
      exact ih (n + 1, Mk) _ _ _ ⟨by show n + 1 ≤ 512; omega, hLI, hm, hS, hl⟩ (by show 512 - (n + 1) < 512 - n; omega)
    · refine lv_tableIn (off := 350) (tgt := 389) hx hb dL_law_39 (by omega) (by omega) (by rw [c4]; rfl) (by decide) ?_
      refine LC_write l hlt C0 D k z hz hz2 hcxN o mo oa _ (127 + n * 121) (403300 + n * 4086) (5 * n) (by omega) (by omega) hi5 hL hLI hm hS (lv_sub hl [0, 1, 2, 3, 4] rfl) ?_
      clear hLI hm hS hl
      intro Mk H locs ls hLI hm hS hl
      refine lv_iinc (v := (nI (5 * n) + 5)) (lv' := [(4, .int (nI (5 * n) + 5)), (3, .ref oa), (2, .ref mo), (1, .ref o), (0, .ref b)]) hx hb dL_law_905 hl (k := 0) rfl rfl (by decide) rfl (fun ls hl => ?_)
      refine lv_goto (tgt := 23) hx hb dL_law_908 (by decide) ?_
      rw [show nI (5 * n) + 5 = nI (5 * (n + 1)) from nI_add (5 * n) 5] at hl
      refine W.widen (k := 127 + (n + 1) * 121) (n := 403300 + (n + 1) * 4086) (by omega) (by omega) ?_
      exact ih (n + 1, Mk) _ _ _ ⟨by show n + 1 ≤ 512; omega, hLI, hm, hS, hl⟩ (by show 512 - (n + 1) < 512 - n; omega)
    · refine lv_tableIn (off := 414) (tgt := 453) hx hb dL_law_39 (by omega) (by omega) (by rw [c4]; rfl) (by decide) ?_
      refine LC_append l hlt C0 D k z hz hz2 hcxN o mo oa _ (127 + n * 121) (403300 + n * 4086) (5 * n) (by omega) (by omega) hi5 hL hLI hm hS (lv_sub hl [0, 1, 2, 3, 4] rfl) ?_
      clear hLI hm hS hl
      intro Mk H locs ls hLI hm hS hl
      refine lv_iinc (v := (nI (5 * n) + 5)) (lv' := [(4, .int (nI (5 * n) + 5)), (3, .ref oa), (2, .ref mo), (1, .ref o), (0, .ref b)]) hx hb dL_law_905 hl (k := 0) rfl rfl (by decide) rfl (fun ls hl => ?_)
      refine lv_goto (tgt := 23) hx hb dL_law_908 (by decide) ?_
      rw [show nI (5 * n) + 5 = nI (5 * (n + 1)) from nI_add (5 * n) 5] at hl
      refine W.widen (k := 127 + (n + 1) * 121) (n := 403300 + (n + 1) * 4086) (by omega) (by omega) ?_
      exact ih (n + 1, Mk) _ _ _ ⟨by show n + 1 ≤ 512; omega, hLI, hm, hS, hl⟩ (by show 512 - (n + 1) < 512 - n; omega)
    · refine lv_tableIn (off := 466) (tgt := 505) hx hb dL_law_39 (by omega) (by omega) (by rw [c4]; rfl) (by decide) ?_
      refine LC_cut l hlt C0 D k z hz hz2 hcxN o mo oa _ (127 + n * 121) (403300 + n * 4086) (5 * n) (by omega) (by omega) hi5 hL hLI hm hS (lv_sub hl [0, 1, 2, 3, 4] rfl) ?_
      clear hLI hm hS hl
      intro Mk H locs ls hLI hm hS hl
      refine lv_iinc (v := (nI (5 * n) + 5)) (lv' := [(4, .int (nI (5 * n) + 5)), (3, .ref oa), (2, .ref mo), (1, .ref o), (0, .ref b)]) hx hb dL_law_905 hl (k := 0) rfl rfl (by decide) rfl (fun ls hl => ?_)
      refine lv_goto (tgt := 23) hx hb dL_law_908 (by decide) ?_
      rw [show nI (5 * n) + 5 = nI (5 * (n + 1)) from nI_add (5 * n) 5] at hl
      refine W.widen (k := 127 + (n + 1) * 121) (n := 403300 + (n + 1) * 4086) (by omega) (by omega) ?_
      exact ih (n + 1, Mk) _ _ _ ⟨by show n + 1 ≤ 512; omega, hLI, hm, hS, hl⟩ (by show 512 - (n + 1) < 512 - n; omega)
    · refine lv_tableIn (off := 518) (tgt := 557) hx hb dL_law_39 (by omega) (by omega) (by rw [c4]; rfl) (by decide) ?_
      refine LC_read l hlt C0 D k z hz hz2 hcxN o mo oa _ (127 + n * 121) (403300 + n * 4086) (5 * n) (by omega) (by omega) hi5 hL hLI hm hS (lv_sub hl [0, 1, 2, 3, 4] rfl) ?_
      clear hLI hm hS hl
      intro Mk H locs ls hLI hm hS hl
      refine lv_iinc (v := (nI (5 * n) + 5)) (lv' := [(4, .int (nI (5 * n) + 5)), (3, .ref oa), (2, .ref mo), (1, .ref o), (0, .ref b)]) hx hb dL_law_905 hl (k := 0) rfl rfl (by decide) rfl (fun ls hl => ?_)
      refine lv_goto (tgt := 23) hx hb dL_law_908 (by decide) ?_
      rw [show nI (5 * n) + 5 = nI (5 * (n + 1)) from nI_add (5 * n) 5] at hl
      refine W.widen (k := 127 + (n + 1) * 121) (n := 403300 + (n + 1) * 4086) (by omega) (by omega) ?_
      exact ih (n + 1, Mk) _ _ _ ⟨by show n + 1 ≤ 512; omega, hLI, hm, hS, hl⟩ (by show 512 - (n + 1) < 512 - n; omega)
    · refine lv_tableIn (off := 570) (tgt := 609) hx hb dL_law_39 (by omega) (by omega) (by rw [c4]; rfl) (by decide) ?_
      refine LC_length l hlt C0 D k z hz hz2 hcxN o mo oa _ (127 + n * 121) (403300 + n * 4086) (5 * n) (by omega) (by omega) hi5 hL hLI hm hS (lv_sub hl [0, 1, 2, 3, 4] rfl) ?_
      clear hLI hm hS hl
      intro Mk H locs ls hLI hm hS hl
      refine lv_iinc (v := (nI (5 * n) + 5)) (lv' := [(4, .int (nI (5 * n) + 5)), (3, .ref oa), (2, .ref mo), (1, .ref o), (0, .ref b)]) hx hb dL_law_905 hl (k := 0) rfl rfl (by decide) rfl (fun ls hl => ?_)
      refine lv_goto (tgt := 23) hx hb dL_law_908 (by decide) ?_
      rw [show nI (5 * n) + 5 = nI (5 * (n + 1)) from nI_add (5 * n) 5] at hl
      refine W.widen (k := 127 + (n + 1) * 121) (n := 403300 + (n + 1) * 4086) (by omega) (by omega) ?_
      exact ih (n + 1, Mk) _ _ _ ⟨by show n + 1 ≤ 512; omega, hLI, hm, hS, hl⟩ (by show 512 - (n + 1) < 512 - n; omega)
    · refine lv_tableIn (off := 610) (tgt := 649) hx hb dL_law_39 (by omega) (by omega) (by rw [c4]; rfl) (by decide) ?_
      refine LC_kind l hlt C0 D k z hz hz2 hcxN o mo oa _ (127 + n * 121) (403300 + n * 4086) (5 * n) (by omega) (by omega) hi5 hL hLI hm hS (lv_sub hl [0, 1, 2, 3, 4] rfl) ?_
      clear hLI hm hS hl
      intro Mk H locs ls hLI hm hS hl
      refine lv_iinc (v := (nI (5 * n) + 5)) (lv' := [(4, .int (nI (5 * n) + 5)), (3, .ref oa), (2, .ref mo), (1, .ref o), (0, .ref b)]) hx hb dL_law_905 hl (k := 0) rfl rfl (by decide) rfl (fun ls hl => ?_)
      refine lv_goto (tgt := 23) hx hb dL_law_908 (by decide) ?_
      rw [show nI (5 * n) + 5 = nI (5 * (n + 1)) from nI_add (5 * n) 5] at hl
      refine W.widen (k := 127 + (n + 1) * 121) (n := 403300 + (n + 1) * 4086) (by omega) (by omega) ?_
      exact ih (n + 1, Mk) _ _ _ ⟨by show n + 1 ≤ 512; omega, hLI, hm, hS, hl⟩ (by show 512 - (n + 1) < 512 - n; omega)
    · refine lv_tableIn (off := 650) (tgt := 689) hx hb dL_law_39 (by omega) (by omega) (by rw [c4]; rfl) (by decide) ?_
      refine LC_list l hlt C0 D k z hz hz2 hcxN o mo oa _ (127 + n * 121) (403300 + n * 4086) (5 * n) (by omega) (by omega) hi5 hL hLI hm hS (lv_sub hl [0, 1, 2, 3, 4] rfl) ?_
      clear hLI hm hS hl
      intro Mk H locs ls hLI hm hS hl
      refine lv_iinc (v := (nI (5 * n) + 5)) (lv' := [(4, .int (nI (5 * n) + 5)), (3, .ref oa), (2, .ref mo), (1, .ref o), (0, .ref b)]) hx hb dL_law_905 hl (k := 0) rfl rfl (by decide) rfl (fun ls hl => ?_)
      refine lv_goto (tgt := 23) hx hb dL_law_908 (by decide) ?_
      rw [show nI (5 * n) + 5 = nI (5 * (n + 1)) from nI_add (5 * n) 5] at hl
      refine W.widen (k := 127 + (n + 1) * 121) (n := 403300 + (n + 1) * 4086) (by omega) (by omega) ?_
      exact ih (n + 1, Mk) _ _ _ ⟨by show n + 1 ≤ 512; omega, hLI, hm, hS, hl⟩ (by show 512 - (n + 1) < 512 - n; omega)
    · refine lv_tableIn (off := 690) (tgt := 729) hx hb dL_law_39 (by omega) (by omega) (by rw [c4]; rfl) (by decide) ?_
      refine LC_mark l hlt C0 D k z hz hz2 hcxN o mo oa _ (127 + n * 121) (403300 + n * 4086) (5 * n) (by omega) (by omega) hi5 hL hLI hm hS (lv_sub hl [0, 1, 2, 3, 4] rfl) ?_
      clear hLI hm hS hl
      intro Mk H locs ls hLI hm hS hl
      refine lv_iinc (v := (nI (5 * n) + 5)) (lv' := [(4, .int (nI (5 * n) + 5)), (3, .ref oa), (2, .ref mo), (1, .ref o), (0, .ref b)]) hx hb dL_law_905 hl (k := 0) rfl rfl (by decide) rfl (fun ls hl => ?_)
      refine lv_goto (tgt := 23) hx hb dL_law_908 (by decide) ?_
      rw [show nI (5 * n) + 5 = nI (5 * (n + 1)) from nI_add (5 * n) 5] at hl
      refine W.widen (k := 127 + (n + 1) * 121) (n := 403300 + (n + 1) * 4086) (by omega) (by omega) ?_
      exact ih (n + 1, Mk) _ _ _ ⟨by show n + 1 ≤ 512; omega, hLI, hm, hS, hl⟩ (by show 512 - (n + 1) < 512 - n; omega)
    · refine lv_tableIn (off := 718) (tgt := 757) hx hb dL_law_39 (by omega) (by omega) (by rw [c4]; rfl) (by decide) ?_
      refine LC_back l hlt C0 D k z hz hz2 hcxN o mo oa _ (127 + n * 121) (403300 + n * 4086) (5 * n) (by omega) (by omega) hi5 hL hLI hm hS (lv_sub hl [0, 1, 2, 3, 4] rfl) ?_
      clear hLI hm hS hl
      intro Mk H locs ls hLI hm hS hl
      refine lv_iinc (v := (nI (5 * n) + 5)) (lv' := [(4, .int (nI (5 * n) + 5)), (3, .ref oa), (2, .ref mo), (1, .ref o), (0, .ref b)]) hx hb dL_law_905 hl (k := 0) rfl rfl (by decide) rfl (fun ls hl => ?_)
      refine lv_goto (tgt := 23) hx hb dL_law_908 (by decide) ?_
      rw [show nI (5 * n) + 5 = nI (5 * (n + 1)) from nI_add (5 * n) 5] at hl
      refine W.widen (k := 127 + (n + 1) * 121) (n := 403300 + (n + 1) * 4086) (by omega) (by omega) ?_
      exact ih (n + 1, Mk) _ _ _ ⟨by show n + 1 ≤ 512; omega, hLI, hm, hS, hl⟩ (by show 512 - (n + 1) < 512 - n; omega)
    · refine lv_tableIn (off := 746) (tgt := 785) hx hb dL_law_39 (by omega) (by omega) (by rw [c4]; rfl) (by decide) ?_
      refine LC_about l hlt C0 D k z hz hz2 hcxN o mo oa _ (127 + n * 121) (403300 + n * 4086) (5 * n) (by omega) (by omega) hi5 hL hLI hm hS (lv_sub hl [0, 1, 2, 3, 4] rfl) ?_
      clear hLI hm hS hl
      intro Mk H locs ls hLI hm hS hl
      refine lv_iinc (v := (nI (5 * n) + 5)) (lv' := [(4, .int (nI (5 * n) + 5)), (3, .ref oa), (2, .ref mo), (1, .ref o), (0, .ref b)]) hx hb dL_law_905 hl (k := 0) rfl rfl (by decide) rfl (fun ls hl => ?_)
      refine lv_goto (tgt := 23) hx hb dL_law_908 (by decide) ?_
      rw [show nI (5 * n) + 5 = nI (5 * (n + 1)) from nI_add (5 * n) 5] at hl
      refine W.widen (k := 127 + (n + 1) * 121) (n := 403300 + (n + 1) * 4086) (by omega) (by omega) ?_
      exact ih (n + 1, Mk) _ _ _ ⟨by show n + 1 ≤ 512; omega, hLI, hm, hS, hl⟩ (by show 512 - (n + 1) < 512 - n; omega)
    · refine lv_tableIn (off := 786) (tgt := 825) hx hb dL_law_39 (by omega) (by omega) (by rw [c4]; rfl) (by decide) ?_
      refine LC_power l hlt C0 D k z hz hz2 hcxN o mo oa _ (127 + n * 121) (403300 + n * 4086) (5 * n) (by omega) (by omega) hi5 hL hLI hm hS (lv_sub hl [0, 1, 2, 3, 4] rfl) ?_
      clear hLI hm hS hl
      intro Mk H locs ls hLI hm hS hl
      refine lv_iinc (v := (nI (5 * n) + 5)) (lv' := [(4, .int (nI (5 * n) + 5)), (3, .ref oa), (2, .ref mo), (1, .ref o), (0, .ref b)]) hx hb dL_law_905 hl (k := 0) rfl rfl (by decide) rfl (fun ls hl => ?_)
      refine lv_goto (tgt := 23) hx hb dL_law_908 (by decide) ?_
      rw [show nI (5 * n) + 5 = nI (5 * (n + 1)) from nI_add (5 * n) 5] at hl
      refine W.widen (k := 127 + (n + 1) * 121) (n := 403300 + (n + 1) * 4086) (by omega) (by omega) ?_
      exact ih (n + 1, Mk) _ _ _ ⟨by show n + 1 ≤ 512; omega, hLI, hm, hS, hl⟩ (by show 512 - (n + 1) < 512 - n; omega)
    · refine lv_tableIn (off := 822) (tgt := 861) hx hb dL_law_39 (by omega) (by omega) (by rw [c4]; rfl) (by decide) ?_
      refine LC_recover l hlt C0 D k z hz hz2 hcxN o mo oa _ (127 + n * 121) (403300 + n * 4086) (5 * n) (by omega) (by omega) hi5 hL hLI hm hS (lv_sub hl [0, 1, 2, 3, 4] rfl) ?_
      clear hLI hm hS hl
      intro Mk H locs ls hLI hm hS hl
      refine lv_iinc (v := (nI (5 * n) + 5)) (lv' := [(4, .int (nI (5 * n) + 5)), (3, .ref oa), (2, .ref mo), (1, .ref o), (0, .ref b)]) hx hb dL_law_905 hl (k := 0) rfl rfl (by decide) rfl (fun ls hl => ?_)
      refine lv_goto (tgt := 23) hx hb dL_law_908 (by decide) ?_
      rw [show nI (5 * n) + 5 = nI (5 * (n + 1)) from nI_add (5 * n) 5] at hl
      refine W.widen (k := 127 + (n + 1) * 121) (n := 403300 + (n + 1) * 4086) (by omega) (by omega) ?_
      exact ih (n + 1, Mk) _ _ _ ⟨by show n + 1 ≤ 512; omega, hLI, hm, hS, hl⟩ (by show 512 - (n + 1) < 512 - n; omega)
    · refine lv_tableIn (off := 838) (tgt := 877) hx hb dL_law_39 (by omega) (by omega) (by rw [c4]; rfl) (by decide) ?_
      refine LC_count l hlt C0 D k z hz hz2 hcxN o mo oa _ (127 + n * 121) (403300 + n * 4086) (5 * n) (by omega) (by omega) hi5 hL hLI hm hS (lv_sub hl [0, 1, 2, 3, 4] rfl) ?_
      clear hLI hm hS hl
      intro Mk H locs ls hLI hm hS hl
      refine lv_iinc (v := (nI (5 * n) + 5)) (lv' := [(4, .int (nI (5 * n) + 5)), (3, .ref oa), (2, .ref mo), (1, .ref o), (0, .ref b)]) hx hb dL_law_905 hl (k := 0) rfl rfl (by decide) rfl (fun ls hl => ?_)
      refine lv_goto (tgt := 23) hx hb dL_law_908 (by decide) ?_
      rw [show nI (5 * n) + 5 = nI (5 * (n + 1)) from nI_add (5 * n) 5] at hl
      refine W.widen (k := 127 + (n + 1) * 121) (n := 403300 + (n + 1) * 4086) (by omega) (by omega) ?_
      exact ih (n + 1, Mk) _ _ _ ⟨by show n + 1 ≤ 512; omega, hLI, hm, hS, hl⟩ (by show 512 - (n + 1) < 512 - n; omega)
