set_option maxHeartbeats 4000000 in
set_option maxRecDepth 100000 in
theorem LC_begin {p : Program} {e : Env} {s : State} {m : MethodId} {below : List Frame} {meth : Method} {c : Code} (l : Launch) (hlt : l.stackTraces = false) {b L : Nat} {xs : Nat → Int32} (C0 : lw_At p s m meth c b L xs) (D : va_G) (k : Nat → ClassId) (z : Nat) (hz : z ≤ s.heap.size) (hz2 : s.heap.size ≤ z) (hcxN : cxN D k (AZ z) s) (o mo oa : Nat) (M : mM) {H : Heap} {locs : List Loc} {ls : Array Slot} (cc9 ss9 i5 : Nat) (hcc : cc9 + 121 ≤ 601024) (hss : ss9 + 4086 ≤ 7293034) (hi5 : i5 + 5 ≤ L) (hL : L ≤ 2560) (hLI : LI k M o mo oa) (hm : mm D (AZ z) M H) (hS : va_S (AZ z) s.heap H locs) (hl : lv_has ls 7 [(4, .int (nI i5)), (3, .ref oa), (2, .ref mo), (1, .ref o), (0, .ref b)])
    (kk : ∀ (M9 : mM) (H9 : Heap) (locs9 : List Loc) (ls9 : Array Slot), LI k M9 o mo oa → mm D (AZ z) M9 H9 → va_S (AZ z) s.heap H9 locs9 → lv_has ls9 7 [(4, .int (nI i5)), (3, .ref oa), (2, .ref mo), (1, .ref o), (0, .ref b)] → W p l e room_1 s m #[Value.ref b] below meth c H9 locs9 (cc9 + 121) (ss9 + 4086) (lw_Z below #[Value.ref b] s) (F0 m 905 ls9 [])) : W p l e room_1 s m #[Value.ref b] below meth c H locs cc9 ss9 (lw_Z below #[Value.ref b] s) (F0 m 132 ls []) := by
  obtain ⟨hx, hb, hr, hml, hown, hts0, hX, hbl, hlocks, hgv⟩ := id C0
  have hts : ∀ w ∈ wsL_law, w.before #[Value.ref b] s = true := fun w h => hts0 w (wl_in w h)
  have hcx := hcxN.1
  have hK := hcx.1
  have hA : ∀ q, s.heap.size ≤ q → AZ z q := fun q h => Nat.le_trans hz h
  have hbA : ¬ AZ z b := fun h => absurd (Nat.le_trans hz2 h) (Nat.not_le.mpr hbl)
  obtain ⟨κ, cn, ia, dr, en, la, wo, op, mk, ir, se, ec, lc, wc, ol, al, dn, md, hT, hko, hkoa, hI, hbd, hof⟩ := hLI
  refine lv_aload_n hx hb dL_law_132 rfl (lv_at hl 3 rfl) ?_
  refine lv_aload_n hx hb dL_law_133 rfl (lv_at hl 1 rfl) ?_
  refine m_kSW (hh := [(0, 8, 11, 13), (0, 8, 14, 15)]) (As := [.ref o, .ref oa]) (rest := []) (rm := { frames := 7, cells := 1, slots := 6, locals := 104 }) ⟨hx, hb, hml, hown, hts⟩ (h_L_begin l hlt D k z _ _ o  oa hko hkoa hT) (vx_cwSW 2 hts gL_law_L_begin rfl rfl rfl (by decide +kernel) ⟨Nat.le_of_ble_eq_true rfl, Nat.le_of_ble_eq_true rfl⟩) hz hcxN hm hS rfl hl.1 rfl (Nat.le_of_ble_eq_true rfl) dL_law_134 ⟨(show cc9 + 1 ≤ 601024 by omega), (show ss9 + 6 ≤ 7293034 by omega)⟩ (fun v M1 H locs hv hm hS => ?_)
  obtain ⟨κ1, hT1, hx1, hv1⟩ := hv
  obtain ⟨Mc1, hMx⟩ : ∃ x : mM, x = M1 := ⟨M1, rfl⟩
  subst hMx
  have hof1 := hI.off hx1 hof
  have hI := hI.mv hx1 hof
  have hof := hof1
  have hko := hx1.k hT hko
  have hkoa := hx1.k hT hkoa
  have hT := hT1
  obtain ⟨κ, hκ⟩ : ∃ x, x = κ1 := ⟨_, rfl⟩
  subst hκ
  obtain ⟨w1, hv1⟩ := hv1
  subst hv1
  refine W.eq (g2 := F0 m 137 ls [.int w1]) rfl ?_
  refine W.widen (k := cc9 + 1) (n := ss9 + 6) (Nat.le_refl _) (Nat.le_refl _) ?_
  refine lv_istore (lv' := [(5, .int w1), (4, .int (nI i5)), (3, .ref oa), (2, .ref mo), (1, .ref o), (0, .ref b)]) hx hb dL_law_137 hl (by decide) rfl (fun ls hl => ?_)
  refine lv_aload_n hx hb dL_law_139 rfl (lv_at hl 3 rfl) ?_
  obtain ⟨_, _, _, _, _, _, _, _, _, _, _, _, _, _, _, _, _, _, _, _, _, _, -, hMob, -⟩ := id hI
  refine m_kV (As := []) (rest := []) (rm := { frames := 2, cells := 0, slots := 0, locals := 46 }) ⟨hx, hb, hml, hown, hts⟩ (s_X6_begin l D k z _ mo cn ia dr en la wo op mk ir se ec lc wc ol al dn md  hbd hI) (cwV 0 hts gL_law_X6_begin rfl rfl rfl (by decide +kernel) ⟨Nat.le_of_ble_eq_true rfl, Nat.le_of_ble_eq_true rfl⟩) (m_recv hK hm (q := (RX6, TX6, 24)) rfl hMob) hz hcx hm hS rfl hl.1 rfl (Nat.le_of_ble_eq_true rfl) dL_law_140 ⟨(show cc9 + 1 + 0 ≤ 601024 by omega), (show ss9 + 6 + 0 ≤ 7293034 by omega)⟩ (fun v M1 H locs hv hm hS => ?_)
  obtain ⟨hv1, hI9, hk9⟩ := hv
  obtain ⟨Mc2, hMx⟩ : ∃ x : mM, x = M1 := ⟨M1, rfl⟩
  subst hMx
  have hT := hT.kp hk9 hof
  have hI := hI9
  obtain ⟨w2, hv1⟩ := hv1
  subst hv1
  refine W.eq (g2 := F0 m 143 ls [.int w2]) rfl ?_
  refine W.widen (k := cc9 + 1) (n := ss9 + 6) (Nat.le_refl _) (Nat.le_refl _) ?_
  refine lv_istore (lv' := [(6, .int w2), (5, .int w1), (4, .int (nI i5)), (3, .ref oa), (2, .ref mo), (1, .ref o), (0, .ref b)]) hx hb dL_law_143 hl (by decide) rfl (fun ls hl => ?_)
  refine lv_goto (tgt := 905) hx hb dL_law_145 (by decide) ?_
  refine W.widen (k := cc9 + 121) (n := ss9 + 4086) (by omega) (by omega) ?_
  exact kk _ _ _ _ ⟨κ, cn, ia, dr, en, la, wo, op, mk, ir, se, ec, lc, wc, ol, al, dn, md, hT, hko, hkoa, hI, hbd, hof⟩ hm hS (lv_sub hl [2, 3, 4, 5, 6] rfl)

set_option maxHeartbeats 4000000 in
set_option maxRecDepth 100000 in
theorem LC_drop {p : Program} {e : Env} {s : State} {m : MethodId} {below : List Frame} {meth : Method} {c : Code} (l : Launch) (hlt : l.stackTraces = false) {b L : Nat} {xs : Nat → Int32} (C0 : lw_At p s m meth c b L xs) (D : va_G) (k : Nat → ClassId) (z : Nat) (hz : z ≤ s.heap.size) (hz2 : s.heap.size ≤ z) (hcxN : cxN D k (AZ z) s) (o mo oa : Nat) (M : mM) {H : Heap} {locs : List Loc} {ls : Array Slot} (cc9 ss9 i5 : Nat) (hcc : cc9 + 121 ≤ 601024) (hss : ss9 + 4086 ≤ 7293034) (hi5 : i5 + 5 ≤ L) (hL : L ≤ 2560) (hLI : LI k M o mo oa) (hm : mm D (AZ z) M H) (hS : va_S (AZ z) s.heap H locs) (hl : lv_has ls 7 [(4, .int (nI i5)), (3, .ref oa), (2, .ref mo), (1, .ref o), (0, .ref b)])
    (kk : ∀ (M9 : mM) (H9 : Heap) (locs9 : List Loc) (ls9 : Array Slot), LI k M9 o mo oa → mm D (AZ z) M9 H9 → va_S (AZ z) s.heap H9 locs9 → lv_has ls9 7 [(4, .int (nI i5)), (3, .ref oa), (2, .ref mo), (1, .ref o), (0, .ref b)] → W p l e room_1 s m #[Value.ref b] below meth c H9 locs9 (cc9 + 121) (ss9 + 4086) (lw_Z below #[Value.ref b] s) (F0 m 905 ls9 [])) : W p l e room_1 s m #[Value.ref b] below meth c H locs cc9 ss9 (lw_Z below #[Value.ref b] s) (F0 m 148 ls []) := by
  obtain ⟨hx, hb, hr, hml, hown, hts0, hX, hbl, hlocks, hgv⟩ := id C0
  have hts : ∀ w ∈ wsL_law, w.before #[Value.ref b] s = true := fun w h => hts0 w (wl_in w h)
  have hcx := hcxN.1
  have hK := hcx.1
  have hA : ∀ q, s.heap.size ≤ q → AZ z q := fun q h => Nat.le_trans hz h
  have hbA : ¬ AZ z b := fun h => absurd (Nat.le_trans hz2 h) (Nat.not_le.mpr hbl)
  obtain ⟨κ, cn, ia, dr, en, la, wo, op, mk, ir, se, ec, lc, wc, ol, al, dn, md, hT, hko, hkoa, hI, hbd, hof⟩ := hLI
  refine lv_aload_n hx hb dL_law_148 rfl (lv_at hl 3 rfl) ?_
  refine lv_aload_n hx hb dL_law_149 rfl (lv_at hl 4 rfl) ?_
  refine lv_iload hx hb dL_law_150 (lv_at hl 0 rfl) ?_
  refine lv_iconst (v := 1) hx hb dL_law_152 (by decide) ?_
  refine lv_iadd hx hb dL_law_153 ?_
  refine W.eq (g2 := F0 m 154 ls [.int (nI (i5 + 1)), .ref b, .ref o]) (by rw [show (((nI i5)) + (1) : Int32) = nI (i5 + 1) from nI_add i5 1]) ?_
  refine va_sld hx hb hX hbl hbA hS (vp_in_nI (by omega) (by omega)) dL_law_154 ?_
  refine W.eq (g2 := F0 m 155 ls [.int (xs (i5 + 1)), .ref o]) (by rw [nI_clamp (by omega)]) ?_
  refine lv_aload_n hx hb dL_law_155 rfl (lv_at hl 1 rfl) ?_
  refine m_kSW (hh := [(0, 9, 12, 13)]) (As := [.ref o, .int (xs (i5 + 1)), .ref oa]) (rest := []) (rm := { frames := 8, cells := 1, slots := 6, locals := 126 }) ⟨hx, hb, hml, hown, hts⟩ (h_L_drop l hlt D k z _ _ o (xs (i5 + 1)) oa hko hkoa hT) (vx_cwSW 3 hts gL_law_L_drop rfl rfl rfl (by decide +kernel) ⟨Nat.le_of_ble_eq_true rfl, Nat.le_of_ble_eq_true rfl⟩) hz hcxN hm hS rfl hl.1 rfl (Nat.le_of_ble_eq_true rfl) dL_law_156 ⟨(show cc9 + 1 ≤ 601024 by omega), (show ss9 + 6 ≤ 7293034 by omega)⟩ (fun v M1 H locs hv hm hS => ?_)
  obtain ⟨κ1, hT1, hx1, hv1⟩ := hv
  obtain ⟨Mc1, hMx⟩ : ∃ x : mM, x = M1 := ⟨M1, rfl⟩
  subst hMx
  have hof1 := hI.off hx1 hof
  have hI := hI.mv hx1 hof
  have hof := hof1
  have hko := hx1.k hT hko
  have hkoa := hx1.k hT hkoa
  have hT := hT1
  obtain ⟨κ, hκ⟩ : ∃ x, x = κ1 := ⟨_, rfl⟩
  subst hκ
  obtain ⟨w2, hv1⟩ := hv1
  subst hv1
  refine W.eq (g2 := F0 m 159 ls [.int w2]) rfl ?_
  refine W.widen (k := cc9 + 1) (n := ss9 + 6) (Nat.le_refl _) (Nat.le_refl _) ?_
  refine lv_istore (lv' := [(5, .int w2), (4, .int (nI i5)), (3, .ref oa), (2, .ref mo), (1, .ref o), (0, .ref b)]) hx hb dL_law_159 hl (by decide) rfl (fun ls hl => ?_)
  refine lv_aload_n hx hb dL_law_161 rfl (lv_at hl 3 rfl) ?_
  refine lv_aload_n hx hb dL_law_162 rfl (lv_at hl 5 rfl) ?_
  refine lv_iload hx hb dL_law_163 (lv_at hl 1 rfl) ?_
  refine lv_iconst (v := 1) hx hb dL_law_165 (by decide) ?_
  refine lv_iadd hx hb dL_law_166 ?_
  refine W.eq (g2 := F0 m 167 ls [.int (nI (i5 + 1)), .ref b, .ref mo]) (by rw [show (((nI i5)) + (1) : Int32) = nI (i5 + 1) from nI_add i5 1]) ?_
  refine va_sld hx hb hX hbl hbA hS (vp_in_nI (by omega) (by omega)) dL_law_167 ?_
  refine W.eq (g2 := F0 m 168 ls [.int (xs (i5 + 1)), .ref mo]) (by rw [nI_clamp (by omega)]) ?_
  obtain ⟨_, _, _, _, _, _, _, _, _, _, _, _, _, _, _, _, _, _, _, _, _, _, -, hMob, -⟩ := id hI
  refine m_kV (As := [.int (xs (i5 + 1))]) (rest := []) (rm := { frames := 1, cells := 0, slots := 0, locals := 23 }) ⟨hx, hb, hml, hown, hts⟩ (s_X6_drop l D k z _ mo cn ia dr en la wo op mk ir se ec lc wc ol al dn md (xs (i5 + 1)) hbd hI) (cwV 1 hts gL_law_X6_drop rfl rfl rfl (by decide +kernel) ⟨Nat.le_of_ble_eq_true rfl, Nat.le_of_ble_eq_true rfl⟩) (m_recv hK hm (q := (RX6, TX6, 24)) rfl hMob) hz hcx hm hS rfl hl.1 rfl (Nat.le_of_ble_eq_true rfl) dL_law_168 ⟨(show cc9 + 1 + 0 ≤ 601024 by omega), (show ss9 + 6 + 0 ≤ 7293034 by omega)⟩ (fun v M1 H locs hv hm hS => ?_)
  obtain ⟨hv1, hI9, hk9⟩ := hv
  obtain ⟨Mc2, hMx⟩ : ∃ x : mM, x = M1 := ⟨M1, rfl⟩
  subst hMx
  have hT := hT.kp hk9 hof
  have hI := hI9
  obtain ⟨w4, hv1⟩ := hv1
  subst hv1
  refine W.eq (g2 := F0 m 171 ls [.int w4]) rfl ?_
  refine W.widen (k := cc9 + 1) (n := ss9 + 6) (Nat.le_refl _) (Nat.le_refl _) ?_
  refine lv_istore (lv' := [(6, .int w4), (5, .int w2), (4, .int (nI i5)), (3, .ref oa), (2, .ref mo), (1, .ref o), (0, .ref b)]) hx hb dL_law_171 hl (by decide) rfl (fun ls hl => ?_)
  refine lv_goto (tgt := 905) hx hb dL_law_173 (by decide) ?_
  refine W.widen (k := cc9 + 121) (n := ss9 + 4086) (by omega) (by omega) ?_
  exact kk _ _ _ _ ⟨κ, cn, ia, dr, en, la, wo, op, mk, ir, se, ec, lc, wc, ol, al, dn, md, hT, hko, hkoa, hI, hbd, hof⟩ hm hS (lv_sub hl [2, 3, 4, 5, 6] rfl)

set_option maxHeartbeats 4000000 in
set_option maxRecDepth 100000 in
theorem LC_commit {p : Program} {e : Env} {s : State} {m : MethodId} {below : List Frame} {meth : Method} {c : Code} (l : Launch) (hlt : l.stackTraces = false) {b L : Nat} {xs : Nat → Int32} (C0 : lw_At p s m meth c b L xs) (D : va_G) (k : Nat → ClassId) (z : Nat) (hz : z ≤ s.heap.size) (hz2 : s.heap.size ≤ z) (hcxN : cxN D k (AZ z) s) (o mo oa : Nat) (M : mM) {H : Heap} {locs : List Loc} {ls : Array Slot} (cc9 ss9 i5 : Nat) (hcc : cc9 + 121 ≤ 601024) (hss : ss9 + 4086 ≤ 7293034) (hi5 : i5 + 5 ≤ L) (hL : L ≤ 2560) (hLI : LI k M o mo oa) (hm : mm D (AZ z) M H) (hS : va_S (AZ z) s.heap H locs) (hl : lv_has ls 7 [(4, .int (nI i5)), (3, .ref oa), (2, .ref mo), (1, .ref o), (0, .ref b)])
    (kk : ∀ (M9 : mM) (H9 : Heap) (locs9 : List Loc) (ls9 : Array Slot), LI k M9 o mo oa → mm D (AZ z) M9 H9 → va_S (AZ z) s.heap H9 locs9 → lv_has ls9 7 [(4, .int (nI i5)), (3, .ref oa), (2, .ref mo), (1, .ref o), (0, .ref b)] → W p l e room_1 s m #[Value.ref b] below meth c H9 locs9 (cc9 + 121) (ss9 + 4086) (lw_Z below #[Value.ref b] s) (F0 m 905 ls9 [])) : W p l e room_1 s m #[Value.ref b] below meth c H locs cc9 ss9 (lw_Z below #[Value.ref b] s) (F0 m 176 ls []) := by
  obtain ⟨hx, hb, hr, hml, hown, hts0, hX, hbl, hlocks, hgv⟩ := id C0
  have hts : ∀ w ∈ wsL_law, w.before #[Value.ref b] s = true := fun w h => hts0 w (wl_in w h)
  have hcx := hcxN.1
  have hK := hcx.1
  have hA : ∀ q, s.heap.size ≤ q → AZ z q := fun q h => Nat.le_trans hz h
  have hbA : ¬ AZ z b := fun h => absurd (Nat.le_trans hz2 h) (Nat.not_le.mpr hbl)
  obtain ⟨κ, cn, ia, dr, en, la, wo, op, mk, ir, se, ec, lc, wc, ol, al, dn, md, hT, hko, hkoa, hI, hbd, hof⟩ := hLI
  refine lv_aload_n hx hb dL_law_176 rfl (lv_at hl 3 rfl) ?_
  refine lv_aload_n hx hb dL_law_177 rfl (lv_at hl 4 rfl) ?_
  refine lv_iload hx hb dL_law_178 (lv_at hl 0 rfl) ?_
  refine lv_iconst (v := 1) hx hb dL_law_180 (by decide) ?_
  refine lv_iadd hx hb dL_law_181 ?_
  refine W.eq (g2 := F0 m 182 ls [.int (nI (i5 + 1)), .ref b, .ref o]) (by rw [show (((nI i5)) + (1) : Int32) = nI (i5 + 1) from nI_add i5 1]) ?_
  refine va_sld hx hb hX hbl hbA hS (vp_in_nI (by omega) (by omega)) dL_law_182 ?_
  refine W.eq (g2 := F0 m 183 ls [.int (xs (i5 + 1)), .ref o]) (by rw [nI_clamp (by omega)]) ?_
  refine lv_aload_n hx hb dL_law_183 rfl (lv_at hl 1 rfl) ?_
  refine m_kSW (hh := [(0, 9, 12, 13)]) (As := [.ref o, .int (xs (i5 + 1)), .ref oa]) (rest := []) (rm := { frames := 8, cells := 121, slots := 4086, locals := 167 }) ⟨hx, hb, hml, hown, hts⟩ (h_L_commit l hlt D k z _ _ o (xs (i5 + 1)) oa hko hkoa hT) (vx_cwSW 3 hts gL_law_L_commit rfl rfl rfl (by decide +kernel) ⟨Nat.le_of_ble_eq_true rfl, Nat.le_of_ble_eq_true rfl⟩) hz hcxN hm hS rfl hl.1 rfl (Nat.le_of_ble_eq_true rfl) dL_law_184 ⟨(show cc9 + 121 ≤ 601024 by omega), (show ss9 + 4086 ≤ 7293034 by omega)⟩ (fun v M1 H locs hv hm hS => ?_)
  obtain ⟨κ1, hT1, hx1, hv1⟩ := hv
  obtain ⟨Mc1, hMx⟩ : ∃ x : mM, x = M1 := ⟨M1, rfl⟩
  subst hMx
  have hof1 := hI.off hx1 hof
  have hI := hI.mv hx1 hof
  have hof := hof1
  have hko := hx1.k hT hko
  have hkoa := hx1.k hT hkoa
  have hT := hT1
  obtain ⟨κ, hκ⟩ : ∃ x, x = κ1 := ⟨_, rfl⟩
  subst hκ
  obtain ⟨w2, hv1⟩ := hv1
  subst hv1
  refine W.eq (g2 := F0 m 187 ls [.int w2]) rfl ?_
  refine W.widen (k := cc9 + 121) (n := ss9 + 4086) (Nat.le_refl _) (Nat.le_refl _) ?_
  refine lv_istore (lv' := [(5, .int w2), (4, .int (nI i5)), (3, .ref oa), (2, .ref mo), (1, .ref o), (0, .ref b)]) hx hb dL_law_187 hl (by decide) rfl (fun ls hl => ?_)
  refine lv_aload_n hx hb dL_law_189 rfl (lv_at hl 3 rfl) ?_
  refine lv_aload_n hx hb dL_law_190 rfl (lv_at hl 5 rfl) ?_
  refine lv_iload hx hb dL_law_191 (lv_at hl 1 rfl) ?_
  refine lv_iconst (v := 1) hx hb dL_law_193 (by decide) ?_
  refine lv_iadd hx hb dL_law_194 ?_
  refine W.eq (g2 := F0 m 195 ls [.int (nI (i5 + 1)), .ref b, .ref mo]) (by rw [show (((nI i5)) + (1) : Int32) = nI (i5 + 1) from nI_add i5 1]) ?_
  refine va_sld hx hb hX hbl hbA hS (vp_in_nI (by omega) (by omega)) dL_law_195 ?_
  refine W.eq (g2 := F0 m 196 ls [.int (xs (i5 + 1)), .ref mo]) (by rw [nI_clamp (by omega)]) ?_
  obtain ⟨_, _, _, _, _, _, _, _, _, _, _, _, _, _, _, _, _, _, _, _, _, _, -, hMob, -⟩ := id hI
  refine m_kV (As := [.int (xs (i5 + 1))]) (rest := []) (rm := { frames := 4, cells := 0, slots := 0, locals := 97 }) ⟨hx, hb, hml, hown, hts⟩ (s_X6_commit l D k z _ mo cn ia dr en la wo op mk ir se ec lc wc ol al dn md (xs (i5 + 1)) hbd hI) (cwV 1 hts gL_law_X6_commit rfl rfl rfl (by decide +kernel) ⟨Nat.le_of_ble_eq_true rfl, Nat.le_of_ble_eq_true rfl⟩) (m_recv hK hm (q := (RX6, TX6, 24)) rfl hMob) hz hcx hm hS rfl hl.1 rfl (Nat.le_of_ble_eq_true rfl) dL_law_196 ⟨(show cc9 + 121 + 0 ≤ 601024 by omega), (show ss9 + 4086 + 0 ≤ 7293034 by omega)⟩ (fun v M1 H locs hv hm hS => ?_)
  obtain ⟨hv1, ⟨dn9, md9, hI9, hbd9⟩, hk9⟩ := hv
  obtain ⟨Mc2, hMx⟩ : ∃ x : mM, x = M1 := ⟨M1, rfl⟩
  subst hMx
  have hT := hT.kp hk9 hof
  obtain ⟨dn, hdn9⟩ : ∃ x, x = dn9 := ⟨_, rfl⟩
  obtain ⟨md, hmd9⟩ : ∃ x, x = md9 := ⟨_, rfl⟩
  subst hdn9
  subst hmd9
  have hbd := hbd9
  have hI := hI9
  obtain ⟨w4, hv1⟩ := hv1
  subst hv1
  refine W.eq (g2 := F0 m 199 ls [.int w4]) rfl ?_
  refine W.widen (k := cc9 + 121) (n := ss9 + 4086) (Nat.le_refl _) (Nat.le_refl _) ?_
  refine lv_istore (lv' := [(6, .int w4), (5, .int w2), (4, .int (nI i5)), (3, .ref oa), (2, .ref mo), (1, .ref o), (0, .ref b)]) hx hb dL_law_199 hl (by decide) rfl (fun ls hl => ?_)
  refine lv_goto (tgt := 905) hx hb dL_law_201 (by decide) ?_
  refine W.widen (k := cc9 + 121) (n := ss9 + 4086) (by omega) (by omega) ?_
  exact kk _ _ _ _ ⟨κ, cn, ia, dr, en, la, wo, op, mk, ir, se, ec, lc, wc, ol, al, dn, md, hT, hko, hkoa, hI, hbd, hof⟩ hm hS (lv_sub hl [2, 3, 4, 5, 6] rfl)

set_option maxHeartbeats 4000000 in
set_option maxRecDepth 100000 in
theorem LC_check {p : Program} {e : Env} {s : State} {m : MethodId} {below : List Frame} {meth : Method} {c : Code} (l : Launch) (hlt : l.stackTraces = false) {b L : Nat} {xs : Nat → Int32} (C0 : lw_At p s m meth c b L xs) (D : va_G) (k : Nat → ClassId) (z : Nat) (hz : z ≤ s.heap.size) (hz2 : s.heap.size ≤ z) (hcxN : cxN D k (AZ z) s) (o mo oa : Nat) (M : mM) {H : Heap} {locs : List Loc} {ls : Array Slot} (cc9 ss9 i5 : Nat) (hcc : cc9 + 121 ≤ 601024) (hss : ss9 + 4086 ≤ 7293034) (hi5 : i5 + 5 ≤ L) (hL : L ≤ 2560) (hLI : LI k M o mo oa) (hm : mm D (AZ z) M H) (hS : va_S (AZ z) s.heap H locs) (hl : lv_has ls 7 [(4, .int (nI i5)), (3, .ref oa), (2, .ref mo), (1, .ref o), (0, .ref b)])
    (kk : ∀ (M9 : mM) (H9 : Heap) (locs9 : List Loc) (ls9 : Array Slot), LI k M9 o mo oa → mm D (AZ z) M9 H9 → va_S (AZ z) s.heap H9 locs9 → lv_has ls9 7 [(4, .int (nI i5)), (3, .ref oa), (2, .ref mo), (1, .ref o), (0, .ref b)] → W p l e room_1 s m #[Value.ref b] below meth c H9 locs9 (cc9 + 121) (ss9 + 4086) (lw_Z below #[Value.ref b] s) (F0 m 905 ls9 [])) : W p l e room_1 s m #[Value.ref b] below meth c H locs cc9 ss9 (lw_Z below #[Value.ref b] s) (F0 m 204 ls []) := by
  obtain ⟨hx, hb, hr, hml, hown, hts0, hX, hbl, hlocks, hgv⟩ := id C0
  have hts : ∀ w ∈ wsL_law, w.before #[Value.ref b] s = true := fun w h => hts0 w (wl_in w h)
  have hcx := hcxN.1
  have hK := hcx.1
  have hA : ∀ q, s.heap.size ≤ q → AZ z q := fun q h => Nat.le_trans hz h
  have hbA : ¬ AZ z b := fun h => absurd (Nat.le_trans hz2 h) (Nat.not_le.mpr hbl)
  obtain ⟨κ, cn, ia, dr, en, la, wo, op, mk, ir, se, ec, lc, wc, ol, al, dn, md, hT, hko, hkoa, hI, hbd, hof⟩ := hLI
  refine lv_aload_n hx hb dL_law_204 rfl (lv_at hl 3 rfl) ?_
  refine lv_aload_n hx hb dL_law_205 rfl (lv_at hl 4 rfl) ?_
  refine lv_iload hx hb dL_law_206 (lv_at hl 0 rfl) ?_
  refine lv_iconst (v := 1) hx hb dL_law_208 (by decide) ?_
  refine lv_iadd hx hb dL_law_209 ?_
  refine W.eq (g2 := F0 m 210 ls [.int (nI (i5 + 1)), .ref b, .ref o]) (by rw [show (((nI i5)) + (1) : Int32) = nI (i5 + 1) from nI_add i5 1]) ?_
  refine va_sld hx hb hX hbl hbA hS (vp_in_nI (by omega) (by omega)) dL_law_210 ?_
  refine W.eq (g2 := F0 m 211 ls [.int (xs (i5 + 1)), .ref o]) (by rw [nI_clamp (by omega)]) ?_
  refine lv_aload_n hx hb dL_law_211 rfl (lv_at hl 1 rfl) ?_
  refine m_kSW (hh := [(0, 9, 12, 13)]) (As := [.ref o, .int (xs (i5 + 1)), .ref oa]) (rest := []) (rm := { frames := 8, cells := 1, slots := 6, locals := 165 }) ⟨hx, hb, hml, hown, hts⟩ (h_L_check l hlt D k z _ _ o (xs (i5 + 1)) oa hko hkoa hT) (vx_cwSW 3 hts gL_law_L_check rfl rfl rfl (by decide +kernel) ⟨Nat.le_of_ble_eq_true rfl, Nat.le_of_ble_eq_true rfl⟩) hz hcxN hm hS rfl hl.1 rfl (Nat.le_of_ble_eq_true rfl) dL_law_212 ⟨(show cc9 + 1 ≤ 601024 by omega), (show ss9 + 6 ≤ 7293034 by omega)⟩ (fun v M1 H locs hv hm hS => ?_)
  obtain ⟨κ1, hT1, hx1, hv1⟩ := hv
  obtain ⟨Mc1, hMx⟩ : ∃ x : mM, x = M1 := ⟨M1, rfl⟩
  subst hMx
  have hof1 := hI.off hx1 hof
  have hI := hI.mv hx1 hof
  have hof := hof1
  have hko := hx1.k hT hko
  have hkoa := hx1.k hT hkoa
  have hT := hT1
  obtain ⟨κ, hκ⟩ : ∃ x, x = κ1 := ⟨_, rfl⟩
  subst hκ
  obtain ⟨w2, hv1⟩ := hv1
  subst hv1
  refine W.eq (g2 := F0 m 215 ls [.int w2]) rfl ?_
  refine W.widen (k := cc9 + 1) (n := ss9 + 6) (Nat.le_refl _) (Nat.le_refl _) ?_
  refine lv_istore (lv' := [(5, .int w2), (4, .int (nI i5)), (3, .ref oa), (2, .ref mo), (1, .ref o), (0, .ref b)]) hx hb dL_law_215 hl (by decide) rfl (fun ls hl => ?_)
  refine lv_aload_n hx hb dL_law_217 rfl (lv_at hl 3 rfl) ?_
  refine lv_aload_n hx hb dL_law_218 rfl (lv_at hl 5 rfl) ?_
  refine lv_iload hx hb dL_law_219 (lv_at hl 1 rfl) ?_
  refine lv_iconst (v := 1) hx hb dL_law_221 (by decide) ?_
  refine lv_iadd hx hb dL_law_222 ?_
  refine W.eq (g2 := F0 m 223 ls [.int (nI (i5 + 1)), .ref b, .ref mo]) (by rw [show (((nI i5)) + (1) : Int32) = nI (i5 + 1) from nI_add i5 1]) ?_
  refine va_sld hx hb hX hbl hbA hS (vp_in_nI (by omega) (by omega)) dL_law_223 ?_
  refine W.eq (g2 := F0 m 224 ls [.int (xs (i5 + 1)), .ref mo]) (by rw [nI_clamp (by omega)]) ?_
  obtain ⟨_, _, _, _, _, _, _, _, _, _, _, _, _, _, _, _, _, _, _, _, _, _, -, hMob, -⟩ := id hI
  refine m_kV (As := [.int (xs (i5 + 1))]) (rest := []) (rm := { frames := 4, cells := 0, slots := 0, locals := 97 }) ⟨hx, hb, hml, hown, hts⟩ (s_X6_check l D k z _ mo cn ia dr en la wo op mk ir se ec lc wc ol al dn md (xs (i5 + 1)) hbd hI) (cwV 1 hts gL_law_X6_check rfl rfl rfl (by decide +kernel) ⟨Nat.le_of_ble_eq_true rfl, Nat.le_of_ble_eq_true rfl⟩) (m_recv hK hm (q := (RX6, TX6, 24)) rfl hMob) hz hcx hm hS rfl hl.1 rfl (Nat.le_of_ble_eq_true rfl) dL_law_224 ⟨(show cc9 + 1 + 0 ≤ 601024 by omega), (show ss9 + 6 + 0 ≤ 7293034 by omega)⟩ (fun v M1 H locs hv hm hS => ?_)
  obtain ⟨hv1, hI9, hk9⟩ := hv
  obtain ⟨Mc2, hMx⟩ : ∃ x : mM, x = M1 := ⟨M1, rfl⟩
  subst hMx
  have hT := hT.kp hk9 hof
  have hI := hI9
  obtain ⟨w4, hv1⟩ := hv1
  subst hv1
  refine W.eq (g2 := F0 m 227 ls [.int w4]) rfl ?_
  refine W.widen (k := cc9 + 1) (n := ss9 + 6) (Nat.le_refl _) (Nat.le_refl _) ?_
  refine lv_istore (lv' := [(6, .int w4), (5, .int w2), (4, .int (nI i5)), (3, .ref oa), (2, .ref mo), (1, .ref o), (0, .ref b)]) hx hb dL_law_227 hl (by decide) rfl (fun ls hl => ?_)
  refine lv_goto (tgt := 905) hx hb dL_law_229 (by decide) ?_
  refine W.widen (k := cc9 + 121) (n := ss9 + 4086) (by omega) (by omega) ?_
  exact kk _ _ _ _ ⟨κ, cn, ia, dr, en, la, wo, op, mk, ir, se, ec, lc, wc, ol, al, dn, md, hT, hko, hkoa, hI, hbd, hof⟩ hm hS (lv_sub hl [2, 3, 4, 5, 6] rfl)

set_option maxHeartbeats 4000000 in
set_option maxRecDepth 100000 in
theorem LC_make {p : Program} {e : Env} {s : State} {m : MethodId} {below : List Frame} {meth : Method} {c : Code} (l : Launch) (hlt : l.stackTraces = false) {b L : Nat} {xs : Nat → Int32} (C0 : lw_At p s m meth c b L xs) (D : va_G) (k : Nat → ClassId) (z : Nat) (hz : z ≤ s.heap.size) (hz2 : s.heap.size ≤ z) (hcxN : cxN D k (AZ z) s) (o mo oa : Nat) (M : mM) {H : Heap} {locs : List Loc} {ls : Array Slot} (cc9 ss9 i5 : Nat) (hcc : cc9 + 121 ≤ 601024) (hss : ss9 + 4086 ≤ 7293034) (hi5 : i5 + 5 ≤ L) (hL : L ≤ 2560) (hLI : LI k M o mo oa) (hm : mm D (AZ z) M H) (hS : va_S (AZ z) s.heap H locs) (hl : lv_has ls 7 [(4, .int (nI i5)), (3, .ref oa), (2, .ref mo), (1, .ref o), (0, .ref b)])
    (kk : ∀ (M9 : mM) (H9 : Heap) (locs9 : List Loc) (ls9 : Array Slot), LI k M9 o mo oa → mm D (AZ z) M9 H9 → va_S (AZ z) s.heap H9 locs9 → lv_has ls9 7 [(4, .int (nI i5)), (3, .ref oa), (2, .ref mo), (1, .ref o), (0, .ref b)] → W p l e room_1 s m #[Value.ref b] below meth c H9 locs9 (cc9 + 121) (ss9 + 4086) (lw_Z below #[Value.ref b] s) (F0 m 905 ls9 [])) : W p l e room_1 s m #[Value.ref b] below meth c H locs cc9 ss9 (lw_Z below #[Value.ref b] s) (F0 m 232 ls []) := by
  obtain ⟨hx, hb, hr, hml, hown, hts0, hX, hbl, hlocks, hgv⟩ := id C0
  have hts : ∀ w ∈ wsL_law, w.before #[Value.ref b] s = true := fun w h => hts0 w (wl_in w h)
  have hcx := hcxN.1
  have hK := hcx.1
  have hA : ∀ q, s.heap.size ≤ q → AZ z q := fun q h => Nat.le_trans hz h
  have hbA : ¬ AZ z b := fun h => absurd (Nat.le_trans hz2 h) (Nat.not_le.mpr hbl)
  obtain ⟨κ, cn, ia, dr, en, la, wo, op, mk, ir, se, ec, lc, wc, ol, al, dn, md, hT, hko, hkoa, hI, hbd, hof⟩ := hLI
  refine lv_aload_n hx hb dL_law_232 rfl (lv_at hl 3 rfl) ?_
  refine lv_aload_n hx hb dL_law_233 rfl (lv_at hl 4 rfl) ?_
  refine lv_iload hx hb dL_law_234 (lv_at hl 0 rfl) ?_
  refine lv_iconst (v := 1) hx hb dL_law_236 (by decide) ?_
  refine lv_iadd hx hb dL_law_237 ?_
  refine W.eq (g2 := F0 m 238 ls [.int (nI (i5 + 1)), .ref b, .ref o]) (by rw [show (((nI i5)) + (1) : Int32) = nI (i5 + 1) from nI_add i5 1]) ?_
  refine va_sld hx hb hX hbl hbA hS (vp_in_nI (by omega) (by omega)) dL_law_238 ?_
  refine W.eq (g2 := F0 m 239 ls [.int (xs (i5 + 1)), .ref o]) (by rw [nI_clamp (by omega)]) ?_
  refine lv_aload_n hx hb dL_law_239 rfl (lv_at hl 4 rfl) ?_
  refine lv_iload hx hb dL_law_240 (lv_at hl 0 rfl) ?_
  refine lv_iconst (v := 2) hx hb dL_law_242 (by decide) ?_
  refine lv_iadd hx hb dL_law_243 ?_
  refine W.eq (g2 := F0 m 244 ls [.int (nI (i5 + 2)), .ref b, .int (xs (i5 + 1)), .ref o]) (by rw [show (((nI i5)) + (2) : Int32) = nI (i5 + 2) from nI_add i5 2]) ?_
  refine va_sld hx hb hX hbl hbA hS (vp_in_nI (by omega) (by omega)) dL_law_244 ?_
  refine W.eq (g2 := F0 m 245 ls [.int (xs (i5 + 2)), .int (xs (i5 + 1)), .ref o]) (by rw [nI_clamp (by omega)]) ?_
  refine lv_aload_n hx hb dL_law_245 rfl (lv_at hl 4 rfl) ?_
  refine lv_iload hx hb dL_law_246 (lv_at hl 0 rfl) ?_
  refine lv_iconst (v := 3) hx hb dL_law_248 (by decide) ?_
  refine lv_iadd hx hb dL_law_249 ?_
  refine W.eq (g2 := F0 m 250 ls [.int (nI (i5 + 3)), .ref b, .int (xs (i5 + 2)), .int (xs (i5 + 1)), .ref o]) (by rw [show (((nI i5)) + (3) : Int32) = nI (i5 + 3) from nI_add i5 3]) ?_
  refine va_sld hx hb hX hbl hbA hS (vp_in_nI (by omega) (by omega)) dL_law_250 ?_
  refine W.eq (g2 := F0 m 251 ls [.int (xs (i5 + 3)), .int (xs (i5 + 2)), .int (xs (i5 + 1)), .ref o]) (by rw [nI_clamp (by omega)]) ?_
  refine lv_if_eq (tgt := 258) hx hb dL_law_251 (by decide) (fun c4 => ?_) (fun c4 => ?_)
  · refine lv_iconst (v := 0) hx hb dL_law_258 (by decide) ?_
    refine m_kSW (hh := [(0, 7, 10, 13), (0, 7, 14, 31), (0, 7, 18, 33), (0, 7, 22, 15)]) (As := [.ref o, .int (xs (i5 + 1)), .int (xs (i5 + 2)), .int 0]) (rest := []) (rm := { frames := 8, cells := 7, slots := 154, locals := 140 }) ⟨hx, hb, hml, hown, hts⟩ (h_L_makeRII0 l hlt D k z _ _ o (xs (i5 + 1)) (xs (i5 + 2))  hko  hT) (vx_cwSW 4 hts gL_law_L_make rfl rfl rfl (by decide +kernel) ⟨Nat.le_of_ble_eq_true rfl, Nat.le_of_ble_eq_true rfl⟩) hz hcxN hm hS rfl hl.1 rfl (Nat.le_of_ble_eq_true rfl) dL_law_259 ⟨(show cc9 + 7 ≤ 601024 by omega), (show ss9 + 154 ≤ 7293034 by omega)⟩ (fun v M1 H locs hv hm hS => ?_)
    obtain ⟨κ1, hT1, hx1, hv1⟩ := hv
    obtain ⟨Mc1, hMx⟩ : ∃ x : mM, x = M1 := ⟨M1, rfl⟩
    subst hMx
    have hof1 := hI.off hx1 hof
    have hI := hI.mv hx1 hof
    have hof := hof1
    have hko := hx1.k hT hko
    have hkoa := hx1.k hT hkoa
    have hT := hT1
    obtain ⟨κ, hκ⟩ : ∃ x, x = κ1 := ⟨_, rfl⟩
    subst hκ
    obtain ⟨w5, hv1⟩ := hv1
    subst hv1
    refine W.eq (g2 := F0 m 262 ls [.int w5]) rfl ?_
    refine W.widen (k := cc9 + 7) (n := ss9 + 154) (Nat.le_refl _) (Nat.le_refl _) ?_
    refine lv_istore (lv' := [(5, .int w5), (4, .int (nI i5)), (3, .ref oa), (2, .ref mo), (1, .ref o), (0, .ref b)]) hx hb dL_law_262 hl (by decide) rfl (fun ls hl => ?_)
    refine lv_aload_n hx hb dL_law_264 rfl (lv_at hl 3 rfl) ?_
    refine lv_aload_n hx hb dL_law_265 rfl (lv_at hl 5 rfl) ?_
    refine lv_iload hx hb dL_law_266 (lv_at hl 1 rfl) ?_
    refine lv_iconst (v := 1) hx hb dL_law_268 (by decide) ?_
    refine lv_iadd hx hb dL_law_269 ?_
    refine W.eq (g2 := F0 m 270 ls [.int (nI (i5 + 1)), .ref b, .ref mo]) (by rw [show (((nI i5)) + (1) : Int32) = nI (i5 + 1) from nI_add i5 1]) ?_
    refine va_sld hx hb hX hbl hbA hS (vp_in_nI (by omega) (by omega)) dL_law_270 ?_
    refine W.eq (g2 := F0 m 271 ls [.int (xs (i5 + 1)), .ref mo]) (by rw [nI_clamp (by omega)]) ?_
    refine lv_aload_n hx hb dL_law_271 rfl (lv_at hl 5 rfl) ?_
    refine lv_iload hx hb dL_law_272 (lv_at hl 1 rfl) ?_
    refine lv_iconst (v := 2) hx hb dL_law_274 (by decide) ?_
    refine lv_iadd hx hb dL_law_275 ?_
    refine W.eq (g2 := F0 m 276 ls [.int (nI (i5 + 2)), .ref b, .int (xs (i5 + 1)), .ref mo]) (by rw [show (((nI i5)) + (2) : Int32) = nI (i5 + 2) from nI_add i5 2]) ?_
    refine va_sld hx hb hX hbl hbA hS (vp_in_nI (by omega) (by omega)) dL_law_276 ?_
    refine W.eq (g2 := F0 m 277 ls [.int (xs (i5 + 2)), .int (xs (i5 + 1)), .ref mo]) (by rw [nI_clamp (by omega)]) ?_
    refine lv_aload_n hx hb dL_law_277 rfl (lv_at hl 5 rfl) ?_
    refine lv_iload hx hb dL_law_278 (lv_at hl 1 rfl) ?_
    refine lv_iconst (v := 3) hx hb dL_law_280 (by decide) ?_
    refine lv_iadd hx hb dL_law_281 ?_
    refine W.eq (g2 := F0 m 282 ls [.int (nI (i5 + 3)), .ref b, .int (xs (i5 + 2)), .int (xs (i5 + 1)), .ref mo]) (by rw [show (((nI i5)) + (3) : Int32) = nI (i5 + 3) from nI_add i5 3]) ?_
    refine va_sld hx hb hX hbl hbA hS (vp_in_nI (by omega) (by omega)) dL_law_282 ?_
    refine W.eq (g2 := F0 m 283 ls [.int (xs (i5 + 3)), .int (xs (i5 + 2)), .int (xs (i5 + 1)), .ref mo]) (by rw [nI_clamp (by omega)]) ?_
    refine lv_if_eq (tgt := 290) hx hb dL_law_283 (by decide) (fun c9 => ?_) (fun c9 => ?_)
    · refine lv_iconst (v := 0) hx hb dL_law_290 (by decide) ?_
      obtain ⟨_, _, _, _, _, _, _, _, _, _, _, _, _, _, _, _, _, _, _, _, _, _, -, hMob, -⟩ := id hI
      refine m_kV (As := [.int (xs (i5 + 1)), .int (xs (i5 + 2)), .int 0]) (rest := []) (rm := { frames := 5, cells := 0, slots := 0, locals := 119 }) ⟨hx, hb, hml, hown, hts⟩ (s_X6_make0 l D k z _ mo cn ia dr en la wo op mk ir se ec lc wc ol al dn md (xs (i5 + 1)) (xs (i5 + 2)) hbd hI) (cwV 3 hts gL_law_X6_make rfl rfl rfl (by decide +kernel) ⟨Nat.le_of_ble_eq_true rfl, Nat.le_of_ble_eq_true rfl⟩) (m_recv hK hm (q := (RX6, TX6, 24)) rfl hMob) hz hcx hm hS rfl hl.1 rfl (Nat.le_of_ble_eq_true rfl) dL_law_291 ⟨(show cc9 + 7 + 0 ≤ 601024 by omega), (show ss9 + 154 + 0 ≤ 7293034 by omega)⟩ (fun v M1 H locs hv hm hS => ?_)
      obtain ⟨hv1, hI9, hk9⟩ := hv
      obtain ⟨Mc2, hMx⟩ : ∃ x : mM, x = M1 := ⟨M1, rfl⟩
      subst hMx
      have hT := hT.kp hk9 hof
      have hI := hI9
      subst hv1
      refine W.eq (g2 := F0 m 294 ls []) rfl ?_
      refine W.widen (k := cc9 + 7) (n := ss9 + 154) (Nat.le_refl _) (Nat.le_refl _) ?_
      refine lv_goto (tgt := 905) hx hb dL_law_294 (by decide) ?_
      refine W.widen (k := cc9 + 121) (n := ss9 + 4086) (by omega) (by omega) ?_
      exact kk _ _ _ _ ⟨κ, cn, ia, dr, en, la, wo, op, mk, ir, se, ec, lc, wc, ol, al, dn, md, hT, hko, hkoa, hI, hbd, hof⟩ hm hS (lv_sub hl [1, 2, 3, 4, 5] rfl)
    · refine lv_iconst (v := 1) hx hb dL_law_286 (by decide) ?_
      refine lv_goto (tgt := 291) hx hb dL_law_287 (by decide) ?_
      obtain ⟨_, _, _, _, _, _, _, _, _, _, _, _, _, _, _, _, _, _, _, _, _, _, -, hMob, -⟩ := id hI
      refine m_kV (As := [.int (xs (i5 + 1)), .int (xs (i5 + 2)), .int 1]) (rest := []) (rm := { frames := 5, cells := 0, slots := 0, locals := 119 }) ⟨hx, hb, hml, hown, hts⟩ (s_X6_make1 l D k z _ mo cn ia dr en la wo op mk ir se ec lc wc ol al dn md (xs (i5 + 1)) (xs (i5 + 2)) hbd hI) (cwV 3 hts gL_law_X6_make rfl rfl rfl (by decide +kernel) ⟨Nat.le_of_ble_eq_true rfl, Nat.le_of_ble_eq_true rfl⟩) (m_recv hK hm (q := (RX6, TX6, 24)) rfl hMob) hz hcx hm hS rfl hl.1 rfl (Nat.le_of_ble_eq_true rfl) dL_law_291 ⟨(show cc9 + 7 + 0 ≤ 601024 by omega), (show ss9 + 154 + 0 ≤ 7293034 by omega)⟩ (fun v M1 H locs hv hm hS => ?_)
      obtain ⟨hv1, hI9, hk9⟩ := hv
      obtain ⟨Mc3, hMx⟩ : ∃ x : mM, x = M1 := ⟨M1, rfl⟩
      subst hMx
      have hT := hT.kp hk9 hof
      have hI := hI9
      subst hv1
      refine W.eq (g2 := F0 m 294 ls []) rfl ?_
      refine W.widen (k := cc9 + 7) (n := ss9 + 154) (Nat.le_refl _) (Nat.le_refl _) ?_
      refine lv_goto (tgt := 905) hx hb dL_law_294 (by decide) ?_
      refine W.widen (k := cc9 + 121) (n := ss9 + 4086) (by omega) (by omega) ?_
      exact kk _ _ _ _ ⟨κ, cn, ia, dr, en, la, wo, op, mk, ir, se, ec, lc, wc, ol, al, dn, md, hT, hko, hkoa, hI, hbd, hof⟩ hm hS (lv_sub hl [1, 2, 3, 4, 5] rfl)
  · refine lv_iconst (v := 1) hx hb dL_law_254 (by decide) ?_
    refine lv_goto (tgt := 259) hx hb dL_law_255 (by decide) ?_
    refine m_kSW (hh := [(0, 7, 10, 13), (0, 7, 14, 31), (0, 7, 18, 33), (0, 7, 22, 15)]) (As := [.ref o, .int (xs (i5 + 1)), .int (xs (i5 + 2)), .int 1]) (rest := []) (rm := { frames := 8, cells := 7, slots := 106, locals := 140 }) ⟨hx, hb, hml, hown, hts⟩ (h_L_makeRII1 l hlt D k z _ _ o (xs (i5 + 1)) (xs (i5 + 2))  hko  hT) (vx_cwSW 4 hts gL_law_L_make rfl rfl rfl (by decide +kernel) ⟨Nat.le_of_ble_eq_true rfl, Nat.le_of_ble_eq_true rfl⟩) hz hcxN hm hS rfl hl.1 rfl (Nat.le_of_ble_eq_true rfl) dL_law_259 ⟨(show cc9 + 7 ≤ 601024 by omega), (show ss9 + 106 ≤ 7293034 by omega)⟩ (fun v M1 H locs hv hm hS => ?_)
    obtain ⟨κ1, hT1, hx1, hv1⟩ := hv
    obtain ⟨Mc4, hMx⟩ : ∃ x : mM, x = M1 := ⟨M1, rfl⟩
    subst hMx
    have hof1 := hI.off hx1 hof
    have hI := hI.mv hx1 hof
    have hof := hof1
    have hko := hx1.k hT hko
    have hkoa := hx1.k hT hkoa
    have hT := hT1
    obtain ⟨κ, hκ⟩ : ∃ x, x = κ1 := ⟨_, rfl⟩
    subst hκ
    obtain ⟨w10, hv1⟩ := hv1
    subst hv1
    refine W.eq (g2 := F0 m 262 ls [.int w10]) rfl ?_
    refine W.widen (k := cc9 + 7) (n := ss9 + 106) (Nat.le_refl _) (Nat.le_refl _) ?_
    refine lv_istore (lv' := [(5, .int w10), (4, .int (nI i5)), (3, .ref oa), (2, .ref mo), (1, .ref o), (0, .ref b)]) hx hb dL_law_262 hl (by decide) rfl (fun ls hl => ?_)
    refine lv_aload_n hx hb dL_law_264 rfl (lv_at hl 3 rfl) ?_
    refine lv_aload_n hx hb dL_law_265 rfl (lv_at hl 5 rfl) ?_
    refine lv_iload hx hb dL_law_266 (lv_at hl 1 rfl) ?_
    refine lv_iconst (v := 1) hx hb dL_law_268 (by decide) ?_
    refine lv_iadd hx hb dL_law_269 ?_
    refine W.eq (g2 := F0 m 270 ls [.int (nI (i5 + 1)), .ref b, .ref mo]) (by rw [show (((nI i5)) + (1) : Int32) = nI (i5 + 1) from nI_add i5 1]) ?_
    refine va_sld hx hb hX hbl hbA hS (vp_in_nI (by omega) (by omega)) dL_law_270 ?_
    refine W.eq (g2 := F0 m 271 ls [.int (xs (i5 + 1)), .ref mo]) (by rw [nI_clamp (by omega)]) ?_
    refine lv_aload_n hx hb dL_law_271 rfl (lv_at hl 5 rfl) ?_
    refine lv_iload hx hb dL_law_272 (lv_at hl 1 rfl) ?_
    refine lv_iconst (v := 2) hx hb dL_law_274 (by decide) ?_
    refine lv_iadd hx hb dL_law_275 ?_
    refine W.eq (g2 := F0 m 276 ls [.int (nI (i5 + 2)), .ref b, .int (xs (i5 + 1)), .ref mo]) (by rw [show (((nI i5)) + (2) : Int32) = nI (i5 + 2) from nI_add i5 2]) ?_
    refine va_sld hx hb hX hbl hbA hS (vp_in_nI (by omega) (by omega)) dL_law_276 ?_
    refine W.eq (g2 := F0 m 277 ls [.int (xs (i5 + 2)), .int (xs (i5 + 1)), .ref mo]) (by rw [nI_clamp (by omega)]) ?_
    refine lv_aload_n hx hb dL_law_277 rfl (lv_at hl 5 rfl) ?_
    refine lv_iload hx hb dL_law_278 (lv_at hl 1 rfl) ?_
    refine lv_iconst (v := 3) hx hb dL_law_280 (by decide) ?_
    refine lv_iadd hx hb dL_law_281 ?_
    refine W.eq (g2 := F0 m 282 ls [.int (nI (i5 + 3)), .ref b, .int (xs (i5 + 2)), .int (xs (i5 + 1)), .ref mo]) (by rw [show (((nI i5)) + (3) : Int32) = nI (i5 + 3) from nI_add i5 3]) ?_
    refine va_sld hx hb hX hbl hbA hS (vp_in_nI (by omega) (by omega)) dL_law_282 ?_
    refine W.eq (g2 := F0 m 283 ls [.int (xs (i5 + 3)), .int (xs (i5 + 2)), .int (xs (i5 + 1)), .ref mo]) (by rw [nI_clamp (by omega)]) ?_
    refine lv_if_eq (tgt := 290) hx hb dL_law_283 (by decide) (fun c14 => ?_) (fun c14 => ?_)
    · refine lv_iconst (v := 0) hx hb dL_law_290 (by decide) ?_
      obtain ⟨_, _, _, _, _, _, _, _, _, _, _, _, _, _, _, _, _, _, _, _, _, _, -, hMob, -⟩ := id hI
      refine m_kV (As := [.int (xs (i5 + 1)), .int (xs (i5 + 2)), .int 0]) (rest := []) (rm := { frames := 5, cells := 0, slots := 0, locals := 119 }) ⟨hx, hb, hml, hown, hts⟩ (s_X6_make0 l D k z _ mo cn ia dr en la wo op mk ir se ec lc wc ol al dn md (xs (i5 + 1)) (xs (i5 + 2)) hbd hI) (cwV 3 hts gL_law_X6_make rfl rfl rfl (by decide +kernel) ⟨Nat.le_of_ble_eq_true rfl, Nat.le_of_ble_eq_true rfl⟩) (m_recv hK hm (q := (RX6, TX6, 24)) rfl hMob) hz hcx hm hS rfl hl.1 rfl (Nat.le_of_ble_eq_true rfl) dL_law_291 ⟨(show cc9 + 7 + 0 ≤ 601024 by omega), (show ss9 + 106 + 0 ≤ 7293034 by omega)⟩ (fun v M1 H locs hv hm hS => ?_)
      obtain ⟨hv1, hI9, hk9⟩ := hv
      obtain ⟨Mc5, hMx⟩ : ∃ x : mM, x = M1 := ⟨M1, rfl⟩
      subst hMx
      have hT := hT.kp hk9 hof
      have hI := hI9
      subst hv1
      refine W.eq (g2 := F0 m 294 ls []) rfl ?_
      refine W.widen (k := cc9 + 7) (n := ss9 + 106) (Nat.le_refl _) (Nat.le_refl _) ?_
      refine lv_goto (tgt := 905) hx hb dL_law_294 (by decide) ?_
      refine W.widen (k := cc9 + 121) (n := ss9 + 4086) (by omega) (by omega) ?_
      exact kk _ _ _ _ ⟨κ, cn, ia, dr, en, la, wo, op, mk, ir, se, ec, lc, wc, ol, al, dn, md, hT, hko, hkoa, hI, hbd, hof⟩ hm hS (lv_sub hl [1, 2, 3, 4, 5] rfl)
    · refine lv_iconst (v := 1) hx hb dL_law_286 (by decide) ?_
      refine lv_goto (tgt := 291) hx hb dL_law_287 (by decide) ?_
      obtain ⟨_, _, _, _, _, _, _, _, _, _, _, _, _, _, _, _, _, _, _, _, _, _, -, hMob, -⟩ := id hI
      refine m_kV (As := [.int (xs (i5 + 1)), .int (xs (i5 + 2)), .int 1]) (rest := []) (rm := { frames := 5, cells := 0, slots := 0, locals := 119 }) ⟨hx, hb, hml, hown, hts⟩ (s_X6_make1 l D k z _ mo cn ia dr en la wo op mk ir se ec lc wc ol al dn md (xs (i5 + 1)) (xs (i5 + 2)) hbd hI) (cwV 3 hts gL_law_X6_make rfl rfl rfl (by decide +kernel) ⟨Nat.le_of_ble_eq_true rfl, Nat.le_of_ble_eq_true rfl⟩) (m_recv hK hm (q := (RX6, TX6, 24)) rfl hMob) hz hcx hm hS rfl hl.1 rfl (Nat.le_of_ble_eq_true rfl) dL_law_291 ⟨(show cc9 + 7 + 0 ≤ 601024 by omega), (show ss9 + 106 + 0 ≤ 7293034 by omega)⟩ (fun v M1 H locs hv hm hS => ?_)
      obtain ⟨hv1, hI9, hk9⟩ := hv
      obtain ⟨Mc6, hMx⟩ : ∃ x : mM, x = M1 := ⟨M1, rfl⟩
      subst hMx
      have hT := hT.kp hk9 hof
      have hI := hI9
      subst hv1
      refine W.eq (g2 := F0 m 294 ls []) rfl ?_
      refine W.widen (k := cc9 + 7) (n := ss9 + 106) (Nat.le_refl _) (Nat.le_refl _) ?_
      refine lv_goto (tgt := 905) hx hb dL_law_294 (by decide) ?_
      refine W.widen (k := cc9 + 121) (n := ss9 + 4086) (by omega) (by omega) ?_
      exact kk _ _ _ _ ⟨κ, cn, ia, dr, en, la, wo, op, mk, ir, se, ec, lc, wc, ol, al, dn, md, hT, hko, hkoa, hI, hbd, hof⟩ hm hS (lv_sub hl [1, 2, 3, 4, 5] rfl)
