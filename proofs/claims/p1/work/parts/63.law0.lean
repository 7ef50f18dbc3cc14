theorem lg_self (x : Int64) : lg_cmp x x = 0 := by simp [lg_cmp]
set_option maxHeartbeats 4000000 in
set_option maxRecDepth 100000 in
/-- behind the one call: the loop ends, and the law answers true -/
theorem LC_end {p : Program} {e : Env} {s : State} {m : MethodId} {below : List Frame} {meth : Method} {c : Code} (l : Launch) (hlt : l.stackTraces = false) {b : Nat} {xs : Nat → Int32} (C0 : lw_At p s m meth c b 5 xs) (D : va_G) (k : Nat → ClassId) (z : Nat) (hz : z ≤ s.heap.size) (hz2 : s.heap.size ≤ z) (hcxN : cxN D k (AZ z) s) {H : Heap} {locs : List Loc} {ls : Array Slot} (hS : va_S (AZ z) s.heap H locs) (hl : lv_has ls 7 [(4, .int 0), (0, .ref b)]) : W p l e room_1 s m #[Value.ref b] below meth c H locs 160 406000 (lw_Z below #[Value.ref b] s) (F0 m 1434 ls []) := by
  obtain ⟨hx, hb, hr, hml, hown, hts0, hX, hbl, hlocks, hgv⟩ := id C0
  have hts : ∀ w ∈ wsL_law, w.before #[Value.ref b] s = true := fun w h => hts0 w (wl_in w h)
  have hcx := hcxN.1
  have hK := hcx.1
  have hA : ∀ q, s.heap.size ≤ q → AZ z q := fun q h => Nat.le_trans hz h
  have hbA : ¬ AZ z b := fun h => absurd (Nat.le_trans hz2 h) (Nat.not_le.mpr hbl)
  refine lv_iinc (v := 5) (lv' := [(4, .int 5), (0, .ref b)]) hx hb dL_law_1434 hl (k := 0) rfl rfl (by decide) rfl (fun ls hl => ?_)
  refine lv_goto (tgt := 23) hx hb dL_law_1437 (by decide) ?_
  refine lv_iload hx hb dL_law_23 (lv_at hl 0 rfl) ?_
  refine lv_aload_n hx hb dL_law_25 rfl (lv_at hl 1 rfl) ?_
  refine va_slen hx hb hX hbl hbA hS dL_law_26 ?_
  refine lv_iconst (v := 5) hx hb dL_law_27 (by decide) ?_
  refine lv_isub hx hb dL_law_28 ?_
  refine lv_icmp_gt (tgt := 1440) hx hb dL_law_29 (by decide) (fun c1 => ?_) (fun c1 => ?_)
  · refine lv_iconst (v := 1) hx hb dL_law_1440 (by decide) ?_
    refine va_forget (fun q hq => Nat.le_trans hz2 (hS.2.2 q hq)) ?_
    refine W.widen (k := 600002) (n := 7302232) (by decide) (by decide) ?_
    exact lw_ret hx hb hr hlocks dL_law_1441
  · exact absurd (by decide) c1

set_option maxHeartbeats 4000000 in
set_option maxRecDepth 100000 in
theorem LC_begin {p : Program} {e : Env} {s : State} {m : MethodId} {below : List Frame} {meth : Method} {c : Code} (l : Launch) (hlt : l.stackTraces = false) {b : Nat} {xs : Nat → Int32} (C0 : lw_At p s m meth c b 5 xs) (D : va_G) (k : Nat → ClassId) (z : Nat) (hz : z ≤ s.heap.size) (hz2 : s.heap.size ≤ z) (hcxN : cxN D k (AZ z) s) (o mo oa : Nat) (g9 : Nat → Int64) (M : mM) {H : Heap} {locs : List Loc} {ls : Array Slot} (hm : mm D (AZ z) M H) (hS : va_S (AZ z) s.heap H locs) (hF : cFr k M o) (hMo : mFr k M mo 0) (hoa : M oa = some (.inl (k 1, 1, .inr (.inl g9)))) (hl : lv_has ls 7 [(4, .int 0), (3, .ref oa), (2, .ref mo), (1, .ref o), (0, .ref b)]) : W p l e room_1 s m #[Value.ref b] below meth c H locs 138 404036 (lw_Z below #[Value.ref b] s) (F0 m 132 ls []) := by
  obtain ⟨hx, hb, hr, hml, hown, hts0, hX, hbl, hlocks, hgv⟩ := id C0
  have hts : ∀ w ∈ wsL_law, w.before #[Value.ref b] s = true := fun w h => hts0 w (wl_in w h)
  have hcx := hcxN.1
  have hK := hcx.1
  have hA : ∀ q, s.heap.size ≤ q → AZ z q := fun q h => Nat.le_trans hz h
  have hbA : ¬ AZ z b := fun h => absurd (Nat.le_trans hz2 h) (Nat.not_le.mpr hbl)
  refine lv_aload_n hx hb dL_law_132 rfl (lv_at hl 3 rfl) ?_
  refine lv_aload_n hx hb dL_law_133 rfl (lv_at hl 1 rfl) ?_
  refine m_kSW (hh := [(0, 8, 11, 13), (0, 8, 14, 15)]) (As := [.ref o, .ref oa]) (rest := []) (rm := { frames := 7, cells := 1, slots := 6, locals := 104 }) ⟨hx, hb, hml, hown, hts⟩ (H_begin l hlt D k z _ o oa g9 hF hoa ) (vx_cwSW 2 hts gL_law_L_begin rfl rfl rfl (by decide +kernel) ⟨Nat.le_of_ble_eq_true rfl, Nat.le_of_ble_eq_true rfl⟩) hz hcxN hm hS rfl hl.1 rfl (Nat.le_of_ble_eq_true rfl) dL_law_134 ⟨Nat.le_of_ble_eq_true rfl, Nat.le_of_ble_eq_true rfl⟩ (fun v M1 H locs hv hm hS => ?_)
  obtain ⟨Mc1, hMx⟩ : ∃ x : mM, x = M1 := ⟨M1, rfl⟩
  subst hMx
  obtain ⟨hv1, hk9, hO8⟩ := hv
  subst hv1
  have hMo := mFr_k2 hk9 hMo
  obtain ⟨g8, hO7, hg8⟩ := hO8
  refine W.eq (g2 := F0 m 137 ls [.int 0]) rfl ?_
  refine W.widen (k := 139) (n := 404042) (Nat.le_of_ble_eq_true rfl) (Nat.le_of_ble_eq_true rfl) ?_
  refine lv_istore (lv' := [(5, .int 0), (4, .int 0), (3, .ref oa), (2, .ref mo), (1, .ref o), (0, .ref b)]) hx hb dL_law_137 hl (by decide) rfl (fun ls hl => ?_)
  refine lv_aload_n hx hb dL_law_139 rfl (lv_at hl 3 rfl) ?_
  obtain ⟨xcn, xia, xdr, xen, xla, xwo, xop, xmk, xir, xse, xec, xlc, xwc, xol, xal, -, hMob, -⟩ := id hMo
  refine m_kV (As := []) (rest := []) (rm := { frames := 2, cells := 0, slots := 0, locals := 46 }) ⟨hx, hb, hml, hown, hts⟩ (cL_X6_begin l D k z _ mo hMo) (cwV 0 hts gL_law_X6_begin rfl rfl rfl (by decide +kernel) ⟨Nat.le_of_ble_eq_true rfl, Nat.le_of_ble_eq_true rfl⟩) (m_recv hK hm (q := (RX6, TX6, 24)) rfl hMob) hz hcx hm hS rfl hl.1 rfl (Nat.le_of_ble_eq_true rfl) dL_law_140 ⟨Nat.le_of_ble_eq_true rfl, Nat.le_of_ble_eq_true rfl⟩ (fun v M1 H locs hv hm hS => ?_)
  obtain ⟨hv1, hC9, hL9⟩ := hv
  subst hv1
  have hO6 := hL9 _ _ _ hO7
  obtain ⟨Mc2, hMx⟩ : ∃ x : mM, x = M1 := ⟨M1, rfl⟩
  subst hMx
  obtain ⟨fs9, hMc⟩ := hC9
  refine W.eq (g2 := F0 m 143 ls [.int 0]) rfl ?_
  refine W.widen (k := 139) (n := 404042) (Nat.le_of_ble_eq_true rfl) (Nat.le_of_ble_eq_true rfl) ?_
  refine lv_istore (lv' := [(6, .int 0), (5, .int 0), (4, .int 0), (3, .ref oa), (2, .ref mo), (1, .ref o), (0, .ref b)]) hx hb dL_law_143 hl (by decide) rfl (fun ls hl => ?_)
  refine lv_aload_n hx hb dL_law_145 rfl (lv_at hl 4 rfl) ?_
  refine m_kV (As := []) (rest := []) (rm := { frames := 0, cells := 0, slots := 0, locals := 0 }) ⟨hx, hb, hml, hown, hts⟩ (c_X6_thrown l D k z _ mo 0 fs9 hMc) (cwV 0 hts gL_law_X6_thrown rfl rfl rfl (by decide +kernel) ⟨Nat.le_of_ble_eq_true rfl, Nat.le_of_ble_eq_true rfl⟩) (m_recv hK hm (q := (RX6, TX6, 24)) rfl hMc) hz hcx hm hS rfl hl.1 rfl (Nat.le_of_ble_eq_true rfl) dL_law_146 ⟨Nat.le_of_ble_eq_true rfl, Nat.le_of_ble_eq_true rfl⟩ (fun v M1 H locs hv hm hS => ?_)
  obtain ⟨hv1, hM1⟩ := hv
  subst hv1
  rw [hM1] at hm
  refine W.eq (g2 := F0 m 149 ls [.int 0]) rfl ?_
  refine W.widen (k := 139) (n := 404042) (Nat.le_of_ble_eq_true rfl) (Nat.le_of_ble_eq_true rfl) ?_
  refine lv_iload hx hb dL_law_149 (lv_at hl 1 rfl) ?_
  refine lv_icmp_eq (tgt := 156) hx hb dL_law_151 (by decide) (fun c1 => ?_) (fun c1 => ?_)
  · refine lv_iload hx hb dL_law_156 (lv_at hl 1 rfl) ?_
    refine lv_if_ne (tgt := 173) hx hb dL_law_158 (by decide) (fun c2 => ?_) (fun c2 => ?_)
    · first | exact absurd c2 (by decide) | exact absurd (by decide) c2
    · refine lv_aload_n hx hb dL_law_161 rfl (lv_at hl 3 rfl) ?_
      refine lv_iconst (v := 0) hx hb dL_law_162 (by decide) ?_
      refine m_lald hx hb hK hm 1 hO6 rfl (by unfold vp_in; decide) dL_law_163 ?_
      refine lv_iload hx hb dL_law_164 (lv_at hl 0 rfl) ?_
      refine lv_i2l (v := (0).toInt64) hx hb dL_law_166 rfl ?_
      refine W.eq (g2 := F0 m 167 ls [.long 0, .long 0]) (by first | (rw [show g8 (0 : Int32).toNatClampNeg = 0 from hg8]; done) | (rw [show g8 (0 : Int32).toNatClampNeg = 0 from hg8]; rfl)) ?_
      refine W.lcmp hx hb dL_law_167 ?_
      refine lv_if_eq (tgt := 173) hx hb dL_law_168 (by decide) (fun c3 => ?_) (fun c3 => ?_)
      · refine lv_goto (tgt := 1434) hx hb dL_law_173 (by decide) ?_
        refine W.widen (k := 160) (n := 406000) (Nat.le_of_ble_eq_true rfl) (Nat.le_of_ble_eq_true rfl) ?_
        exact LC_end l hlt C0 D k z hz hz2 hcxN hS (lv_sub hl [2, 6] rfl)
      · exact absurd (lg_self _) c3
  · first | exact absurd c1 (by decide) | exact absurd (by decide) c1

set_option maxHeartbeats 4000000 in
set_option maxRecDepth 100000 in
theorem LC_drop {p : Program} {e : Env} {s : State} {m : MethodId} {below : List Frame} {meth : Method} {c : Code} (l : Launch) (hlt : l.stackTraces = false) {b : Nat} {xs : Nat → Int32} (C0 : lw_At p s m meth c b 5 xs) (D : va_G) (k : Nat → ClassId) (z : Nat) (hz : z ≤ s.heap.size) (hz2 : s.heap.size ≤ z) (hcxN : cxN D k (AZ z) s) (o mo oa : Nat) (g9 : Nat → Int64) (M : mM) {H : Heap} {locs : List Loc} {ls : Array Slot} (hm : mm D (AZ z) M H) (hS : va_S (AZ z) s.heap H locs) (hF : cFr k M o) (hMo : mFr k M mo 0) (hoa : M oa = some (.inl (k 1, 1, .inr (.inl g9)))) (hl : lv_has ls 7 [(4, .int 0), (3, .ref oa), (2, .ref mo), (1, .ref o), (0, .ref b)]) : W p l e room_1 s m #[Value.ref b] below meth c H locs 138 404036 (lw_Z below #[Value.ref b] s) (F0 m 176 ls []) := by
  obtain ⟨hx, hb, hr, hml, hown, hts0, hX, hbl, hlocks, hgv⟩ := id C0
  have hts : ∀ w ∈ wsL_law, w.before #[Value.ref b] s = true := fun w h => hts0 w (wl_in w h)
  have hcx := hcxN.1
  have hK := hcx.1
  have hA : ∀ q, s.heap.size ≤ q → AZ z q := fun q h => Nat.le_trans hz h
  have hbA : ¬ AZ z b := fun h => absurd (Nat.le_trans hz2 h) (Nat.not_le.mpr hbl)
  refine lv_aload_n hx hb dL_law_176 rfl (lv_at hl 3 rfl) ?_
  refine lv_aload_n hx hb dL_law_177 rfl (lv_at hl 4 rfl) ?_
  refine lv_iload hx hb dL_law_178 (lv_at hl 0 rfl) ?_
  refine lv_iconst (v := 1) hx hb dL_law_180 (by decide) ?_
  refine lv_iadd hx hb dL_law_181 ?_
  refine W.eq (g2 := F0 m 182 ls [.int 1, .ref b, .ref o]) (by first | rfl | decide) ?_
  refine va_sld hx hb hX hbl hbA hS (by unfold vp_in; decide) dL_law_182 ?_
  refine W.eq (g2 := F0 m 183 ls [.int (xs 1), .ref o]) rfl ?_
  refine lv_aload_n hx hb dL_law_183 rfl (lv_at hl 1 rfl) ?_
  refine m_kSW (hh := [(0, 9, 12, 13)]) (As := [.ref o, .int (xs 1), .ref oa]) (rest := []) (rm := { frames := 8, cells := 1, slots := 6, locals := 126 }) ⟨hx, hb, hml, hown, hts⟩ (H_drop l hlt D k z _ o oa g9 hF hoa (xs 1)) (vx_cwSW 3 hts gL_law_L_drop rfl rfl rfl (by decide +kernel) ⟨Nat.le_of_ble_eq_true rfl, Nat.le_of_ble_eq_true rfl⟩) hz hcxN hm hS rfl hl.1 rfl (Nat.le_of_ble_eq_true rfl) dL_law_184 ⟨Nat.le_of_ble_eq_true rfl, Nat.le_of_ble_eq_true rfl⟩ (fun v M1 H locs hv hm hS => ?_)
  obtain ⟨Mc1, hMx⟩ : ∃ x : mM, x = M1 := ⟨M1, rfl⟩
  subst hMx
  obtain ⟨hv1, hk9⟩ := hv
  subst hv1
  have hMo := mFr_k2 hk9 hMo
  refine W.eq (g2 := F0 m 187 ls [.int 1]) rfl ?_
  refine W.widen (k := 139) (n := 404042) (Nat.le_of_ble_eq_true rfl) (Nat.le_of_ble_eq_true rfl) ?_
  refine lv_istore (lv' := [(5, .int 1), (4, .int 0), (3, .ref oa), (2, .ref mo), (1, .ref o), (0, .ref b)]) hx hb dL_law_187 hl (by decide) rfl (fun ls hl => ?_)
  refine lv_aload_n hx hb dL_law_189 rfl (lv_at hl 3 rfl) ?_
  refine lv_aload_n hx hb dL_law_190 rfl (lv_at hl 5 rfl) ?_
  refine lv_iload hx hb dL_law_191 (lv_at hl 1 rfl) ?_
  refine lv_iconst (v := 1) hx hb dL_law_193 (by decide) ?_
  refine lv_iadd hx hb dL_law_194 ?_
  refine W.eq (g2 := F0 m 195 ls [.int 1, .ref b, .ref mo]) (by first | rfl | decide) ?_
  refine va_sld hx hb hX hbl hbA hS (by unfold vp_in; decide) dL_law_195 ?_
  refine W.eq (g2 := F0 m 196 ls [.int (xs 1), .ref mo]) rfl ?_
  obtain ⟨xcn, xia, xdr, xen, xla, xwo, xop, xmk, xir, xse, xec, xlc, xwc, xol, xal, -, hMob, -⟩ := id hMo
  refine m_kV (As := [.int (xs 1)]) (rest := []) (rm := { frames := 1, cells := 0, slots := 0, locals := 21 }) ⟨hx, hb, hml, hown, hts⟩ (c_X6_drop l D k z _ mo (xs 1) hMo) (cwV 1 hts gL_law_X6_drop rfl rfl rfl (by decide +kernel) ⟨Nat.le_of_ble_eq_true rfl, Nat.le_of_ble_eq_true rfl⟩) (m_recv hK hm (q := (RX6, TX6, 24)) rfl hMob) hz hcx hm hS rfl hl.1 rfl (Nat.le_of_ble_eq_true rfl) dL_law_196 ⟨Nat.le_of_ble_eq_true rfl, Nat.le_of_ble_eq_true rfl⟩ (fun v M1 H locs hv hm hS => ?_)
  obtain ⟨hv1, hC9⟩ := hv
  subst hv1
  obtain ⟨Mc2, hMx⟩ : ∃ x : mM, x = M1 := ⟨M1, rfl⟩
  subst hMx
  obtain ⟨fs9, hMc⟩ := hC9
  refine W.eq (g2 := F0 m 199 ls [.int 0]) rfl ?_
  refine W.widen (k := 139) (n := 404042) (Nat.le_of_ble_eq_true rfl) (Nat.le_of_ble_eq_true rfl) ?_
  refine lv_istore (lv' := [(6, .int 0), (5, .int 1), (4, .int 0), (3, .ref oa), (2, .ref mo), (1, .ref o), (0, .ref b)]) hx hb dL_law_199 hl (by decide) rfl (fun ls hl => ?_)
  refine lv_aload_n hx hb dL_law_201 rfl (lv_at hl 4 rfl) ?_
  refine m_kV (As := []) (rest := []) (rm := { frames := 0, cells := 0, slots := 0, locals := 0 }) ⟨hx, hb, hml, hown, hts⟩ (c_X6_thrown l D k z _ mo 1 fs9 hMc) (cwV 0 hts gL_law_X6_thrown rfl rfl rfl (by decide +kernel) ⟨Nat.le_of_ble_eq_true rfl, Nat.le_of_ble_eq_true rfl⟩) (m_recv hK hm (q := (RX6, TX6, 24)) rfl hMc) hz hcx hm hS rfl hl.1 rfl (Nat.le_of_ble_eq_true rfl) dL_law_202 ⟨Nat.le_of_ble_eq_true rfl, Nat.le_of_ble_eq_true rfl⟩ (fun v M1 H locs hv hm hS => ?_)
  obtain ⟨hv1, hM1⟩ := hv
  subst hv1
  rw [hM1] at hm
  refine W.eq (g2 := F0 m 205 ls [.int 1]) rfl ?_
  refine W.widen (k := 139) (n := 404042) (Nat.le_of_ble_eq_true rfl) (Nat.le_of_ble_eq_true rfl) ?_
  refine lv_iload hx hb dL_law_205 (lv_at hl 1 rfl) ?_
  refine lv_icmp_eq (tgt := 212) hx hb dL_law_207 (by decide) (fun c1 => ?_) (fun c1 => ?_)
  · refine lv_iload hx hb dL_law_212 (lv_at hl 1 rfl) ?_
    refine lv_if_ne (tgt := 229) hx hb dL_law_214 (by decide) (fun c2 => ?_) (fun c2 => ?_)
    · refine lv_goto (tgt := 1434) hx hb dL_law_229 (by decide) ?_
      refine W.widen (k := 160) (n := 406000) (Nat.le_of_ble_eq_true rfl) (Nat.le_of_ble_eq_true rfl) ?_
      exact LC_end l hlt C0 D k z hz hz2 hcxN hS (lv_sub hl [2, 6] rfl)
    · first | exact absurd c2 (by decide) | exact absurd (by decide) c2
  · first | exact absurd c1 (by decide) | exact absurd (by decide) c1

set_option maxHeartbeats 4000000 in
set_option maxRecDepth 100000 in
theorem LC_commit {p : Program} {e : Env} {s : State} {m : MethodId} {below : List Frame} {meth : Method} {c : Code} (l : Launch) (hlt : l.stackTraces = false) {b : Nat} {xs : Nat → Int32} (C0 : lw_At p s m meth c b 5 xs) (D : va_G) (k : Nat → ClassId) (z : Nat) (hz : z ≤ s.heap.size) (hz2 : s.heap.size ≤ z) (hcxN : cxN D k (AZ z) s) (o mo oa : Nat) (g9 : Nat → Int64) (M : mM) {H : Heap} {locs : List Loc} {ls : Array Slot} (hm : mm D (AZ z) M H) (hS : va_S (AZ z) s.heap H locs) (hF : cFr k M o) (hMo : mFr k M mo 0) (hoa : M oa = some (.inl (k 1, 1, .inr (.inl g9)))) (hl : lv_has ls 7 [(4, .int 0), (3, .ref oa), (2, .ref mo), (1, .ref o), (0, .ref b)]) : W p l e room_1 s m #[Value.ref b] below meth c H locs 138 404036 (lw_Z below #[Value.ref b] s) (F0 m 232 ls []) := by
  obtain ⟨hx, hb, hr, hml, hown, hts0, hX, hbl, hlocks, hgv⟩ := id C0
  have hts : ∀ w ∈ wsL_law, w.before #[Value.ref b] s = true := fun w h => hts0 w (wl_in w h)
  have hcx := hcxN.1
  have hK := hcx.1
  have hA : ∀ q, s.heap.size ≤ q → AZ z q := fun q h => Nat.le_trans hz h
  have hbA : ¬ AZ z b := fun h => absurd (Nat.le_trans hz2 h) (Nat.not_le.mpr hbl)
  refine lv_aload_n hx hb dL_law_232 rfl (lv_at hl 3 rfl) ?_
  refine lv_aload_n hx hb dL_law_233 rfl (lv_at hl 4 rfl) ?_
  refine lv_iload hx hb dL_law_234 (lv_at hl 0 rfl) ?_
  refine lv_iconst (v := 1) hx hb dL_law_236 (by decide) ?_
  refine lv_iadd hx hb dL_law_237 ?_
  refine W.eq (g2 := F0 m 238 ls [.int 1, .ref b, .ref o]) (by first | rfl | decide) ?_
  refine va_sld hx hb hX hbl hbA hS (by unfold vp_in; decide) dL_law_238 ?_
  refine W.eq (g2 := F0 m 239 ls [.int (xs 1), .ref o]) rfl ?_
  refine lv_aload_n hx hb dL_law_239 rfl (lv_at hl 1 rfl) ?_
  refine m_kSW (hh := [(0, 9, 12, 13)]) (As := [.ref o, .int (xs 1), .ref oa]) (rest := []) (rm := { frames := 8, cells := 1, slots := 6, locals := 127 }) ⟨hx, hb, hml, hown, hts⟩ (H_commit l hlt D k z _ o oa g9 hF hoa (xs 1)) (vx_cwSW 3 hts gL_law_L_commit rfl rfl rfl (by decide +kernel) ⟨Nat.le_of_ble_eq_true rfl, Nat.le_of_ble_eq_true rfl⟩) hz hcxN hm hS rfl hl.1 rfl (Nat.le_of_ble_eq_true rfl) dL_law_240 ⟨Nat.le_of_ble_eq_true rfl, Nat.le_of_ble_eq_true rfl⟩ (fun v M1 H locs hv hm hS => ?_)
  obtain ⟨Mc1, hMx⟩ : ∃ x : mM, x = M1 := ⟨M1, rfl⟩
  subst hMx
  obtain ⟨hv1, hk9⟩ := hv
  subst hv1
  have hMo := mFr_k2 hk9 hMo
  refine W.eq (g2 := F0 m 243 ls [.int 1]) rfl ?_
  refine W.widen (k := 139) (n := 404042) (Nat.le_of_ble_eq_true rfl) (Nat.le_of_ble_eq_true rfl) ?_
  refine lv_istore (lv' := [(5, .int 1), (4, .int 0), (3, .ref oa), (2, .ref mo), (1, .ref o), (0, .ref b)]) hx hb dL_law_243 hl (by decide) rfl (fun ls hl => ?_)
  refine lv_aload_n hx hb dL_law_245 rfl (lv_at hl 3 rfl) ?_
  refine lv_aload_n hx hb dL_law_246 rfl (lv_at hl 5 rfl) ?_
  refine lv_iload hx hb dL_law_247 (lv_at hl 1 rfl) ?_
  refine lv_iconst (v := 1) hx hb dL_law_249 (by decide) ?_
  refine lv_iadd hx hb dL_law_250 ?_
  refine W.eq (g2 := F0 m 251 ls [.int 1, .ref b, .ref mo]) (by first | rfl | decide) ?_
  refine va_sld hx hb hX hbl hbA hS (by unfold vp_in; decide) dL_law_251 ?_
  refine W.eq (g2 := F0 m 252 ls [.int (xs 1), .ref mo]) rfl ?_
  obtain ⟨xcn, xia, xdr, xen, xla, xwo, xop, xmk, xir, xse, xec, xlc, xwc, xol, xal, -, hMob, -⟩ := id hMo
  refine m_kV (As := [.int (xs 1)]) (rest := []) (rm := { frames := 1, cells := 0, slots := 0, locals := 21 }) ⟨hx, hb, hml, hown, hts⟩ (c_X6_commit l D k z _ mo (xs 1) hMo) (cwV 1 hts gL_law_X6_commit rfl rfl rfl (by decide +kernel) ⟨Nat.le_of_ble_eq_true rfl, Nat.le_of_ble_eq_true rfl⟩) (m_recv hK hm (q := (RX6, TX6, 24)) rfl hMob) hz hcx hm hS rfl hl.1 rfl (Nat.le_of_ble_eq_true rfl) dL_law_252 ⟨Nat.le_of_ble_eq_true rfl, Nat.le_of_ble_eq_true rfl⟩ (fun v M1 H locs hv hm hS => ?_)
  obtain ⟨hv1, hC9⟩ := hv
  subst hv1
  obtain ⟨Mc2, hMx⟩ : ∃ x : mM, x = M1 := ⟨M1, rfl⟩
  subst hMx
  obtain ⟨fs9, hMc⟩ := hC9
  refine W.eq (g2 := F0 m 255 ls [.int 0]) rfl ?_
  refine W.widen (k := 139) (n := 404042) (Nat.le_of_ble_eq_true rfl) (Nat.le_of_ble_eq_true rfl) ?_
  refine lv_istore (lv' := [(6, .int 0), (5, .int 1), (4, .int 0), (3, .ref oa), (2, .ref mo), (1, .ref o), (0, .ref b)]) hx hb dL_law_255 hl (by decide) rfl (fun ls hl => ?_)
  refine lv_aload_n hx hb dL_law_257 rfl (lv_at hl 4 rfl) ?_
  refine m_kV (As := []) (rest := []) (rm := { frames := 0, cells := 0, slots := 0, locals := 0 }) ⟨hx, hb, hml, hown, hts⟩ (c_X6_thrown l D k z _ mo 1 fs9 hMc) (cwV 0 hts gL_law_X6_thrown rfl rfl rfl (by decide +kernel) ⟨Nat.le_of_ble_eq_true rfl, Nat.le_of_ble_eq_true rfl⟩) (m_recv hK hm (q := (RX6, TX6, 24)) rfl hMc) hz hcx hm hS rfl hl.1 rfl (Nat.le_of_ble_eq_true rfl) dL_law_258 ⟨Nat.le_of_ble_eq_true rfl, Nat.le_of_ble_eq_true rfl⟩ (fun v M1 H locs hv hm hS => ?_)
  obtain ⟨hv1, hM1⟩ := hv
  subst hv1
  rw [hM1] at hm
  refine W.eq (g2 := F0 m 261 ls [.int 1]) rfl ?_
  refine W.widen (k := 139) (n := 404042) (Nat.le_of_ble_eq_true rfl) (Nat.le_of_ble_eq_true rfl) ?_
  refine lv_iload hx hb dL_law_261 (lv_at hl 1 rfl) ?_
  refine lv_icmp_eq (tgt := 268) hx hb dL_law_263 (by decide) (fun c1 => ?_) (fun c1 => ?_)
  · refine lv_iload hx hb dL_law_268 (lv_at hl 1 rfl) ?_
    refine lv_if_ne (tgt := 285) hx hb dL_law_270 (by decide) (fun c2 => ?_) (fun c2 => ?_)
    · refine lv_goto (tgt := 1434) hx hb dL_law_285 (by decide) ?_
      refine W.widen (k := 160) (n := 406000) (Nat.le_of_ble_eq_true rfl) (Nat.le_of_ble_eq_true rfl) ?_
      exact LC_end l hlt C0 D k z hz hz2 hcxN hS (lv_sub hl [2, 6] rfl)
    · first | exact absurd c2 (by decide) | exact absurd (by decide) c2
  · first | exact absurd c1 (by decide) | exact absurd (by decide) c1

set_option maxHeartbeats 4000000 in
set_option maxRecDepth 100000 in
theorem LC_check {p : Program} {e : Env} {s : State} {m : MethodId} {below : List Frame} {meth : Method} {c : Code} (l : Launch) (hlt : l.stackTraces = false) {b : Nat} {xs : Nat → Int32} (C0 : lw_At p s m meth c b 5 xs) (D : va_G) (k : Nat → ClassId) (z : Nat) (hz : z ≤ s.heap.size) (hz2 : s.heap.size ≤ z) (hcxN : cxN D k (AZ z) s) (o mo oa : Nat) (g9 : Nat → Int64) (M : mM) {H : Heap} {locs : List Loc} {ls : Array Slot} (hm : mm D (AZ z) M H) (hS : va_S (AZ z) s.heap H locs) (hF : cFr k M o) (hMo : mFr k M mo 0) (hoa : M oa = some (.inl (k 1, 1, .inr (.inl g9)))) (hl : lv_has ls 7 [(4, .int 0), (3, .ref oa), (2, .ref mo), (1, .ref o), (0, .ref b)]) : W p l e room_1 s m #[Value.ref b] below meth c H locs 138 404036 (lw_Z below #[Value.ref b] s) (F0 m 288 ls []) := by
  obtain ⟨hx, hb, hr, hml, hown, hts0, hX, hbl, hlocks, hgv⟩ := id C0
  have hts : ∀ w ∈ wsL_law, w.before #[Value.ref b] s = true := fun w h => hts0 w (wl_in w h)
  have hcx := hcxN.1
  have hK := hcx.1
  have hA : ∀ q, s.heap.size ≤ q → AZ z q := fun q h => Nat.le_trans hz h
  have hbA : ¬ AZ z b := fun h => absurd (Nat.le_trans hz2 h) (Nat.not_le.mpr hbl)
  refine lv_aload_n hx hb dL_law_288 rfl (lv_at hl 3 rfl) ?_
  refine lv_aload_n hx hb dL_law_289 rfl (lv_at hl 4 rfl) ?_
  refine lv_iload hx hb dL_law_290 (lv_at hl 0 rfl) ?_
  refine lv_iconst (v := 1) hx hb dL_law_292 (by decide) ?_
  refine lv_iadd hx hb dL_law_293 ?_
  refine W.eq (g2 := F0 m 294 ls [.int 1, .ref b, .ref o]) (by first | rfl | decide) ?_
  refine va_sld hx hb hX hbl hbA hS (by unfold vp_in; decide) dL_law_294 ?_
  refine W.eq (g2 := F0 m 295 ls [.int (xs 1), .ref o]) rfl ?_
  refine lv_aload_n hx hb dL_law_295 rfl (lv_at hl 1 rfl) ?_
  refine m_kSW (hh := [(0, 9, 12, 13)]) (As := [.ref o, .int (xs 1), .ref oa]) (rest := []) (rm := { frames := 8, cells := 1, slots := 6, locals := 125 }) ⟨hx, hb, hml, hown, hts⟩ (H_check l hlt D k z _ o oa g9 hF hoa (xs 1)) (vx_cwSW 3 hts gL_law_L_check rfl rfl rfl (by decide +kernel) ⟨Nat.le_of_ble_eq_true rfl, Nat.le_of_ble_eq_true rfl⟩) hz hcxN hm hS rfl hl.1 rfl (Nat.le_of_ble_eq_true rfl) dL_law_296 ⟨Nat.le_of_ble_eq_true rfl, Nat.le_of_ble_eq_true rfl⟩ (fun v M1 H locs hv hm hS => ?_)
  obtain ⟨Mc1, hMx⟩ : ∃ x : mM, x = M1 := ⟨M1, rfl⟩
  subst hMx
  obtain ⟨hv1, hk9⟩ := hv
  subst hv1
  have hMo := mFr_k2 hk9 hMo
  refine W.eq (g2 := F0 m 299 ls [.int 1]) rfl ?_
  refine W.widen (k := 139) (n := 404042) (Nat.le_of_ble_eq_true rfl) (Nat.le_of_ble_eq_true rfl) ?_
  refine lv_istore (lv' := [(5, .int 1), (4, .int 0), (3, .ref oa), (2, .ref mo), (1, .ref o), (0, .ref b)]) hx hb dL_law_299 hl (by decide) rfl (fun ls hl => ?_)
  refine lv_aload_n hx hb dL_law_301 rfl (lv_at hl 3 rfl) ?_
  refine lv_aload_n hx hb dL_law_302 rfl (lv_at hl 5 rfl) ?_
  refine lv_iload hx hb dL_law_303 (lv_at hl 1 rfl) ?_
  refine lv_iconst (v := 1) hx hb dL_law_305 (by decide) ?_
  refine lv_iadd hx hb dL_law_306 ?_
  refine W.eq (g2 := F0 m 307 ls [.int 1, .ref b, .ref mo]) (by first | rfl | decide) ?_
  refine va_sld hx hb hX hbl hbA hS (by unfold vp_in; decide) dL_law_307 ?_
  refine W.eq (g2 := F0 m 308 ls [.int (xs 1), .ref mo]) rfl ?_
  obtain ⟨xcn, xia, xdr, xen, xla, xwo, xop, xmk, xir, xse, xec, xlc, xwc, xol, xal, -, hMob, -⟩ := id hMo
  refine m_kV (As := [.int (xs 1)]) (rest := []) (rm := { frames := 1, cells := 0, slots := 0, locals := 21 }) ⟨hx, hb, hml, hown, hts⟩ (c_X6_check l D k z _ mo (xs 1) hMo) (cwV 1 hts gL_law_X6_check rfl rfl rfl (by decide +kernel) ⟨Nat.le_of_ble_eq_true rfl, Nat.le_of_ble_eq_true rfl⟩) (m_recv hK hm (q := (RX6, TX6, 24)) rfl hMob) hz hcx hm hS rfl hl.1 rfl (Nat.le_of_ble_eq_true rfl) dL_law_308 ⟨Nat.le_of_ble_eq_true rfl, Nat.le_of_ble_eq_true rfl⟩ (fun v M1 H locs hv hm hS => ?_)
  obtain ⟨hv1, hC9⟩ := hv
  subst hv1
  obtain ⟨Mc2, hMx⟩ : ∃ x : mM, x = M1 := ⟨M1, rfl⟩
  subst hMx
  obtain ⟨fs9, hMc⟩ := hC9
  refine W.eq (g2 := F0 m 311 ls [.int 0]) rfl ?_
  refine W.widen (k := 139) (n := 404042) (Nat.le_of_ble_eq_true rfl) (Nat.le_of_ble_eq_true rfl) ?_
  refine lv_istore (lv' := [(6, .int 0), (5, .int 1), (4, .int 0), (3, .ref oa), (2, .ref mo), (1, .ref o), (0, .ref b)]) hx hb dL_law_311 hl (by decide) rfl (fun ls hl => ?_)
  refine lv_aload_n hx hb dL_law_313 rfl (lv_at hl 4 rfl) ?_
  refine m_kV (As := []) (rest := []) (rm := { frames := 0, cells := 0, slots := 0, locals := 0 }) ⟨hx, hb, hml, hown, hts⟩ (c_X6_thrown l D k z _ mo 1 fs9 hMc) (cwV 0 hts gL_law_X6_thrown rfl rfl rfl (by decide +kernel) ⟨Nat.le_of_ble_eq_true rfl, Nat.le_of_ble_eq_true rfl⟩) (m_recv hK hm (q := (RX6, TX6, 24)) rfl hMc) hz hcx hm hS rfl hl.1 rfl (Nat.le_of_ble_eq_true rfl) dL_law_314 ⟨Nat.le_of_ble_eq_true rfl, Nat.le_of_ble_eq_true rfl⟩ (fun v M1 H locs hv hm hS => ?_)
  obtain ⟨hv1, hM1⟩ := hv
  subst hv1
  rw [hM1] at hm
  refine W.eq (g2 := F0 m 317 ls [.int 1]) rfl ?_
  refine W.widen (k := 139) (n := 404042) (Nat.le_of_ble_eq_true rfl) (Nat.le_of_ble_eq_true rfl) ?_
  refine lv_iload hx hb dL_law_317 (lv_at hl 1 rfl) ?_
  refine lv_icmp_eq (tgt := 324) hx hb dL_law_319 (by decide) (fun c1 => ?_) (fun c1 => ?_)
  · refine lv_iload hx hb dL_law_324 (lv_at hl 1 rfl) ?_
    refine lv_if_ne (tgt := 341) hx hb dL_law_326 (by decide) (fun c2 => ?_) (fun c2 => ?_)
    · refine lv_goto (tgt := 1434) hx hb dL_law_341 (by decide) ?_
      refine W.widen (k := 160) (n := 406000) (Nat.le_of_ble_eq_true rfl) (Nat.le_of_ble_eq_true rfl) ?_
      exact LC_end l hlt C0 D k z hz hz2 hcxN hS (lv_sub hl [2, 6] rfl)
    · first | exact absurd c2 (by decide) | exact absurd (by decide) c2
  · first | exact absurd c1 (by decide) | exact absurd (by decide) c1

set_option maxHeartbeats 4000000 in
set_option maxRecDepth 100000 in
theorem LC_make {p : Program} {e : Env} {s : State} {m : MethodId} {below : List Frame} {meth : Method} {c : Code} (l : Launch) (hlt : l.stackTraces = false) {b : Nat} {xs : Nat → Int32} (C0 : lw_At p s m meth c b 5 xs) (D : va_G) (k : Nat → ClassId) (z : Nat) (hz : z ≤ s.heap.size) (hz2 : s.heap.size ≤ z) (hcxN : cxN D k (AZ z) s) (o mo oa : Nat) (g9 : Nat → Int64) (M : mM) {H : Heap} {locs : List Loc} {ls : Array Slot} (hm : mm D (AZ z) M H) (hS : va_S (AZ z) s.heap H locs) (hF : cFr k M o) (hMo : mFr k M mo 0) (hoa : M oa = some (.inl (k 1, 1, .inr (.inl g9)))) (hl : lv_has ls 7 [(4, .int 0), (3, .ref oa), (2, .ref mo), (1, .ref o), (0, .ref b)]) : W p l e room_1 s m #[Value.ref b] below meth c H locs 138 404036 (lw_Z below #[Value.ref b] s) (F0 m 344 ls []) := by
  obtain ⟨hx, hb, hr, hml, hown, hts0, hX, hbl, hlocks, hgv⟩ := id C0
  have hts : ∀ w ∈ wsL_law, w.before #[Value.ref b] s = true := fun w h => hts0 w (wl_in w h)
  have hcx := hcxN.1
  have hK := hcx.1
  have hA : ∀ q, s.heap.size ≤ q → AZ z q := fun q h => Nat.le_trans hz h
  have hbA : ¬ AZ z b := fun h => absurd (Nat.le_trans hz2 h) (Nat.not_le.mpr hbl)
  refine lv_aload_n hx hb dL_law_344 rfl (lv_at hl 3 rfl) ?_
  refine lv_aload_n hx hb dL_law_345 rfl (lv_at hl 4 rfl) ?_
  refine lv_iload hx hb dL_law_346 (lv_at hl 0 rfl) ?_
  refine lv_iconst (v := 1) hx hb dL_law_348 (by decide) ?_
  refine lv_iadd hx hb dL_law_349 ?_
  refine W.eq (g2 := F0 m 350 ls [.int 1, .ref b, .ref o]) (by first | rfl | decide) ?_
  refine va_sld hx hb hX hbl hbA hS (by unfold vp_in; decide) dL_law_350 ?_
  refine W.eq (g2 := F0 m 351 ls [.int (xs 1), .ref o]) rfl ?_
  refine lv_aload_n hx hb dL_law_351 rfl (lv_at hl 4 rfl) ?_
  refine lv_iload hx hb dL_law_352 (lv_at hl 0 rfl) ?_
  refine lv_iconst (v := 2) hx hb dL_law_354 (by decide) ?_
  refine lv_iadd hx hb dL_law_355 ?_
  refine W.eq (g2 := F0 m 356 ls [.int 2, .ref b, .int (xs 1), .ref o]) (by first | rfl | decide) ?_
  refine va_sld hx hb hX hbl hbA hS (by unfold vp_in; decide) dL_law_356 ?_
  refine W.eq (g2 := F0 m 357 ls [.int (xs 2), .int (xs 1), .ref o]) rfl ?_
  refine lv_aload_n hx hb dL_law_357 rfl (lv_at hl 4 rfl) ?_
  refine lv_iload hx hb dL_law_358 (lv_at hl 0 rfl) ?_
  refine lv_iconst (v := 3) hx hb dL_law_360 (by decide) ?_
  refine lv_iadd hx hb dL_law_361 ?_
  refine W.eq (g2 := F0 m 362 ls [.int 3, .ref b, .int (xs 2), .int (xs 1), .ref o]) (by first | rfl | decide) ?_
  refine va_sld hx hb hX hbl hbA hS (by unfold vp_in; decide) dL_law_362 ?_
  refine W.eq (g2 := F0 m 363 ls [.int (xs 3), .int (xs 2), .int (xs 1), .ref o]) rfl ?_
  refine lv_if_eq (tgt := 370) hx hb dL_law_363 (by decide) (fun c1 => ?_) (fun c1 => ?_)
  · refine lv_iconst (v := 0) hx hb dL_law_370 (by decide) ?_
    refine m_kSW (hh := [(0, 7, 10, 13), (0, 7, 14, 31), (0, 7, 18, 33), (0, 7, 22, 15)]) (As := [.ref o, .int (xs 1), .int (xs 2), .int 0]) (rest := []) (rm := { frames := 8, cells := 1, slots := 6, locals := 129 }) ⟨hx, hb, hml, hown, hts⟩ (H_make l hlt D k z _ o oa g9 hF hoa (xs 1) (xs 2) 0) (vx_cwSW 4 hts gL_law_L_make rfl rfl rfl (by decide +kernel) ⟨Nat.le_of_ble_eq_true rfl, Nat.le_of_ble_eq_true rfl⟩) hz hcxN hm hS rfl hl.1 rfl (Nat.le_of_ble_eq_true rfl) dL_law_371 ⟨Nat.le_of_ble_eq_true rfl, Nat.le_of_ble_eq_true rfl⟩ (fun v M1 H locs hv hm hS => ?_)
    obtain ⟨Mc1, hMx⟩ : ∃ x : mM, x = M1 := ⟨M1, rfl⟩
    subst hMx
    obtain ⟨hv1, hk9⟩ := hv
    subst hv1
    have hMo := mFr_k2 hk9 hMo
    refine W.eq (g2 := F0 m 374 ls [.int 1]) rfl ?_
    refine W.widen (k := 139) (n := 404042) (Nat.le_of_ble_eq_true rfl) (Nat.le_of_ble_eq_true rfl) ?_
    refine lv_istore (lv' := [(5, .int 1), (4, .int 0), (3, .ref oa), (2, .ref mo), (1, .ref o), (0, .ref b)]) hx hb dL_law_374 hl (by decide) rfl (fun ls hl => ?_)
    refine lv_aload_n hx hb dL_law_376 rfl (lv_at hl 3 rfl) ?_
    refine lv_aload_n hx hb dL_law_377 rfl (lv_at hl 5 rfl) ?_
    refine lv_iload hx hb dL_law_378 (lv_at hl 1 rfl) ?_
    refine lv_iconst (v := 1) hx hb dL_law_380 (by decide) ?_
    refine lv_iadd hx hb dL_law_381 ?_
    refine W.eq (g2 := F0 m 382 ls [.int 1, .ref b, .ref mo]) (by first | rfl | decide) ?_
    refine va_sld hx hb hX hbl hbA hS (by unfold vp_in; decide) dL_law_382 ?_
    refine W.eq (g2 := F0 m 383 ls [.int (xs 1), .ref mo]) rfl ?_
    refine lv_aload_n hx hb dL_law_383 rfl (lv_at hl 5 rfl) ?_
    refine lv_iload hx hb dL_law_384 (lv_at hl 1 rfl) ?_
    refine lv_iconst (v := 2) hx hb dL_law_386 (by decide) ?_
    refine lv_iadd hx hb dL_law_387 ?_
    refine W.eq (g2 := F0 m 388 ls [.int 2, .ref b, .int (xs 1), .ref mo]) (by first | rfl | decide) ?_
    refine va_sld hx hb hX hbl hbA hS (by unfold vp_in; decide) dL_law_388 ?_
    refine W.eq (g2 := F0 m 389 ls [.int (xs 2), .int (xs 1), .ref mo]) rfl ?_
    refine lv_aload_n hx hb dL_law_389 rfl (lv_at hl 5 rfl) ?_
    refine lv_iload hx hb dL_law_390 (lv_at hl 1 rfl) ?_
    refine lv_iconst (v := 3) hx hb dL_law_392 (by decide) ?_
    refine lv_iadd hx hb dL_law_393 ?_
    refine W.eq (g2 := F0 m 394 ls [.int 3, .ref b, .int (xs 2), .int (xs 1), .ref mo]) (by first | rfl | decide) ?_
    refine va_sld hx hb hX hbl hbA hS (by unfold vp_in; decide) dL_law_394 ?_
    refine W.eq (g2 := F0 m 395 ls [.int (xs 3), .int (xs 2), .int (xs 1), .ref mo]) rfl ?_
    refine lv_if_eq (tgt := 402) hx hb dL_law_395 (by decide) (fun c2 => ?_) (fun c2 => ?_)
    · refine lv_iconst (v := 0) hx hb dL_law_402 (by decide) ?_
      obtain ⟨xcn, xia, xdr, xen, xla, xwo, xop, xmk, xir, xse, xec, xlc, xwc, xol, xal, -, hMob, -⟩ := id hMo
      refine m_kV (As := [.int (xs 1), .int (xs 2), .int 0]) (rest := []) (rm := { frames := 1, cells := 0, slots := 0, locals := 21 }) ⟨hx, hb, hml, hown, hts⟩ (c_X6_make l D k z _ mo (xs 1) (xs 2) 0 hMo) (cwV 3 hts gL_law_X6_make rfl rfl rfl (by decide +kernel) ⟨Nat.le_of_ble_eq_true rfl, Nat.le_of_ble_eq_true rfl⟩) (m_recv hK hm (q := (RX6, TX6, 24)) rfl hMob) hz hcx hm hS rfl hl.1 rfl (Nat.le_of_ble_eq_true rfl) dL_law_403 ⟨Nat.le_of_ble_eq_true rfl, Nat.le_of_ble_eq_true rfl⟩ (fun v M1 H locs hv hm hS => ?_)
      obtain ⟨hv1, hC9⟩ := hv
      subst hv1
      obtain ⟨Mc2, hMx⟩ : ∃ x : mM, x = M1 := ⟨M1, rfl⟩
      subst hMx
      obtain ⟨fs9, hMc⟩ := hC9
      refine W.eq (g2 := F0 m 406 ls []) rfl ?_
      refine W.widen (k := 139) (n := 404042) (Nat.le_of_ble_eq_true rfl) (Nat.le_of_ble_eq_true rfl) ?_
      refine lv_aload_n hx hb dL_law_406 rfl (lv_at hl 3 rfl) ?_
      refine m_kV (As := []) (rest := []) (rm := { frames := 0, cells := 0, slots := 0, locals := 0 }) ⟨hx, hb, hml, hown, hts⟩ (c_X6_thrown l D k z _ mo 1 fs9 hMc) (cwV 0 hts gL_law_X6_thrown rfl rfl rfl (by decide +kernel) ⟨Nat.le_of_ble_eq_true rfl, Nat.le_of_ble_eq_true rfl⟩) (m_recv hK hm (q := (RX6, TX6, 24)) rfl hMc) hz hcx hm hS rfl hl.1 rfl (Nat.le_of_ble_eq_true rfl) dL_law_407 ⟨Nat.le_of_ble_eq_true rfl, Nat.le_of_ble_eq_true rfl⟩ (fun v M1 H locs hv hm hS => ?_)
      obtain ⟨hv1, hM1⟩ := hv
      subst hv1
      rw [hM1] at hm
      refine W.eq (g2 := F0 m 410 ls [.int 1]) rfl ?_
      refine W.widen (k := 139) (n := 404042) (Nat.le_of_ble_eq_true rfl) (Nat.le_of_ble_eq_true rfl) ?_
      refine lv_iload hx hb dL_law_410 (lv_at hl 0 rfl) ?_
      refine lv_icmp_eq (tgt := 417) hx hb dL_law_412 (by decide) (fun c3 => ?_) (fun c3 => ?_)
      · refine lv_goto (tgt := 1434) hx hb dL_law_417 (by decide) ?_
        refine W.widen (k := 160) (n := 406000) (Nat.le_of_ble_eq_true rfl) (Nat.le_of_ble_eq_true rfl) ?_
        exact LC_end l hlt C0 D k z hz hz2 hcxN hS (lv_sub hl [1, 5] rfl)
      · first | exact absurd c3 (by decide) | exact absurd (by decide) c3
    · refine lv_iconst (v := 1) hx hb dL_law_398 (by decide) ?_
      refine lv_goto (tgt := 403) hx hb dL_law_399 (by decide) ?_
      obtain ⟨xcn, xia, xdr, xen, xla, xwo, xop, xmk, xir, xse, xec, xlc, xwc, xol, xal, -, hMob, -⟩ := id hMo
      refine m_kV (As := [.int (xs 1), .int (xs 2), .int 1]) (rest := []) (rm := { frames := 1, cells := 0, slots := 0, locals := 21 }) ⟨hx, hb, hml, hown, hts⟩ (c_X6_make l D k z _ mo (xs 1) (xs 2) 1 hMo) (cwV 3 hts gL_law_X6_make rfl rfl rfl (by decide +kernel) ⟨Nat.le_of_ble_eq_true rfl, Nat.le_of_ble_eq_true rfl⟩) (m_recv hK hm (q := (RX6, TX6, 24)) rfl hMob) hz hcx hm hS rfl hl.1 rfl (Nat.le_of_ble_eq_true rfl) dL_law_403 ⟨Nat.le_of_ble_eq_true rfl, Nat.le_of_ble_eq_true rfl⟩ (fun v M1 H locs hv hm hS => ?_)
      obtain ⟨hv1, hC9⟩ := hv
      subst hv1
      obtain ⟨Mc3, hMx⟩ : ∃ x : mM, x = M1 := ⟨M1, rfl⟩
      subst hMx
      obtain ⟨fs9, hMc⟩ := hC9
      refine W.eq (g2 := F0 m 406 ls []) rfl ?_
      refine W.widen (k := 139) (n := 404042) (Nat.le_of_ble_eq_true rfl) (Nat.le_of_ble_eq_true rfl) ?_
      refine lv_aload_n hx hb dL_law_406 rfl (lv_at hl 3 rfl) ?_
      refine m_kV (As := []) (rest := []) (rm := { frames := 0, cells := 0, slots := 0, locals := 0 }) ⟨hx, hb, hml, hown, hts⟩ (c_X6_thrown l D k z _ mo 1 fs9 hMc) (cwV 0 hts gL_law_X6_thrown rfl rfl rfl (by decide +kernel) ⟨Nat.le_of_ble_eq_true rfl, Nat.le_of_ble_eq_true rfl⟩) (m_recv hK hm (q := (RX6, TX6, 24)) rfl hMc) hz hcx hm hS rfl hl.1 rfl (Nat.le_of_ble_eq_true rfl) dL_law_407 ⟨Nat.le_of_ble_eq_true rfl, Nat.le_of_ble_eq_true rfl⟩ (fun v M1 H locs hv hm hS => ?_)
      obtain ⟨hv1, hM1⟩ := hv
      subst hv1
      rw [hM1] at hm
      refine W.eq (g2 := F0 m 410 ls [.int 1]) rfl ?_
      refine W.widen (k := 139) (n := 404042) (Nat.le_of_ble_eq_true rfl) (Nat.le_of_ble_eq_true rfl) ?_
      refine lv_iload hx hb dL_law_410 (lv_at hl 0 rfl) ?_
      refine lv_icmp_eq (tgt := 417) hx hb dL_law_412 (by decide) (fun c4 => ?_) (fun c4 => ?_)
      · refine lv_goto (tgt := 1434) hx hb dL_law_417 (by decide) ?_
        refine W.widen (k := 160) (n := 406000) (Nat.le_of_ble_eq_true rfl) (Nat.le_of_ble_eq_true rfl) ?_
        exact LC_end l hlt C0 D k z hz hz2 hcxN hS (lv_sub hl [1, 5] rfl)
      · first | exact absurd c4 (by decide) | exact absurd (by decide) c4
  · refine lv_iconst (v := 1) hx hb dL_law_366 (by decide) ?_
    refine lv_goto (tgt := 371) hx hb dL_law_367 (by decide) ?_
    refine m_kSW (hh := [(0, 7, 10, 13), (0, 7, 14, 31), (0, 7, 18, 33), (0, 7, 22, 15)]) (As := [.ref o, .int (xs 1), .int (xs 2), .int 1]) (rest := []) (rm := { frames := 8, cells := 1, slots := 6, locals := 129 }) ⟨hx, hb, hml, hown, hts⟩ (H_make l hlt D k z _ o oa g9 hF hoa (xs 1) (xs 2) 1) (vx_cwSW 4 hts gL_law_L_make rfl rfl rfl (by decide +kernel) ⟨Nat.le_of_ble_eq_true rfl, Nat.le_of_ble_eq_true rfl⟩) hz hcxN hm hS rfl hl.1 rfl (Nat.le_of_ble_eq_true rfl) dL_law_371 ⟨Nat.le_of_ble_eq_true rfl, Nat.le_of_ble_eq_true rfl⟩ (fun v M1 H locs hv hm hS => ?_)
    obtain ⟨Mc4, hMx⟩ : ∃ x : mM, x = M1 := ⟨M1, rfl⟩
    subst hMx
    obtain ⟨hv1, hk9⟩ := hv
    subst hv1
    have hMo := mFr_k2 hk9 hMo
    refine W.eq (g2 := F0 m 374 ls [.int 1]) rfl ?_
    refine W.widen (k := 139) (n := 404042) (Nat.le_of_ble_eq_true rfl) (Nat.le_of_ble_eq_true rfl) ?_
    refine lv_istore (lv' := [(5, .int 1), (4, .int 0), (3, .ref oa), (2, .ref mo), (1, .ref o), (0, .ref b)]) hx hb dL_law_374 hl (by decide) rfl (fun ls hl => ?_)
    refine lv_aload_n hx hb dL_law_376 rfl (lv_at hl 3 rfl) ?_
    refine lv_aload_n hx hb dL_law_377 rfl (lv_at hl 5 rfl) ?_
    refine lv_iload hx hb dL_law_378 (lv_at hl 1 rfl) ?_
    refine lv_iconst (v := 1) hx hb dL_law_380 (by decide) ?_
    refine lv_iadd hx hb dL_law_381 ?_
    refine W.eq (g2 := F0 m 382 ls [.int 1, .ref b, .ref mo]) (by first | rfl | decide) ?_
    refine va_sld hx hb hX hbl hbA hS (by unfold vp_in; decide) dL_law_382 ?_
    refine W.eq (g2 := F0 m 383 ls [.int (xs 1), .ref mo]) rfl ?_
    refine lv_aload_n hx hb dL_law_383 rfl (lv_at hl 5 rfl) ?_
    refine lv_iload hx hb dL_law_384 (lv_at hl 1 rfl) ?_
    refine lv_iconst (v := 2) hx hb dL_law_386 (by decide) ?_
    refine lv_iadd hx hb dL_law_387 ?_
    refine W.eq (g2 := F0 m 388 ls [.int 2, .ref b, .int (xs 1), .ref mo]) (by first | rfl | decide) ?_
    refine va_sld hx hb hX hbl hbA hS (by unfold vp_in; decide) dL_law_388 ?_
    refine W.eq (g2 := F0 m 389 ls [.int (xs 2), .int (xs 1), .ref mo]) rfl ?_
    refine lv_aload_n hx hb dL_law_389 rfl (lv_at hl 5 rfl) ?_
    refine lv_iload hx hb dL_law_390 (lv_at hl 1 rfl) ?_
    refine lv_iconst (v := 3) hx hb dL_law_392 (by decide) ?_
    refine lv_iadd hx hb dL_law_393 ?_
    refine W.eq (g2 := F0 m 394 ls [.int 3, .ref b, .int (xs 2), .int (xs 1), .ref mo]) (by first | rfl | decide) ?_
    refine va_sld hx hb hX hbl hbA hS (by unfold vp_in; decide) dL_law_394 ?_
    refine W.eq (g2 := F0 m 395 ls [.int (xs 3), .int (xs 2), .int (xs 1), .ref mo]) rfl ?_
    refine lv_if_eq (tgt := 402) hx hb dL_law_395 (by decide) (fun c5 => ?_) (fun c5 => ?_)
    · refine lv_iconst (v := 0) hx hb dL_law_402 (by decide) ?_
      obtain ⟨xcn, xia, xdr, xen, xla, xwo, xop, xmk, xir, xse, xec, xlc, xwc, xol, xal, -, hMob, -⟩ := id hMo
      refine m_kV (As := [.int (xs 1), .int (xs 2), .int 0]) (rest := []) (rm := { frames := 1, cells := 0, slots := 0, locals := 21 }) ⟨hx, hb, hml, hown, hts⟩ (c_X6_make l D k z _ mo (xs 1) (xs 2) 0 hMo) (cwV 3 hts gL_law_X6_make rfl rfl rfl (by decide +kernel) ⟨Nat.le_of_ble_eq_true rfl, Nat.le_of_ble_eq_true rfl⟩) (m_recv hK hm (q := (RX6, TX6, 24)) rfl hMob) hz hcx hm hS rfl hl.1 rfl (Nat.le_of_ble_eq_true rfl) dL_law_403 ⟨Nat.le_of_ble_eq_true rfl, Nat.le_of_ble_eq_true rfl⟩ (fun v M1 H locs hv hm hS => ?_)
      obtain ⟨hv1, hC9⟩ := hv
      subst hv1
      obtain ⟨Mc5, hMx⟩ : ∃ x : mM, x = M1 := ⟨M1, rfl⟩
      subst hMx
      obtain ⟨fs9, hMc⟩ := hC9
      refine W.eq (g2 := F0 m 406 ls []) rfl ?_
      refine W.widen (k := 139) (n := 404042) (Nat.le_of_ble_eq_true rfl) (Nat.le_of_ble_eq_true rfl) ?_
      refine lv_aload_n hx hb dL_law_406 rfl (lv_at hl 3 rfl) ?_
      refine m_kV (As := []) (rest := []) (rm := { frames := 0, cells := 0, slots := 0, locals := 0 }) ⟨hx, hb, hml, hown, hts⟩ (c_X6_thrown l D k z _ mo 1 fs9 hMc) (cwV 0 hts gL_law_X6_thrown rfl rfl rfl (by decide +kernel) ⟨Nat.le_of_ble_eq_true rfl, Nat.le_of_ble_eq_true rfl⟩) (m_recv hK hm (q := (RX6, TX6, 24)) rfl hMc) hz hcx hm hS rfl hl.1 rfl (Nat.le_of_ble_eq_true rfl) dL_law_407 ⟨Nat.le_of_ble_eq_true rfl, Nat.le_of_ble_eq_true rfl⟩ (fun v M1 H locs hv hm hS => ?_)
      obtain ⟨hv1, hM1⟩ := hv
      subst hv1
      rw [hM1] at hm
      refine W.eq (g2 := F0 m 410 ls [.int 1]) rfl ?_
      refine W.widen (k := 139) (n := 404042) (Nat.le_of_ble_eq_true rfl) (Nat.le_of_ble_eq_true rfl) ?_
      refine lv_iload hx hb dL_law_410 (lv_at hl 0 rfl) ?_
      refine lv_icmp_eq (tgt := 417) hx hb dL_law_412 (by decide) (fun c6 => ?_) (fun c6 => ?_)
      · refine lv_goto (tgt := 1434) hx hb dL_law_417 (by decide) ?_
        refine W.widen (k := 160) (n := 406000) (Nat.le_of_ble_eq_true rfl) (Nat.le_of_ble_eq_true rfl) ?_
        exact LC_end l hlt C0 D k z hz hz2 hcxN hS (lv_sub hl [1, 5] rfl)
      · first | exact absurd c6 (by decide) | exact absurd (by decide) c6
    · refine lv_iconst (v := 1) hx hb dL_law_398 (by decide) ?_
      refine lv_goto (tgt := 403) hx hb dL_law_399 (by decide) ?_
      obtain ⟨xcn, xia, xdr, xen, xla, xwo, xop, xmk, xir, xse, xec, xlc, xwc, xol, xal, -, hMob, -⟩ := id hMo
      refine m_kV (As := [.int (xs 1), .int (xs 2), .int 1]) (rest := []) (rm := { frames := 1, cells := 0, slots := 0, locals := 21 }) ⟨hx, hb, hml, hown, hts⟩ (c_X6_make l D k z _ mo (xs 1) (xs 2) 1 hMo) (cwV 3 hts gL_law_X6_make rfl rfl rfl (by decide +kernel) ⟨Nat.le_of_ble_eq_true rfl, Nat.le_of_ble_eq_true rfl⟩) (m_recv hK hm (q := (RX6, TX6, 24)) rfl hMob) hz hcx hm hS rfl hl.1 rfl (Nat.le_of_ble_eq_true rfl) dL_law_403 ⟨Nat.le_of_ble_eq_true rfl, Nat.le_of_ble_eq_true rfl⟩ (fun v M1 H locs hv hm hS => ?_)
      obtain ⟨hv1, hC9⟩ := hv
      subst hv1
      obtain ⟨Mc6, hMx⟩ : ∃ x : mM, x = M1 := ⟨M1, rfl⟩
      subst hMx
      obtain ⟨fs9, hMc⟩ := hC9
      refine W.eq (g2 := F0 m 406 ls []) rfl ?_
      refine W.widen (k := 139) (n := 404042) (Nat.le_of_ble_eq_true rfl) (Nat.le_of_ble_eq_true rfl) ?_
      refine lv_aload_n hx hb dL_law_406 rfl (lv_at hl 3 rfl) ?_
      refine m_kV (As := []) (rest := []) (rm := { frames := 0, cells := 0, slots := 0, locals := 0 }) ⟨hx, hb, hml, hown, hts⟩ (c_X6_thrown l D k z _ mo 1 fs9 hMc) (cwV 0 hts gL_law_X6_thrown rfl rfl rfl (by decide +kernel) ⟨Nat.le_of_ble_eq_true rfl, Nat.le_of_ble_eq_true rfl⟩) (m_recv hK hm (q := (RX6, TX6, 24)) rfl hMc) hz hcx hm hS rfl hl.1 rfl (Nat.le_of_ble_eq_true rfl) dL_law_407 ⟨Nat.le_of_ble_eq_true rfl, Nat.le_of_ble_eq_true rfl⟩ (fun v M1 H locs hv hm hS => ?_)
      obtain ⟨hv1, hM1⟩ := hv
      subst hv1
      rw [hM1] at hm
      refine W.eq (g2 := F0 m 410 ls [.int 1]) rfl ?_
      refine W.widen (k := 139) (n := 404042) (Nat.le_of_ble_eq_true rfl) (Nat.le_of_ble_eq_true rfl) ?_
      refine lv_iload hx hb dL_law_410 (lv_at hl 0 rfl) ?_
      refine lv_icmp_eq (tgt := 417) hx hb dL_law_412 (by decide) (fun c7 => ?_) (fun c7 => ?_)
      · refine lv_goto (tgt := 1434) hx hb dL_law_417 (by decide) ?_
        refine W.widen (k := 160) (n := 406000) (Nat.le_of_ble_eq_true rfl) (Nat.le_of_ble_eq_true rfl) ?_
        exact LC_end l hlt C0 D k z hz hz2 hcxN hS (lv_sub hl [1, 5] rfl)
      · first | exact absurd c7 (by decide) | exact absurd (by decide) c7
