set_option maxHeartbeats 4000000 in
set_option maxRecDepth 100000 in
theorem LC_length {p : Program} {e : Env} {s : State} {m : MethodId} {below : List Frame} {meth : Method} {c : Code} (l : Launch) (hlt : l.stackTraces = false) {b : Nat} {xs : Nat → Int32} (C0 : lw_At p s m meth c b 5 xs) (D : va_G) (k : Nat → ClassId) (z : Nat) (hz : z ≤ s.heap.size) (hz2 : s.heap.size ≤ z) (hcxN : cxN D k (AZ z) s) (o mo oa : Nat) (g9 : Nat → Int64) (M : mM) {H : Heap} {locs : List Loc} {ls : Array Slot} (hm : mm D (AZ z) M H) (hS : va_S (AZ z) s.heap H locs) (hF : cFr k M o) (hMo : mFr k M mo 0) (hoa : M oa = some (.inl (k 1, 1, .inr (.inl g9)))) (hl : lv_has ls 7 [(4, .int 0), (3, .ref oa), (2, .ref mo), (1, .ref o), (0, .ref b)]) : W p l e room_1 s m #[Value.ref b] below meth c H locs 138 404036 (lw_Z below #[Value.ref b] s) (F0 m 914 ls []) := by
  obtain ⟨hx, hb, hr, hml, hown, hts0, hX, hbl, hlocks, hgv⟩ := id C0
  have hts : ∀ w ∈ wsL_law, w.before #[Value.ref b] s = true := fun w h => hts0 w (wl_in w h)
  have hcx := hcxN.1
  have hK := hcx.1
  have hA : ∀ q, s.heap.size ≤ q → AZ z q := fun q h => Nat.le_trans hz h
  have hbA : ¬ AZ z b := fun h => absurd (Nat.le_trans hz2 h) (Nat.not_le.mpr hbl)
  refine lv_aload_n hx hb dL_law_914 rfl (lv_at hl 3 rfl) ?_
  refine lv_aload_n hx hb dL_law_915 rfl (lv_at hl 4 rfl) ?_
  refine lv_iload hx hb dL_law_916 (lv_at hl 0 rfl) ?_
  refine lv_iconst (v := 1) hx hb dL_law_918 (by decide) ?_
  refine lv_iadd hx hb dL_law_919 ?_
  refine W.eq (g2 := F0 m 920 ls [.int 1, .ref b, .ref o]) (by first | rfl | decide) ?_
  refine va_sld hx hb hX hbl hbA hS (by unfold vp_in; decide) dL_law_920 ?_
  refine W.eq (g2 := F0 m 921 ls [.int (xs 1), .ref o]) rfl ?_
  refine lv_aload_n hx hb dL_law_921 rfl (lv_at hl 4 rfl) ?_
  refine lv_iload hx hb dL_law_922 (lv_at hl 0 rfl) ?_
  refine lv_iconst (v := 2) hx hb dL_law_924 (by decide) ?_
  refine lv_iadd hx hb dL_law_925 ?_
  refine W.eq (g2 := F0 m 926 ls [.int 2, .ref b, .int (xs 1), .ref o]) (by first | rfl | decide) ?_
  refine va_sld hx hb hX hbl hbA hS (by unfold vp_in; decide) dL_law_926 ?_
  refine W.eq (g2 := F0 m 927 ls [.int (xs 2), .int (xs 1), .ref o]) rfl ?_
  refine lv_aload_n hx hb dL_law_927 rfl (lv_at hl 1 rfl) ?_
  refine m_kSW (hh := [(0, 10, 13, 13), (0, 10, 17, 31), (0, 10, 21, 33), (0, 10, 25, 15)]) (As := [.ref o, .int (xs 1), .int (xs 2), .ref oa]) (rest := []) (rm := { frames := 9, cells := 3, slots := 18, locals := 147 }) ⟨hx, hb, hml, hown, hts⟩ (H_length l hlt D k z _ o oa g9 hF hoa (xs 1) (xs 2)) (vx_cwSW 4 hts gL_law_L_length rfl rfl rfl (by decide +kernel) ⟨Nat.le_of_ble_eq_true rfl, Nat.le_of_ble_eq_true rfl⟩) hz hcxN hm hS rfl hl.1 rfl (Nat.le_of_ble_eq_true rfl) dL_law_928 ⟨Nat.le_of_ble_eq_true rfl, Nat.le_of_ble_eq_true rfl⟩ (fun v M1 H locs hv hm hS => ?_)
  obtain ⟨Mc1, hMx⟩ : ∃ x : mM, x = M1 := ⟨M1, rfl⟩
  subst hMx
  obtain ⟨hv2, hk9⟩ := hv
  rcases hv2 with ⟨ht9, hv1⟩ | ⟨ht9, ⟨hp9, hv1⟩ | ⟨hp9, h09, hv1⟩ | ⟨hp9, h09, hv1⟩⟩
  · subst hv1
    have hMo := mFr_k2 hk9 hMo
    refine W.eq (g2 := F0 m 931 ls [.int 1]) rfl ?_
    refine W.widen (k := 141) (n := 404054) (Nat.le_of_ble_eq_true rfl) (Nat.le_of_ble_eq_true rfl) ?_
    refine lv_istore (lv' := [(5, .int 1), (4, .int 0), (3, .ref oa), (2, .ref mo), (1, .ref o), (0, .ref b)]) hx hb dL_law_931 hl (by decide) rfl (fun ls hl => ?_)
    refine lv_aload_n hx hb dL_law_933 rfl (lv_at hl 3 rfl) ?_
    refine lv_aload_n hx hb dL_law_934 rfl (lv_at hl 5 rfl) ?_
    refine lv_iload hx hb dL_law_935 (lv_at hl 1 rfl) ?_
    refine lv_iconst (v := 1) hx hb dL_law_937 (by decide) ?_
    refine lv_iadd hx hb dL_law_938 ?_
    refine W.eq (g2 := F0 m 939 ls [.int 1, .ref b, .ref mo]) (by first | rfl | decide) ?_
    refine va_sld hx hb hX hbl hbA hS (by unfold vp_in; decide) dL_law_939 ?_
    refine W.eq (g2 := F0 m 940 ls [.int (xs 1), .ref mo]) rfl ?_
    refine lv_aload_n hx hb dL_law_940 rfl (lv_at hl 5 rfl) ?_
    refine lv_iload hx hb dL_law_941 (lv_at hl 1 rfl) ?_
    refine lv_iconst (v := 2) hx hb dL_law_943 (by decide) ?_
    refine lv_iadd hx hb dL_law_944 ?_
    refine W.eq (g2 := F0 m 945 ls [.int 2, .ref b, .int (xs 1), .ref mo]) (by first | rfl | decide) ?_
    refine va_sld hx hb hX hbl hbA hS (by unfold vp_in; decide) dL_law_945 ?_
    refine W.eq (g2 := F0 m 946 ls [.int (xs 2), .int (xs 1), .ref mo]) rfl ?_
    obtain ⟨xcn, xia, xdr, xen, xla, xwo, xop, xmk, xir, xse, xec, xlc, xwc, xol, xal, -, hMob, -⟩ := id hMo
    refine m_kV (As := [.int (xs 1), .int (xs 2)]) (rest := []) (rm := { frames := 4, cells := 0, slots := 0, locals := 98 }) ⟨hx, hb, hml, hown, hts⟩ (c_X6_length l D k z _ mo (xs 1) (xs 2) hMo) (cwV 2 hts gL_law_X6_length rfl rfl rfl (by decide +kernel) ⟨Nat.le_of_ble_eq_true rfl, Nat.le_of_ble_eq_true rfl⟩) (m_recv hK hm (q := (RX6, TX6, 24)) rfl hMob) hz hcx hm hS rfl hl.1 rfl (Nat.le_of_ble_eq_true rfl) dL_law_946 ⟨Nat.le_of_ble_eq_true rfl, Nat.le_of_ble_eq_true rfl⟩ (fun v M1 H locs hv hm hS => ?_)
    obtain ⟨hv1, hC8⟩ := hv
    subst hv1
    have hC9 : codeIs M1 mo 1 := by
      rcases hC8 with ⟨h, h2⟩ | ⟨h, cd, h3, h2⟩
      · exact h2
      · exact absurd h ht9
    obtain ⟨Mc2, hMx⟩ : ∃ x : mM, x = M1 := ⟨M1, rfl⟩
    subst hMx
    obtain ⟨fs9, hMc⟩ := hC9
    refine W.eq (g2 := F0 m 949 ls [.int 0]) rfl ?_
    refine W.widen (k := 141) (n := 404054) (Nat.le_of_ble_eq_true rfl) (Nat.le_of_ble_eq_true rfl) ?_
    refine lv_istore (lv' := [(6, .int 0), (5, .int 1), (4, .int 0), (3, .ref oa), (2, .ref mo), (1, .ref o), (0, .ref b)]) hx hb dL_law_949 hl (by decide) rfl (fun ls hl => ?_)
    refine lv_aload_n hx hb dL_law_951 rfl (lv_at hl 4 rfl) ?_
    refine m_kV (As := []) (rest := []) (rm := { frames := 0, cells := 0, slots := 0, locals := 0 }) ⟨hx, hb, hml, hown, hts⟩ (c_X6_thrown l D k z _ mo 1 fs9 hMc) (cwV 0 hts gL_law_X6_thrown rfl rfl rfl (by decide +kernel) ⟨Nat.le_of_ble_eq_true rfl, Nat.le_of_ble_eq_true rfl⟩) (m_recv hK hm (q := (RX6, TX6, 24)) rfl hMc) hz hcx hm hS rfl hl.1 rfl (Nat.le_of_ble_eq_true rfl) dL_law_952 ⟨Nat.le_of_ble_eq_true rfl, Nat.le_of_ble_eq_true rfl⟩ (fun v M1 H locs hv hm hS => ?_)
    obtain ⟨hv1, hM1⟩ := hv
    subst hv1
    rw [hM1] at hm
    refine W.eq (g2 := F0 m 955 ls [.int 1]) rfl ?_
    refine W.widen (k := 141) (n := 404054) (Nat.le_of_ble_eq_true rfl) (Nat.le_of_ble_eq_true rfl) ?_
    refine lv_iload hx hb dL_law_955 (lv_at hl 1 rfl) ?_
    refine lv_icmp_eq (tgt := 962) hx hb dL_law_957 (by decide) (fun c1 => ?_) (fun c1 => ?_)
    · refine lv_iload hx hb dL_law_962 (lv_at hl 1 rfl) ?_
      refine lv_if_ne (tgt := 979) hx hb dL_law_964 (by decide) (fun c2 => ?_) (fun c2 => ?_)
      · refine lv_goto (tgt := 1434) hx hb dL_law_979 (by decide) ?_
        refine W.widen (k := 160) (n := 406000) (Nat.le_of_ble_eq_true rfl) (Nat.le_of_ble_eq_true rfl) ?_
        exact LC_end l hlt C0 D k z hz hz2 hcxN hS (lv_sub hl [2, 6] rfl)
      · first | exact absurd c2 (by decide) | exact absurd (by decide) c2
    · first | exact absurd c1 (by decide) | exact absurd (by decide) c1
  · subst hv1
    have hMo := mFr_k2 hk9 hMo
    refine W.eq (g2 := F0 m 931 ls [.int 2]) rfl ?_
    refine W.widen (k := 141) (n := 404054) (Nat.le_of_ble_eq_true rfl) (Nat.le_of_ble_eq_true rfl) ?_
    refine lv_istore (lv' := [(5, .int 2), (4, .int 0), (3, .ref oa), (2, .ref mo), (1, .ref o), (0, .ref b)]) hx hb dL_law_931 hl (by decide) rfl (fun ls hl => ?_)
    refine lv_aload_n hx hb dL_law_933 rfl (lv_at hl 3 rfl) ?_
    refine lv_aload_n hx hb dL_law_934 rfl (lv_at hl 5 rfl) ?_
    refine lv_iload hx hb dL_law_935 (lv_at hl 1 rfl) ?_
    refine lv_iconst (v := 1) hx hb dL_law_937 (by decide) ?_
    refine lv_iadd hx hb dL_law_938 ?_
    refine W.eq (g2 := F0 m 939 ls [.int 1, .ref b, .ref mo]) (by first | rfl | decide) ?_
    refine va_sld hx hb hX hbl hbA hS (by unfold vp_in; decide) dL_law_939 ?_
    refine W.eq (g2 := F0 m 940 ls [.int (xs 1), .ref mo]) rfl ?_
    refine lv_aload_n hx hb dL_law_940 rfl (lv_at hl 5 rfl) ?_
    refine lv_iload hx hb dL_law_941 (lv_at hl 1 rfl) ?_
    refine lv_iconst (v := 2) hx hb dL_law_943 (by decide) ?_
    refine lv_iadd hx hb dL_law_944 ?_
    refine W.eq (g2 := F0 m 945 ls [.int 2, .ref b, .int (xs 1), .ref mo]) (by first | rfl | decide) ?_
    refine va_sld hx hb hX hbl hbA hS (by unfold vp_in; decide) dL_law_945 ?_
    refine W.eq (g2 := F0 m 946 ls [.int (xs 2), .int (xs 1), .ref mo]) rfl ?_
    obtain ⟨xcn, xia, xdr, xen, xla, xwo, xop, xmk, xir, xse, xec, xlc, xwc, xol, xal, -, hMob, -⟩ := id hMo
    refine m_kV (As := [.int (xs 1), .int (xs 2)]) (rest := []) (rm := { frames := 4, cells := 0, slots := 0, locals := 98 }) ⟨hx, hb, hml, hown, hts⟩ (c_X6_length l D k z _ mo (xs 1) (xs 2) hMo) (cwV 2 hts gL_law_X6_length rfl rfl rfl (by decide +kernel) ⟨Nat.le_of_ble_eq_true rfl, Nat.le_of_ble_eq_true rfl⟩) (m_recv hK hm (q := (RX6, TX6, 24)) rfl hMob) hz hcx hm hS rfl hl.1 rfl (Nat.le_of_ble_eq_true rfl) dL_law_946 ⟨Nat.le_of_ble_eq_true rfl, Nat.le_of_ble_eq_true rfl⟩ (fun v M1 H locs hv hm hS => ?_)
    obtain ⟨hv1, hC8⟩ := hv
    subst hv1
    have hC9 : codeIs M1 mo 2 := by
      rcases hC8 with ⟨h, h2⟩ | ⟨h, cd, h3, h2⟩
      · exact absurd ht9 h
      · rcases h3 with ⟨h4, rfl⟩ | ⟨h4, h5, rfl⟩ | ⟨h4, h5, rfl⟩
        · exact h2
        · exact absurd h4 hp9
        · exact absurd h4 hp9
    obtain ⟨Mc3, hMx⟩ : ∃ x : mM, x = M1 := ⟨M1, rfl⟩
    subst hMx
    obtain ⟨fs9, hMc⟩ := hC9
    refine W.eq (g2 := F0 m 949 ls [.int 0]) rfl ?_
    refine W.widen (k := 141) (n := 404054) (Nat.le_of_ble_eq_true rfl) (Nat.le_of_ble_eq_true rfl) ?_
    refine lv_istore (lv' := [(6, .int 0), (5, .int 2), (4, .int 0), (3, .ref oa), (2, .ref mo), (1, .ref o), (0, .ref b)]) hx hb dL_law_949 hl (by decide) rfl (fun ls hl => ?_)
    refine lv_aload_n hx hb dL_law_951 rfl (lv_at hl 4 rfl) ?_
    refine m_kV (As := []) (rest := []) (rm := { frames := 0, cells := 0, slots := 0, locals := 0 }) ⟨hx, hb, hml, hown, hts⟩ (c_X6_thrown l D k z _ mo 2 fs9 hMc) (cwV 0 hts gL_law_X6_thrown rfl rfl rfl (by decide +kernel) ⟨Nat.le_of_ble_eq_true rfl, Nat.le_of_ble_eq_true rfl⟩) (m_recv hK hm (q := (RX6, TX6, 24)) rfl hMc) hz hcx hm hS rfl hl.1 rfl (Nat.le_of_ble_eq_true rfl) dL_law_952 ⟨Nat.le_of_ble_eq_true rfl, Nat.le_of_ble_eq_true rfl⟩ (fun v M1 H locs hv hm hS => ?_)
    obtain ⟨hv1, hM1⟩ := hv
    subst hv1
    rw [hM1] at hm
    refine W.eq (g2 := F0 m 955 ls [.int 2]) rfl ?_
    refine W.widen (k := 141) (n := 404054) (Nat.le_of_ble_eq_true rfl) (Nat.le_of_ble_eq_true rfl) ?_
    refine lv_iload hx hb dL_law_955 (lv_at hl 1 rfl) ?_
    refine lv_icmp_eq (tgt := 962) hx hb dL_law_957 (by decide) (fun c3 => ?_) (fun c3 => ?_)
    · refine lv_iload hx hb dL_law_962 (lv_at hl 1 rfl) ?_
      refine lv_if_ne (tgt := 979) hx hb dL_law_964 (by decide) (fun c4 => ?_) (fun c4 => ?_)
      · refine lv_goto (tgt := 1434) hx hb dL_law_979 (by decide) ?_
        refine W.widen (k := 160) (n := 406000) (Nat.le_of_ble_eq_true rfl) (Nat.le_of_ble_eq_true rfl) ?_
        exact LC_end l hlt C0 D k z hz hz2 hcxN hS (lv_sub hl [2, 6] rfl)
      · first | exact absurd c4 (by decide) | exact absurd (by decide) c4
    · first | exact absurd c3 (by decide) | exact absurd (by decide) c3
  · subst hv1
    have hMo := mFr_k2 hk9 hMo
    refine W.eq (g2 := F0 m 931 ls [.int 3]) rfl ?_
    refine W.widen (k := 141) (n := 404054) (Nat.le_of_ble_eq_true rfl) (Nat.le_of_ble_eq_true rfl) ?_
    refine lv_istore (lv' := [(5, .int 3), (4, .int 0), (3, .ref oa), (2, .ref mo), (1, .ref o), (0, .ref b)]) hx hb dL_law_931 hl (by decide) rfl (fun ls hl => ?_)
    refine lv_aload_n hx hb dL_law_933 rfl (lv_at hl 3 rfl) ?_
    refine lv_aload_n hx hb dL_law_934 rfl (lv_at hl 5 rfl) ?_
    refine lv_iload hx hb dL_law_935 (lv_at hl 1 rfl) ?_
    refine lv_iconst (v := 1) hx hb dL_law_937 (by decide) ?_
    refine lv_iadd hx hb dL_law_938 ?_
    refine W.eq (g2 := F0 m 939 ls [.int 1, .ref b, .ref mo]) (by first | rfl | decide) ?_
    refine va_sld hx hb hX hbl hbA hS (by unfold vp_in; decide) dL_law_939 ?_
    refine W.eq (g2 := F0 m 940 ls [.int (xs 1), .ref mo]) rfl ?_
    refine lv_aload_n hx hb dL_law_940 rfl (lv_at hl 5 rfl) ?_
    refine lv_iload hx hb dL_law_941 (lv_at hl 1 rfl) ?_
    refine lv_iconst (v := 2) hx hb dL_law_943 (by decide) ?_
    refine lv_iadd hx hb dL_law_944 ?_
    refine W.eq (g2 := F0 m 945 ls [.int 2, .ref b, .int (xs 1), .ref mo]) (by first | rfl | decide) ?_
    refine va_sld hx hb hX hbl hbA hS (by unfold vp_in; decide) dL_law_945 ?_
    refine W.eq (g2 := F0 m 946 ls [.int (xs 2), .int (xs 1), .ref mo]) rfl ?_
    obtain ⟨xcn, xia, xdr, xen, xla, xwo, xop, xmk, xir, xse, xec, xlc, xwc, xol, xal, -, hMob, -⟩ := id hMo
    refine m_kV (As := [.int (xs 1), .int (xs 2)]) (rest := []) (rm := { frames := 4, cells := 0, slots := 0, locals := 98 }) ⟨hx, hb, hml, hown, hts⟩ (c_X6_length l D k z _ mo (xs 1) (xs 2) hMo) (cwV 2 hts gL_law_X6_length rfl rfl rfl (by decide +kernel) ⟨Nat.le_of_ble_eq_true rfl, Nat.le_of_ble_eq_true rfl⟩) (m_recv hK hm (q := (RX6, TX6, 24)) rfl hMob) hz hcx hm hS rfl hl.1 rfl (Nat.le_of_ble_eq_true rfl) dL_law_946 ⟨Nat.le_of_ble_eq_true rfl, Nat.le_of_ble_eq_true rfl⟩ (fun v M1 H locs hv hm hS => ?_)
    obtain ⟨hv1, hC8⟩ := hv
    subst hv1
    have hC9 : codeIs M1 mo 3 := by
      rcases hC8 with ⟨h, h2⟩ | ⟨h, cd, h3, h2⟩
      · exact absurd ht9 h
      · rcases h3 with ⟨h4, rfl⟩ | ⟨h4, h5, rfl⟩ | ⟨h4, h5, rfl⟩
        · exact absurd hp9 h4
        · exact h2
        · exact absurd h5 h09
    obtain ⟨Mc4, hMx⟩ : ∃ x : mM, x = M1 := ⟨M1, rfl⟩
    subst hMx
    obtain ⟨fs9, hMc⟩ := hC9
    refine W.eq (g2 := F0 m 949 ls [.int 0]) rfl ?_
    refine W.widen (k := 141) (n := 404054) (Nat.le_of_ble_eq_true rfl) (Nat.le_of_ble_eq_true rfl) ?_
    refine lv_istore (lv' := [(6, .int 0), (5, .int 3), (4, .int 0), (3, .ref oa), (2, .ref mo), (1, .ref o), (0, .ref b)]) hx hb dL_law_949 hl (by decide) rfl (fun ls hl => ?_)
    refine lv_aload_n hx hb dL_law_951 rfl (lv_at hl 4 rfl) ?_
    refine m_kV (As := []) (rest := []) (rm := { frames := 0, cells := 0, slots := 0, locals := 0 }) ⟨hx, hb, hml, hown, hts⟩ (c_X6_thrown l D k z _ mo 3 fs9 hMc) (cwV 0 hts gL_law_X6_thrown rfl rfl rfl (by decide +kernel) ⟨Nat.le_of_ble_eq_true rfl, Nat.le_of_ble_eq_true rfl⟩) (m_recv hK hm (q := (RX6, TX6, 24)) rfl hMc) hz hcx hm hS rfl hl.1 rfl (Nat.le_of_ble_eq_true rfl) dL_law_952 ⟨Nat.le_of_ble_eq_true rfl, Nat.le_of_ble_eq_true rfl⟩ (fun v M1 H locs hv hm hS => ?_)
    obtain ⟨hv1, hM1⟩ := hv
    subst hv1
    rw [hM1] at hm
    refine W.eq (g2 := F0 m 955 ls [.int 3]) rfl ?_
    refine W.widen (k := 141) (n := 404054) (Nat.le_of_ble_eq_true rfl) (Nat.le_of_ble_eq_true rfl) ?_
    refine lv_iload hx hb dL_law_955 (lv_at hl 1 rfl) ?_
    refine lv_icmp_eq (tgt := 962) hx hb dL_law_957 (by decide) (fun c5 => ?_) (fun c5 => ?_)
    · refine lv_iload hx hb dL_law_962 (lv_at hl 1 rfl) ?_
      refine lv_if_ne (tgt := 979) hx hb dL_law_964 (by decide) (fun c6 => ?_) (fun c6 => ?_)
      · refine lv_goto (tgt := 1434) hx hb dL_law_979 (by decide) ?_
        refine W.widen (k := 160) (n := 406000) (Nat.le_of_ble_eq_true rfl) (Nat.le_of_ble_eq_true rfl) ?_
        exact LC_end l hlt C0 D k z hz hz2 hcxN hS (lv_sub hl [2, 6] rfl)
      · first | exact absurd c6 (by decide) | exact absurd (by decide) c6
    · first | exact absurd c5 (by decide) | exact absurd (by decide) c5
  · subst hv1
    have hMo := mFr_k2 hk9 hMo
    refine W.eq (g2 := F0 m 931 ls [.int 4]) rfl ?_
    refine W.widen (k := 141) (n := 404054) (Nat.le_of_ble_eq_true rfl) (Nat.le_of_ble_eq_true rfl) ?_
    refine lv_istore (lv' := [(5, .int 4), (4, .int 0), (3, .ref oa), (2, .ref mo), (1, .ref o), (0, .ref b)]) hx hb dL_law_931 hl (by decide) rfl (fun ls hl => ?_)
    refine lv_aload_n hx hb dL_law_933 rfl (lv_at hl 3 rfl) ?_
    refine lv_aload_n hx hb dL_law_934 rfl (lv_at hl 5 rfl) ?_
    refine lv_iload hx hb dL_law_935 (lv_at hl 1 rfl) ?_
    refine lv_iconst (v := 1) hx hb dL_law_937 (by decide) ?_
    refine lv_iadd hx hb dL_law_938 ?_
    refine W.eq (g2 := F0 m 939 ls [.int 1, .ref b, .ref mo]) (by first | rfl | decide) ?_
    refine va_sld hx hb hX hbl hbA hS (by unfold vp_in; decide) dL_law_939 ?_
    refine W.eq (g2 := F0 m 940 ls [.int (xs 1), .ref mo]) rfl ?_
    refine lv_aload_n hx hb dL_law_940 rfl (lv_at hl 5 rfl) ?_
    refine lv_iload hx hb dL_law_941 (lv_at hl 1 rfl) ?_
    refine lv_iconst (v := 2) hx hb dL_law_943 (by decide) ?_
    refine lv_iadd hx hb dL_law_944 ?_
    refine W.eq (g2 := F0 m 945 ls [.int 2, .ref b, .int (xs 1), .ref mo]) (by first | rfl | decide) ?_
    refine va_sld hx hb hX hbl hbA hS (by unfold vp_in; decide) dL_law_945 ?_
    refine W.eq (g2 := F0 m 946 ls [.int (xs 2), .int (xs 1), .ref mo]) rfl ?_
    obtain ⟨xcn, xia, xdr, xen, xla, xwo, xop, xmk, xir, xse, xec, xlc, xwc, xol, xal, -, hMob, -⟩ := id hMo
    refine m_kV (As := [.int (xs 1), .int (xs 2)]) (rest := []) (rm := { frames := 4, cells := 0, slots := 0, locals := 98 }) ⟨hx, hb, hml, hown, hts⟩ (c_X6_length l D k z _ mo (xs 1) (xs 2) hMo) (cwV 2 hts gL_law_X6_length rfl rfl rfl (by decide +kernel) ⟨Nat.le_of_ble_eq_true rfl, Nat.le_of_ble_eq_true rfl⟩) (m_recv hK hm (q := (RX6, TX6, 24)) rfl hMob) hz hcx hm hS rfl hl.1 rfl (Nat.le_of_ble_eq_true rfl) dL_law_946 ⟨Nat.le_of_ble_eq_true rfl, Nat.le_of_ble_eq_true rfl⟩ (fun v M1 H locs hv hm hS => ?_)
    obtain ⟨hv1, hC8⟩ := hv
    subst hv1
    have hC9 : codeIs M1 mo 4 := by
      rcases hC8 with ⟨h, h2⟩ | ⟨h, cd, h3, h2⟩
      · exact absurd ht9 h
      · rcases h3 with ⟨h4, rfl⟩ | ⟨h4, h5, rfl⟩ | ⟨h4, h5, rfl⟩
        · exact absurd hp9 h4
        · exact absurd h09 h5
        · exact h2
    obtain ⟨Mc5, hMx⟩ : ∃ x : mM, x = M1 := ⟨M1, rfl⟩
    subst hMx
    obtain ⟨fs9, hMc⟩ := hC9
    refine W.eq (g2 := F0 m 949 ls [.int 0]) rfl ?_
    refine W.widen (k := 141) (n := 404054) (Nat.le_of_ble_eq_true rfl) (Nat.le_of_ble_eq_true rfl) ?_
    refine lv_istore (lv' := [(6, .int 0), (5, .int 4), (4, .int 0), (3, .ref oa), (2, .ref mo), (1, .ref o), (0, .ref b)]) hx hb dL_law_949 hl (by decide) rfl (fun ls hl => ?_)
    refine lv_aload_n hx hb dL_law_951 rfl (lv_at hl 4 rfl) ?_
    refine m_kV (As := []) (rest := []) (rm := { frames := 0, cells := 0, slots := 0, locals := 0 }) ⟨hx, hb, hml, hown, hts⟩ (c_X6_thrown l D k z _ mo 4 fs9 hMc) (cwV 0 hts gL_law_X6_thrown rfl rfl rfl (by decide +kernel) ⟨Nat.le_of_ble_eq_true rfl, Nat.le_of_ble_eq_true rfl⟩) (m_recv hK hm (q := (RX6, TX6, 24)) rfl hMc) hz hcx hm hS rfl hl.1 rfl (Nat.le_of_ble_eq_true rfl) dL_law_952 ⟨Nat.le_of_ble_eq_true rfl, Nat.le_of_ble_eq_true rfl⟩ (fun v M1 H locs hv hm hS => ?_)
    obtain ⟨hv1, hM1⟩ := hv
    subst hv1
    rw [hM1] at hm
    refine W.eq (g2 := F0 m 955 ls [.int 4]) rfl ?_
    refine W.widen (k := 141) (n := 404054) (Nat.le_of_ble_eq_true rfl) (Nat.le_of_ble_eq_true rfl) ?_
    refine lv_iload hx hb dL_law_955 (lv_at hl 1 rfl) ?_
    refine lv_icmp_eq (tgt := 962) hx hb dL_law_957 (by decide) (fun c7 => ?_) (fun c7 => ?_)
    · refine lv_iload hx hb dL_law_962 (lv_at hl 1 rfl) ?_
      refine lv_if_ne (tgt := 979) hx hb dL_law_964 (by decide) (fun c8 => ?_) (fun c8 => ?_)
      · refine lv_goto (tgt := 1434) hx hb dL_law_979 (by decide) ?_
        refine W.widen (k := 160) (n := 406000) (Nat.le_of_ble_eq_true rfl) (Nat.le_of_ble_eq_true rfl) ?_
        exact LC_end l hlt C0 D k z hz hz2 hcxN hS (lv_sub hl [2, 6] rfl)
      · first | exact absurd c8 (by decide) | exact absurd (by decide) c8
    · first | exact absurd c7 (by decide) | exact absurd (by decide) c7

set_option maxHeartbeats 4000000 in
set_option maxRecDepth 100000 in
theorem LC_kind {p : Program} {e : Env} {s : State} {m : MethodId} {below : List Frame} {meth : Method} {c : Code} (l : Launch) (hlt : l.stackTraces = false) {b : Nat} {xs : Nat → Int32} (C0 : lw_At p s m meth c b 5 xs) (D : va_G) (k : Nat → ClassId) (z : Nat) (hz : z ≤ s.heap.size) (hz2 : s.heap.size ≤ z) (hcxN : cxN D k (AZ z) s) (o mo oa : Nat) (g9 : Nat → Int64) (M : mM) {H : Heap} {locs : List Loc} {ls : Array Slot} (hm : mm D (AZ z) M H) (hS : va_S (AZ z) s.heap H locs) (hF : cFr k M o) (hMo : mFr k M mo 0) (hoa : M oa = some (.inl (k 1, 1, .inr (.inl g9)))) (hl : lv_has ls 7 [(4, .int 0), (3, .ref oa), (2, .ref mo), (1, .ref o), (0, .ref b)]) : W p l e room_1 s m #[Value.ref b] below meth c H locs 138 404036 (lw_Z below #[Value.ref b] s) (F0 m 982 ls []) := by
  obtain ⟨hx, hb, hr, hml, hown, hts0, hX, hbl, hlocks, hgv⟩ := id C0
  have hts : ∀ w ∈ wsL_law, w.before #[Value.ref b] s = true := fun w h => hts0 w (wl_in w h)
  have hcx := hcxN.1
  have hK := hcx.1
  have hA : ∀ q, s.heap.size ≤ q → AZ z q := fun q h => Nat.le_trans hz h
  have hbA : ¬ AZ z b := fun h => absurd (Nat.le_trans hz2 h) (Nat.not_le.mpr hbl)
  refine lv_aload_n hx hb dL_law_982 rfl (lv_at hl 3 rfl) ?_
  refine lv_aload_n hx hb dL_law_983 rfl (lv_at hl 4 rfl) ?_
  refine lv_iload hx hb dL_law_984 (lv_at hl 0 rfl) ?_
  refine lv_iconst (v := 1) hx hb dL_law_986 (by decide) ?_
  refine lv_iadd hx hb dL_law_987 ?_
  refine W.eq (g2 := F0 m 988 ls [.int 1, .ref b, .ref o]) (by first | rfl | decide) ?_
  refine va_sld hx hb hX hbl hbA hS (by unfold vp_in; decide) dL_law_988 ?_
  refine W.eq (g2 := F0 m 989 ls [.int (xs 1), .ref o]) rfl ?_
  refine lv_aload_n hx hb dL_law_989 rfl (lv_at hl 4 rfl) ?_
  refine lv_iload hx hb dL_law_990 (lv_at hl 0 rfl) ?_
  refine lv_iconst (v := 2) hx hb dL_law_992 (by decide) ?_
  refine lv_iadd hx hb dL_law_993 ?_
  refine W.eq (g2 := F0 m 994 ls [.int 2, .ref b, .int (xs 1), .ref o]) (by first | rfl | decide) ?_
  refine va_sld hx hb hX hbl hbA hS (by unfold vp_in; decide) dL_law_994 ?_
  refine W.eq (g2 := F0 m 995 ls [.int (xs 2), .int (xs 1), .ref o]) rfl ?_
  refine lv_aload_n hx hb dL_law_995 rfl (lv_at hl 1 rfl) ?_
  refine m_kSW (hh := [(0, 10, 13, 13), (0, 10, 17, 31)]) (As := [.ref o, .int (xs 1), .int (xs 2), .ref oa]) (rest := []) (rm := { frames := 9, cells := 2, slots := 12, locals := 149 }) ⟨hx, hb, hml, hown, hts⟩ (H_kind l hlt D k z _ o oa g9 hF hoa (xs 1) (xs 2)) (vx_cwSW 4 hts gL_law_L_kind rfl rfl rfl (by decide +kernel) ⟨Nat.le_of_ble_eq_true rfl, Nat.le_of_ble_eq_true rfl⟩) hz hcxN hm hS rfl hl.1 rfl (Nat.le_of_ble_eq_true rfl) dL_law_996 ⟨Nat.le_of_ble_eq_true rfl, Nat.le_of_ble_eq_true rfl⟩ (fun v M1 H locs hv hm hS => ?_)
  obtain ⟨Mc1, hMx⟩ : ∃ x : mM, x = M1 := ⟨M1, rfl⟩
  subst hMx
  obtain ⟨hv2, hk9⟩ := hv
  rcases hv2 with ⟨ht9, hv1⟩ | ⟨ht9, ⟨hp9, hv1⟩ | ⟨hp9, h09, hv1, hO8⟩ | ⟨hp9, h09, hv1, hO8⟩⟩
  · subst hv1
    have hMo := mFr_k2 hk9 hMo
    refine W.eq (g2 := F0 m 999 ls [.int 1]) rfl ?_
    refine W.widen (k := 140) (n := 404048) (Nat.le_of_ble_eq_true rfl) (Nat.le_of_ble_eq_true rfl) ?_
    refine lv_istore (lv' := [(5, .int 1), (4, .int 0), (3, .ref oa), (2, .ref mo), (1, .ref o), (0, .ref b)]) hx hb dL_law_999 hl (by decide) rfl (fun ls hl => ?_)
    refine lv_aload_n hx hb dL_law_1001 rfl (lv_at hl 3 rfl) ?_
    refine lv_aload_n hx hb dL_law_1002 rfl (lv_at hl 5 rfl) ?_
    refine lv_iload hx hb dL_law_1003 (lv_at hl 1 rfl) ?_
    refine lv_iconst (v := 1) hx hb dL_law_1005 (by decide) ?_
    refine lv_iadd hx hb dL_law_1006 ?_
    refine W.eq (g2 := F0 m 1007 ls [.int 1, .ref b, .ref mo]) (by first | rfl | decide) ?_
    refine va_sld hx hb hX hbl hbA hS (by unfold vp_in; decide) dL_law_1007 ?_
    refine W.eq (g2 := F0 m 1008 ls [.int (xs 1), .ref mo]) rfl ?_
    refine lv_aload_n hx hb dL_law_1008 rfl (lv_at hl 5 rfl) ?_
    refine lv_iload hx hb dL_law_1009 (lv_at hl 1 rfl) ?_
    refine lv_iconst (v := 2) hx hb dL_law_1011 (by decide) ?_
    refine lv_iadd hx hb dL_law_1012 ?_
    refine W.eq (g2 := F0 m 1013 ls [.int 2, .ref b, .int (xs 1), .ref mo]) (by first | rfl | decide) ?_
    refine va_sld hx hb hX hbl hbA hS (by unfold vp_in; decide) dL_law_1013 ?_
    refine W.eq (g2 := F0 m 1014 ls [.int (xs 2), .int (xs 1), .ref mo]) rfl ?_
    obtain ⟨xcn, xia, xdr, xen, xla, xwo, xop, xmk, xir, xse, xec, xlc, xwc, xol, xal, -, hMob, -⟩ := id hMo
    refine m_kV (As := [.int (xs 1), .int (xs 2)]) (rest := []) (rm := { frames := 3, cells := 0, slots := 0, locals := 73 }) ⟨hx, hb, hml, hown, hts⟩ (cL_X6_kind l D k z _ mo (xs 1) (xs 2) hMo) (cwV 2 hts gL_law_X6_kind rfl rfl rfl (by decide +kernel) ⟨Nat.le_of_ble_eq_true rfl, Nat.le_of_ble_eq_true rfl⟩) (m_recv hK hm (q := (RX6, TX6, 24)) rfl hMob) hz hcx hm hS rfl hl.1 rfl (Nat.le_of_ble_eq_true rfl) dL_law_1014 ⟨Nat.le_of_ble_eq_true rfl, Nat.le_of_ble_eq_true rfl⟩ (fun v M1 H locs hv hm hS => ?_)
    obtain ⟨hv3, hL9⟩ := hv
    have hvC : v = some (.int 0) ∧ codeIs M1 mo 1 := by
      rcases hv3 with ⟨h, h2, h3⟩ | ⟨h, ⟨h4, h2, h3⟩ | ⟨h4, h5, h2, h3⟩ | ⟨h4, h5, h2, h3⟩⟩
      · exact ⟨h2, h3⟩
      · exact absurd h ht9
      · exact absurd h ht9
      · exact absurd h ht9
    obtain ⟨hv1, hC9⟩ := hvC
    subst hv1
    obtain ⟨Mc2, hMx⟩ : ∃ x : mM, x = M1 := ⟨M1, rfl⟩
    subst hMx
    obtain ⟨fs9, hMc⟩ := hC9
    refine W.eq (g2 := F0 m 1017 ls [.int 0]) rfl ?_
    refine W.widen (k := 140) (n := 404048) (Nat.le_of_ble_eq_true rfl) (Nat.le_of_ble_eq_true rfl) ?_
    refine lv_istore (lv' := [(6, .int 0), (5, .int 1), (4, .int 0), (3, .ref oa), (2, .ref mo), (1, .ref o), (0, .ref b)]) hx hb dL_law_1017 hl (by decide) rfl (fun ls hl => ?_)
    refine lv_aload_n hx hb dL_law_1019 rfl (lv_at hl 4 rfl) ?_
    refine m_kV (As := []) (rest := []) (rm := { frames := 0, cells := 0, slots := 0, locals := 0 }) ⟨hx, hb, hml, hown, hts⟩ (c_X6_thrown l D k z _ mo 1 fs9 hMc) (cwV 0 hts gL_law_X6_thrown rfl rfl rfl (by decide +kernel) ⟨Nat.le_of_ble_eq_true rfl, Nat.le_of_ble_eq_true rfl⟩) (m_recv hK hm (q := (RX6, TX6, 24)) rfl hMc) hz hcx hm hS rfl hl.1 rfl (Nat.le_of_ble_eq_true rfl) dL_law_1020 ⟨Nat.le_of_ble_eq_true rfl, Nat.le_of_ble_eq_true rfl⟩ (fun v M1 H locs hv hm hS => ?_)
    obtain ⟨hv1, hM1⟩ := hv
    subst hv1
    rw [hM1] at hm
    refine W.eq (g2 := F0 m 1023 ls [.int 1]) rfl ?_
    refine W.widen (k := 140) (n := 404048) (Nat.le_of_ble_eq_true rfl) (Nat.le_of_ble_eq_true rfl) ?_
    refine lv_iload hx hb dL_law_1023 (lv_at hl 1 rfl) ?_
    refine lv_icmp_eq (tgt := 1030) hx hb dL_law_1025 (by decide) (fun c1 => ?_) (fun c1 => ?_)
    · refine lv_iload hx hb dL_law_1030 (lv_at hl 1 rfl) ?_
      refine lv_if_ne (tgt := 1047) hx hb dL_law_1032 (by decide) (fun c2 => ?_) (fun c2 => ?_)
      · refine lv_goto (tgt := 1434) hx hb dL_law_1047 (by decide) ?_
        refine W.widen (k := 160) (n := 406000) (Nat.le_of_ble_eq_true rfl) (Nat.le_of_ble_eq_true rfl) ?_
        exact LC_end l hlt C0 D k z hz hz2 hcxN hS (lv_sub hl [2, 6] rfl)
      · first | exact absurd c2 (by decide) | exact absurd (by decide) c2
    · first | exact absurd c1 (by decide) | exact absurd (by decide) c1
  · subst hv1
    have hMo := mFr_k2 hk9 hMo
    refine W.eq (g2 := F0 m 999 ls [.int 2]) rfl ?_
    refine W.widen (k := 140) (n := 404048) (Nat.le_of_ble_eq_true rfl) (Nat.le_of_ble_eq_true rfl) ?_
    refine lv_istore (lv' := [(5, .int 2), (4, .int 0), (3, .ref oa), (2, .ref mo), (1, .ref o), (0, .ref b)]) hx hb dL_law_999 hl (by decide) rfl (fun ls hl => ?_)
    refine lv_aload_n hx hb dL_law_1001 rfl (lv_at hl 3 rfl) ?_
    refine lv_aload_n hx hb dL_law_1002 rfl (lv_at hl 5 rfl) ?_
    refine lv_iload hx hb dL_law_1003 (lv_at hl 1 rfl) ?_
    refine lv_iconst (v := 1) hx hb dL_law_1005 (by decide) ?_
    refine lv_iadd hx hb dL_law_1006 ?_
    refine W.eq (g2 := F0 m 1007 ls [.int 1, .ref b, .ref mo]) (by first | rfl | decide) ?_
    refine va_sld hx hb hX hbl hbA hS (by unfold vp_in; decide) dL_law_1007 ?_
    refine W.eq (g2 := F0 m 1008 ls [.int (xs 1), .ref mo]) rfl ?_
    refine lv_aload_n hx hb dL_law_1008 rfl (lv_at hl 5 rfl) ?_
    refine lv_iload hx hb dL_law_1009 (lv_at hl 1 rfl) ?_
    refine lv_iconst (v := 2) hx hb dL_law_1011 (by decide) ?_
    refine lv_iadd hx hb dL_law_1012 ?_
    refine W.eq (g2 := F0 m 1013 ls [.int 2, .ref b, .int (xs 1), .ref mo]) (by first | rfl | decide) ?_
    refine va_sld hx hb hX hbl hbA hS (by unfold vp_in; decide) dL_law_1013 ?_
    refine W.eq (g2 := F0 m 1014 ls [.int (xs 2), .int (xs 1), .ref mo]) rfl ?_
    obtain ⟨xcn, xia, xdr, xen, xla, xwo, xop, xmk, xir, xse, xec, xlc, xwc, xol, xal, -, hMob, -⟩ := id hMo
    refine m_kV (As := [.int (xs 1), .int (xs 2)]) (rest := []) (rm := { frames := 3, cells := 0, slots := 0, locals := 73 }) ⟨hx, hb, hml, hown, hts⟩ (cL_X6_kind l D k z _ mo (xs 1) (xs 2) hMo) (cwV 2 hts gL_law_X6_kind rfl rfl rfl (by decide +kernel) ⟨Nat.le_of_ble_eq_true rfl, Nat.le_of_ble_eq_true rfl⟩) (m_recv hK hm (q := (RX6, TX6, 24)) rfl hMob) hz hcx hm hS rfl hl.1 rfl (Nat.le_of_ble_eq_true rfl) dL_law_1014 ⟨Nat.le_of_ble_eq_true rfl, Nat.le_of_ble_eq_true rfl⟩ (fun v M1 H locs hv hm hS => ?_)
    obtain ⟨hv3, hL9⟩ := hv
    have hvC : v = some (.int 0) ∧ codeIs M1 mo 2 := by
      rcases hv3 with ⟨h, h2, h3⟩ | ⟨h, ⟨h4, h2, h3⟩ | ⟨h4, h5, h2, h3⟩ | ⟨h4, h5, h2, h3⟩⟩
      · exact absurd ht9 h
      · exact ⟨h2, h3⟩
      · exact absurd h4 hp9
      · exact absurd h4 hp9
    obtain ⟨hv1, hC9⟩ := hvC
    subst hv1
    obtain ⟨Mc3, hMx⟩ : ∃ x : mM, x = M1 := ⟨M1, rfl⟩
    subst hMx
    obtain ⟨fs9, hMc⟩ := hC9
    refine W.eq (g2 := F0 m 1017 ls [.int 0]) rfl ?_
    refine W.widen (k := 140) (n := 404048) (Nat.le_of_ble_eq_true rfl) (Nat.le_of_ble_eq_true rfl) ?_
    refine lv_istore (lv' := [(6, .int 0), (5, .int 2), (4, .int 0), (3, .ref oa), (2, .ref mo), (1, .ref o), (0, .ref b)]) hx hb dL_law_1017 hl (by decide) rfl (fun ls hl => ?_)
    refine lv_aload_n hx hb dL_law_1019 rfl (lv_at hl 4 rfl) ?_
    refine m_kV (As := []) (rest := []) (rm := { frames := 0, cells := 0, slots := 0, locals := 0 }) ⟨hx, hb, hml, hown, hts⟩ (c_X6_thrown l D k z _ mo 2 fs9 hMc) (cwV 0 hts gL_law_X6_thrown rfl rfl rfl (by decide +kernel) ⟨Nat.le_of_ble_eq_true rfl, Nat.le_of_ble_eq_true rfl⟩) (m_recv hK hm (q := (RX6, TX6, 24)) rfl hMc) hz hcx hm hS rfl hl.1 rfl (Nat.le_of_ble_eq_true rfl) dL_law_1020 ⟨Nat.le_of_ble_eq_true rfl, Nat.le_of_ble_eq_true rfl⟩ (fun v M1 H locs hv hm hS => ?_)
    obtain ⟨hv1, hM1⟩ := hv
    subst hv1
    rw [hM1] at hm
    refine W.eq (g2 := F0 m 1023 ls [.int 2]) rfl ?_
    refine W.widen (k := 140) (n := 404048) (Nat.le_of_ble_eq_true rfl) (Nat.le_of_ble_eq_true rfl) ?_
    refine lv_iload hx hb dL_law_1023 (lv_at hl 1 rfl) ?_
    refine lv_icmp_eq (tgt := 1030) hx hb dL_law_1025 (by decide) (fun c3 => ?_) (fun c3 => ?_)
    · refine lv_iload hx hb dL_law_1030 (lv_at hl 1 rfl) ?_
      refine lv_if_ne (tgt := 1047) hx hb dL_law_1032 (by decide) (fun c4 => ?_) (fun c4 => ?_)
      · refine lv_goto (tgt := 1434) hx hb dL_law_1047 (by decide) ?_
        refine W.widen (k := 160) (n := 406000) (Nat.le_of_ble_eq_true rfl) (Nat.le_of_ble_eq_true rfl) ?_
        exact LC_end l hlt C0 D k z hz hz2 hcxN hS (lv_sub hl [2, 6] rfl)
      · first | exact absurd c4 (by decide) | exact absurd (by decide) c4
    · first | exact absurd c3 (by decide) | exact absurd (by decide) c3
  · subst hv1
    have hMo := mFr_k2 hk9 hMo
    obtain ⟨g8, hO7, hg8⟩ := hO8
    refine W.eq (g2 := F0 m 999 ls [.int 0]) rfl ?_
    refine W.widen (k := 140) (n := 404048) (Nat.le_of_ble_eq_true rfl) (Nat.le_of_ble_eq_true rfl) ?_
    refine lv_istore (lv' := [(5, .int 0), (4, .int 0), (3, .ref oa), (2, .ref mo), (1, .ref o), (0, .ref b)]) hx hb dL_law_999 hl (by decide) rfl (fun ls hl => ?_)
    refine lv_aload_n hx hb dL_law_1001 rfl (lv_at hl 3 rfl) ?_
    refine lv_aload_n hx hb dL_law_1002 rfl (lv_at hl 5 rfl) ?_
    refine lv_iload hx hb dL_law_1003 (lv_at hl 1 rfl) ?_
    refine lv_iconst (v := 1) hx hb dL_law_1005 (by decide) ?_
    refine lv_iadd hx hb dL_law_1006 ?_
    refine W.eq (g2 := F0 m 1007 ls [.int 1, .ref b, .ref mo]) (by first | rfl | decide) ?_
    refine va_sld hx hb hX hbl hbA hS (by unfold vp_in; decide) dL_law_1007 ?_
    refine W.eq (g2 := F0 m 1008 ls [.int (xs 1), .ref mo]) rfl ?_
    refine lv_aload_n hx hb dL_law_1008 rfl (lv_at hl 5 rfl) ?_
    refine lv_iload hx hb dL_law_1009 (lv_at hl 1 rfl) ?_
    refine lv_iconst (v := 2) hx hb dL_law_1011 (by decide) ?_
    refine lv_iadd hx hb dL_law_1012 ?_
    refine W.eq (g2 := F0 m 1013 ls [.int 2, .ref b, .int (xs 1), .ref mo]) (by first | rfl | decide) ?_
    refine va_sld hx hb hX hbl hbA hS (by unfold vp_in; decide) dL_law_1013 ?_
    refine W.eq (g2 := F0 m 1014 ls [.int (xs 2), .int (xs 1), .ref mo]) rfl ?_
    obtain ⟨xcn, xia, xdr, xen, xla, xwo, xop, xmk, xir, xse, xec, xlc, xwc, xol, xal, -, hMob, -⟩ := id hMo
    refine m_kV (As := [.int (xs 1), .int (xs 2)]) (rest := []) (rm := { frames := 3, cells := 0, slots := 0, locals := 73 }) ⟨hx, hb, hml, hown, hts⟩ (cL_X6_kind l D k z _ mo (xs 1) (xs 2) hMo) (cwV 2 hts gL_law_X6_kind rfl rfl rfl (by decide +kernel) ⟨Nat.le_of_ble_eq_true rfl, Nat.le_of_ble_eq_true rfl⟩) (m_recv hK hm (q := (RX6, TX6, 24)) rfl hMob) hz hcx hm hS rfl hl.1 rfl (Nat.le_of_ble_eq_true rfl) dL_law_1014 ⟨Nat.le_of_ble_eq_true rfl, Nat.le_of_ble_eq_true rfl⟩ (fun v M1 H locs hv hm hS => ?_)
    obtain ⟨hv3, hL9⟩ := hv
    have hvC : v = some (.int 1) ∧ codeIs M1 mo 0 := by
      rcases hv3 with ⟨h, h2, h3⟩ | ⟨h, ⟨h4, h2, h3⟩ | ⟨h4, h5, h2, h3⟩ | ⟨h4, h5, h2, h3⟩⟩
      · exact absurd ht9 h
      · exact absurd hp9 h4
      · exact ⟨h2, h3⟩
      · exact absurd h09 h5
    obtain ⟨hv1, hC9⟩ := hvC
    subst hv1
    have hO6 := hL9 _ _ _ hO7
    obtain ⟨Mc4, hMx⟩ : ∃ x : mM, x = M1 := ⟨M1, rfl⟩
    subst hMx
    obtain ⟨fs9, hMc⟩ := hC9
    refine W.eq (g2 := F0 m 1017 ls [.int 1]) rfl ?_
    refine W.widen (k := 140) (n := 404048) (Nat.le_of_ble_eq_true rfl) (Nat.le_of_ble_eq_true rfl) ?_
    refine lv_istore (lv' := [(6, .int 1), (5, .int 0), (4, .int 0), (3, .ref oa), (2, .ref mo), (1, .ref o), (0, .ref b)]) hx hb dL_law_1017 hl (by decide) rfl (fun ls hl => ?_)
    refine lv_aload_n hx hb dL_law_1019 rfl (lv_at hl 4 rfl) ?_
    refine m_kV (As := []) (rest := []) (rm := { frames := 0, cells := 0, slots := 0, locals := 0 }) ⟨hx, hb, hml, hown, hts⟩ (c_X6_thrown l D k z _ mo 0 fs9 hMc) (cwV 0 hts gL_law_X6_thrown rfl rfl rfl (by decide +kernel) ⟨Nat.le_of_ble_eq_true rfl, Nat.le_of_ble_eq_true rfl⟩) (m_recv hK hm (q := (RX6, TX6, 24)) rfl hMc) hz hcx hm hS rfl hl.1 rfl (Nat.le_of_ble_eq_true rfl) dL_law_1020 ⟨Nat.le_of_ble_eq_true rfl, Nat.le_of_ble_eq_true rfl⟩ (fun v M1 H locs hv hm hS => ?_)
    obtain ⟨hv1, hM1⟩ := hv
    subst hv1
    rw [hM1] at hm
    refine W.eq (g2 := F0 m 1023 ls [.int 0]) rfl ?_
    refine W.widen (k := 140) (n := 404048) (Nat.le_of_ble_eq_true rfl) (Nat.le_of_ble_eq_true rfl) ?_
    refine lv_iload hx hb dL_law_1023 (lv_at hl 1 rfl) ?_
    refine lv_icmp_eq (tgt := 1030) hx hb dL_law_1025 (by decide) (fun c5 => ?_) (fun c5 => ?_)
    · refine lv_iload hx hb dL_law_1030 (lv_at hl 1 rfl) ?_
      refine lv_if_ne (tgt := 1047) hx hb dL_law_1032 (by decide) (fun c6 => ?_) (fun c6 => ?_)
      · first | exact absurd c6 (by decide) | exact absurd (by decide) c6
      · refine lv_aload_n hx hb dL_law_1035 rfl (lv_at hl 3 rfl) ?_
        refine lv_iconst (v := 0) hx hb dL_law_1036 (by decide) ?_
        refine m_lald hx hb hK hm 1 hO6 rfl (by unfold vp_in; decide) dL_law_1037 ?_
        refine lv_iload hx hb dL_law_1038 (lv_at hl 0 rfl) ?_
        refine lv_i2l (v := (1).toInt64) hx hb dL_law_1040 rfl ?_
        refine W.eq (g2 := F0 m 1041 ls [.long 1, .long 1]) (by first | (rw [show g8 (0 : Int32).toNatClampNeg = 1 from hg8]; done) | (rw [show g8 (0 : Int32).toNatClampNeg = 1 from hg8]; rfl)) ?_
        refine W.lcmp hx hb dL_law_1041 ?_
        refine lv_if_eq (tgt := 1047) hx hb dL_law_1042 (by decide) (fun c7 => ?_) (fun c7 => ?_)
        · refine lv_goto (tgt := 1434) hx hb dL_law_1047 (by decide) ?_
          refine W.widen (k := 160) (n := 406000) (Nat.le_of_ble_eq_true rfl) (Nat.le_of_ble_eq_true rfl) ?_
          exact LC_end l hlt C0 D k z hz hz2 hcxN hS (lv_sub hl [2, 6] rfl)
        · exact absurd (lg_self _) c7
    · first | exact absurd c5 (by decide) | exact absurd (by decide) c5
  · subst hv1
    have hMo := mFr_k2 hk9 hMo
    obtain ⟨g8, hO7, hg8⟩ := hO8
    refine W.eq (g2 := F0 m 999 ls [.int 0]) rfl ?_
    refine W.widen (k := 140) (n := 404048) (Nat.le_of_ble_eq_true rfl) (Nat.le_of_ble_eq_true rfl) ?_
    refine lv_istore (lv' := [(5, .int 0), (4, .int 0), (3, .ref oa), (2, .ref mo), (1, .ref o), (0, .ref b)]) hx hb dL_law_999 hl (by decide) rfl (fun ls hl => ?_)
    refine lv_aload_n hx hb dL_law_1001 rfl (lv_at hl 3 rfl) ?_
    refine lv_aload_n hx hb dL_law_1002 rfl (lv_at hl 5 rfl) ?_
    refine lv_iload hx hb dL_law_1003 (lv_at hl 1 rfl) ?_
    refine lv_iconst (v := 1) hx hb dL_law_1005 (by decide) ?_
    refine lv_iadd hx hb dL_law_1006 ?_
    refine W.eq (g2 := F0 m 1007 ls [.int 1, .ref b, .ref mo]) (by first | rfl | decide) ?_
    refine va_sld hx hb hX hbl hbA hS (by unfold vp_in; decide) dL_law_1007 ?_
    refine W.eq (g2 := F0 m 1008 ls [.int (xs 1), .ref mo]) rfl ?_
    refine lv_aload_n hx hb dL_law_1008 rfl (lv_at hl 5 rfl) ?_
    refine lv_iload hx hb dL_law_1009 (lv_at hl 1 rfl) ?_
    refine lv_iconst (v := 2) hx hb dL_law_1011 (by decide) ?_
    refine lv_iadd hx hb dL_law_1012 ?_
    refine W.eq (g2 := F0 m 1013 ls [.int 2, .ref b, .int (xs 1), .ref mo]) (by first | rfl | decide) ?_
    refine va_sld hx hb hX hbl hbA hS (by unfold vp_in; decide) dL_law_1013 ?_
    refine W.eq (g2 := F0 m 1014 ls [.int (xs 2), .int (xs 1), .ref mo]) rfl ?_
    obtain ⟨xcn, xia, xdr, xen, xla, xwo, xop, xmk, xir, xse, xec, xlc, xwc, xol, xal, -, hMob, -⟩ := id hMo
    refine m_kV (As := [.int (xs 1), .int (xs 2)]) (rest := []) (rm := { frames := 3, cells := 0, slots := 0, locals := 73 }) ⟨hx, hb, hml, hown, hts⟩ (cL_X6_kind l D k z _ mo (xs 1) (xs 2) hMo) (cwV 2 hts gL_law_X6_kind rfl rfl rfl (by decide +kernel) ⟨Nat.le_of_ble_eq_true rfl, Nat.le_of_ble_eq_true rfl⟩) (m_recv hK hm (q := (RX6, TX6, 24)) rfl hMob) hz hcx hm hS rfl hl.1 rfl (Nat.le_of_ble_eq_true rfl) dL_law_1014 ⟨Nat.le_of_ble_eq_true rfl, Nat.le_of_ble_eq_true rfl⟩ (fun v M1 H locs hv hm hS => ?_)
    obtain ⟨hv3, hL9⟩ := hv
    have hvC : v = some (.int 0) ∧ codeIs M1 mo 0 := by
      rcases hv3 with ⟨h, h2, h3⟩ | ⟨h, ⟨h4, h2, h3⟩ | ⟨h4, h5, h2, h3⟩ | ⟨h4, h5, h2, h3⟩⟩
      · exact absurd ht9 h
      · exact absurd hp9 h4
      · exact absurd h5 h09
      · exact ⟨h2, h3⟩
    obtain ⟨hv1, hC9⟩ := hvC
    subst hv1
    have hO6 := hL9 _ _ _ hO7
    obtain ⟨Mc5, hMx⟩ : ∃ x : mM, x = M1 := ⟨M1, rfl⟩
    subst hMx
    obtain ⟨fs9, hMc⟩ := hC9
    refine W.eq (g2 := F0 m 1017 ls [.int 0]) rfl ?_
    refine W.widen (k := 140) (n := 404048) (Nat.le_of_ble_eq_true rfl) (Nat.le_of_ble_eq_true rfl) ?_
    refine lv_istore (lv' := [(6, .int 0), (5, .int 0), (4, .int 0), (3, .ref oa), (2, .ref mo), (1, .ref o), (0, .ref b)]) hx hb dL_law_1017 hl (by decide) rfl (fun ls hl => ?_)
    refine lv_aload_n hx hb dL_law_1019 rfl (lv_at hl 4 rfl) ?_
    refine m_kV (As := []) (rest := []) (rm := { frames := 0, cells := 0, slots := 0, locals := 0 }) ⟨hx, hb, hml, hown, hts⟩ (c_X6_thrown l D k z _ mo 0 fs9 hMc) (cwV 0 hts gL_law_X6_thrown rfl rfl rfl (by decide +kernel) ⟨Nat.le_of_ble_eq_true rfl, Nat.le_of_ble_eq_true rfl⟩) (m_recv hK hm (q := (RX6, TX6, 24)) rfl hMc) hz hcx hm hS rfl hl.1 rfl (Nat.le_of_ble_eq_true rfl) dL_law_1020 ⟨Nat.le_of_ble_eq_true rfl, Nat.le_of_ble_eq_true rfl⟩ (fun v M1 H locs hv hm hS => ?_)
    obtain ⟨hv1, hM1⟩ := hv
    subst hv1
    rw [hM1] at hm
    refine W.eq (g2 := F0 m 1023 ls [.int 0]) rfl ?_
    refine W.widen (k := 140) (n := 404048) (Nat.le_of_ble_eq_true rfl) (Nat.le_of_ble_eq_true rfl) ?_
    refine lv_iload hx hb dL_law_1023 (lv_at hl 1 rfl) ?_
    refine lv_icmp_eq (tgt := 1030) hx hb dL_law_1025 (by decide) (fun c8 => ?_) (fun c8 => ?_)
    · refine lv_iload hx hb dL_law_1030 (lv_at hl 1 rfl) ?_
      refine lv_if_ne (tgt := 1047) hx hb dL_law_1032 (by decide) (fun c9 => ?_) (fun c9 => ?_)
      · first | exact absurd c9 (by decide) | exact absurd (by decide) c9
      · refine lv_aload_n hx hb dL_law_1035 rfl (lv_at hl 3 rfl) ?_
        refine lv_iconst (v := 0) hx hb dL_law_1036 (by decide) ?_
        refine m_lald hx hb hK hm 1 hO6 rfl (by unfold vp_in; decide) dL_law_1037 ?_
        refine lv_iload hx hb dL_law_1038 (lv_at hl 0 rfl) ?_
        refine lv_i2l (v := (0).toInt64) hx hb dL_law_1040 rfl ?_
        refine W.eq (g2 := F0 m 1041 ls [.long 0, .long 0]) (by first | (rw [show g8 (0 : Int32).toNatClampNeg = 0 from hg8]; done) | (rw [show g8 (0 : Int32).toNatClampNeg = 0 from hg8]; rfl)) ?_
        refine W.lcmp hx hb dL_law_1041 ?_
        refine lv_if_eq (tgt := 1047) hx hb dL_law_1042 (by decide) (fun c10 => ?_) (fun c10 => ?_)
        · refine lv_goto (tgt := 1434) hx hb dL_law_1047 (by decide) ?_
          refine W.widen (k := 160) (n := 406000) (Nat.le_of_ble_eq_true rfl) (Nat.le_of_ble_eq_true rfl) ?_
          exact LC_end l hlt C0 D k z hz hz2 hcxN hS (lv_sub hl [2, 6] rfl)
        · exact absurd (lg_self _) c10
    · first | exact absurd c8 (by decide) | exact absurd (by decide) c8

set_option maxHeartbeats 4000000 in
set_option maxRecDepth 100000 in
theorem LC_list {p : Program} {e : Env} {s : State} {m : MethodId} {below : List Frame} {meth : Method} {c : Code} (l : Launch) (hlt : l.stackTraces = false) {b : Nat} {xs : Nat → Int32} (C0 : lw_At p s m meth c b 5 xs) (D : va_G) (k : Nat → ClassId) (z : Nat) (hz : z ≤ s.heap.size) (hz2 : s.heap.size ≤ z) (hcxN : cxN D k (AZ z) s) (o mo oa : Nat) (g9 : Nat → Int64) (M : mM) {H : Heap} {locs : List Loc} {ls : Array Slot} (hm : mm D (AZ z) M H) (hS : va_S (AZ z) s.heap H locs) (hF : cFr k M o) (hMo : mFr k M mo 0) (hoa : M oa = some (.inl (k 1, 1, .inr (.inl g9)))) (hl : lv_has ls 7 [(4, .int 0), (3, .ref oa), (2, .ref mo), (1, .ref o), (0, .ref b)]) : W p l e room_1 s m #[Value.ref b] below meth c H locs 138 404036 (lw_Z below #[Value.ref b] s) (F0 m 1050 ls []) := by
  obtain ⟨hx, hb, hr, hml, hown, hts0, hX, hbl, hlocks, hgv⟩ := id C0
  have hts : ∀ w ∈ wsL_law, w.before #[Value.ref b] s = true := fun w h => hts0 w (wl_in w h)
  have hcx := hcxN.1
  have hK := hcx.1
  have hA : ∀ q, s.heap.size ≤ q → AZ z q := fun q h => Nat.le_trans hz h
  have hbA : ¬ AZ z b := fun h => absurd (Nat.le_trans hz2 h) (Nat.not_le.mpr hbl)
  refine lv_aload_n hx hb dL_law_1050 rfl (lv_at hl 3 rfl) ?_
  refine lv_aload_n hx hb dL_law_1051 rfl (lv_at hl 4 rfl) ?_
  refine lv_iload hx hb dL_law_1052 (lv_at hl 0 rfl) ?_
  refine lv_iconst (v := 1) hx hb dL_law_1054 (by decide) ?_
  refine lv_iadd hx hb dL_law_1055 ?_
  refine W.eq (g2 := F0 m 1056 ls [.int 1, .ref b, .ref o]) (by first | rfl | decide) ?_
  refine va_sld hx hb hX hbl hbA hS (by unfold vp_in; decide) dL_law_1056 ?_
  refine W.eq (g2 := F0 m 1057 ls [.int (xs 1), .ref o]) rfl ?_
  refine lv_aload_n hx hb dL_law_1057 rfl (lv_at hl 4 rfl) ?_
  refine lv_iload hx hb dL_law_1058 (lv_at hl 0 rfl) ?_
  refine lv_iconst (v := 2) hx hb dL_law_1060 (by decide) ?_
  refine lv_iadd hx hb dL_law_1061 ?_
  refine W.eq (g2 := F0 m 1062 ls [.int 2, .ref b, .int (xs 1), .ref o]) (by first | rfl | decide) ?_
  refine va_sld hx hb hX hbl hbA hS (by unfold vp_in; decide) dL_law_1062 ?_
  refine W.eq (g2 := F0 m 1063 ls [.int (xs 2), .int (xs 1), .ref o]) rfl ?_
  refine lv_aload_n hx hb dL_law_1063 rfl (lv_at hl 1 rfl) ?_
  refine m_kSW (hh := [(0, 10, 13, 13), (0, 10, 17, 31), (0, 10, 21, 33), (0, 10, 25, 15)]) (As := [.ref o, .int (xs 1), .int (xs 2), .ref oa]) (rest := []) (rm := { frames := 9, cells := 3, slots := 18, locals := 149 }) ⟨hx, hb, hml, hown, hts⟩ (H_list l hlt D k z _ o oa g9 hF hoa (xs 1) (xs 2)) (vx_cwSW 4 hts gL_law_L_list rfl rfl rfl (by decide +kernel) ⟨Nat.le_of_ble_eq_true rfl, Nat.le_of_ble_eq_true rfl⟩) hz hcxN hm hS rfl hl.1 rfl (Nat.le_of_ble_eq_true rfl) dL_law_1064 ⟨Nat.le_of_ble_eq_true rfl, Nat.le_of_ble_eq_true rfl⟩ (fun v M1 H locs hv hm hS => ?_)
  obtain ⟨Mc1, hMx⟩ : ∃ x : mM, x = M1 := ⟨M1, rfl⟩
  subst hMx
  obtain ⟨hv2, hk9⟩ := hv
  rcases hv2 with ⟨ht9, hv1⟩ | ⟨ht9, ⟨hp9, hv1⟩ | ⟨hp9, h09, hv1⟩ | ⟨hp9, h09, hv1, hO8⟩⟩
  · subst hv1
    have hMo := mFr_k2 hk9 hMo
    refine W.eq (g2 := F0 m 1067 ls [.int 1]) rfl ?_
    refine W.widen (k := 141) (n := 404054) (Nat.le_of_ble_eq_true rfl) (Nat.le_of_ble_eq_true rfl) ?_
    refine lv_istore (lv' := [(5, .int 1), (4, .int 0), (3, .ref oa), (2, .ref mo), (1, .ref o), (0, .ref b)]) hx hb dL_law_1067 hl (by decide) rfl (fun ls hl => ?_)
    refine lv_aload_n hx hb dL_law_1069 rfl (lv_at hl 3 rfl) ?_
    refine lv_aload_n hx hb dL_law_1070 rfl (lv_at hl 5 rfl) ?_
    refine lv_iload hx hb dL_law_1071 (lv_at hl 1 rfl) ?_
    refine lv_iconst (v := 1) hx hb dL_law_1073 (by decide) ?_
    refine lv_iadd hx hb dL_law_1074 ?_
    refine W.eq (g2 := F0 m 1075 ls [.int 1, .ref b, .ref mo]) (by first | rfl | decide) ?_
    refine va_sld hx hb hX hbl hbA hS (by unfold vp_in; decide) dL_law_1075 ?_
    refine W.eq (g2 := F0 m 1076 ls [.int (xs 1), .ref mo]) rfl ?_
    refine lv_aload_n hx hb dL_law_1076 rfl (lv_at hl 5 rfl) ?_
    refine lv_iload hx hb dL_law_1077 (lv_at hl 1 rfl) ?_
    refine lv_iconst (v := 2) hx hb dL_law_1079 (by decide) ?_
    refine lv_iadd hx hb dL_law_1080 ?_
    refine W.eq (g2 := F0 m 1081 ls [.int 2, .ref b, .int (xs 1), .ref mo]) (by first | rfl | decide) ?_
    refine va_sld hx hb hX hbl hbA hS (by unfold vp_in; decide) dL_law_1081 ?_
    refine W.eq (g2 := F0 m 1082 ls [.int (xs 2), .int (xs 1), .ref mo]) rfl ?_
    obtain ⟨xcn, xia, xdr, xen, xla, xwo, xop, xmk, xir, xse, xec, xlc, xwc, xol, xal, -, hMob, -⟩ := id hMo
    refine m_kV (As := [.int (xs 1), .int (xs 2)]) (rest := []) (rm := { frames := 3, cells := 0, slots := 0, locals := 73 }) ⟨hx, hb, hml, hown, hts⟩ (cL_X6_list l D k z _ mo (xs 1) (xs 2) hMo) (cwV 2 hts gL_law_X6_list rfl rfl rfl (by decide +kernel) ⟨Nat.le_of_ble_eq_true rfl, Nat.le_of_ble_eq_true rfl⟩) (m_recv hK hm (q := (RX6, TX6, 24)) rfl hMob) hz hcx hm hS rfl hl.1 rfl (Nat.le_of_ble_eq_true rfl) dL_law_1082 ⟨Nat.le_of_ble_eq_true rfl, Nat.le_of_ble_eq_true rfl⟩ (fun v M1 H locs hv hm hS => ?_)
    obtain ⟨hv3, hL9⟩ := hv
    have hvC : v = some (.int 0) ∧ codeIs M1 mo 1 := by
      rcases hv3 with ⟨h, h2, h3⟩ | ⟨h, ⟨h4, h2, h3⟩ | ⟨h4, h5, h2, h3⟩ | ⟨h4, h5, h2, h3⟩⟩
      · exact ⟨h2, h3⟩
      · exact absurd h ht9
      · exact absurd h ht9
      · exact absurd h ht9
    obtain ⟨hv1, hC9⟩ := hvC
    subst hv1
    obtain ⟨Mc2, hMx⟩ : ∃ x : mM, x = M1 := ⟨M1, rfl⟩
    subst hMx
    obtain ⟨fs9, hMc⟩ := hC9
    refine W.eq (g2 := F0 m 1085 ls [.int 0]) rfl ?_
    refine W.widen (k := 141) (n := 404054) (Nat.le_of_ble_eq_true rfl) (Nat.le_of_ble_eq_true rfl) ?_
    refine lv_istore (lv' := [(6, .int 0), (5, .int 1), (4, .int 0), (3, .ref oa), (2, .ref mo), (1, .ref o), (0, .ref b)]) hx hb dL_law_1085 hl (by decide) rfl (fun ls hl => ?_)
    refine lv_aload_n hx hb dL_law_1087 rfl (lv_at hl 4 rfl) ?_
    refine m_kV (As := []) (rest := []) (rm := { frames := 0, cells := 0, slots := 0, locals := 0 }) ⟨hx, hb, hml, hown, hts⟩ (c_X6_thrown l D k z _ mo 1 fs9 hMc) (cwV 0 hts gL_law_X6_thrown rfl rfl rfl (by decide +kernel) ⟨Nat.le_of_ble_eq_true rfl, Nat.le_of_ble_eq_true rfl⟩) (m_recv hK hm (q := (RX6, TX6, 24)) rfl hMc) hz hcx hm hS rfl hl.1 rfl (Nat.le_of_ble_eq_true rfl) dL_law_1088 ⟨Nat.le_of_ble_eq_true rfl, Nat.le_of_ble_eq_true rfl⟩ (fun v M1 H locs hv hm hS => ?_)
    obtain ⟨hv1, hM1⟩ := hv
    subst hv1
    rw [hM1] at hm
    refine W.eq (g2 := F0 m 1091 ls [.int 1]) rfl ?_
    refine W.widen (k := 141) (n := 404054) (Nat.le_of_ble_eq_true rfl) (Nat.le_of_ble_eq_true rfl) ?_
    refine lv_iload hx hb dL_law_1091 (lv_at hl 1 rfl) ?_
    refine lv_icmp_eq (tgt := 1098) hx hb dL_law_1093 (by decide) (fun c1 => ?_) (fun c1 => ?_)
    · refine lv_iload hx hb dL_law_1098 (lv_at hl 1 rfl) ?_
      refine lv_if_ne (tgt := 1115) hx hb dL_law_1100 (by decide) (fun c2 => ?_) (fun c2 => ?_)
      · refine lv_goto (tgt := 1434) hx hb dL_law_1115 (by decide) ?_
        refine W.widen (k := 160) (n := 406000) (Nat.le_of_ble_eq_true rfl) (Nat.le_of_ble_eq_true rfl) ?_
        exact LC_end l hlt C0 D k z hz hz2 hcxN hS (lv_sub hl [2, 6] rfl)
      · first | exact absurd c2 (by decide) | exact absurd (by decide) c2
    · first | exact absurd c1 (by decide) | exact absurd (by decide) c1
  · subst hv1
    have hMo := mFr_k2 hk9 hMo
    refine W.eq (g2 := F0 m 1067 ls [.int 2]) rfl ?_
    refine W.widen (k := 141) (n := 404054) (Nat.le_of_ble_eq_true rfl) (Nat.le_of_ble_eq_true rfl) ?_
    refine lv_istore (lv' := [(5, .int 2), (4, .int 0), (3, .ref oa), (2, .ref mo), (1, .ref o), (0, .ref b)]) hx hb dL_law_1067 hl (by decide) rfl (fun ls hl => ?_)
    refine lv_aload_n hx hb dL_law_1069 rfl (lv_at hl 3 rfl) ?_
    refine lv_aload_n hx hb dL_law_1070 rfl (lv_at hl 5 rfl) ?_
    refine lv_iload hx hb dL_law_1071 (lv_at hl 1 rfl) ?_
    refine lv_iconst (v := 1) hx hb dL_law_1073 (by decide) ?_
    refine lv_iadd hx hb dL_law_1074 ?_
    refine W.eq (g2 := F0 m 1075 ls [.int 1, .ref b, .ref mo]) (by first | rfl | decide) ?_
    refine va_sld hx hb hX hbl hbA hS (by unfold vp_in; decide) dL_law_1075 ?_
    refine W.eq (g2 := F0 m 1076 ls [.int (xs 1), .ref mo]) rfl ?_
    refine lv_aload_n hx hb dL_law_1076 rfl (lv_at hl 5 rfl) ?_
    refine lv_iload hx hb dL_law_1077 (lv_at hl 1 rfl) ?_
    refine lv_iconst (v := 2) hx hb dL_law_1079 (by decide) ?_
    refine lv_iadd hx hb dL_law_1080 ?_
    refine W.eq (g2 := F0 m 1081 ls [.int 2, .ref b, .int (xs 1), .ref mo]) (by first | rfl | decide) ?_
    refine va_sld hx hb hX hbl hbA hS (by unfold vp_in; decide) dL_law_1081 ?_
    refine W.eq (g2 := F0 m 1082 ls [.int (xs 2), .int (xs 1), .ref mo]) rfl ?_
    obtain ⟨xcn, xia, xdr, xen, xla, xwo, xop, xmk, xir, xse, xec, xlc, xwc, xol, xal, -, hMob, -⟩ := id hMo
    refine m_kV (As := [.int (xs 1), .int (xs 2)]) (rest := []) (rm := { frames := 3, cells := 0, slots := 0, locals := 73 }) ⟨hx, hb, hml, hown, hts⟩ (cL_X6_list l D k z _ mo (xs 1) (xs 2) hMo) (cwV 2 hts gL_law_X6_list rfl rfl rfl (by decide +kernel) ⟨Nat.le_of_ble_eq_true rfl, Nat.le_of_ble_eq_true rfl⟩) (m_recv hK hm (q := (RX6, TX6, 24)) rfl hMob) hz hcx hm hS rfl hl.1 rfl (Nat.le_of_ble_eq_true rfl) dL_law_1082 ⟨Nat.le_of_ble_eq_true rfl, Nat.le_of_ble_eq_true rfl⟩ (fun v M1 H locs hv hm hS => ?_)
    obtain ⟨hv3, hL9⟩ := hv
    have hvC : v = some (.int 0) ∧ codeIs M1 mo 2 := by
      rcases hv3 with ⟨h, h2, h3⟩ | ⟨h, ⟨h4, h2, h3⟩ | ⟨h4, h5, h2, h3⟩ | ⟨h4, h5, h2, h3⟩⟩
      · exact absurd ht9 h
      · exact ⟨h2, h3⟩
      · exact absurd h4 hp9
      · exact absurd h4 hp9
    obtain ⟨hv1, hC9⟩ := hvC
    subst hv1
    obtain ⟨Mc3, hMx⟩ : ∃ x : mM, x = M1 := ⟨M1, rfl⟩
    subst hMx
    obtain ⟨fs9, hMc⟩ := hC9
    refine W.eq (g2 := F0 m 1085 ls [.int 0]) rfl ?_
    refine W.widen (k := 141) (n := 404054) (Nat.le_of_ble_eq_true rfl) (Nat.le_of_ble_eq_true rfl) ?_
    refine lv_istore (lv' := [(6, .int 0), (5, .int 2), (4, .int 0), (3, .ref oa), (2, .ref mo), (1, .ref o), (0, .ref b)]) hx hb dL_law_1085 hl (by decide) rfl (fun ls hl => ?_)
    refine lv_aload_n hx hb dL_law_1087 rfl (lv_at hl 4 rfl) ?_
    refine m_kV (As := []) (rest := []) (rm := { frames := 0, cells := 0, slots := 0, locals := 0 }) ⟨hx, hb, hml, hown, hts⟩ (c_X6_thrown l D k z _ mo 2 fs9 hMc) (cwV 0 hts gL_law_X6_thrown rfl rfl rfl (by decide +kernel) ⟨Nat.le_of_ble_eq_true rfl, Nat.le_of_ble_eq_true rfl⟩) (m_recv hK hm (q := (RX6, TX6, 24)) rfl hMc) hz hcx hm hS rfl hl.1 rfl (Nat.le_of_ble_eq_true rfl) dL_law_1088 ⟨Nat.le_of_ble_eq_true rfl, Nat.le_of_ble_eq_true rfl⟩ (fun v M1 H locs hv hm hS => ?_)
    obtain ⟨hv1, hM1⟩ := hv
    subst hv1
    rw [hM1] at hm
    refine W.eq (g2 := F0 m 1091 ls [.int 2]) rfl ?_
    refine W.widen (k := 141) (n := 404054) (Nat.le_of_ble_eq_true rfl) (Nat.le_of_ble_eq_true rfl) ?_
    refine lv_iload hx hb dL_law_1091 (lv_at hl 1 rfl) ?_
    refine lv_icmp_eq (tgt := 1098) hx hb dL_law_1093 (by decide) (fun c3 => ?_) (fun c3 => ?_)
    · refine lv_iload hx hb dL_law_1098 (lv_at hl 1 rfl) ?_
      refine lv_if_ne (tgt := 1115) hx hb dL_law_1100 (by decide) (fun c4 => ?_) (fun c4 => ?_)
      · refine lv_goto (tgt := 1434) hx hb dL_law_1115 (by decide) ?_
        refine W.widen (k := 160) (n := 406000) (Nat.le_of_ble_eq_true rfl) (Nat.le_of_ble_eq_true rfl) ?_
        exact LC_end l hlt C0 D k z hz hz2 hcxN hS (lv_sub hl [2, 6] rfl)
      · first | exact absurd c4 (by decide) | exact absurd (by decide) c4
    · first | exact absurd c3 (by decide) | exact absurd (by decide) c3
  · subst hv1
    have hMo := mFr_k2 hk9 hMo
    refine W.eq (g2 := F0 m 1067 ls [.int 3]) rfl ?_
    refine W.widen (k := 141) (n := 404054) (Nat.le_of_ble_eq_true rfl) (Nat.le_of_ble_eq_true rfl) ?_
    refine lv_istore (lv' := [(5, .int 3), (4, .int 0), (3, .ref oa), (2, .ref mo), (1, .ref o), (0, .ref b)]) hx hb dL_law_1067 hl (by decide) rfl (fun ls hl => ?_)
    refine lv_aload_n hx hb dL_law_1069 rfl (lv_at hl 3 rfl) ?_
    refine lv_aload_n hx hb dL_law_1070 rfl (lv_at hl 5 rfl) ?_
    refine lv_iload hx hb dL_law_1071 (lv_at hl 1 rfl) ?_
    refine lv_iconst (v := 1) hx hb dL_law_1073 (by decide) ?_
    refine lv_iadd hx hb dL_law_1074 ?_
    refine W.eq (g2 := F0 m 1075 ls [.int 1, .ref b, .ref mo]) (by first | rfl | decide) ?_
    refine va_sld hx hb hX hbl hbA hS (by unfold vp_in; decide) dL_law_1075 ?_
    refine W.eq (g2 := F0 m 1076 ls [.int (xs 1), .ref mo]) rfl ?_
    refine lv_aload_n hx hb dL_law_1076 rfl (lv_at hl 5 rfl) ?_
    refine lv_iload hx hb dL_law_1077 (lv_at hl 1 rfl) ?_
    refine lv_iconst (v := 2) hx hb dL_law_1079 (by decide) ?_
    refine lv_iadd hx hb dL_law_1080 ?_
    refine W.eq (g2 := F0 m 1081 ls [.int 2, .ref b, .int (xs 1), .ref mo]) (by first | rfl | decide) ?_
    refine va_sld hx hb hX hbl hbA hS (by unfold vp_in; decide) dL_law_1081 ?_
    refine W.eq (g2 := F0 m 1082 ls [.int (xs 2), .int (xs 1), .ref mo]) rfl ?_
    obtain ⟨xcn, xia, xdr, xen, xla, xwo, xop, xmk, xir, xse, xec, xlc, xwc, xol, xal, -, hMob, -⟩ := id hMo
    refine m_kV (As := [.int (xs 1), .int (xs 2)]) (rest := []) (rm := { frames := 3, cells := 0, slots := 0, locals := 73 }) ⟨hx, hb, hml, hown, hts⟩ (cL_X6_list l D k z _ mo (xs 1) (xs 2) hMo) (cwV 2 hts gL_law_X6_list rfl rfl rfl (by decide +kernel) ⟨Nat.le_of_ble_eq_true rfl, Nat.le_of_ble_eq_true rfl⟩) (m_recv hK hm (q := (RX6, TX6, 24)) rfl hMob) hz hcx hm hS rfl hl.1 rfl (Nat.le_of_ble_eq_true rfl) dL_law_1082 ⟨Nat.le_of_ble_eq_true rfl, Nat.le_of_ble_eq_true rfl⟩ (fun v M1 H locs hv hm hS => ?_)
    obtain ⟨hv3, hL9⟩ := hv
    have hvC : v = some (.int 0) ∧ codeIs M1 mo 3 := by
      rcases hv3 with ⟨h, h2, h3⟩ | ⟨h, ⟨h4, h2, h3⟩ | ⟨h4, h5, h2, h3⟩ | ⟨h4, h5, h2, h3⟩⟩
      · exact absurd ht9 h
      · exact absurd hp9 h4
      · exact ⟨h2, h3⟩
      · exact absurd h5 h09
    obtain ⟨hv1, hC9⟩ := hvC
    subst hv1
    obtain ⟨Mc4, hMx⟩ : ∃ x : mM, x = M1 := ⟨M1, rfl⟩
    subst hMx
    obtain ⟨fs9, hMc⟩ := hC9
    refine W.eq (g2 := F0 m 1085 ls [.int 0]) rfl ?_
    refine W.widen (k := 141) (n := 404054) (Nat.le_of_ble_eq_true rfl) (Nat.le_of_ble_eq_true rfl) ?_
    refine lv_istore (lv' := [(6, .int 0), (5, .int 3), (4, .int 0), (3, .ref oa), (2, .ref mo), (1, .ref o), (0, .ref b)]) hx hb dL_law_1085 hl (by decide) rfl (fun ls hl => ?_)
    refine lv_aload_n hx hb dL_law_1087 rfl (lv_at hl 4 rfl) ?_
    refine m_kV (As := []) (rest := []) (rm := { frames := 0, cells := 0, slots := 0, locals := 0 }) ⟨hx, hb, hml, hown, hts⟩ (c_X6_thrown l D k z _ mo 3 fs9 hMc) (cwV 0 hts gL_law_X6_thrown rfl rfl rfl (by decide +kernel) ⟨Nat.le_of_ble_eq_true rfl, Nat.le_of_ble_eq_true rfl⟩) (m_recv hK hm (q := (RX6, TX6, 24)) rfl hMc) hz hcx hm hS rfl hl.1 rfl (Nat.le_of_ble_eq_true rfl) dL_law_1088 ⟨Nat.le_of_ble_eq_true rfl, Nat.le_of_ble_eq_true rfl⟩ (fun v M1 H locs hv hm hS => ?_)
    obtain ⟨hv1, hM1⟩ := hv
    subst hv1
    rw [hM1] at hm
    refine W.eq (g2 := F0 m 1091 ls [.int 3]) rfl ?_
    refine W.widen (k := 141) (n := 404054) (Nat.le_of_ble_eq_true rfl) (Nat.le_of_ble_eq_true rfl) ?_
    refine lv_iload hx hb dL_law_1091 (lv_at hl 1 rfl) ?_
    refine lv_icmp_eq (tgt := 1098) hx hb dL_law_1093 (by decide) (fun c5 => ?_) (fun c5 => ?_)
    · refine lv_iload hx hb dL_law_1098 (lv_at hl 1 rfl) ?_
      refine lv_if_ne (tgt := 1115) hx hb dL_law_1100 (by decide) (fun c6 => ?_) (fun c6 => ?_)
      · refine lv_goto (tgt := 1434) hx hb dL_law_1115 (by decide) ?_
        refine W.widen (k := 160) (n := 406000) (Nat.le_of_ble_eq_true rfl) (Nat.le_of_ble_eq_true rfl) ?_
        exact LC_end l hlt C0 D k z hz hz2 hcxN hS (lv_sub hl [2, 6] rfl)
      · first | exact absurd c6 (by decide) | exact absurd (by decide) c6
    · first | exact absurd c5 (by decide) | exact absurd (by decide) c5
  · subst hv1
    have hMo := mFr_k2 hk9 hMo
    obtain ⟨g8, hO7, hg8⟩ := hO8
    refine W.eq (g2 := F0 m 1067 ls [.int 0]) rfl ?_
    refine W.widen (k := 141) (n := 404054) (Nat.le_of_ble_eq_true rfl) (Nat.le_of_ble_eq_true rfl) ?_
    refine lv_istore (lv' := [(5, .int 0), (4, .int 0), (3, .ref oa), (2, .ref mo), (1, .ref o), (0, .ref b)]) hx hb dL_law_1067 hl (by decide) rfl (fun ls hl => ?_)
    refine lv_aload_n hx hb dL_law_1069 rfl (lv_at hl 3 rfl) ?_
    refine lv_aload_n hx hb dL_law_1070 rfl (lv_at hl 5 rfl) ?_
    refine lv_iload hx hb dL_law_1071 (lv_at hl 1 rfl) ?_
    refine lv_iconst (v := 1) hx hb dL_law_1073 (by decide) ?_
    refine lv_iadd hx hb dL_law_1074 ?_
    refine W.eq (g2 := F0 m 1075 ls [.int 1, .ref b, .ref mo]) (by first | rfl | decide) ?_
    refine va_sld hx hb hX hbl hbA hS (by unfold vp_in; decide) dL_law_1075 ?_
    refine W.eq (g2 := F0 m 1076 ls [.int (xs 1), .ref mo]) rfl ?_
    refine lv_aload_n hx hb dL_law_1076 rfl (lv_at hl 5 rfl) ?_
    refine lv_iload hx hb dL_law_1077 (lv_at hl 1 rfl) ?_
    refine lv_iconst (v := 2) hx hb dL_law_1079 (by decide) ?_
    refine lv_iadd hx hb dL_law_1080 ?_
    refine W.eq (g2 := F0 m 1081 ls [.int 2, .ref b, .int (xs 1), .ref mo]) (by first | rfl | decide) ?_
    refine va_sld hx hb hX hbl hbA hS (by unfold vp_in; decide) dL_law_1081 ?_
    refine W.eq (g2 := F0 m 1082 ls [.int (xs 2), .int (xs 1), .ref mo]) rfl ?_
    obtain ⟨xcn, xia, xdr, xen, xla, xwo, xop, xmk, xir, xse, xec, xlc, xwc, xol, xal, -, hMob, -⟩ := id hMo
    refine m_kV (As := [.int (xs 1), .int (xs 2)]) (rest := []) (rm := { frames := 3, cells := 0, slots := 0, locals := 73 }) ⟨hx, hb, hml, hown, hts⟩ (cL_X6_list l D k z _ mo (xs 1) (xs 2) hMo) (cwV 2 hts gL_law_X6_list rfl rfl rfl (by decide +kernel) ⟨Nat.le_of_ble_eq_true rfl, Nat.le_of_ble_eq_true rfl⟩) (m_recv hK hm (q := (RX6, TX6, 24)) rfl hMob) hz hcx hm hS rfl hl.1 rfl (Nat.le_of_ble_eq_true rfl) dL_law_1082 ⟨Nat.le_of_ble_eq_true rfl, Nat.le_of_ble_eq_true rfl⟩ (fun v M1 H locs hv hm hS => ?_)
    obtain ⟨hv3, hL9⟩ := hv
    have hvC : v = some (.int 0) ∧ codeIs M1 mo 0 := by
      rcases hv3 with ⟨h, h2, h3⟩ | ⟨h, ⟨h4, h2, h3⟩ | ⟨h4, h5, h2, h3⟩ | ⟨h4, h5, h2, h3⟩⟩
      · exact absurd ht9 h
      · exact absurd hp9 h4
      · exact absurd h09 h5
      · exact ⟨h2, h3⟩
    obtain ⟨hv1, hC9⟩ := hvC
    subst hv1
    have hO6 := hL9 _ _ _ hO7
    obtain ⟨Mc5, hMx⟩ : ∃ x : mM, x = M1 := ⟨M1, rfl⟩
    subst hMx
    obtain ⟨fs9, hMc⟩ := hC9
    refine W.eq (g2 := F0 m 1085 ls [.int 0]) rfl ?_
    refine W.widen (k := 141) (n := 404054) (Nat.le_of_ble_eq_true rfl) (Nat.le_of_ble_eq_true rfl) ?_
    refine lv_istore (lv' := [(6, .int 0), (5, .int 0), (4, .int 0), (3, .ref oa), (2, .ref mo), (1, .ref o), (0, .ref b)]) hx hb dL_law_1085 hl (by decide) rfl (fun ls hl => ?_)
    refine lv_aload_n hx hb dL_law_1087 rfl (lv_at hl 4 rfl) ?_
    refine m_kV (As := []) (rest := []) (rm := { frames := 0, cells := 0, slots := 0, locals := 0 }) ⟨hx, hb, hml, hown, hts⟩ (c_X6_thrown l D k z _ mo 0 fs9 hMc) (cwV 0 hts gL_law_X6_thrown rfl rfl rfl (by decide +kernel) ⟨Nat.le_of_ble_eq_true rfl, Nat.le_of_ble_eq_true rfl⟩) (m_recv hK hm (q := (RX6, TX6, 24)) rfl hMc) hz hcx hm hS rfl hl.1 rfl (Nat.le_of_ble_eq_true rfl) dL_law_1088 ⟨Nat.le_of_ble_eq_true rfl, Nat.le_of_ble_eq_true rfl⟩ (fun v M1 H locs hv hm hS => ?_)
    obtain ⟨hv1, hM1⟩ := hv
    subst hv1
    rw [hM1] at hm
    refine W.eq (g2 := F0 m 1091 ls [.int 0]) rfl ?_
    refine W.widen (k := 141) (n := 404054) (Nat.le_of_ble_eq_true rfl) (Nat.le_of_ble_eq_true rfl) ?_
    refine lv_iload hx hb dL_law_1091 (lv_at hl 1 rfl) ?_
    refine lv_icmp_eq (tgt := 1098) hx hb dL_law_1093 (by decide) (fun c7 => ?_) (fun c7 => ?_)
    · refine lv_iload hx hb dL_law_1098 (lv_at hl 1 rfl) ?_
      refine lv_if_ne (tgt := 1115) hx hb dL_law_1100 (by decide) (fun c8 => ?_) (fun c8 => ?_)
      · first | exact absurd c8 (by decide) | exact absurd (by decide) c8
      · refine lv_aload_n hx hb dL_law_1103 rfl (lv_at hl 3 rfl) ?_
        refine lv_iconst (v := 0) hx hb dL_law_1104 (by decide) ?_
        refine m_lald hx hb hK hm 1 hO6 rfl (by unfold vp_in; decide) dL_law_1105 ?_
        refine lv_iload hx hb dL_law_1106 (lv_at hl 0 rfl) ?_
        refine lv_i2l (v := (0).toInt64) hx hb dL_law_1108 rfl ?_
        refine W.eq (g2 := F0 m 1109 ls [.long 0, .long 0]) (by first | (rw [show g8 (0 : Int32).toNatClampNeg = 0 from hg8]; done) | (rw [show g8 (0 : Int32).toNatClampNeg = 0 from hg8]; rfl)) ?_
        refine W.lcmp hx hb dL_law_1109 ?_
        refine lv_if_eq (tgt := 1115) hx hb dL_law_1110 (by decide) (fun c9 => ?_) (fun c9 => ?_)
        · refine lv_goto (tgt := 1434) hx hb dL_law_1115 (by decide) ?_
          refine W.widen (k := 160) (n := 406000) (Nat.le_of_ble_eq_true rfl) (Nat.le_of_ble_eq_true rfl) ?_
          exact LC_end l hlt C0 D k z hz hz2 hcxN hS (lv_sub hl [2, 6] rfl)
        · exact absurd (lg_self _) c9
    · first | exact absurd c7 (by decide) | exact absurd (by decide) c7

set_option maxHeartbeats 4000000 in
set_option maxRecDepth 100000 in
theorem LC_mark {p : Program} {e : Env} {s : State} {m : MethodId} {below : List Frame} {meth : Method} {c : Code} (l : Launch) (hlt : l.stackTraces = false) {b : Nat} {xs : Nat → Int32} (C0 : lw_At p s m meth c b 5 xs) (D : va_G) (k : Nat → ClassId) (z : Nat) (hz : z ≤ s.heap.size) (hz2 : s.heap.size ≤ z) (hcxN : cxN D k (AZ z) s) (o mo oa : Nat) (g9 : Nat → Int64) (M : mM) {H : Heap} {locs : List Loc} {ls : Array Slot} (hm : mm D (AZ z) M H) (hS : va_S (AZ z) s.heap H locs) (hF : cFr k M o) (hMo : mFr k M mo 0) (hoa : M oa = some (.inl (k 1, 1, .inr (.inl g9)))) (hl : lv_has ls 7 [(4, .int 0), (3, .ref oa), (2, .ref mo), (1, .ref o), (0, .ref b)]) : W p l e room_1 s m #[Value.ref b] below meth c H locs 138 404036 (lw_Z below #[Value.ref b] s) (F0 m 1118 ls []) := by
  obtain ⟨hx, hb, hr, hml, hown, hts0, hX, hbl, hlocks, hgv⟩ := id C0
  have hts : ∀ w ∈ wsL_law, w.before #[Value.ref b] s = true := fun w h => hts0 w (wl_in w h)
  have hcx := hcxN.1
  have hK := hcx.1
  have hA : ∀ q, s.heap.size ≤ q → AZ z q := fun q h => Nat.le_trans hz h
  have hbA : ¬ AZ z b := fun h => absurd (Nat.le_trans hz2 h) (Nat.not_le.mpr hbl)
  refine lv_aload_n hx hb dL_law_1118 rfl (lv_at hl 3 rfl) ?_
  refine lv_aload_n hx hb dL_law_1119 rfl (lv_at hl 4 rfl) ?_
  refine lv_iload hx hb dL_law_1120 (lv_at hl 0 rfl) ?_
  refine lv_iconst (v := 1) hx hb dL_law_1122 (by decide) ?_
  refine lv_iadd hx hb dL_law_1123 ?_
  refine W.eq (g2 := F0 m 1124 ls [.int 1, .ref b, .ref o]) (by first | rfl | decide) ?_
  refine va_sld hx hb hX hbl hbA hS (by unfold vp_in; decide) dL_law_1124 ?_
  refine W.eq (g2 := F0 m 1125 ls [.int (xs 1), .ref o]) rfl ?_
  refine lv_aload_n hx hb dL_law_1125 rfl (lv_at hl 1 rfl) ?_
  refine m_kSW (hh := [(0, 9, 12, 13), (0, 9, 15, 15)]) (As := [.ref o, .int (xs 1), .ref oa]) (rest := []) (rm := { frames := 8, cells := 1, slots := 6, locals := 126 }) ⟨hx, hb, hml, hown, hts⟩ (H_mark l hlt D k z _ o oa g9 hF hoa (xs 1)) (vx_cwSW 3 hts gL_law_L_mark rfl rfl rfl (by decide +kernel) ⟨Nat.le_of_ble_eq_true rfl, Nat.le_of_ble_eq_true rfl⟩) hz hcxN hm hS rfl hl.1 rfl (Nat.le_of_ble_eq_true rfl) dL_law_1126 ⟨Nat.le_of_ble_eq_true rfl, Nat.le_of_ble_eq_true rfl⟩ (fun v M1 H locs hv hm hS => ?_)
  obtain ⟨Mc1, hMx⟩ : ∃ x : mM, x = M1 := ⟨M1, rfl⟩
  subst hMx
  obtain ⟨hv1, hk9⟩ := hv
  subst hv1
  have hMo := mFr_k2 hk9 hMo
  refine W.eq (g2 := F0 m 1129 ls [.int 1]) rfl ?_
  refine W.widen (k := 139) (n := 404042) (Nat.le_of_ble_eq_true rfl) (Nat.le_of_ble_eq_true rfl) ?_
  refine lv_istore (lv' := [(5, .int 1), (4, .int 0), (3, .ref oa), (2, .ref mo), (1, .ref o), (0, .ref b)]) hx hb dL_law_1129 hl (by decide) rfl (fun ls hl => ?_)
  refine lv_aload_n hx hb dL_law_1131 rfl (lv_at hl 3 rfl) ?_
  refine lv_aload_n hx hb dL_law_1132 rfl (lv_at hl 5 rfl) ?_
  refine lv_iload hx hb dL_law_1133 (lv_at hl 1 rfl) ?_
  refine lv_iconst (v := 1) hx hb dL_law_1135 (by decide) ?_
  refine lv_iadd hx hb dL_law_1136 ?_
  refine W.eq (g2 := F0 m 1137 ls [.int 1, .ref b, .ref mo]) (by first | rfl | decide) ?_
  refine va_sld hx hb hX hbl hbA hS (by unfold vp_in; decide) dL_law_1137 ?_
  refine W.eq (g2 := F0 m 1138 ls [.int (xs 1), .ref mo]) rfl ?_
  obtain ⟨xcn, xia, xdr, xen, xla, xwo, xop, xmk, xir, xse, xec, xlc, xwc, xol, xal, -, hMob, -⟩ := id hMo
  refine m_kV (As := [.int (xs 1)]) (rest := []) (rm := { frames := 1, cells := 0, slots := 0, locals := 21 }) ⟨hx, hb, hml, hown, hts⟩ (c_X6_mark l D k z _ mo (xs 1) hMo) (cwV 1 hts gL_law_X6_mark rfl rfl rfl (by decide +kernel) ⟨Nat.le_of_ble_eq_true rfl, Nat.le_of_ble_eq_true rfl⟩) (m_recv hK hm (q := (RX6, TX6, 24)) rfl hMob) hz hcx hm hS rfl hl.1 rfl (Nat.le_of_ble_eq_true rfl) dL_law_1138 ⟨Nat.le_of_ble_eq_true rfl, Nat.le_of_ble_eq_true rfl⟩ (fun v M1 H locs hv hm hS => ?_)
  obtain ⟨hv1, hC9⟩ := hv
  subst hv1
  obtain ⟨Mc2, hMx⟩ : ∃ x : mM, x = M1 := ⟨M1, rfl⟩
  subst hMx
  obtain ⟨fs9, hMc⟩ := hC9
  refine W.eq (g2 := F0 m 1141 ls [.int 0]) rfl ?_
  refine W.widen (k := 139) (n := 404042) (Nat.le_of_ble_eq_true rfl) (Nat.le_of_ble_eq_true rfl) ?_
  refine lv_istore (lv' := [(6, .int 0), (5, .int 1), (4, .int 0), (3, .ref oa), (2, .ref mo), (1, .ref o), (0, .ref b)]) hx hb dL_law_1141 hl (by decide) rfl (fun ls hl => ?_)
  refine lv_aload_n hx hb dL_law_1143 rfl (lv_at hl 4 rfl) ?_
  refine m_kV (As := []) (rest := []) (rm := { frames := 0, cells := 0, slots := 0, locals := 0 }) ⟨hx, hb, hml, hown, hts⟩ (c_X6_thrown l D k z _ mo 1 fs9 hMc) (cwV 0 hts gL_law_X6_thrown rfl rfl rfl (by decide +kernel) ⟨Nat.le_of_ble_eq_true rfl, Nat.le_of_ble_eq_true rfl⟩) (m_recv hK hm (q := (RX6, TX6, 24)) rfl hMc) hz hcx hm hS rfl hl.1 rfl (Nat.le_of_ble_eq_true rfl) dL_law_1144 ⟨Nat.le_of_ble_eq_true rfl, Nat.le_of_ble_eq_true rfl⟩ (fun v M1 H locs hv hm hS => ?_)
  obtain ⟨hv1, hM1⟩ := hv
  subst hv1
  rw [hM1] at hm
  refine W.eq (g2 := F0 m 1147 ls [.int 1]) rfl ?_
  refine W.widen (k := 139) (n := 404042) (Nat.le_of_ble_eq_true rfl) (Nat.le_of_ble_eq_true rfl) ?_
  refine lv_iload hx hb dL_law_1147 (lv_at hl 1 rfl) ?_
  refine lv_icmp_eq (tgt := 1154) hx hb dL_law_1149 (by decide) (fun c1 => ?_) (fun c1 => ?_)
  · refine lv_iload hx hb dL_law_1154 (lv_at hl 1 rfl) ?_
    refine lv_if_ne (tgt := 1171) hx hb dL_law_1156 (by decide) (fun c2 => ?_) (fun c2 => ?_)
    · refine lv_goto (tgt := 1434) hx hb dL_law_1171 (by decide) ?_
      refine W.widen (k := 160) (n := 406000) (Nat.le_of_ble_eq_true rfl) (Nat.le_of_ble_eq_true rfl) ?_
      exact LC_end l hlt C0 D k z hz hz2 hcxN hS (lv_sub hl [2, 6] rfl)
    · first | exact absurd c2 (by decide) | exact absurd (by decide) c2
  · first | exact absurd c1 (by decide) | exact absurd (by decide) c1

set_option maxHeartbeats 4000000 in
set_option maxRecDepth 100000 in
theorem LC_back {p : Program} {e : Env} {s : State} {m : MethodId} {below : List Frame} {meth : Method} {c : Code} (l : Launch) (hlt : l.stackTraces = false) {b : Nat} {xs : Nat → Int32} (C0 : lw_At p s m meth c b 5 xs) (D : va_G) (k : Nat → ClassId) (z : Nat) (hz : z ≤ s.heap.size) (hz2 : s.heap.size ≤ z) (hcxN : cxN D k (AZ z) s) (o mo oa : Nat) (g9 : Nat → Int64) (M : mM) {H : Heap} {locs : List Loc} {ls : Array Slot} (hm : mm D (AZ z) M H) (hS : va_S (AZ z) s.heap H locs) (hF : cFr k M o) (hMo : mFr k M mo 0) (hoa : M oa = some (.inl (k 1, 1, .inr (.inl g9)))) (hl : lv_has ls 7 [(4, .int 0), (3, .ref oa), (2, .ref mo), (1, .ref o), (0, .ref b)]) : W p l e room_1 s m #[Value.ref b] below meth c H locs 138 404036 (lw_Z below #[Value.ref b] s) (F0 m 1174 ls []) := by
  obtain ⟨hx, hb, hr, hml, hown, hts0, hX, hbl, hlocks, hgv⟩ := id C0
  have hts : ∀ w ∈ wsL_law, w.before #[Value.ref b] s = true := fun w h => hts0 w (wl_in w h)
  have hcx := hcxN.1
  have hK := hcx.1
  have hA : ∀ q, s.heap.size ≤ q → AZ z q := fun q h => Nat.le_trans hz h
  have hbA : ¬ AZ z b := fun h => absurd (Nat.le_trans hz2 h) (Nat.not_le.mpr hbl)
  refine lv_aload_n hx hb dL_law_1174 rfl (lv_at hl 3 rfl) ?_
  refine lv_aload_n hx hb dL_law_1175 rfl (lv_at hl 4 rfl) ?_
  refine lv_iload hx hb dL_law_1176 (lv_at hl 0 rfl) ?_
  refine lv_iconst (v := 1) hx hb dL_law_1178 (by decide) ?_
  refine lv_iadd hx hb dL_law_1179 ?_
  refine W.eq (g2 := F0 m 1180 ls [.int 1, .ref b, .ref o]) (by first | rfl | decide) ?_
  refine va_sld hx hb hX hbl hbA hS (by unfold vp_in; decide) dL_law_1180 ?_
  refine W.eq (g2 := F0 m 1181 ls [.int (xs 1), .ref o]) rfl ?_
  refine lv_aload_n hx hb dL_law_1181 rfl (lv_at hl 1 rfl) ?_
  refine m_kSW (hh := [(0, 9, 12, 13), (0, 9, 15, 15)]) (As := [.ref o, .int (xs 1), .ref oa]) (rest := []) (rm := { frames := 8, cells := 1, slots := 6, locals := 126 }) ⟨hx, hb, hml, hown, hts⟩ (H_back l hlt D k z _ o oa g9 hF hoa (xs 1)) (vx_cwSW 3 hts gL_law_L_back rfl rfl rfl (by decide +kernel) ⟨Nat.le_of_ble_eq_true rfl, Nat.le_of_ble_eq_true rfl⟩) hz hcxN hm hS rfl hl.1 rfl (Nat.le_of_ble_eq_true rfl) dL_law_1182 ⟨Nat.le_of_ble_eq_true rfl, Nat.le_of_ble_eq_true rfl⟩ (fun v M1 H locs hv hm hS => ?_)
  obtain ⟨Mc1, hMx⟩ : ∃ x : mM, x = M1 := ⟨M1, rfl⟩
  subst hMx
  obtain ⟨hv1, hk9⟩ := hv
  subst hv1
  have hMo := mFr_k2 hk9 hMo
  refine W.eq (g2 := F0 m 1185 ls [.int 1]) rfl ?_
  refine W.widen (k := 139) (n := 404042) (Nat.le_of_ble_eq_true rfl) (Nat.le_of_ble_eq_true rfl) ?_
  refine lv_istore (lv' := [(5, .int 1), (4, .int 0), (3, .ref oa), (2, .ref mo), (1, .ref o), (0, .ref b)]) hx hb dL_law_1185 hl (by decide) rfl (fun ls hl => ?_)
  refine lv_aload_n hx hb dL_law_1187 rfl (lv_at hl 3 rfl) ?_
  refine lv_aload_n hx hb dL_law_1188 rfl (lv_at hl 5 rfl) ?_
  refine lv_iload hx hb dL_law_1189 (lv_at hl 1 rfl) ?_
  refine lv_iconst (v := 1) hx hb dL_law_1191 (by decide) ?_
  refine lv_iadd hx hb dL_law_1192 ?_
  refine W.eq (g2 := F0 m 1193 ls [.int 1, .ref b, .ref mo]) (by first | rfl | decide) ?_
  refine va_sld hx hb hX hbl hbA hS (by unfold vp_in; decide) dL_law_1193 ?_
  refine W.eq (g2 := F0 m 1194 ls [.int (xs 1), .ref mo]) rfl ?_
  obtain ⟨xcn, xia, xdr, xen, xla, xwo, xop, xmk, xir, xse, xec, xlc, xwc, xol, xal, -, hMob, -⟩ := id hMo
  refine m_kV (As := [.int (xs 1)]) (rest := []) (rm := { frames := 1, cells := 0, slots := 0, locals := 21 }) ⟨hx, hb, hml, hown, hts⟩ (c_X6_back l D k z _ mo (xs 1) hMo) (cwV 1 hts gL_law_X6_back rfl rfl rfl (by decide +kernel) ⟨Nat.le_of_ble_eq_true rfl, Nat.le_of_ble_eq_true rfl⟩) (m_recv hK hm (q := (RX6, TX6, 24)) rfl hMob) hz hcx hm hS rfl hl.1 rfl (Nat.le_of_ble_eq_true rfl) dL_law_1194 ⟨Nat.le_of_ble_eq_true rfl, Nat.le_of_ble_eq_true rfl⟩ (fun v M1 H locs hv hm hS => ?_)
  obtain ⟨hv1, hC9⟩ := hv
  subst hv1
  obtain ⟨Mc2, hMx⟩ : ∃ x : mM, x = M1 := ⟨M1, rfl⟩
  subst hMx
  obtain ⟨fs9, hMc⟩ := hC9
  refine W.eq (g2 := F0 m 1197 ls [.int 0]) rfl ?_
  refine W.widen (k := 139) (n := 404042) (Nat.le_of_ble_eq_true rfl) (Nat.le_of_ble_eq_true rfl) ?_
  refine lv_istore (lv' := [(6, .int 0), (5, .int 1), (4, .int 0), (3, .ref oa), (2, .ref mo), (1, .ref o), (0, .ref b)]) hx hb dL_law_1197 hl (by decide) rfl (fun ls hl => ?_)
  refine lv_aload_n hx hb dL_law_1199 rfl (lv_at hl 4 rfl) ?_
  refine m_kV (As := []) (rest := []) (rm := { frames := 0, cells := 0, slots := 0, locals := 0 }) ⟨hx, hb, hml, hown, hts⟩ (c_X6_thrown l D k z _ mo 1 fs9 hMc) (cwV 0 hts gL_law_X6_thrown rfl rfl rfl (by decide +kernel) ⟨Nat.le_of_ble_eq_true rfl, Nat.le_of_ble_eq_true rfl⟩) (m_recv hK hm (q := (RX6, TX6, 24)) rfl hMc) hz hcx hm hS rfl hl.1 rfl (Nat.le_of_ble_eq_true rfl) dL_law_1200 ⟨Nat.le_of_ble_eq_true rfl, Nat.le_of_ble_eq_true rfl⟩ (fun v M1 H locs hv hm hS => ?_)
  obtain ⟨hv1, hM1⟩ := hv
  subst hv1
  rw [hM1] at hm
  refine W.eq (g2 := F0 m 1203 ls [.int 1]) rfl ?_
  refine W.widen (k := 139) (n := 404042) (Nat.le_of_ble_eq_true rfl) (Nat.le_of_ble_eq_true rfl) ?_
  refine lv_iload hx hb dL_law_1203 (lv_at hl 1 rfl) ?_
  refine lv_icmp_eq (tgt := 1210) hx hb dL_law_1205 (by decide) (fun c1 => ?_) (fun c1 => ?_)
  · refine lv_iload hx hb dL_law_1210 (lv_at hl 1 rfl) ?_
    refine lv_if_ne (tgt := 1227) hx hb dL_law_1212 (by decide) (fun c2 => ?_) (fun c2 => ?_)
    · refine lv_goto (tgt := 1434) hx hb dL_law_1227 (by decide) ?_
      refine W.widen (k := 160) (n := 406000) (Nat.le_of_ble_eq_true rfl) (Nat.le_of_ble_eq_true rfl) ?_
      exact LC_end l hlt C0 D k z hz hz2 hcxN hS (lv_sub hl [2, 6] rfl)
    · first | exact absurd c2 (by decide) | exact absurd (by decide) c2
  · first | exact absurd c1 (by decide) | exact absurd (by decide) c1

set_option maxHeartbeats 4000000 in
set_option maxRecDepth 100000 in
theorem LC_about {p : Program} {e : Env} {s : State} {m : MethodId} {below : List Frame} {meth : Method} {c : Code} (l : Launch) (hlt : l.stackTraces = false) {b : Nat} {xs : Nat → Int32} (C0 : lw_At p s m meth c b 5 xs) (D : va_G) (k : Nat → ClassId) (z : Nat) (hz : z ≤ s.heap.size) (hz2 : s.heap.size ≤ z) (hcxN : cxN D k (AZ z) s) (o mo oa : Nat) (g9 : Nat → Int64) (M : mM) {H : Heap} {locs : List Loc} {ls : Array Slot} (hm : mm D (AZ z) M H) (hS : va_S (AZ z) s.heap H locs) (hF : cFr k M o) (hMo : mFr k M mo 0) (hoa : M oa = some (.inl (k 1, 1, .inr (.inl g9)))) (hl : lv_has ls 7 [(4, .int 0), (3, .ref oa), (2, .ref mo), (1, .ref o), (0, .ref b)]) : W p l e room_1 s m #[Value.ref b] below meth c H locs 138 404036 (lw_Z below #[Value.ref b] s) (F0 m 1230 ls []) := by
  obtain ⟨hx, hb, hr, hml, hown, hts0, hX, hbl, hlocks, hgv⟩ := id C0
  have hts : ∀ w ∈ wsL_law, w.before #[Value.ref b] s = true := fun w h => hts0 w (wl_in w h)
  have hcx := hcxN.1
  have hK := hcx.1
  have hA : ∀ q, s.heap.size ≤ q → AZ z q := fun q h => Nat.le_trans hz h
  have hbA : ¬ AZ z b := fun h => absurd (Nat.le_trans hz2 h) (Nat.not_le.mpr hbl)
  refine lv_aload_n hx hb dL_law_1230 rfl (lv_at hl 3 rfl) ?_
  refine lv_aload_n hx hb dL_law_1231 rfl (lv_at hl 4 rfl) ?_
  refine lv_iload hx hb dL_law_1232 (lv_at hl 0 rfl) ?_
  refine lv_iconst (v := 1) hx hb dL_law_1234 (by decide) ?_
  refine lv_iadd hx hb dL_law_1235 ?_
  refine W.eq (g2 := F0 m 1236 ls [.int 1, .ref b, .ref o]) (by first | rfl | decide) ?_
  refine va_sld hx hb hX hbl hbA hS (by unfold vp_in; decide) dL_law_1236 ?_
  refine W.eq (g2 := F0 m 1237 ls [.int (xs 1), .ref o]) rfl ?_
  refine lv_aload_n hx hb dL_law_1237 rfl (lv_at hl 4 rfl) ?_
  refine lv_iload hx hb dL_law_1238 (lv_at hl 0 rfl) ?_
  refine lv_iconst (v := 2) hx hb dL_law_1240 (by decide) ?_
  refine lv_iadd hx hb dL_law_1241 ?_
  refine W.eq (g2 := F0 m 1242 ls [.int 2, .ref b, .int (xs 1), .ref o]) (by first | rfl | decide) ?_
  refine va_sld hx hb hX hbl hbA hS (by unfold vp_in; decide) dL_law_1242 ?_
  refine W.eq (g2 := F0 m 1243 ls [.int (xs 2), .int (xs 1), .ref o]) rfl ?_
  refine lv_aload_n hx hb dL_law_1243 rfl (lv_at hl 1 rfl) ?_
  refine m_kSW (hh := [(0, 10, 13, 13), (0, 10, 17, 31)]) (As := [.ref o, .int (xs 1), .int (xs 2), .ref oa]) (rest := []) (rm := { frames := 8, cells := 1, slots := 6, locals := 127 }) ⟨hx, hb, hml, hown, hts⟩ (H_about l hlt D k z _ o oa g9 hF hoa (xs 1) (xs 2)) (vx_cwSW 4 hts gL_law_L_about rfl rfl rfl (by decide +kernel) ⟨Nat.le_of_ble_eq_true rfl, Nat.le_of_ble_eq_true rfl⟩) hz hcxN hm hS rfl hl.1 rfl (Nat.le_of_ble_eq_true rfl) dL_law_1244 ⟨Nat.le_of_ble_eq_true rfl, Nat.le_of_ble_eq_true rfl⟩ (fun v M1 H locs hv hm hS => ?_)
  obtain ⟨Mc1, hMx⟩ : ∃ x : mM, x = M1 := ⟨M1, rfl⟩
  subst hMx
  obtain ⟨hv1, hk9⟩ := hv
  subst hv1
  have hMo := mFr_k2 hk9 hMo
  refine W.eq (g2 := F0 m 1247 ls [.int 1]) rfl ?_
  refine W.widen (k := 139) (n := 404042) (Nat.le_of_ble_eq_true rfl) (Nat.le_of_ble_eq_true rfl) ?_
  refine lv_istore (lv' := [(5, .int 1), (4, .int 0), (3, .ref oa), (2, .ref mo), (1, .ref o), (0, .ref b)]) hx hb dL_law_1247 hl (by decide) rfl (fun ls hl => ?_)
  refine lv_aload_n hx hb dL_law_1249 rfl (lv_at hl 3 rfl) ?_
  refine lv_aload_n hx hb dL_law_1250 rfl (lv_at hl 5 rfl) ?_
  refine lv_iload hx hb dL_law_1251 (lv_at hl 1 rfl) ?_
  refine lv_iconst (v := 1) hx hb dL_law_1253 (by decide) ?_
  refine lv_iadd hx hb dL_law_1254 ?_
  refine W.eq (g2 := F0 m 1255 ls [.int 1, .ref b, .ref mo]) (by first | rfl | decide) ?_
  refine va_sld hx hb hX hbl hbA hS (by unfold vp_in; decide) dL_law_1255 ?_
  refine W.eq (g2 := F0 m 1256 ls [.int (xs 1), .ref mo]) rfl ?_
  refine lv_aload_n hx hb dL_law_1256 rfl (lv_at hl 5 rfl) ?_
  refine lv_iload hx hb dL_law_1257 (lv_at hl 1 rfl) ?_
  refine lv_iconst (v := 2) hx hb dL_law_1259 (by decide) ?_
  refine lv_iadd hx hb dL_law_1260 ?_
  refine W.eq (g2 := F0 m 1261 ls [.int 2, .ref b, .int (xs 1), .ref mo]) (by first | rfl | decide) ?_
  refine va_sld hx hb hX hbl hbA hS (by unfold vp_in; decide) dL_law_1261 ?_
  refine W.eq (g2 := F0 m 1262 ls [.int (xs 2), .int (xs 1), .ref mo]) rfl ?_
  obtain ⟨xcn, xia, xdr, xen, xla, xwo, xop, xmk, xir, xse, xec, xlc, xwc, xol, xal, -, hMob, -⟩ := id hMo
  refine m_kV (As := [.int (xs 1), .int (xs 2)]) (rest := []) (rm := { frames := 1, cells := 0, slots := 0, locals := 21 }) ⟨hx, hb, hml, hown, hts⟩ (c_X6_about l D k z _ mo (xs 1) (xs 2) hMo) (cwV 2 hts gL_law_X6_about rfl rfl rfl (by decide +kernel) ⟨Nat.le_of_ble_eq_true rfl, Nat.le_of_ble_eq_true rfl⟩) (m_recv hK hm (q := (RX6, TX6, 24)) rfl hMob) hz hcx hm hS rfl hl.1 rfl (Nat.le_of_ble_eq_true rfl) dL_law_1262 ⟨Nat.le_of_ble_eq_true rfl, Nat.le_of_ble_eq_true rfl⟩ (fun v M1 H locs hv hm hS => ?_)
  obtain ⟨hv1, hC9⟩ := hv
  subst hv1
  obtain ⟨Mc2, hMx⟩ : ∃ x : mM, x = M1 := ⟨M1, rfl⟩
  subst hMx
  obtain ⟨fs9, hMc⟩ := hC9
  refine W.eq (g2 := F0 m 1265 ls [.int 0]) rfl ?_
  refine W.widen (k := 139) (n := 404042) (Nat.le_of_ble_eq_true rfl) (Nat.le_of_ble_eq_true rfl) ?_
  refine lv_istore (lv' := [(6, .int 0), (5, .int 1), (4, .int 0), (3, .ref oa), (2, .ref mo), (1, .ref o), (0, .ref b)]) hx hb dL_law_1265 hl (by decide) rfl (fun ls hl => ?_)
  refine lv_aload_n hx hb dL_law_1267 rfl (lv_at hl 4 rfl) ?_
  refine m_kV (As := []) (rest := []) (rm := { frames := 0, cells := 0, slots := 0, locals := 0 }) ⟨hx, hb, hml, hown, hts⟩ (c_X6_thrown l D k z _ mo 1 fs9 hMc) (cwV 0 hts gL_law_X6_thrown rfl rfl rfl (by decide +kernel) ⟨Nat.le_of_ble_eq_true rfl, Nat.le_of_ble_eq_true rfl⟩) (m_recv hK hm (q := (RX6, TX6, 24)) rfl hMc) hz hcx hm hS rfl hl.1 rfl (Nat.le_of_ble_eq_true rfl) dL_law_1268 ⟨Nat.le_of_ble_eq_true rfl, Nat.le_of_ble_eq_true rfl⟩ (fun v M1 H locs hv hm hS => ?_)
  obtain ⟨hv1, hM1⟩ := hv
  subst hv1
  rw [hM1] at hm
  refine W.eq (g2 := F0 m 1271 ls [.int 1]) rfl ?_
  refine W.widen (k := 139) (n := 404042) (Nat.le_of_ble_eq_true rfl) (Nat.le_of_ble_eq_true rfl) ?_
  refine lv_iload hx hb dL_law_1271 (lv_at hl 1 rfl) ?_
  refine lv_icmp_eq (tgt := 1278) hx hb dL_law_1273 (by decide) (fun c1 => ?_) (fun c1 => ?_)
  · refine lv_iload hx hb dL_law_1278 (lv_at hl 1 rfl) ?_
    refine lv_if_ne (tgt := 1295) hx hb dL_law_1280 (by decide) (fun c2 => ?_) (fun c2 => ?_)
    · refine lv_goto (tgt := 1434) hx hb dL_law_1295 (by decide) ?_
      refine W.widen (k := 160) (n := 406000) (Nat.le_of_ble_eq_true rfl) (Nat.le_of_ble_eq_true rfl) ?_
      exact LC_end l hlt C0 D k z hz hz2 hcxN hS (lv_sub hl [2, 6] rfl)
    · first | exact absurd c2 (by decide) | exact absurd (by decide) c2
  · first | exact absurd c1 (by decide) | exact absurd (by decide) c1
