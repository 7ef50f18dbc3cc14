/-- Transaction.isStale: whether something that is READ of the base's i-th node is no more so in the tree -/
def staleI (Lb Lt : List NV) (fc ff : Nat → Int64) (i : Nat) : Prop := ∃ v, Lb[i]? = some v ∧ ¬ lg_cmp (fc i ||| ff i) 0 = 0 ∧ (lookL v.1 Lt = none ∨ ∃ w, lookL v.1 Lt = some w ∧ difP v w (fc i) (ff i))
def staleP (Lb Lt : List NV) (fc ff : Nat → Int64) : Prop := ∃ i, i < Lb.length ∧ staleI Lb Lt fc ff i

set_option maxHeartbeats 4000000 in
set_option maxRecDepth 100000 in
theorem c_X3_isStale (l : Launch) (D : va_G) (k : Nat → ClassId) (z : Nat) (M : mM) (x bs vw mk cr fr bn t9 tn : Nat) (gb gt : Nat → Option Nat) (Lb Lt : List NV) (fc ff : Nat → Int64) (op md : Int32) (hX : M x = some (.inr (3, [.ref bs, .ref vw, .ref mk, .ref cr, .ref fr, .int op, .int md]))) (hB : treeAt k M bs bn gb Lb) (hT : treeAt k M t9 tn gt Lt) (hC : M cr = some (.inl (k 1, 60, .inr (.inl fc)))) (hF : M fr = some (.inl (k 1, 60, .inr (.inl ff)))) : mK l yX3_isStale wsX3_isStale ({ frames := 2, cells := 0, slots := 0, locals := 54 }) D k z [.ref x, .ref t9] M (fun v M' => ((staleP Lb Lt fc ff ∧ v = some (.int 1)) ∨ (¬ staleP Lb Lt fc ff ∧ v = some (.int 0))) ∧ M' = M) := by
  refine Met.ofW (cc := cX3_isStale) (maxL := 8) (ret := (some .boolean)) (by decide) rfl ?_
  intro p e s m args below meth c s₁ B hml hv
  obtain ⟨rfl, hz, hcx, hm⟩ := hv
  have hx := B.exec
  have hb := B.bytes
  have hr := B.returns
  have hts := atoms_spec (ws := wsX3_isStale) B.pre
  have hown : s.vm.findClass RX3 = some m.cls := findClass_of_methodNamed B.named
  have hlocks := B.notSynchronized
  have hK := hcx.1
  have hS : va_S (AZ z) s.heap s.heap [] := va_S.rf
  have hA : ∀ q, s.heap.size ≤ q → AZ z q := fun q h => Nat.le_trans hz h
  have hl := lv_entry ([.ref x, .ref t9]) (n := 8) (Nat.le_of_ble_eq_true rfl)
  rw [lg_entry_eq]
  generalize (lg_sl ([.ref x, .ref t9]) ++ List.replicate (8 - (lg_sl ([.ref x, .ref t9])).length) Slot.unset).toArray = ls at hl ⊢
  have hl : lv_has ls 8 [(0, .ref x), (1, .ref t9)] := hl
  have f12 := hts (.fieldLink RX3 12 "CommitTree$Transaction" "base" "LCommitTree$Tree;") (by decide +kernel)
  have f22 := hts (.fieldLink RX3 22 "CommitTree$Transaction" "cellsRead" "[J") (by decide +kernel)
  have f26 := hts (.fieldLink RX3 26 "CommitTree$Transaction" "factsRead" "[J") (by decide +kernel)
  have f71 := hts (.fieldLink RX3 71 "CommitTree$Node" "id" "I") (by decide +kernel)
  have f87 := hts (.fieldLink RX3 87 "CommitTree$Tree" "size" "I") (by decide +kernel)
  have wX2 : ∀ w ∈ wsX20, w ∈ wsX3_isStale := by decide +kernel
  have wX3 : ∀ w ∈ wsX30, w ∈ wsX3_isStale := by decide +kernel
  have wX4 : ∀ w ∈ wsX40, w ∈ wsX3_isStale := by decide +kernel
  have hL6 := hB.2.2.1
  refine lv_iconst (v := 0) hx hb dX3_isStale_0 (by decide) ?_
  refine lv_istore_n (lv' := [(2, .int 0), (0, .ref x), (1, .ref t9)]) hx hb dX3_isStale_1 rfl hl (by decide) rfl (fun ls hl => ?_)
  refine W_loop (σ := Nat) (fun i H locs ls => (i ≤ Lb.length) ∧ (∀ j, j < i → ¬ staleI Lb Lt fc ff j) ∧ mm D (AZ z) M H ∧ va_S (AZ z) s.heap H locs ∧ lv_has ls 8 [(2, .int (nI i)), (0, .ref x), (1, .ref t9)]) (fun i => Lb.length - i) (fun i => 0) (fun i => 0) ?_ 0 _ _ _ ⟨Nat.zero_le _, fun j hj => absurd hj (Nat.not_lt_zero j), hm, hS, lv_sub hl [0, 1, 2] rfl⟩
  intro i H locs ls hI ih2
  obtain ⟨hi, hno, hm, hS, hl⟩ := hI
  try dsimp only at hm hl ih2 ⊢
  refine lv_iload_n hx hb dX3_isStale_2 rfl (lv_at hl 0 rfl) ?_
  refine lv_aload_n hx hb dX3_isStale_3 rfl (lv_at hl 1 rfl) ?_
  refine m_get (T := TX3) (N := 7) (ci := 3) (v := .ref bs) hx hb hts wX3 hown hK hm hX rfl 0 (by decide) f12 (fun _ h9 => h9) rfl dX3_isStale_4 ?_
  refine m_get (T := TX4) (N := 2) (ci := 4) (v := .int (nI Lb.length)) hx hb hts wX4 hown hK hm hB.1 rfl 1 (by decide) f87 (fun _ h9 => h9) rfl dX3_isStale_7 ?_
  refine lv_icmp_ge (tgt := 97) hx hb dX3_isStale_10 (by decide) (fun c1 => ?_) (fun c1 => ?_)
  · refine lv_iconst (v := 0) hx hb dX3_isStale_97 (by decide) ?_
    refine W.zret hx hb hr rfl (fun t ht hW => ⟨⟨some (.int 0), _, rfl, ?_, by rw [ht]; exact hm⟩, hS.F ht⟩) hS.2.2 dX3_isStale_98
    have he : i = Lb.length := Nat.le_antisymm hi ((nI_leI (by omega) (by omega)).mp c1)
    refine ⟨Or.inr ⟨?_, rfl⟩, rfl⟩
    rintro ⟨j, hj, q⟩
    exact hno j (by omega) q
  · have hlt9 : i < Lb.length := Nat.lt_of_not_le fun q => c1 (nI_le q (by omega))
    have hcl : (nI i).toNatClampNeg = i := nI_clamp (by omega)
    obtain ⟨v, hLv⟩ : ∃ v, Lb[i]? = some v := ⟨_, List.getElem?_eq_getElem hlt9⟩
    obtain ⟨a, hga, hna⟩ := hB.2.2.2 i v hLv
    obtain ⟨hdv, ca, hna1, hca1⟩ := And.intro hna.1 hna.2
    refine lv_iload_n hx hb dX3_isStale_13 rfl (lv_at hl 0 rfl) ?_
    refine lv_aload_n hx hb dX3_isStale_14 rfl (lv_at hl 1 rfl) ?_
    refine m_get (T := TX3) (N := 7) (ci := 3) (v := .ref cr) hx hb hts wX3 hown hK hm hX rfl 3 (by decide) f22 (fun _ h9 => h9) rfl dX3_isStale_15 ?_
    refine m_alen hx hb hK hm 1 hC rfl (v := nI 60) rfl dX3_isStale_18 ?_
    refine lv_icmp_ge (tgt := 97) hx hb dX3_isStale_19 (by decide) (fun c2 => ?_) (fun c2 => ?_)
    · exact absurd c2 (fun h => absurd ((nI_leI (by decide) (by omega)).mp h) (by omega))
    · refine lv_iload_n hx hb dX3_isStale_22 rfl (lv_at hl 0 rfl) ?_
      refine lv_aload_n hx hb dX3_isStale_23 rfl (lv_at hl 1 rfl) ?_
      refine m_get (T := TX3) (N := 7) (ci := 3) (v := .ref fr) hx hb hts wX3 hown hK hm hX rfl 4 (by decide) f26 (fun _ h9 => h9) rfl dX3_isStale_24 ?_
      refine m_alen hx hb hK hm 1 hF rfl (v := nI 60) rfl dX3_isStale_27 ?_
      refine lv_icmp_ge (tgt := 97) hx hb dX3_isStale_28 (by decide) (fun c3 => ?_) (fun c3 => ?_)
      · exact absurd c3 (fun h => absurd ((nI_leI (by decide) (by omega)).mp h) (by omega))
      · refine lv_aload_n hx hb dX3_isStale_31 rfl (lv_at hl 1 rfl) ?_
        refine m_get (T := TX3) (N := 7) (ci := 3) (v := .ref bs) hx hb hts wX3 hown hK hm hX rfl 0 (by decide) f12 (fun _ h9 => h9) rfl dX3_isStale_32 ?_
        refine lv_iload_n hx hb dX3_isStale_35 rfl (lv_at hl 0 rfl) ?_
        refine m_kV (As := [.int (nI i)]) (rest := []) (rm := { frames := 0, cells := 0, slots := 0, locals := 0 }) ⟨hx, hb, hml, hown, hts⟩ (c_X4_at l D k z _ bs bn gb Lb (nI i) hB) (cwV 1 hts gX3_isStale_X4_at rfl rfl rfl (by decide +kernel) ⟨Nat.le_of_ble_eq_true rfl, Nat.le_of_ble_eq_true rfl⟩) (m_recv hK hm (q := (RX4, TX4, 2)) rfl hB.1) hz hcx hm hS rfl hl.1 rfl (Nat.le_of_ble_eq_true rfl) dX3_isStale_36 ⟨Nat.le_of_ble_eq_true rfl, Nat.le_of_ble_eq_true rfl⟩ (fun v M1 H locs hv hm hS => ?_)
        obtain ⟨hv1, hM1⟩ := hv
        rw [atA_in hB hlt9 hga] at hv1
        subst hv1
        rw [hM1] at hm
        refine W.eq (g2 := F0 m 39 ls [.ref a]) rfl ?_
        refine W.widen (k := 0) (n := 0) (Nat.le_of_ble_eq_true rfl) (Nat.le_of_ble_eq_true rfl) ?_
        have hm : mm D (AZ z) M H := hm
        refine lv_astore_n (lv' := [(3, .ref a), (2, .int (nI i)), (0, .ref x), (1, .ref t9)]) hx hb dX3_isStale_39 rfl hl (by decide) rfl (fun ls hl => ?_)
        refine lv_aload_n hx hb dX3_isStale_40 rfl (lv_at hl 2 rfl) ?_
        refine m_get (T := TX3) (N := 7) (ci := 3) (v := .ref cr) hx hb hts wX3 hown hK hm hX rfl 3 (by decide) f22 (fun _ h9 => h9) rfl dX3_isStale_41 ?_
        refine lv_iload_n hx hb dX3_isStale_44 rfl (lv_at hl 1 rfl) ?_
        refine m_lald hx hb hK hm 1 hC rfl (vp_in_nI (show i < 60 by omega) (by decide)) dX3_isStale_45 ?_
        refine lv_lstore (lv' := [(4, .long (fc ((nI i)).toNatClampNeg)), (3, .ref a), (2, .int (nI i)), (0, .ref x), (1, .ref t9)]) hx hb dX3_isStale_46 hl (by decide) rfl (fun ls hl => ?_)
        refine lv_aload_n hx hb dX3_isStale_48 rfl (lv_at hl 3 rfl) ?_
        refine m_get (T := TX3) (N := 7) (ci := 3) (v := .ref fr) hx hb hts wX3 hown hK hm hX rfl 4 (by decide) f26 (fun _ h9 => h9) rfl dX3_isStale_49 ?_
        refine lv_iload_n hx hb dX3_isStale_52 rfl (lv_at hl 2 rfl) ?_
        refine m_lald hx hb hK hm 1 hF rfl (vp_in_nI (show i < 60 by omega) (by decide)) dX3_isStale_53 ?_
        refine lv_lstore (lv' := [(6, .long (ff ((nI i)).toNatClampNeg)), (4, .long (fc ((nI i)).toNatClampNeg)), (3, .ref a), (2, .int (nI i)), (0, .ref x), (1, .ref t9)]) hx hb dX3_isStale_54 hl (by decide) rfl (fun ls hl => ?_)
        refine lv_aload_n hx hb dX3_isStale_56 rfl (lv_at hl 2 rfl) ?_
        refine lv_ifnull hx hb dX3_isStale_57 ?_
        refine lv_lload hx hb dX3_isStale_60 (lv_at hl 1 rfl) ?_
        refine lv_lload hx hb dX3_isStale_62 (lv_at hl 0 rfl) ?_
        refine lv_lor hx hb dX3_isStale_64 ?_
        refine lv_lconst (v := 0) hx hb dX3_isStale_65 (by decide) ?_
        refine W.lcmp hx hb dX3_isStale_66 ?_
        refine lv_if_eq (tgt := 91) hx hb dX3_isStale_67 (by decide) (fun c4 => ?_) (fun c4 => ?_)
        · refine lv_iinc (v := ((nI i) + 1)) (lv' := [(2, .int ((nI i) + 1)), (6, .long (ff ((nI i)).toNatClampNeg)), (4, .long (fc ((nI i)).toNatClampNeg)), (3, .ref a), (0, .ref x), (1, .ref t9)]) hx hb dX3_isStale_91 hl (k := 3) rfl rfl (by decide) rfl (fun ls hl => ?_)
          refine lv_goto (tgt := 2) hx hb dX3_isStale_94 (by decide) ?_
          rw [nI_1] at hl
          have hni : ¬ staleI Lb Lt fc ff i := by rintro ⟨v1, h1, h2, h3⟩; rw [hcl] at c4; exact h2 c4
          exact ih2 (i + 1) _ _ _ ⟨by omega, fun j hj => if q : j = i then q ▸ hni else hno j (by omega), hm, hS, lv_sub hl [0, 4, 5] rfl⟩ (by omega)
        · rcases findA_cases v.1 hT with ⟨hf, hlk, hpl⟩ | ⟨j9, u, au, hj9, hLj, hid, hlk, hpl, hf, hgj, hnu⟩
          · refine lv_aload_n hx hb dX3_isStale_70 rfl (lv_at hl 2 rfl) ?_
            refine lv_aload_n hx hb dX3_isStale_71 rfl (lv_at hl 5 rfl) ?_
            refine lv_aload_n hx hb dX3_isStale_72 rfl (lv_at hl 2 rfl) ?_
            refine m_get (T := TX2) (N := 4) (ci := 2) (v := .int v.1) hx hb hts wX2 hown hK hm hna1 rfl 0 (by decide) f71 (fun _ h9 => h9) rfl dX3_isStale_73 ?_
            refine m_kV (As := [.int v.1]) (rest := [.ref a]) (rm := { frames := 1, cells := 0, slots := 0, locals := 24 }) ⟨hx, hb, hml, hown, hts⟩ (c_X4_find l D k z _ t9 tn gt Lt v.1 hT) (cwV 1 hts gX3_isStale_X4_find rfl rfl rfl (by decide +kernel) ⟨Nat.le_of_ble_eq_true rfl, Nat.le_of_ble_eq_true rfl⟩) (m_recv hK hm (q := (RX4, TX4, 2)) rfl hT.1) hz hcx hm hS rfl hl.1 rfl (Nat.le_of_ble_eq_true rfl) dX3_isStale_76 ⟨Nat.le_of_ble_eq_true rfl, Nat.le_of_ble_eq_true rfl⟩ (fun v M1 H locs hv hm hS => ?_)
            obtain ⟨hv1, hM1⟩ := hv
            rw [hf] at hv1
            subst hv1
            rw [hM1] at hm
            refine W.eq (g2 := F0 m 79 ls [.null, .ref a]) rfl ?_
            refine W.widen (k := 0) (n := 0) (Nat.le_of_ble_eq_true rfl) (Nat.le_of_ble_eq_true rfl) ?_
            have hm : mm D (AZ z) M H := hm
            refine lv_lload hx hb dX3_isStale_79 (lv_at hl 1 rfl) ?_
            refine lv_lload hx hb dX3_isStale_81 (lv_at hl 0 rfl) ?_
            refine m_kS (As := [.ref a, .null, .long (fc ((nI i)).toNatClampNeg), .long (ff ((nI i)).toNatClampNeg)]) (rest := []) (rm := { frames := 1, cells := 0, slots := 0, locals := 24 }) ⟨hx, hb, hml, hown, hts⟩ (c_X3_differsN l D k z _ a (fc (nI i).toNatClampNeg) (ff (nI i).toNatClampNeg)) (cwS 4 hts gX3_isStale_X3_differs rfl rfl rfl (by decide +kernel) ⟨Nat.le_of_ble_eq_true rfl, Nat.le_of_ble_eq_true rfl⟩) hz hcx hm hS rfl hl.1 rfl (Nat.le_of_ble_eq_true rfl) dX3_isStale_83 ⟨Nat.le_of_ble_eq_true rfl, Nat.le_of_ble_eq_true rfl⟩ (fun v M1 H locs hv hm hS => ?_)
            obtain ⟨rfl, hM1⟩ := hv
            rw [hM1] at hm
            refine W.eq (g2 := F0 m 86 ls [.int 1]) rfl ?_
            refine W.widen (k := 0) (n := 0) (Nat.le_of_ble_eq_true rfl) (Nat.le_of_ble_eq_true rfl) ?_
            have hm : mm D (AZ z) M H := hm
            refine lv_if_eq (tgt := 91) hx hb dX3_isStale_86 (by decide) (fun c5 => ?_) (fun c5 => ?_)
            · first | exact absurd c5 (by decide) | exact absurd (by decide) c5
            · refine lv_iconst (v := 1) hx hb dX3_isStale_89 (by decide) ?_
              refine W.zret hx hb hr rfl (fun t ht hW => ⟨⟨some (.int 1), _, rfl, ?_, by rw [ht]; exact hm⟩, hS.F ht⟩) hS.2.2 dX3_isStale_90
              have hc9 := c4
              rw [hcl] at hc9
              refine ⟨Or.inl ⟨⟨i, hlt9, v, hLv, hc9, ?_⟩, rfl⟩, rfl⟩
              first
                | exact Or.inl hlk
                | exact Or.inr ⟨u, hlk, by rw [hcl] at hp; exact hp⟩
          · refine lv_aload_n hx hb dX3_isStale_70 rfl (lv_at hl 2 rfl) ?_
            refine lv_aload_n hx hb dX3_isStale_71 rfl (lv_at hl 5 rfl) ?_
            refine lv_aload_n hx hb dX3_isStale_72 rfl (lv_at hl 2 rfl) ?_
            refine m_get (T := TX2) (N := 4) (ci := 2) (v := .int v.1) hx hb hts wX2 hown hK hm hna1 rfl 0 (by decide) f71 (fun _ h9 => h9) rfl dX3_isStale_73 ?_
            refine m_kV (As := [.int v.1]) (rest := [.ref a]) (rm := { frames := 1, cells := 0, slots := 0, locals := 24 }) ⟨hx, hb, hml, hown, hts⟩ (c_X4_find l D k z _ t9 tn gt Lt v.1 hT) (cwV 1 hts gX3_isStale_X4_find rfl rfl rfl (by decide +kernel) ⟨Nat.le_of_ble_eq_true rfl, Nat.le_of_ble_eq_true rfl⟩) (m_recv hK hm (q := (RX4, TX4, 2)) rfl hT.1) hz hcx hm hS rfl hl.1 rfl (Nat.le_of_ble_eq_true rfl) dX3_isStale_76 ⟨Nat.le_of_ble_eq_true rfl, Nat.le_of_ble_eq_true rfl⟩ (fun v M1 H locs hv hm hS => ?_)
            obtain ⟨hv1, hM1⟩ := hv
            rw [hf] at hv1
            subst hv1
            rw [hM1] at hm
            refine W.eq (g2 := F0 m 79 ls [.ref au, .ref a]) rfl ?_
            refine W.widen (k := 0) (n := 0) (Nat.le_of_ble_eq_true rfl) (Nat.le_of_ble_eq_true rfl) ?_
            have hm : mm D (AZ z) M H := hm
            refine lv_lload hx hb dX3_isStale_79 (lv_at hl 1 rfl) ?_
            refine lv_lload hx hb dX3_isStale_81 (lv_at hl 0 rfl) ?_
            refine m_kS (As := [.ref a, .ref au, .long (fc ((nI i)).toNatClampNeg), .long (ff ((nI i)).toNatClampNeg)]) (rest := []) (rm := { frames := 1, cells := 0, slots := 0, locals := 24 }) ⟨hx, hb, hml, hown, hts⟩ (c_X3_differs l D k z _ a au v u (fc (nI i).toNatClampNeg) (ff (nI i).toNatClampNeg) hna hnu) (cwS 4 hts gX3_isStale_X3_differs rfl rfl rfl (by decide +kernel) ⟨Nat.le_of_ble_eq_true rfl, Nat.le_of_ble_eq_true rfl⟩) hz hcx hm hS rfl hl.1 rfl (Nat.le_of_ble_eq_true rfl) dX3_isStale_83 ⟨Nat.le_of_ble_eq_true rfl, Nat.le_of_ble_eq_true rfl⟩ (fun v M1 H locs hv hm hS => ?_)
            obtain ⟨hv1, hM1⟩ := hv
            rw [hM1] at hm
            rcases hv1 with ⟨hp, rfl⟩ | ⟨hp, rfl⟩
            · refine W.eq (g2 := F0 m 86 ls [.int 1]) rfl ?_
              refine W.widen (k := 0) (n := 0) (Nat.le_of_ble_eq_true rfl) (Nat.le_of_ble_eq_true rfl) ?_
              have hm : mm D (AZ z) M H := hm
              refine lv_if_eq (tgt := 91) hx hb dX3_isStale_86 (by decide) (fun c6 => ?_) (fun c6 => ?_)
              · first | exact absurd c6 (by decide) | exact absurd (by decide) c6
              · refine lv_iconst (v := 1) hx hb dX3_isStale_89 (by decide) ?_
                refine W.zret hx hb hr rfl (fun t ht hW => ⟨⟨some (.int 1), _, rfl, ?_, by rw [ht]; exact hm⟩, hS.F ht⟩) hS.2.2 dX3_isStale_90
                have hc9 := c4
                rw [hcl] at hc9
                refine ⟨Or.inl ⟨⟨i, hlt9, v, hLv, hc9, ?_⟩, rfl⟩, rfl⟩
                first
                  | exact Or.inl hlk
                  | exact Or.inr ⟨u, hlk, by rw [hcl] at hp; exact hp⟩
            · refine W.eq (g2 := F0 m 86 ls [.int 0]) rfl ?_
              refine W.widen (k := 0) (n := 0) (Nat.le_of_ble_eq_true rfl) (Nat.le_of_ble_eq_true rfl) ?_
              have hm : mm D (AZ z) M H := hm
              refine lv_if_eq (tgt := 91) hx hb dX3_isStale_86 (by decide) (fun c7 => ?_) (fun c7 => ?_)
              · refine lv_iinc (v := ((nI i) + 1)) (lv' := [(2, .int ((nI i) + 1)), (6, .long (ff ((nI i)).toNatClampNeg)), (4, .long (fc ((nI i)).toNatClampNeg)), (3, .ref a), (0, .ref x), (1, .ref t9)]) hx hb dX3_isStale_91 hl (k := 3) rfl rfl (by decide) rfl (fun ls hl => ?_)
                refine lv_goto (tgt := 2) hx hb dX3_isStale_94 (by decide) ?_
                rw [nI_1] at hl
                have hni : ¬ staleI Lb Lt fc ff i := by
                  rintro ⟨v1, h1, h2, h3⟩
                  rw [hcl] at hp
                  cases hLv.symm.trans h1
                  rcases h3 with h3 | ⟨w1, h3, h4⟩
                  · cases hlk.symm.trans h3
                  · cases hlk.symm.trans h3; exact hp h4
                exact ih2 (i + 1) _ _ _ ⟨by omega, fun j hj => if q : j = i then q ▸ hni else hno j (by omega), hm, hS, lv_sub hl [0, 4, 5] rfl⟩ (by omega)
              · first | exact absurd c7 (by decide) | exact absurd (by decide) c7
