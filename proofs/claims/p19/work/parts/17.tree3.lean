/-- a tree's rows, the first n of them another's -/
def copyG (g go : Nat → Option Nat) (n : Nat) : Nat → Option Nat := fun j => if j < n then go j else g j
def copyM (k : Nat → ClassId) (M : mM) (t na : Nat) (g go : Nat → Option Nat) (n : Nat) : mM := mu (mu M na (.inl (k 3, 60, .inr (.inr (.inr (.inr (copyG g go n))))))) t (.inr (4, [.ref na, .int (nI n)]))
theorem copyG_0 (g go : Nat → Option Nat) : copyG g go 0 = g := by funext j; simp [copyG]
theorem copyG_s {g go : Nat → Option Nat} {n a : Nat} (h : go n = some a) : va_up (copyG g go n) n (some a) = copyG g go (n + 1) := by
  funext j
  by_cases hj : j = n
  · subst hj; simp [va_up, copyG, h]
  · by_cases h2 : j < n
    · have h3 : j < n + 1 := by omega
      simp [va_up, copyG, hj, h2, h3]
    · have h3 : ¬ j < n + 1 := by omega
      simp [va_up, copyG, hj, h2, h3]
theorem copyM_0 {k : Nat → ClassId} {M : mM} {t na : Nat} {g go : Nat → Option Nat} {L : List NV} (h : treeAt k M t na g L) : mu M t (.inr (4, [.ref na, .int 0])) = copyM k M t na g go 0 := by
  unfold copyM
  rw [copyG_0, mu_id h.2.1]
  rfl
theorem copyM_s {k : Nat → ClassId} {M : mM} {t na n a : Nat} {g go : Nat → Option Nat} (hne : t ≠ na) (h : go n = some a) (hn : n < 60) : addM k (copyM k M t na g go n) t na n (copyG g go n) a = copyM k M t na g go (n + 1) := by
  unfold addM copyM
  rw [if_pos hn, copyG_s h, mu_comm (M := mu M na _) hne, mu_mu, mu_mu]
theorem treeAt_copy {k : Nat → ClassId} {M : mM} {t na o oa : Nat} {g go : Nat → Option Nat} {L Lo : List NV} (h : treeAt k M t na g L) (ho : treeAt k M o oa go Lo) {n : Nat} (hn : n ≤ Lo.length) : treeAt k (copyM k M t na g go n) t na (copyG g go n) (Lo.take n) := by
  have hne := treeAt_ne h
  have hlen : (Lo.take n).length = n := by rw [List.length_take]; omega
  refine ⟨by rw [hlen]; exact mu_self _ _ _, (mu_ne hne.symm).trans (mu_self _ _ _), by rw [hlen]; exact Nat.le_trans hn ho.2.2.1, fun j v hv => ?_⟩
  have hj : j < n := by
    have := (List.getElem?_eq_some_iff.mp hv).1
    omega
  rw [List.getElem?_take_of_lt hj] at hv
  obtain ⟨a, h1, h2⟩ := ho.2.2.2 j v hv
  exact ⟨a, by simp [copyG, hj, h1], nodeAt_mu (nodeAt_mu h2 h.2.1 (other_row _ _ _ _)) ((mu_ne hne).trans h.1) (other_tree _ _)⟩
theorem treeAt_aside {k : Nat → ClassId} {M : mM} {t na o oa : Nat} {g go : Nat → Option Nat} {L Lo : List NV} (h : treeAt k M t na g L) (ho : treeAt k M o oa go Lo) (h1 : o ≠ t) (h2 : oa ≠ na) (n : Nat) : treeAt k (copyM k M t na g go n) o oa go Lo :=
  treeAt_mu (treeAt_mu ho h.2.1 (other_row _ _ _ _) (m_df h.2.1 ho.1 (by intro h; cases h)) h2) ((mu_ne (treeAt_ne h)).trans h.1) (other_tree _ _) h1 (m_df h.1 ho.2.1 (by intro h; cases h))

set_option maxHeartbeats 4000000 in
set_option maxRecDepth 100000 in
theorem c_X4_copyFrom (l : Launch) (D : va_G) (k : Nat → ClassId) (z : Nat) (M : mM) (h0 na o0 oa : Nat) (g go : Nat → Option Nat) (L Lo : List NV) (hne1 : o0 ≠ h0) (hne2 : oa ≠ na) (hT : treeAt k M h0 na g L) (hO : treeAt k M o0 oa go Lo) : mK l yX4_copyFrom wsX4_copyFrom ({ frames := 1, cells := 0, slots := 0, locals := 24 }) D k z [.ref h0, .ref o0] M (fun v M' => v = none ∧ M' = copyM k M h0 na g go Lo.length) := by
  refine Met.ofW (cc := cX4_copyFrom) (maxL := 4) (ret := none) (by decide) rfl ?_
  intro p e s m args below meth c s₁ B hml hv
  obtain ⟨rfl, hz, hcx, hm⟩ := hv
  have hx := B.exec
  have hb := B.bytes
  have hr := B.returns
  have hts := atoms_spec (ws := wsX4_copyFrom) B.pre
  have hown : s.vm.findClass RX4 = some m.cls := findClass_of_methodNamed B.named
  have hlocks := B.notSynchronized
  have hK := hcx.1
  have hS : va_S (AZ z) s.heap s.heap [] := va_S.rf
  have hA : ∀ q, s.heap.size ≤ q → AZ z q := fun q h => Nat.le_trans hz h
  have hl := lv_entry ([.ref h0, .ref o0]) (n := 4) (Nat.le_of_ble_eq_true rfl)
  rw [lg_entry_eq]
  generalize (lg_sl ([.ref h0, .ref o0]) ++ List.replicate (4 - (lg_sl ([.ref h0, .ref o0])).length) Slot.unset).toArray = ls at hl ⊢
  have hl : lv_has ls 4 [(0, .ref h0), (1, .ref o0)] := hl
  have f17 := hts (.fieldLink RX4 17 "CommitTree$Tree" "size" "I") (by decide +kernel)
  have wX4 : ∀ w ∈ wsX40, w ∈ wsX4_copyFrom := by decide +kernel
  have ne_na_h0 : na ≠ h0 := (treeAt_ne hT).symm
  have ne_h0_na : h0 ≠ na := treeAt_ne hT
  have hL6 := hT.2.2.1
  have ne_o0_h0 : o0 ≠ h0 := hne1
  have ne_oa_na : oa ≠ na := hne2
  have ne_o0_na : o0 ≠ na := m_df hT.2.1 hO.1 (by intro h; cases h)
  have ne_oa_h0 : oa ≠ h0 := m_df hT.1 hO.2.1 (by intro h; cases h)
  have hLo6 := hO.2.2.1
  refine lv_aload_n hx hb dX4_copyFrom_0 rfl (lv_at hl 0 rfl) ?_
  refine lv_iconst (v := 0) hx hb dX4_copyFrom_1 (by decide) ?_
  refine m_put (T := TX4) (N := 2) (ci := 4) (v := .int 0) (ty := .int) hx hb hts wX4 tyX4 tyX4_ok nmX4 hown hK hm hS hT.1 rfl 1 (by decide) f17 (fun _ h9 => h9) rfl (by decide +kernel) rfl rfl (Nat.le_of_ble_eq_true rfl) dX4_copyFrom_2 (fun H locs hm hS => ?_)
  have hm : mm D (AZ z) (mu M h0 (.inr (4, [.ref na, .int 0]))) H := hm
  refine lv_iconst (v := 0) hx hb dX4_copyFrom_5 (by decide) ?_
  refine lv_istore_n (lv' := [(2, .int 0), (0, .ref h0), (1, .ref o0)]) hx hb dX4_copyFrom_6 rfl hl (by decide) rfl (fun ls hl => ?_)
  rw [copyM_0 (go := go) hT] at hm
  refine W_loop (σ := Nat) (fun i H locs ls => i ≤ Lo.length ∧ mm D (AZ z) (copyM k M h0 na g go i) H ∧ va_S (AZ z) s.heap H locs ∧ lv_has ls 4 [(2, .int (nI i)), (0, .ref h0), (1, .ref o0)]) (fun i => Lo.length - i) (fun i => 0) (fun i => 0) ?_ 0 _ _ _ ⟨Nat.zero_le _, hm, hS, lv_sub hl [0, 1, 2] rfl⟩
  intro i H locs ls hI ih7
  obtain ⟨hi, hm, hS, hl⟩ := hI
  try dsimp only at hm hl ih7 ⊢
  have hOi := treeAt_aside hT hO ne_o0_h0 ne_oa_na i
  have hTi := treeAt_copy hT hO hi
  have hlen : (Lo.take i).length = i := by rw [List.length_take]; omega
  refine lv_iload_n hx hb dX4_copyFrom_7 rfl (lv_at hl 0 rfl) ?_
  refine lv_aload_n hx hb dX4_copyFrom_8 rfl (lv_at hl 2 rfl) ?_
  refine m_get (T := TX4) (N := 2) (ci := 4) (v := .int (nI Lo.length)) hx hb hts wX4 hown hK hm hOi.1 rfl 1 (by decide) f17 (fun _ h9 => h9) rfl dX4_copyFrom_9 ?_
  refine lv_icmp_ge (tgt := 36) hx hb dX4_copyFrom_12 (by decide) (fun c1 => ?_) (fun c1 => ?_)
  · refine W.vret hx hb hr (fun t ht hW => ⟨⟨none, _, rfl, ?_, by rw [ht]; exact hm⟩, hS.F ht⟩) hS.2.2 dX4_copyFrom_36
    have he : i = Lo.length := Nat.le_antisymm hi ((nI_leI (by omega) (by omega)).mp c1)
    subst he
    exact ⟨rfl, rfl⟩
  · have hlt : i < Lo.length := Nat.lt_of_not_le fun q => c1 (nI_le q (by omega))
    obtain ⟨v, hv⟩ : ∃ v, Lo[i]? = some v := ⟨Lo[i], List.getElem?_eq_getElem hlt⟩
    obtain ⟨a, hga, hnd⟩ := hOi.2.2.2 i v hv
    have hat := atA_in hOi hlt hga
    refine lv_aload_n hx hb dX4_copyFrom_15 rfl (lv_at hl 2 rfl) ?_
    refine lv_iload_n hx hb dX4_copyFrom_16 rfl (lv_at hl 0 rfl) ?_
    refine m_kV (As := [.int (nI i)]) (rest := []) (rm := { frames := 0, cells := 0, slots := 0, locals := 0 }) ⟨hx, hb, hml, hown, hts⟩ (c_X4_at l D k z _ o0 oa go Lo (nI i) hOi) (cwV 1 hts gX4_copyFrom_X4_at rfl rfl rfl (by decide +kernel) ⟨Nat.le_of_ble_eq_true rfl, Nat.le_of_ble_eq_true rfl⟩) (m_recv hK hm (q := (RX4, TX4, 2)) rfl hOi.1) hz hcx hm hS rfl hl.1 rfl (Nat.le_of_ble_eq_true rfl) dX4_copyFrom_17 ⟨Nat.le_of_ble_eq_true rfl, Nat.le_of_ble_eq_true rfl⟩ (fun v M1 H locs hv hm hS => ?_)
    obtain ⟨hv1, hM1⟩ := hv
    rw [hat] at hv1
    subst hv1
    rw [hM1] at hm
    refine W.eq (g2 := F0 m 20 ls [.ref a]) rfl ?_
    refine W.widen (k := 0) (n := 0) (Nat.le_of_ble_eq_true rfl) (Nat.le_of_ble_eq_true rfl) ?_
    have hm : mm D (AZ z) (copyM k M h0 na g go i) H := hm
    refine lv_astore_n (lv' := [(3, .ref a), (2, .int (nI i)), (0, .ref h0), (1, .ref o0)]) hx hb dX4_copyFrom_20 rfl hl (by decide) rfl (fun ls hl => ?_)
    refine lv_aload_n hx hb dX4_copyFrom_21 rfl (lv_at hl 0 rfl) ?_
    refine lv_ifnull hx hb dX4_copyFrom_22 ?_
    refine lv_aload_n hx hb dX4_copyFrom_25 rfl (lv_at hl 2 rfl) ?_
    refine lv_aload_n hx hb dX4_copyFrom_26 rfl (lv_at hl 0 rfl) ?_
    refine m_kV (As := [.ref a]) (rest := []) (rm := { frames := 0, cells := 0, slots := 0, locals := 0 }) ⟨hx, hb, hml, hown, hts⟩ (c_X4_add l D k z _ h0 na a (copyG g go i) (Lo.take i) v hTi hnd) (cwV 1 hts gX4_copyFrom_X4_add rfl rfl rfl (by decide +kernel) ⟨Nat.le_of_ble_eq_true rfl, Nat.le_of_ble_eq_true rfl⟩) (m_recv hK hm (q := (RX4, TX4, 2)) rfl (mu_self _ _ _)) hz hcx hm hS rfl hl.1 rfl (Nat.le_of_ble_eq_true rfl) dX4_copyFrom_27 ⟨Nat.le_of_ble_eq_true rfl, Nat.le_of_ble_eq_true rfl⟩ (fun v M1 H locs hv hm hS => ?_)
    obtain ⟨rfl, hM1⟩ := hv
    rw [hM1, hlen, copyM_s ne_h0_na hga (by omega)] at hm
    refine W.eq (g2 := F0 m 30 ls []) rfl ?_
    refine W.widen (k := 0) (n := 0) (Nat.le_of_ble_eq_true rfl) (Nat.le_of_ble_eq_true rfl) ?_
    have hm : mm D (AZ z) (copyM k M h0 na g go (i + 1)) H := hm
    refine lv_iinc (v := ((nI i) + 1)) (lv' := [(2, .int ((nI i) + 1)), (3, .ref a), (0, .ref h0), (1, .ref o0)]) hx hb dX4_copyFrom_30 hl (k := 1) rfl rfl (by decide) rfl (fun ls hl => ?_)
    refine lv_goto (tgt := 7) hx hb dX4_copyFrom_33 (by decide) ?_
    rw [nI_1] at hl
    exact ih7 (i + 1) _ _ _ ⟨by omega, hm, hS, lv_sub hl [0, 2, 3] rfl⟩ (by omega)

/-- a node with another cell -/
def nvSet (v : NV) (i x : Int32) : NV := (v.1, v.2.1, v.2.2.1, nd_set (nlen v) v.2.2.2 i x)
theorem nlen_le (v : NV) : nlen v ≤ 64 := by unfold nlen; split <;> omega
theorem nlen_set (v : NV) (i x : Int32) : nlen (nvSet v i x) = nlen v := rfl
/-- a node and its array, made anew -/
theorem nodeAt_made {k : Nat → ClassId} {M : mM} {q qa : Nat} (hne : q ≠ qa) (v : NV) (hd : v.2.1 = 0 ∨ v.2.1 = 1) : nodeAt k (mu (mu M qa (.inl (k 0, nlen v, .inl v.2.2.2))) q (.inr (2, [.int v.1, .int v.2.1, .int v.2.2.1, .ref qa]))) q v :=
  ⟨hd, qa, mu_self _ _ _, (mu_ne hne.symm).trans (mu_self _ _ _)⟩
def madeM (k : Nat → ClassId) (M : mM) (q qa : Nat) (v : NV) : mM := mu (mu M qa (.inl (k 0, nlen v, .inl v.2.2.2))) q (.inr (2, [.int v.1, .int v.2.1, .int v.2.2.1, .ref qa]))
theorem treeAt_made {k : Nat → ClassId} {M : mM} {t na q qa : Nat} {g : Nat → Option Nat} {L : List NV} {v : NV} (h : treeAt k M t na g L) (hq : M q = none) (hqa : M qa = none) (hne : q ≠ qa) : treeAt k (madeM k M q qa v) t na g L :=
  treeAt_new (treeAt_new h hqa) ((mu_ne hne).trans hq)

set_option maxHeartbeats 4000000 in
set_option maxRecDepth 100000 in
theorem c_X4_setEntry (l : Launch) (D : va_G) (k : Nat → ClassId) (z : Nat) (M : mM) (h0 na : Nat) (g : Nat → Option Nat) (L : List NV) (id nm x : Int32) (hT : treeAt k M h0 na g L) : mK l yX4_setEntry wsX4_setEntry ({ frames := 3, cells := 2, slots := 68, locals := 70 }) D k z [.ref h0, .int id, .int nm, .int x] M (fun w M' => w = none ∧ ((lookL id L = none ∧ M' = M) ∨ ∃ j v q qa, j < L.length ∧ L[j]? = some v ∧ v.1 = id ∧ placeFrom id L 0 = nI j ∧ lookL id L = some v ∧ M q = none ∧ M qa = none ∧ q ≠ qa ∧ M' = putM k (madeM k M q qa (nvSet v nm x)) h0 na L g q v.1)) := by
  refine Met.ofW (cc := cX4_setEntry) (maxL := 5) (ret := none) (by decide) rfl ?_
  intro p e s m args below meth c s₁ B hml hv
  obtain ⟨rfl, hz, hcx, hm⟩ := hv
  have hx := B.exec
  have hb := B.bytes
  have hr := B.returns
  have hts := atoms_spec (ws := wsX4_setEntry) B.pre
  have hown : s.vm.findClass RX4 = some m.cls := findClass_of_methodNamed B.named
  have hlocks := B.notSynchronized
  have hK := hcx.1
  have hS : va_S (AZ z) s.heap s.heap [] := va_S.rf
  have hA : ∀ q, s.heap.size ≤ q → AZ z q := fun q h => Nat.le_trans hz h
  have hl := lv_entry ([.ref h0, .int id, .int nm, .int x]) (n := 5) (Nat.le_of_ble_eq_true rfl)
  rw [lg_entry_eq]
  generalize (lg_sl ([.ref h0, .int id, .int nm, .int x]) ++ List.replicate (5 - (lg_sl ([.ref h0, .int id, .int nm, .int x])).length) Slot.unset).toArray = ls at hl ⊢
  have hl : lv_has ls 5 [(0, .ref h0), (1, .int id), (2, .int nm), (3, .int x)] := hl
  have f39 := hts (.fieldLink RX4 39 "CommitTree$Node" "size" "I") (by decide +kernel)
  have wX2 : ∀ w ∈ wsX20, w ∈ wsX4_setEntry := by decide +kernel
  have ne_na_h0 : na ≠ h0 := (treeAt_ne hT).symm
  have ne_h0_na : h0 ≠ na := treeAt_ne hT
  have hL6 := hT.2.2.1
  rcases findA_cases id hT with ⟨hf, hlk, hpl⟩ | ⟨j, v, a, hj, hLj, hid, hlk, hpl, hf, hgj, hnd⟩
  · refine lv_aload_n hx hb dX4_setEntry_0 rfl (lv_at hl 0 rfl) ?_
    refine lv_iload_n hx hb dX4_setEntry_1 rfl (lv_at hl 1 rfl) ?_
    refine m_kV (As := [.int id]) (rest := []) (rm := { frames := 1, cells := 0, slots := 0, locals := 24 }) ⟨hx, hb, hml, hown, hts⟩ (c_X4_find l D k z _ h0 na g L id hT) (cwV 1 hts gX4_setEntry_X4_find rfl rfl rfl (by decide +kernel) ⟨Nat.le_of_ble_eq_true rfl, Nat.le_of_ble_eq_true rfl⟩) (m_recv hK hm (q := (RX4, TX4, 2)) rfl hT.1) hz hcx hm hS rfl hl.1 rfl (Nat.le_of_ble_eq_true rfl) dX4_setEntry_2 ⟨Nat.le_of_ble_eq_true rfl, Nat.le_of_ble_eq_true rfl⟩ (fun v M1 H locs hv hm hS => ?_)
    obtain ⟨hv1, hM1⟩ := hv
    rw [hf] at hv1
    subst hv1
    rw [hM1] at hm
    refine W.eq (g2 := F0 m 5 ls [.null]) rfl ?_
    refine W.widen (k := 0) (n := 0) (Nat.le_of_ble_eq_true rfl) (Nat.le_of_ble_eq_true rfl) ?_
    have hm : mm D (AZ z) M H := hm
    refine lv_astoreN (lv' := [(4, .null), (0, .ref h0), (1, .int id), (2, .int nm), (3, .int x)]) hx hb dX4_setEntry_5 hl (by decide) rfl (fun ls hl => ?_)
    refine lv_aloadN hx hb dX4_setEntry_7 (lv_at hl 0 rfl) ?_
    refine lv_ifnullN (tgt := 28) hx hb dX4_setEntry_9 (by decide) ?_
    refine W.widen (k := 2) (n := 68) (by omega) (by omega) ?_
    refine W.vret hx hb hr (fun t ht hW => ⟨⟨none, _, rfl, ?_, by rw [ht]; exact hm⟩, hS.F ht⟩) hS.2.2 dX4_setEntry_28
    first
      | exact ⟨rfl, Or.inl ⟨hlk, rfl⟩⟩
      | exact ⟨rfl, Or.inr ⟨j, v, q, qa, hj, hLj, hid, hpl, hlk, hq, hqa, hneq, rfl⟩⟩
  · obtain ⟨hdr, ca, hna, hca⟩ := And.intro hnd.1 hnd.2
    have ne_ca_a : ca ≠ a := m_df hna hca (by intro h; cases h)
    refine lv_aload_n hx hb dX4_setEntry_0 rfl (lv_at hl 0 rfl) ?_
    refine lv_iload_n hx hb dX4_setEntry_1 rfl (lv_at hl 1 rfl) ?_
    refine m_kV (As := [.int id]) (rest := []) (rm := { frames := 1, cells := 0, slots := 0, locals := 24 }) ⟨hx, hb, hml, hown, hts⟩ (c_X4_find l D k z _ h0 na g L id hT) (cwV 1 hts gX4_setEntry_X4_find rfl rfl rfl (by decide +kernel) ⟨Nat.le_of_ble_eq_true rfl, Nat.le_of_ble_eq_true rfl⟩) (m_recv hK hm (q := (RX4, TX4, 2)) rfl hT.1) hz hcx hm hS rfl hl.1 rfl (Nat.le_of_ble_eq_true rfl) dX4_setEntry_2 ⟨Nat.le_of_ble_eq_true rfl, Nat.le_of_ble_eq_true rfl⟩ (fun v M1 H locs hv hm hS => ?_)
    obtain ⟨hv1, hM1⟩ := hv
    rw [hf] at hv1
    subst hv1
    rw [hM1] at hm
    refine W.eq (g2 := F0 m 5 ls [.ref a]) rfl ?_
    refine W.widen (k := 0) (n := 0) (Nat.le_of_ble_eq_true rfl) (Nat.le_of_ble_eq_true rfl) ?_
    have hm : mm D (AZ z) M H := hm
    refine lv_astore (lv' := [(4, .ref a), (0, .ref h0), (1, .int id), (2, .int nm), (3, .int x)]) hx hb dX4_setEntry_5 hl (by decide) rfl (fun ls hl => ?_)
    refine lv_aload hx hb dX4_setEntry_7 (lv_at hl 0 rfl) ?_
    refine lv_ifnull hx hb dX4_setEntry_9 ?_
    refine lv_aload_n hx hb dX4_setEntry_12 rfl (lv_at hl 1 rfl) ?_
    refine lv_aload hx hb dX4_setEntry_13 (lv_at hl 0 rfl) ?_
    refine lv_iload_n hx hb dX4_setEntry_15 rfl (lv_at hl 3 rfl) ?_
    refine lv_iload_n hx hb dX4_setEntry_16 rfl (lv_at hl 4 rfl) ?_
    refine lv_aload hx hb dX4_setEntry_17 (lv_at hl 0 rfl) ?_
    refine m_get (T := TX2) (N := 4) (ci := 2) (v := .int v.2.2.1) hx hb hts wX2 hown hK hm hna rfl 2 (by decide) f39 (fun _ h9 => h9) rfl dX4_setEntry_19 ?_
    refine m_kV (As := [.int nm, .int x, .int v.2.2.1]) (rest := [.ref h0]) (rm := { frames := 2, cells := 2, slots := 68, locals := 40 }) ⟨hx, hb, hml, hown, hts⟩ (c_X2_withCell l D k z _ a ca (nlen v) v.1 v.2.1 v.2.2.1 v.2.2.2 (nlen_le v) hdr ne_ca_a hna hca nm x v.2.2.1) (cwV 3 hts gX4_setEntry_X2_withCell rfl rfl rfl (by decide +kernel) ⟨Nat.le_of_ble_eq_true rfl, Nat.le_of_ble_eq_true rfl⟩) (m_recv hK hm (q := (RX2, TX2, 4)) rfl hna) hz hcx hm hS rfl hl.1 rfl (Nat.le_of_ble_eq_true rfl) dX4_setEntry_22 ⟨Nat.le_of_ble_eq_true rfl, Nat.le_of_ble_eq_true rfl⟩ (fun v M1 H locs hv hm hS => ?_)
    obtain ⟨q, qa, hq, hqa, hneq, rfl, hM1⟩ := hv
    rw [show mu (mu M qa (.inl (k 0, nlen v, .inl (nd_set (nlen v) v.2.2.2 nm x)))) q (.inr (2, [.int v.1, .int v.2.1, .int v.2.2.1, .ref qa])) = madeM k M q qa (nvSet v nm x) from rfl] at hM1
    rw [hM1] at hm
    have hT2 : treeAt k (madeM k M q qa (nvSet v nm x)) h0 na g L := treeAt_made hT hq hqa hneq
    have hN2 : nodeAt k (madeM k M q qa (nvSet v nm x)) q (nvSet v nm x) := nodeAt_made hneq (nvSet v nm x) hdr
    refine W.eq (g2 := F0 m 25 ls [.ref q, .ref h0]) rfl ?_
    refine W.widen (k := 2) (n := 68) (Nat.le_of_ble_eq_true rfl) (Nat.le_of_ble_eq_true rfl) ?_
    have hm : mm D (AZ z) (madeM k M q qa (nvSet v nm x)) H := hm
    refine m_kV (As := [.ref q]) (rest := []) (rm := { frames := 1, cells := 0, slots := 0, locals := 24 }) ⟨hx, hb, hml, hown, hts⟩ (c_X4_put l D k z _ h0 na q g L (nvSet v nm x) hT2 hN2) (cwV 1 hts gX4_setEntry_X4_put rfl rfl rfl (by decide +kernel) ⟨Nat.le_of_ble_eq_true rfl, Nat.le_of_ble_eq_true rfl⟩) (m_recv hK hm (q := (RX4, TX4, 2)) rfl hT2.1) hz hcx hm hS rfl hl.1 rfl (Nat.le_of_ble_eq_true rfl) dX4_setEntry_25 ⟨Nat.le_of_ble_eq_true rfl, Nat.le_of_ble_eq_true rfl⟩ (fun v M1 H locs hv hm hS => ?_)
    obtain ⟨rfl, hM1⟩ := hv
    rw [hM1] at hm
    refine W.eq (g2 := F0 m 28 ls []) rfl ?_
    refine W.widen (k := 2) (n := 68) (Nat.le_of_ble_eq_true rfl) (Nat.le_of_ble_eq_true rfl) ?_
    have hm : mm D (AZ z) (putM k (madeM k M q qa (nvSet v nm x)) h0 na L g q (nvSet v nm x).1) H := hm
    refine W.vret hx hb hr (fun t ht hW => ⟨⟨none, _, rfl, ?_, by rw [ht]; exact hm⟩, hS.F ht⟩) hS.2.2 dX4_setEntry_28
    first
      | exact ⟨rfl, Or.inl ⟨hlk, rfl⟩⟩
      | exact ⟨rfl, Or.inr ⟨j, v, q, qa, hj, hLj, hid, hpl, hlk, hq, hqa, hneq, rfl⟩⟩
