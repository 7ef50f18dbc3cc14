/-- words from c on, up to i, set to 0 -/
def cutG (f : Nat → Int32) (c i : Nat) : Nat → Int32 := fun j => if c ≤ j ∧ j < i then 0 else f j
theorem cutG_0 (f : Nat → Int32) (c : Nat) : cutG f c c = f := by
  funext j
  have h : ¬ (c ≤ j ∧ j < c) := by omega
  simp only [cutG, if_neg h]
theorem cutG_s {f : Nat → Int32} {c i : Nat} (h : c ≤ i) : upd (cutG f c i) i 0 = cutG f c (i + 1) := by
  funext j
  by_cases hj : j = i
  · subst hj
    have h1 : c ≤ j ∧ j < j + 1 := ⟨h, by omega⟩
    simp only [upd, cutG, if_pos h1, if_true]
  · by_cases h2 : c ≤ j ∧ j < i
    · have h3 : c ≤ j ∧ j < i + 1 := ⟨h2.1, by omega⟩
      simp only [upd, cutG, if_neg hj, if_pos h2, if_pos h3]
    · have h3 : ¬ (c ≤ j ∧ j < i + 1) := by omega
      simp only [upd, cutG, if_neg hj, if_neg h2, if_neg h3]
theorem cutG_e {f : Nat → Int32} {c i n : Nat} (h1 : i ≤ n ∨ i = c) (h2 : n ≤ i) : cutG f c i = cutG f c n := by
  funext j
  by_cases h : i = n
  · rw [h]
  · have hc : i = c := by omega
    have h3 : ¬ (c ≤ j ∧ j < i) := by omega
    have h4 : ¬ (c ≤ j ∧ j < n) := by omega
    simp only [cutG, if_neg h3, if_neg h4]

set_option maxHeartbeats 4000000 in
set_option maxRecDepth 100000 in
theorem c_X2_cutTo (l : Launch) (D : va_G) (k : Nat → ClassId) (z : Nat) (M : mM) (h0 ca n cu : Nat) (id dr sz : Int32) (f : Nat → Int32) (hn : n ≤ 64) (hc64 : cu ≤ 64) (hdr : dr = 0 ∨ dr = 1) (hne : ca ≠ h0) (ho : M h0 = some (.inr (2, [.int id, .int dr, .int sz, .ref ca]))) (ha : M ca = some (.inl (k 0, n, .inl f))) : mK l yX2_cutTo wsX2_cutTo ({ frames := 2, cells := 2, slots := 68, locals := 40 }) D k z [.ref h0, .int (nI cu)] M (fun v M' => ∃ q qa, M q = none ∧ M qa = none ∧ q ≠ qa ∧ v = some (.ref q) ∧ M' = mu (mu M qa (.inl (k 0, n, .inl (cutG f cu n)))) q (.inr (2, [.int id, .int dr, .int (nI cu), .ref qa]))) := by
  refine Met.ofW (cc := cX2_cutTo) (maxL := 4) (ret := (some (.object "CommitTree$Node"))) (by decide) rfl ?_
  intro p e s m args below meth c s₁ B hml hv
  obtain ⟨rfl, hz, hcx, hm⟩ := hv
  have hx := B.exec
  have hb := B.bytes
  have hr := B.returns
  have hts := atoms_spec (ws := wsX2_cutTo) B.pre
  have hown : s.vm.findClass RX2 = some m.cls := findClass_of_methodNamed B.named
  have hlocks := B.notSynchronized
  have hK := hcx.1
  have hS : va_S (AZ z) s.heap s.heap [] := va_S.rf
  have hA : ∀ q, s.heap.size ≤ q → AZ z q := fun q h => Nat.le_trans hz h
  have hl := lv_entry ([.ref h0, .int (nI cu)]) (n := 4) (Nat.le_of_ble_eq_true rfl)
  rw [lg_entry_eq]
  generalize (lg_sl ([.ref h0, .int (nI cu)]) ++ List.replicate (4 - (lg_sl ([.ref h0, .int (nI cu)])).length) Slot.unset).toArray = ls at hl ⊢
  have hl : lv_has ls 4 [(0, .ref h0), (1, .int (nI cu))] := hl
  have f9 := hts (.fieldLink RX2 9 "CommitTree$Node" "id" "I") (by decide +kernel)
  have f15 := hts (.fieldLink RX2 15 "CommitTree$Node" "directory" "Z") (by decide +kernel)
  have f22 := hts (.fieldLink RX2 22 "CommitTree$Node" "cells" "[I") (by decide +kernel)
  have wX2 : ∀ w ∈ wsX20, w ∈ wsX2_cutTo := by decide +kernel
  refine lv_aload_n hx hb dX2_cutTo_0 rfl (lv_at hl 0 rfl) ?_
  refine m_get (T := TX2) (N := 4) (ci := 2) (v := .ref ca) hx hb hts wX2 hown hK hm ho rfl 3 (by decide) f22 (fun _ h9 => h9) rfl dX2_cutTo_1 ?_
  refine m_clone hx hb (hml.trans hl.1.symm) (ad := "[I") hown (hts (.methodLink RX2 29 ⟨"[I", "clone", "()Ljava/lang/Object;"⟩) (by decide +kernel)) (hts (.sameMethod "[I" "java/lang/Object" "clone" "()Ljava/lang/Object;") (by decide +kernel)) (hts (.native ⟨"java/lang/Object", "clone", "()Ljava/lang/Object;"⟩) (by decide +kernel)) (hts (.instanceMethod ⟨"java/lang/Object", "clone", "()Ljava/lang/Object;"⟩) (by decide +kernel)) (hts (.selects "[I" ⟨"[I", "clone", "()Ljava/lang/Object;"⟩ ⟨"java/lang/Object", "clone", "()Ljava/lang/Object;"⟩) (by decide +kernel)) hcx.2.2.2.1.2 hK hm hS hA 0 (x := (n, .inl f)) (ty := .int) ha rfl (va_nm_int (hK.2 0 _ rfl).2) (fun i v hv => va_fit (ty := .int) (F := fun j => .int (f j)) (fun i _ => rfl) i v hv) (Nat.le_of_ble_eq_true rfl) (Nat.le_of_ble_eq_true rfl) (Nat.le_of_ble_eq_true rfl) (show 0 + n ≤ 68 by omega) dX2_cutTo_4 (fun qa H hqa hm hS => ?_)
  refine W.widen (k := 1) (n := 64) (Nat.le_of_ble_eq_true rfl) (show 0 + n ≤ 64 by omega) ?_
  have ne_h0_qa : h0 ≠ qa := m_fr hqa ho
  have ne_qa_h0 : qa ≠ h0 := Ne.symm ne_h0_qa
  have ne_ca_qa : ca ≠ qa := m_fr hqa ha
  have ne_qa_ca : qa ≠ ca := Ne.symm ne_ca_qa
  have hm : mm D (AZ z) (mu M qa (.inl (k 0, n, .inl f))) H := hm
  refine m_castA hx hb hown (hts (.classLink RX2 30 "[I") (by decide +kernel)) hm (mu_self _ _ _) (va_nm_int (hK.2 0 _ rfl).2) dX2_cutTo_7 ?_
  refine lv_astore_n (lv' := [(2, .ref qa), (0, .ref h0), (1, .int (nI cu))]) hx hb dX2_cutTo_10 rfl hl (by decide) rfl (fun ls hl => ?_)
  refine lv_iload_n hx hb dX2_cutTo_11 rfl (lv_at hl 2 rfl) ?_
  refine lv_iconst (v := 0) hx hb dX2_cutTo_12 (by decide) ?_
  refine va_mmax hx hb (hml.trans hl.1.symm) hown (hts (.methodLink RX2 34 Lib.Math.max.name) (by decide +kernel)) (hts (.static Lib.Math.max.name) (by decide +kernel)) (hts (.initialized "java/lang/Math") (by decide +kernel)) (hts (.code Lib.Math.max.name Lib.Math.max.code 2 (some .int)) (by decide +kernel)) (Nat.le_of_ble_eq_true rfl) (Nat.le_of_ble_eq_true rfl) (Nat.le_of_ble_eq_true rfl) (Nat.le_of_ble_eq_true rfl) dX2_cutTo_13 ?_
  refine W.eq (g2 := F0 m 16 ls [.int (nI cu)]) (by rw [if_neg (nI_pos (by omega))]) ?_
  refine lv_istore_n (lv' := [(3, .int (nI cu)), (2, .ref qa), (0, .ref h0), (1, .int (nI cu))]) hx hb dX2_cutTo_16 rfl hl (by decide) rfl (fun ls hl => ?_)
  rw [← cutG_0 f cu] at hm
  refine W_loop (σ := Nat) (fun i H locs ls => (cu ≤ i ∧ (i ≤ n ∨ i = cu)) ∧ mm D (AZ z) (mu M qa (.inl (k 0, n, .inl (cutG f cu i)))) H ∧ va_S (AZ z) s.heap H locs ∧ lv_has ls 4 [(3, .int (nI i)), (0, .ref h0), (1, .int (nI cu)), (2, .ref qa)]) (fun i => 64 - i) (fun i => 1) (fun i => 64) ?_ cu _ _ _ ⟨⟨Nat.le_refl _, Or.inr rfl⟩, hm, hS, lv_sub hl [0, 2, 3, 1] rfl⟩
  intro i H locs ls hI ih17
  obtain ⟨hi, hm, hS, hl⟩ := hI
  try dsimp only at hm hl ih17 ⊢
  refine lv_iload_n hx hb dX2_cutTo_17 rfl (lv_at hl 0 rfl) ?_
  refine lv_aload_n hx hb dX2_cutTo_18 rfl (lv_at hl 3 rfl) ?_
  refine m_alen hx hb hK hm 0 (mu_self _ _ _) rfl (v := nI n) rfl dX2_cutTo_19 ?_
  refine lv_icmp_ge (tgt := 33) hx hb dX2_cutTo_20 (by decide) (fun c2 => ?_) (fun c2 => ?_)
  · refine m_new (T := TX2) (N := 4) (ci := 2) (fs := [.int 0, .int 0, .int 0, .null]) hx hb hts wX2 tyX2 tyX2_ok hown (hts (.classLink RX2 10 RX2) (by decide +kernel)) (hts (.instantiable RX2 4) (by decide +kernel)) (hts (.initialized RX2) (by decide +kernel)) hK hm hS hA rfl (fun j hj => by rcases (show j = 0 ∨ j = 1 ∨ j = 2 ∨ j = 3 by omega) with rfl | rfl | rfl | rfl <;> rfl) (Nat.le_of_ble_eq_true rfl) (Nat.le_of_ble_eq_true rfl) dX2_cutTo_33 (fun q H hq hm hS => ?_)
    refine W.widen (k := 2) (n := 68) (Nat.le_of_ble_eq_true rfl) (Nat.le_of_ble_eq_true rfl) ?_
    have ne_h0_q : h0 ≠ q := m_fr hq ((mu_ne ne_h0_qa).trans ho)
    have ne_q_h0 : q ≠ h0 := Ne.symm ne_h0_q
    have ne_ca_q : ca ≠ q := m_fr hq ((mu_ne ne_ca_qa).trans ha)
    have ne_q_ca : q ≠ ca := Ne.symm ne_ca_q
    have ne_qa_q : qa ≠ q := m_fr hq (mu_self _ _ _)
    have ne_q_qa : q ≠ qa := Ne.symm ne_qa_q
    have hm : mm D (AZ z) (mu (mu M qa (.inl (k 0, n, .inl (cutG f cu i)))) q (.inr (2, [.int 0, .int 0, .int 0, .null]))) H := hm
    refine lv_dup hx hb dX2_cutTo_36 rfl ?_
    refine lv_aload_n hx hb dX2_cutTo_37 rfl (lv_at hl 1 rfl) ?_
    refine m_get (T := TX2) (N := 4) (ci := 2) (v := .int id) hx hb hts wX2 hown hK hm ((mu_ne ne_h0_q).trans ((mu_ne ne_h0_qa).trans ho)) rfl 0 (by decide) f9 (fun _ h9 => h9) rfl dX2_cutTo_38 ?_
    refine lv_aload_n hx hb dX2_cutTo_41 rfl (lv_at hl 1 rfl) ?_
    refine m_get (T := TX2) (N := 4) (ci := 2) (v := .int dr) hx hb hts wX2 hown hK hm ((mu_ne ne_h0_q).trans ((mu_ne ne_h0_qa).trans ho)) rfl 1 (by decide) f15 (fun _ h9 => h9) rfl dX2_cutTo_42 ?_
    refine lv_iload_n hx hb dX2_cutTo_45 rfl (lv_at hl 2 rfl) ?_
    refine lv_aload_n hx hb dX2_cutTo_46 rfl (lv_at hl 3 rfl) ?_
    refine m_kI (As := [.int id, .int dr, .int (nI cu), .ref qa]) (rest := [.ref q]) (rm := { frames := 1, cells := 0, slots := 0, locals := 12 }) ⟨hx, hb, hml, hown, hts⟩ (c_X2_init l D k z _ q qa id dr (nI cu) hdr (mu_self _ _ _)) (cwI 4 hts gX2_cutTo_X2_init rfl rfl rfl (hts (.initialized RX2) (by decide +kernel)) (hts (.methodLink RX2 26 yX2_init) (by decide +kernel)) (hts (.instanceMethod yX2_init) (by decide +kernel)) rfl (by decide +kernel) ⟨Nat.le_of_ble_eq_true rfl, Nat.le_of_ble_eq_true rfl⟩) hz hcx hm hS rfl hl.1 rfl (Nat.le_of_ble_eq_true rfl) dX2_cutTo_47 ⟨Nat.le_of_ble_eq_true rfl, Nat.le_of_ble_eq_true rfl⟩ (fun v M1 H locs hv hm hS => ?_)
    obtain ⟨rfl, rfl⟩ := hv
    refine W.eq (g2 := F0 m 50 ls [.ref q]) rfl ?_
    refine W.widen (k := 2) (n := 68) (Nat.le_of_ble_eq_true rfl) (Nat.le_of_ble_eq_true rfl) ?_
    have hm : mm D (AZ z) (mu (mu (mu M qa (.inl (k 0, n, .inl (cutG f cu i)))) q (.inr (2, [.int 0, .int 0, .int 0, .null]))) q (.inr (2, [.int id, .int dr, .int (nI cu), .ref qa]))) H := hm
    refine W.aret (v := .ref q) hx hb hr (Or.inl ⟨_, rfl⟩) (Or.inr ⟨_, rfl⟩) (fun t ht hW => ⟨⟨some (.ref q), _, rfl, ?_, by rw [ht]; exact hm⟩, hS.F ht⟩) hS.2.2 dX2_cutTo_50
    refine ⟨q, qa, (mu_ne ne_q_qa).symm.trans hq, hqa, ne_q_qa, rfl, ?_⟩
    rw [mu_mu, cutG_e hi.2 ((nI_leI (by omega) (by omega)).mp c2)]
  · have hlt9 : i < n := Nat.lt_of_not_le fun q => c2 (nI_le q (by omega))
    have hcl : (nI i).toNatClampNeg = i := nI_clamp (by omega)
    refine lv_aload_n hx hb dX2_cutTo_23 rfl (lv_at hl 3 rfl) ?_
    refine lv_iload_n hx hb dX2_cutTo_24 rfl (lv_at hl 0 rfl) ?_
    refine lv_iconst (v := 0) hx hb dX2_cutTo_25 (by decide) ?_
    refine m_iast hx hb hK hm hS 0 (mu_self _ _ _) rfl (vp_in_nI hlt9 (by omega)) dX2_cutTo_26 (fun H locs hm hS => ?_)
    have hm : mm D (AZ z) (mu (mu M qa (.inl (k 0, n, .inl (cutG f cu i)))) qa (.inl (k 0, n, .inl (upd (cutG f cu i) ((nI i)).toNatClampNeg 0)))) H := hm
    refine lv_iinc (v := ((nI i) + 1)) (lv' := [(3, .int ((nI i) + 1)), (0, .ref h0), (1, .int (nI cu)), (2, .ref qa)]) hx hb dX2_cutTo_27 hl (k := 0) rfl rfl (by decide) rfl (fun ls hl => ?_)
    refine lv_goto (tgt := 17) hx hb dX2_cutTo_30 (by decide) ?_
    rw [nI_1] at hl
    rw [hcl, cutG_s hi.1, mu_mu] at hm
    exact ih17 (i + 1) _ _ _ ⟨⟨by omega, Or.inl (by omega)⟩, hm, hS, lv_sub hl [0, 1, 2, 3] rfl⟩ (by omega)
