def shI (n : Nat) : Int32 := nI (4 * n) + (-4)
theorem shI_s (n : Nat) : shI (n + 1) = nI (4 * n) := by
  show nI (4 * n + 4) + (-4) = nI (4 * n)
  rw [← nI_add (4 * n) 4, Int32.add_assoc]
  exact Int32.add_zero _
theorem crM_crM (k : Nat → ClassId) (M : mM) (c : Nat) (f f' : Nat → Int64) : crM k (crM k M c f) c f' = crM k M c f' := mu_mu _ _ _ _
theorem crM_id {k : Nat → ClassId} {M : mM} {c : Nat} {f : Nat → Int64} (h : M c = some (.inl (k 1, 60, .inr (.inl f)))) : crM k M c f = M := mu_id h
theorem crM_self {k : Nat → ClassId} {M : mM} {c : Nat} {f : Nat → Int64} : crM k M c f c = some (.inl (k 1, 60, .inr (.inl f))) := mu_self _ _ _
/-- a reference or null, and the node there -/
def curAt (k : Nat → ClassId) (M : mM) (r : Option Nat) (c : Option NV) : Prop := (r = none ∧ c = none) ∨ ∃ a w, r = some a ∧ c = some w ∧ nodeAt k M a w
/-- a path looked up: n digits are left, the node reached so far, the bits of what is READ -/
def upV (Lb Lv : List NV) (path : Int32) : Nat → Option NV → (Nat → Int64) → Option NV × (Nat → Int64)
  | 0, c, f => (c, f)
  | n + 1, c, f => if (path >>> (nI (4 * n) &&& 31)) &&& 15 = 0 then upV Lb Lv path n c f else match c with
    | none => upV Lb Lv path n none f
    | some w => if w.2.1 = 0 then upV Lb Lv path n none f else upV Lb Lv path n (lookL (ndc w ((path >>> (nI (4 * n) &&& 31)) &&& 15)) Lv) (lookF f Lb w ((path >>> (nI (4 * n) &&& 31)) &&& 15))
theorem curAt_find {k : Nat → ClassId} {M : mM} {t na : Nat} {g : Nat → Option Nat} {L : List NV} (id : Int32) (h : treeAt k M t na g L) : curAt k M (findA id g L) (lookL id L) := by
  rcases findA_cases id h with ⟨h1, h2, -⟩ | ⟨j, v, a, -, -, -, h2, -, h1, -, h3⟩
  · exact Or.inl ⟨h1, h2⟩
  · exact Or.inr ⟨a, v, h1, h2, h3⟩

set_option maxHeartbeats 4000000 in
set_option maxRecDepth 100000 in
theorem c_X3_lookUp (l : Launch) (D : va_G) (k : Nat → ClassId) (z : Nat) (M : mM) (x bs vw mk cr fr bn vn : Nat) (gb gv : Nat → Option Nat) (Lb Lv : List NV) (fc : Nat → Int64) (op md : Int32) (hX : M x = some (.inr (3, [.ref bs, .ref vw, .ref mk, .ref cr, .ref fr, .int op, .int md]))) (hB : treeAt k M bs bn gb Lb) (hV : treeAt k M vw vn gv Lv) (hC : M cr = some (.inl (k 1, 60, .inr (.inl fc)))) (path : Int32) : mK l yX3_lookUp wsX3_lookUp ({ frames := 3, cells := 0, slots := 0, locals := 75 }) D k z [.ref x, .int path] M (fun v M' => ∃ r, v = some (va_rf r) ∧ M' = crM k M cr (upV Lb Lv path 7 (lookL 1 Lv) fc).2 ∧ curAt k M' r (upV Lb Lv path 7 (lookL 1 Lv) fc).1) := by
  refine Met.ofW (cc := cX3_lookUp) (maxL := 5) (ret := (some (.object "CommitTree$Node"))) (by decide) rfl ?_
  intro p e s m args below meth c s₁ B hml hv
  obtain ⟨rfl, hz, hcx, hm⟩ := hv
  have hx := B.exec
  have hb := B.bytes
  have hr := B.returns
  have hts := atoms_spec (ws := wsX3_lookUp) B.pre
  have hown : s.vm.findClass RX3 = some m.cls := findClass_of_methodNamed B.named
  have hlocks := B.notSynchronized
  have hK := hcx.1
  have hS : va_S (AZ z) s.heap s.heap [] := va_S.rf
  have hA : ∀ q, s.heap.size ≤ q → AZ z q := fun q h => Nat.le_trans hz h
  have hl := lv_entry ([.ref x, .int path]) (n := 5) (Nat.le_of_ble_eq_true rfl)
  rw [lg_entry_eq]
  generalize (lg_sl ([.ref x, .int path]) ++ List.replicate (5 - (lg_sl ([.ref x, .int path])).length) Slot.unset).toArray = ls at hl ⊢
  have hl : lv_has ls 5 [(0, .ref x), (1, .int path)] := hl
  have f37 := hts (.fieldLink RX3 37 "CommitTree$Transaction" "view" "LCommitTree$Tree;") (by decide +kernel)
  have wX3 : ∀ w ∈ wsX30, w ∈ wsX3_lookUp := by decide +kernel
  refine lv_aload_n hx hb dX3_lookUp_0 rfl (lv_at hl 0 rfl) ?_
  refine m_get (T := TX3) (N := 7) (ci := 3) (v := .ref vw) hx hb hts wX3 hown hK hm hX rfl 1 (by decide) f37 (fun _ h9 => h9) rfl dX3_lookUp_1 ?_
  refine lv_iconst (v := 1) hx hb dX3_lookUp_4 (by decide) ?_
  refine m_kV (As := [.int 1]) (rest := []) (rm := { frames := 1, cells := 0, slots := 0, locals := 24 }) ⟨hx, hb, hml, hown, hts⟩ (c_X4_find l D k z _ vw vn gv Lv 1 hV) (cwV 1 hts gX3_lookUp_X4_find rfl rfl rfl (by decide +kernel) ⟨Nat.le_of_ble_eq_true rfl, Nat.le_of_ble_eq_true rfl⟩) (m_recv hK hm (q := (RX4, TX4, 2)) rfl hV.1) hz hcx hm hS rfl hl.1 rfl (Nat.le_of_ble_eq_true rfl) dX3_lookUp_5 ⟨Nat.le_of_ble_eq_true rfl, Nat.le_of_ble_eq_true rfl⟩ (fun v M1 H locs hv hm hS => ?_)
  obtain ⟨hv1, hM1⟩ := hv
  rw [hM1] at hm
  have hcf := curAt_find 1 hV
  rcases findA_cases 1 hV with ⟨hf, hlk, -⟩ | ⟨j9, v9, b, -, -, -, hlk, -, hf, -, hnd9⟩
  · rw [hf] at hv1 hcf
    subst hv1
    refine W.eq (g2 := F0 m 8 ls [.null]) rfl ?_
    refine W.widen (k := 0) (n := 0) (Nat.le_of_ble_eq_true rfl) (Nat.le_of_ble_eq_true rfl) ?_
    have hm : mm D (AZ z) M H := hm
    refine lv_astore_nN (lv' := [(2, .null), (0, .ref x), (1, .int path)]) hx hb dX3_lookUp_8 rfl hl (by decide) rfl (fun ls hl => ?_)
    refine lv_bipush (v := 24) hx hb dX3_lookUp_9 (by decide) ?_
    refine lv_istore_n (lv' := [(3, .int 24), (2, .null), (0, .ref x), (1, .int path)]) hx hb dX3_lookUp_11 rfl hl (by decide) rfl (fun ls hl => ?_)
    rw [← crM_id hC] at hm
    rw [show (24 : Int32) = shI 7 from (by decide)] at hl
    refine W_loop (σ := Nat × Option Nat × Option NV × (Nat → Int64)) (fun y H locs ls => y.1 ≤ 7 ∧ curAt k (crM k M cr y.2.2.2) y.2.1 y.2.2.1 ∧ upV Lb Lv path 7 (lookL 1 Lv) fc = upV Lb Lv path y.1 y.2.2.1 y.2.2.2 ∧ mm D (AZ z) (crM k M cr y.2.2.2) H ∧ va_S (AZ z) s.heap H locs ∧ lv_has ls 5 [(3, .int (shI y.1)), (2, va_rf y.2.1), (0, .ref x), (1, .int path)]) (fun y => y.1) (fun _ => 0) (fun _ => 0) ?_ (7, none, lookL 1 Lv, fc) _ _ _ ⟨Nat.le_refl 7, (by rw [crM_id hC]; exact hcf), rfl, hm, hS, lv_sub hl [0, 1, 2, 3] rfl⟩
    intro y H locs ls hI ih
    obtain ⟨n0, r, cu, f⟩ := y
    obtain ⟨hn, hcu, hup, hm, hS, hl⟩ := hI
    dsimp only at hn hcu hup hm hl ih ⊢
    have hXf := obj_cr (f' := f) hX hC
    have hBf := treeAt_cr (f' := f) hB hC
    have hVf := treeAt_cr (f' := f) hV hC
    have hCf : crM k M cr f cr = some (.inl (k 1, 60, .inr (.inl f))) := crM_self
    rcases hcu with ⟨rfl, rfl⟩ | ⟨a, w, rfl, rfl, hN⟩
    · have hl : lv_has ls 5 [(3, .int (shI n0)), (2, .null), (0, .ref x), (1, .int path)] := hl
      refine lv_iload_n hx hb dX3_lookUp_12 rfl (lv_at hl 0 rfl) ?_
      refine lv_if_lt (tgt := 43) hx hb dX3_lookUp_13 (by decide) (fun c1 => ?_) (fun c1 => ?_)
      · refine lv_aload_nN hx hb dX3_lookUp_43 rfl (lv_at hl 1 rfl) ?_
        refine W.aret (v := .null) hx hb hr (Or.inl ⟨_, rfl⟩) (Or.inl rfl) (fun t ht hW => ⟨⟨some (.null), _, rfl, ?_, by rw [ht]; exact hm⟩, hS.F ht⟩) hS.2.2 dX3_lookUp_44
        have he : n0 = 0 := by
          cases n0 with
          | zero => rfl
          | succ n => rw [shI_s] at c1; exact absurd c1 (nI_pos (by omega))
        subst he
        rw [hup]
        exact ⟨_, rfl, rfl, Or.inl ⟨rfl, rfl⟩⟩
      · obtain ⟨n, rfl⟩ : ∃ n, n0 = n + 1 := by
          cases n0 with
          | zero => exact absurd (show shI 0 < 0 by decide) c1
          | succ n => exact ⟨n, rfl⟩
        rw [shI_s] at hl
        refine lv_iload_n hx hb dX3_lookUp_16 rfl (lv_at hl 3 rfl) ?_
        refine lv_iload_n hx hb dX3_lookUp_17 rfl (lv_at hl 0 rfl) ?_
        refine lv_ishr hx hb dX3_lookUp_18 ?_
        refine lv_bipush (v := 15) hx hb dX3_lookUp_19 (by decide) ?_
        refine lv_iand hx hb dX3_lookUp_21 ?_
        refine lv_istore (lv' := [(4, .int ((path >>> ((nI (4 * n)) &&& 31)) &&& 15)), (3, .int (nI (4 * n))), (2, .null), (0, .ref x), (1, .int path)]) hx hb dX3_lookUp_22 hl (by decide) rfl (fun ls hl => ?_)
        refine lv_iload hx hb dX3_lookUp_24 (lv_at hl 0 rfl) ?_
        refine lv_if_eq (tgt := 37) hx hb dX3_lookUp_26 (by decide) (fun c2 => ?_) (fun c2 => ?_)
        · refine lv_iinc (v := ((nI (4 * n)) + (-4))) (lv' := [(3, .int ((nI (4 * n)) + (-4))), (4, .int ((path >>> ((nI (4 * n)) &&& 31)) &&& 15)), (2, .null), (0, .ref x), (1, .int path)]) hx hb dX3_lookUp_37 hl (k := 1) rfl rfl (by decide) rfl (fun ls hl => ?_)
          refine lv_goto (tgt := 12) hx hb dX3_lookUp_40 (by decide) ?_
          exact ih (n, none, none, f) _ _ _ ⟨by omega, Or.inl ⟨rfl, rfl⟩, (by rw [hup]; simp [upV, c2]), hm, hS, lv_sub hl [0, 2, 3, 4] rfl⟩ (by show n < n + 1; omega)
        · refine lv_aload_n hx hb dX3_lookUp_29 rfl (lv_at hl 3 rfl) ?_
          refine lv_aload_nN hx hb dX3_lookUp_30 rfl (lv_at hl 2 rfl) ?_
          refine lv_iload hx hb dX3_lookUp_31 (lv_at hl 0 rfl) ?_
          refine m_kV (As := [.null, .int ((path >>> ((nI (4 * n)) &&& 31)) &&& 15)]) (rest := []) (rm := { frames := 2, cells := 0, slots := 0, locals := 50 }) ⟨hx, hb, hml, hown, hts⟩ (c_X3_stepN l D k z _ x ((path >>> (nI (4 * n) &&& 31)) &&& 15)) (cwV 2 hts gX3_lookUp_X3_step rfl rfl rfl (by decide +kernel) ⟨Nat.le_of_ble_eq_true rfl, Nat.le_of_ble_eq_true rfl⟩) (m_recv hK hm (q := (RX3, TX3, 7)) rfl hXf) hz hcx hm hS rfl hl.1 rfl (Nat.le_of_ble_eq_true rfl) dX3_lookUp_33 ⟨Nat.le_of_ble_eq_true rfl, Nat.le_of_ble_eq_true rfl⟩ (fun v M1 H locs hv hm hS => ?_)
          obtain ⟨rfl, hM1⟩ := hv
          rw [hM1] at hm
          refine W.eq (g2 := F0 m 36 ls [.null]) rfl ?_
          refine W.widen (k := 0) (n := 0) (Nat.le_of_ble_eq_true rfl) (Nat.le_of_ble_eq_true rfl) ?_
          have hm : mm D (AZ z) (crM k M cr f) H := hm
          refine lv_astore_nN (lv' := [(2, .null), (4, .int ((path >>> ((nI (4 * n)) &&& 31)) &&& 15)), (3, .int (nI (4 * n))), (0, .ref x), (1, .int path)]) hx hb dX3_lookUp_36 rfl hl (by decide) rfl (fun ls hl => ?_)
          refine lv_iinc (v := ((nI (4 * n)) + (-4))) (lv' := [(3, .int ((nI (4 * n)) + (-4))), (2, .null), (4, .int ((path >>> ((nI (4 * n)) &&& 31)) &&& 15)), (0, .ref x), (1, .int path)]) hx hb dX3_lookUp_37 hl (k := 2) rfl rfl (by decide) rfl (fun ls hl => ?_)
          refine lv_goto (tgt := 12) hx hb dX3_lookUp_40 (by decide) ?_
          exact ih (n, none, none, f) _ _ _ ⟨by omega, Or.inl ⟨rfl, rfl⟩, (by rw [hup]; simp [upV, c2]), hm, hS, lv_sub hl [0, 1, 3, 4] rfl⟩ (by show n < n + 1; omega)
    · have hl : lv_has ls 5 [(3, .int (shI n0)), (2, .ref a), (0, .ref x), (1, .int path)] := hl
      refine lv_iload_n hx hb dX3_lookUp_12 rfl (lv_at hl 0 rfl) ?_
      refine lv_if_lt (tgt := 43) hx hb dX3_lookUp_13 (by decide) (fun c3 => ?_) (fun c3 => ?_)
      · refine lv_aload_n hx hb dX3_lookUp_43 rfl (lv_at hl 1 rfl) ?_
        refine W.aret (v := .ref a) hx hb hr (Or.inl ⟨_, rfl⟩) (Or.inr ⟨_, rfl⟩) (fun t ht hW => ⟨⟨some (.ref a), _, rfl, ?_, by rw [ht]; exact hm⟩, hS.F ht⟩) hS.2.2 dX3_lookUp_44
        have he : n0 = 0 := by
          cases n0 with
          | zero => rfl
          | succ n => rw [shI_s] at c3; exact absurd c3 (nI_pos (by omega))
        subst he
        rw [hup]
        exact ⟨_, rfl, rfl, Or.inr ⟨a, w, rfl, rfl, hN⟩⟩
      · obtain ⟨n, rfl⟩ : ∃ n, n0 = n + 1 := by
          cases n0 with
          | zero => exact absurd (show shI 0 < 0 by decide) c3
          | succ n => exact ⟨n, rfl⟩
        rw [shI_s] at hl
        refine lv_iload_n hx hb dX3_lookUp_16 rfl (lv_at hl 3 rfl) ?_
        refine lv_iload_n hx hb dX3_lookUp_17 rfl (lv_at hl 0 rfl) ?_
        refine lv_ishr hx hb dX3_lookUp_18 ?_
        refine lv_bipush (v := 15) hx hb dX3_lookUp_19 (by decide) ?_
        refine lv_iand hx hb dX3_lookUp_21 ?_
        refine lv_istore (lv' := [(4, .int ((path >>> ((nI (4 * n)) &&& 31)) &&& 15)), (3, .int (nI (4 * n))), (2, .ref a), (0, .ref x), (1, .int path)]) hx hb dX3_lookUp_22 hl (by decide) rfl (fun ls hl => ?_)
        refine lv_iload hx hb dX3_lookUp_24 (lv_at hl 0 rfl) ?_
        refine lv_if_eq (tgt := 37) hx hb dX3_lookUp_26 (by decide) (fun c4 => ?_) (fun c4 => ?_)
        · refine lv_iinc (v := ((nI (4 * n)) + (-4))) (lv' := [(3, .int ((nI (4 * n)) + (-4))), (4, .int ((path >>> ((nI (4 * n)) &&& 31)) &&& 15)), (2, .ref a), (0, .ref x), (1, .int path)]) hx hb dX3_lookUp_37 hl (k := 1) rfl rfl (by decide) rfl (fun ls hl => ?_)
          refine lv_goto (tgt := 12) hx hb dX3_lookUp_40 (by decide) ?_
          exact ih (n, some a, some w, f) _ _ _ ⟨by omega, Or.inr ⟨a, w, rfl, rfl, hN⟩, (by rw [hup]; simp [upV, c4]), hm, hS, lv_sub hl [0, 2, 3, 4] rfl⟩ (by show n < n + 1; omega)
        · refine lv_aload_n hx hb dX3_lookUp_29 rfl (lv_at hl 3 rfl) ?_
          refine lv_aload_n hx hb dX3_lookUp_30 rfl (lv_at hl 2 rfl) ?_
          refine lv_iload hx hb dX3_lookUp_31 (lv_at hl 0 rfl) ?_
          refine m_kV (As := [.ref a, .int ((path >>> ((nI (4 * n)) &&& 31)) &&& 15)]) (rest := []) (rm := { frames := 2, cells := 0, slots := 0, locals := 50 }) ⟨hx, hb, hml, hown, hts⟩ (c_X3_step l D k z _ x bs vw mk cr fr bn vn gb gv Lb Lv f op md hXf hBf hVf hCf a w ((path >>> (nI (4 * n) &&& 31)) &&& 15) hN) (cwV 2 hts gX3_lookUp_X3_step rfl rfl rfl (by decide +kernel) ⟨Nat.le_of_ble_eq_true rfl, Nat.le_of_ble_eq_true rfl⟩) (m_recv hK hm (q := (RX3, TX3, 7)) rfl hXf) hz hcx hm hS rfl hl.1 rfl (Nat.le_of_ble_eq_true rfl) dX3_lookUp_33 ⟨Nat.le_of_ble_eq_true rfl, Nat.le_of_ble_eq_true rfl⟩ (fun v M1 H locs hv hm hS => ?_)
          rcases hv with ⟨hw0, rfl, hM1⟩ | ⟨hw1, rfl, hM1⟩
          rotate_left
          rcases findA_cases (ndc w ((path >>> (nI (4 * n) &&& 31)) &&& 15)) hVf with ⟨hf, hlk, -⟩ | ⟨j9, v9, b, -, -, -, hlk, -, hf, -, hnd9⟩
          rotate_right
          · rw [hM1] at hm
            refine W.eq (g2 := F0 m 36 ls [.null]) rfl ?_
            refine W.widen (k := 0) (n := 0) (Nat.le_of_ble_eq_true rfl) (Nat.le_of_ble_eq_true rfl) ?_
            have hm : mm D (AZ z) (crM k M cr f) H := hm
            refine lv_astore_nN (lv' := [(2, .null), (4, .int ((path >>> ((nI (4 * n)) &&& 31)) &&& 15)), (3, .int (nI (4 * n))), (0, .ref x), (1, .int path)]) hx hb dX3_lookUp_36 rfl hl (by decide) rfl (fun ls hl => ?_)
            refine lv_iinc (v := ((nI (4 * n)) + (-4))) (lv' := [(3, .int ((nI (4 * n)) + (-4))), (2, .null), (4, .int ((path >>> ((nI (4 * n)) &&& 31)) &&& 15)), (0, .ref x), (1, .int path)]) hx hb dX3_lookUp_37 hl (k := 2) rfl rfl (by decide) rfl (fun ls hl => ?_)
            refine lv_goto (tgt := 12) hx hb dX3_lookUp_40 (by decide) ?_
            exact ih (n, none, none, f) _ _ _ ⟨by omega, Or.inl ⟨rfl, rfl⟩, (by rw [hup]; simp [upV, c4, hw0]), hm, hS, lv_sub hl [0, 1, 3, 4] rfl⟩ (by show n < n + 1; omega)
          · rw [hM1, crM_crM] at hm
            rw [hf]
            refine W.eq (g2 := F0 m 36 ls [.null]) rfl ?_
            refine W.widen (k := 0) (n := 0) (Nat.le_of_ble_eq_true rfl) (Nat.le_of_ble_eq_true rfl) ?_
            have hm : mm D (AZ z) (crM k M cr (lookF f Lb w ((path >>> (nI (4 * n) &&& 31)) &&& 15))) H := hm
            refine lv_astore_nN (lv' := [(2, .null), (4, .int ((path >>> ((nI (4 * n)) &&& 31)) &&& 15)), (3, .int (nI (4 * n))), (0, .ref x), (1, .int path)]) hx hb dX3_lookUp_36 rfl hl (by decide) rfl (fun ls hl => ?_)
            refine lv_iinc (v := ((nI (4 * n)) + (-4))) (lv' := [(3, .int ((nI (4 * n)) + (-4))), (2, .null), (4, .int ((path >>> ((nI (4 * n)) &&& 31)) &&& 15)), (0, .ref x), (1, .int path)]) hx hb dX3_lookUp_37 hl (k := 2) rfl rfl (by decide) rfl (fun ls hl => ?_)
            refine lv_goto (tgt := 12) hx hb dX3_lookUp_40 (by decide) ?_
            exact ih (n, none, none, (lookF f Lb w ((path >>> (nI (4 * n) &&& 31)) &&& 15))) _ _ _ ⟨by omega, Or.inl ⟨rfl, rfl⟩, (by rw [hup]; simp [upV, c4, hw1, hlk]), hm, hS, lv_sub hl [0, 1, 3, 4] rfl⟩ (by show n < n + 1; omega)
          · rw [hM1, crM_crM] at hm
            rw [hf]
            have hNb : nodeAt k (crM k M cr (lookF f Lb w ((path >>> (nI (4 * n) &&& 31)) &&& 15))) b v9 := crM_crM k M cr f _ ▸ nodeAt_cr hnd9 hCf
            refine W.eq (g2 := F0 m 36 ls [.ref b]) rfl ?_
            refine W.widen (k := 0) (n := 0) (Nat.le_of_ble_eq_true rfl) (Nat.le_of_ble_eq_true rfl) ?_
            have hm : mm D (AZ z) (crM k M cr (lookF f Lb w ((path >>> (nI (4 * n) &&& 31)) &&& 15))) H := hm
            refine lv_astore_n (lv' := [(2, .ref b), (4, .int ((path >>> ((nI (4 * n)) &&& 31)) &&& 15)), (3, .int (nI (4 * n))), (0, .ref x), (1, .int path)]) hx hb dX3_lookUp_36 rfl hl (by decide) rfl (fun ls hl => ?_)
            refine lv_iinc (v := ((nI (4 * n)) + (-4))) (lv' := [(3, .int ((nI (4 * n)) + (-4))), (2, .ref b), (4, .int ((path >>> ((nI (4 * n)) &&& 31)) &&& 15)), (0, .ref x), (1, .int path)]) hx hb dX3_lookUp_37 hl (k := 2) rfl rfl (by decide) rfl (fun ls hl => ?_)
            refine lv_goto (tgt := 12) hx hb dX3_lookUp_40 (by decide) ?_
            exact ih (n, some b, some v9, (lookF f Lb w ((path >>> (nI (4 * n) &&& 31)) &&& 15))) _ _ _ ⟨by omega, Or.inr ⟨b, v9, rfl, rfl, hNb⟩, (by rw [hup]; simp [upV, c4, hw1, hlk]), hm, hS, lv_sub hl [0, 1, 3, 4] rfl⟩ (by show n < n + 1; omega)
  · rw [hf] at hv1 hcf
    subst hv1
    refine W.eq (g2 := F0 m 8 ls [.ref b]) rfl ?_
    refine W.widen (k := 0) (n := 0) (Nat.le_of_ble_eq_true rfl) (Nat.le_of_ble_eq_true rfl) ?_
    have hm : mm D (AZ z) M H := hm
    refine lv_astore_n (lv' := [(2, .ref b), (0, .ref x), (1, .int path)]) hx hb dX3_lookUp_8 rfl hl (by decide) rfl (fun ls hl => ?_)
    refine lv_bipush (v := 24) hx hb dX3_lookUp_9 (by decide) ?_
    refine lv_istore_n (lv' := [(3, .int 24), (2, .ref b), (0, .ref x), (1, .int path)]) hx hb dX3_lookUp_11 rfl hl (by decide) rfl (fun ls hl => ?_)
    rw [← crM_id hC] at hm
    rw [show (24 : Int32) = shI 7 from (by decide)] at hl
    refine W_loop (σ := Nat × Option Nat × Option NV × (Nat → Int64)) (fun y H locs ls => y.1 ≤ 7 ∧ curAt k (crM k M cr y.2.2.2) y.2.1 y.2.2.1 ∧ upV Lb Lv path 7 (lookL 1 Lv) fc = upV Lb Lv path y.1 y.2.2.1 y.2.2.2 ∧ mm D (AZ z) (crM k M cr y.2.2.2) H ∧ va_S (AZ z) s.heap H locs ∧ lv_has ls 5 [(3, .int (shI y.1)), (2, va_rf y.2.1), (0, .ref x), (1, .int path)]) (fun y => y.1) (fun _ => 0) (fun _ => 0) ?_ (7, some b, lookL 1 Lv, fc) _ _ _ ⟨Nat.le_refl 7, (by rw [crM_id hC]; exact hcf), rfl, hm, hS, lv_sub hl [0, 1, 2, 3] rfl⟩
    intro y H locs ls hI ih
    obtain ⟨n0, r, cu, f⟩ := y
    obtain ⟨hn, hcu, hup, hm, hS, hl⟩ := hI
    dsimp only at hn hcu hup hm hl ih ⊢
    have hXf := obj_cr (f' := f) hX hC
    have hBf := treeAt_cr (f' := f) hB hC
    have hVf := treeAt_cr (f' := f) hV hC
    have hCf : crM k M cr f cr = some (.inl (k 1, 60, .inr (.inl f))) := crM_self
    rcases hcu with ⟨rfl, rfl⟩ | ⟨a, w, rfl, rfl, hN⟩
    · have hl : lv_has ls 5 [(3, .int (shI n0)), (2, .null), (0, .ref x), (1, .int path)] := hl
      refine lv_iload_n hx hb dX3_lookUp_12 rfl (lv_at hl 0 rfl) ?_
      refine lv_if_lt (tgt := 43) hx hb dX3_lookUp_13 (by decide) (fun c5 => ?_) (fun c5 => ?_)
      · refine lv_aload_nN hx hb dX3_lookUp_43 rfl (lv_at hl 1 rfl) ?_
        refine W.aret (v := .null) hx hb hr (Or.inl ⟨_, rfl⟩) (Or.inl rfl) (fun t ht hW => ⟨⟨some (.null), _, rfl, ?_, by rw [ht]; exact hm⟩, hS.F ht⟩) hS.2.2 dX3_lookUp_44
        have he : n0 = 0 := by
          cases n0 with
          | zero => rfl
          | succ n => rw [shI_s] at c5; exact absurd c5 (nI_pos (by omega))
        subst he
        rw [hup]
        exact ⟨_, rfl, rfl, Or.inl ⟨rfl, rfl⟩⟩
      · obtain ⟨n, rfl⟩ : ∃ n, n0 = n + 1 := by
          cases n0 with
          | zero => exact absurd (show shI 0 < 0 by decide) c5
          | succ n => exact ⟨n, rfl⟩
        rw [shI_s] at hl
        refine lv_iload_n hx hb dX3_lookUp_16 rfl (lv_at hl 3 rfl) ?_
        refine lv_iload_n hx hb dX3_lookUp_17 rfl (lv_at hl 0 rfl) ?_
        refine lv_ishr hx hb dX3_lookUp_18 ?_
        refine lv_bipush (v := 15) hx hb dX3_lookUp_19 (by decide) ?_
        refine lv_iand hx hb dX3_lookUp_21 ?_
        refine lv_istore (lv' := [(4, .int ((path >>> ((nI (4 * n)) &&& 31)) &&& 15)), (3, .int (nI (4 * n))), (2, .null), (0, .ref x), (1, .int path)]) hx hb dX3_lookUp_22 hl (by decide) rfl (fun ls hl => ?_)
        refine lv_iload hx hb dX3_lookUp_24 (lv_at hl 0 rfl) ?_
        refine lv_if_eq (tgt := 37) hx hb dX3_lookUp_26 (by decide) (fun c6 => ?_) (fun c6 => ?_)
        · refine lv_iinc (v := ((nI (4 * n)) + (-4))) (lv' := [(3, .int ((nI (4 * n)) + (-4))), (4, .int ((path >>> ((nI (4 * n)) &&& 31)) &&& 15)), (2, .null), (0, .ref x), (1, .int path)]) hx hb dX3_lookUp_37 hl (k := 1) rfl rfl (by decide) rfl (fun ls hl => ?_)
          refine lv_goto (tgt := 12) hx hb dX3_lookUp_40 (by decide) ?_
          exact ih (n, none, none, f) _ _ _ ⟨by omega, Or.inl ⟨rfl, rfl⟩, (by rw [hup]; simp [upV, c6]), hm, hS, lv_sub hl [0, 2, 3, 4] rfl⟩ (by show n < n + 1; omega)
        · refine lv_aload_n hx hb dX3_lookUp_29 rfl (lv_at hl 3 rfl) ?_
          refine lv_aload_nN hx hb dX3_lookUp_30 rfl (lv_at hl 2 rfl) ?_
          refine lv_iload hx hb dX3_lookUp_31 (lv_at hl 0 rfl) ?_
          refine m_kV (As := [.null, .int ((path >>> ((nI (4 * n)) &&& 31)) &&& 15)]) (rest := []) (rm := { frames := 2, cells := 0, slots := 0, locals := 50 }) ⟨hx, hb, hml, hown, hts⟩ (c_X3_stepN l D k z _ x ((path >>> (nI (4 * n) &&& 31)) &&& 15)) (cwV 2 hts gX3_lookUp_X3_step rfl rfl rfl (by decide +kernel) ⟨Nat.le_of_ble_eq_true rfl, Nat.le_of_ble_eq_true rfl⟩) (m_recv hK hm (q := (RX3, TX3, 7)) rfl hXf) hz hcx hm hS rfl hl.1 rfl (Nat.le_of_ble_eq_true rfl) dX3_lookUp_33 ⟨Nat.le_of_ble_eq_true rfl, Nat.le_of_ble_eq_true rfl⟩ (fun v M1 H locs hv hm hS => ?_)
          obtain ⟨rfl, hM1⟩ := hv
          rw [hM1] at hm
          refine W.eq (g2 := F0 m 36 ls [.null]) rfl ?_
          refine W.widen (k := 0) (n := 0) (Nat.le_of_ble_eq_true rfl) (Nat.le_of_ble_eq_true rfl) ?_
          have hm : mm D (AZ z) (crM k M cr f) H := hm
          refine lv_astore_nN (lv' := [(2, .null), (4, .int ((path >>> ((nI (4 * n)) &&& 31)) &&& 15)), (3, .int (nI (4 * n))), (0, .ref x), (1, .int path)]) hx hb dX3_lookUp_36 rfl hl (by decide) rfl (fun ls hl => ?_)
          refine lv_iinc (v := ((nI (4 * n)) + (-4))) (lv' := [(3, .int ((nI (4 * n)) + (-4))), (2, .null), (4, .int ((path >>> ((nI (4 * n)) &&& 31)) &&& 15)), (0, .ref x), (1, .int path)]) hx hb dX3_lookUp_37 hl (k := 2) rfl rfl (by decide) rfl (fun ls hl => ?_)
          refine lv_goto (tgt := 12) hx hb dX3_lookUp_40 (by decide) ?_
          exact ih (n, none, none, f) _ _ _ ⟨by omega, Or.inl ⟨rfl, rfl⟩, (by rw [hup]; simp [upV, c6]), hm, hS, lv_sub hl [0, 1, 3, 4] rfl⟩ (by show n < n + 1; omega)
    · have hl : lv_has ls 5 [(3, .int (shI n0)), (2, .ref a), (0, .ref x), (1, .int path)] := hl
      refine lv_iload_n hx hb dX3_lookUp_12 rfl (lv_at hl 0 rfl) ?_
      refine lv_if_lt (tgt := 43) hx hb dX3_lookUp_13 (by decide) (fun c7 => ?_) (fun c7 => ?_)
      · refine lv_aload_n hx hb dX3_lookUp_43 rfl (lv_at hl 1 rfl) ?_
        refine W.aret (v := .ref a) hx hb hr (Or.inl ⟨_, rfl⟩) (Or.inr ⟨_, rfl⟩) (fun t ht hW => ⟨⟨some (.ref a), _, rfl, ?_, by rw [ht]; exact hm⟩, hS.F ht⟩) hS.2.2 dX3_lookUp_44
        have he : n0 = 0 := by
          cases n0 with
          | zero => rfl
          | succ n => rw [shI_s] at c7; exact absurd c7 (nI_pos (by omega))
        subst he
        rw [hup]
        exact ⟨_, rfl, rfl, Or.inr ⟨a, w, rfl, rfl, hN⟩⟩
      · obtain ⟨n, rfl⟩ : ∃ n, n0 = n + 1 := by
          cases n0 with
          | zero => exact absurd (show shI 0 < 0 by decide) c7
          | succ n => exact ⟨n, rfl⟩
        rw [shI_s] at hl
        refine lv_iload_n hx hb dX3_lookUp_16 rfl (lv_at hl 3 rfl) ?_
        refine lv_iload_n hx hb dX3_lookUp_17 rfl (lv_at hl 0 rfl) ?_
        refine lv_ishr hx hb dX3_lookUp_18 ?_
        refine lv_bipush (v := 15) hx hb dX3_lookUp_19 (by decide) ?_
        refine lv_iand hx hb dX3_lookUp_21 ?_
        refine lv_istore (lv' := [(4, .int ((path >>> ((nI (4 * n)) &&& 31)) &&& 15)), (3, .int (nI (4 * n))), (2, .ref a), (0, .ref x), (1, .int path)]) hx hb dX3_lookUp_22 hl (by decide) rfl (fun ls hl => ?_)
        refine lv_iload hx hb dX3_lookUp_24 (lv_at hl 0 rfl) ?_
        refine lv_if_eq (tgt := 37) hx hb dX3_lookUp_26 (by decide) (fun c8 => ?_) (fun c8 => ?_)
        · refine lv_iinc (v := ((nI (4 * n)) + (-4))) (lv' := [(3, .int ((nI (4 * n)) + (-4))), (4, .int ((path >>> ((nI (4 * n)) &&& 31)) &&& 15)), (2, .ref a), (0, .ref x), (1, .int path)]) hx hb dX3_lookUp_37 hl (k := 1) rfl rfl (by decide) rfl (fun ls hl => ?_)
          refine lv_goto (tgt := 12) hx hb dX3_lookUp_40 (by decide) ?_
          exact ih (n, some a, some w, f) _ _ _ ⟨by omega, Or.inr ⟨a, w, rfl, rfl, hN⟩, (by rw [hup]; simp [upV, c8]), hm, hS, lv_sub hl [0, 2, 3, 4] rfl⟩ (by show n < n + 1; omega)
        · refine lv_aload_n hx hb dX3_lookUp_29 rfl (lv_at hl 3 rfl) ?_
          refine lv_aload_n hx hb dX3_lookUp_30 rfl (lv_at hl 2 rfl) ?_
          refine lv_iload hx hb dX3_lookUp_31 (lv_at hl 0 rfl) ?_
          refine m_kV (As := [.ref a, .int ((path >>> ((nI (4 * n)) &&& 31)) &&& 15)]) (rest := []) (rm := { frames := 2, cells := 0, slots := 0, locals := 50 }) ⟨hx, hb, hml, hown, hts⟩ (c_X3_step l D k z _ x bs vw mk cr fr bn vn gb gv Lb Lv f op md hXf hBf hVf hCf a w ((path >>> (nI (4 * n) &&& 31)) &&& 15) hN) (cwV 2 hts gX3_lookUp_X3_step rfl rfl rfl (by decide +kernel) ⟨Nat.le_of_ble_eq_true rfl, Nat.le_of_ble_eq_true rfl⟩) (m_recv hK hm (q := (RX3, TX3, 7)) rfl hXf) hz hcx hm hS rfl hl.1 rfl (Nat.le_of_ble_eq_true rfl) dX3_lookUp_33 ⟨Nat.le_of_ble_eq_true rfl, Nat.le_of_ble_eq_true rfl⟩ (fun v M1 H locs hv hm hS => ?_)
          rcases hv with ⟨hw0, rfl, hM1⟩ | ⟨hw1, rfl, hM1⟩
          rotate_left
          rcases findA_cases (ndc w ((path >>> (nI (4 * n) &&& 31)) &&& 15)) hVf with ⟨hf, hlk, -⟩ | ⟨j9, v9, b, -, -, -, hlk, -, hf, -, hnd9⟩
          rotate_right
          · rw [hM1] at hm
            refine W.eq (g2 := F0 m 36 ls [.null]) rfl ?_
            refine W.widen (k := 0) (n := 0) (Nat.le_of_ble_eq_true rfl) (Nat.le_of_ble_eq_true rfl) ?_
            have hm : mm D (AZ z) (crM k M cr f) H := hm
            refine lv_astore_nN (lv' := [(2, .null), (4, .int ((path >>> ((nI (4 * n)) &&& 31)) &&& 15)), (3, .int (nI (4 * n))), (0, .ref x), (1, .int path)]) hx hb dX3_lookUp_36 rfl hl (by decide) rfl (fun ls hl => ?_)
            refine lv_iinc (v := ((nI (4 * n)) + (-4))) (lv' := [(3, .int ((nI (4 * n)) + (-4))), (2, .null), (4, .int ((path >>> ((nI (4 * n)) &&& 31)) &&& 15)), (0, .ref x), (1, .int path)]) hx hb dX3_lookUp_37 hl (k := 2) rfl rfl (by decide) rfl (fun ls hl => ?_)
            refine lv_goto (tgt := 12) hx hb dX3_lookUp_40 (by decide) ?_
            exact ih (n, none, none, f) _ _ _ ⟨by omega, Or.inl ⟨rfl, rfl⟩, (by rw [hup]; simp [upV, c8, hw0]), hm, hS, lv_sub hl [0, 1, 3, 4] rfl⟩ (by show n < n + 1; omega)
          · rw [hM1, crM_crM] at hm
            rw [hf]
            refine W.eq (g2 := F0 m 36 ls [.null]) rfl ?_
            refine W.widen (k := 0) (n := 0) (Nat.le_of_ble_eq_true rfl) (Nat.le_of_ble_eq_true rfl) ?_
            have hm : mm D (AZ z) (crM k M cr (lookF f Lb w ((path >>> (nI (4 * n) &&& 31)) &&& 15))) H := hm
            refine lv_astore_nN (lv' := [(2, .null), (4, .int ((path >>> ((nI (4 * n)) &&& 31)) &&& 15)), (3, .int (nI (4 * n))), (0, .ref x), (1, .int path)]) hx hb dX3_lookUp_36 rfl hl (by decide) rfl (fun ls hl => ?_)
            refine lv_iinc (v := ((nI (4 * n)) + (-4))) (lv' := [(3, .int ((nI (4 * n)) + (-4))), (2, .null), (4, .int ((path >>> ((nI (4 * n)) &&& 31)) &&& 15)), (0, .ref x), (1, .int path)]) hx hb dX3_lookUp_37 hl (k := 2) rfl rfl (by decide) rfl (fun ls hl => ?_)
            refine lv_goto (tgt := 12) hx hb dX3_lookUp_40 (by decide) ?_
            exact ih (n, none, none, (lookF f Lb w ((path >>> (nI (4 * n) &&& 31)) &&& 15))) _ _ _ ⟨by omega, Or.inl ⟨rfl, rfl⟩, (by rw [hup]; simp [upV, c8, hw1, hlk]), hm, hS, lv_sub hl [0, 1, 3, 4] rfl⟩ (by show n < n + 1; omega)
          · rw [hM1, crM_crM] at hm
            rw [hf]
            have hNb : nodeAt k (crM k M cr (lookF f Lb w ((path >>> (nI (4 * n) &&& 31)) &&& 15))) b v9 := crM_crM k M cr f _ ▸ nodeAt_cr hnd9 hCf
            refine W.eq (g2 := F0 m 36 ls [.ref b]) rfl ?_
            refine W.widen (k := 0) (n := 0) (Nat.le_of_ble_eq_true rfl) (Nat.le_of_ble_eq_true rfl) ?_
            have hm : mm D (AZ z) (crM k M cr (lookF f Lb w ((path >>> (nI (4 * n) &&& 31)) &&& 15))) H := hm
            refine lv_astore_n (lv' := [(2, .ref b), (4, .int ((path >>> ((nI (4 * n)) &&& 31)) &&& 15)), (3, .int (nI (4 * n))), (0, .ref x), (1, .int path)]) hx hb dX3_lookUp_36 rfl hl (by decide) rfl (fun ls hl => ?_)
            refine lv_iinc (v := ((nI (4 * n)) + (-4))) (lv' := [(3, .int ((nI (4 * n)) + (-4))), (2, .ref b), (4, .int ((path >>> ((nI (4 * n)) &&& 31)) &&& 15)), (0, .ref x), (1, .int path)]) hx hb dX3_lookUp_37 hl (k := 2) rfl rfl (by decide) rfl (fun ls hl => ?_)
            refine lv_goto (tgt := 12) hx hb dX3_lookUp_40 (by decide) ?_
            exact ih (n, some b, some v9, (lookF f Lb w ((path >>> (nI (4 * n) &&& 31)) &&& 15))) _ _ _ ⟨by omega, Or.inr ⟨b, v9, rfl, rfl, hNb⟩, (by rw [hup]; simp [upV, c8, hw1, hlk]), hm, hS, lv_sub hl [0, 1, 3, 4] rfl⟩ (by show n < n + 1; omega)
